theorem kbI_and {P R : Prop} [Decidable P] [Decidable R] : kbI P &&& kbI R = kbI (P ∧ R) := by
  by_cases h1 : P <;> by_cases h2 : R <;> simp [kbI, h1, h2] <;> decide
theorem kCs.one {f : kH} {a : Nat} {e : va_E} (h : f a = some e) : kCs f [(a, e)] := ⟨fun q hq => by rw [List.mem_singleton.mp hq]; exact h, by simp⟩
abbrev mDisk (x y r : Int32) : Prop := mRg x (-1000000000) 1000000000 ∧ mRg y (-1000000000) 1000000000 ∧ mRg r (1) 1000000000
def kLie (far bb : Int64) : Int32 := if bb < far then nI 0 else if far = bb then nI 1 else nI 2
abbrev kFar (x1 x2 y1 y2 : Int64) : Int64 := (x1 - x2) * (x1 - x2) + (y1 - y2) * (y1 - y2)
abbrev kBB (r1 r2 : Int64) : Int64 := (r1 + r2) * (r1 + r2)
abbrev mLies (a4 a5 a6 : Nat → Int32) (i j : Nat) : Int32 := kLie (kFar (a4 i).toInt64 (a4 j).toInt64 (a5 i).toInt64 (a5 j).toInt64) (kBB (a6 i).toInt64 (a6 j).toInt64)
abbrev mDrawP (a2 a4 a5 a6 : Nat → Int32) (F u v : Nat) : Prop := mLies a4 a5 a6 u v = if mAdj a2 F (nI u) (nI v) then nI 1 else nI 0
abbrev mDr (a2 a4 a5 a6 : Nat → Int32) (F cc d n : Nat) : Prop := d = cc ∧ ∀ u, u < n → ∀ v, v < u → mDrawP a2 a4 a5 a6 F u v
abbrev mCv (a : Int32) : Prop := mRg a (-1000000) 1000000
abbrev mSm (a b c d : Int32) : Int64 := a.toInt64 + b.toInt64 + c.toInt64 + d.toInt64
abbrev mSq (a b c d : Int32) : Int64 := a.toInt64 * a.toInt64 + b.toInt64 * b.toInt64 + c.toInt64 * c.toInt64 + d.toInt64 * d.toInt64
abbrev mGk (a b c d : Int32) : Prop := mCv a ∧ mCv b ∧ mCv c ∧ mCv d ∧ mSm a b c d * mSm a b c d = 2 * mSq a b c d ∧ 0 < mSm a b c d
abbrev mTurned (g : Nat → Int64) (at9 pl : Nat) : Int64 := 2 * (g at9 + g (at9 + 1) + g (at9 + 2) + g (at9 + 3) - g (at9 + pl)) - g (at9 + pl)
