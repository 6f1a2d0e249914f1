def mHB (en ot : Nat → Nat) (n w fr to its : Nat) (s : Nat) : Bool := match mPB en ot n s w with
  | none => false
  | some x => decide (x.2 = nI 2) && (!decide (x.1 fr = x.1 to) && decide (x.1 its = x.1 fr))
theorem mHB_0 {en ot : Nat → Nat} {n w fr to its s : Nat} (h : ¬ mPV en ot n w s = nI 2) : ¬ mHB en ot n w fr to its s = true := by
  unfold mPV at h
  unfold mHB
  cases hx : mPB en ot n s w with
  | none => simp
  | some x => rw [hx] at h; simp only at h; simp [h]
theorem mHB_x {en ot : Nat → Nat} {n w s : Nat} (h : mPV en ot n w s = nI 2) : ∃ x, mPB en ot n s w = some x ∧ x.2 = nI 2 := by
  unfold mPV at h
  cases hx : mPB en ot n s w with
  | none => rw [hx] at h; exact absurd h (by decide)
  | some x => rw [hx] at h; exact ⟨x, rfl, h⟩
theorem mHB_1 {en ot : Nat → Nat} {n w fr to its s : Nat} {x : (Nat → Nat) × Int32} (h : mPB en ot n s w = some x) (h2 : x.2 = nI 2) : mHB en ot n w fr to its s = true ↔ (¬ x.1 fr = x.1 to ∧ x.1 its = x.1 fr) := by
  unfold mHB
  rw [h]
  simp [h2]
abbrev mHeight (en ot : Nat → Nat) (n w fr to its : Nat) : Nat := kCnt (fun s9 => mHB en ot n w fr to its s9 = true) (2 ^ w)
abbrev mSv (a b c9 : Int32) (n w : Nat) : Prop := mIn a n ∧ mIn b n ∧ (c9 = -1 ∨ mIn c9 w)
/-- the first greatest of the k + 1 first -/
def mBest (g : Nat → Int64) : Nat → Nat
  | 0 => 0
  | k + 1 => if g (mBest g k) < g (k + 1) then k + 1 else mBest g k
theorem mBest_le (g : Nat → Int64) : ∀ k, mBest g k ≤ k
  | 0 => Nat.le_refl 0
  | k + 1 => by
    have := mBest_le g k
    simp only [mBest]
    split <;> omega
def mLow (g : Nat → Int64) (v : Nat) : Int64 := if g v < g (v + 1) then g v else g (v + 1)
def mSw (g : Nat → Int64) (v : Nat) : Nat → Int64 := vp_updL (vp_updL g (v + 1) (g v + g (v + 1) - mLow g v)) v (mLow g v)
def mPass (g : Nat → Int64) : Nat → Nat → Int64
  | 0 => g
  | v + 1 => mSw (mPass g v) v
def mSortP (g : Nat → Int64) : Nat → Nat → Int64
  | 0 => g
  | u + 1 => mPass (mSortP g u) 3
/-- one step to the root -/
abbrev mLess (g : Nat → Int64) : Prop := mTurned g 0 (mBest g 3) < g (mBest g 3)
abbrev mDown (g : Nat → Int64) : Nat → Int64 := vp_updL g (mBest g 3) (mTurned g 0 (mBest g 3))
/-- N steps to the root from the four at t -/
def mRun (g : Nat → Int64) : Nat → Nat → Int64
  | 0 => g
  | i + 1 => mDown (mRun g i)
abbrev mRooted (g : Nat → Int64) (N : Nat) : Prop := (∀ i, i < N → mLess (mRun g i)) ∧ ¬ mLess (mRun g N)
abbrev mRoot (b8 b9 : Nat → Int64) (t N : Nat) : Nat → Int64 := mSortP (mRun (mCopy b9 b8 (4 * t) 4) N) 3
