theorem fb_rng0 (x : Int32) : -2147483648 ≤ x.toInt ∧ x.toInt < 2147483648 := ⟨Int32.le_toInt x, Int32.toInt_lt x⟩
abbrev mTd (a : Int32) : Prop := mRg a (-1000) 1000
abbrev lrem (x y : Int64) : Int64 := x - x / y * y
abbrev mRest (x : Int64) (b : Nat) : Int32 := (lrem (lrem x (nI b).toInt64 + (nI b).toInt64) (nI b).toInt64).toInt32
def mFloor (x y : Int64) : Int64 := if x < 0 ∧ ¬ lrem x y = 0 then x / y - 1 else x / y
def mAbs (x : Int64) : Int64 := if x < 0 then -x else x
def mEu (x y : Int64) : Nat → Int64 × Int64
  | 0 => (x, y)
  | n + 1 => ((mEu x y n).2, lrem (mEu x y n).1 (mEu x y n).2)
theorem mEu_s (x y : Int64) : ∀ n, mEu x y (n + 1) = mEu y (lrem x y) n
  | 0 => rfl
  | n + 1 => by
    have h := mEu_s x y n
    show ((mEu x y (n + 1)).2, lrem (mEu x y (n + 1)).1 (mEu x y (n + 1)).2) = _
    rw [h]
    rfl
theorem mEu_gcd : ∀ (b a : Nat), a < 2 ^ 63 → b < 2 ^ 63 → ∃ N, (∀ i, i < N → ¬ (mEu (lN a) (lN b) i).2 = 0) ∧ mEu (lN a) (lN b) N = (lN (Nat.gcd a b), 0) := by
  intro b
  induction b using Nat.strongRecOn with
  | _ b ih =>
    intro a ha hb
    rcases Nat.eq_zero_or_pos b with h0 | h0
    · subst h0
      exact ⟨0, fun i hi => absurd hi (Nat.not_lt_zero _), by simp [mEu]; rfl⟩
    · have hr : lrem (lN a) (lN b) = lN (a % b) := pk_lRem ha h0 hb
      obtain ⟨N, h1, h2⟩ := ih (a % b) (Nat.mod_lt _ h0) b hb (Nat.lt_trans (Nat.mod_lt _ h0) hb)
      refine ⟨N + 1, fun i hi => ?_, ?_⟩
      · cases i with
        | zero =>
          intro q
          have := (pk_lEQ (b := 0) hb (by omega)).mp q
          omega
        | succ i => rw [mEu_s, hr]; exact h1 i (by omega)
      · rw [mEu_s, hr, h2, Nat.gcd_comm a b, Nat.gcd_comm b (a % b), ← Nat.gcd_rec]
theorem mAbs_at (p : Int32) : mAbs p.toInt64 = lN p.toInt.natAbs := by
  have h1 := fb_rng0 p
  apply Int64.toInt_inj.mp
  unfold mAbs
  rw [pk_lT (by omega)]
  split
  · rename_i h
    rw [Int64.lt_iff_toInt_lt, Int32.toInt_toInt64, show (0 : Int64).toInt = 0 from rfl] at h
    rw [Int64.toInt_neg, Int32.toInt_toInt64, Int.bmod_eq_of_le] <;> omega
  · rename_i h
    rw [Int64.lt_iff_toInt_lt, Int32.toInt_toInt64, show (0 : Int64).toInt = 0 from rfl] at h
    rw [Int32.toInt_toInt64]; omega
theorem mGcd_at (p q : Int32) : ∃ N, (∀ i, i < N → ¬ (mEu (mAbs p.toInt64) (mAbs q.toInt64) i).2 = 0) ∧ mEu (mAbs p.toInt64) (mAbs q.toInt64) N = (lN (Nat.gcd p.toInt.natAbs q.toInt.natAbs), 0) := by
  rw [mAbs_at, mAbs_at]
  have h1 := fb_rng0 p
  have h2 := fb_rng0 q
  exact mEu_gcd _ _ (by omega) (by omega)
abbrev mFr (p q : Int32) (lo : Int) : Prop := mRg p (-1000000000) 1000000000 ∧ mRg q lo 1000000000 ∧ Nat.gcd p.toInt.natAbs q.toInt.natAbs = 1
abbrev mCross (p q r s : Int32) : Int64 := p.toInt64 * s.toInt64 - q.toInt64 * r.toInt64
def mFord (x : Int64) : Int32 := if x = 0 then nI 2 else if x = 1 ∨ x = -1 then nI 1 else nI 0
theorem mGcd_1 {n : Nat} (h : n < 2 ^ 63) : lN n = 1 ↔ n = 1 := pk_lEQ (b := 1) h (by omega)
theorem mGcd_lt (p q : Int32) : Nat.gcd p.toInt.natAbs q.toInt.natAbs < 2 ^ 63 := by
  have h1 := fb_rng0 p
  have h2 := fb_rng0 q
  rcases Nat.eq_zero_or_pos p.toInt.natAbs with h0 | h0
  · rw [h0, Nat.gcd_zero_left]; omega
  · have := Nat.gcd_le_left q.toInt.natAbs h0
    omega
def mCopy (g src : Nat → Int64) (off : Nat) : Nat → Nat → Int64
  | 0 => g
  | n + 1 => vp_updL (mCopy g src off n) n (src (off + n))
abbrev mTl (a b c d : Int32) : Prop := mTd a ∧ mTd b ∧ mTd c ∧ mTd d ∧ a * d - b * c = nI 1
abbrev mRl (x : Int64) : Prop := (-1000000000) ≤ x ∧ x ≤ 1000000000
theorem vp_selfL (g : Nat → Int64) (k : Nat) : vp_updL g k (g k) = g := by
  funext j
  unfold vp_updL
  split
  · rename_i h; rw [h]
  · rfl
def mKind (W : Nat → Int64) : Nat := if W 1 = 0 ∧ W 2 = 0 ∧ W 0 = W 3 then 0 else if (-1) ≤ W 0 + W 3 ∧ W 0 + W 3 ≤ 1 then 1 else if (-2) ≤ W 0 + W 3 ∧ W 0 + W 3 ≤ 2 then 2 else 3
abbrev mTop (W : Nat → Int64) (p q : Int32) : Int64 := W 0 * p.toInt64 + W 1 * q.toInt64
abbrev mBot (W : Nat → Int64) (p q : Int32) : Int64 := W 2 * p.toInt64 + W 3 * q.toInt64
abbrev mTurn (W : Nat → Int64) (p q : Int32) : Prop := mBot W p q < 0 ∨ mBot W p q = 0 ∧ mTop W p q < 0
def mHome (W : Nat → Int64) : Nat → Nat → Int64
  | 0 => W
  | k + 1 => vp_updL (mHome W k) k (if k % 3 = 0 then 1 else 0)
