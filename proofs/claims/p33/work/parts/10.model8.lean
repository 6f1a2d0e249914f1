/-- the four behind a turn at p -/
def mTrn (g : Nat → Int64) (p : Nat) : Nat → Int64 := fun k => if k = p then mTurned g 0 p else g k
/-- over the r last places: one more, and what T counts behind it, where the place is not la and the turn stays within the bound -/
def mTJ (T : (Nat → Int64) → Nat → Nat) (bd : Int64) (g : Nat → Int64) (la : Nat) : Nat → Nat
  | 0 => 0
  | r + 1 => (if ¬ 3 - r = la ∧ ¬ bd < mTurned g 0 (3 - r) then 1 + T (mTrn g (3 - r)) (3 - r) else 0) + mTJ T bd g la r
def mTree (bd : Int64) : Nat → (Nat → Int64) → Nat → Nat
  | 0 => fun _ _ => 0
  | n + 1 => fun g la => mTJ (mTree bd n) bd g la 4
def mFin (bd : Int64) : Nat → (Nat → Int64) → Nat → Prop
  | 0 => fun _ _ => False
  | n + 1 => fun g la => ∀ p, p < 4 → ¬ p = la → ¬ bd < mTurned g 0 p → mFin bd n (mTrn g p) p
theorem mTree_m1 {bd : Int64} {m : Nat} {g : Nat → Int64} {la : Nat} (h : mFin bd m g la) : mTJ (mTree bd (m - 1)) bd g la (4 - 0) = mTree bd m g la := by
  cases m with
  | zero => exact h.elim
  | succ m => rfl
theorem mTJ_no {T : (Nat → Int64) → Nat → Nat} {bd : Int64} {g : Nat → Int64} {la j : Nat} (hj : j < 4) (h : ¬ (¬ j = la ∧ ¬ bd < mTurned g 0 j)) : mTJ T bd g la (4 - j) = mTJ T bd g la (4 - (j + 1)) := by
  rw [show 4 - j = (4 - (j + 1)) + 1 by omega]
  simp only [mTJ]
  rw [show 3 - (4 - (j + 1)) = j by omega, if_neg h, Nat.zero_add]
theorem mTJ_yes {T : (Nat → Int64) → Nat → Nat} {bd : Int64} {g : Nat → Int64} {la j : Nat} (hj : j < 4) (h : ¬ j = la ∧ ¬ bd < mTurned g 0 j) : mTJ T bd g la (4 - j) = 1 + T (mTrn g j) j + mTJ T bd g la (4 - (j + 1)) := by
  rw [show 4 - j = (4 - (j + 1)) + 1 by omega]
  simp only [mTJ]
  rw [show 3 - (4 - (j + 1)) = j by omega, if_pos h]
theorem mTurned_c {B g : Nat → Int64} {v j : Nat} (h : ∀ k, k < 4 → B (4 * v + k) = g k) (hj : j < 4) : mTurned B (4 * v) j = mTurned g 0 j := by
  have h0 := h 0 (by omega)
  have h1 := h 1 (by omega)
  have h2 := h 2 (by omega)
  have h3 := h 3 (by omega)
  rw [Nat.add_zero] at h0
  show 2 * (B (4 * v) + B (4 * v + 1) + B (4 * v + 2) + B (4 * v + 3) - B (4 * v + j)) - B (4 * v + j) = 2 * (g 0 + g (0 + 1) + g (0 + 2) + g (0 + 3) - g (0 + j)) - g (0 + j)
  rw [h0, h1, h2, h3, h j hj, Nat.zero_add, Nat.zero_add, Nat.zero_add, Nat.zero_add]
theorem mCopy0_lt (g src : Nat → Int64) : ∀ n k, k < n → mCopy0 g src n k = src k
  | 0, k, h => absurd h (Nat.not_lt_zero _)
  | n + 1, k, h => by
    simp only [mCopy0, vp_updL]
    split
    · rename_i e; rw [e]
    · exact mCopy0_lt g src n k (by omega)
def mLa (la : Nat) : Int32 := if la = 4 then -1 else nI la
theorem mLa_eq {j la : Nat} (hj : j < 4) (hl : la ≤ 4) : nI j = mLa la ↔ j = la := by
  unfold mLa
  split
  · rename_i e
    subst e
    exact ⟨fun q => absurd (show (nI j).toInt = (-1 : Int32).toInt by rw [q]) (by rw [nI_toInt (by omega), show (-1 : Int32).toInt = -1 from rfl]; omega), fun q => by omega⟩
  · exact nI_eq (by omega) (by omega)
abbrev mCount (R : Nat → Int64) (bd : Int64) (fu : Nat) : Nat := kCnt (fun x9 => ¬ bd < R x9) 4 + mTree bd fu R 4
