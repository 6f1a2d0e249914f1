/-- the search between two fractions: low top, low bottom, high top, high bottom -/
abbrev mB4 : Type := Int64 × Int64 × Int64 × Int64
abbrev bFl (s : mB4) : Int64 := mFloor s.1 s.2.1
abbrev bDone (s : mB4) : Prop := (bFl s + 1) * s.2.2.2 < s.2.2.1
abbrev bLess (s : mB4) : Int64 := s.1 - bFl s * s.2.1
abbrev bMore (s : mB4) : Int64 := s.2.2.1 - bFl s * s.2.2.2
def mBt (s : mB4) : Nat → mB4
  | 0 => s
  | n + 1 => ((mBt s n).2.2.2, bMore (mBt s n), (mBt s n).2.1, bLess (mBt s n))
def mQA (g : Nat → Int64) (s : mB4) : Nat → Nat → Int64
  | 0 => g
  | n + 1 => vp_updL (mQA g s n) n (bFl (mBt s n))
/-- back through the quotients, from the place M on, r steps -/
def mBk (Q : Nat → Int64) (M : Nat) : Nat → Int64 × Int64
  | 0 => (Q M, 1)
  | r + 1 => (Q (M - r - 1) * (mBk Q M r).1 + (mBk Q M r).2, (mBk Q M r).1)
def mBM (s : mB4) (N : Nat) : Nat := if bDone (mBt s N) then N else N + 1
def mBQ (g : Nat → Int64) (s : mB4) (N : Nat) : Nat → Int64 := if bDone (mBt s N) then vp_updL (mQA g s N) N (bFl (mBt s N) + 1) else vp_updL (vp_updL (mQA g s N) N (bFl (mBt s N))) (N + 1) ((mBt s N).2.2.2 / bMore (mBt s N) + 1)
/-- the search ends behind N steps -/
def mBEnds (s : mB4) (N : Nat) : Prop := (∀ i, i ≤ N → ¬ (mBt s i).2.1 = 0) ∧ (∀ i, i < N → ¬ bDone (mBt s i) ∧ ¬ bLess (mBt s i) = 0) ∧ (bDone (mBt s N) ∨ bLess (mBt s N) = 0) ∧ ¬ bMore (mBt s N) = 0 ∧ N + 1 < 128
theorem k_m1p {m : Nat} (h : ¬ nI m + -1 < 0) : 0 < m := by
  rcases Nat.eq_zero_or_pos m with q | q
  · subst q; exact absurd (by decide) h
  · exact q
theorem k_m1z {m : Nat} (h : nI m + -1 < 0) (hm : m < 2 ^ 31) : m = 0 := by
  rcases Nat.eq_zero_or_pos m with q | q
  · exact q
  · rw [sb_m1 q] at h; exact absurd h (nI_pos (by omega))
theorem k_m2 (m : Nat) : nI (m + 1) - nI 2 = nI m + -1 := by
  rw [← nI_1, Int32.sub_eq_add_neg, Int32.add_assoc]
  rfl
