/-! trees of wires by determinants: a wire is left out, or its ends are made one -/
def tD (a b : Nat) : Int := if a = b then 1 else 0
theorem tD_s (a : Nat) : tD a a = 1 := if_pos rfl
theorem tD_n {a b : Nat} (h : a ≠ b) : tD a b = 0 := if_neg h
theorem tD_c (a b : Nat) : tD a b = tD b a := by
  by_cases h : a = b
  · rw [h]
  · rw [tD_n h, tD_n (Ne.symm h)]
abbrev tV (x y i : Nat) : Int := tD i x - tD i y
def dUnit (y : Nat) (A : Nat → Nat → Int) : Nat → Nat → Int := fun i j => if i = y ∨ j = y then tD i j else A i j
/-- a row with one 1: its column can be cleared -/
theorem dDet_clear {n u v : Nat} (hu : u < n) (hv : v < n) (A : Nat → Nat → Int) : dDet n (dRow A u (fun j => tD j v)) = dDet n (fun i j => if i = u then tD j v else if j = v then 0 else A i j) := by
  have h : ∀ m, m ≤ n → dDet n (fun i j => if i = u then tD j v else if i < m ∧ j = v then 0 else A i j) = dDet n (dRow A u (fun j => tD j v)) := by
    intro m
    induction m with
    | zero =>
      intro _
      refine dDet_c fun i j _ _ => ?_
      show (if i = u then tD j v else if i < 0 ∧ j = v then 0 else A i j) = (if i = u then tD j v else A i j)
      split
      · rfl
      · rw [if_neg (by omega)]
    | succ m ih =>
      intro hm
      rw [← ih (by omega)]
      by_cases hmu : m = u
      · refine dDet_c fun i j hi hj => ?_
        split
        · rfl
        · by_cases q : i < m ∧ j = v
          · rw [if_pos q, if_pos (by omega)]
          · rw [if_neg q, if_neg (by omega)]
      · rw [← (dDet_alt n).plus (r := m) (s := u) (by omega) hu hmu _ (A m v)]
        congr 1
        funext i j
        simp only [dRow]
        by_cases q : i = m
        · subst q
          simp only [hmu, if_false, if_true]
          by_cases q2 : j = v
          · subst q2
            rw [if_pos ⟨by omega, rfl⟩, if_neg (by omega), tD_s]; omega
          · rw [if_neg (by omega), if_neg (by omega), tD_n q2]; omega
        · rw [if_neg q]
          split
          · rfl
          · by_cases q2 : i < m ∧ j = v
            · rw [if_pos q2, if_pos (by omega)]
            · rw [if_neg q2, if_neg (by omega)]
  rw [← h n (Nat.le_refl _)]
  refine dDet_c fun i j hi hj => ?_
  split
  · rfl
  · by_cases q : j = v
    · rw [if_pos ⟨hi, q⟩, if_pos q]
    · rw [if_neg (by omega), if_neg q]
theorem dDet_rank1 {n y : Nat} (hy : y < n) (A : Nat → Nat → Int) : dDet n (fun i j => A i j + tD i y * tD j y) = dDet n A + dDet n (dUnit y A) := by
  have e : (fun i j => A i j + tD i y * tD j y) = dRow A y (fun j => A y j + tD j y) := by
    funext i j
    simp only [dRow]
    by_cases h : i = y
    · subst h; rw [if_pos rfl, tD_s]; omega
    · rw [if_neg h, tD_n h]; omega
  rw [e, (dDet_alt n).add A hy, dRow_id, dDet_clear hy hy]
  congr 1
  refine dDet_c fun i j _ _ => ?_
  simp only [dUnit]
  by_cases h : i = y
  · subst h; rw [if_pos rfl, if_pos (Or.inl rfl), tD_c]
  · rw [if_neg h]
    by_cases h2 : j = y
    · subst h2; rw [if_pos rfl, if_pos (Or.inr rfl), tD_n h]
    · rw [if_neg h2, if_neg (by omega)]
/-- row and column y are added to row and column x -/
def dFold (x y : Nat) (A : Nat → Nat → Int) : Nat → Nat → Int := fun i j => A i j + tD i x * A y j + tD j x * (A i y + tD i x * A y y)
theorem dDet_fold {n x y : Nat} (hx : x < n) (hy : y < n) (hxy : x ≠ y) (A : Nat → Nat → Int) : dDet n (dFold x y A) = dDet n A := by
  have h1 := (dDet_alt n).plus hx hy hxy A 1
  have h2 := (dDet_altT n).plus hx hy hxy (dTr (dRow A x (fun j => A x j + 1 * A y j))) 1
  rw [← h1]
  have e : dTr (dTr (dRow A x (fun j => A x j + 1 * A y j))) = dRow A x (fun j => A x j + 1 * A y j) := rfl
  rw [e] at h2
  rw [← h2]
  congr 1
  funext i j
  show A i j + tD i x * A y j + tD j x * (A i y + tD i x * A y y) = (if j = x then (if i = x then A x x + 1 * A y x else A i x) + 1 * (if i = x then A x y + 1 * A y y else A i y) else (if i = x then A x j + 1 * A y j else A i j))
  by_cases q1 : i = x <;> by_cases q2 : j = x
  · subst q1; subst q2; rw [if_pos rfl, if_pos rfl, if_pos rfl, tD_s] <;> omega
  · subst q1; rw [if_neg q2, if_pos rfl, tD_s, tD_n q2]; omega
  · subst q2; rw [if_pos rfl, if_neg q1, if_neg q1, tD_s, tD_n q1]; omega
  · rw [if_neg q2, if_neg q1, tD_n q1, tD_n q2]; omega
theorem dDet_rank2 {n x y : Nat} (hx : x < n) (hy : y < n) (hxy : x ≠ y) (A : Nat → Nat → Int) : dDet n (fun i j => A i j + tV x y i * tV x y j) = dDet n A + dDet n (dUnit y (dFold x y A)) := by
  rw [← dDet_fold hx hy hxy (fun i j => A i j + tV x y i * tV x y j), ← dDet_fold hx hy hxy A, ← dDet_rank1 hy]
  congr 1
  funext i j
  simp only [dFold, tV]
  rw [tD_s y, tD_n (Ne.symm hxy)]
  by_cases q1 : i = x
  · subst q1
    rw [tD_s, tD_n hxy]
    by_cases q2 : j = i
    · subst q2; rw [tD_s, tD_n hxy]; omega
    · rw [tD_n q2]; grind
  · rw [tD_n q1]
    by_cases q2 : j = x
    · subst q2; rw [tD_s, tD_n hxy]; grind
    · rw [tD_n q2]; grind
/-- the wires from w on, m of them, between labels -/
def tS (p e1 e2 : Nat → Nat) : Nat → Nat → Nat → Nat → Int
  | 0, _, _, _ => 0
  | m + 1, w, i, j => tV (p (e1 w)) (p (e2 w)) i * tV (p (e1 w)) (p (e2 w)) j + tS p e1 e2 m (w + 1) i j
def tA (on : Nat → Bool) (p e1 e2 : Nat → Nat) (m w : Nat) : Nat → Nat → Int := fun i j => if on i = true ∧ on j = true then tS p e1 e2 m w i j else tD i j
abbrev tMg (p : Nat → Nat) (x y : Nat) : Nat → Nat := fun k => if p k = y then x else p k
abbrev tOff (on : Nat → Bool) (o : Nat) : Nat → Bool := fun i => on i && !(i == o)
theorem tOff_t {on : Nat → Bool} {o i : Nat} : tOff on o i = true ↔ on i = true ∧ i ≠ o := by simp [tOff]
theorem tMg_d {p : Nat → Nat} {x y i : Nat} (hxy : x ≠ y) (hi : i ≠ y) (k : Nat) : tD i (tMg p x y k) = tD i (p k) + tD i x * tD y (p k) := by
  simp only [tMg]
  by_cases h : p k = y
  · rw [if_pos h, h, tD_n hi, tD_s]; omega
  · rw [if_neg h, tD_n (Ne.symm h)]; omega
theorem tS_mg {p e1 e2 : Nat → Nat} {x y i j : Nat} (hxy : x ≠ y) (hi : i ≠ y) (hj : j ≠ y) : ∀ m w, tS (tMg p x y) e1 e2 m w i j = tS p e1 e2 m w i j + tD i x * tS p e1 e2 m w y j + tD j x * (tS p e1 e2 m w i y + tD i x * tS p e1 e2 m w y y)
  | 0, w => by simp [tS]
  | m + 1, w => by
    simp only [tS, tV]
    rw [tS_mg hxy hi hj m (w + 1), tMg_d hxy hi, tMg_d hxy hi, tMg_d hxy hj, tMg_d hxy hj]
    grind
theorem tS_same {p e1 e2 : Nat → Nat} {w : Nat} (h : p (e1 w) = p (e2 w)) (m : Nat) : tS p e1 e2 (m + 1) w = tS p e1 e2 m (w + 1) := by
  funext i j
  simp only [tS, tV]; rw [h]; grind
/-- a wire is left out, or its ends are made one; o is the label that goes, or becomes the ground's -/
theorem tA_step {n : Nat} {on : Nat → Bool} {p e1 e2 : Nat → Nat} {m w o : Nat} (hx : p (e1 w) < n) (hy : p (e2 w) < n) (hxy : p (e1 w) ≠ p (e2 w)) (ho : (on (p (e2 w)) = false ∧ on (p (e1 w)) = true ∧ o = p (e1 w)) ∨ (on (p (e2 w)) = true ∧ o = p (e2 w))) : dDet n (tA on p e1 e2 (m + 1) w) = dDet n (tA on p e1 e2 m (w + 1)) + dDet n (tA (tOff on o) (tMg p (p (e1 w)) (p (e2 w))) e1 e2 m (w + 1)) := by
  generalize hX : p (e1 w) = x at *
  generalize hY : p (e2 w) = y at *
  rcases ho with ⟨h1, h2, rfl⟩ | ⟨h1, rfl⟩
  · -- y is the ground's
    have e : dDet n (tA on p e1 e2 (m + 1) w) = dDet n (fun i j => tA on p e1 e2 m (w + 1) i j + tD i o * tD j o) := by
      congr 1
      funext i j
      simp only [tA]
      by_cases q : on i = true ∧ on j = true
      · rw [if_pos q, if_pos q]
        simp only [tS, tV]
        rw [hX, hY, tD_n (a := i) (b := y) (fun z => by rw [z, h1] at q; exact absurd q.1 (by decide)), tD_n (a := j) (b := y) (fun z => by rw [z, h1] at q; exact absurd q.2 (by decide))]
        grind
      · rw [if_neg q, if_neg q]
        by_cases q2 : i = o
        · by_cases q3 : j = o
          · subst q2; subst q3; exact absurd ⟨h2, h2⟩ q
          · rw [tD_n q3]; omega
        · rw [tD_n (b := o) q2]; omega
    rw [e, dDet_rank1 hx]
    congr 2
    funext i j
    simp only [dUnit, tA]
    by_cases q : i = o ∨ j = o
    · rw [if_pos q, if_neg (by rw [tOff_t, tOff_t]; rcases q with q | q <;> simp [q])]
    · rw [if_neg q]
      by_cases q2 : on i = true ∧ on j = true
      · rw [if_pos q2, if_pos (by rw [tOff_t, tOff_t]; exact ⟨⟨q2.1, fun z => q (Or.inl z)⟩, ⟨q2.2, fun z => q (Or.inr z)⟩⟩)]
        rw [tS_mg hxy (fun z => by rw [z, h1] at q2; exact absurd q2.1 (by decide)) (fun z => by rw [z, h1] at q2; exact absurd q2.2 (by decide)), tD_n (a := i) (b := o) (fun z => q (Or.inl z)), tD_n (a := j) (b := o) (fun z => q (Or.inr z))]
        omega
      · rw [if_neg q2, if_neg (by rw [tOff_t, tOff_t]; exact fun z => q2 ⟨z.1.1, z.2.1⟩)]
  · by_cases h2 : on x = true
    · -- neither is the ground's
      have e : dDet n (tA on p e1 e2 (m + 1) w) = dDet n (fun i j => tA on p e1 e2 m (w + 1) i j + tV x o i * tV x o j) := by
        congr 1
        funext i j
        simp only [tA]
        by_cases q : on i = true ∧ on j = true
        · rw [if_pos q, if_pos q]
          simp only [tS]
          rw [hX, hY]; omega
        · rw [if_neg q, if_neg q]
          have hz : ∀ a : Nat, ¬ on a = true → tV x o a = 0 := fun a ha => by
            simp only [tV]
            rw [tD_n (fun z => ha (by rw [z]; exact h2)), tD_n (fun z => ha (by rw [z]; exact h1))]; rfl
          by_cases q2 : on i = true
          · rw [hz j (fun z => q ⟨q2, z⟩)]; omega
          · rw [hz i q2]; omega
      rw [e, dDet_rank2 hx hy hxy]
      congr 2
      funext i j
      simp only [dUnit]
      by_cases q : i = o ∨ j = o
      · rw [if_pos q, tA, if_neg (by rw [tOff_t, tOff_t]; rcases q with q | q <;> simp [q])]
      · have qi : i ≠ o := fun z => q (Or.inl z)
        have qj : j ≠ o := fun z => q (Or.inr z)
        rw [if_neg q]
        simp only [dFold, tA]
        by_cases q2 : on i = true ∧ on j = true
        · rw [if_pos q2, if_pos ⟨h1, q2.2⟩, if_pos ⟨q2.1, h1⟩, if_pos ⟨h1, h1⟩, if_pos (by rw [tOff_t, tOff_t]; exact ⟨⟨q2.1, qi⟩, ⟨q2.2, qj⟩⟩), tS_mg hxy qi qj]
        · rw [if_neg q2, if_neg (show ¬ (tOff on o i = true ∧ tOff on o j = true) by rw [tOff_t, tOff_t]; exact fun z => q2 ⟨z.1.1, z.2.1⟩)]
          by_cases q3 : on i = true
          · have q4 : ¬ on j = true := fun z => q2 ⟨q3, z⟩
            rw [if_neg (show ¬ (on o = true ∧ on j = true) from fun z => q4 z.2), tD_n (a := o) (b := j) (Ne.symm qj), tD_n (a := j) (b := x) (fun z => q4 (by rw [z]; exact h2))]
            omega
          · rw [if_neg (show ¬ (on i = true ∧ on o = true) from fun z => q3 z.1), tD_n (a := i) (b := x) (fun z => q3 (by rw [z]; exact h2)), tD_n (a := i) (b := o) qi]
            omega
    · -- x is the ground's
      have e : dDet n (tA on p e1 e2 (m + 1) w) = dDet n (fun i j => tA on p e1 e2 m (w + 1) i j + tD i o * tD j o) := by
        congr 1
        funext i j
        simp only [tA]
        by_cases q : on i = true ∧ on j = true
        · rw [if_pos q, if_pos q]
          simp only [tS, tV]
          rw [hX, hY, tD_n (a := i) (b := x) (fun z => h2 (by rw [← z]; exact q.1)), tD_n (a := j) (b := x) (fun z => h2 (by rw [← z]; exact q.2))]
          grind
        · rw [if_neg q, if_neg q]
          by_cases q2 : i = o
          · by_cases q3 : j = o
            · subst q2; subst q3; exact absurd ⟨h1, h1⟩ q
            · rw [tD_n q3]; omega
          · rw [tD_n (b := o) q2]; omega
      rw [e, dDet_rank1 hy]
      congr 2
      funext i j
      simp only [dUnit, tA]
      by_cases q : i = o ∨ j = o
      · rw [if_pos q, if_neg (by rw [tOff_t, tOff_t]; rcases q with q | q <;> simp [q])]
      · rw [if_neg q]
        by_cases q2 : on i = true ∧ on j = true
        · rw [if_pos q2, if_pos (by rw [tOff_t, tOff_t]; exact ⟨⟨q2.1, fun z => q (Or.inl z)⟩, ⟨q2.2, fun z => q (Or.inr z)⟩⟩)]
          rw [tS_mg hxy (fun z => q (Or.inl z)) (fun z => q (Or.inr z)), tD_n (a := i) (b := x) (fun z => h2 (by rw [← z]; exact q2.1)), tD_n (a := j) (b := x) (fun z => h2 (by rw [← z]; exact q2.2))]
          omega
        · rw [if_neg q2, if_neg (by rw [tOff_t, tOff_t]; exact fun z => q2 ⟨z.1.1, z.2.1⟩)]
/-- no wire left: one part, or none -/
theorem tA_base {n : Nat} {on : Nat → Bool} {p e1 e2 : Nat → Nat} {w : Nat} : dDet n (tA on p e1 e2 0 w) = if ∀ i, i < n → on i = false then 1 else 0 := by
  have hid : ∀ m, dDet m tD = 1 := by
    intro m
    induction m with
    | zero => rfl
    | succ m ih =>
      rw [dDet_e0 (fun i _ => tD_n (by omega)), tD_s, Int.one_mul, ← ih]
      refine dDet_c fun i j _ _ => ?_
      by_cases h : i = j
      · rw [h, tD_s, tD_s]
      · rw [tD_n h, tD_n (by omega)]
  split
  · rename_i h
    rw [← hid n]
    refine dDet_c fun i j hi hj => ?_
    simp only [tA]
    rw [if_neg (by rw [h i hi]; simp)]
  · rename_i h
    obtain ⟨i, hi, ho⟩ : ∃ i, i < n ∧ on i = true := Decidable.byContradiction fun z => h fun i hi => by
      cases q : on i with
      | false => rfl
      | true => exact absurd ⟨i, hi, q⟩ z
    have e : tA on p e1 e2 0 w = dRow (tA on p e1 e2 0 w) i (fun j => 0 * tD j 0) := by
      funext a b
      simp only [dRow]
      by_cases q : a = i
      · subst q
        rw [if_pos rfl]
        simp only [tA, tS]
        by_cases q2 : on b = true
        · rw [if_pos ⟨ho, q2⟩]; omega
        · rw [if_neg (fun z => q2 z.2), tD_n (fun z => q2 (by rw [← z]; exact ho))]; omega
      · rw [if_neg q]
    rw [e, (dDet_alt n).mul _ hi]; omega
