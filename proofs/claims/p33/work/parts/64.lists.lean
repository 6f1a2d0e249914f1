/-! lists of objects, one more or one replaced; the calls on disks -/
/-- one more: what is the same in all three ways -/
theorem kLst.more {o : Nat → Nat} {k : Nat} {f f1 : kH} {sz : Nat} {w : Nat → Nat} {e : Nat → va_E} {t : Nat} {en : va_E} {as : List Nat} (hK : kKp as f f1) (he : ∀ j, j < sz → kR o k f (w j) = some (e j) ∧ w j ∉ as) (hT : f t = none) (ht : f1 t = some en) :
    ∀ j, j < sz + 1 → kR (oN o k f) k f1 (if j = sz then t else w j) = some (if j = sz then en else e j) := fun j hj => by
  by_cases h : j = sz
  · rw [if_pos h, if_pos h]; exact kR_some.mpr ⟨oN_new hT, ht⟩
  · rw [if_neg h, if_neg h]; exact kR_own hK _ _ (he j (by omega)).2 (he j (by omega)).1
theorem kLst.inj1 {o : Nat → Nat} {k : Nat} {f : kH} {sz : Nat} {w : Nat → Nat} {e : Nat → va_E} {t : Nat} (he : ∀ j, j < sz → kR o k f (w j) = some (e j)) (hT : f t = none) (hi : ∀ i j, i < sz → j < sz → ¬ i = j → w j ≠ w i) : ∀ i j, i < sz + 1 → j < sz + 1 → ¬ i = j → (if j = sz then t else w j) ≠ (if i = sz then t else w i) := fun i j h1 h2 h3 => by
  have hn : ∀ i, i < sz → w i ≠ t := fun i hi q => by have := (kR_some.mp (he i hi)).2; rw [q, hT] at this; exact nomatch this
  by_cases a : j = sz <;> by_cases b : i = sz
  · omega
  · rw [if_pos a, if_neg b]; exact fun q => hn i (by omega) q.symm
  · rw [if_neg a, if_pos b]; exact hn j (by omega)
  · rw [if_neg a, if_neg b]; exact hi i j (by omega) (by omega) h3
theorem kLst.add_n {G : kG} {o : Nat → Nat} {k : Nat} {f f1 : kH} {dl q sz cap : Nat} {w : Nat → Nat} {e : Nat → va_E} {g0 : Nat → Option Nat} {mc mc1 : Int32} {t : Nat}
    (h1 : kCs (kR o k f) [(dl, .inr (0, [.int mc, .ref q, .int (nI sz)])), (q, kaO G cap g0)]) (hcap : sz < cap) (h10 : 10 ≤ cap) (h64 : cap < 64) (hw : ∀ j, j < sz → g0 j = some (w j) ∧ w j ≠ dl ∧ w j ≠ q) (hi : ∀ i j, i < sz → j < sz → ¬ i = j → w j ≠ w i) (he : ∀ j, j < sz → kR o k f (w j) = some (e j)) (hT : f t = none)
    (h2 : kCs f1 [(dl, .inr (0, [.int mc1, .ref q, .int (nI (sz + 1))])), (q, kaO G cap (va_up g0 sz (some t)))]) : kLst G (kR (oN o k f) k f1) dl (sz + 1) (fun j => if j = sz then t else w j) := by
  have m1 := kCs_mem h1
  simp only [List.mem_cons, List.not_mem_nil, or_false] at m1
  have a1 := m1 _ (Or.inl rfl)
  have a2 := m1 _ (Or.inr rfl)
  refine ⟨mc1, .inr ⟨q, cap, _, kCs_own h2 (fun x hx => ?_), hcap, h10, h64, fun j hj => ?_, kLst.inj1 he hT hi⟩⟩
  · simp only [List.mem_cons, List.not_mem_nil, or_false] at hx
    rcases hx with rfl | rfl
    · exact .inl a1.1
    · exact .inl a2.1
  · dsimp only
    by_cases h : j = sz
    · rw [if_pos h]
      refine ⟨by subst h; exact if_pos rfl, fun z => ?_, fun z => ?_⟩
      · have := a1.2; dsimp only at this; rw [← z, hT] at this; exact nomatch this
      · have := a2.2; dsimp only at this; rw [← z, hT] at this; exact nomatch this
    · rw [if_neg h]
      exact ⟨(if_neg h).trans (hw j (by omega)).1, (hw j (by omega)).2⟩
theorem kLst.add_0 {G : kG} {o : Nat → Nat} {k : Nat} {f f1 : kH} {dl q : Nat} {w : Nat → Nat} {mc mc1 : Int32} {t : Nat}
    (h1 : kR o k f dl = some (.inr (0, [.int mc, .ref (G.2.2 1), .int (nI 0)]))) (hT : f t = none) (hq : f q = none) (hqt : q ≠ t)
    (h2 : kCs f1 [(dl, .inr (0, [.int mc1, .ref q, .int (nI 1)])), (q, kaO G 10 (va_up (fun _ => none) 0 (some t)))]) : kLst G (kR (oN o k f) k f1) dl (0 + 1) (fun j => if j = 0 then t else w j) := by
  have a1 := kR_some.mp h1
  refine ⟨mc1, .inr ⟨q, 10, _, kCs_own h2 (fun x hx => ?_), by omega, by omega, by omega, fun j hj => ?_, fun i j hi hj h => by omega⟩⟩
  · simp only [List.mem_cons, List.not_mem_nil, or_false] at hx
    rcases hx with rfl | rfl
    · exact .inl a1.1
    · exact .inr hq
  · have h : j = 0 := by omega
    dsimp only
    rw [if_pos h]
    refine ⟨by subst h; exact if_pos rfl, fun z => ?_, hqt.symm⟩
    have := a1.2; rw [← z, hT] at this; exact nomatch this
theorem kLst.add_g {G : kG} {o : Nat → Nat} {k : Nat} {f f1 : kH} {dl q q2 cap : Nat} {w : Nat → Nat} {e : Nat → va_E} {g0 : Nat → Option Nat} {mc mc1 : Int32} {t : Nat}
    (h1 : kCs (kR o k f) [(dl, .inr (0, [.int mc, .ref q, .int (nI cap)])), (q, kaO G cap g0)]) (h10 : 10 ≤ cap) (h64 : cap < 16) (hw : ∀ j, j < cap → g0 j = some (w j) ∧ w j ≠ dl ∧ w j ≠ q) (hi : ∀ i j, i < cap → j < cap → ¬ i = j → w j ≠ w i) (he : ∀ j, j < cap → kR o k f (w j) = some (e j)) (hT : f t = none) (hq : f q2 = none) (hqt : q2 ≠ t)
    (h2 : kCs f1 [(dl, .inr (0, [.int mc1, .ref q2, .int (nI (cap + 1))])), (q2, kaO G (cap + cap / 2) (va_up (fun j9 => if j9 < cap then g0 j9 else none) cap (some t)))]) : kLst G (kR (oN o k f) k f1) dl (cap + 1) (fun j => if j = cap then t else w j) := by
  have m1 := kCs_mem h1
  simp only [List.mem_cons, List.not_mem_nil, or_false] at m1
  have a1 := m1 _ (Or.inl rfl)
  refine ⟨mc1, .inr ⟨q2, cap + cap / 2, _, kCs_own h2 (fun x hx => ?_), by omega, by omega, by omega, fun j hj => ?_, kLst.inj1 he hT hi⟩⟩
  · simp only [List.mem_cons, List.not_mem_nil, or_false] at hx
    rcases hx with rfl | rfl
    · exact .inl a1.1
    · exact .inr hq
  · dsimp only
    by_cases h : j = cap
    · rw [if_pos h]
      refine ⟨by subst h; exact if_pos rfl, fun z => ?_, hqt.symm⟩
      have := a1.2; dsimp only at this; rw [← z, hT] at this; exact nomatch this
    · rw [if_neg h]
      refine ⟨(if_neg h).trans ((if_pos (by omega)).trans (hw j (by omega)).1), (hw j (by omega)).2.1, fun z => ?_⟩
      have := (kR_some.mp (he j (by omega))).2; rw [z, hq] at this; exact nomatch this
/-- one replaced -/
theorem kLst.set {G : kG} {o : Nat → Nat} {k : Nat} {f f1 : kH} {dl q sz cap p : Nat} {w : Nat → Nat} {e : Nat → va_E} {g0 : Nat → Option Nat} {mc mc1 : Int32} {t : Nat} {en : va_E}
    (h1 : kCs (kR o k f) [(dl, .inr (0, [.int mc, .ref q, .int (nI sz)])), (q, kaO G cap g0)]) (hcap : sz ≤ cap) (h10 : 10 ≤ cap) (h64 : cap < 64) (hw : ∀ j, j < sz → g0 j = some (w j) ∧ w j ≠ dl ∧ w j ≠ q) (hi : ∀ i j, i < sz → j < sz → ¬ i = j → w j ≠ w i) (he : ∀ j, j < sz → kR o k f (w j) = some (e j)) (hT : f t = none) (hK : kKp [dl, q] f f1) (ht : f1 t = some en)
    (h2 : kCs f1 [(dl, .inr (0, [.int mc1, .ref q, .int (nI sz)])), (q, kaO G cap (va_up g0 p (some t)))]) : kLst G (kR (oN o k f) k f1) dl sz (fun j => if j = p then t else w j) ∧ ∀ j, j < sz → kR (oN o k f) k f1 (if j = p then t else w j) = some (if j = p then en else e j) := by
  have m1 := kCs_mem h1
  simp only [List.mem_cons, List.not_mem_nil, or_false] at m1
  have a1 := m1 _ (Or.inl rfl)
  have a2 := m1 _ (Or.inr rfl)
  have hn : ∀ i, i < sz → w i ≠ t := fun i hi q => by have := (kR_some.mp (he i hi)).2; rw [q, hT] at this; exact nomatch this
  refine ⟨⟨mc1, .inr ⟨q, cap, _, kCs_own h2 (fun x hx => ?_), hcap, h10, h64, fun j hj => ?_, fun i j g1 g2 g3 => ?_⟩⟩, fun j hj => ?_⟩
  · simp only [List.mem_cons, List.not_mem_nil, or_false] at hx
    rcases hx with rfl | rfl
    · exact .inl a1.1
    · exact .inl a2.1
  · dsimp only
    by_cases h : j = p
    · rw [if_pos h]
      refine ⟨by subst h; exact if_pos rfl, fun z => ?_, fun z => ?_⟩
      · have := a1.2; dsimp only at this; rw [← z, hT] at this; exact nomatch this
      · have := a2.2; dsimp only at this; rw [← z, hT] at this; exact nomatch this
    · rw [if_neg h]
      exact ⟨(if_neg h).trans (hw j hj).1, (hw j hj).2⟩
  · dsimp only
    by_cases a : j = p <;> by_cases b : i = p
    · omega
    · rw [if_pos a, if_neg b]; exact fun q => hn i g1 q.symm
    · rw [if_neg a, if_pos b]; exact hn j g2
    · rw [if_neg a, if_neg b]; exact hi i j g1 g2 g3
  · by_cases h : j = p
    · rw [if_pos h, if_pos h]; exact kR_some.mpr ⟨oN_new hT, ht⟩
    · rw [if_neg h, if_neg h]
      refine kR_own hK _ _ (fun z => ?_) (he j hj)
      simp only [List.mem_cons, List.not_mem_nil, or_false] at z
      exact z.elim (hw j hj).2.1 (hw j hj).2.2
theorem dk_iff {x1 x2 x3 : Int32} : (cIn x1.toInt64 1000000000 ∧ cIn x2.toInt64 1000000000 ∧ ¬ x3 < nI 1 ∧ ¬ nI 1000000000 < x3) ↔ mDisk x1 x2 x3 := by
  rw [cIn_i, cIn_i, nI_lt1, Int32.lt_iff_toInt_lt, nI_toInt (by decide)]
  constructor
  · intro h; exact ⟨h.1, h.2.1, by show (1 : Int) ≤ _; omega, by omega⟩
  · intro h
    have h3 : (1 : Int) ≤ x3.toInt := h.2.2.1
    have h4 := h.2.2.2
    exact ⟨h.1, h.2.1, by omega, by omega⟩
