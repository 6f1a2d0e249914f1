/-! a net's state: its faces, thirds and links; split and flip keep it -/
def nSt (cc fc : Nat) (N : Nat → Nat) (th : nTh) (fo : Nat → Nat → Nat) : Prop := 4 ≤ cc ∧ cc ≤ 16 ∧ fc + 4 = 2 * cc ∧ (∀ s, s < 3 * fc → N s < cc) ∧ nFit (fun t => t < fc) N th fo ∧ ∀ a, a < cc → Cyc (th a)
section NSt
variable {cc fc : Nat} {N : Nat → Nat} {th : nTh} {fo : Nat → Nat → Nat}
theorem nSt.at (h : nSt cc fc N th fo) {x y z : Nat} (e : th x y = some z) : fo x y < fc ∧ x < cc ∧ y < cc ∧ z < cc ∧ x ≠ y ∧ y ≠ z ∧ x ≠ z := by
  obtain ⟨h1, h2, h3, h4, ⟨g1, g2, g3⟩, h6⟩ := h
  obtain ⟨a1, a2⟩ := g3 x y z e
  have b1 := h4 (3 * fo x y) (by omega)
  have b2 := h4 (3 * fo x y + 1) (by omega)
  have b3 := h4 (3 * fo x y + 2) (by omega)
  obtain ⟨c1, c2, c3⟩ := g1 _ a1
  unfold nRot Rot at a2
  refine ⟨a1, ?_⟩
  omega
theorem nSt.rot (h : nSt cc fc N th fo) {x y z : Nat} (e : th x y = some z) : th y z = some x ∧ fo y z = fo x y := by
  obtain ⟨h1, h2, h3, h4, ⟨g1, g2, g3⟩, h6⟩ := h
  obtain ⟨a1, a2⟩ := g3 x y z e
  exact g2 _ a1 y z x (by unfold nRot Rot at a2 ⊢; omega)
theorem nSt.sym (h : nSt cc fc N th fo) {x y : Nat} (e : th x y ≠ none) : th y x ≠ none := by
  cases q : th x y with
  | none => exact absurd q e
  | some z =>
    obtain ⟨b, hb⟩ := (h.2.2.2.2.2 x (h.at q).2.1).prev (c := y) e
    rw [(h.rot (h.rot hb).1).1]
    exact fun z => nomatch z
theorem pR_cg {th : nTh} {a b c x y z : Nat} (h : Rot a b c x y z) : pR th a b c = pR th x y z := by
  funext p q
  unfold Rot at h
  unfold pR
  rcases h with ⟨rfl, rfl, rfl⟩ | ⟨rfl, rfl, rfl⟩ | ⟨rfl, rfl, rfl⟩
  · rfl
  · grind
  · grind
theorem u3_lt {F : Nat → Nat} {t a b c m n : Nat} (ha : a < m) (hb : b < m) (hc : c < m) {s : Nat} (h : s / 3 ≠ t → s < n → F s < m) (hs : s / 3 = t ∨ s < n) : u3 F t a b c s < m := by
  unfold u3
  split
  · exact ha
  · split
    · exact hb
    · split
      · exact hc
      · exact h (by omega) (by omega)
theorem pN_lt {F : Nat → Nat} {t a b c m n : Nat} (ha : a < m) (hb : b < m) (hc : c < m) {s : Nat} (h : s / 3 ≠ t → s < n → F s < m) (hs : s / 3 = t ∨ s < n) : pN F t a b c s < m := by
  unfold pN
  split
  · exact u3_lt ha hb hc h hs
  · split
    · exact u3_lt hb hc ha h hs
    · exact u3_lt hc ha hb h hs
abbrev sTh (th : nTh) (p q r n : Nat) : nTh := pT (pT (pT th p q n) q r n) r p n
theorem sTh_eq {p q r n : Nat} : sTh (pR th p q r) p q r n = sTh th p q r n := by
  funext x y; unfold sTh pT pR; grind
theorem nSt.split (h : nSt cc fc N th fo) {t : Nat} (ht : t < fc) (hcc : cc < 16) : nSt (cc + 1) (fc + 2) (pN (pN (pN N t (N (3 * t)) (N (3 * t + 1)) cc) fc (N (3 * t + 1)) (N (3 * t + 2)) cc) (fc + 1) (N (3 * t + 2)) (N (3 * t)) cc) (sTh th (N (3 * t)) (N (3 * t + 1)) (N (3 * t + 2)) cc) (pO (pO (pO fo t (N (3 * t)) (N (3 * t + 1)) cc) fc (N (3 * t + 1)) (N (3 * t + 2)) cc) (fc + 1) (N (3 * t + 2)) (N (3 * t)) cc) := by
  have hh := h
  obtain ⟨h1, h2, h3, h4, h5, h6⟩ := h
  have b1 := h4 (3 * t) (by omega)
  have b2 := h4 (3 * t + 1) (by omega)
  have b3 := h4 (3 * t + 2) (by omega)
  obtain ⟨c1, c2, c3⟩ := h5.1 t ht
  have f1 := (h5.2.1 t ht (N (3 * t)) (N (3 * t + 1)) (N (3 * t + 2)) (by unfold nRot Rot; simp)).1
  have f2 := (hh.rot f1).1
  have f3 := (hh.rot f2).1
  have h5r := h5.rm ht
  have hout : ∀ x y, cc ≤ x ∨ cc ≤ y → th x y = none := fun x y hxy => by
    cases q : th x y with
    | none => rfl
    | some z => have := hh.at q; omega
  generalize hp : N (3 * t) = p at *
  generalize hq : N (3 * t + 1) = q at *
  generalize hr : N (3 * t + 2) = r at *
  have hout2 : ∀ x y, cc ≤ x ∨ cc ≤ y → pR th p q r x y = none := fun x y hxy => by
    unfold pR; rw [hout x y hxy]; simp
  have g1 := h5r.put (t := t) (a := p) (b := q) (c := cc) (by omega) (by omega) (by omega) (by omega) (fun x y z hz => by
    unfold Rot at hz
    rcases hz with ⟨rfl, rfl, rfl⟩ | ⟨rfl, rfl, rfl⟩ | ⟨rfl, rfl, rfl⟩
    · simp [pR]
    · exact hout2 _ _ (by omega)
    · exact hout2 _ _ (by omega))
  have g2 := g1.put (t := fc) (a := q) (b := r) (c := cc) (by omega) (by omega) (by omega) (by omega) (fun x y z hz => by
    unfold Rot at hz
    rcases hz with ⟨rfl, rfl, rfl⟩ | ⟨rfl, rfl, rfl⟩ | ⟨rfl, rfl, rfl⟩
    · unfold pT pR; grind
    · unfold pT; rw [hout2 _ _ (by omega)]; grind
    · unfold pT; rw [hout2 _ _ (by omega)]; grind)
  have g3 := g2.put (t := fc + 1) (a := r) (b := p) (c := cc) (by omega) (by omega) (by omega) (by omega) (fun x y z hz => by
    unfold Rot at hz
    rcases hz with ⟨rfl, rfl, rfl⟩ | ⟨rfl, rfl, rfl⟩ | ⟨rfl, rfl, rfl⟩
    · unfold pT pR; grind
    · unfold pT; rw [hout2 _ _ (by omega)]; grind
    · unfold pT; rw [hout2 _ _ (by omega)]; grind)
  rw [show (fun s => ((s < fc ∧ s ≠ t ∨ s = t) ∨ s = fc) ∨ s = fc + 1) = (fun s => s < fc + 2) from by funext s; exact propext (by omega)] at g3
  have e : pT (pT (pT (pR th p q r) p q cc) q r cc) r p cc = sTh th p q r cc := sTh_eq
  rw [e] at g3
  refine ⟨by omega, by omega, by omega, fun s hs => ?_, g3, fun a ha => ?_⟩
  · refine pN_lt (n := 3 * (fc + 1)) (by omega) (by omega) (by omega) (fun _ hs2 => ?_) (by omega)
    refine pN_lt (n := 3 * fc) (by omega) (by omega) (by omega) (fun _ hs3 => ?_) (by omega)
    refine pN_lt (n := 3 * fc) (by omega) (by omega) (by omega) (fun _ hs4 => ?_) (by omega)
    exact Nat.lt_succ_of_lt (h4 s hs4)
  · by_cases a1 : a = p
    · subst a1
      exact (h6 a b1).ins (b := q) (c := r) (n := cc) f1 (hout _ _ (by omega)) (Cyc.next (h6 a b1) f1) (fun x => by unfold sTh pT; grind)
    · by_cases a2 : a = q
      · subst a2
        exact (h6 a b2).ins (b := r) (c := p) (n := cc) f2 (hout _ _ (by omega)) (Cyc.next (h6 a b2) f2) (fun x => by unfold sTh pT; grind)
      · by_cases a3 : a = r
        · subst a3
          exact (h6 a b3).ins (b := p) (c := q) (n := cc) f3 (hout _ _ (by omega)) (Cyc.next (h6 a b3) f3) (fun x => by unfold sTh pT; grind)
        · by_cases a4 : a = cc
          · subst a4
            refine Cyc.tri (a := p) (b := q) (c := r) (by omega) (by omega) (by omega) (fun x => ?_)
            have := hout a x (by omega)
            unfold sTh pT; grind
          · exact (h6 a (by omega)).cg (fun x => by unfold sTh pT; grind)
abbrev fTh (th : nTh) (x y u v : Nat) : nTh := pT (pT (fun a b => if a = x ∧ b = y then none else if a = y ∧ b = x then none else th a b) x v u) v y u
theorem fTh_eq {x y u v : Nat} : pT (pT (pR (pR th x y u) y x v) x v u) v y u = fTh th x y u v := by
  funext a b; unfold fTh pT pR; grind
theorem nSt.flip (h : nSt cc fc N th fo) {x y u v : Nat} (e1 : th x y = some u) (e2 : th y x = some v) (e3 : th u v = none) : fo x y < fc ∧ fo y x < fc ∧ u ≠ v ∧ nSt cc fc (pN (pN N (fo x y) x v u) (fo y x) v y u) (fTh th x y u v) (pO (pO fo (fo x y) x v u) (fo y x) v y u) := by
  have hh := h
  obtain ⟨h1, h2, h3, h4, h5, h6⟩ := h
  have a1 := hh.at e1
  have a2 := hh.at e2
  have r1 := (hh.rot e1).1
  have r2 := (hh.rot r1).1
  have s1 := (hh.rot e2).1
  have s2 := (hh.rot s1).1
  have e4 : th v u = none := Decidable.byContradiction fun z => hh.sym z e3
  have huv : u ≠ v := fun e => (h6 x a1.2.1).three e1 (by rw [e]; exact s1)
  have ht : fo y x ≠ fo x y := fun e => by
    have q1 := (h5.2.2 x y u e1).2
    have q2 := (h5.2.2 y x v e2).2
    rw [e] at q2
    obtain ⟨c1, c2, c3⟩ := h5.1 _ a1.1
    unfold nRot Rot at q1 q2
    omega
  refine ⟨a1.1, a2.1, huv, ?_⟩
  have k1 := h5.rm a1.1
  rw [pR_cg (h5.2.2 x y u e1).2] at k1
  have k2 := k1.rm (t := fo y x) ⟨a2.1, ht⟩
  rw [pR_cg (h5.2.2 y x v e2).2] at k2
  have k3 := k2.put (t := fo x y) (a := x) (b := v) (c := u) (by omega) (by omega) (by omega) (by omega) (fun a b z hz => by
    unfold Rot at hz
    rcases hz with ⟨rfl, rfl, rfl⟩ | ⟨rfl, rfl, rfl⟩ | ⟨rfl, rfl, rfl⟩
    · unfold pR; grind
    · unfold pR; grind
    · unfold pR; grind)
  have k4 := k3.put (t := fo y x) (a := v) (b := y) (c := u) (by omega) (by omega) (by omega) (by omega) (fun a b z hz => by
    unfold Rot at hz
    rcases hz with ⟨rfl, rfl, rfl⟩ | ⟨rfl, rfl, rfl⟩ | ⟨rfl, rfl, rfl⟩
    · unfold pT pR; grind
    · unfold pT pR; grind
    · unfold pT pR; grind)
  have hf1 := a1.1
  have hf2 := a2.1
  rw [show (fun s => (((s < fc ∧ s ≠ fo x y) ∧ s ≠ fo y x) ∨ s = fo x y) ∨ s = fo y x) = (fun s => s < fc) from by funext s; exact propext (by omega), fTh_eq] at k4
  refine ⟨h1, h2, h3, fun s hs => ?_, k4, fun a ha => ?_⟩
  · refine pN_lt (n := 3 * fc) (by omega) (by omega) (by omega) (fun _ _ => ?_) (by omega)
    exact pN_lt (n := 3 * fc) (by omega) (by omega) (by omega) (fun _ hs4 => h4 s hs4) (by omega)
  · by_cases b1 : a = x
    · subst b1
      exact (h6 a ha).del (v := v) (y := y) (u := u) s1 e1 (fun e => by rw [(hh.rot e).1] at e3; cases e3) (fun b => by unfold fTh pT; grind)
    · by_cases b2 : a = y
      · subst b2
        exact (h6 a ha).del (v := u) (y := x) (u := v) r1 e2 (fun e => by rw [(hh.rot e).1] at e4; cases e4) (fun b => by unfold fTh pT; grind)
      · by_cases b3 : a = u
        · subst b3
          exact (h6 a ha).ins (b := x) (c := y) (n := v) r2 e3 (Cyc.next (h6 a ha) r2) (fun b => by unfold fTh pT; grind)
        · by_cases b4 : a = v
          · subst b4
            exact (h6 a ha).ins (b := y) (c := x) (n := u) s2 e4 (Cyc.next (h6 a ha) s2) (fun b => by unfold fTh pT; grind)
          · exact (h6 a ha).cg (fun b => by unfold fTh pT; grind)
end NSt
abbrev th0 : nTh := pT (pT (pT (pT (fun _ _ => none) 0 1 2) 0 3 1) 1 3 2) 0 2 3
abbrev N0 : Nat → Nat := pN (pN (pN (pN (fun _ => 0) 0 0 1 2) 1 0 3 1) 2 1 3 2) 3 0 2 3
abbrev fo0 : Nat → Nat → Nat := pO (pO (pO (pO (fun _ _ => 0) 0 0 1 2) 1 0 3 1) 2 1 3 2) 3 0 2 3
theorem nFit.cg {ok ok' : Nat → Prop} {N : Nat → Nat} {th : nTh} {fo : Nat → Nat → Nat} (h : nFit ok N th fo) (e : ∀ s, ok s ↔ ok' s) : nFit ok' N th fo := by
  have : ok = ok' := funext fun s => propext (e s)
  rw [← this]; exact h
theorem nSt_start : nSt 4 4 N0 th0 fo0 := by
  have k0 : nFit (fun _ => False) (fun _ => 0) (fun _ _ => none) (fun _ _ => 0) := ⟨fun _ h => h.elim, fun _ h => h.elim, fun _ _ _ h => nomatch h⟩
  have k1 := k0.put (t := 0) (a := 0) (b := 1) (c := 2) (fun h => h) (by omega) (by omega) (by omega) (fun _ _ _ _ => rfl)
  have k2 := k1.put (t := 1) (a := 0) (b := 3) (c := 1) (fun h => by simp at h) (by omega) (by omega) (by omega) (fun x y z hz => by
    unfold Rot at hz
    rcases hz with ⟨rfl, rfl, rfl⟩ | ⟨rfl, rfl, rfl⟩ | ⟨rfl, rfl, rfl⟩ <;> rfl)
  have k3 := k2.put (t := 2) (a := 1) (b := 3) (c := 2) (fun h => by simp at h) (by omega) (by omega) (by omega) (fun x y z hz => by
    unfold Rot at hz
    rcases hz with ⟨rfl, rfl, rfl⟩ | ⟨rfl, rfl, rfl⟩ | ⟨rfl, rfl, rfl⟩ <;> rfl)
  have k4 := k3.put (t := 3) (a := 0) (b := 2) (c := 3) (fun h => by simp at h) (by omega) (by omega) (by omega) (fun x y z hz => by
    unfold Rot at hz
    rcases hz with ⟨rfl, rfl, rfl⟩ | ⟨rfl, rfl, rfl⟩ | ⟨rfl, rfl, rfl⟩ <;> rfl)
  have k5 := k4.cg (ok' := fun s => s < 4) (fun s => by simp only [false_or]; omega)
  refine ⟨by omega, by omega, by omega, by decide, k5, fun a ha => ?_⟩
  rcases (show a = 0 ∨ a = 1 ∨ a = 2 ∨ a = 3 by omega) with rfl | rfl | rfl | rfl
  · exact Cyc.tri (a := 1) (b := 2) (c := 3) (by omega) (by omega) (by omega) (fun x => by unfold th0 pT; grind)
  · exact Cyc.tri (a := 0) (b := 3) (c := 2) (by omega) (by omega) (by omega) (fun x => by unfold th0 pT; grind)
  · exact Cyc.tri (a := 0) (b := 1) (c := 3) (by omega) (by omega) (by omega) (fun x => by unfold th0 pT; grind)
  · exact Cyc.tri (a := 0) (b := 2) (c := 1) (by omega) (by omega) (by omega) (fun x => by unfold th0 pT; grind)
