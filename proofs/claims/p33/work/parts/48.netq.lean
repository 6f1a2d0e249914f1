/-! the two programs' nets: the same faces, thirds that fit, what is asked of them -/
def nO : Option Nat → Int32
  | none => -1
  | some z => nI z
def nTab (T : Nat → Int32) (th : nTh) : Prop := ∀ x y, x < 16 → y < 16 → T (16 * x + y) = nO (th x y)
def nNam (A : Nat → Int32) (N : Nat → Nat) (n : Nat) : Prop := ∀ s, s < 3 * n → A s = nI (N s)
theorem pT_cg {th : nTh} {a b c x y z : Nat} (h1 : a ≠ b) (h2 : b ≠ c) (h3 : a ≠ c) (h : Rot a b c x y z) : pT th a b c = pT th x y z := by
  funext p q
  unfold Rot at h
  unfold pT
  rcases h with ⟨rfl, rfl, rfl⟩ | ⟨rfl, rfl, rfl⟩ | ⟨rfl, rfl, rfl⟩
  · rfl
  · grind
  · grind
theorem nT3_tab {T : Nat → Int32} {th : nTh} {a b c : Nat} (h : nTab T th) (ha : a < 16) (hb : b < 16) (hc : c < 16) (h1 : a ≠ b) (h2 : b ≠ c) (h3 : a ≠ c) : nTab (nT3 T a b c) (pT th a b c) := by
  intro x y hx hy
  unfold nT3 upd pT
  by_cases q1 : x = c ∧ y = a
  · rw [if_pos (by omega), if_neg (by omega), if_neg (by omega), if_pos q1]; rfl
  · rw [if_neg (by omega)]
    by_cases q2 : x = b ∧ y = c
    · rw [if_pos (by omega), if_neg (by omega), if_pos q2]; rfl
    · rw [if_neg (by omega)]
      by_cases q3 : x = a ∧ y = b
      · rw [if_pos (by omega), if_pos q3]; rfl
      · rw [if_neg (by omega), if_neg q3, if_neg q2, if_neg q1]; exact h x y hx hy
theorem nPutT_tab {T : Nat → Int32} {th : nTh} {a b c : Nat} (h : nTab T th) (ha : a < 16) (hb : b < 16) (hc : c < 16) (h1 : a ≠ b) (h2 : b ≠ c) (h3 : a ≠ c) : nTab (nPutT T a b c) (pT th a b c) := by
  unfold nPutT
  split
  · exact nT3_tab h ha hb hc h1 h2 h3
  · split
    · rw [pT_cg h1 h2 h3 (x := b) (y := c) (z := a) (by unfold Rot; simp)]
      exact nT3_tab h hb hc ha h2 (Ne.symm h3) (Ne.symm h1)
    · rw [pT_cg h1 h2 h3 (x := c) (y := a) (z := b) (by unfold Rot; simp)]
      exact nT3_tab h hc ha hb (Ne.symm h3) h1 (Ne.symm h2)
theorem n3_n (A : Nat → Int32) (t a b c : Nat) {s : Nat} (h : s / 3 ≠ t) : n3 A t a b c s = A s := by
  show (if s = 3 * t + 2 then nI c else if s = 3 * t + 1 then nI b else if s = 3 * t then nI a else A s) = A s
  rw [if_neg (by omega), if_neg (by omega), if_neg (by omega)]
theorem n3_u3 (A : Nat → Int32) (N : Nat → Nat) (t a b c : Nat) {s : Nat} (h : s / 3 = t) : n3 A t a b c s = nI (u3 N t a b c s) := by
  show (if s = 3 * t + 2 then nI c else if s = 3 * t + 1 then nI b else if s = 3 * t then nI a else A s) = nI (if s = 3 * t then a else if s = 3 * t + 1 then b else if s = 3 * t + 2 then c else N s)
  rcases (show s = 3 * t ∨ s = 3 * t + 1 ∨ s = 3 * t + 2 by omega) with q | q | q
  · rw [if_neg (by omega), if_neg (by omega), if_pos q, if_pos q]
  · rw [if_neg (by omega), if_pos q, if_neg (by omega), if_pos q]
  · rw [if_pos q, if_neg (by omega), if_neg (by omega), if_pos q]
theorem nPutN_at (A : Nat → Int32) (N : Nat → Nat) (t a b c s : Nat) : nPutN A t a b c s = if s / 3 = t then nI (pN N t a b c s) else A s := by
  unfold nPutN pN
  by_cases q : s / 3 = t
  · rw [if_pos q]
    split
    · exact n3_u3 _ _ _ _ _ _ q
    · split <;> exact n3_u3 _ _ _ _ _ _ q
  · rw [if_neg q]
    split
    · exact n3_n _ _ _ _ _ q
    · split <;> exact n3_n _ _ _ _ _ q
theorem nPutN_nam {A : Nat → Int32} {N : Nat → Nat} {n m t a b c : Nat} (h : nNam A N n) (hm : ∀ s, s < m → s = t ∨ s < n) : nNam (nPutN A t a b c) (pN N t a b c) m := by
  intro s hs
  rw [nPutN_at A N]
  by_cases q : s / 3 = t
  · rw [if_pos q]
  · rw [if_neg q, pN_n _ _ _ _ _ q]
    exact h s (by have := hm (s / 3) (by omega); omega)
theorem mPut_n {A : Nat → Int32} {t a b c : Nat} (ha : a < 1000) (hb : b < 1000) (hc : c < 1000) (h1 : a ≠ b) (h2 : b ≠ c) (h3 : a ≠ c) : mPut A t (nI a) (nI b) (nI c) = nPutN A t a b c := by
  unfold mPut mP0 mP1 mP2 nPutN n3
  simp only [nI_ltI (show a < 2 ^ 31 by omega) (show b < 2 ^ 31 by omega), nI_ltI (show a < 2 ^ 31 by omega) (show c < 2 ^ 31 by omega), nI_ltI (show b < 2 ^ 31 by omega) (show a < 2 ^ 31 by omega), nI_ltI (show b < 2 ^ 31 by omega) (show c < 2 ^ 31 by omega)]
  by_cases q : a < b ∧ a < c
  · simp only [if_pos q]
  · simp only [if_neg q]
    by_cases q2 : b < c
    · simp only [if_pos q2, if_pos (show b < a ∧ b < c by omega)]
    · simp only [if_neg q2, if_neg (show ¬ (b < a ∧ b < c) by omega)]
/-- both nets: corners, faces, the faces' names, the class's table -/
def nInv (cc fc : Nat) (A T : Nat → Int32) : Prop := ∃ (N : Nat → Nat) (th : nTh) (fo : Nat → Nat → Nat), nSt cc fc N th fo ∧ nNam A N fc ∧ nTab T th
theorem mIn_ex {a : Int32} {n : Nat} (hn : n < 2 ^ 31) (h : mIn a n) : ∃ x, x < n ∧ a = nI x := by
  refine ⟨a.toInt.toNat, by omega, ?_⟩
  apply Int32.toInt_inj.mp
  rw [nI_toInt (by omega)]; omega
section NQ
variable {cc fc : Nat} {A T : Nat → Int32} {N : Nat → Nat} {th : nTh} {fo : Nat → Nat → Nat}
theorem nThird_at (hs : nSt cc fc N th fo) (hT : nTab T th) {x y : Nat} (hx : x < cc) (hy : y < cc) : nThird T cc (nI x) (nI y) = nO (th x y) := by
  have := hs.2.1
  rw [nThird, if_pos ⟨(mIn_nI (by omega)).mpr hx, (mIn_nI (by omega)).mpr hy⟩, pk_mul, nI_add, nI_clamp (by omega)]
  exact hT x y (by omega) (by omega)
theorem nO_ne (hs : nSt cc fc N th fo) (x y : Nat) : ¬ nO (th x y) = -1 ↔ th x y ≠ none := by
  cases q : th x y with
  | none => exact ⟨fun h => absurd rfl h, fun h => absurd rfl h⟩
  | some z =>
    have := hs.at q
    have := hs.2.1
    exact ⟨fun _ h => (nomatch h), fun _ => nI_ne1 (by omega)⟩
theorem nAdj_at (hs : nSt cc fc N th fo) (hT : nTab T th) {x y : Nat} (hx : x < cc) (hy : y < cc) : nAdj T cc (nI x) (nI y) ↔ th x y ≠ none := by
  rw [nAdj, nThird_at hs hT hx hy]; exact nO_ne hs x y
theorem spot_th (hs : nSt cc fc N th fo) {s : Nat} (h : s < 3 * fc) : th (N s) (N (mNx s)) = some (N (mNx (mNx s))) ∧ fo (N s) (N (mNx s)) = s / 3 := by
  obtain ⟨h1, h2, h3, h4, ⟨g1, g2, g3⟩, h6⟩ := hs
  refine g2 (s / 3) (by omega) _ _ _ ?_
  unfold nRot Rot mNx
  rcases (show s = 3 * (s / 3) ∨ s = 3 * (s / 3) + 1 ∨ s = 3 * (s / 3) + 2 by omega) with e | e | e
  · rw [show s % 3 = 0 by omega]
    left
    refine ⟨congrArg N e, congrArg N ?_, congrArg N ?_⟩
    · rw [if_neg (by omega)]; omega
    · rw [if_neg (show ¬ (0 : Nat) = 2 by omega), if_neg (by omega)]; omega
  · rw [show s % 3 = 1 by omega]
    right; left
    refine ⟨congrArg N e, congrArg N ?_, congrArg N ?_⟩
    · rw [if_neg (by omega)]; omega
    · rw [if_neg (show ¬ (1 : Nat) = 2 by omega), if_pos (by omega)]; omega
  · rw [show s % 3 = 2 by omega]
    right; right
    refine ⟨congrArg N e, congrArg N ?_, congrArg N ?_⟩
    · rw [if_pos rfl]; omega
    · rw [if_pos rfl, if_neg (by omega)]; omega
theorem th_spot (hs : nSt cc fc N th fo) {x y z : Nat} (e : th x y = some z) : ∃ s, s < 3 * fc ∧ s / 3 = fo x y ∧ N s = x ∧ N (mNx s) = y ∧ N (mNx (mNx s)) = z := by
  have hlt := (hs.at e).1
  obtain ⟨h1, h2, h3, h4, ⟨g1, g2, g3⟩, h6⟩ := hs
  have hr := (g3 x y z e).2
  generalize fo x y = t at *
  unfold nRot Rot at hr
  have m0 : mNx (3 * t) = 3 * t + 1 := by unfold mNx; rw [if_neg (by omega)]
  have m1 : mNx (3 * t + 1) = 3 * t + 2 := by unfold mNx; rw [if_neg (by omega)]
  have m2 : mNx (3 * t + 2) = 3 * t := by unfold mNx; rw [if_pos (by omega)]; omega
  rcases hr with ⟨a, b, c⟩ | ⟨a, b, c⟩ | ⟨a, b, c⟩
  · exact ⟨3 * t, by omega, by omega, a.symm, by rw [m0]; exact b.symm, by rw [m0, m1]; exact c.symm⟩
  · exact ⟨3 * t + 1, by omega, by omega, a.symm, by rw [m1]; exact b.symm, by rw [m1, m2]; exact c.symm⟩
  · exact ⟨3 * t + 2, by omega, by omega, a.symm, by rw [m2]; exact b.symm, by rw [m2, m0]; exact c.symm⟩
theorem mNx_lt {s n : Nat} (h : s < 3 * n) : mNx s < 3 * n := by unfold mNx; split <;> omega
theorem spot_eq (hs : nSt cc fc N th fo) (hA : nNam A N fc) {x y s : Nat} (hx : x < cc) (hy : y < cc) (h : s < 3 * fc) : (A s = nI x ∧ A (mNx s) = nI y) ↔ (N s = x ∧ N (mNx s) = y) := by
  have h2 := mNx_lt h
  have := hs.2.1
  have l1 := hs.2.2.2.1 s h
  have l2 := hs.2.2.2.1 _ h2
  rw [hA s h, hA _ h2, nI_eq (by omega) (by omega), nI_eq (by omega) (by omega)]
theorem mFaceOf_at (hs : nSt cc fc N th fo) (hA : nNam A N fc) {x y : Nat} (hx : x < cc) (hy : y < cc) : ∀ n, n ≤ 3 * fc → mFaceOf A (nI x) (nI y) n = if ∃ s, s < n ∧ N s = x ∧ N (mNx s) = y then nI (fo x y) else -1
  | 0, _ => by rw [if_neg (fun ⟨s, h, _⟩ => absurd h (Nat.not_lt_zero _))]; rfl
  | n + 1, hn => by
    rw [mFaceOf, mFaceOf_at hs hA hx hy n (by omega)]
    have e := spot_eq hs hA hx hy (s := n) (by omega)
    by_cases q : N n = x ∧ N (mNx n) = y
    · rw [if_pos (e.mpr q), if_pos ⟨n, by omega, q⟩]
      have := (spot_th hs (s := n) (by omega)).2
      rw [q.1, q.2] at this
      rw [this]
    · rw [if_neg (fun z => q (e.mp z))]
      by_cases q2 : ∃ s, s < n ∧ N s = x ∧ N (mNx s) = y
      · obtain ⟨s, h1, h2⟩ := q2
        rw [if_pos ⟨s, h1, h2⟩, if_pos ⟨s, by omega, h2⟩]
      · rw [if_neg q2, if_neg (fun ⟨s, h1, h2⟩ => q2 ⟨s, (by by_cases z : s = n; exact absurd (z ▸ h2) q; omega), h2⟩)]
theorem spots_th (hs : nSt cc fc N th fo) {x y : Nat} : (∃ s, s < 3 * fc ∧ N s = x ∧ N (mNx s) = y) ↔ th x y ≠ none := by
  constructor
  · rintro ⟨s, h1, rfl, rfl⟩
    rw [(spot_th hs h1).1]; exact fun z => nomatch z
  · intro h
    cases q : th x y with
    | none => exact absurd q h
    | some z =>
      obtain ⟨s, a, b, c, d, e⟩ := th_spot hs q
      exact ⟨s, a, c, d⟩
theorem mFaceOf_th (hs : nSt cc fc N th fo) (hA : nNam A N fc) {x y : Nat} (hx : x < cc) (hy : y < cc) : mFaceOf A (nI x) (nI y) (3 * fc) = if th x y ≠ none then nI (fo x y) else -1 := by
  rw [mFaceOf_at hs hA hx hy _ (Nat.le_refl _)]
  by_cases q : th x y ≠ none
  · rw [if_pos q, if_pos ((spots_th hs).mpr q)]
  · rw [if_neg q, if_neg (fun z => q ((spots_th hs).mp z))]
theorem mAdj_at (hs : nSt cc fc N th fo) (hA : nNam A N fc) {x y : Nat} (hx : x < cc) (hy : y < cc) : mAdj A fc (nI x) (nI y) ↔ th x y ≠ none := by
  rw [mAdj, mFaceOf_th hs hA hx hy]
  have := hs.2.1
  have := hs.2.2.1
  by_cases q : th x y ≠ none
  · rw [if_pos q]
    refine ⟨fun _ => q, fun _ => nI_ne1 ?_⟩
    cases e : th x y with
    | none => exact absurd e q
    | some z => have := (hs.at e).1; omega
  · rw [if_neg q]; exact ⟨fun h => absurd rfl h, fun h => absurd h q⟩
theorem nFace_at (hs : nSt cc fc N th fo) (hA : nNam A N fc) {x y : Nat} (hx : x < cc) (hy : y < cc) : ∀ n k, k + n ≤ 3 * fc → (∃ s, k ≤ s ∧ s < k + n ∧ N s = x ∧ N (mNx s) = y) → nFace A (nI x) (nI y) n k = nI (fo x y)
  | 0, k, _, ⟨s, h1, h2, _⟩ => by omega
  | n + 1, k, hn, ⟨s, h1, h2, h3⟩ => by
    rw [nFace]
    have e := spot_eq hs hA hx hy (s := k) (by omega)
    by_cases q : N k = x ∧ N (mNx k) = y
    · rw [if_pos (e.mpr q)]
      have := (spot_th hs (s := k) (by omega)).2
      rw [q.1, q.2] at this
      rw [this]
    · rw [if_neg (fun z => q (e.mp z))]
      exact nFace_at hs hA hx hy n (k + 1) (by omega) ⟨s, (by by_cases z : s = k; exact absurd (z ▸ h3) q; omega), by omega, h3⟩
theorem nOpp_at (hs : nSt cc fc N th fo) (hA : nNam A N fc) {x y z : Nat} (e : th x y = some z) : mOpp A fc (nI x) (nI y) = nI z := by
  have hb := hs.at e
  have h2 := hs.2.1
  have h3 := hs.2.2.1
  obtain ⟨s, a1, a2, a3, a4, a5⟩ := th_spot hs e
  have hne : th x y ≠ none := by rw [e]; exact fun q => nomatch q
  rw [mOpp, mFaceOf_th hs hA hb.2.1 hb.2.2.1, if_pos hne, nI_clamp (by omega), ← a2]
  have l0 := hs.2.2.2.1 (3 * (s / 3)) (by omega)
  have l1 := hs.2.2.2.1 (3 * (s / 3) + 1) (by omega)
  have l2 := hs.2.2.2.1 (3 * (s / 3) + 2) (by omega)
  have m0 : mNx (3 * (s / 3)) = 3 * (s / 3) + 1 := by unfold mNx; rw [if_neg (by omega)]
  have m1 : mNx (3 * (s / 3) + 1) = 3 * (s / 3) + 2 := by unfold mNx; rw [if_neg (by omega)]
  have m2 : mNx (3 * (s / 3) + 2) = 3 * (s / 3) := by unfold mNx; rw [if_pos (by omega)]; omega
  simp only [mThird]
  rw [hA (3 * (s / 3) + 2) (by omega), hA (3 * (s / 3) + 1) (by omega), hA (3 * (s / 3) + 0) (by omega)]
  simp only [Nat.add_zero, ne_eq, nI_eq (show N (3 * (s / 3) + 2) < 2 ^ 31 by omega) (show x < 2 ^ 31 by omega), nI_eq (show N (3 * (s / 3) + 2) < 2 ^ 31 by omega) (show y < 2 ^ 31 by omega), nI_eq (show N (3 * (s / 3) + 1) < 2 ^ 31 by omega) (show x < 2 ^ 31 by omega), nI_eq (show N (3 * (s / 3) + 1) < 2 ^ 31 by omega) (show y < 2 ^ 31 by omega), nI_eq (show N (3 * (s / 3)) < 2 ^ 31 by omega) (show x < 2 ^ 31 by omega), nI_eq (show N (3 * (s / 3)) < 2 ^ 31 by omega) (show y < 2 ^ 31 by omega)]
  rcases (show s = 3 * (s / 3) ∨ s = 3 * (s / 3) + 1 ∨ s = 3 * (s / 3) + 2 by omega) with q | q | q
  · rw [q, m0] at a4; rw [q, m0, m1] at a5; rw [q] at a3
    rw [if_pos (by omega), a5]
  · rw [q, m1] at a4; rw [q, m1, m2] at a5; rw [q] at a3
    rw [if_neg (by omega), if_neg (by omega), if_pos (by omega), a5]
  · rw [q, m2] at a4; rw [q, m2, m0] at a5; rw [q] at a3
    rw [if_neg (by omega), if_pos (by omega), a5]
theorem flip_th (hs : nSt cc fc N th fo) (hA : nNam A N fc) (hT : nTab T th) {x y : Nat} (hx : x < cc) (hy : y < cc) : (nCanFlip T cc (nI x) (nI y) ↔ ∃ u v, th x y = some u ∧ th y x = some v ∧ th u v = none) ∧ (mCanFlip A fc (nI x) (nI y) ↔ ∃ u v, th x y = some u ∧ th y x = some v ∧ th u v = none) := by
  constructor
  · constructor
    · rintro ⟨h1, h2⟩
      have h1 := (nAdj_at hs hT hx hy).mp h1
      cases e : th x y with
      | none => exact absurd e h1
      | some u =>
        cases e2 : th y x with
        | none => exact absurd e2 (hs.sym h1)
        | some v =>
          refine ⟨u, v, rfl, rfl, ?_⟩
          rw [nThird_at hs hT hx hy, nThird_at hs hT hy hx, e, e2] at h2
          exact Decidable.byContradiction fun z => h2 ((nAdj_at hs hT (hs.at e).2.2.2.1 (hs.at e2).2.2.2.1).mpr z)
    · rintro ⟨u, v, e, e2, e3⟩
      refine ⟨(nAdj_at hs hT hx hy).mpr (by rw [e]; exact fun z => nomatch z), ?_⟩
      rw [nThird_at hs hT hx hy, nThird_at hs hT hy hx, e, e2]
      exact fun z => (nAdj_at hs hT (hs.at e).2.2.2.1 (hs.at e2).2.2.2.1).mp z e3
  · constructor
    · rintro ⟨h1, h2⟩
      have h1 := (mAdj_at hs hA hx hy).mp h1
      cases e : th x y with
      | none => exact absurd e h1
      | some u =>
        cases e2 : th y x with
        | none => exact absurd e2 (hs.sym h1)
        | some v =>
          refine ⟨u, v, rfl, rfl, ?_⟩
          rw [nOpp_at hs hA e, nOpp_at hs hA e2] at h2
          exact Decidable.byContradiction fun z => h2 ((mAdj_at hs hA (hs.at e).2.2.2.1 (hs.at e2).2.2.2.1).mpr z)
    · rintro ⟨u, v, e, e2, e3⟩
      refine ⟨(mAdj_at hs hA hx hy).mpr (by rw [e]; exact fun z => nomatch z), ?_⟩
      rw [nOpp_at hs hA e, nOpp_at hs hA e2]
      exact fun z => (mAdj_at hs hA (hs.at e).2.2.2.1 (hs.at e2).2.2.2.1).mp z e3
end NQ
/-- a bijection counts alike -/
theorem kCnt_bij : ∀ (m n : Nat) (P Q : Nat → Prop) [DecidablePred P] [DecidablePred Q] (g : Nat → Nat), (∀ s, s < m → P s → g s < n ∧ Q (g s)) → (∀ s t, s < m → t < m → P s → P t → g s = g t → s = t) → (∀ y, y < n → Q y → ∃ s, s < m ∧ P s ∧ g s = y) → kCnt P m = kCnt Q n
  | 0, n, P, Q, _, _, g, h1, h2, h3 => by
    symm
    show kCnt Q n = 0
    exact kCnt_0.mpr fun y hy hq => by obtain ⟨s, hs, _⟩ := h3 y hy hq; exact absurd hs (Nat.not_lt_zero _)
  | m + 1, n, P, Q, _, _, g, h1, h2, h3 => by
    simp only [kCnt]
    by_cases p : P m
    · have hm := h1 m (by omega) p
      rw [if_pos p]
      have e := kCnt_bij m n P (fun y => Q y ∧ y ≠ g m) g (fun s hs hp => ⟨(h1 s (by omega) hp).1, (h1 s (by omega) hp).2, fun z => by have := h2 s m (by omega) (by omega) hp p z; omega⟩) (fun s t hs ht => h2 s t (by omega) (by omega)) (fun y hy hq => by
        obtain ⟨s, hs, hp, e⟩ := h3 y hy hq.1
        exact ⟨s, (by by_cases z : s = m; exact absurd (by rw [← e, z]) hq.2; omega), hp, e⟩)
      rw [e]
      exact kCnt_rm (P := Q) (Q := fun y => Q y ∧ y ≠ g m) hm.1 hm.2 (fun _ _ => Iff.rfl)
    · rw [if_neg p, Nat.add_zero]
      exact kCnt_bij m n P Q g (fun s hs => h1 s (by omega)) (fun s t hs ht => h2 s t (by omega) (by omega)) (fun y hy hq => by
        obtain ⟨s, hs, hp, e⟩ := h3 y hy hq
        exact ⟨s, (by by_cases z : s = m; exact absurd (z ▸ hp) p; omega), hp, e⟩)
section NQ2
variable {cc fc : Nat} {A T : Nat → Int32} {N : Nat → Nat} {th : nTh} {fo : Nat → Nat → Nat}
/-- as many faces as neighbours -/
theorem nAt_deg (hs : nSt cc fc N th fo) (hA : nNam A N fc) {x : Nat} (hx : x < cc) : nAt A (nI x) (3 * fc) = mDeg A fc (nI x) cc := by
  have h16 := hs.2.1
  have hP : ∀ s, s < 3 * fc → (A s = nI x ↔ N s = x) := fun s h => by
    have := hs.2.2.2.1 s h
    rw [hA s h, nI_eq (by omega) (by omega)]
  refine kCnt_bij (3 * fc) cc _ _ (fun s => N (mNx s)) (fun s h p => ?_) (fun s t h1 h2 p1 p2 e => ?_) (fun y hy q => ?_)
  · have p := (hP s h).mp p
    have h3 := spot_th hs h
    rw [p] at h3
    exact ⟨hs.2.2.2.1 _ (mNx_lt h), (mAdj_at hs hA hx (hs.2.2.2.1 _ (mNx_lt h))).mpr (by rw [h3.1]; exact fun z => nomatch z)⟩
  · have p1 := (hP s h1).mp p1
    have p2 := (hP t h2).mp p2
    have a := spot_th hs h1
    have b := spot_th hs h2
    have e : N (mNx s) = N (mNx t) := e
    rw [p1] at a; rw [p2] at b
    rw [e] at a
    have e3 : s / 3 = t / 3 := by rw [← a.2, ← b.2]
    obtain ⟨c1, c2, c3⟩ := hs.2.2.2.2.1.1 (s / 3) (by omega)
    have hst : N s = N t := by rw [p1, p2]
    refine Decidable.byContradiction fun z => ?_
    rcases (show s = 3 * (s / 3) ∨ s = 3 * (s / 3) + 1 ∨ s = 3 * (s / 3) + 2 by omega) with q | q | q <;> rcases (show t = 3 * (s / 3) ∨ t = 3 * (s / 3) + 1 ∨ t = 3 * (s / 3) + 2 by omega) with r | r | r <;> first | (exact z (q.trans r.symm)) | (rw [q, r] at hst; omega)
  · have q := (mAdj_at hs hA hx hy).mp q
    obtain ⟨s, a, b, c⟩ := (spots_th hs).mpr q
    exact ⟨s, a, (hP s a).mpr b, c⟩
theorem nMost_m (hs : nSt cc fc N th fo) (hA : nNam A N fc) : ∀ n, n ≤ cc → nMost A fc n = mMost A fc cc n
  | 0, _ => rfl
  | n + 1, h => by rw [nMost, mMost, nMost_m hs hA n (by omega), nAt_deg hs hA (by omega)]
/-- flips are counted from either end -/
theorem kCnt2_cg {P Q : Nat → Nat → Prop} [∀ a b, Decidable (P a b)] [∀ a b, Decidable (Q a b)] : ∀ n, (∀ a b, a < n → b < a → (P a b ↔ Q a b)) → kCnt2 P n = kCnt2 Q n
  | 0, _ => rfl
  | n + 1, h => by
    simp only [kCnt2]
    rw [kCnt2_cg n (fun a b ha => h a b (by omega)), kCnt_cg (fun b hb => h n b (by omega) hb)]
theorem flips_m (hs : nSt cc fc N th fo) (hA : nNam A N fc) (hT : nTab T th) : kCnt2 (fun x9 y9 => nCanFlip T cc (nI y9) (nI x9)) cc = kCnt2 (fun a b => mCanFlip A fc (nI a) (nI b)) cc := by
  refine kCnt2_cg cc fun a b ha hb => ?_
  rw [(flip_th hs hA hT (x := b) (y := a) (by omega) ha).1, (flip_th hs hA hT (x := a) (y := b) ha (by omega)).2]
  constructor
  · rintro ⟨u, v, e1, e2, e3⟩
    exact ⟨v, u, e2, e1, Decidable.byContradiction fun z => hs.sym z e3⟩
  · rintro ⟨u, v, e1, e2, e3⟩
    exact ⟨v, u, e2, e1, Decidable.byContradiction fun z => hs.sym z e3⟩
end NQ2
