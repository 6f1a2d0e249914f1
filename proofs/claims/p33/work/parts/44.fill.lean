/-! the class's table of wires: its determinants are the reference's counts -/
theorem zInj_le {n m : Nat} {z : Nat → Nat} (h : zInj n z) (hm : m ≤ n) : zInj m z := fun a b ha hb => h a b (by omega) (by omega)
theorem mxD_inj (sz : Nat) (hsz : sz ≤ 5) : ∀ (n k : Nat) (z : Nat → Nat) (M : Nat → Nat → Int64) (pb sg : Int64), k + n ≤ sz → zInj 5 z → zInj 5 (mxD sz n k z M pb sg).2.1
  | 0, _, _, _, _, _, _, hz => hz
  | n + 1, k, z, M, pb, sg, hk, hz => by
    by_cases h1 : mxPv (mxN z M) k (sz - k) k = -1
    · rw [mxD_0 h1]; exact hz
    · obtain ⟨t, ht1, ht2, et⟩ := mxPv_in (mxN z M) k (sz - k) k h1
      by_cases h2 : t = k
      · rw [mxD_e h1 (by rw [et, h2])]
        exact mxD_inj sz hsz n (k + 1) _ _ _ _ (by omega) hz
      · rw [mxD_s h1 et h2 (by omega) (by omega)]
        exact mxD_inj sz hsz n (k + 1) _ _ _ _ (by omega) (zInj_swap hz (by omega) (by omega))
theorem lnOf_skip {a g n : Nat} (ha : a < n + 1) (hg : g < n + 1) (hag : a ≠ g) : ∃ l, l < n ∧ lnOf a g = nI l ∧ ∀ i, (dSkip g i = a ↔ i = l) := by
  by_cases h : a < g
  · refine ⟨a, by omega, by rw [lnOf, if_neg hag, if_pos h], fun i => ?_⟩
    unfold dSkip; split <;> omega
  · refine ⟨a - 1, by omega, by rw [lnOf, if_neg hag, if_neg h], fun i => ?_⟩
    unfold dSkip; split <;> omega
theorem lnOf_eq (a : Nat) : lnOf a a = -1 := if_pos rfl
theorem mxAdd_at {n : Nat} (hn : n ≤ 5) {z : Nat → Nat} (hz : zInj n z) (M : Nat → Nat → Int64) {x y g : Nat} (hx : x < n + 1) (hy : y < n + 1) (hg : g < n + 1) (w : Int64) (hw : w = 1 ∨ w = -1) {i j : Nat} (hi : i < n) (hj : j < n) (hb : (M (z i) j).toInt.natAbs ≤ 1000) : (mxAdd z M (lnOf x g) (lnOf y g) w (z i) j).toInt = (M (z i) j).toInt + w.toInt * (tD (dSkip g i) x * tD (dSkip g j) y) := by
  by_cases h1 : x = g
  · subst h1
    rw [mxAdd, if_pos (Or.inl (lnOf_eq x)), tD_n (dSkip_ne x i)]; omega
  · by_cases h2 : y = g
    · subst h2
      rw [mxAdd, if_pos (Or.inr (lnOf_eq y)), tD_n (dSkip_ne y j)]; grind
    · obtain ⟨lx, hlx, ex, sx⟩ := lnOf_skip hx hg h1
      obtain ⟨ly, hly, ey, sy⟩ := lnOf_skip hy hg h2
      rw [mxAdd, ex, ey, if_neg (fun q => q.elim (nI_ne1 (by omega)) (nI_ne1 (by omega))), nI_clamp (by omega), nI_clamp (by omega), mxSet]
      by_cases q1 : i = lx
      · subst q1
        rw [if_pos rfl, (sx i).mpr rfl, tD_s]
        simp only [vp_updL]
        by_cases q2 : j = ly
        · subst q2
          rw [if_pos rfl, (sy j).mpr rfl, tD_s]
          rcases hw with rfl | rfl
          · rw [z_add] <;> rw [show (1 : Int64).toInt = 1 from rfl] <;> omega
          · rw [z_add] <;> rw [show (-1 : Int64).toInt = -1 from rfl] <;> omega
        · rw [if_neg q2, tD_n (fun z => q2 ((sy j).mp z))]; omega
      · rw [if_neg (fun q => q1 (hz _ _ hi hlx q)), tD_n (fun z => q1 ((sx i).mp z))]; omega
theorem tD_01 (a b : Nat) : tD a b = 0 ∨ tD a b = 1 := by
  unfold tD; split
  · exact Or.inr rfl
  · exact Or.inl rfl
theorem mxWire_at {n : Nat} (hn : n ≤ 5) {z : Nat → Nat} (hz : zInj n z) (M : Nat → Nat → Int64) {x y g : Nat} (hx : x < n + 1) (hy : y < n + 1) (hg : g < n + 1) {i j : Nat} (hi : i < n) (hj : j < n) (hb : (M (z i) j).toInt.natAbs ≤ 500) : (mxWire z g x y M (z i) j).toInt = (M (z i) j).toInt + tV x y (dSkip g i) * tV x y (dSkip g j) := by
  have one : (1 : Int64).toInt = 1 := rfl
  have mone : (-1 : Int64).toInt = -1 := rfl
  have b := tD_01 (dSkip g i) x
  have b2 := tD_01 (dSkip g i) y
  have b3 := tD_01 (dSkip g j) x
  have b4 := tD_01 (dSkip g j) y
  have p : ∀ a c : Int, (a = 0 ∨ a = 1) → (c = 0 ∨ c = 1) → 0 ≤ a * c ∧ a * c ≤ 1 := fun a c ha hc => by
    rcases ha with rfl | rfl <;> rcases hc with rfl | rfl <;> decide
  have p1 := p _ _ b b3
  have p2 := p _ _ b2 b4
  have p3 := p _ _ b b4
  have p4 := p _ _ b2 b3
  have a1 := mxAdd_at hn hz M hx hx hg 1 (Or.inl rfl) hi hj (by omega)
  rw [one] at a1
  have a2 := mxAdd_at hn hz (mxAdd z M (lnOf x g) (lnOf x g) 1) hy hy hg 1 (Or.inl rfl) hi hj (by rw [a1]; omega)
  rw [one, a1] at a2
  have a3 := mxAdd_at hn hz (mxAdd z (mxAdd z M (lnOf x g) (lnOf x g) 1) (lnOf y g) (lnOf y g) 1) hx hy hg (-1) (Or.inr rfl) hi hj (by rw [a2]; omega)
  rw [mone, a2] at a3
  have a4 := mxAdd_at hn hz (mxAdd z (mxAdd z (mxAdd z M (lnOf x g) (lnOf x g) 1) (lnOf y g) (lnOf y g) 1) (lnOf x g) (lnOf y g) (-1)) hy hx hg (-1) (Or.inr rfl) hi hj (by rw [a3]; omega)
  rw [mone, a3] at a4
  rw [mxWire, a4]
  simp only [tV]
  grind
theorem tV_bd (x y i j : Nat) : (tV x y i * tV x y j).natAbs ≤ 1 := by
  simp only [tV]
  rcases tD_01 i x with a | a <;> rcases tD_01 i y with b | b <;> rcases tD_01 j x with c | c <;> rcases tD_01 j y with d | d <;> rw [a, b, c, d] <;> decide
theorem tS_bd (p e1 e2 : Nat → Nat) (i j : Nat) : ∀ m w, (tS p e1 e2 m w i j).natAbs ≤ m
  | 0, w => by simp [tS]
  | m + 1, w => by
    rw [tS]
    have h1 := tS_bd p e1 e2 i j m (w + 1)
    have h2 := tV_bd (p (e1 w)) (p (e2 w)) i j
    omega
theorem mxClr_at {z : Nat → Nat} {M : Nat → Nat → Int64} {i j : Nat} (hj : j < 5) : ∀ k, i < k → mxClr z k M (z i) j = 0
  | 0, h => by omega
  | k + 1, h => by
    show mxSet (mxClr z k M) (z k) (fun j => if j < 5 then 0 else mxClr z k M (z k) j) (z i) j = 0
    rw [mxSet]
    by_cases q : z i = z k
    · rw [if_pos q, if_pos hj]
    · rw [if_neg q]
      exact mxClr_at hj k (by by_cases e : i = k; exact absurd (by rw [e]) q; omega)
section Fill
variable {n sz g : Nat} {z e1 e2 : Nat → Nat} {M : Nat → Nat → Int64}
theorem mxWires_at (hn : n ≤ 5) (hz : zInj n z) (he : ∀ k, k < sz → e1 k < n + 1 ∧ e2 k < n + 1) (hg : g < n + 1) {i j : Nat} (hi : i < n) (hj : j < n) (h0 : M (z i) j = 0) (hsz : sz ≤ 10) : ∀ k, k ≤ sz → (mxWires z e1 e2 g k M (z i) j).toInt = tS tId e1 e2 k 0 (dSkip g i) (dSkip g j)
  | 0, _ => by show (M (z i) j).toInt = 0; rw [h0]; rfl
  | k + 1, hk => by
    have ih := mxWires_at hn hz he hg hi hj h0 hsz k (by omega)
    have hw := he k (by omega)
    have hb := tS_bd tId e1 e2 (dSkip g i) (dSkip g j) k 0
    rw [tS_snoc, Nat.zero_add, ← ih]
    exact mxWire_at hn hz _ hw.1 hw.2 hg hi hj (by rw [ih]; omega)
theorem mxFill_at (hn : n ≤ 5) (hz : zInj n z) (he : ∀ k, k < sz → e1 k < n + 1 ∧ e2 k < n + 1) (hg : g < n + 1) (hsz : sz ≤ 10) {i j : Nat} (hi : i < n) (hj : j < n) : (mxFill z e1 e2 (n + 1) sz g M (z i) j).toInt = tS tId e1 e2 sz 0 (dSkip g i) (dSkip g j) :=
  mxWires_at hn hz he hg hi hj (mxClr_at (by omega) _ (by omega)) hsz sz (Nat.le_refl _)
theorem tOn_skip (hg : g < n + 1) {i : Nat} (hi : i < n) : tOn (n + 1) g (dSkip g i) = true := decide_eq_true ⟨dSkip_lt hi, dSkip_ne g i⟩
theorem tOn_g (hg : g < n + 1) : ¬ tOn (n + 1) g g = true := fun h => (of_decide_eq_true h).2 rfl
/-- the trees, counted by the table -/
theorem class_trees (hn : n ≤ 5) (hz : zInj 5 z) (he : ∀ k, k < sz → e1 k < n + 1 ∧ e2 k < n + 1) (hsz : sz ≤ 10) : (mxDet n z (mxFill z e1 e2 (n + 1) sz 0 M)).1.toInt = (mTrees e1 e2 (n + 1) sz : Int) := by
  have hz2 := zInj_le hz hn
  have at1 : ∀ i j, i < n → j < n → (mxFill z e1 e2 (n + 1) sz 0 M (z i) j).toInt = tS tId e1 e2 sz 0 (dSkip 0 i) (dSkip 0 j) := fun i j hi hj => mxFill_at hn hz2 he (by omega) hsz hi hj
  have h1 := (mxDet_det (M := mxFill z e1 e2 (n + 1) sz 0 M) hn hz2 (fun i j hi hj => by rw [at1 i j hi hj]; exact Nat.le_trans (tS_bd _ _ _ _ _ _ _) hsz)).1
  rw [h1, mTrees_det (g := 0) (by omega) (by omega) he, dDet_unit n 0 0 _ (by omega) (by omega)]
  · rw [show dSgn (0 + 0) = 1 from rfl, Int.one_mul]
    refine dDet_c fun i j hi hj => ?_
    rw [at1 i j hi hj, tA, if_pos ⟨tOn_skip (by omega) hi, tOn_skip (by omega) hj⟩]
  · intro j _
    rw [tA, if_neg (fun q => tOn_g (n := n) (g := 0) (by omega) q.1), tD_c, tD]
  · intro j _
    rw [tA, if_neg (fun q => tOn_g (n := n) (g := 0) (by omega) q.2), tD]
theorem mxCol_at (hn : n ≤ 5) (hz : zInj n z) (cl : Nat) (ln : Int32) {i j : Nat} (hi : i < n) : ∀ k, k ≤ n → mxCol z cl ln k M (z i) j = if i < k ∧ j = cl then (if nI i = ln then 1 else 0) else M (z i) j
  | 0, _ => by rw [if_neg (by omega)]; rfl
  | k + 1, hk => by
    have ih := mxCol_at hn hz cl ln (i := i) (j := j) hi k (by omega)
    show mxSet (mxCol z cl ln k M) (z k) (vp_updL (mxCol z cl ln k M (z k)) cl (if nI k = ln then 1 else 0)) (z i) j = _
    rw [mxSet]
    by_cases q : i = k
    · subst q
      rw [if_pos rfl]
      simp only [vp_updL]
      by_cases q2 : j = cl
      · rw [if_pos q2, if_pos (show i < i + 1 ∧ j = cl from ⟨by omega, q2⟩)]
      · rw [if_neg q2, ih, if_neg (by omega), if_neg (by omega)]
    · rw [if_neg (fun h => q (hz _ _ hi (by omega) h)), ih]
      by_cases q2 : i < k ∧ j = cl
      · rw [if_pos q2, if_pos (show i < k + 1 ∧ j = cl from ⟨by omega, q2.2⟩)]
      · rw [if_neg q2, if_neg (show ¬ (i < k + 1 ∧ j = cl) from fun z => q2 ⟨by omega, z.2⟩)]
/-- a height, by Cramer's rule -/
theorem class_height (hn : n ≤ 5) (hz : zInj 5 z) (he : ∀ k, k < sz → e1 k < n + 1 ∧ e2 k < n + 1) (hsz : sz ≤ 10) {a b t : Nat} (ha : a < n + 1) (hb : b < n + 1) (ht : t < n + 1) (hbt : b ≠ t) : (mxH z e1 e2 (n + 1) sz M a b t).1.toInt = (mHeight e1 e2 (n + 1) sz b t a : Int) := by
  by_cases hat : a = t
  · subst hat
    rw [height_0, mxH, if_pos (lnOf_eq a)]; rfl
  · have hz2 := zInj_le hz hn
    obtain ⟨la, hla, ea, sa⟩ := lnOf_skip ha ht hat
    obtain ⟨lb, hlb, eb, sb⟩ := lnOf_skip hb ht hbt
    rw [mxH, if_neg (by rw [ea]; exact nI_ne1 (by omega)), ea, eb, nI_clamp (by omega), Nat.add_sub_cancel]
    have at1 : ∀ i j, i < n → j < n → (mxCol z la (nI lb) n (mxFill z e1 e2 (n + 1) sz t M) (z i) j).toInt = if dSkip t j = a then tD (dSkip t i) b else tS tId e1 e2 sz 0 (dSkip t i) (dSkip t j) := fun i j hi hj => by
      rw [mxCol_at hn hz2 la (nI lb) hi n (Nat.le_refl _)]
      by_cases q : j = la
      · rw [if_pos ⟨hi, q⟩, if_pos ((sa j).mpr q)]
        by_cases q2 : i = lb
        · rw [if_pos (by rw [q2]), (sb i).mpr q2, tD_s]; rfl
        · rw [if_neg (fun h => q2 ((nI_eq (by omega) (by omega)).mp h)), tD_n (fun h => q2 ((sb i).mp h))]; rfl
      · rw [if_neg (fun h => q h.2), if_neg (fun h => q ((sa j).mp h))]
        exact mxFill_at hn hz2 he ht hsz hi hj
    have h1 := (mxDet_det (M := mxCol z la (nI lb) n (mxFill z e1 e2 (n + 1) sz t M)) hn hz2 (fun i j hi hj => by
      rw [at1 i j hi hj]
      split
      · rcases tD_01 (dSkip t i) b with q | q <;> rw [q] <;> decide
      · exact Nat.le_trans (tS_bd _ _ _ _ _ _ _) hsz)).1
    rw [h1, height_det ht (by omega) he hb hbt ha hat, dDet_unit n t t _ ht ht]
    · rw [dSgn_a, dSgn_q, Int.one_mul]
      refine dDet_c fun i j hi hj => ?_
      rw [at1 i j hi hj]
      split
      · rfl
      · rw [tA, if_pos ⟨tOn_skip ht hi, tOn_skip ht hj⟩]
    · intro j _
      split
      · rename_i q
        rw [tD_n (Ne.symm hbt), if_neg (by rw [q]; exact hat)]
      · rw [tA, if_neg (fun q => tOn_g ht q.1), tD_c, tD]
    · intro j _
      rw [if_neg (Ne.symm hat), tA, if_neg (fun q => tOn_g ht q.2), tD]
end Fill
