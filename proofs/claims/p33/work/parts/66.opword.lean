/-! fractions; the product of moves; moves told and appended -/
def c_ford (m : pSt) (x1 x2 x3 x4 : Int32) : pRI := if mFr x1 x2 1 ∧ mFr x3 x4 1 then (0, mFord (mCross x1 x2 x3 x4), m) else (2, 0, m)
def c_between (m : pSt) (x1 x2 x3 x4 x5 : Int32) : pRJ := if mFr x1 x2 1 ∧ mFr x3 x4 1 ∧ ¬ mCross x1 x2 x3 x4 = 0 then (0, (if mCross x1 x2 x3 x4 < 0 then cSide x5 x1 x2 x3 x4 else cSide x5 x3 x4 x1 x2), m) else (2, 0, m)
def c_word (m : pSt) (x1 : Int32) : pRI := if mRg x1 (0) 4 then (0, (if x1.toNatClampNeg = 4 then nI (mKind m.pr) else (m.pr x1.toNatClampNeg).toInt32), m) else (1, 0, m)
def c_image (m : pSt) (x1 x2 x3 : Int32) : pRJ := if cImOk x1 x2 then (0, cIm (m.pr 0) (m.pr 1) (m.pr 2) (m.pr 3) x1 x2 x3, m) else (2, 0, m)
def c_home (m : pSt) : pRI := (0, (m.pr 0 + m.pr 3).toInt32, (pMk m.cc m.fc m.nd m.ng m.nm m.nc m.nw m.fa m.dx m.dy m.dr m.fo m.ro m.mv (mW0) m.ea m.eb))
def pB19 (g : Nat → Int64) (n : Nat) (a b c d : Int64) : Nat → Int64 := vp_updL (vp_updL (vp_updL (vp_updL g (4 * n) a) (4 * n + 1) b) (4 * n + 2) c) (4 * n + 3) d
def c_tell (m : pSt) (x1 x2 x3 x4 : Int32) : pRI := if mTl x1 x2 x3 x4 then (if 4 ≤ m.nm then (3, 0, m) else (0, nI m.nm, (pMk m.cc m.fc m.nd m.ng (m.nm + 1) m.nc m.nw m.fa m.dx m.dy m.dr m.fo m.ro (pB19 m.mv m.nm x1.toInt64 x2.toInt64 x3.toInt64 x4.toInt64) m.pr m.ea m.eb))) else (2, 0, m)
def pMul (W : Nat → Int64) (a b c d : Int64) : Nat → Int64 := fun k => if k = 0 then W 0 * a + W 1 * c else if k = 1 then W 0 * b + W 1 * d else if k = 2 then W 2 * a + W 3 * c else W 2 * b + W 3 * d
def pPrd (W V : Nat → Int64) (i : Nat) (x2 : Int32) : Nat → Int64 := if x2 = 0 then pMul W (V (4 * i)) (V (4 * i + 1)) (V (4 * i + 2)) (V (4 * i + 3)) else pMul W (V (4 * i + 3)) (-V (4 * i + 1)) (-V (4 * i + 2)) (V (4 * i))
abbrev pIn4 (W : Nat → Int64) : Prop := cIn (W 0) 1000000000 ∧ cIn (W 1) 1000000000 ∧ cIn (W 2) 1000000000 ∧ cIn (W 3) 1000000000
def c_append (m : pSt) (x1 x2 : Int32) : pRI := if mIn x1 m.nm then (if pIn4 (pPrd m.pr m.mv x1.toNatClampNeg x2) then (0, (pPrd m.pr m.mv x1.toNatClampNeg x2 0 + pPrd m.pr m.mv x1.toNatClampNeg x2 3).toInt32, (pMk m.cc m.fc m.nd m.ng m.nm m.nc m.nw m.fa m.dx m.dy m.dr m.fo m.ro m.mv (pPrd m.pr m.mv x1.toNatClampNeg x2) m.ea m.eb)) else (3, 0, m)) else (1, 0, m)
theorem cross_i {a b c d : Int32} (h1 : mFr a b 1) (h2 : mFr c d 1) : (mCross a b c d).toInt = a.toInt * d.toInt - b.toInt * c.toInt := by
  have ea : a.toInt64.toInt = a.toInt := Int32.toInt_toInt64 a
  have eb : b.toInt64.toInt = b.toInt := Int32.toInt_toInt64 b
  have ec : c.toInt64.toInt = c.toInt := Int32.toInt_toInt64 c
  have ed : d.toInt64.toInt = d.toInt := Int32.toInt_toInt64 d
  obtain ⟨⟨a1, a2⟩, ⟨b1, b2⟩, _⟩ := h1
  obtain ⟨⟨c1, c2⟩, ⟨d1, d2⟩, _⟩ := h2
  have p1 := mul_bd a1 a2 (show -1000000000 ≤ d.toInt by omega) d2
  have p2 := mul_bd (show -1000000000 ≤ b.toInt by omega) b2 c1 c2
  have e1 : (a.toInt64 * d.toInt64).toInt = a.toInt * d.toInt := by rw [z_mul, ea, ed] <;> rw [ea, ed] <;> omega
  have e2 : (b.toInt64 * c.toInt64).toInt = b.toInt * c.toInt := by rw [z_mul, eb, ec] <;> rw [eb, ec] <;> omega
  rw [mCross, z_sub (by rw [e1, e2]; omega) (by rw [e1, e2]; omega), e1, e2]
theorem cross_hi {a b c d : Int32} (h1 : mFr a b 1) (h2 : mFr c d 1) (h3 : ¬ mCross a b c d = 0) (h4 : ¬ mCross a b c d < 0) : mCross c d a b < 0 := by
  have e1 := cross_i h1 h2
  have e2 := cross_i h2 h1
  have q1 : ¬ (mCross a b c d).toInt = 0 := fun z => h3 (z_0.mp z)
  have q2 : ¬ (mCross a b c d).toInt < (0 : Int64).toInt := fun z => h4 (lt64.mpr z)
  refine lt64.mpr ?_
  have z0 : (0 : Int64).toInt = 0 := rfl
  rw [e2, Int.mul_comm c.toInt, Int.mul_comm d.toInt]
  omega
theorem cop_ford {l : Launch} (hst : l.stackTraces = false) {G : kG} {B0 h : Nat} {f : kH} {o : Nat → Nat} {c : cSt} {m : pSt} (hI : Inv2 G h f o c m) (x1 x2 x3 x4 : Int32) : cI l G B0 h f yX8_ford wsX8_ford [.int x1, .int x2, .int x3, .int x4] (c_ford m x1 x2 x3 x4) := by
  unfold c_ford
  by_cases ha : cFra x1 x2
  · by_cases hb : cFra x3 x4
    · rw [if_pos ⟨cFra_m.mp ha, cFra_m.mp hb⟩]
      have hr9 : (if x1.toInt64 * x4.toInt64 - x3.toInt64 * x2.toInt64 = 0 then nI 2 else if x1.toInt64 * x4.toInt64 - x3.toInt64 * x2.toInt64 = 1 ∨ x1.toInt64 * x4.toInt64 - x3.toInt64 * x2.toInt64 = -1 then nI 1 else nI 0) = mFord (mCross x1 x2 x3 x4) := by rw [cross_m]; rfl
      exact cI_ok ⟨rfl, rfl, Nat.le_of_ble_eq_true rfl, Nat.le_of_ble_eq_true rfl, Nat.le_of_ble_eq_true rfl, Nat.le_of_ble_eq_true rfl⟩ (kX8_ford l G B0 f h x1 x2 x3 x4 ha hb) (fun r f1 hp => ⟨hp.1.trans hr9, hI.same _ hp.2⟩)
    · rw [if_neg (fun z => hb (cFra_m.mpr z.2))]
      exact cI_no 2 ⟨by omega, by omega⟩ ⟨rfl, rfl, Nat.le_of_ble_eq_true rfl, Nat.le_of_ble_eq_true rfl, Nat.le_of_ble_eq_true rfl, Nat.le_of_ble_eq_true rfl⟩ (kX8_ford_b2 l hst G B0 f h x1 x2 x3 x4 ha hb) hI.same
  · rw [if_neg (fun z => ha (cFra_m.mpr z.1))]
    exact cI_no 2 ⟨by omega, by omega⟩ ⟨rfl, rfl, Nat.le_of_ble_eq_true rfl, Nat.le_of_ble_eq_true rfl, Nat.le_of_ble_eq_true rfl, Nat.le_of_ble_eq_true rfl⟩ (kX8_ford_b1 l hst G B0 f h x1 x2 x3 x4 ha) hI.same
theorem cop_between {l : Launch} (hst : l.stackTraces = false) {G : kG} {B0 h : Nat} {f : kH} {o : Nat → Nat} {c : cSt} {m : pSt} (hI : Inv2 G h f o c m) (x1 x2 x3 x4 x5 : Int32) : cJ l G B0 h f yX8_between wsX8_between [.int x1, .int x2, .int x3, .int x4, .int x5] (c_between m x1 x2 x3 x4 x5) := by
  unfold c_between
  by_cases ha : cFra x1 x2
  · by_cases hb : cFra x3 x4
    · by_cases hne : mCross x1 x2 x3 x4 = 0
      · rw [if_neg (fun z => z.2.2 hne)]
        exact cJ_no 2 ⟨by omega, by omega⟩ ⟨rfl, rfl, Nat.le_of_ble_eq_true rfl, Nat.le_of_ble_eq_true rfl, Nat.le_of_ble_eq_true rfl, Nat.le_of_ble_eq_true rfl⟩ (kX8_between_b3 l hst G B0 f h x1 x2 x3 x4 x5 ha hb (by rw [cross_m]; exact hne)) hI.same
      · rw [if_pos ⟨cFra_m.mp ha, cFra_m.mp hb, hne⟩]
        exact cJ_ok ⟨rfl, rfl, Nat.le_of_ble_eq_true rfl, Nat.le_of_ble_eq_true rfl, Nat.le_of_ble_eq_true rfl, Nat.le_of_ble_eq_true rfl⟩ (kX8_between l G B0 f h x1 x2 x3 x4 ha hb x5 (by rw [cross_m]; exact hne)) (fun r f1 hp => ⟨hp.1.trans (by rw [cross_m]), hI.same _ hp.2⟩)
    · rw [if_neg (fun z => hb (cFra_m.mpr z.2.1))]
      exact cJ_no 2 ⟨by omega, by omega⟩ ⟨rfl, rfl, Nat.le_of_ble_eq_true rfl, Nat.le_of_ble_eq_true rfl, Nat.le_of_ble_eq_true rfl, Nat.le_of_ble_eq_true rfl⟩ (kX8_between_b2 l hst G B0 f h x1 x2 x3 x4 x5 ha hb) hI.same
  · rw [if_neg (fun z => ha (cFra_m.mpr z.1))]
    exact cJ_no 2 ⟨by omega, by omega⟩ ⟨rfl, rfl, Nat.le_of_ble_eq_true rfl, Nat.le_of_ble_eq_true rfl, Nat.le_of_ble_eq_true rfl, Nat.le_of_ble_eq_true rfl⟩ (kX8_between_b1 l hst G B0 f h x1 x2 x3 x4 x5 ha) hI.same
theorem Inv2.stepH {G : kG} {h : Nat} {f f1 : kH} {o : Nat → Nat} {c c1 : cSt} {m m1 : pSt} (hI : Inv2 G h f o c m) (hK : kKp [h] f f1) (h0 : kCs f1 (cHd h c1))
    (h6 : cPt G h c1 m1 6 (kR (oN o 6 f) 6 f1)) (hoth : ∀ j g, j ≠ 0 → j ≠ 6 → cPt G h c m j g → cPt G h c1 m1 j g) : Inv2 G h f1 (oN o 6 f) c1 m1 := fun j => by
  have hh := kCs_mem (hI 0) _ List.mem_cons_self
  by_cases hj : j = 6
  · subst hj; exact h6
  · by_cases hj0 : j = 0
    · subst hj0
      refine ⟨fun q hq => ?_, h0.2⟩
      rw [List.mem_singleton.mp hq]
      exact kR_some.mpr ⟨(oN_old hh.2).trans hh.1, h0.at 0 rfl⟩
    · exact hoth j _ hj0 hj ((hI j).le (kR_oth hK (fun a ha q => by rw [List.mem_singleton.mp ha] at q; have := hh.1; dsimp only at this; omega)))
theorem kind_m {W : Nat → Int64} (hb : ∀ k, k < 4 → (W k).toInt.natAbs ≤ 1000000000) : cKind (W 0) (W 1) (W 2) (W 3) = nI (mKind W) := by
  have b0 := hb 0 (by omega)
  have b3 := hb 3 (by omega)
  have es : (W 0 + W 3).toInt = (W 0).toInt + (W 3).toInt := z_add (by omega) (by omega)
  have z0 : (0 : Int64).toInt = 0 := rfl
  have z1 : (1 : Int64).toInt = 1 := rfl
  have z2 : (2 : Int64).toInt = 2 := rfl
  have z1' : (-1 : Int64).toInt = -1 := rfl
  have z2' : (-2 : Int64).toInt = -2 := rfl
  have ej : (jAbs (W 0 + W 3)).toInt = ((W 0).toInt + (W 3).toInt).natAbs := by
    by_cases q : 0 < W 0 + W 3
    · have := lt64.mp q
      rw [show jAbs (W 0 + W 3) = W 0 + W 3 from if_pos q, es]; omega
    · have : ¬ (0 : Int64).toInt < (W 0 + W 3).toInt := fun z => q (lt64.mpr z)
      rw [show jAbs (W 0 + W 3) = -(W 0 + W 3) from if_neg q, Int64.toInt_neg, es, Int.bmod_eq_of_le] <;> omega
  unfold cKind mKind
  by_cases q1 : W 1 = 0 ∧ W 2 = 0 ∧ W 0 = W 3
  · rw [if_pos q1, if_pos q1]
  · rw [if_neg q1, if_neg q1]
    have e1 : jAbs (W 0 + W 3) ≤ 1 ↔ (-1) ≤ W 0 + W 3 ∧ W 0 + W 3 ≤ 1 := by rw [le64, le64, le64, ej, es, z1, z1']; omega
    by_cases q2 : (-1) ≤ W 0 + W 3 ∧ W 0 + W 3 ≤ 1
    · rw [if_pos q2, if_pos (e1.mpr q2)]
    · rw [if_neg q2, if_neg (fun z => q2 (e1.mp z))]
      have e2 : jAbs (W 0 + W 3) = 2 ↔ (-2) ≤ W 0 + W 3 ∧ W 0 + W 3 ≤ 2 := by
        rw [← Int64.toInt_inj, le64, le64, ej, es, z2, z2']
        have q3 : ¬ (-1 ≤ (W 0).toInt + (W 3).toInt ∧ (W 0).toInt + (W 3).toInt ≤ 1) := fun z => q2 ⟨le64.mpr (by rw [es, z1']; exact z.1), le64.mpr (by rw [es, z1]; exact z.2)⟩
        omega
      by_cases q4 : (-2) ≤ W 0 + W 3 ∧ W 0 + W 3 ≤ 2
      · rw [if_pos q4, if_pos (e2.mpr q4)]
      · rw [if_neg q4, if_neg (fun z => q4 (e2.mp z))]
theorem cop_word {l : Launch} (hst : l.stackTraces = false) {G : kG} {B0 h : Nat} {f : kH} {o : Nat → Nat} {c : cSt} {m : pSt} (hI : Inv2 G h f o c m) (x1 : Int32) : cI l G B0 h f yX8_word wsX8_word [.int x1] (c_word m x1) := by
  have hP6 : cPrd G (kR o 6 f) c m := hI 6
  obtain ⟨hp6, hb6⟩ := hP6
  have hH0 : kCs (kR o 0 f) (cHd h c) := hI 0
  have hW : kCs f [(h, .inr (8, [.ref c.sp, .ref c.dl, .ref c.gl, .ref c.rw, .ref c.ml, .ref c.pp, .ref c.nn])), (c.pp, .inr (6, [.long (m.pr 0), .long (m.pr 1), .long (m.pr 2), .long (m.pr 3)]))] := kCs_app hH0 hp6 (by decide)
  unfold c_word
  by_cases hv : mRg x1 (0) 4
  · rw [if_pos hv]
    obtain ⟨w, hw, rfl⟩ := mRg_ex (n := 4) (by omega) hv
    rw [nI_clamp (show w < 2 ^ 31 by omega)]
    have hcs : w = 0 ∨ w = 1 ∨ w = 2 ∨ w = 3 ∨ w = 4 := by omega
    rcases hcs with rfl | rfl | rfl | rfl | rfl
    · rw [if_neg (by decide)]
      exact cI_ok ⟨rfl, rfl, Nat.le_of_ble_eq_true rfl, Nat.le_of_ble_eq_true rfl, Nat.le_of_ble_eq_true rfl, Nat.le_of_ble_eq_true rfl⟩ (kX8_word_0 l G B0 f h c.pp (.ref c.sp) (.ref c.dl) (.ref c.gl) (.ref c.rw) (.ref c.ml) (.ref c.nn) (m.pr 0) (m.pr 1) (m.pr 2) (m.pr 3) hW) (fun r f1 hp => ⟨hp.1, hI.same _ hp.2⟩)
    · rw [if_neg (by decide)]
      exact cI_ok ⟨rfl, rfl, Nat.le_of_ble_eq_true rfl, Nat.le_of_ble_eq_true rfl, Nat.le_of_ble_eq_true rfl, Nat.le_of_ble_eq_true rfl⟩ (kX8_word_1 l G B0 f h c.pp (.ref c.sp) (.ref c.dl) (.ref c.gl) (.ref c.rw) (.ref c.ml) (.ref c.nn) (m.pr 0) (m.pr 1) (m.pr 2) (m.pr 3) hW) (fun r f1 hp => ⟨hp.1, hI.same _ hp.2⟩)
    · rw [if_neg (by decide)]
      exact cI_ok ⟨rfl, rfl, Nat.le_of_ble_eq_true rfl, Nat.le_of_ble_eq_true rfl, Nat.le_of_ble_eq_true rfl, Nat.le_of_ble_eq_true rfl⟩ (kX8_word_2 l G B0 f h c.pp (.ref c.sp) (.ref c.dl) (.ref c.gl) (.ref c.rw) (.ref c.ml) (.ref c.nn) (m.pr 0) (m.pr 1) (m.pr 2) (m.pr 3) hW) (fun r f1 hp => ⟨hp.1, hI.same _ hp.2⟩)
    · rw [if_neg (by decide)]
      exact cI_ok ⟨rfl, rfl, Nat.le_of_ble_eq_true rfl, Nat.le_of_ble_eq_true rfl, Nat.le_of_ble_eq_true rfl, Nat.le_of_ble_eq_true rfl⟩ (kX8_word_3 l G B0 f h c.pp (.ref c.sp) (.ref c.dl) (.ref c.gl) (.ref c.rw) (.ref c.ml) (.ref c.nn) (m.pr 0) (m.pr 1) (m.pr 2) (m.pr 3) hW) (fun r f1 hp => ⟨hp.1, hI.same _ hp.2⟩)
    · rw [if_pos rfl]
      exact cI_ok ⟨rfl, rfl, Nat.le_of_ble_eq_true rfl, Nat.le_of_ble_eq_true rfl, Nat.le_of_ble_eq_true rfl, Nat.le_of_ble_eq_true rfl⟩ (kX8_word_4 l G B0 f h c.pp (.ref c.sp) (.ref c.dl) (.ref c.gl) (.ref c.rw) (.ref c.ml) (.ref c.nn) (m.pr 0) (m.pr 1) (m.pr 2) (m.pr 3) hW) (fun r f1 hp => ⟨hp.1.trans (kind_m hb6), hI.same _ hp.2⟩)
  · rw [if_neg hv]
    exact cI_no 1 ⟨by omega, by omega⟩ ⟨rfl, rfl, Nat.le_of_ble_eq_true rfl, Nat.le_of_ble_eq_true rfl, Nat.le_of_ble_eq_true rfl, Nat.le_of_ble_eq_true rfl⟩ (kX8_word_b1 l hst G B0 f h c.pp (.ref c.sp) (.ref c.dl) (.ref c.gl) (.ref c.rw) (.ref c.ml) (.ref c.nn) (m.pr 0) (m.pr 1) (m.pr 2) (m.pr 3) x1 hW hv) hI.same
theorem cop_image {l : Launch} (hst : l.stackTraces = false) {G : kG} {B0 h : Nat} {f : kH} {o : Nat → Nat} {c : cSt} {m : pSt} (hI : Inv2 G h f o c m) (x1 x2 x3 : Int32) : cJ l G B0 h f yX8_image wsX8_image [.int x1, .int x2, .int x3] (c_image m x1 x2 x3) := by
  have hP6 : cPrd G (kR o 6 f) c m := hI 6
  obtain ⟨hp6, hb6⟩ := hP6
  have hH0 : kCs (kR o 0 f) (cHd h c) := hI 0
  have hW : kCs f [(h, .inr (8, [.ref c.sp, .ref c.dl, .ref c.gl, .ref c.rw, .ref c.ml, .ref c.pp, .ref c.nn])), (c.pp, .inr (6, [.long (m.pr 0), .long (m.pr 1), .long (m.pr 2), .long (m.pr 3)]))] := kCs_app hH0 hp6 (by decide)
  unfold c_image
  by_cases hv : cImOk x1 x2
  · rw [if_pos hv]
    exact cJ_ok ⟨rfl, rfl, Nat.le_of_ble_eq_true rfl, Nat.le_of_ble_eq_true rfl, Nat.le_of_ble_eq_true rfl, Nat.le_of_ble_eq_true rfl⟩ (kX8_image l G B0 f h c.pp (.ref c.sp) (.ref c.dl) (.ref c.gl) (.ref c.rw) (.ref c.ml) (.ref c.nn) (m.pr 0) (m.pr 1) (m.pr 2) (m.pr 3) x1 x2 x3 hW hv.1 hv.2.1 hv.2.2.1 hv.2.2.2.1 hv.2.2.2.2) (fun r f1 hp => ⟨hp.1, hI.same _ hp.2⟩)
  · rw [if_neg hv]
    exact cJ_no 2 ⟨by omega, by omega⟩ ⟨rfl, rfl, Nat.le_of_ble_eq_true rfl, Nat.le_of_ble_eq_true rfl, Nat.le_of_ble_eq_true rfl, Nat.le_of_ble_eq_true rfl⟩ (kX8_image_b1 l hst G B0 f h c.pp (.ref c.sp) (.ref c.dl) (.ref c.gl) (.ref c.rw) (.ref c.ml) (.ref c.nn) (m.pr 0) (m.pr 1) (m.pr 2) (m.pr 3) x1 x2 x3 hW hv) hI.same
theorem cop_home {l : Launch} {G : kG} {B0 h : Nat} {f : kH} {o : Nat → Nat} {c : cSt} {m : pSt} (hI : Inv2 G h f o c m)  : cI l G B0 h f yX8_home wsX8_home [] (c_home m) := by
  have hP6 : cPrd G (kR o 6 f) c m := hI 6
  obtain ⟨hp6, hb6⟩ := hP6
  have hH0 : kCs (kR o 0 f) (cHd h c) := hI 0
  have hW : kCs f [(h, .inr (8, [.ref c.sp, .ref c.dl, .ref c.gl, .ref c.rw, .ref c.ml, .ref c.pp, .ref c.nn])), (c.pp, .inr (6, [.long (m.pr 0), .long (m.pr 1), .long (m.pr 2), .long (m.pr 3)]))] := kCs_app hH0 hp6 (by decide)
  obtain ⟨e0, e1, e2, e3⟩ := mW0_0
  unfold c_home
  refine cI_ok ⟨rfl, rfl, Nat.le_of_ble_eq_true rfl, Nat.le_of_ble_eq_true rfl, Nat.le_of_ble_eq_true rfl, Nat.le_of_ble_eq_true rfl⟩ (kX8_home l G B0 f h c.pp (.ref c.sp) (.ref c.dl) (.ref c.gl) (.ref c.rw) (.ref c.ml) (.ref c.nn) (m.pr 0) (m.pr 1) (m.pr 2) (m.pr 3) hW) (fun r f1 hp => ?_)
  obtain ⟨q, hr, hq, h4, hK⟩ := hp
  refine ⟨hr, oN o 6 f, (cMk c.sp c.dl c.gl c.rw c.ml q c.nn), hI.stepH hK (h4.pick [0] (by decide) ⟨rfl, trivial⟩) ?_ (fun j g hj0 hj hP => ?_)⟩
  · refine ⟨?_, fun k hk => ?_⟩
    · show kCs _ [(q, .inr (6, [.long (mW0 0), .long (mW0 1), .long (mW0 2), .long (mW0 3)]))]
      rw [e0, e1, e2, e3]
      exact kCs_own (h4.pick [2] (by decide) ⟨rfl, trivial⟩) (fun x hx => by rw [List.mem_singleton.mp hx]; exact .inr hq)
    · show (mW0 k).toInt.natAbs ≤ 1000000000
      have hk4 : k = 0 ∨ k = 1 ∨ k = 2 ∨ k = 3 := by omega
      rcases hk4 with rfl | rfl | rfl | rfl
      · rw [e0]; decide
      · rw [e1]; decide
      · rw [e2]; decide
      · rw [e3]; decide
  · unfold cPt at hP ⊢
    split
    case h_1 => exact absurd rfl hj0
    case h_7 => exact absurd rfl hj
    all_goals first | exact hP | trivial
theorem cIn_k {x : Int32} {n : Nat} (hn : n < 2 ^ 31) : cIn x.toInt64 (nI n).toInt64 ↔ mRg x (-n) n := by
  have ex : x.toInt64.toInt = x.toInt := Int32.toInt_toInt64 x
  have en : (nI n).toInt64.toInt = n := nI64 hn
  have em : (-(nI n).toInt64).toInt = -(n : Int) := by rw [Int64.toInt_neg, en, Int.bmod_eq_of_le] <;> omega
  show (-(nI n).toInt64 ≤ x.toInt64 ∧ x.toInt64 ≤ (nI n).toInt64) ↔ _
  rw [le64, le64, em, en, ex]
theorem tl_iff {x1 x2 x3 x4 : Int32} : ((cIn x1.toInt64 (nI 1000).toInt64 ∧ cIn x2.toInt64 (nI 1000).toInt64 ∧ cIn x3.toInt64 (nI 1000).toInt64 ∧ cIn x4.toInt64 (nI 1000).toInt64) ∧ x1 * x4 - x2 * x3 = nI 1) ↔ mTl x1 x2 x3 x4 := by
  rw [cIn_k (by decide), cIn_k (by decide), cIn_k (by decide), cIn_k (by decide)]
  exact ⟨fun h => ⟨h.1.1, h.1.2.1, h.1.2.2.1, h.1.2.2.2, h.2⟩, fun h => ⟨⟨h.1, h.2.1, h.2.2.1, h.2.2.2.1⟩, h.2.2.2.2⟩⟩
theorem td_b {x : Int32} (h : mTd x) : x.toInt64.toInt.natAbs ≤ 1000000000 := by
  have ex : x.toInt64.toInt = x.toInt := Int32.toInt_toInt64 x
  have h1 : (-1000 : Int) ≤ x.toInt := h.1
  have h2 : x.toInt ≤ 1000 := h.2
  omega
theorem cMov_put {G : kG} {g : kH} {c : cSt} {m : pSt} {sz : Nat} {w : Nat → Nat} {t1 t2 t3 t4 : Nat → Int64} {x1 x2 x3 x4 : Int32} {t : Nat} (hL : kLst G g c.ml (sz + 1) (fun j => if j = sz then t else w j)) (he : ∀ j, j < sz + 1 → g (if j = sz then t else w j) = some (if j = sz then .inr (6, [.long x1.toInt64, .long x2.toInt64, .long x3.toInt64, .long x4.toInt64]) else tbE t1 t2 t3 t4 j)) (hn : sz + 1 ≤ 4) (hw : mTl x1 x2 x3 x4)
    (hx : ∀ k, k < sz → m.mv (4 * k) = t1 k ∧ m.mv (4 * k + 1) = t2 k ∧ m.mv (4 * k + 2) = t3 k ∧ m.mv (4 * k + 3) = t4 k ∧ ((t1 k).toInt.natAbs ≤ 1000000000 ∧ (t2 k).toInt.natAbs ≤ 1000000000 ∧ (t3 k).toInt.natAbs ≤ 1000000000 ∧ (t4 k).toInt.natAbs ≤ 1000000000)) : cMov G g c (pMk m.cc m.fc m.nd m.ng (sz + 1) m.nc m.nw m.fa m.dx m.dy m.dr m.fo m.ro (pB19 m.mv sz x1.toInt64 x2.toInt64 x3.toInt64 x4.toInt64) m.pr m.ea m.eb) := by
  refine ⟨sz + 1, _, fun j => if j = sz then x1.toInt64 else t1 j, fun j => if j = sz then x2.toInt64 else t2 j, fun j => if j = sz then x3.toInt64 else t3 j, fun j => if j = sz then x4.toInt64 else t4 j, hL, fun j hj => ?_, hn, rfl, fun j hj => ?_⟩
  · refine (he j hj).trans ?_
    by_cases q : j = sz
    · rw [if_pos q]; simp only [tbE, if_pos q]
    · rw [if_neg q]; simp only [tbE, if_neg q]
  · show pB19 m.mv sz x1.toInt64 x2.toInt64 x3.toInt64 x4.toInt64 (4 * j) = _ ∧ pB19 m.mv sz x1.toInt64 x2.toInt64 x3.toInt64 x4.toInt64 (4 * j + 1) = _ ∧ pB19 m.mv sz x1.toInt64 x2.toInt64 x3.toInt64 x4.toInt64 (4 * j + 2) = _ ∧ pB19 m.mv sz x1.toInt64 x2.toInt64 x3.toInt64 x4.toInt64 (4 * j + 3) = _ ∧ _
    unfold pB19 vp_updL
    by_cases q : j = sz
    · subst q
      simp only [if_pos]
      refine ⟨?_, ?_, ?_, ?_, td_b hw.1, td_b hw.2.1, td_b hw.2.2.1, td_b hw.2.2.2.1⟩
      · rw [if_neg (by omega), if_neg (by omega), if_neg (by omega)]
      · rw [if_neg (by omega), if_neg (by omega)]
      · rw [if_neg (by omega)]
      · trivial
    · simp only [if_neg q]
      have h9 := hx j (by omega)
      refine ⟨?_, ?_, ?_, ?_, h9.2.2.2.2⟩
      · rw [if_neg (by omega), if_neg (by omega), if_neg (by omega), if_neg (by omega)]; exact h9.1
      · rw [if_neg (by omega), if_neg (by omega), if_neg (by omega), if_neg (by omega)]; exact h9.2.1
      · rw [if_neg (by omega), if_neg (by omega), if_neg (by omega), if_neg (by omega)]; exact h9.2.2.1
      · rw [if_neg (by omega), if_neg (by omega), if_neg (by omega), if_neg (by omega)]; exact h9.2.2.2.1
theorem cIn_b {x : Int64} (h : cIn x 1000000000) : x.toInt.natAbs ≤ 1000000000 := by
  have a := le64.mp h.1
  have b := le64.mp h.2
  have e1 : (-1000000000 : Int64).toInt = -1000000000 := rfl
  have e2 : (1000000000 : Int64).toInt = 1000000000 := rfl
  omega
theorem cop_tell {l : Launch} (hst : l.stackTraces = false) {G : kG} {B0 h : Nat} {f : kH} {o : Nat → Nat} {c : cSt} {m : pSt} (hI : Inv2 G h f o c m) (x1 x2 x3 x4 : Int32) : cI l G B0 h f yX8_tell wsX8_tell [.int x1, .int x2, .int x3, .int x4] (c_tell m x1 x2 x3 x4) := by
  have hD : cMov G (kR o 5 f) c m := hI 5
  obtain ⟨sz, w, t1, t2, t3, t4, hL, he, hsz, e3, hx⟩ := hD
  have hH0 : kCs (kR o 0 f) (cHd h c) := hI 0
  have hH : kCs f (cHd h c) := hH0.le (kR_le _ _ _)
  have hls : kLs G f c.ml sz w (tbE t1 t2 t3 t4) := (hL.ls he).le (kR_le _ _ _)
  unfold c_tell
  rw [e3]
  by_cases hw : mTl x1 x2 x3 x4
  · rw [if_pos hw]
    have hw8 := tl_iff.mpr hw
    by_cases h16 : 4 ≤ sz
    · rw [if_pos h16]
      exact cI_no 3 ⟨by omega, by omega⟩ ⟨rfl, rfl, Nat.le_of_ble_eq_true rfl, Nat.le_of_ble_eq_true rfl, Nat.le_of_ble_eq_true rfl, Nat.le_of_ble_eq_true rfl⟩ (kX8_tell_b2 l hst G B0 f h c.pp c.ml sz (.ref c.sp) (.ref c.dl) (.ref c.gl) (.ref c.rw) (.ref c.nn) w t1 t2 t3 t4 x1 x2 x3 x4 hH hls hsz hw8 h16) hI.same
    rw [if_neg h16]
    obtain ⟨mc, ⟨h0, h1⟩ | ⟨q, cap, g0, h1, h2, h10, h64, h5, h6⟩⟩ := hL
    · subst h0
      have a1 := kR_some.mp h1
      have hW : kCs f [(h, .inr (8, [.ref c.sp, .ref c.dl, .ref c.gl, .ref c.rw, .ref c.ml, .ref c.pp, .ref c.nn])), (c.ml, .inr (0, [.int mc, .ref (G.2.2 1), .int (nI 0)]))] := kCs_app hH0 (show kCs (kR o 5 f) [(c.ml, .inr (0, [.int mc, .ref (G.2.2 1), .int (nI 0)]))] from ⟨fun x hx => by rw [List.mem_singleton.mp hx]; exact h1, by simp⟩) (by decide)
      refine cI_ok ⟨rfl, rfl, Nat.le_of_ble_eq_true rfl, Nat.le_of_ble_eq_true rfl, Nat.le_of_ble_eq_true rfl, Nat.le_of_ble_eq_true rfl⟩ (kX8_tell_0 l G B0 f h c.ml mc (.ref c.sp) (.ref c.dl) (.ref c.gl) (.ref c.rw) (.ref c.pp) (.ref c.nn) x1 x2 x3 x4 hw8.1 hw8.2 hW) (fun r f1 hp => ?_)
      obtain ⟨t, q, hr, hT, hq, h4, hK⟩ := hp
      refine ⟨hr, oN o 5 f, c, ?_⟩
      have hqt : q ≠ t := fun z => by have := h4.2; simp [z] at this
      refine hI.step 5 hK (fun a ha => by rw [List.mem_singleton.mp ha]; exact a1.1) ?_ (fun j g hj hP => ?_)
      · exact cMov_put (kLst.add_0 (w := w) h1 hT hq hqt (h4.pick [1, 3] (by decide) ⟨rfl, rfl, trivial⟩)) (kLst.more (sz := 0) (w := w) (e := tbE t1 t2 t3 t4) hK (fun j hj => absurd hj (Nat.not_lt_zero _)) hT (h4.at 2 rfl)) (by omega) hw hx
      · unfold cPt at hP ⊢
        split
        case h_6 => exact absurd rfl hj
        all_goals first | exact hP | trivial
    · have a1 := (kCs_mem h1) _ List.mem_cons_self
      have a2 := (kCs_mem h1) _ (List.mem_cons_of_mem _ List.mem_cons_self)
      have hW : kCs f [(h, .inr (8, [.ref c.sp, .ref c.dl, .ref c.gl, .ref c.rw, .ref c.ml, .ref c.pp, .ref c.nn])), (c.ml, .inr (0, [.int mc, .ref q, .int (nI sz)])), (q, kaO G cap g0)] := kCs_app hH0 h1 (by decide)
      have hc : sz < cap := by omega
      refine cI_ok ⟨rfl, rfl, Nat.le_of_ble_eq_true rfl, Nat.le_of_ble_eq_true rfl, Nat.le_of_ble_eq_true rfl, Nat.le_of_ble_eq_true rfl⟩ (kX8_tell_n l G B0 f h c.ml q mc sz cap g0 (.ref c.sp) (.ref c.dl) (.ref c.gl) (.ref c.rw) (.ref c.pp) (.ref c.nn) x1 x2 x3 x4 hw8.1 hw8.2 hW (by omega) hc (by omega)) (fun r f1 hp => ?_)
      obtain ⟨t, hr, hT, h4, hK⟩ := hp
      refine ⟨hr, oN o 5 f, c, ?_⟩
      refine hI.step 5 hK (fun a ha => ?_) ?_ (fun j g hj hP => ?_)
      · simp only [List.mem_cons, List.not_mem_nil, or_false] at ha
        rcases ha with rfl | rfl
        · exact a1.1
        · exact a2.1
      · exact cMov_put (kLst.add_n h1 hc h10 h64 h5 h6 he hT (h4.pick [1, 2] (by decide) ⟨rfl, rfl, trivial⟩)) (kLst.more hK (fun j hj => ⟨he j hj, fun z => by
          simp only [List.mem_cons, List.not_mem_nil, or_false] at z
          exact z.elim (h5 j hj).2.1 (h5 j hj).2.2⟩) hT (h4.at 3 rfl)) (by omega) hw hx
      · unfold cPt at hP ⊢
        split
        case h_6 => exact absurd rfl hj
        all_goals first | exact hP | trivial
  · rw [if_neg hw]
    exact cI_no 2 ⟨by omega, by omega⟩ ⟨rfl, rfl, Nat.le_of_ble_eq_true rfl, Nat.le_of_ble_eq_true rfl, Nat.le_of_ble_eq_true rfl, Nat.le_of_ble_eq_true rfl⟩ (kX8_tell_b1 l hst G B0 f h c.pp c.ml sz (.ref c.sp) (.ref c.dl) (.ref c.gl) (.ref c.rw) (.ref c.nn) w t1 t2 t3 t4 x1 x2 x3 x4 hH hls hsz (fun z => hw (tl_iff.mp z))) hI.same
theorem cop_append {l : Launch} (hst : l.stackTraces = false) {G : kG} {B0 h : Nat} {f : kH} {o : Nat → Nat} {c : cSt} {m : pSt} (hI : Inv2 G h f o c m) (x1 x2 : Int32) : cI l G B0 h f yX8_append wsX8_append [.int x1, .int x2] (c_append m x1 x2) := by
  have hD : cMov G (kR o 5 f) c m := hI 5
  obtain ⟨sz, w, t1, t2, t3, t4, hL, he, hsz, e3, hx⟩ := hD
  have hH0 : kCs (kR o 0 f) (cHd h c) := hI 0
  have hH : kCs f (cHd h c) := hH0.le (kR_le _ _ _)
  have hls : kLs G f c.ml sz w (tbE t1 t2 t3 t4) := (hL.ls he).le (kR_le _ _ _)
  have hP6 : cPrd G (kR o 6 f) c m := hI 6
  obtain ⟨hp6, hb6⟩ := hP6
  unfold c_append
  rw [e3]
  by_cases hv : mIn x1 sz
  · rw [if_pos hv]
    obtain ⟨i, hi, rfl⟩ := mIn_ex (by omega) hv
    rw [nI_clamp (show i < 2 ^ 31 by omega)]
    obtain ⟨y1, y2, y3, y4, -⟩ := hx i hi
    have hW : kCs f [(h, .inr (8, [.ref c.sp, .ref c.dl, .ref c.gl, .ref c.rw, .ref c.ml, .ref c.pp, .ref c.nn])), (c.pp, .inr (6, [.long (m.pr 0), .long (m.pr 1), .long (m.pr 2), .long (m.pr 3)])), (w i, .inr (6, [.long (t1 i), .long (t2 i), .long (t3 i), .long (t4 i)]))] := by
      have k0 := kCs_mem hH0 _ List.mem_cons_self
      have k6 := kCs_mem hp6 _ List.mem_cons_self
      have k5 := kR_some.mp (he i hi)
      refine ⟨fun x hx9 => ?_, ?_⟩
      · simp only [List.mem_cons, List.not_mem_nil, or_false] at hx9
        rcases hx9 with rfl | rfl | rfl
        · exact k0.2
        · exact k6.2
        · exact k5.2
      · have n0 := k0.1
        have n6 := k6.1
        have n5 := k5.1
        dsimp only at n0 n6
        simp only [List.map_cons, List.map_nil, List.nodup_cons, List.mem_cons, List.not_mem_nil, or_false, not_or, List.nodup_nil, and_true, not_false_eq_true]
        exact ⟨⟨fun z => by rw [z] at n0; omega, fun z => by rw [z] at n0; omega⟩, fun z => by rw [z] at n6; omega⟩
    by_cases hz : x2 = 0
    · have hpp : pPrd m.pr m.mv i x2 = pMul m.pr (t1 i) (t2 i) (t3 i) (t4 i) := by rw [pPrd, if_pos hz, y1, y2, y3, y4]
      rw [hpp]
      by_cases h9 : pIn4 (pMul m.pr (t1 i) (t2 i) (t3 i) (t4 i))
      · rw [if_pos h9]
        refine cI_ok ⟨rfl, rfl, Nat.le_of_ble_eq_true rfl, Nat.le_of_ble_eq_true rfl, Nat.le_of_ble_eq_true rfl, Nat.le_of_ble_eq_true rfl⟩ (kX8_append_f l G B0 f h c.pp c.ml sz i (.ref c.sp) (.ref c.dl) (.ref c.gl) (.ref c.rw) (.ref c.nn) (m.pr 0) (m.pr 1) (m.pr 2) (m.pr 3) w t1 t2 t3 t4 hW hls hsz hi x2 hz h9) (fun r f1 hp => ?_)
        obtain ⟨q, hr, hq, h4, hK⟩ := hp
        refine ⟨hr, oN o 6 f, (cMk c.sp c.dl c.gl c.rw c.ml q c.nn), hI.stepH hK (h4.pick [0] (by decide) ⟨rfl, trivial⟩) ?_ (fun j g hj0 hj hP => ?_)⟩
        · refine ⟨kCs_own (h4.pick [1] (by decide) ⟨rfl, trivial⟩) (fun x hx => by rw [List.mem_singleton.mp hx]; exact .inr hq), fun k hk => ?_⟩
          have hk4 : k = 0 ∨ k = 1 ∨ k = 2 ∨ k = 3 := by omega
          rcases hk4 with rfl | rfl | rfl | rfl
          · exact cIn_b h9.1
          · exact cIn_b h9.2.1
          · exact cIn_b h9.2.2.1
          · exact cIn_b h9.2.2.2
        · unfold cPt at hP ⊢
          split
          case h_1 => exact absurd rfl hj0
          case h_7 => exact absurd rfl hj
          all_goals first | exact hP | (rw [← e3]; exact hP) | trivial
      · rw [if_neg h9]
        exact cI_no 3 ⟨by omega, by omega⟩ ⟨rfl, rfl, Nat.le_of_ble_eq_true rfl, Nat.le_of_ble_eq_true rfl, Nat.le_of_ble_eq_true rfl, Nat.le_of_ble_eq_true rfl⟩ (kX8_append_f2 l hst G B0 f h c.pp c.ml sz i (.ref c.sp) (.ref c.dl) (.ref c.gl) (.ref c.rw) (.ref c.nn) (m.pr 0) (m.pr 1) (m.pr 2) (m.pr 3) w t1 t2 t3 t4 hW hls hsz hi x2 hz h9) hI.kept
    · have hpp : pPrd m.pr m.mv i x2 = pMul m.pr (t4 i) (-t2 i) (-t3 i) (t1 i) := by rw [pPrd, if_neg hz, y1, y2, y3, y4]
      rw [hpp]
      by_cases h9 : pIn4 (pMul m.pr (t4 i) (-t2 i) (-t3 i) (t1 i))
      · rw [if_pos h9]
        refine cI_ok ⟨rfl, rfl, Nat.le_of_ble_eq_true rfl, Nat.le_of_ble_eq_true rfl, Nat.le_of_ble_eq_true rfl, Nat.le_of_ble_eq_true rfl⟩ (kX8_append_u l G B0 f h c.pp c.ml sz i (.ref c.sp) (.ref c.dl) (.ref c.gl) (.ref c.rw) (.ref c.nn) (m.pr 0) (m.pr 1) (m.pr 2) (m.pr 3) w t1 t2 t3 t4 hW hls hsz hi x2 hz h9) (fun r f1 hp => ?_)
        obtain ⟨q, hr, hq, h4, hK⟩ := hp
        refine ⟨hr, oN o 6 f, (cMk c.sp c.dl c.gl c.rw c.ml q c.nn), hI.stepH hK (h4.pick [0] (by decide) ⟨rfl, trivial⟩) ?_ (fun j g hj0 hj hP => ?_)⟩
        · refine ⟨kCs_own (h4.pick [1] (by decide) ⟨rfl, trivial⟩) (fun x hx => by rw [List.mem_singleton.mp hx]; exact .inr hq), fun k hk => ?_⟩
          have hk4 : k = 0 ∨ k = 1 ∨ k = 2 ∨ k = 3 := by omega
          rcases hk4 with rfl | rfl | rfl | rfl
          · exact cIn_b h9.1
          · exact cIn_b h9.2.1
          · exact cIn_b h9.2.2.1
          · exact cIn_b h9.2.2.2
        · unfold cPt at hP ⊢
          split
          case h_1 => exact absurd rfl hj0
          case h_7 => exact absurd rfl hj
          all_goals first | exact hP | (rw [← e3]; exact hP) | trivial
      · rw [if_neg h9]
        exact cI_no 3 ⟨by omega, by omega⟩ ⟨rfl, rfl, Nat.le_of_ble_eq_true rfl, Nat.le_of_ble_eq_true rfl, Nat.le_of_ble_eq_true rfl, Nat.le_of_ble_eq_true rfl⟩ (kX8_append_u2 l hst G B0 f h c.pp c.ml sz i (.ref c.sp) (.ref c.dl) (.ref c.gl) (.ref c.rw) (.ref c.nn) (m.pr 0) (m.pr 1) (m.pr 2) (m.pr 3) w t1 t2 t3 t4 hW hls hsz hi x2 hz h9) hI.kept
  · rw [if_neg hv]
    exact cI_no 1 ⟨by omega, by omega⟩ ⟨rfl, rfl, Nat.le_of_ble_eq_true rfl, Nat.le_of_ble_eq_true rfl, Nat.le_of_ble_eq_true rfl, Nat.le_of_ble_eq_true rfl⟩ (kX8_append_b1 l hst G B0 f h c.pp c.ml sz (.ref c.sp) (.ref c.dl) (.ref c.gl) (.ref c.rw) (.ref c.nn) w t1 t2 t3 t4 x1 x2 hH hls hsz hv) hI.same
