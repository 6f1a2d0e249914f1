/-! the product of moves: word, image, home -/
/-- the class's product is a new one -/
theorem Inv2.stepH {G : kG} {h hm po pd : Nat} {f f1 : kH} {o : Nat → Nat} {c c1 : cSt} {m mM m1 : mSt} (hI : Inv2 G h hm po pd f o c m mM) (hK : kKp [h] f f1) (h0 : kCs f1 (cHd h c1))
    (h6 : cPt G h hm po pd c1 m1 mM 6 (kR (oN o 6 f) 6 f1)) (hoth : ∀ j g, j ≠ 0 → j ≠ 6 → cPt G h hm po pd c m mM j g → cPt G h hm po pd c1 m1 mM j g) : Inv2 G h hm po pd f1 (oN o 6 f) c1 m1 mM := fun j => by
  have hh := kCs_mem (hI 0) _ List.mem_cons_self
  by_cases hj : j = 6
  · subst hj; exact h6
  · by_cases hj0 : j = 0
    · subst hj0
      refine ⟨fun q hq => ?_, h0.2⟩
      rw [List.mem_singleton.mp hq]
      exact kR_some.mpr ⟨(oN_old hh.2).trans hh.1, h0.at 0 rfl⟩
    · exact hoth j _ hj0 hj ((hI j).le (kR_oth hK (fun a ha q => by rw [List.mem_singleton.mp ha] at q; have := hh.1; dsimp only at this; omega)))
theorem kind_m {W : Nat → Int64} (hb : ∀ k, k < 4 → (W k).toInt.natAbs ≤ 1000000000) : cKind (W 0) (W 1) (W 2) (W 3) = nI (mKind W) := by
  have b0 := hb 0 (by omega)
  have b3 := hb 3 (by omega)
  have es : (W 0 + W 3).toInt = (W 0).toInt + (W 3).toInt := z_add (by omega) (by omega)
  have z0 : (0 : Int64).toInt = 0 := rfl
  have z1 : (1 : Int64).toInt = 1 := rfl
  have z2 : (2 : Int64).toInt = 2 := rfl
  have z1' : (-1 : Int64).toInt = -1 := rfl
  have z2' : (-2 : Int64).toInt = -2 := rfl
  have ej : (jAbs (W 0 + W 3)).toInt = ((W 0).toInt + (W 3).toInt).natAbs := by
    by_cases q : 0 < W 0 + W 3
    · have := lt64.mp q
      rw [show jAbs (W 0 + W 3) = W 0 + W 3 from if_pos q, es]; omega
    · have : ¬ (0 : Int64).toInt < (W 0 + W 3).toInt := fun z => q (lt64.mpr z)
      rw [show jAbs (W 0 + W 3) = -(W 0 + W 3) from if_neg q, Int64.toInt_neg, es, Int.bmod_eq_of_le] <;> omega
  unfold cKind mKind
  by_cases q1 : W 1 = 0 ∧ W 2 = 0 ∧ W 0 = W 3
  · rw [if_pos q1, if_pos q1]
  · rw [if_neg q1, if_neg q1]
    have e1 : jAbs (W 0 + W 3) ≤ 1 ↔ (-1) ≤ W 0 + W 3 ∧ W 0 + W 3 ≤ 1 := by rw [le64, le64, le64, ej, es, z1, z1']; omega
    by_cases q2 : (-1) ≤ W 0 + W 3 ∧ W 0 + W 3 ≤ 1
    · rw [if_pos q2, if_pos (e1.mpr q2)]
    · rw [if_neg q2, if_neg (fun z => q2 (e1.mp z))]
      have e2 : jAbs (W 0 + W 3) = 2 ↔ (-2) ≤ W 0 + W 3 ∧ W 0 + W 3 ≤ 2 := by
        rw [← Int64.toInt_inj, le64, le64, ej, es, z2, z2']
        have q3 : ¬ (-1 ≤ (W 0).toInt + (W 3).toInt ∧ (W 0).toInt + (W 3).toInt ≤ 1) := fun z => q2 ⟨le64.mpr (by rw [es, z1']; exact z.1), le64.mpr (by rw [es, z1]; exact z.2)⟩
        omega
      by_cases q4 : (-2) ≤ W 0 + W 3 ∧ W 0 + W 3 ≤ 2
      · rw [if_pos q4, if_pos (e2.mpr q4)]
      · rw [if_neg q4, if_neg (fun z => q4 (e2.mp z))]
theorem op_word {l : Launch} (hst : l.stackTraces = false) {G : kG} {B0 h hm po pd : Nat} {f : kH} {o : Nat → Nat} {c : cSt} {m : mSt} (hI : Inv2 G h hm po pd f o c m m) (x1 : Int32) : opI l G B0 h hm po pd f yL_word wsL_word [.ref h, .int x1, .ref po] yX9_word wsX9_word [.ref hm, .int x1] := by
  have hP6 : cPrd G (kR o 6 f) c m := hI 6
  obtain ⟨hp6, hb6⟩ := hP6
  have hH0 : kCs (kR o 0 f) (cHd h c) := hI 0
  have hW : kCs f [(h, .inr (8, [.ref c.sp, .ref c.dl, .ref c.gl, .ref c.rw, .ref c.ml, .ref c.pp, .ref c.nn])), (c.pp, .inr (6, [.long (m.b20 0), .long (m.b20 1), .long (m.b20 2), .long (m.b20 3)]))] := kCs_app hH0 hp6 (by decide)
  by_cases hv : mRg x1 (0) 4
  · obtain ⟨w, hw, rfl⟩ := mRg_ex (n := 4) (by omega) hv
    have hcs : w = 0 ∨ w = 1 ∨ w = 2 ∨ w = 3 ∨ w = 4 := by omega
    rcases hcs with rfl | rfl | rfl | rfl | rfl
    · refine opI_ok (m1 := m) (((m.b20 0).toInt32).toInt64) (kL_word_g l G B0 f h po (nI 0) hI.hd rfl rfl (kX8_word_0 l G B0 f h c.pp (.ref c.sp) (.ref c.dl) (.ref c.gl) (.ref c.rw) (.ref c.ml) (.ref c.nn) (m.b20 0) (m.b20 1) (m.b20 2) (m.b20 3) hW) (fun r0 f1 hp => by rw [hp.2]; exact hI.out)) (fun f2 hp => by obtain ⟨r0, f1, g, ⟨hr, hf⟩, hg, he⟩ := hp; rw [hf] at hg he; exact ⟨f, g, o, c, hI, hg, he.trans (by rw [hr])⟩) ⟨rfl, rfl, Nat.le_of_ble_eq_true rfl, Nat.le_of_ble_eq_true rfl, Nat.le_of_ble_eq_true rfl, Nat.le_of_ble_eq_true rfl⟩ (fun f2 hM => kX9_word l G B0 f2 hm m.q m.i0 m.i1 m.i3 m.i7 m.i18 m.i22 m.i23 m.i27 m.j16 m.j17 m.a2 m.a4 m.a5 m.a6 m.b8 m.b9 m.b10 m.a11 m.a12 m.a13 m.a14 m.b15 m.b19 m.b20 m.b21 m.a24 m.a25 m.a26 0 hM (by omega)) ⟨rfl, rfl, Nat.le_of_ble_eq_true rfl, Nat.le_of_ble_eq_true rfl, Nat.le_of_ble_eq_true rfl, Nat.le_of_ble_eq_true rfl⟩ (fun f2 r f3 hp => ?_)
      exact ⟨by rw [hp.1]; rfl, (mMk m.q m.i0 m.i1 m.i3 m.i7 m.i18 m.i22 m.i23 (nI 0) m.j16 m.j17 m.a2 m.a4 m.a5 m.a6 m.b8 m.b9 m.b10 m.a11 m.a12 m.a13 m.a14 m.b15 m.b19 m.b20 m.b21 m.a24 m.a25 m.a26), ⟨rfl, rfl, rfl, rfl, rfl, rfl, rfl, rfl, rfl, rfl, rfl, rfl, rfl, rfl, rfl, rfl⟩, rfl, rfl, hp.2.1, hp.2.2⟩
    · refine opI_ok (m1 := m) (((m.b20 1).toInt32).toInt64) (kL_word_g l G B0 f h po (nI 1) hI.hd rfl rfl (kX8_word_1 l G B0 f h c.pp (.ref c.sp) (.ref c.dl) (.ref c.gl) (.ref c.rw) (.ref c.ml) (.ref c.nn) (m.b20 0) (m.b20 1) (m.b20 2) (m.b20 3) hW) (fun r0 f1 hp => by rw [hp.2]; exact hI.out)) (fun f2 hp => by obtain ⟨r0, f1, g, ⟨hr, hf⟩, hg, he⟩ := hp; rw [hf] at hg he; exact ⟨f, g, o, c, hI, hg, he.trans (by rw [hr])⟩) ⟨rfl, rfl, Nat.le_of_ble_eq_true rfl, Nat.le_of_ble_eq_true rfl, Nat.le_of_ble_eq_true rfl, Nat.le_of_ble_eq_true rfl⟩ (fun f2 hM => kX9_word l G B0 f2 hm m.q m.i0 m.i1 m.i3 m.i7 m.i18 m.i22 m.i23 m.i27 m.j16 m.j17 m.a2 m.a4 m.a5 m.a6 m.b8 m.b9 m.b10 m.a11 m.a12 m.a13 m.a14 m.b15 m.b19 m.b20 m.b21 m.a24 m.a25 m.a26 1 hM (by omega)) ⟨rfl, rfl, Nat.le_of_ble_eq_true rfl, Nat.le_of_ble_eq_true rfl, Nat.le_of_ble_eq_true rfl, Nat.le_of_ble_eq_true rfl⟩ (fun f2 r f3 hp => ?_)
      exact ⟨by rw [hp.1]; rfl, (mMk m.q m.i0 m.i1 m.i3 m.i7 m.i18 m.i22 m.i23 (nI 0) m.j16 m.j17 m.a2 m.a4 m.a5 m.a6 m.b8 m.b9 m.b10 m.a11 m.a12 m.a13 m.a14 m.b15 m.b19 m.b20 m.b21 m.a24 m.a25 m.a26), ⟨rfl, rfl, rfl, rfl, rfl, rfl, rfl, rfl, rfl, rfl, rfl, rfl, rfl, rfl, rfl, rfl⟩, rfl, rfl, hp.2.1, hp.2.2⟩
    · refine opI_ok (m1 := m) (((m.b20 2).toInt32).toInt64) (kL_word_g l G B0 f h po (nI 2) hI.hd rfl rfl (kX8_word_2 l G B0 f h c.pp (.ref c.sp) (.ref c.dl) (.ref c.gl) (.ref c.rw) (.ref c.ml) (.ref c.nn) (m.b20 0) (m.b20 1) (m.b20 2) (m.b20 3) hW) (fun r0 f1 hp => by rw [hp.2]; exact hI.out)) (fun f2 hp => by obtain ⟨r0, f1, g, ⟨hr, hf⟩, hg, he⟩ := hp; rw [hf] at hg he; exact ⟨f, g, o, c, hI, hg, he.trans (by rw [hr])⟩) ⟨rfl, rfl, Nat.le_of_ble_eq_true rfl, Nat.le_of_ble_eq_true rfl, Nat.le_of_ble_eq_true rfl, Nat.le_of_ble_eq_true rfl⟩ (fun f2 hM => kX9_word l G B0 f2 hm m.q m.i0 m.i1 m.i3 m.i7 m.i18 m.i22 m.i23 m.i27 m.j16 m.j17 m.a2 m.a4 m.a5 m.a6 m.b8 m.b9 m.b10 m.a11 m.a12 m.a13 m.a14 m.b15 m.b19 m.b20 m.b21 m.a24 m.a25 m.a26 2 hM (by omega)) ⟨rfl, rfl, Nat.le_of_ble_eq_true rfl, Nat.le_of_ble_eq_true rfl, Nat.le_of_ble_eq_true rfl, Nat.le_of_ble_eq_true rfl⟩ (fun f2 r f3 hp => ?_)
      exact ⟨by rw [hp.1]; rfl, (mMk m.q m.i0 m.i1 m.i3 m.i7 m.i18 m.i22 m.i23 (nI 0) m.j16 m.j17 m.a2 m.a4 m.a5 m.a6 m.b8 m.b9 m.b10 m.a11 m.a12 m.a13 m.a14 m.b15 m.b19 m.b20 m.b21 m.a24 m.a25 m.a26), ⟨rfl, rfl, rfl, rfl, rfl, rfl, rfl, rfl, rfl, rfl, rfl, rfl, rfl, rfl, rfl, rfl⟩, rfl, rfl, hp.2.1, hp.2.2⟩
    · refine opI_ok (m1 := m) (((m.b20 3).toInt32).toInt64) (kL_word_g l G B0 f h po (nI 3) hI.hd rfl rfl (kX8_word_3 l G B0 f h c.pp (.ref c.sp) (.ref c.dl) (.ref c.gl) (.ref c.rw) (.ref c.ml) (.ref c.nn) (m.b20 0) (m.b20 1) (m.b20 2) (m.b20 3) hW) (fun r0 f1 hp => by rw [hp.2]; exact hI.out)) (fun f2 hp => by obtain ⟨r0, f1, g, ⟨hr, hf⟩, hg, he⟩ := hp; rw [hf] at hg he; exact ⟨f, g, o, c, hI, hg, he.trans (by rw [hr])⟩) ⟨rfl, rfl, Nat.le_of_ble_eq_true rfl, Nat.le_of_ble_eq_true rfl, Nat.le_of_ble_eq_true rfl, Nat.le_of_ble_eq_true rfl⟩ (fun f2 hM => kX9_word l G B0 f2 hm m.q m.i0 m.i1 m.i3 m.i7 m.i18 m.i22 m.i23 m.i27 m.j16 m.j17 m.a2 m.a4 m.a5 m.a6 m.b8 m.b9 m.b10 m.a11 m.a12 m.a13 m.a14 m.b15 m.b19 m.b20 m.b21 m.a24 m.a25 m.a26 3 hM (by omega)) ⟨rfl, rfl, Nat.le_of_ble_eq_true rfl, Nat.le_of_ble_eq_true rfl, Nat.le_of_ble_eq_true rfl, Nat.le_of_ble_eq_true rfl⟩ (fun f2 r f3 hp => ?_)
      exact ⟨by rw [hp.1]; rfl, (mMk m.q m.i0 m.i1 m.i3 m.i7 m.i18 m.i22 m.i23 (nI 0) m.j16 m.j17 m.a2 m.a4 m.a5 m.a6 m.b8 m.b9 m.b10 m.a11 m.a12 m.a13 m.a14 m.b15 m.b19 m.b20 m.b21 m.a24 m.a25 m.a26), ⟨rfl, rfl, rfl, rfl, rfl, rfl, rfl, rfl, rfl, rfl, rfl, rfl, rfl, rfl, rfl, rfl⟩, rfl, rfl, hp.2.1, hp.2.2⟩
    · refine opI_ok (m1 := m) ((nI (mKind m.b20)).toInt64) (kL_word_g l G B0 f h po (nI 4) hI.hd rfl rfl ((kind_m hb6 ▸ kX8_word_4 l G B0 f h c.pp (.ref c.sp) (.ref c.dl) (.ref c.gl) (.ref c.rw) (.ref c.ml) (.ref c.nn) (m.b20 0) (m.b20 1) (m.b20 2) (m.b20 3) hW : Met l yX8_word wsX8_word rmX8_word_4 _ (kQi G B0 (fun r f1 => r = nI (mKind m.b20) ∧ f1 = f)) 0 0 (kAb B0))) (fun r0 f1 hp => by rw [hp.2]; exact hI.out)) (fun f2 hp => by obtain ⟨r0, f1, g, ⟨hr, hf⟩, hg, he⟩ := hp; rw [hf] at hg he; exact ⟨f, g, o, c, hI, hg, he.trans (by rw [hr])⟩) ⟨rfl, rfl, Nat.le_of_ble_eq_true rfl, Nat.le_of_ble_eq_true rfl, Nat.le_of_ble_eq_true rfl, Nat.le_of_ble_eq_true rfl⟩ (fun f2 hM => kX9_word l G B0 f2 hm m.q m.i0 m.i1 m.i3 m.i7 m.i18 m.i22 m.i23 m.i27 m.j16 m.j17 m.a2 m.a4 m.a5 m.a6 m.b8 m.b9 m.b10 m.a11 m.a12 m.a13 m.a14 m.b15 m.b19 m.b20 m.b21 m.a24 m.a25 m.a26 4 hM (by omega)) ⟨rfl, rfl, Nat.le_of_ble_eq_true rfl, Nat.le_of_ble_eq_true rfl, Nat.le_of_ble_eq_true rfl, Nat.le_of_ble_eq_true rfl⟩ (fun f2 r f3 hp => ?_)
      exact ⟨by rw [hp.1]; rfl, (mMk m.q m.i0 m.i1 m.i3 m.i7 m.i18 m.i22 m.i23 (nI 0) m.j16 m.j17 m.a2 m.a4 m.a5 m.a6 m.b8 m.b9 m.b10 m.a11 m.a12 m.a13 m.a14 m.b15 m.b19 m.b20 m.b21 m.a24 m.a25 m.a26), ⟨rfl, rfl, rfl, rfl, rfl, rfl, rfl, rfl, rfl, rfl, rfl, rfl, rfl, rfl, rfl, rfl⟩, rfl, rfl, hp.2.1, hp.2.2⟩
  · exact opI_thr (m2 := (mMk m.q m.i0 m.i1 m.i3 m.i7 m.i18 m.i22 m.i23 (nI 1) m.j16 m.j17 m.a2 m.a4 m.a5 m.a6 m.b8 m.b9 m.b10 m.a11 m.a12 m.a13 m.a14 m.b15 m.b19 m.b20 m.b21 m.a24 m.a25 m.a26)) hI 1 (by omega) (kL_word_o l G B0 f h po x1 hI.hd rfl rfl (kX8_word_b1 l hst G B0 f h c.pp (.ref c.sp) (.ref c.dl) (.ref c.gl) (.ref c.rw) (.ref c.ml) (.ref c.nn) (m.b20 0) (m.b20 1) (m.b20 2) (m.b20 3) x1 hW hv)) (fun f2 h2 => by rw [show f2 = f from h2]; exact kKp.rf) ⟨rfl, rfl, Nat.le_of_ble_eq_true rfl, Nat.le_of_ble_eq_true rfl, Nat.le_of_ble_eq_true rfl, Nat.le_of_ble_eq_true rfl⟩ (fun f2 hM => kX9_word_b1 l G B0 f2 hm m.q m.i0 m.i1 m.i3 m.i7 m.i18 m.i22 m.i23 m.i27 m.j16 m.j17 m.a2 m.a4 m.a5 m.a6 m.b8 m.b9 m.b10 m.a11 m.a12 m.a13 m.a14 m.b15 m.b19 m.b20 m.b21 m.a24 m.a25 m.a26 x1 hM hv) ⟨rfl, rfl, Nat.le_of_ble_eq_true rfl, Nat.le_of_ble_eq_true rfl, Nat.le_of_ble_eq_true rfl, Nat.le_of_ble_eq_true rfl⟩ ⟨rfl, rfl, rfl, rfl, rfl, rfl, rfl, rfl, rfl, rfl, rfl, rfl, rfl, rfl, rfl, rfl⟩ rfl rfl
theorem op_image {l : Launch} (hst : l.stackTraces = false) {G : kG} {B0 h hm po pd : Nat} {f : kH} {o : Nat → Nat} {c : cSt} {m : mSt} (hI : Inv2 G h hm po pd f o c m m) (x1 x2 x3 : Int32) (h5 : x3 = nI 0 ∨ x3 = nI 1) : opL l G B0 h hm po pd f yL_image wsL_image [.ref h, .int x1, .int x2, .int x3, .ref po] yX9_image wsX9_image [.ref hm, .int x1, .int x2, .int x3] := by
  have hP6 : cPrd G (kR o 6 f) c m := hI 6
  obtain ⟨hp6, hb6⟩ := hP6
  have hH0 : kCs (kR o 0 f) (cHd h c) := hI 0
  have hW : kCs f [(h, .inr (8, [.ref c.sp, .ref c.dl, .ref c.gl, .ref c.rw, .ref c.ml, .ref c.pp, .ref c.nn])), (c.pp, .inr (6, [.long (m.b20 0), .long (m.b20 1), .long (m.b20 2), .long (m.b20 3)]))] := kCs_app hH0 hp6 (by decide)
  by_cases hv : cImOk x1 x2
  · rcases h5 with rfl | rfl
    · have z9 :  nI 0 = 0 := by decide
      have hr9 : cIm (m.b20 0) (m.b20 1) (m.b20 2) (m.b20 3) x1 x2 (nI 0) = (if mTurn m.b20 x1 x2 then -mBot m.b20 x1 x2 else mBot m.b20 x1 x2) := by
        rw [cIm, if_pos z9]
      refine opL_ok (m1 := m) (if mTurn m.b20 x1 x2 then -mBot m.b20 x1 x2 else mBot m.b20 x1 x2) (kL_image_g l G B0 f h po x1 x2 (nI 0) hI.hd rfl rfl ((hr9 ▸ kX8_image l G B0 f h c.pp (.ref c.sp) (.ref c.dl) (.ref c.gl) (.ref c.rw) (.ref c.ml) (.ref c.nn) (m.b20 0) (m.b20 1) (m.b20 2) (m.b20 3) x1 x2 (nI 0) hW hv.1 hv.2.1 hv.2.2.1 hv.2.2.2.1 hv.2.2.2.2 : Met l yX8_image wsX8_image rmX8_image _ (kQl G B0 (fun r f1 => r = (if mTurn m.b20 x1 x2 then -mBot m.b20 x1 x2 else mBot m.b20 x1 x2) ∧ f1 = f)) 0 0 (kAb B0))) (fun r0 f1 hp => by rw [hp.2]; exact hI.out)) (fun f2 hp => by obtain ⟨r0, f1, g, ⟨hr, hf⟩, hg, he⟩ := hp; rw [hf] at hg he; exact ⟨f, g, o, c, hI, hg, he.trans (by rw [hr])⟩) ⟨rfl, rfl, Nat.le_of_ble_eq_true rfl, Nat.le_of_ble_eq_true rfl, Nat.le_of_ble_eq_true rfl, Nat.le_of_ble_eq_true rfl⟩ (fun f2 hM => kX9_image_b l G B0 f2 hm m.q m.i0 m.i1 m.i3 m.i7 m.i18 m.i22 m.i23 m.i27 m.j16 m.j17 m.a2 m.a4 m.a5 m.a6 m.b8 m.b9 m.b10 m.a11 m.a12 m.a13 m.a14 m.b15 m.b19 m.b20 m.b21 m.a24 m.a25 m.a26 x1 x2 hM (cImOk_m.mp hv)) ⟨rfl, rfl, Nat.le_of_ble_eq_true rfl, Nat.le_of_ble_eq_true rfl, Nat.le_of_ble_eq_true rfl, Nat.le_of_ble_eq_true rfl⟩ (fun f2 r f3 hp => ?_)
      exact ⟨hp.1, (mMk m.q m.i0 m.i1 m.i3 m.i7 m.i18 m.i22 m.i23 (nI 0) m.j16 m.j17 m.a2 m.a4 m.a5 m.a6 m.b8 m.b9 m.b10 m.a11 m.a12 m.a13 m.a14 m.b15 m.b19 m.b20 m.b21 m.a24 m.a25 m.a26), ⟨rfl, rfl, rfl, rfl, rfl, rfl, rfl, rfl, rfl, rfl, rfl, rfl, rfl, rfl, rfl, rfl⟩, rfl, rfl, hp.2.1, hp.2.2⟩
    · have z9 : ¬ nI 1 = 0 := by decide
      have hr9 : cIm (m.b20 0) (m.b20 1) (m.b20 2) (m.b20 3) x1 x2 (nI 1) = (if mTurn m.b20 x1 x2 then -mTop m.b20 x1 x2 else mTop m.b20 x1 x2) := by
        rw [cIm, if_neg z9]
      refine opL_ok (m1 := m) (if mTurn m.b20 x1 x2 then -mTop m.b20 x1 x2 else mTop m.b20 x1 x2) (kL_image_g l G B0 f h po x1 x2 (nI 1) hI.hd rfl rfl ((hr9 ▸ kX8_image l G B0 f h c.pp (.ref c.sp) (.ref c.dl) (.ref c.gl) (.ref c.rw) (.ref c.ml) (.ref c.nn) (m.b20 0) (m.b20 1) (m.b20 2) (m.b20 3) x1 x2 (nI 1) hW hv.1 hv.2.1 hv.2.2.1 hv.2.2.2.1 hv.2.2.2.2 : Met l yX8_image wsX8_image rmX8_image _ (kQl G B0 (fun r f1 => r = (if mTurn m.b20 x1 x2 then -mTop m.b20 x1 x2 else mTop m.b20 x1 x2) ∧ f1 = f)) 0 0 (kAb B0))) (fun r0 f1 hp => by rw [hp.2]; exact hI.out)) (fun f2 hp => by obtain ⟨r0, f1, g, ⟨hr, hf⟩, hg, he⟩ := hp; rw [hf] at hg he; exact ⟨f, g, o, c, hI, hg, he.trans (by rw [hr])⟩) ⟨rfl, rfl, Nat.le_of_ble_eq_true rfl, Nat.le_of_ble_eq_true rfl, Nat.le_of_ble_eq_true rfl, Nat.le_of_ble_eq_true rfl⟩ (fun f2 hM => kX9_image_t l G B0 f2 hm m.q m.i0 m.i1 m.i3 m.i7 m.i18 m.i22 m.i23 m.i27 m.j16 m.j17 m.a2 m.a4 m.a5 m.a6 m.b8 m.b9 m.b10 m.a11 m.a12 m.a13 m.a14 m.b15 m.b19 m.b20 m.b21 m.a24 m.a25 m.a26 x1 x2 hM (cImOk_m.mp hv)) ⟨rfl, rfl, Nat.le_of_ble_eq_true rfl, Nat.le_of_ble_eq_true rfl, Nat.le_of_ble_eq_true rfl, Nat.le_of_ble_eq_true rfl⟩ (fun f2 r f3 hp => ?_)
      exact ⟨hp.1, (mMk m.q m.i0 m.i1 m.i3 m.i7 m.i18 m.i22 m.i23 (nI 0) m.j16 m.j17 m.a2 m.a4 m.a5 m.a6 m.b8 m.b9 m.b10 m.a11 m.a12 m.a13 m.a14 m.b15 m.b19 m.b20 m.b21 m.a24 m.a25 m.a26), ⟨rfl, rfl, rfl, rfl, rfl, rfl, rfl, rfl, rfl, rfl, rfl, rfl, rfl, rfl, rfl, rfl⟩, rfl, rfl, hp.2.1, hp.2.2⟩
  · exact opL_thr (m2 := (mMk m.q m.i0 m.i1 m.i3 m.i7 m.i18 m.i22 m.i23 (nI 1) m.j16 m.j17 m.a2 m.a4 m.a5 m.a6 m.b8 m.b9 m.b10 m.a11 m.a12 m.a13 m.a14 m.b15 m.b19 m.b20 m.b21 m.a24 m.a25 m.a26)) hI 1 (by omega) (kL_image_a l G B0 f h po x1 x2 x3 hI.hd rfl rfl (kX8_image_b1 l hst G B0 f h c.pp (.ref c.sp) (.ref c.dl) (.ref c.gl) (.ref c.rw) (.ref c.ml) (.ref c.nn) (m.b20 0) (m.b20 1) (m.b20 2) (m.b20 3) x1 x2 x3 hW hv)) (fun f2 h2 => by rw [show f2 = f from h2]; exact kKp.rf) ⟨rfl, rfl, Nat.le_of_ble_eq_true rfl, Nat.le_of_ble_eq_true rfl, Nat.le_of_ble_eq_true rfl, Nat.le_of_ble_eq_true rfl⟩ (fun f2 hM => kX9_image_b1 l G B0 f2 hm m.q m.i0 m.i1 m.i3 m.i7 m.i18 m.i22 m.i23 m.i27 m.j16 m.j17 m.a2 m.a4 m.a5 m.a6 m.b8 m.b9 m.b10 m.a11 m.a12 m.a13 m.a14 m.b15 m.b19 m.b20 m.b21 m.a24 m.a25 m.a26 x1 x2 hM x3 (fun z => hv (cImOk_m.mpr z))) ⟨rfl, rfl, Nat.le_of_ble_eq_true rfl, Nat.le_of_ble_eq_true rfl, Nat.le_of_ble_eq_true rfl, Nat.le_of_ble_eq_true rfl⟩ ⟨rfl, rfl, rfl, rfl, rfl, rfl, rfl, rfl, rfl, rfl, rfl, rfl, rfl, rfl, rfl, rfl⟩ rfl rfl
theorem op_home {l : Launch} {G : kG} {B0 h hm po pd : Nat} {f : kH} {o : Nat → Nat} {c : cSt} {m : mSt} (hI : Inv2 G h hm po pd f o c m m) : opD l G B0 h hm po pd f yX8_home wsX8_home yX9_home wsX9_home := by
  have hP6 : cPrd G (kR o 6 f) c m := hI 6
  obtain ⟨hp6, hb6⟩ := hP6
  have hH0 : kCs (kR o 0 f) (cHd h c) := hI 0
  have hW : kCs f [(h, .inr (8, [.ref c.sp, .ref c.dl, .ref c.gl, .ref c.rw, .ref c.ml, .ref c.pp, .ref c.nn])), (c.pp, .inr (6, [.long (m.b20 0), .long (m.b20 1), .long (m.b20 2), .long (m.b20 3)]))] := kCs_app hH0 hp6 (by decide)
  have e0 : mHome m.b20 4 0 = 1 := by simp [mHome, vp_updL]
  have e1 : mHome m.b20 4 1 = 0 := by simp [mHome, vp_updL]
  have e2 : mHome m.b20 4 2 = 0 := by simp [mHome, vp_updL]
  have e3 : mHome m.b20 4 3 = 1 := by simp [mHome, vp_updL]
  refine opD_ok (m1 := (mMk m.q m.i0 m.i1 m.i3 m.i7 m.i18 m.i22 m.i23 m.i27 m.j16 m.j17 m.a2 m.a4 m.a5 m.a6 m.b8 m.b9 m.b10 m.a11 m.a12 m.a13 m.a14 m.b15 m.b19 (mHome m.b20 4) m.b21 m.a24 m.a25 m.a26)) (m.b20 0 + m.b20 3).toInt32 (kX8_home l G B0 f h c.pp (.ref c.sp) (.ref c.dl) (.ref c.gl) (.ref c.rw) (.ref c.ml) (.ref c.nn) (m.b20 0) (m.b20 1) (m.b20 2) (m.b20 3) hW) (fun r f2 hp => ?_) ⟨rfl, rfl, Nat.le_of_ble_eq_true rfl, Nat.le_of_ble_eq_true rfl, Nat.le_of_ble_eq_true rfl, Nat.le_of_ble_eq_true rfl⟩ (fun f2 hM => kX9_home l G B0 f2 hm m.q m.i0 m.i1 m.i3 m.i7 m.i18 m.i22 m.i23 m.i27 m.j16 m.j17 m.a2 m.a4 m.a5 m.a6 m.b8 m.b9 m.b10 m.a11 m.a12 m.a13 m.a14 m.b15 m.b19 m.b20 m.b21 m.a24 m.a25 m.a26 hM) ⟨rfl, rfl, Nat.le_of_ble_eq_true rfl, Nat.le_of_ble_eq_true rfl, Nat.le_of_ble_eq_true rfl, Nat.le_of_ble_eq_true rfl⟩ (fun f2 r f3 hp => ?_)
  · obtain ⟨q, hr, hq, h4, hK⟩ := hp
    refine ⟨hr, oN o 6 f, (cMk c.sp c.dl c.gl c.rw c.ml q c.nn), hI.stepH hK (h4.pick [0] (by decide) ⟨rfl, trivial⟩) ?_ (fun j g hj0 hj hP => ?_)⟩
    · refine ⟨?_, fun k hk => ?_⟩
      · show kCs _ [(q, .inr (6, [.long (mHome m.b20 4 0), .long (mHome m.b20 4 1), .long (mHome m.b20 4 2), .long (mHome m.b20 4 3)]))]
        rw [e0, e1, e2, e3]
        exact kCs_own (h4.pick [2] (by decide) ⟨rfl, trivial⟩) (fun x hx => by rw [List.mem_singleton.mp hx]; exact .inr hq)
      · show (mHome m.b20 4 k).toInt.natAbs ≤ 1000000000
        have hk4 : k = 0 ∨ k = 1 ∨ k = 2 ∨ k = 3 := by omega
        rcases hk4 with rfl | rfl | rfl | rfl
        · rw [e0]; decide
        · rw [e1]; decide
        · rw [e2]; decide
        · rw [e3]; decide
    · unfold cPt at hP ⊢
      split
      case h_1 => exact absurd rfl hj0
      case h_7 => exact absurd rfl hj
      all_goals first | exact hP | trivial
  · exact ⟨hp.1, (mMk m.q m.i0 m.i1 m.i3 m.i7 m.i18 m.i22 m.i23 (nI 0) m.j16 m.j17 m.a2 m.a4 m.a5 m.a6 m.b8 m.b9 m.b10 m.a11 m.a12 m.a13 m.a14 m.b15 m.b19 (mHome m.b20 4) m.b21 m.a24 m.a25 m.a26), ⟨rfl, rfl, rfl, rfl, rfl, rfl, rfl, rfl, rfl, rfl, rfl, rfl, rfl, rfl, rfl, rfl⟩, rfl, hp.2.1, hp.2.2⟩
