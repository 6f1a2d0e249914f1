/-! moves told and appended -/
theorem cIn_k {x : Int32} {n : Nat} (hn : n < 2 ^ 31) : cIn x.toInt64 (nI n).toInt64 ↔ mRg x (-n) n := by
  have ex : x.toInt64.toInt = x.toInt := Int32.toInt_toInt64 x
  have en : (nI n).toInt64.toInt = n := nI64 hn
  have em : (-(nI n).toInt64).toInt = -(n : Int) := by rw [Int64.toInt_neg, en, Int.bmod_eq_of_le] <;> omega
  show (-(nI n).toInt64 ≤ x.toInt64 ∧ x.toInt64 ≤ (nI n).toInt64) ↔ _
  rw [le64, le64, em, en, ex]
theorem tl_iff {x1 x2 x3 x4 : Int32} : ((cIn x1.toInt64 (nI 1000).toInt64 ∧ cIn x2.toInt64 (nI 1000).toInt64 ∧ cIn x3.toInt64 (nI 1000).toInt64 ∧ cIn x4.toInt64 (nI 1000).toInt64) ∧ x1 * x4 - x2 * x3 = nI 1) ↔ mTl x1 x2 x3 x4 := by
  rw [cIn_k (by decide), cIn_k (by decide), cIn_k (by decide), cIn_k (by decide)]
  exact ⟨fun h => ⟨h.1.1, h.1.2.1, h.1.2.2.1, h.1.2.2.2, h.2⟩, fun h => ⟨⟨h.1, h.2.1, h.2.2.1, h.2.2.2.1⟩, h.2.2.2.2⟩⟩
theorem td_b {x : Int32} (h : mTd x) : x.toInt64.toInt.natAbs ≤ 1000000000 := by
  have ex : x.toInt64.toInt = x.toInt := Int32.toInt_toInt64 x
  have h1 : (-1000 : Int) ≤ x.toInt := h.1
  have h2 : x.toInt ≤ 1000 := h.2
  omega
theorem cMov_put {G : kG} {g : kH} {c : cSt} {m : mSt} {sz : Nat} {w : Nat → Nat} {t1 t2 t3 t4 : Nat → Int64} {x1 x2 x3 x4 : Int32} {t : Nat} (hL : kLst G g c.ml (sz + 1) (fun j => if j = sz then t else w j)) (he : ∀ j, j < sz + 1 → g (if j = sz then t else w j) = some (if j = sz then .inr (6, [.long x1.toInt64, .long x2.toInt64, .long x3.toInt64, .long x4.toInt64]) else tbE t1 t2 t3 t4 j)) (hn : sz + 1 ≤ 4) (hw : mTl x1 x2 x3 x4)
    (hx : ∀ k, k < sz → m.b19 (4 * k) = t1 k ∧ m.b19 (4 * k + 1) = t2 k ∧ m.b19 (4 * k + 2) = t3 k ∧ m.b19 (4 * k + 3) = t4 k ∧ ((t1 k).toInt.natAbs ≤ 1000000000 ∧ (t2 k).toInt.natAbs ≤ 1000000000 ∧ (t3 k).toInt.natAbs ≤ 1000000000 ∧ (t4 k).toInt.natAbs ≤ 1000000000)) : cMov G g c (mMk m.q m.i0 m.i1 m.i3 m.i7 (nI (sz + 1)) m.i22 m.i23 (nI 0) m.j16 m.j17 m.a2 m.a4 m.a5 m.a6 m.b8 m.b9 m.b10 m.a11 m.a12 m.a13 m.a14 m.b15 (vp_updL (vp_updL (vp_updL (vp_updL m.b19 (4 * sz) x1.toInt64) (4 * sz + 1) x2.toInt64) (4 * sz + 2) x3.toInt64) (4 * sz + 3) x4.toInt64) m.b20 m.b21 m.a24 m.a25 m.a26) := by
  refine ⟨sz + 1, _, fun j => if j = sz then x1.toInt64 else t1 j, fun j => if j = sz then x2.toInt64 else t2 j, fun j => if j = sz then x3.toInt64 else t3 j, fun j => if j = sz then x4.toInt64 else t4 j, hL, fun j hj => ?_, hn, rfl, fun j hj => ?_⟩
  · refine (he j hj).trans ?_
    by_cases q : j = sz
    · rw [if_pos q]; simp only [tbE, if_pos q]
    · rw [if_neg q]; simp only [tbE, if_neg q]
  · show (vp_updL (vp_updL (vp_updL (vp_updL m.b19 (4 * sz) x1.toInt64) (4 * sz + 1) x2.toInt64) (4 * sz + 2) x3.toInt64) (4 * sz + 3) x4.toInt64) (4 * j) = _ ∧ (vp_updL (vp_updL (vp_updL (vp_updL m.b19 (4 * sz) x1.toInt64) (4 * sz + 1) x2.toInt64) (4 * sz + 2) x3.toInt64) (4 * sz + 3) x4.toInt64) (4 * j + 1) = _ ∧ (vp_updL (vp_updL (vp_updL (vp_updL m.b19 (4 * sz) x1.toInt64) (4 * sz + 1) x2.toInt64) (4 * sz + 2) x3.toInt64) (4 * sz + 3) x4.toInt64) (4 * j + 2) = _ ∧ (vp_updL (vp_updL (vp_updL (vp_updL m.b19 (4 * sz) x1.toInt64) (4 * sz + 1) x2.toInt64) (4 * sz + 2) x3.toInt64) (4 * sz + 3) x4.toInt64) (4 * j + 3) = _ ∧ _
    unfold vp_updL
    by_cases q : j = sz
    · subst q
      simp only [if_pos]
      refine ⟨?_, ?_, ?_, ?_, td_b hw.1, td_b hw.2.1, td_b hw.2.2.1, td_b hw.2.2.2.1⟩
      · rw [if_neg (by omega), if_neg (by omega), if_neg (by omega)]
      · rw [if_neg (by omega), if_neg (by omega)]
      · rw [if_neg (by omega)]
      · trivial
    · simp only [if_neg q]
      have h9 := hx j (by omega)
      refine ⟨?_, ?_, ?_, ?_, h9.2.2.2.2⟩
      · rw [if_neg (by omega), if_neg (by omega), if_neg (by omega), if_neg (by omega)]; exact h9.1
      · rw [if_neg (by omega), if_neg (by omega), if_neg (by omega), if_neg (by omega)]; exact h9.2.1
      · rw [if_neg (by omega), if_neg (by omega), if_neg (by omega), if_neg (by omega)]; exact h9.2.2.1
      · rw [if_neg (by omega), if_neg (by omega), if_neg (by omega), if_neg (by omega)]; exact h9.2.2.2.1
theorem cIn_b {x : Int64} (h : cIn x 1000000000) : x.toInt.natAbs ≤ 1000000000 := by
  have a := le64.mp h.1
  have b := le64.mp h.2
  have e1 : (-1000000000 : Int64).toInt = -1000000000 := rfl
  have e2 : (1000000000 : Int64).toInt = 1000000000 := rfl
  omega
theorem op_tell {l : Launch} (hst : l.stackTraces = false) {G : kG} {B0 h hm po pd : Nat} {f : kH} {o : Nat → Nat} {c : cSt} {m : mSt} (hI : Inv2 G h hm po pd f o c m m) (x1 x2 x3 x4 : Int32) : opI l G B0 h hm po pd f yL_tell wsL_tell [.ref h, .int x1, .int x2, .int x3, .int x4, .ref po] yX9_tell wsX9_tell [.ref hm, .int x1, .int x2, .int x3, .int x4] := by
  have hD : cMov G (kR o 5 f) c m := hI 5
  obtain ⟨sz, w, t1, t2, t3, t4, hL, he, hsz, e3, hx⟩ := hD
  have hH0 : kCs (kR o 0 f) (cHd h c) := hI 0
  have hH : kCs f (cHd h c) := hH0.le (kR_le _ _ _)
  have hls : kLs G f c.ml sz w (tbE t1 t2 t3 t4) := (hL.ls he).le (kR_le _ _ _)
  by_cases hw : mTl x1 x2 x3 x4
  · have hw8 := tl_iff.mpr hw
    by_cases h16 : 4 ≤ sz
    · exact opI_thr (m2 := (mMk m.q m.i0 m.i1 m.i3 m.i7 m.i18 m.i22 m.i23 (nI 2) m.j16 m.j17 m.a2 m.a4 m.a5 m.a6 m.b8 m.b9 m.b10 m.a11 m.a12 m.a13 m.a14 m.b15 m.b19 m.b20 m.b21 m.a24 m.a25 m.a26)) hI 2 (by omega) (kL_tell_s l G B0 f h po x1 x2 x3 x4 hI.hd rfl rfl (kX8_tell_b2 l hst G B0 f h c.pp c.ml sz (.ref c.sp) (.ref c.dl) (.ref c.gl) (.ref c.rw) (.ref c.nn) w t1 t2 t3 t4 x1 x2 x3 x4 hH hls hsz hw8 h16)) (fun f2 h2 => by rw [show f2 = f from h2]; exact kKp.rf) ⟨rfl, rfl, Nat.le_of_ble_eq_true rfl, Nat.le_of_ble_eq_true rfl, Nat.le_of_ble_eq_true rfl, Nat.le_of_ble_eq_true rfl⟩ (fun f2 hM => kX9_tell_b2 l G B0 f2 hm m.q m.i0 m.i1 m.i3 m.i7 m.i18 m.i22 m.i23 m.i27 m.j16 m.j17 m.a2 m.a4 m.a5 m.a6 m.b8 m.b9 m.b10 m.a11 m.a12 m.a13 m.a14 m.b15 m.b19 m.b20 m.b21 m.a24 m.a25 m.a26 x1 x2 x3 x4 sz hM e3 hsz hw (by omega)) ⟨rfl, rfl, Nat.le_of_ble_eq_true rfl, Nat.le_of_ble_eq_true rfl, Nat.le_of_ble_eq_true rfl, Nat.le_of_ble_eq_true rfl⟩ ⟨rfl, rfl, rfl, rfl, rfl, rfl, rfl, rfl, rfl, rfl, rfl, rfl, rfl, rfl, rfl, rfl⟩ rfl rfl
    have hmd := fun f2 hM => kX9_tell l G B0 f2 hm m.q m.i0 m.i1 m.i3 m.i7 m.i18 m.i22 m.i23 m.i27 m.j16 m.j17 m.a2 m.a4 m.a5 m.a6 m.b8 m.b9 m.b10 m.a11 m.a12 m.a13 m.a14 m.b15 m.b19 m.b20 m.b21 m.a24 m.a25 m.a26 x1 x2 x3 x4 sz hM e3 hsz hw (by omega)
    obtain ⟨mc, ⟨h0, h1⟩ | ⟨q, cap, g0, h1, h2, h10, h64, h5, h6⟩⟩ := hL
    · subst h0
      have a1 := kR_some.mp h1
      have hW : kCs f [(h, .inr (8, [.ref c.sp, .ref c.dl, .ref c.gl, .ref c.rw, .ref c.ml, .ref c.pp, .ref c.nn])), (c.ml, .inr (0, [.int mc, .ref (G.2.2 1), .int (nI 0)]))] := kCs_app hH0 (show kCs (kR o 5 f) [(c.ml, .inr (0, [.int mc, .ref (G.2.2 1), .int (nI 0)]))] from ⟨fun x hx => by rw [List.mem_singleton.mp hx]; exact h1, by simp⟩) (by decide)
      refine opI_ok (m1 := (mMk m.q m.i0 m.i1 m.i3 m.i7 (nI (0 + 1)) m.i22 m.i23 (nI 0) m.j16 m.j17 m.a2 m.a4 m.a5 m.a6 m.b8 m.b9 m.b10 m.a11 m.a12 m.a13 m.a14 m.b15 (vp_updL (vp_updL (vp_updL (vp_updL m.b19 (4 * 0) x1.toInt64) (4 * 0 + 1) x2.toInt64) (4 * 0 + 2) x3.toInt64) (4 * 0 + 3) x4.toInt64) m.b20 m.b21 m.a24 m.a25 m.a26)) (nI 0).toInt64 (kL_tell_g l G B0 f h po x1 x2 x3 x4 hI.hd rfl rfl (kX8_tell_0 l G B0 f h c.ml mc (.ref c.sp) (.ref c.dl) (.ref c.gl) (.ref c.rw) (.ref c.pp) (.ref c.nn) x1 x2 x3 x4 hw8.1 hw8.2 hW) (fun r0 f1 hp => ?_)) (fun f2 hp => ?_) ⟨rfl, rfl, Nat.le_of_ble_eq_true rfl, Nat.le_of_ble_eq_true rfl, Nat.le_of_ble_eq_true rfl, Nat.le_of_ble_eq_true rfl⟩ hmd ⟨rfl, rfl, Nat.le_of_ble_eq_true rfl, Nat.le_of_ble_eq_true rfl, Nat.le_of_ble_eq_true rfl, Nat.le_of_ble_eq_true rfl⟩ (fun f2 r f3 hp => ?_)
      · obtain ⟨t, q, _, _, _, _, hK⟩ := hp
        exact hI.outK hK (fun a ha z => by rw [List.mem_singleton.mp ha] at z; have := a1.1; omega)
      · obtain ⟨r0, f1, g, ⟨t, q, hr, hT, hq, h4, hK⟩, hg, hf⟩ := hp
        refine ⟨f1, g, oN o 5 f, c, ?_, hg, hf.trans (by rw [hr])⟩
        have hqt : q ≠ t := fun z => by have := h4.2; simp [z] at this
        refine hI.step 5 hK (fun a ha => by rw [List.mem_singleton.mp ha]; exact a1.1) ?_ (fun j g hj hP => ?_)
        · exact cMov_put (kLst.add_0 (w := w) h1 hT hq hqt (h4.pick [1, 3] (by decide) ⟨rfl, rfl, trivial⟩)) (kLst.more (sz := 0) (w := w) (e := tbE t1 t2 t3 t4) hK (fun j hj => absurd hj (Nat.not_lt_zero _)) hT (h4.at 2 rfl)) (by omega) hw hx
        · unfold cPt at hP ⊢
          split
          case h_6 => exact absurd rfl hj
          all_goals first | exact hP | trivial
      · exact ⟨by rw [hp.1], (mMk m.q m.i0 m.i1 m.i3 m.i7 (nI (0 + 1)) m.i22 m.i23 (nI 0) m.j16 m.j17 m.a2 m.a4 m.a5 m.a6 m.b8 m.b9 m.b10 m.a11 m.a12 m.a13 m.a14 m.b15 (vp_updL (vp_updL (vp_updL (vp_updL m.b19 (4 * 0) x1.toInt64) (4 * 0 + 1) x2.toInt64) (4 * 0 + 2) x3.toInt64) (4 * 0 + 3) x4.toInt64) m.b20 m.b21 m.a24 m.a25 m.a26), ⟨rfl, rfl, rfl, rfl, rfl, rfl, rfl, rfl, rfl, rfl, rfl, rfl, rfl, rfl, rfl, rfl⟩, rfl, rfl, hp.2.1, hp.2.2⟩
    · have a1 := (kCs_mem h1) _ List.mem_cons_self
      have a2 := (kCs_mem h1) _ (List.mem_cons_of_mem _ List.mem_cons_self)
      have hW : kCs f [(h, .inr (8, [.ref c.sp, .ref c.dl, .ref c.gl, .ref c.rw, .ref c.ml, .ref c.pp, .ref c.nn])), (c.ml, .inr (0, [.int mc, .ref q, .int (nI sz)])), (q, kaO G cap g0)] := kCs_app hH0 h1 (by decide)
      have hc : sz < cap := by omega
      refine opI_ok (m1 := (mMk m.q m.i0 m.i1 m.i3 m.i7 (nI (sz + 1)) m.i22 m.i23 (nI 0) m.j16 m.j17 m.a2 m.a4 m.a5 m.a6 m.b8 m.b9 m.b10 m.a11 m.a12 m.a13 m.a14 m.b15 (vp_updL (vp_updL (vp_updL (vp_updL m.b19 (4 * sz) x1.toInt64) (4 * sz + 1) x2.toInt64) (4 * sz + 2) x3.toInt64) (4 * sz + 3) x4.toInt64) m.b20 m.b21 m.a24 m.a25 m.a26)) (nI sz).toInt64 (kL_tell_g l G B0 f h po x1 x2 x3 x4 hI.hd rfl rfl (kX8_tell_n l G B0 f h c.ml q mc sz cap g0 (.ref c.sp) (.ref c.dl) (.ref c.gl) (.ref c.rw) (.ref c.pp) (.ref c.nn) x1 x2 x3 x4 hw8.1 hw8.2 hW (by omega) hc (by omega)) (fun r0 f1 hp => ?_)) (fun f2 hp => ?_) ⟨rfl, rfl, Nat.le_of_ble_eq_true rfl, Nat.le_of_ble_eq_true rfl, Nat.le_of_ble_eq_true rfl, Nat.le_of_ble_eq_true rfl⟩ hmd ⟨rfl, rfl, Nat.le_of_ble_eq_true rfl, Nat.le_of_ble_eq_true rfl, Nat.le_of_ble_eq_true rfl, Nat.le_of_ble_eq_true rfl⟩ (fun f2 r f3 hp => ?_)
      · obtain ⟨t, _, _, _, hK⟩ := hp
        refine hI.outK hK (fun a ha z => ?_)
        simp only [List.mem_cons, List.not_mem_nil, or_false] at ha
        rcases ha with rfl | rfl
        · have := a1.1; dsimp only at this; omega
        · have := a2.1; dsimp only at this; omega
      · obtain ⟨r0, f1, g, ⟨t, hr, hT, h4, hK⟩, hg, hf⟩ := hp
        refine ⟨f1, g, oN o 5 f, c, ?_, hg, hf.trans (by rw [hr])⟩
        refine hI.step 5 hK (fun a ha => ?_) ?_ (fun j g hj hP => ?_)
        · simp only [List.mem_cons, List.not_mem_nil, or_false] at ha
          rcases ha with rfl | rfl
          · exact a1.1
          · exact a2.1
        · exact cMov_put (kLst.add_n h1 hc h10 h64 h5 h6 he hT (h4.pick [1, 2] (by decide) ⟨rfl, rfl, trivial⟩)) (kLst.more hK (fun j hj => ⟨he j hj, fun z => by
            simp only [List.mem_cons, List.not_mem_nil, or_false] at z
            exact z.elim (h5 j hj).2.1 (h5 j hj).2.2⟩) hT (h4.at 3 rfl)) (by omega) hw hx
        · unfold cPt at hP ⊢
          split
          case h_6 => exact absurd rfl hj
          all_goals first | exact hP | trivial
      · exact ⟨by rw [hp.1], (mMk m.q m.i0 m.i1 m.i3 m.i7 (nI (sz + 1)) m.i22 m.i23 (nI 0) m.j16 m.j17 m.a2 m.a4 m.a5 m.a6 m.b8 m.b9 m.b10 m.a11 m.a12 m.a13 m.a14 m.b15 (vp_updL (vp_updL (vp_updL (vp_updL m.b19 (4 * sz) x1.toInt64) (4 * sz + 1) x2.toInt64) (4 * sz + 2) x3.toInt64) (4 * sz + 3) x4.toInt64) m.b20 m.b21 m.a24 m.a25 m.a26), ⟨rfl, rfl, rfl, rfl, rfl, rfl, rfl, rfl, rfl, rfl, rfl, rfl, rfl, rfl, rfl, rfl⟩, rfl, rfl, hp.2.1, hp.2.2⟩
  · exact opI_thr (m2 := (mMk m.q m.i0 m.i1 m.i3 m.i7 m.i18 m.i22 m.i23 (nI 1) m.j16 m.j17 m.a2 m.a4 m.a5 m.a6 m.b8 m.b9 m.b10 m.a11 m.a12 m.a13 m.a14 m.b15 m.b19 m.b20 m.b21 m.a24 m.a25 m.a26)) hI 1 (by omega) (kL_tell_a l G B0 f h po x1 x2 x3 x4 hI.hd rfl rfl (kX8_tell_b1 l hst G B0 f h c.pp c.ml sz (.ref c.sp) (.ref c.dl) (.ref c.gl) (.ref c.rw) (.ref c.nn) w t1 t2 t3 t4 x1 x2 x3 x4 hH hls hsz (fun z => hw (tl_iff.mp z)))) (fun f2 h2 => by rw [show f2 = f from h2]; exact kKp.rf) ⟨rfl, rfl, Nat.le_of_ble_eq_true rfl, Nat.le_of_ble_eq_true rfl, Nat.le_of_ble_eq_true rfl, Nat.le_of_ble_eq_true rfl⟩ (fun f2 hM => kX9_tell_b1 l G B0 f2 hm m.q m.i0 m.i1 m.i3 m.i7 m.i18 m.i22 m.i23 m.i27 m.j16 m.j17 m.a2 m.a4 m.a5 m.a6 m.b8 m.b9 m.b10 m.a11 m.a12 m.a13 m.a14 m.b15 m.b19 m.b20 m.b21 m.a24 m.a25 m.a26 x1 x2 x3 x4 sz hM e3 hsz hw) ⟨rfl, rfl, Nat.le_of_ble_eq_true rfl, Nat.le_of_ble_eq_true rfl, Nat.le_of_ble_eq_true rfl, Nat.le_of_ble_eq_true rfl⟩ ⟨rfl, rfl, rfl, rfl, rfl, rfl, rfl, rfl, rfl, rfl, rfl, rfl, rfl, rfl, rfl, rfl⟩ rfl rfl
theorem op_append {l : Launch} (hst : l.stackTraces = false) {G : kG} {B0 h hm po pd : Nat} {f : kH} {o : Nat → Nat} {c : cSt} {m : mSt} (hI : Inv2 G h hm po pd f o c m m) (x1 x2 : Int32) (h5 : x2 = nI 0 ∨ x2 = nI 1) : opI l G B0 h hm po pd f yL_append wsL_append [.ref h, .int x1, .int x2, .ref po] yX9_append wsX9_append [.ref hm, .int x1, .int x2] := by
  have hD : cMov G (kR o 5 f) c m := hI 5
  obtain ⟨sz, w, t1, t2, t3, t4, hL, he, hsz, e3, hx⟩ := hD
  have hH0 : kCs (kR o 0 f) (cHd h c) := hI 0
  have hH : kCs f (cHd h c) := hH0.le (kR_le _ _ _)
  have hls : kLs G f c.ml sz w (tbE t1 t2 t3 t4) := (hL.ls he).le (kR_le _ _ _)
  have hP6 : cPrd G (kR o 6 f) c m := hI 6
  obtain ⟨hp6, hb6⟩ := hP6
  by_cases hv : mIn x1 sz
  · obtain ⟨i, hi, rfl⟩ := mIn_ex (by omega) hv
    obtain ⟨y1, y2, y3, y4, -⟩ := hx i hi
    have hW : kCs f [(h, .inr (8, [.ref c.sp, .ref c.dl, .ref c.gl, .ref c.rw, .ref c.ml, .ref c.pp, .ref c.nn])), (c.pp, .inr (6, [.long (m.b20 0), .long (m.b20 1), .long (m.b20 2), .long (m.b20 3)])), (w i, .inr (6, [.long (t1 i), .long (t2 i), .long (t3 i), .long (t4 i)]))] := by
      have k0 := kCs_mem hH0 _ List.mem_cons_self
      have k6 := kCs_mem hp6 _ List.mem_cons_self
      have k5 := kR_some.mp (he i hi)
      refine ⟨fun x hx9 => ?_, ?_⟩
      · simp only [List.mem_cons, List.not_mem_nil, or_false] at hx9
        rcases hx9 with rfl | rfl | rfl
        · exact k0.2
        · exact k6.2
        · exact k5.2
      · have n0 := k0.1
        have n6 := k6.1
        have n5 := k5.1
        dsimp only at n0 n6
        simp only [List.map_cons, List.map_nil, List.nodup_cons, List.mem_cons, List.not_mem_nil, or_false, not_or, List.nodup_nil, and_true, not_false_eq_true]
        exact ⟨⟨fun z => by rw [z] at n0; omega, fun z => by rw [z] at n0; omega⟩, fun z => by rw [z] at n6; omega⟩
    rcases h5 with rfl | rfl
    · have p0 : (mProd m.b21 m.b20 (m.b19 (4 * i)) (m.b19 (4 * i + 1)) (m.b19 (4 * i + 2)) (m.b19 (4 * i + 3))) 0 = m.b20 0 * (t1 i) + m.b20 1 * (t3 i) := by rw [y1, y2, y3, y4]; simp [mProd, vp_updL]
      have p1 : (mProd m.b21 m.b20 (m.b19 (4 * i)) (m.b19 (4 * i + 1)) (m.b19 (4 * i + 2)) (m.b19 (4 * i + 3))) 1 = m.b20 0 * (t2 i) + m.b20 1 * (t4 i) := by rw [y1, y2, y3, y4]; simp [mProd, vp_updL]
      have p2 : (mProd m.b21 m.b20 (m.b19 (4 * i)) (m.b19 (4 * i + 1)) (m.b19 (4 * i + 2)) (m.b19 (4 * i + 3))) 2 = m.b20 2 * (t1 i) + m.b20 3 * (t3 i) := by rw [y1, y2, y3, y4]; simp [mProd, vp_updL]
      have p3 : (mProd m.b21 m.b20 (m.b19 (4 * i)) (m.b19 (4 * i + 1)) (m.b19 (4 * i + 2)) (m.b19 (4 * i + 3))) 3 = m.b20 2 * (t2 i) + m.b20 3 * (t4 i) := by rw [y1, y2, y3, y4]; simp [mProd, vp_updL]
      have c0 : (mCopy0 m.b20 (mProd m.b21 m.b20 (m.b19 (4 * i)) (m.b19 (4 * i + 1)) (m.b19 (4 * i + 2)) (m.b19 (4 * i + 3))) 4) 0 = m.b20 0 * (t1 i) + m.b20 1 * (t3 i) := by rw [← p0]; simp [mCopy0, vp_updL]
      have c1 : (mCopy0 m.b20 (mProd m.b21 m.b20 (m.b19 (4 * i)) (m.b19 (4 * i + 1)) (m.b19 (4 * i + 2)) (m.b19 (4 * i + 3))) 4) 1 = m.b20 0 * (t2 i) + m.b20 1 * (t4 i) := by rw [← p1]; simp [mCopy0, vp_updL]
      have c2 : (mCopy0 m.b20 (mProd m.b21 m.b20 (m.b19 (4 * i)) (m.b19 (4 * i + 1)) (m.b19 (4 * i + 2)) (m.b19 (4 * i + 3))) 4) 2 = m.b20 2 * (t1 i) + m.b20 3 * (t3 i) := by rw [← p2]; simp [mCopy0, vp_updL]
      have c3 : (mCopy0 m.b20 (mProd m.b21 m.b20 (m.b19 (4 * i)) (m.b19 (4 * i + 1)) (m.b19 (4 * i + 2)) (m.b19 (4 * i + 3))) 4) 3 = m.b20 2 * (t2 i) + m.b20 3 * (t4 i) := by rw [← p3]; simp [mCopy0, vp_updL]
      have hpi : (∀ j : Nat, j < 4 → mRl ((mProd m.b21 m.b20 (m.b19 (4 * i)) (m.b19 (4 * i + 1)) (m.b19 (4 * i + 2)) (m.b19 (4 * i + 3))) j)) ↔ (cIn (m.b20 0 * (t1 i) + m.b20 1 * (t3 i)) 1000000000 ∧ cIn (m.b20 0 * (t2 i) + m.b20 1 * (t4 i)) 1000000000 ∧ cIn (m.b20 2 * (t1 i) + m.b20 3 * (t3 i)) 1000000000 ∧ cIn (m.b20 2 * (t2 i) + m.b20 3 * (t4 i)) 1000000000) := by
        constructor
        · intro z
          exact ⟨p0 ▸ z 0 (by omega), p1 ▸ z 1 (by omega), p2 ▸ z 2 (by omega), p3 ▸ z 3 (by omega)⟩
        · intro z j hj
          have hj4 : j = 0 ∨ j = 1 ∨ j = 2 ∨ j = 3 := by omega
          rcases hj4 with rfl | rfl | rfl | rfl
          · rw [p0]; exact z.1
          · rw [p1]; exact z.2.1
          · rw [p2]; exact z.2.2.1
          · rw [p3]; exact z.2.2.2
      by_cases hpp : ∀ j : Nat, j < 4 → mRl ((mProd m.b21 m.b20 (m.b19 (4 * i)) (m.b19 (4 * i + 1)) (m.b19 (4 * i + 2)) (m.b19 (4 * i + 3))) j)
      · have h9 := hpi.mp hpp
        refine opI_ok (m1 := (mMk m.q m.i0 m.i1 m.i3 m.i7 m.i18 m.i22 m.i23 (nI 0) m.j16 m.j17 m.a2 m.a4 m.a5 m.a6 m.b8 m.b9 m.b10 m.a11 m.a12 m.a13 m.a14 m.b15 m.b19 (mCopy0 m.b20 (mProd m.b21 m.b20 (m.b19 (4 * i)) (m.b19 (4 * i + 1)) (m.b19 (4 * i + 2)) (m.b19 (4 * i + 3))) 4) (mProd m.b21 m.b20 (m.b19 (4 * i)) (m.b19 (4 * i + 1)) (m.b19 (4 * i + 2)) (m.b19 (4 * i + 3))) m.a24 m.a25 m.a26)) ((m.b20 0 * (t1 i) + m.b20 1 * (t3 i)) + (m.b20 2 * (t2 i) + m.b20 3 * (t4 i))).toInt32.toInt64 (kL_append_g l G B0 f h po (nI i) (nI 0) hI.hd rfl rfl (kX8_append_f l G B0 f h c.pp c.ml sz i (.ref c.sp) (.ref c.dl) (.ref c.gl) (.ref c.rw) (.ref c.nn) (m.b20 0) (m.b20 1) (m.b20 2) (m.b20 3) w t1 t2 t3 t4 hW hls hsz hi (nI 0) (by decide) h9) (fun r0 f1 hp => ?_)) (fun f2 hp => ?_) ⟨rfl, rfl, Nat.le_of_ble_eq_true rfl, Nat.le_of_ble_eq_true rfl, Nat.le_of_ble_eq_true rfl, Nat.le_of_ble_eq_true rfl⟩ (fun f2 hM => kX9_append_n l G B0 f2 hm m.q m.i0 m.i1 m.i3 m.i7 m.i18 m.i22 m.i23 m.i27 m.j16 m.j17 m.a2 m.a4 m.a5 m.a6 m.b8 m.b9 m.b10 m.a11 m.a12 m.a13 m.a14 m.b15 m.b19 m.b20 m.b21 m.a24 m.a25 m.a26 i sz hM e3 hsz hi hpp) ⟨rfl, rfl, Nat.le_of_ble_eq_true rfl, Nat.le_of_ble_eq_true rfl, Nat.le_of_ble_eq_true rfl, Nat.le_of_ble_eq_true rfl⟩ (fun f2 r f3 hp => ?_)
        · obtain ⟨q, _, _, _, hK⟩ := hp
          exact hI.outK hK (fun a ha z => by rw [List.mem_singleton.mp ha] at z; have := (kCs_mem hH0 _ List.mem_cons_self).1; dsimp only at this; omega)
        · obtain ⟨r0, f1, g, ⟨q, hr, hq, h4, hK⟩, hg, hf⟩ := hp
          refine ⟨f1, g, oN o 6 f, (cMk c.sp c.dl c.gl c.rw c.ml q c.nn), hI.stepH hK (h4.pick [0] (by decide) ⟨rfl, trivial⟩) ?_ (fun j g hj0 hj hP => ?_), hg, hf.trans (by rw [hr])⟩
          · refine ⟨?_, fun k hk => ?_⟩
            · show kCs _ [(q, .inr (6, [.long ((mCopy0 m.b20 (mProd m.b21 m.b20 (m.b19 (4 * i)) (m.b19 (4 * i + 1)) (m.b19 (4 * i + 2)) (m.b19 (4 * i + 3))) 4) 0), .long ((mCopy0 m.b20 (mProd m.b21 m.b20 (m.b19 (4 * i)) (m.b19 (4 * i + 1)) (m.b19 (4 * i + 2)) (m.b19 (4 * i + 3))) 4) 1), .long ((mCopy0 m.b20 (mProd m.b21 m.b20 (m.b19 (4 * i)) (m.b19 (4 * i + 1)) (m.b19 (4 * i + 2)) (m.b19 (4 * i + 3))) 4) 2), .long ((mCopy0 m.b20 (mProd m.b21 m.b20 (m.b19 (4 * i)) (m.b19 (4 * i + 1)) (m.b19 (4 * i + 2)) (m.b19 (4 * i + 3))) 4) 3)]))]
              rw [c0, c1, c2, c3]
              exact kCs_own (h4.pick [1] (by decide) ⟨rfl, trivial⟩) (fun x hx => by rw [List.mem_singleton.mp hx]; exact .inr hq)
            · show ((mCopy0 m.b20 (mProd m.b21 m.b20 (m.b19 (4 * i)) (m.b19 (4 * i + 1)) (m.b19 (4 * i + 2)) (m.b19 (4 * i + 3))) 4) k).toInt.natAbs ≤ 1000000000
              have hk4 : k = 0 ∨ k = 1 ∨ k = 2 ∨ k = 3 := by omega
              rcases hk4 with rfl | rfl | rfl | rfl
              · rw [c0]; exact cIn_b h9.1
              · rw [c1]; exact cIn_b h9.2.1
              · rw [c2]; exact cIn_b h9.2.2.1
              · rw [c3]; exact cIn_b h9.2.2.2
          · unfold cPt at hP ⊢
            split
            case h_1 => exact absurd rfl hj0
            case h_7 => exact absurd rfl hj
            all_goals first | exact hP | trivial
        · exact ⟨by rw [hp.1, c0, c3], (mMk m.q m.i0 m.i1 m.i3 m.i7 m.i18 m.i22 m.i23 (nI 0) m.j16 m.j17 m.a2 m.a4 m.a5 m.a6 m.b8 m.b9 m.b10 m.a11 m.a12 m.a13 m.a14 m.b15 m.b19 (mCopy0 m.b20 (mProd m.b21 m.b20 (m.b19 (4 * i)) (m.b19 (4 * i + 1)) (m.b19 (4 * i + 2)) (m.b19 (4 * i + 3))) 4) (mProd m.b21 m.b20 (m.b19 (4 * i)) (m.b19 (4 * i + 1)) (m.b19 (4 * i + 2)) (m.b19 (4 * i + 3))) m.a24 m.a25 m.a26), ⟨rfl, rfl, rfl, rfl, rfl, rfl, rfl, rfl, rfl, rfl, rfl, rfl, rfl, rfl, rfl, rfl⟩, rfl, rfl, hp.2.1, hp.2.2⟩
      · exact opI_thr (m2 := (mMk m.q m.i0 m.i1 m.i3 m.i7 m.i18 m.i22 m.i23 (nI 2) m.j16 m.j17 m.a2 m.a4 m.a5 m.a6 m.b8 m.b9 m.b10 m.a11 m.a12 m.a13 m.a14 m.b15 m.b19 m.b20 (mProd m.b21 m.b20 (m.b19 (4 * i)) (m.b19 (4 * i + 1)) (m.b19 (4 * i + 2)) (m.b19 (4 * i + 3))) m.a24 m.a25 m.a26)) hI 2 (by omega) (kL_append_s l G B0 f h po (nI i) (nI 0) hI.hd rfl rfl (kX8_append_f2 l hst G B0 f h c.pp c.ml sz i (.ref c.sp) (.ref c.dl) (.ref c.gl) (.ref c.rw) (.ref c.nn) (m.b20 0) (m.b20 1) (m.b20 2) (m.b20 3) w t1 t2 t3 t4 hW hls hsz hi (nI 0) (by decide) (fun z => hpp (hpi.mpr z)))) (fun f2 h2 => h2) ⟨rfl, rfl, Nat.le_of_ble_eq_true rfl, Nat.le_of_ble_eq_true rfl, Nat.le_of_ble_eq_true rfl, Nat.le_of_ble_eq_true rfl⟩ (fun f2 hM => kX9_append_n_b2 l G B0 f2 hm m.q m.i0 m.i1 m.i3 m.i7 m.i18 m.i22 m.i23 m.i27 m.j16 m.j17 m.a2 m.a4 m.a5 m.a6 m.b8 m.b9 m.b10 m.a11 m.a12 m.a13 m.a14 m.b15 m.b19 m.b20 m.b21 m.a24 m.a25 m.a26 i sz hM e3 hsz hi hpp) ⟨rfl, rfl, Nat.le_of_ble_eq_true rfl, Nat.le_of_ble_eq_true rfl, Nat.le_of_ble_eq_true rfl, Nat.le_of_ble_eq_true rfl⟩ ⟨rfl, rfl, rfl, rfl, rfl, rfl, rfl, rfl, rfl, rfl, rfl, rfl, rfl, rfl, rfl, rfl⟩ rfl rfl
    · have p0 : (mProd m.b21 m.b20 (m.b19 (4 * i + 3)) (-m.b19 (4 * i + 1)) (-m.b19 (4 * i + 2)) (m.b19 (4 * i))) 0 = m.b20 0 * (t4 i) + m.b20 1 * (-t3 i) := by rw [y1, y2, y3, y4]; simp [mProd, vp_updL]
      have p1 : (mProd m.b21 m.b20 (m.b19 (4 * i + 3)) (-m.b19 (4 * i + 1)) (-m.b19 (4 * i + 2)) (m.b19 (4 * i))) 1 = m.b20 0 * (-t2 i) + m.b20 1 * (t1 i) := by rw [y1, y2, y3, y4]; simp [mProd, vp_updL]
      have p2 : (mProd m.b21 m.b20 (m.b19 (4 * i + 3)) (-m.b19 (4 * i + 1)) (-m.b19 (4 * i + 2)) (m.b19 (4 * i))) 2 = m.b20 2 * (t4 i) + m.b20 3 * (-t3 i) := by rw [y1, y2, y3, y4]; simp [mProd, vp_updL]
      have p3 : (mProd m.b21 m.b20 (m.b19 (4 * i + 3)) (-m.b19 (4 * i + 1)) (-m.b19 (4 * i + 2)) (m.b19 (4 * i))) 3 = m.b20 2 * (-t2 i) + m.b20 3 * (t1 i) := by rw [y1, y2, y3, y4]; simp [mProd, vp_updL]
      have c0 : (mCopy0 m.b20 (mProd m.b21 m.b20 (m.b19 (4 * i + 3)) (-m.b19 (4 * i + 1)) (-m.b19 (4 * i + 2)) (m.b19 (4 * i))) 4) 0 = m.b20 0 * (t4 i) + m.b20 1 * (-t3 i) := by rw [← p0]; simp [mCopy0, vp_updL]
      have c1 : (mCopy0 m.b20 (mProd m.b21 m.b20 (m.b19 (4 * i + 3)) (-m.b19 (4 * i + 1)) (-m.b19 (4 * i + 2)) (m.b19 (4 * i))) 4) 1 = m.b20 0 * (-t2 i) + m.b20 1 * (t1 i) := by rw [← p1]; simp [mCopy0, vp_updL]
      have c2 : (mCopy0 m.b20 (mProd m.b21 m.b20 (m.b19 (4 * i + 3)) (-m.b19 (4 * i + 1)) (-m.b19 (4 * i + 2)) (m.b19 (4 * i))) 4) 2 = m.b20 2 * (t4 i) + m.b20 3 * (-t3 i) := by rw [← p2]; simp [mCopy0, vp_updL]
      have c3 : (mCopy0 m.b20 (mProd m.b21 m.b20 (m.b19 (4 * i + 3)) (-m.b19 (4 * i + 1)) (-m.b19 (4 * i + 2)) (m.b19 (4 * i))) 4) 3 = m.b20 2 * (-t2 i) + m.b20 3 * (t1 i) := by rw [← p3]; simp [mCopy0, vp_updL]
      have hpi : (∀ j : Nat, j < 4 → mRl ((mProd m.b21 m.b20 (m.b19 (4 * i + 3)) (-m.b19 (4 * i + 1)) (-m.b19 (4 * i + 2)) (m.b19 (4 * i))) j)) ↔ (cIn (m.b20 0 * (t4 i) + m.b20 1 * (-t3 i)) 1000000000 ∧ cIn (m.b20 0 * (-t2 i) + m.b20 1 * (t1 i)) 1000000000 ∧ cIn (m.b20 2 * (t4 i) + m.b20 3 * (-t3 i)) 1000000000 ∧ cIn (m.b20 2 * (-t2 i) + m.b20 3 * (t1 i)) 1000000000) := by
        constructor
        · intro z
          exact ⟨p0 ▸ z 0 (by omega), p1 ▸ z 1 (by omega), p2 ▸ z 2 (by omega), p3 ▸ z 3 (by omega)⟩
        · intro z j hj
          have hj4 : j = 0 ∨ j = 1 ∨ j = 2 ∨ j = 3 := by omega
          rcases hj4 with rfl | rfl | rfl | rfl
          · rw [p0]; exact z.1
          · rw [p1]; exact z.2.1
          · rw [p2]; exact z.2.2.1
          · rw [p3]; exact z.2.2.2
      by_cases hpp : ∀ j : Nat, j < 4 → mRl ((mProd m.b21 m.b20 (m.b19 (4 * i + 3)) (-m.b19 (4 * i + 1)) (-m.b19 (4 * i + 2)) (m.b19 (4 * i))) j)
      · have h9 := hpi.mp hpp
        refine opI_ok (m1 := (mMk m.q m.i0 m.i1 m.i3 m.i7 m.i18 m.i22 m.i23 (nI 0) m.j16 m.j17 m.a2 m.a4 m.a5 m.a6 m.b8 m.b9 m.b10 m.a11 m.a12 m.a13 m.a14 m.b15 m.b19 (mCopy0 m.b20 (mProd m.b21 m.b20 (m.b19 (4 * i + 3)) (-m.b19 (4 * i + 1)) (-m.b19 (4 * i + 2)) (m.b19 (4 * i))) 4) (mProd m.b21 m.b20 (m.b19 (4 * i + 3)) (-m.b19 (4 * i + 1)) (-m.b19 (4 * i + 2)) (m.b19 (4 * i))) m.a24 m.a25 m.a26)) ((m.b20 0 * (t4 i) + m.b20 1 * (-t3 i)) + (m.b20 2 * (-t2 i) + m.b20 3 * (t1 i))).toInt32.toInt64 (kL_append_g l G B0 f h po (nI i) (nI 1) hI.hd rfl rfl (kX8_append_u l G B0 f h c.pp c.ml sz i (.ref c.sp) (.ref c.dl) (.ref c.gl) (.ref c.rw) (.ref c.nn) (m.b20 0) (m.b20 1) (m.b20 2) (m.b20 3) w t1 t2 t3 t4 hW hls hsz hi (nI 1) (by decide) h9) (fun r0 f1 hp => ?_)) (fun f2 hp => ?_) ⟨rfl, rfl, Nat.le_of_ble_eq_true rfl, Nat.le_of_ble_eq_true rfl, Nat.le_of_ble_eq_true rfl, Nat.le_of_ble_eq_true rfl⟩ (fun f2 hM => kX9_append_u l G B0 f2 hm m.q m.i0 m.i1 m.i3 m.i7 m.i18 m.i22 m.i23 m.i27 m.j16 m.j17 m.a2 m.a4 m.a5 m.a6 m.b8 m.b9 m.b10 m.a11 m.a12 m.a13 m.a14 m.b15 m.b19 m.b20 m.b21 m.a24 m.a25 m.a26 i sz hM e3 hsz hi hpp) ⟨rfl, rfl, Nat.le_of_ble_eq_true rfl, Nat.le_of_ble_eq_true rfl, Nat.le_of_ble_eq_true rfl, Nat.le_of_ble_eq_true rfl⟩ (fun f2 r f3 hp => ?_)
        · obtain ⟨q, _, _, _, hK⟩ := hp
          exact hI.outK hK (fun a ha z => by rw [List.mem_singleton.mp ha] at z; have := (kCs_mem hH0 _ List.mem_cons_self).1; dsimp only at this; omega)
        · obtain ⟨r0, f1, g, ⟨q, hr, hq, h4, hK⟩, hg, hf⟩ := hp
          refine ⟨f1, g, oN o 6 f, (cMk c.sp c.dl c.gl c.rw c.ml q c.nn), hI.stepH hK (h4.pick [0] (by decide) ⟨rfl, trivial⟩) ?_ (fun j g hj0 hj hP => ?_), hg, hf.trans (by rw [hr])⟩
          · refine ⟨?_, fun k hk => ?_⟩
            · show kCs _ [(q, .inr (6, [.long ((mCopy0 m.b20 (mProd m.b21 m.b20 (m.b19 (4 * i + 3)) (-m.b19 (4 * i + 1)) (-m.b19 (4 * i + 2)) (m.b19 (4 * i))) 4) 0), .long ((mCopy0 m.b20 (mProd m.b21 m.b20 (m.b19 (4 * i + 3)) (-m.b19 (4 * i + 1)) (-m.b19 (4 * i + 2)) (m.b19 (4 * i))) 4) 1), .long ((mCopy0 m.b20 (mProd m.b21 m.b20 (m.b19 (4 * i + 3)) (-m.b19 (4 * i + 1)) (-m.b19 (4 * i + 2)) (m.b19 (4 * i))) 4) 2), .long ((mCopy0 m.b20 (mProd m.b21 m.b20 (m.b19 (4 * i + 3)) (-m.b19 (4 * i + 1)) (-m.b19 (4 * i + 2)) (m.b19 (4 * i))) 4) 3)]))]
              rw [c0, c1, c2, c3]
              exact kCs_own (h4.pick [1] (by decide) ⟨rfl, trivial⟩) (fun x hx => by rw [List.mem_singleton.mp hx]; exact .inr hq)
            · show ((mCopy0 m.b20 (mProd m.b21 m.b20 (m.b19 (4 * i + 3)) (-m.b19 (4 * i + 1)) (-m.b19 (4 * i + 2)) (m.b19 (4 * i))) 4) k).toInt.natAbs ≤ 1000000000
              have hk4 : k = 0 ∨ k = 1 ∨ k = 2 ∨ k = 3 := by omega
              rcases hk4 with rfl | rfl | rfl | rfl
              · rw [c0]; exact cIn_b h9.1
              · rw [c1]; exact cIn_b h9.2.1
              · rw [c2]; exact cIn_b h9.2.2.1
              · rw [c3]; exact cIn_b h9.2.2.2
          · unfold cPt at hP ⊢
            split
            case h_1 => exact absurd rfl hj0
            case h_7 => exact absurd rfl hj
            all_goals first | exact hP | trivial
        · exact ⟨by rw [hp.1, c0, c3], (mMk m.q m.i0 m.i1 m.i3 m.i7 m.i18 m.i22 m.i23 (nI 0) m.j16 m.j17 m.a2 m.a4 m.a5 m.a6 m.b8 m.b9 m.b10 m.a11 m.a12 m.a13 m.a14 m.b15 m.b19 (mCopy0 m.b20 (mProd m.b21 m.b20 (m.b19 (4 * i + 3)) (-m.b19 (4 * i + 1)) (-m.b19 (4 * i + 2)) (m.b19 (4 * i))) 4) (mProd m.b21 m.b20 (m.b19 (4 * i + 3)) (-m.b19 (4 * i + 1)) (-m.b19 (4 * i + 2)) (m.b19 (4 * i))) m.a24 m.a25 m.a26), ⟨rfl, rfl, rfl, rfl, rfl, rfl, rfl, rfl, rfl, rfl, rfl, rfl, rfl, rfl, rfl, rfl⟩, rfl, rfl, hp.2.1, hp.2.2⟩
      · exact opI_thr (m2 := (mMk m.q m.i0 m.i1 m.i3 m.i7 m.i18 m.i22 m.i23 (nI 2) m.j16 m.j17 m.a2 m.a4 m.a5 m.a6 m.b8 m.b9 m.b10 m.a11 m.a12 m.a13 m.a14 m.b15 m.b19 m.b20 (mProd m.b21 m.b20 (m.b19 (4 * i + 3)) (-m.b19 (4 * i + 1)) (-m.b19 (4 * i + 2)) (m.b19 (4 * i))) m.a24 m.a25 m.a26)) hI 2 (by omega) (kL_append_s l G B0 f h po (nI i) (nI 1) hI.hd rfl rfl (kX8_append_u2 l hst G B0 f h c.pp c.ml sz i (.ref c.sp) (.ref c.dl) (.ref c.gl) (.ref c.rw) (.ref c.nn) (m.b20 0) (m.b20 1) (m.b20 2) (m.b20 3) w t1 t2 t3 t4 hW hls hsz hi (nI 1) (by decide) (fun z => hpp (hpi.mpr z)))) (fun f2 h2 => h2) ⟨rfl, rfl, Nat.le_of_ble_eq_true rfl, Nat.le_of_ble_eq_true rfl, Nat.le_of_ble_eq_true rfl, Nat.le_of_ble_eq_true rfl⟩ (fun f2 hM => kX9_append_u_b2 l G B0 f2 hm m.q m.i0 m.i1 m.i3 m.i7 m.i18 m.i22 m.i23 m.i27 m.j16 m.j17 m.a2 m.a4 m.a5 m.a6 m.b8 m.b9 m.b10 m.a11 m.a12 m.a13 m.a14 m.b15 m.b19 m.b20 m.b21 m.a24 m.a25 m.a26 i sz hM e3 hsz hi hpp) ⟨rfl, rfl, Nat.le_of_ble_eq_true rfl, Nat.le_of_ble_eq_true rfl, Nat.le_of_ble_eq_true rfl, Nat.le_of_ble_eq_true rfl⟩ ⟨rfl, rfl, rfl, rfl, rfl, rfl, rfl, rfl, rfl, rfl, rfl, rfl, rfl, rfl, rfl, rfl⟩ rfl rfl
  · exact opI_thr (m2 := (mMk m.q m.i0 m.i1 m.i3 m.i7 m.i18 m.i22 m.i23 (nI 1) m.j16 m.j17 m.a2 m.a4 m.a5 m.a6 m.b8 m.b9 m.b10 m.a11 m.a12 m.a13 m.a14 m.b15 m.b19 m.b20 m.b21 m.a24 m.a25 m.a26)) hI 1 (by omega) (kL_append_o l G B0 f h po x1 x2 hI.hd rfl rfl (kX8_append_b1 l hst G B0 f h c.pp c.ml sz (.ref c.sp) (.ref c.dl) (.ref c.gl) (.ref c.rw) (.ref c.nn) w t1 t2 t3 t4 x1 x2 hH hls hsz hv)) (fun f2 h2 => by rw [show f2 = f from h2]; exact kKp.rf) ⟨rfl, rfl, Nat.le_of_ble_eq_true rfl, Nat.le_of_ble_eq_true rfl, Nat.le_of_ble_eq_true rfl, Nat.le_of_ble_eq_true rfl⟩ (fun f2 hM => kX9_append_b1 l G B0 f2 hm m.q m.i0 m.i1 m.i3 m.i7 m.i18 m.i22 m.i23 m.i27 m.j16 m.j17 m.a2 m.a4 m.a5 m.a6 m.b8 m.b9 m.b10 m.a11 m.a12 m.a13 m.a14 m.b15 m.b19 m.b20 m.b21 m.a24 m.a25 m.a26 x1 x2 sz hM e3 hsz hv) ⟨rfl, rfl, Nat.le_of_ble_eq_true rfl, Nat.le_of_ble_eq_true rfl, Nat.le_of_ble_eq_true rfl, Nat.le_of_ble_eq_true rfl⟩ ⟨rfl, rfl, rfl, rfl, rfl, rfl, rfl, rfl, rfl, rfl, rfl, rfl, rfl, rfl, rfl, rfl⟩ rfl rfl
