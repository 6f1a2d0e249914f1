/-! a gasket told; remainders -/
theorem gk_as {G : kG} {g : kH} {w g1 g2 g3 : Nat} {fo le wa : Nat → Int64} (h : kCs g [(w, .inr (2, [.ref g1, .ref g2, .ref g3])), (g1, kaJ G 4 fo), (g2, kaJ G 4 le), (g3, kaJ G 4 wa)]) {a : Nat} (ha : (∃ l, g a = some (.inr (0, l))) ∨ ∃ cap g0, 10 ≤ cap ∧ g a = some (kaO G cap g0)) : a ∉ [w, g1, g2, g3] := fun z => by
  simp only [List.mem_cons, List.not_mem_nil, or_false] at z
  have key : ∀ y, g a = some (kaJ G 4 y) → False := fun y e => by
    rcases ha with ⟨l, e2⟩ | ⟨cap, g0, hc, e2⟩
    · rw [e] at e2; exact nomatch e2
    · rw [e] at e2
      have := congrArg (fun v : Option va_E => match v with | some (.inl (_, n, _)) => n | _ => 0) e2
      dsimp only at this
      omega
  rcases z with rfl | rfl | rfl | rfl
  · rcases ha with ⟨l, e2⟩ | ⟨cap, g0, hc, e2⟩
    · rw [h.at 0 rfl] at e2
      have := congrArg (fun v : Option va_E => match v with | some (.inr (n, _)) => n | _ => 0) e2
      dsimp only at this
      omega
    · rw [h.at 0 rfl] at e2; exact nomatch e2
  · exact key _ (h.at 1 rfl)
  · exact key _ (h.at 2 rfl)
  · exact key _ (h.at 3 rfl)
theorem cGsk_put {G : kG} {g g' : kH} {c : cSt} {m : mSt} {sz : Nat} {w g1 g2 g3 : Nat → Nat} {fo le wa : Nat → Nat → Int64} {x1 x2 x3 x4 : Int32} {t q1 q2 q3 : Nat} (hL : kLst G g' c.gl (sz + 1) (fun j => if j = sz then t else w j)) (hel : ∀ k, k < sz → kCs g [(w k, gkE g1 g2 g3 k), (g1 k, kaJ G 4 (fo k)), (g2 k, kaJ G 4 (le k)), (g3 k, kaJ G 4 (wa k))]) (hold : ∀ k, k < sz → kCs g' [(w k, gkE g1 g2 g3 k), (g1 k, kaJ G 4 (fo k)), (g2 k, kaJ G 4 (le k)), (g3 k, kaJ G 4 (wa k))])
    (hnew : kCs g' [(t, .inr (2, [.ref q1, .ref q2, .ref q3])), (q1, kaJ G 4 (xRow x1.toInt64 x2.toInt64 x3.toInt64 x4.toInt64)), (q2, kaJ G 4 (xLeast x1.toInt64 x2.toInt64 x3.toInt64 x4.toInt64)), (q3, kaJ G 4 (fun _ => 0))]) (f1 : g q1 = none) (f2 : g q2 = none) (f3 : g q3 = none)
    (hd1 : ∀ i j, i < sz → j < sz → ¬ i = j → g1 i ≠ g1 j ∧ g2 i ≠ g2 j ∧ g3 i ≠ g3 j) (hd2 : ∀ i j, i < sz → j < sz → g3 i ≠ g1 j ∧ g3 i ≠ g2 j ∧ g1 i ≠ g2 j) (hn : sz + 1 ≤ 8) (hw : mGk x1 x2 x3 x4)
    (hx : ∀ k, k < sz → gInv (fo k) (le k) ∧ (∀ j, j < 4 → ((le k) j).toInt.natAbs ≤ 1000000) ∧ ∀ j, j < 4 → m.b8 (4 * k + j) = fo k j) : cGsk G g' c (mMk m.q m.i0 m.i1 m.i3 (nI (sz + 1)) m.i18 m.i22 m.i23 (nI 0) m.j16 m.j17 m.a2 m.a4 m.a5 m.a6 (vp_updL (vp_updL (vp_updL (vp_updL m.b8 (4 * sz) x1.toInt64) (4 * sz + 1) x2.toInt64) (4 * sz + 2) x3.toInt64) (4 * sz + 3) x4.toInt64) m.b9 m.b10 m.a11 m.a12 m.a13 m.a14 m.b15 m.b19 m.b20 m.b21 m.a24 m.a25 m.a26) := by
  obtain ⟨hok, hle⟩ := gk_ok hw
  have n1 : ∀ k, k < sz → ∀ q, g q = none → g1 k ≠ q ∧ g2 k ≠ q ∧ g3 k ≠ q := fun k hk q hq => by
    refine ⟨fun z => ?_, fun z => ?_, fun z => ?_⟩
    · have e := (hel k hk).at 1 rfl; rw [z, hq] at e; exact nomatch e
    · have e := (hel k hk).at 2 rfl; rw [z, hq] at e; exact nomatch e
    · have e := (hel k hk).at 3 rfl; rw [z, hq] at e; exact nomatch e
  have nd := hnew.2
  simp only [List.map_cons, List.map_nil, List.nodup_cons, List.mem_cons, List.not_mem_nil, or_false, not_or, List.nodup_nil, and_true, not_false_eq_true] at nd
  refine ⟨sz + 1, _, fun j => if j = sz then q1 else g1 j, fun j => if j = sz then q2 else g2 j, fun j => if j = sz then q3 else g3 j, fun j => if j = sz then xRow x1.toInt64 x2.toInt64 x3.toInt64 x4.toInt64 else fo j, fun j => if j = sz then xLeast x1.toInt64 x2.toInt64 x3.toInt64 x4.toInt64 else le j, fun j => if j = sz then (fun _ => 0) else wa j, hL, fun k hk => ?_, fun i j hi hj hij => ?_, fun i j hi hj => ?_, hn, rfl, fun k hk => ?_⟩
  · by_cases q : k = sz
    · simp only [gkE, if_pos q]; exact hnew
    · simp only [gkE, if_neg q]; exact hold k (by omega)
  · by_cases a : i = sz <;> by_cases b : j = sz
    · omega
    · simp only [if_pos a, if_neg b]; have := n1 j (by omega); exact ⟨(this _ f1).1.symm, (this _ f2).2.1.symm, (this _ f3).2.2.symm⟩
    · simp only [if_neg a, if_pos b]; have := n1 i (by omega); exact ⟨(this _ f1).1, (this _ f2).2.1, (this _ f3).2.2⟩
    · simp only [if_neg a, if_neg b]; exact hd1 i j (by omega) (by omega) hij
  · by_cases a : i = sz <;> by_cases b : j = sz
    · simp only [if_pos a, if_pos b]; exact ⟨fun z => nd.2.1.2 z.symm, fun z => nd.2.2 z.symm, nd.2.1.1⟩
    · simp only [if_pos a, if_neg b]; have := n1 j (by omega); exact ⟨(this _ f3).1.symm, (this _ f3).2.1.symm, (this _ f1).2.1.symm⟩
    · simp only [if_neg a, if_pos b]; have := n1 i (by omega); exact ⟨(this _ f1).2.2, (this _ f2).2.2, (this _ f2).1⟩
    · simp only [if_neg a, if_neg b]; exact hd2 i j (by omega) (by omega)
  · by_cases q : k = sz
    · subst q
      simp only [if_pos]
      refine ⟨gInv.told hok hle, told_b hok hle, fun j hj => ?_⟩
      show (vp_updL (vp_updL (vp_updL (vp_updL m.b8 (4 * k) x1.toInt64) (4 * k + 1) x2.toInt64) (4 * k + 2) x3.toInt64) (4 * k + 3) x4.toInt64) (4 * k + j) = _
      rcases lt4 hj with rfl | rfl | rfl | rfl <;> simp [vp_updL]
    · simp only [if_neg q]
      refine ⟨(hx k (by omega)).1, (hx k (by omega)).2.1, fun j hj => ?_⟩
      show (vp_updL (vp_updL (vp_updL (vp_updL m.b8 (4 * sz) x1.toInt64) (4 * sz + 1) x2.toInt64) (4 * sz + 2) x3.toInt64) (4 * sz + 3) x4.toInt64) (4 * k + j) = _
      rw [vp_n _ _ (by omega), vp_n _ _ (by omega), vp_n _ _ (by omega), vp_n _ _ (by omega)]
      exact (hx k (by omega)).2.2 j hj
theorem op_gasket {l : Launch} (hst : l.stackTraces = false) {G : kG} {B0 h hm po pd : Nat} {f : kH} {o : Nat → Nat} {c : cSt} {m : mSt} (hI : Inv2 G h hm po pd f o c m m) (x1 x2 x3 x4 : Int32) : opI l G B0 h hm po pd f yL_gasket wsL_gasket [.ref h, .int x1, .int x2, .int x3, .int x4, .ref po] yX9_gasket wsX9_gasket [.ref hm, .int x1, .int x2, .int x3, .int x4] := by
  have hG : cGsk G (kR o 3 f) c m := hI 3
  obtain ⟨sz, w, g1, g2, g3, fo, le, wa, hL, hel, hd1, hd2, hsz, e7, hx⟩ := hG
  have hH0 : kCs (kR o 0 f) (cHd h c) := hI 0
  have hH : kCs f (cHd h c) := hH0.le (kR_le _ _ _)
  have hls : kLs G f c.gl sz w (gkE g1 g2 g3) := (hL.ls (fun k hk => (hel k hk).at 0 rfl)).le (kR_le _ _ _)
  have har : gkA G f sz g1 g2 g3 fo le wa := fun k hk => ⟨(kR_some.mp ((hel k hk).at 1 rfl)).2, (kR_some.mp ((hel k hk).at 2 rfl)).2, (kR_some.mp ((hel k hk).at 3 rfl)).2⟩
  by_cases hw : mGk x1 x2 x3 x4
  · have hw8 := gk_iff.mpr hw
    by_cases h16 : 8 ≤ sz
    · exact opI_thr (m2 := (mMk m.q m.i0 m.i1 m.i3 m.i7 m.i18 m.i22 m.i23 (nI 2) m.j16 m.j17 m.a2 m.a4 m.a5 m.a6 m.b8 m.b9 m.b10 m.a11 m.a12 m.a13 m.a14 m.b15 m.b19 m.b20 m.b21 m.a24 m.a25 m.a26)) hI 2 (by omega) (kL_gasket_s l G B0 f h po x1 x2 x3 x4 hI.hd rfl rfl (kX8_gasket_b2 l hst G B0 f h c.gl sz (.ref c.sp) (.ref c.dl) (.ref c.rw) (.ref c.ml) (.ref c.pp) (.ref c.nn) w g1 g2 g3 fo le wa x1 x2 x3 x4 hH hls har hsz hw8 h16)) (fun f2 h2 => by rw [show f2 = f from h2]; exact kKp.rf) ⟨rfl, rfl, Nat.le_of_ble_eq_true rfl, Nat.le_of_ble_eq_true rfl, Nat.le_of_ble_eq_true rfl, Nat.le_of_ble_eq_true rfl⟩ (fun f2 hM => kX9_gasket_b2 l G B0 f2 hm m.q m.i0 m.i1 m.i3 m.i7 m.i18 m.i22 m.i23 m.i27 m.j16 m.j17 m.a2 m.a4 m.a5 m.a6 m.b8 m.b9 m.b10 m.a11 m.a12 m.a13 m.a14 m.b15 m.b19 m.b20 m.b21 m.a24 m.a25 m.a26 x1 x2 x3 x4 sz hM e7 hsz hw (by omega)) ⟨rfl, rfl, Nat.le_of_ble_eq_true rfl, Nat.le_of_ble_eq_true rfl, Nat.le_of_ble_eq_true rfl, Nat.le_of_ble_eq_true rfl⟩ ⟨rfl, rfl, rfl, rfl, rfl, rfl, rfl, rfl, rfl, rfl, rfl, rfl, rfl, rfl, rfl, rfl⟩ rfl rfl
    have hmd := fun f2 hM => kX9_gasket l G B0 f2 hm m.q m.i0 m.i1 m.i3 m.i7 m.i18 m.i22 m.i23 m.i27 m.j16 m.j17 m.a2 m.a4 m.a5 m.a6 m.b8 m.b9 m.b10 m.a11 m.a12 m.a13 m.a14 m.b15 m.b19 m.b20 m.b21 m.a24 m.a25 m.a26 x1 x2 x3 x4 sz hM e7 hsz hw (by omega)
    have he : ∀ k, k < sz → kR o 3 f (w k) = some (gkE g1 g2 g3 k) := fun k hk => (hel k hk).at 0 rfl
    obtain ⟨mc, ⟨h0, h1⟩ | ⟨q, cap, g0, h1, h2, h10, h64, h5, h6⟩⟩ := hL
    · subst h0
      have a1 := kR_some.mp h1
      have hW : kCs f [(h, .inr (8, [.ref c.sp, .ref c.dl, .ref c.gl, .ref c.rw, .ref c.ml, .ref c.pp, .ref c.nn])), (c.gl, .inr (0, [.int mc, .ref (G.2.2 1), .int (nI 0)]))] := kCs_app hH0 (show kCs (kR o 3 f) [(c.gl, .inr (0, [.int mc, .ref (G.2.2 1), .int (nI 0)]))] from ⟨fun x hx => by rw [List.mem_singleton.mp hx]; exact h1, by simp⟩) (by decide)
      refine opI_ok (m1 := (mMk m.q m.i0 m.i1 m.i3 (nI (0 + 1)) m.i18 m.i22 m.i23 (nI 0) m.j16 m.j17 m.a2 m.a4 m.a5 m.a6 (vp_updL (vp_updL (vp_updL (vp_updL m.b8 (4 * 0) x1.toInt64) (4 * 0 + 1) x2.toInt64) (4 * 0 + 2) x3.toInt64) (4 * 0 + 3) x4.toInt64) m.b9 m.b10 m.a11 m.a12 m.a13 m.a14 m.b15 m.b19 m.b20 m.b21 m.a24 m.a25 m.a26)) (nI 0).toInt64 (kL_gasket_g l G B0 f h po x1 x2 x3 x4 hI.hd rfl rfl (kX8_gasket_0 l G B0 f h c.gl mc (.ref c.sp) (.ref c.dl) (.ref c.rw) (.ref c.ml) (.ref c.pp) (.ref c.nn) x1 x2 x3 x4 hw8.1 hw8.2 hW) (fun r0 f1 hp => ?_)) (fun f2 hp => ?_) ⟨rfl, rfl, Nat.le_of_ble_eq_true rfl, Nat.le_of_ble_eq_true rfl, Nat.le_of_ble_eq_true rfl, Nat.le_of_ble_eq_true rfl⟩ hmd ⟨rfl, rfl, Nat.le_of_ble_eq_true rfl, Nat.le_of_ble_eq_true rfl, Nat.le_of_ble_eq_true rfl, Nat.le_of_ble_eq_true rfl⟩ (fun f2 r f3 hp => ?_)
      · obtain ⟨t, q1, q2, q3, q, _, _, _, hK⟩ := hp
        exact hI.outK hK (fun a ha z => by rw [List.mem_singleton.mp ha] at z; have := a1.1; omega)
      · obtain ⟨r0, f1, g, ⟨t, q1, q2, q3, q, hr, ⟨hT, hf1, hf2, hf3, hq⟩, h4, hK⟩, hg, hf⟩ := hp
        refine ⟨f1, g, oN o 3 f, c, ?_, hg, hf.trans (by rw [hr])⟩
        have hqt : q ≠ t := fun z => by have := h4.2; simp [z] at this
        refine hI.step 3 hK (fun a ha => by rw [List.mem_singleton.mp ha]; exact a1.1) ?_ (fun j g hj hP => ?_)
        · refine cGsk_put (w := w) (kLst.add_0 (w := w) h1 hT hq hqt (h4.pick [1, 6] (by decide) ⟨rfl, rfl, trivial⟩)) hel (fun k hk => absurd hk (Nat.not_lt_zero _)) (kCs_own (h4.pick [2, 3, 4, 5] (by decide) ⟨rfl, rfl, rfl, rfl, trivial⟩) (fun x hx => ?_)) (kR_none hf1) (kR_none hf2) (kR_none hf3) hd1 hd2 (by omega) hw hx
          simp only [List.mem_cons, List.not_mem_nil, or_false] at hx
          rcases hx with rfl | rfl | rfl | rfl
          · exact .inr hT
          · exact .inr hf1
          · exact .inr hf2
          · exact .inr hf3
        · unfold cPt at hP ⊢
          split
          case h_4 => exact absurd rfl hj
          all_goals first | exact hP | trivial
      · exact ⟨by rw [hp.1], (mMk m.q m.i0 m.i1 m.i3 (nI (0 + 1)) m.i18 m.i22 m.i23 (nI 0) m.j16 m.j17 m.a2 m.a4 m.a5 m.a6 (vp_updL (vp_updL (vp_updL (vp_updL m.b8 (4 * 0) x1.toInt64) (4 * 0 + 1) x2.toInt64) (4 * 0 + 2) x3.toInt64) (4 * 0 + 3) x4.toInt64) m.b9 m.b10 m.a11 m.a12 m.a13 m.a14 m.b15 m.b19 m.b20 m.b21 m.a24 m.a25 m.a26), ⟨rfl, rfl, rfl, rfl, rfl, rfl, rfl, rfl, rfl, rfl, rfl, rfl, rfl, rfl, rfl, rfl⟩, rfl, rfl, hp.2.1, hp.2.2⟩
    · have a1 := (kCs_mem h1) _ List.mem_cons_self
      have a2 := (kCs_mem h1) _ (List.mem_cons_of_mem _ List.mem_cons_self)
      have hW : kCs f [(h, .inr (8, [.ref c.sp, .ref c.dl, .ref c.gl, .ref c.rw, .ref c.ml, .ref c.pp, .ref c.nn])), (c.gl, .inr (0, [.int mc, .ref q, .int (nI sz)])), (q, kaO G cap g0)] := kCs_app hH0 h1 (by decide)
      have hc : sz < cap := by omega
      refine opI_ok (m1 := (mMk m.q m.i0 m.i1 m.i3 (nI (sz + 1)) m.i18 m.i22 m.i23 (nI 0) m.j16 m.j17 m.a2 m.a4 m.a5 m.a6 (vp_updL (vp_updL (vp_updL (vp_updL m.b8 (4 * sz) x1.toInt64) (4 * sz + 1) x2.toInt64) (4 * sz + 2) x3.toInt64) (4 * sz + 3) x4.toInt64) m.b9 m.b10 m.a11 m.a12 m.a13 m.a14 m.b15 m.b19 m.b20 m.b21 m.a24 m.a25 m.a26)) (nI sz).toInt64 (kL_gasket_g l G B0 f h po x1 x2 x3 x4 hI.hd rfl rfl (kX8_gasket_n l G B0 f h c.gl q mc sz cap g0 (.ref c.sp) (.ref c.dl) (.ref c.rw) (.ref c.ml) (.ref c.pp) (.ref c.nn) x1 x2 x3 x4 hw8.1 hw8.2 hW (by omega) hc (by omega)) (fun r0 f1 hp => ?_)) (fun f2 hp => ?_) ⟨rfl, rfl, Nat.le_of_ble_eq_true rfl, Nat.le_of_ble_eq_true rfl, Nat.le_of_ble_eq_true rfl, Nat.le_of_ble_eq_true rfl⟩ hmd ⟨rfl, rfl, Nat.le_of_ble_eq_true rfl, Nat.le_of_ble_eq_true rfl, Nat.le_of_ble_eq_true rfl, Nat.le_of_ble_eq_true rfl⟩ (fun f2 r f3 hp => ?_)
      · obtain ⟨t, q1, q2, q3, _, _, _, hK⟩ := hp
        refine hI.outK hK (fun a ha z => ?_)
        simp only [List.mem_cons, List.not_mem_nil, or_false] at ha
        rcases ha with rfl | rfl
        · have := a1.1; dsimp only at this; omega
        · have := a2.1; dsimp only at this; omega
      · obtain ⟨r0, f1, g, ⟨t, q1, q2, q3, hr, ⟨hT, hf1, hf2, hf3⟩, h4, hK⟩, hg, hf⟩ := hp
        refine ⟨f1, g, oN o 3 f, c, ?_, hg, hf.trans (by rw [hr])⟩
        refine hI.step 3 hK (fun a ha => ?_) ?_ (fun j g hj hP => ?_)
        · simp only [List.mem_cons, List.not_mem_nil, or_false] at ha
          rcases ha with rfl | rfl
          · exact a1.1
          · exact a2.1
        · refine cGsk_put (kLst.add_n h1 hc h10 h64 h5 h6 he hT (h4.pick [1, 2] (by decide) ⟨rfl, rfl, trivial⟩)) hel (fun k hk => kCs_kp (hel k hk) (kR_own hK) (fun a ha => ?_)) (kCs_own (h4.pick [3, 4, 5, 6] (by decide) ⟨rfl, rfl, rfl, rfl, trivial⟩) (fun x hx => ?_)) (kR_none hf1) (kR_none hf2) (kR_none hf3) hd1 hd2 (by omega) hw hx
          · refine gk_as (hel k hk) ?_
            simp only [List.mem_cons, List.not_mem_nil, or_false] at ha
            rcases ha with rfl | rfl
            · exact .inl ⟨_, h1.at 0 rfl⟩
            · exact .inr ⟨_, _, h10, h1.at 1 rfl⟩
          · simp only [List.mem_cons, List.not_mem_nil, or_false] at hx
            rcases hx with rfl | rfl | rfl | rfl
            · exact .inr hT
            · exact .inr hf1
            · exact .inr hf2
            · exact .inr hf3
        · unfold cPt at hP ⊢
          split
          case h_4 => exact absurd rfl hj
          all_goals first | exact hP | trivial
      · exact ⟨by rw [hp.1], (mMk m.q m.i0 m.i1 m.i3 (nI (sz + 1)) m.i18 m.i22 m.i23 (nI 0) m.j16 m.j17 m.a2 m.a4 m.a5 m.a6 (vp_updL (vp_updL (vp_updL (vp_updL m.b8 (4 * sz) x1.toInt64) (4 * sz + 1) x2.toInt64) (4 * sz + 2) x3.toInt64) (4 * sz + 3) x4.toInt64) m.b9 m.b10 m.a11 m.a12 m.a13 m.a14 m.b15 m.b19 m.b20 m.b21 m.a24 m.a25 m.a26), ⟨rfl, rfl, rfl, rfl, rfl, rfl, rfl, rfl, rfl, rfl, rfl, rfl, rfl, rfl, rfl, rfl⟩, rfl, rfl, hp.2.1, hp.2.2⟩
  · exact opI_thr (m2 := (mMk m.q m.i0 m.i1 m.i3 m.i7 m.i18 m.i22 m.i23 (nI 1) m.j16 m.j17 m.a2 m.a4 m.a5 m.a6 m.b8 m.b9 m.b10 m.a11 m.a12 m.a13 m.a14 m.b15 m.b19 m.b20 m.b21 m.a24 m.a25 m.a26)) hI 1 (by omega) (kL_gasket_a l G B0 f h po x1 x2 x3 x4 hI.hd rfl rfl (kX8_gasket_b1 l hst G B0 f h c.gl sz (.ref c.sp) (.ref c.dl) (.ref c.rw) (.ref c.ml) (.ref c.pp) (.ref c.nn) w g1 g2 g3 fo le wa x1 x2 x3 x4 hH hls har hsz (fun z => hw (gk_iff.mp z)))) (fun f2 h2 => by rw [show f2 = f from h2]; exact kKp.rf) ⟨rfl, rfl, Nat.le_of_ble_eq_true rfl, Nat.le_of_ble_eq_true rfl, Nat.le_of_ble_eq_true rfl, Nat.le_of_ble_eq_true rfl⟩ (fun f2 hM => kX9_gasket_b1 l G B0 f2 hm m.q m.i0 m.i1 m.i3 m.i7 m.i18 m.i22 m.i23 m.i27 m.j16 m.j17 m.a2 m.a4 m.a5 m.a6 m.b8 m.b9 m.b10 m.a11 m.a12 m.a13 m.a14 m.b15 m.b19 m.b20 m.b21 m.a24 m.a25 m.a26 x1 x2 x3 x4 sz hM e7 hsz hw) ⟨rfl, rfl, Nat.le_of_ble_eq_true rfl, Nat.le_of_ble_eq_true rfl, Nat.le_of_ble_eq_true rfl, Nat.le_of_ble_eq_true rfl⟩ ⟨rfl, rfl, rfl, rfl, rfl, rfl, rfl, rfl, rfl, rfl, rfl, rfl, rfl, rfl, rfl, rfl⟩ rfl rfl
