/-! the calls on gaskets: curvature, root, turn -/
/-- a row of one gasket is another: the rest stays -/
theorem gk_keep {G : kG} {g g' : kH} {sz : Nat} {w g1 g2 g3 : Nat → Nat} {fo le wa fo1 wa1 : Nat → Nat → Int64} (hel : ∀ k, k < sz → kCs g [(w k, gkE g1 g2 g3 k), (g1 k, kaJ G 4 (fo k)), (g2 k, kaJ G 4 (le k)), (g3 k, kaJ G 4 (wa k))])
    (h0 : ∀ k, k < sz → g' (w k) = some (gkE g1 g2 g3 k)) (h1 : ∀ k, k < sz → g' (g1 k) = some (kaJ G 4 (fo1 k))) (h2 : ∀ k, k < sz → g' (g2 k) = some (kaJ G 4 (le k))) (h3 : ∀ k, k < sz → g' (g3 k) = some (kaJ G 4 (wa1 k))) : ∀ k, k < sz → kCs g' [(w k, gkE g1 g2 g3 k), (g1 k, kaJ G 4 (fo1 k)), (g2 k, kaJ G 4 (le k)), (g3 k, kaJ G 4 (wa1 k))] := fun k hk => by
  refine ⟨fun q hq => ?_, (hel k hk).2⟩
  simp only [List.mem_cons, List.not_mem_nil, or_false] at hq
  rcases hq with rfl | rfl | rfl | rfl
  · exact h0 k hk
  · exact h1 k hk
  · exact h2 k hk
  · exact h3 k hk
/-- a list stays when what is written is no list's cell -/
theorem kLst.kp {G : kG} {g g' : kH} {dl sz : Nat} {w : Nat → Nat} {as : List Nat} (h : kLst G g dl sz w) (hK : kKp as g g') (ha : ∀ a ∈ as, ∃ y, g a = some (kaJ G 4 y)) : kLst G g' dl sz w := by
  obtain ⟨mc, ⟨h0, h2⟩ | ⟨q, cap, g0, h2, h3, h10, h64, h5, h6⟩⟩ := h
  · refine ⟨mc, .inl ⟨h0, hK _ _ (fun z => ?_) h2⟩⟩
    obtain ⟨y, e⟩ := ha _ z
    rw [h2] at e; exact nomatch e
  · refine ⟨mc, .inr ⟨q, cap, g0, kCs_kp h2 hK (fun a h9 z => ?_), h3, h10, h64, h5, h6⟩⟩
    obtain ⟨y, e⟩ := ha _ h9
    simp only [List.map_cons, List.map_nil, List.mem_cons, List.not_mem_nil, or_false] at z
    rcases z with rfl | rfl
    · rw [h2.at 0 rfl] at e; exact nomatch e
    · rw [h2.at 1 rfl] at e
      have := congrArg (fun v : Option va_E => match v with | some (.inl (_, n, _)) => n | _ => 0) e
      dsimp only at this
      omega
theorem op_curvature {l : Launch} (hst : l.stackTraces = false) {G : kG} {B0 h hm po pd : Nat} {f : kH} {o : Nat → Nat} {c : cSt} {m : mSt} (hI : Inv2 G h hm po pd f o c m m) (x1 x2 : Int32) : opL l G B0 h hm po pd f yL_curvature wsL_curvature [.ref h, .int x1, .int x2, .ref po] yX9_curvature wsX9_curvature [.ref hm, .int x1, .int x2] := by
  have hG : cGsk G (kR o 3 f) c m := hI 3
  obtain ⟨sz, w, g1, g2, g3, fo, le, wa, hL, hel, hd1, hd2, hsz, e7, hx⟩ := hG
  have hH0 : kCs (kR o 0 f) (cHd h c) := hI 0
  have hH : kCs f (cHd h c) := hH0.le (kR_le _ _ _)
  have hls : kLs G f c.gl sz w (gkE g1 g2 g3) := (hL.ls (fun k hk => (hel k hk).at 0 rfl)).le (kR_le _ _ _)
  have har : gkA G f sz g1 g2 g3 fo le wa := fun k hk => ⟨(kR_some.mp ((hel k hk).at 1 rfl)).2, (kR_some.mp ((hel k hk).at 2 rfl)).2, (kR_some.mp ((hel k hk).at 3 rfl)).2⟩
  by_cases hv : mIn x1 sz
  · obtain ⟨i, hi, rfl⟩ := mIn_ex (by omega) hv
    by_cases hp : mRg x2 (0) 3
    · obtain ⟨p, hp3, rfl⟩ := mRg_ex (n := 3) (by omega) hp
      refine opL_ok (m1 := m) (fo i p) (kL_curvature_g l G B0 f h po (nI i) (nI p) hI.hd rfl rfl (kX8_curvature l G B0 f h c.gl sz (.ref c.sp) (.ref c.dl) (.ref c.rw) (.ref c.ml) (.ref c.pp) (.ref c.nn) w g1 g2 g3 fo le wa i p hH hls har hsz hi (by omega)) (fun r0 f1 hp => by rw [hp.2]; exact hI.out)) (fun f2 hp => by obtain ⟨r0, f1, g, ⟨hr, hf⟩, hg, he⟩ := hp; rw [hf] at hg he; exact ⟨f, g, o, c, hI, hg, he.trans (by rw [hr])⟩) ⟨rfl, rfl, Nat.le_of_ble_eq_true rfl, Nat.le_of_ble_eq_true rfl, Nat.le_of_ble_eq_true rfl, Nat.le_of_ble_eq_true rfl⟩ (fun f2 hM => kX9_curvature l G B0 f2 hm m.q m.i0 m.i1 m.i3 m.i7 m.i18 m.i22 m.i23 m.i27 m.j16 m.j17 m.a2 m.a4 m.a5 m.a6 m.b8 m.b9 m.b10 m.a11 m.a12 m.a13 m.a14 m.b15 m.b19 m.b20 m.b21 m.a24 m.a25 m.a26 i p sz hM e7 hsz hi (by omega)) ⟨rfl, rfl, Nat.le_of_ble_eq_true rfl, Nat.le_of_ble_eq_true rfl, Nat.le_of_ble_eq_true rfl, Nat.le_of_ble_eq_true rfl⟩ (fun f2 r f3 hp => ?_)
      exact ⟨hp.1.trans ((hx i hi).2.2 p (by omega)), (mMk m.q m.i0 m.i1 m.i3 m.i7 m.i18 m.i22 m.i23 (nI 0) m.j16 m.j17 m.a2 m.a4 m.a5 m.a6 m.b8 m.b9 m.b10 m.a11 m.a12 m.a13 m.a14 m.b15 m.b19 m.b20 m.b21 m.a24 m.a25 m.a26), ⟨rfl, rfl, rfl, rfl, rfl, rfl, rfl, rfl, rfl, rfl, rfl, rfl, rfl, rfl, rfl, rfl⟩, rfl, rfl, hp.2.1, hp.2.2⟩
    · exact opL_thr (m2 := (mMk m.q m.i0 m.i1 m.i3 m.i7 m.i18 m.i22 m.i23 (nI 1) m.j16 m.j17 m.a2 m.a4 m.a5 m.a6 m.b8 m.b9 m.b10 m.a11 m.a12 m.a13 m.a14 m.b15 m.b19 m.b20 m.b21 m.a24 m.a25 m.a26)) hI 1 (by omega) (kL_curvature_o l G B0 f h po (nI i) x2 hI.hd rfl rfl (kX8_curvature_b2 l hst G B0 f h c.gl sz (.ref c.sp) (.ref c.dl) (.ref c.rw) (.ref c.ml) (.ref c.pp) (.ref c.nn) w g1 g2 g3 fo le wa i x2 hH hls har hsz hi hp)) (fun f2 h2 => by rw [show f2 = f from h2]; exact kKp.rf) ⟨rfl, rfl, Nat.le_of_ble_eq_true rfl, Nat.le_of_ble_eq_true rfl, Nat.le_of_ble_eq_true rfl, Nat.le_of_ble_eq_true rfl⟩ (fun f2 hM => kX9_curvature_b1 l G B0 f2 hm m.q m.i0 m.i1 m.i3 m.i7 m.i18 m.i22 m.i23 m.i27 m.j16 m.j17 m.a2 m.a4 m.a5 m.a6 m.b8 m.b9 m.b10 m.a11 m.a12 m.a13 m.a14 m.b15 m.b19 m.b20 m.b21 m.a24 m.a25 m.a26 (nI i) x2 sz hM e7 hsz (fun z => hp z.2)) ⟨rfl, rfl, Nat.le_of_ble_eq_true rfl, Nat.le_of_ble_eq_true rfl, Nat.le_of_ble_eq_true rfl, Nat.le_of_ble_eq_true rfl⟩ ⟨rfl, rfl, rfl, rfl, rfl, rfl, rfl, rfl, rfl, rfl, rfl, rfl, rfl, rfl, rfl, rfl⟩ rfl rfl
  · exact opL_thr (m2 := (mMk m.q m.i0 m.i1 m.i3 m.i7 m.i18 m.i22 m.i23 (nI 1) m.j16 m.j17 m.a2 m.a4 m.a5 m.a6 m.b8 m.b9 m.b10 m.a11 m.a12 m.a13 m.a14 m.b15 m.b19 m.b20 m.b21 m.a24 m.a25 m.a26)) hI 1 (by omega) (kL_curvature_o l G B0 f h po x1 x2 hI.hd rfl rfl (kX8_curvature_b1 l hst G B0 f h c.gl sz (.ref c.sp) (.ref c.dl) (.ref c.rw) (.ref c.ml) (.ref c.pp) (.ref c.nn) w g1 g2 g3 fo le wa x1 x2 hH hls har hsz hv)) (fun f2 h2 => by rw [show f2 = f from h2]; exact kKp.rf) ⟨rfl, rfl, Nat.le_of_ble_eq_true rfl, Nat.le_of_ble_eq_true rfl, Nat.le_of_ble_eq_true rfl, Nat.le_of_ble_eq_true rfl⟩ (fun f2 hM => kX9_curvature_b1 l G B0 f2 hm m.q m.i0 m.i1 m.i3 m.i7 m.i18 m.i22 m.i23 m.i27 m.j16 m.j17 m.a2 m.a4 m.a5 m.a6 m.b8 m.b9 m.b10 m.a11 m.a12 m.a13 m.a14 m.b15 m.b19 m.b20 m.b21 m.a24 m.a25 m.a26 x1 x2 sz hM e7 hsz (fun z => hv z.1)) ⟨rfl, rfl, Nat.le_of_ble_eq_true rfl, Nat.le_of_ble_eq_true rfl, Nat.le_of_ble_eq_true rfl, Nat.le_of_ble_eq_true rfl⟩ ⟨rfl, rfl, rfl, rfl, rfl, rfl, rfl, rfl, rfl, rfl, rfl, rfl, rfl, rfl, rfl, rfl⟩ rfl rfl
theorem op_root {l : Launch} (hst : l.stackTraces = false) {G : kG} {B0 h hm po pd : Nat} {f : kH} {o : Nat → Nat} {c : cSt} {m : mSt} (hI : Inv2 G h hm po pd f o c m m) (x1 x2 : Int32) : opL l G B0 h hm po pd f yL_root wsL_root [.ref h, .int x1, .int x2, .ref po] yX9_root wsX9_root [.ref hm, .int x1, .int x2] := by
  have hG : cGsk G (kR o 3 f) c m := hI 3
  obtain ⟨sz, w, g1, g2, g3, fo, le, wa, hL, hel, hd1, hd2, hsz, e7, hx⟩ := hG
  have hH0 : kCs (kR o 0 f) (cHd h c) := hI 0
  have hH : kCs f (cHd h c) := hH0.le (kR_le _ _ _)
  have hls : kLs G f c.gl sz w (gkE g1 g2 g3) := (hL.ls (fun k hk => (hel k hk).at 0 rfl)).le (kR_le _ _ _)
  have har : gkA G f sz g1 g2 g3 fo le wa := fun k hk => ⟨(kR_some.mp ((hel k hk).at 1 rfl)).2, (kR_some.mp ((hel k hk).at 2 rfl)).2, (kR_some.mp ((hel k hk).at 3 rfl)).2⟩
  by_cases hv : mIn x1 sz
  · obtain ⟨i, hi, rfl⟩ := mIn_ex (by omega) hv
    by_cases hp : mRg x2 (0) 3
    · obtain ⟨p, hp3, rfl⟩ := mRg_ex (n := 3) (by omega) hp
      obtain ⟨N, hN⟩ := (hx i hi).1.use
      obtain ⟨hR, hS⟩ := hN _ (mCopy_ag (b9 := m.b9) (hx i hi).2.2)
      refine opL_ok (m1 := m) (le i p) (kL_root_g l G B0 f h po (nI i) (nI p) hI.hd rfl rfl (kX8_root l G B0 f h c.gl sz (.ref c.sp) (.ref c.dl) (.ref c.rw) (.ref c.ml) (.ref c.pp) (.ref c.nn) w g1 g2 g3 fo le wa i p hH hls har hsz hi (by omega)) (fun r0 f1 hp => by rw [hp.2]; exact hI.out)) (fun f2 hp => by obtain ⟨r0, f1, g, ⟨hr, hf⟩, hg, he⟩ := hp; rw [hf] at hg he; exact ⟨f, g, o, c, hI, hg, he.trans (by rw [hr])⟩) ⟨rfl, rfl, Nat.le_of_ble_eq_true rfl, Nat.le_of_ble_eq_true rfl, Nat.le_of_ble_eq_true rfl, Nat.le_of_ble_eq_true rfl⟩ (fun f2 hM => kX9_root l G B0 f2 hm m.q m.i0 m.i1 m.i3 m.i7 m.i18 m.i22 m.i23 m.i27 m.j16 m.j17 m.a2 m.a4 m.a5 m.a6 m.b8 m.b9 m.b10 m.a11 m.a12 m.a13 m.a14 m.b15 m.b19 m.b20 m.b21 m.a24 m.a25 m.a26 i p sz N hM e7 hsz hi (by omega) hR) ⟨rfl, rfl, Nat.le_of_ble_eq_true rfl, Nat.le_of_ble_eq_true rfl, Nat.le_of_ble_eq_true rfl, Nat.le_of_ble_eq_true rfl⟩ (fun f2 r f3 hp => ?_)
      exact ⟨hp.1.trans (hS p (by omega)), (mMk m.q m.i0 m.i1 m.i3 m.i7 m.i18 m.i22 m.i23 (nI 0) m.j16 m.j17 m.a2 m.a4 m.a5 m.a6 m.b8 (mRoot m.b8 m.b9 i N) m.b10 m.a11 m.a12 m.a13 m.a14 m.b15 m.b19 m.b20 m.b21 m.a24 m.a25 m.a26), ⟨rfl, rfl, rfl, rfl, rfl, rfl, rfl, rfl, rfl, rfl, rfl, rfl, rfl, rfl, rfl, rfl⟩, rfl, rfl, hp.2.1, hp.2.2⟩
    · exact opL_thr (m2 := (mMk m.q m.i0 m.i1 m.i3 m.i7 m.i18 m.i22 m.i23 (nI 1) m.j16 m.j17 m.a2 m.a4 m.a5 m.a6 m.b8 m.b9 m.b10 m.a11 m.a12 m.a13 m.a14 m.b15 m.b19 m.b20 m.b21 m.a24 m.a25 m.a26)) hI 1 (by omega) (kL_root_o l G B0 f h po (nI i) x2 hI.hd rfl rfl (kX8_root_b2 l hst G B0 f h c.gl sz (.ref c.sp) (.ref c.dl) (.ref c.rw) (.ref c.ml) (.ref c.pp) (.ref c.nn) w g1 g2 g3 fo le wa i x2 hH hls har hsz hi hp)) (fun f2 h2 => by rw [show f2 = f from h2]; exact kKp.rf) ⟨rfl, rfl, Nat.le_of_ble_eq_true rfl, Nat.le_of_ble_eq_true rfl, Nat.le_of_ble_eq_true rfl, Nat.le_of_ble_eq_true rfl⟩ (fun f2 hM => kX9_root_b1 l G B0 f2 hm m.q m.i0 m.i1 m.i3 m.i7 m.i18 m.i22 m.i23 m.i27 m.j16 m.j17 m.a2 m.a4 m.a5 m.a6 m.b8 m.b9 m.b10 m.a11 m.a12 m.a13 m.a14 m.b15 m.b19 m.b20 m.b21 m.a24 m.a25 m.a26 (nI i) x2 sz hM e7 hsz (fun z => hp z.2)) ⟨rfl, rfl, Nat.le_of_ble_eq_true rfl, Nat.le_of_ble_eq_true rfl, Nat.le_of_ble_eq_true rfl, Nat.le_of_ble_eq_true rfl⟩ ⟨rfl, rfl, rfl, rfl, rfl, rfl, rfl, rfl, rfl, rfl, rfl, rfl, rfl, rfl, rfl, rfl⟩ rfl rfl
  · exact opL_thr (m2 := (mMk m.q m.i0 m.i1 m.i3 m.i7 m.i18 m.i22 m.i23 (nI 1) m.j16 m.j17 m.a2 m.a4 m.a5 m.a6 m.b8 m.b9 m.b10 m.a11 m.a12 m.a13 m.a14 m.b15 m.b19 m.b20 m.b21 m.a24 m.a25 m.a26)) hI 1 (by omega) (kL_root_o l G B0 f h po x1 x2 hI.hd rfl rfl (kX8_root_b1 l hst G B0 f h c.gl sz (.ref c.sp) (.ref c.dl) (.ref c.rw) (.ref c.ml) (.ref c.pp) (.ref c.nn) w g1 g2 g3 fo le wa x1 x2 hH hls har hsz hv)) (fun f2 h2 => by rw [show f2 = f from h2]; exact kKp.rf) ⟨rfl, rfl, Nat.le_of_ble_eq_true rfl, Nat.le_of_ble_eq_true rfl, Nat.le_of_ble_eq_true rfl, Nat.le_of_ble_eq_true rfl⟩ (fun f2 hM => kX9_root_b1 l G B0 f2 hm m.q m.i0 m.i1 m.i3 m.i7 m.i18 m.i22 m.i23 m.i27 m.j16 m.j17 m.a2 m.a4 m.a5 m.a6 m.b8 m.b9 m.b10 m.a11 m.a12 m.a13 m.a14 m.b15 m.b19 m.b20 m.b21 m.a24 m.a25 m.a26 x1 x2 sz hM e7 hsz (fun z => hv z.1)) ⟨rfl, rfl, Nat.le_of_ble_eq_true rfl, Nat.le_of_ble_eq_true rfl, Nat.le_of_ble_eq_true rfl, Nat.le_of_ble_eq_true rfl⟩ ⟨rfl, rfl, rfl, rfl, rfl, rfl, rfl, rfl, rfl, rfl, rfl, rfl, rfl, rfl, rfl, rfl⟩ rfl rfl
theorem op_turn {l : Launch} (hst : l.stackTraces = false) {G : kG} {B0 h hm po pd : Nat} {f : kH} {o : Nat → Nat} {c : cSt} {m : mSt} (hI : Inv2 G h hm po pd f o c m m) (x1 x2 : Int32) : opL l G B0 h hm po pd f yL_turn wsL_turn [.ref h, .int x1, .int x2, .ref po] yX9_turn wsX9_turn [.ref hm, .int x1, .int x2] := by
  have hG : cGsk G (kR o 3 f) c m := hI 3
  obtain ⟨sz, w, g1, g2, g3, fo, le, wa, hL, hel, hd1, hd2, hsz, e7, hx⟩ := hG
  have hH0 : kCs (kR o 0 f) (cHd h c) := hI 0
  have hH : kCs f (cHd h c) := hH0.le (kR_le _ _ _)
  have hls : kLs G f c.gl sz w (gkE g1 g2 g3) := (hL.ls (fun k hk => (hel k hk).at 0 rfl)).le (kR_le _ _ _)
  have har : gkA G f sz g1 g2 g3 fo le wa := fun k hk => ⟨(kR_some.mp ((hel k hk).at 1 rfl)).2, (kR_some.mp ((hel k hk).at 2 rfl)).2, (kR_some.mp ((hel k hk).at 3 rfl)).2⟩
  by_cases hv : mIn x1 sz
  · obtain ⟨i, hi, rfl⟩ := mIn_ex (by omega) hv
    by_cases hp : mRg x2 (0) 3
    · obtain ⟨p, hp3, rfl⟩ := mRg_ex (n := 3) (by omega) hp
      have hT := mTurned_x (hx i hi).2.2 (show p < 4 by omega)
      by_cases hbig : 1000000000000000 < xTurn (fo i) p
      · exact opL_thr (m2 := (mMk m.q m.i0 m.i1 m.i3 m.i7 m.i18 m.i22 m.i23 (nI 2) m.j16 m.j17 m.a2 m.a4 m.a5 m.a6 m.b8 m.b9 m.b10 m.a11 m.a12 m.a13 m.a14 m.b15 m.b19 m.b20 m.b21 m.a24 m.a25 m.a26)) hI 2 (by omega) (kL_turn_s l G B0 f h po (nI i) (nI p) hI.hd rfl rfl (kX8_turn_b3 l hst G B0 f h c.gl sz (.ref c.sp) (.ref c.dl) (.ref c.rw) (.ref c.ml) (.ref c.pp) (.ref c.nn) w g1 g2 g3 fo le wa i p hH hls har hsz hi (by omega) hbig)) (fun f2 h2 => by rw [show f2 = f from h2]; exact kKp.rf) ⟨rfl, rfl, Nat.le_of_ble_eq_true rfl, Nat.le_of_ble_eq_true rfl, Nat.le_of_ble_eq_true rfl, Nat.le_of_ble_eq_true rfl⟩ (fun f2 hM => kX9_turn_b2 l G B0 f2 hm m.q m.i0 m.i1 m.i3 m.i7 m.i18 m.i22 m.i23 m.i27 m.j16 m.j17 m.a2 m.a4 m.a5 m.a6 m.b8 m.b9 m.b10 m.a11 m.a12 m.a13 m.a14 m.b15 m.b19 m.b20 m.b21 m.a24 m.a25 m.a26 i p sz hM e7 hsz hi (by omega) (by rw [hT]; exact hbig)) ⟨rfl, rfl, Nat.le_of_ble_eq_true rfl, Nat.le_of_ble_eq_true rfl, Nat.le_of_ble_eq_true rfl, Nat.le_of_ble_eq_true rfl⟩ ⟨rfl, rfl, rfl, rfl, rfl, rfl, rfl, rfl, rfl, rfl, rfl, rfl, rfl, rfl, rfl, rfl⟩ rfl rfl
      have o1 := kR_some.mp ((hel i hi).at 1 rfl)
      have hW : kCs f [(h, .inr (8, [.ref c.sp, .ref c.dl, .ref c.gl, .ref c.rw, .ref c.ml, .ref c.pp, .ref c.nn])), (g1 i, kaJ G 4 (fo i))] := kCs_app hH0 (show kCs (kR o 3 f) [(g1 i, kaJ G 4 (fo i))] from ⟨fun x hx => by rw [List.mem_singleton.mp hx]; exact (hel i hi).at 1 rfl, by simp⟩) (by decide)
      refine opL_ok (m1 := (mMk m.q m.i0 m.i1 m.i3 m.i7 m.i18 m.i22 m.i23 (nI 0) m.j16 m.j17 m.a2 m.a4 m.a5 m.a6 (vp_updL m.b8 (4 * i + p) (xTurn (fo i) p)) m.b9 m.b10 m.a11 m.a12 m.a13 m.a14 m.b15 m.b19 m.b20 m.b21 m.a24 m.a25 m.a26)) (xTurn (fo i) p) (kL_turn_g l G B0 f h po (nI i) (nI p) hI.hd rfl rfl (kX8_turn l G B0 f h c.gl sz (.ref c.sp) (.ref c.dl) (.ref c.rw) (.ref c.ml) (.ref c.pp) (.ref c.nn) w g1 g2 g3 fo le wa i p hW hls har hsz hi (by omega) hbig) (fun r0 f1 hp => ?_)) (fun f2 hp => ?_) ⟨rfl, rfl, Nat.le_of_ble_eq_true rfl, Nat.le_of_ble_eq_true rfl, Nat.le_of_ble_eq_true rfl, Nat.le_of_ble_eq_true rfl⟩ (fun f2 hM => kX9_turn l G B0 f2 hm m.q m.i0 m.i1 m.i3 m.i7 m.i18 m.i22 m.i23 m.i27 m.j16 m.j17 m.a2 m.a4 m.a5 m.a6 m.b8 m.b9 m.b10 m.a11 m.a12 m.a13 m.a14 m.b15 m.b19 m.b20 m.b21 m.a24 m.a25 m.a26 i p sz hM e7 hsz hi (by omega) (by rw [hT]; exact hbig)) ⟨rfl, rfl, Nat.le_of_ble_eq_true rfl, Nat.le_of_ble_eq_true rfl, Nat.le_of_ble_eq_true rfl, Nat.le_of_ble_eq_true rfl⟩ (fun f2 v f3 hp => ?_)
      · exact hI.outK hp.2.2 (fun a ha z9 => by rw [List.mem_singleton.mp ha] at z9; have := o1.1; omega)
      · obtain ⟨r0, f1, g, ⟨hr, h4, hK⟩, hg, hf⟩ := hp
        refine ⟨f1, g, oN o 3 f, c, ?_, hg, hf.trans (by rw [hr])⟩
        have hKo := kR_own (o := o) (k := 3) hK
        refine hI.step 3 hK (fun a ha => by rw [List.mem_singleton.mp ha]; exact o1.1) ?_ (fun j g hj hP => ?_)
        · have hbi : (xTurn (fo i) p).toInt ≤ 1000000000000000 := by
            have e2 : (1000000000000000 : Int64).toInt = 1000000000000000 := rfl
            have : ¬ (1000000000000000 : Int64).toInt < (xTurn (fo i) p).toInt := fun z => hbig (lt64.mpr z)
            omega
          refine ⟨sz, w, g1, g2, g3, fun k => if k = i then vp_updL (fo i) p (xTurn (fo i) p) else fo k, le, wa, hL.kp hKo (fun a ha => by rw [List.mem_singleton.mp ha]; exact ⟨_, (hel i hi).at 1 rfl⟩), ?_, hd1, hd2, hsz, e7, fun k hk => ?_⟩
          · refine gk_keep hel (fun k hk => hKo _ _ (fun z => ?_) ((hel k hk).at 0 rfl)) (fun k hk => ?_) (fun k hk => hKo _ _ (fun z => ?_) ((hel k hk).at 2 rfl)) (fun k hk => hKo _ _ (fun z => ?_) ((hel k hk).at 3 rfl))
            · have e := (hel k hk).at 0 rfl
              rw [List.mem_singleton.mp z, (hel i hi).at 1 rfl] at e; exact nomatch e
            · by_cases q : k = i
              · subst q; rw [if_pos rfl]; exact kR_some.mpr ⟨oN_own o1.1, h4.at 1 rfl⟩
              · rw [if_neg q]; exact hKo _ _ (fun z => (hd1 k i hk hi q).1 (List.mem_singleton.mp z)) ((hel k hk).at 1 rfl)
            · exact (hd2 i k hi hk).2.2 (List.mem_singleton.mp z).symm
            · exact (hd2 k i hk hi).1 (List.mem_singleton.mp z)
          · by_cases q : k = i
            · subst q
              simp only [if_pos]
              refine ⟨(hx k hk).1.turn (by omega) hbi, (hx k hk).2.1, fun j hj => ?_⟩
              show vp_updL m.b8 (4 * k + p) (xTurn (fo k) p) (4 * k + j) = vp_updL (fo k) p (xTurn (fo k) p) j
              by_cases q2 : j = p
              · subst q2; rw [vp_s, vp_s]
              · rw [vp_n _ _ q2, vp_n _ _ (by omega)]; exact (hx k hk).2.2 j hj
            · simp only [if_neg q]
              refine ⟨(hx k hk).1, (hx k hk).2.1, fun j hj => ?_⟩
              show vp_updL m.b8 (4 * i + p) _ (4 * k + j) = fo k j
              rw [vp_n _ _ (by omega)]; exact (hx k hk).2.2 j hj
        · unfold cPt at hP ⊢
          split
          case h_4 => exact absurd rfl hj
          all_goals first | exact hP | trivial
      · rw [hT] at hp
        exact ⟨hp.1, (mMk m.q m.i0 m.i1 m.i3 m.i7 m.i18 m.i22 m.i23 (nI 0) m.j16 m.j17 m.a2 m.a4 m.a5 m.a6 (vp_updL m.b8 (4 * i + p) (xTurn (fo i) p)) m.b9 m.b10 m.a11 m.a12 m.a13 m.a14 m.b15 m.b19 m.b20 m.b21 m.a24 m.a25 m.a26), ⟨rfl, rfl, rfl, rfl, rfl, rfl, rfl, rfl, rfl, rfl, rfl, rfl, rfl, rfl, rfl, rfl⟩, rfl, rfl, hp.2.1, hp.2.2⟩
    · exact opL_thr (m2 := (mMk m.q m.i0 m.i1 m.i3 m.i7 m.i18 m.i22 m.i23 (nI 1) m.j16 m.j17 m.a2 m.a4 m.a5 m.a6 m.b8 m.b9 m.b10 m.a11 m.a12 m.a13 m.a14 m.b15 m.b19 m.b20 m.b21 m.a24 m.a25 m.a26)) hI 1 (by omega) (kL_turn_o l G B0 f h po (nI i) x2 hI.hd rfl rfl (kX8_turn_b2 l hst G B0 f h c.gl sz (.ref c.sp) (.ref c.dl) (.ref c.rw) (.ref c.ml) (.ref c.pp) (.ref c.nn) w g1 g2 g3 fo le wa i x2 hH hls har hsz hi hp)) (fun f2 h2 => by rw [show f2 = f from h2]; exact kKp.rf) ⟨rfl, rfl, Nat.le_of_ble_eq_true rfl, Nat.le_of_ble_eq_true rfl, Nat.le_of_ble_eq_true rfl, Nat.le_of_ble_eq_true rfl⟩ (fun f2 hM => kX9_turn_b1 l G B0 f2 hm m.q m.i0 m.i1 m.i3 m.i7 m.i18 m.i22 m.i23 m.i27 m.j16 m.j17 m.a2 m.a4 m.a5 m.a6 m.b8 m.b9 m.b10 m.a11 m.a12 m.a13 m.a14 m.b15 m.b19 m.b20 m.b21 m.a24 m.a25 m.a26 (nI i) x2 sz hM e7 hsz (fun z => hp z.2)) ⟨rfl, rfl, Nat.le_of_ble_eq_true rfl, Nat.le_of_ble_eq_true rfl, Nat.le_of_ble_eq_true rfl, Nat.le_of_ble_eq_true rfl⟩ ⟨rfl, rfl, rfl, rfl, rfl, rfl, rfl, rfl, rfl, rfl, rfl, rfl, rfl, rfl, rfl, rfl⟩ rfl rfl
  · exact opL_thr (m2 := (mMk m.q m.i0 m.i1 m.i3 m.i7 m.i18 m.i22 m.i23 (nI 1) m.j16 m.j17 m.a2 m.a4 m.a5 m.a6 m.b8 m.b9 m.b10 m.a11 m.a12 m.a13 m.a14 m.b15 m.b19 m.b20 m.b21 m.a24 m.a25 m.a26)) hI 1 (by omega) (kL_turn_o l G B0 f h po x1 x2 hI.hd rfl rfl (kX8_turn_b1 l hst G B0 f h c.gl sz (.ref c.sp) (.ref c.dl) (.ref c.rw) (.ref c.ml) (.ref c.pp) (.ref c.nn) w g1 g2 g3 fo le wa x1 x2 hH hls har hsz hv)) (fun f2 h2 => by rw [show f2 = f from h2]; exact kKp.rf) ⟨rfl, rfl, Nat.le_of_ble_eq_true rfl, Nat.le_of_ble_eq_true rfl, Nat.le_of_ble_eq_true rfl, Nat.le_of_ble_eq_true rfl⟩ (fun f2 hM => kX9_turn_b1 l G B0 f2 hm m.q m.i0 m.i1 m.i3 m.i7 m.i18 m.i22 m.i23 m.i27 m.j16 m.j17 m.a2 m.a4 m.a5 m.a6 m.b8 m.b9 m.b10 m.a11 m.a12 m.a13 m.a14 m.b15 m.b19 m.b20 m.b21 m.a24 m.a25 m.a26 x1 x2 sz hM e7 hsz (fun z => hv z.1)) ⟨rfl, rfl, Nat.le_of_ble_eq_true rfl, Nat.le_of_ble_eq_true rfl, Nat.le_of_ble_eq_true rfl, Nat.le_of_ble_eq_true rfl⟩ ⟨rfl, rfl, rfl, rfl, rfl, rfl, rfl, rfl, rfl, rfl, rfl, rfl, rfl, rfl, rfl, rfl⟩ rfl rfl
