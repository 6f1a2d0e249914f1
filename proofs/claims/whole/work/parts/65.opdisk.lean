/-! the calls on disks -/
theorem Inv2.outK {G : kG} {h hm po pd : Nat} {f f1 : kH} {o : Nat → Nat} {c : cSt} {m mM : mSt} (hI : Inv2 G h hm po pd f o c m mM) {as : List Nat} (hK : kKp as f f1) (ha : ∀ a ∈ as, ¬ o a = 9) : ∃ g, f1 po = some (kaJ G 1 g) := by
  obtain ⟨g9, h9⟩ := hI 9
  have e9 := kCs_mem h9 _ List.mem_cons_self
  exact ⟨g9, hK po _ (fun q => ha _ q e9.1) e9.2⟩
theorem cDsk_put {G : kG} {g : kH} {c : cSt} {m : mSt} {sz n p : Nat} {w : Nat → Nat} {dx dy dr : Nat → Int64} {x1 x2 x3 : Int32} {t : Nat} (hL : kLst G g c.dl n (fun j => if j = p then t else w j)) (he : ∀ j, j < n → g (if j = p then t else w j) = some (if j = p then .inr (1, [.long x1.toInt64, .long x2.toInt64, .long x3.toInt64]) else dsE dx dy dr j)) (hn : n ≤ 16) (hw : mDisk x1 x2 x3)
    (hx : ∀ k, k < sz → dx k = (m.a4 k).toInt64 ∧ dy k = (m.a5 k).toInt64 ∧ dr k = (m.a6 k).toInt64 ∧ mDisk (m.a4 k) (m.a5 k) (m.a6 k)) (hs : ∀ j, j < n → ¬ j = p → j < sz) : cDsk G g c (mMk m.q m.i0 m.i1 (nI n) m.i7 m.i18 m.i22 m.i23 (nI 0) m.j16 m.j17 m.a2 (upd m.a4 p x1) (upd m.a5 p x2) (upd m.a6 p x3) m.b8 m.b9 m.b10 m.a11 m.a12 m.a13 m.a14 m.b15 m.b19 m.b20 m.b21 m.a24 m.a25 m.a26) := by
  refine ⟨n, _, fun j => if j = p then x1.toInt64 else dx j, fun j => if j = p then x2.toInt64 else dy j, fun j => if j = p then x3.toInt64 else dr j, hL, fun j hj => ?_, hn, rfl, fun j hj => ?_⟩
  · refine (he j hj).trans ?_
    by_cases q : j = p
    · rw [if_pos q]; simp only [dsE, if_pos q]
    · rw [if_neg q]; simp only [dsE, if_neg q]
  · show _ = (upd m.a4 p x1 j).toInt64 ∧ _ = (upd m.a5 p x2 j).toInt64 ∧ _ = (upd m.a6 p x3 j).toInt64 ∧ mDisk (upd m.a4 p x1 j) (upd m.a5 p x2 j) (upd m.a6 p x3 j)
    unfold upd
    by_cases q : j = p
    · simp only [if_pos q]; exact ⟨trivial, trivial, trivial, hw⟩
    · simp only [if_neg q]; exact hx j (hs j hj q)
theorem op_disk {l : Launch} (hst : l.stackTraces = false) {G : kG} {B0 h hm po pd : Nat} {f : kH} {o : Nat → Nat} {c : cSt} {m : mSt} (hI : Inv2 G h hm po pd f o c m m) (x1 x2 x3 : Int32) : opI l G B0 h hm po pd f yL_disk wsL_disk [.ref h, .int x1, .int x2, .int x3, .ref po] yX9_disk wsX9_disk [.ref hm, .int x1, .int x2, .int x3] := by
  have hD : cDsk G (kR o 2 f) c m := hI 2
  obtain ⟨sz, w, dx, dy, dr, hL, he, hsz, e3, hx⟩ := hD
  have hH0 : kCs (kR o 0 f) (cHd h c) := hI 0
  have hH : kCs f (cHd h c) := hH0.le (kR_le _ _ _)
  have hls : kLs G f c.dl sz w (dsE dx dy dr) := (hL.ls he).le (kR_le _ _ _)
  by_cases hw : mDisk x1 x2 x3
  · have hw8 := dk_iff.mpr hw
    by_cases h16 : 16 ≤ sz
    · exact opI_thr (m2 := (mMk m.q m.i0 m.i1 m.i3 m.i7 m.i18 m.i22 m.i23 (nI 2) m.j16 m.j17 m.a2 m.a4 m.a5 m.a6 m.b8 m.b9 m.b10 m.a11 m.a12 m.a13 m.a14 m.b15 m.b19 m.b20 m.b21 m.a24 m.a25 m.a26)) hI 2 (by omega) (kL_disk_s l G B0 f h po x1 x2 x3 hI.hd rfl rfl (kX8_disk_b2 l hst G B0 f h c.dl sz (.ref c.sp) (.ref c.gl) (.ref c.rw) (.ref c.ml) (.ref c.pp) (.ref c.nn) w dx dy dr x1 x2 x3 hH hls hsz hw8 h16)) (fun f2 h2 => by rw [show f2 = f from h2]; exact kKp.rf) ⟨rfl, rfl, Nat.le_of_ble_eq_true rfl, Nat.le_of_ble_eq_true rfl, Nat.le_of_ble_eq_true rfl, Nat.le_of_ble_eq_true rfl⟩ (fun f2 hM => kX9_disk_b2 l G B0 f2 hm m.q m.i0 m.i1 m.i3 m.i7 m.i18 m.i22 m.i23 m.i27 m.j16 m.j17 m.a2 m.a4 m.a5 m.a6 m.b8 m.b9 m.b10 m.a11 m.a12 m.a13 m.a14 m.b15 m.b19 m.b20 m.b21 m.a24 m.a25 m.a26 x1 x2 x3 sz hM e3 hsz hw (by omega)) ⟨rfl, rfl, Nat.le_of_ble_eq_true rfl, Nat.le_of_ble_eq_true rfl, Nat.le_of_ble_eq_true rfl, Nat.le_of_ble_eq_true rfl⟩ ⟨rfl, rfl, rfl, rfl, rfl, rfl, rfl, rfl, rfl, rfl, rfl, rfl, rfl, rfl, rfl, rfl⟩ rfl rfl
    have hmd := fun f2 hM => kX9_disk l G B0 f2 hm m.q m.i0 m.i1 m.i3 m.i7 m.i18 m.i22 m.i23 m.i27 m.j16 m.j17 m.a2 m.a4 m.a5 m.a6 m.b8 m.b9 m.b10 m.a11 m.a12 m.a13 m.a14 m.b15 m.b19 m.b20 m.b21 m.a24 m.a25 m.a26 x1 x2 x3 sz hM e3 hsz hw (by omega)
    obtain ⟨mc, ⟨h0, h1⟩ | ⟨q, cap, g0, h1, h2, h10, h64, h5, h6⟩⟩ := hL
    · subst h0
      have a1 := kR_some.mp h1
      have hW : kCs f [(h, .inr (8, [.ref c.sp, .ref c.dl, .ref c.gl, .ref c.rw, .ref c.ml, .ref c.pp, .ref c.nn])), (c.dl, .inr (0, [.int mc, .ref (G.2.2 1), .int (nI 0)]))] := kCs_app hH0 (show kCs (kR o 2 f) [(c.dl, .inr (0, [.int mc, .ref (G.2.2 1), .int (nI 0)]))] from ⟨fun x hx => by rw [List.mem_singleton.mp hx]; exact h1, by simp⟩) (by decide)
      refine opI_ok (m1 := (mMk m.q m.i0 m.i1 (nI (0 + 1)) m.i7 m.i18 m.i22 m.i23 (nI 0) m.j16 m.j17 m.a2 (upd m.a4 0 x1) (upd m.a5 0 x2) (upd m.a6 0 x3) m.b8 m.b9 m.b10 m.a11 m.a12 m.a13 m.a14 m.b15 m.b19 m.b20 m.b21 m.a24 m.a25 m.a26)) (nI 0).toInt64 (kL_disk_g l G B0 f h po x1 x2 x3 hI.hd rfl rfl (kX8_disk_0 l G B0 f h c.dl mc (.ref c.sp) (.ref c.gl) (.ref c.rw) (.ref c.ml) (.ref c.pp) (.ref c.nn) x1 x2 x3 hw8 hW) (fun r0 f1 hp => ?_)) (fun f2 hp => ?_) ⟨rfl, rfl, Nat.le_of_ble_eq_true rfl, Nat.le_of_ble_eq_true rfl, Nat.le_of_ble_eq_true rfl, Nat.le_of_ble_eq_true rfl⟩ hmd ⟨rfl, rfl, Nat.le_of_ble_eq_true rfl, Nat.le_of_ble_eq_true rfl, Nat.le_of_ble_eq_true rfl, Nat.le_of_ble_eq_true rfl⟩ (fun f2 r f3 hp => ?_)
      · obtain ⟨t, q, _, _, _, _, hK⟩ := hp
        exact hI.outK hK (fun a ha z => by rw [List.mem_singleton.mp ha] at z; have := a1.1; omega)
      · obtain ⟨r0, f1, g, ⟨t, q, hr, hT, hq, h4, hK⟩, hg, hf⟩ := hp
        refine ⟨f1, g, oN o 2 f, c, ?_, hg, hf.trans (by rw [hr])⟩
        have hqt : q ≠ t := fun z => by have := h4.2; simp [z] at this
        refine hI.step 2 hK (fun a ha => by rw [List.mem_singleton.mp ha]; exact a1.1) ?_ (fun j g hj hP => ?_)
        · exact cDsk_put (kLst.add_0 (w := w) h1 hT hq hqt (h4.pick [1, 3] (by decide) ⟨rfl, rfl, trivial⟩)) (kLst.more (sz := 0) (w := w) (e := dsE dx dy dr) hK (fun j hj => absurd hj (Nat.not_lt_zero _)) hT (h4.at 2 rfl)) (by omega) hw hx (fun j _ _ => by omega)
        · unfold cPt at hP ⊢
          split
          case h_3 => exact absurd rfl hj
          all_goals first | exact hP | trivial
      · exact ⟨by rw [hp.1], (mMk m.q m.i0 m.i1 (nI (0 + 1)) m.i7 m.i18 m.i22 m.i23 (nI 0) m.j16 m.j17 m.a2 (upd m.a4 0 x1) (upd m.a5 0 x2) (upd m.a6 0 x3) m.b8 m.b9 m.b10 m.a11 m.a12 m.a13 m.a14 m.b15 m.b19 m.b20 m.b21 m.a24 m.a25 m.a26), ⟨rfl, rfl, rfl, rfl, rfl, rfl, rfl, rfl, rfl, rfl, rfl, rfl, rfl, rfl, rfl, rfl⟩, rfl, rfl, hp.2.1, hp.2.2⟩
    · have a1 := (kCs_mem h1) _ List.mem_cons_self
      have a2 := (kCs_mem h1) _ (List.mem_cons_of_mem _ List.mem_cons_self)
      have hW : kCs f [(h, .inr (8, [.ref c.sp, .ref c.dl, .ref c.gl, .ref c.rw, .ref c.ml, .ref c.pp, .ref c.nn])), (c.dl, .inr (0, [.int mc, .ref q, .int (nI sz)])), (q, kaO G cap g0)] := kCs_app hH0 h1 (by decide)
      by_cases hc : sz < cap
      · refine opI_ok (m1 := (mMk m.q m.i0 m.i1 (nI (sz + 1)) m.i7 m.i18 m.i22 m.i23 (nI 0) m.j16 m.j17 m.a2 (upd m.a4 sz x1) (upd m.a5 sz x2) (upd m.a6 sz x3) m.b8 m.b9 m.b10 m.a11 m.a12 m.a13 m.a14 m.b15 m.b19 m.b20 m.b21 m.a24 m.a25 m.a26)) (nI sz).toInt64 (kL_disk_g l G B0 f h po x1 x2 x3 hI.hd rfl rfl (kX8_disk_n l G B0 f h c.dl q mc sz cap g0 (.ref c.sp) (.ref c.gl) (.ref c.rw) (.ref c.ml) (.ref c.pp) (.ref c.nn) x1 x2 x3 hw8 hW (by omega) hc (by omega)) (fun r0 f1 hp => ?_)) (fun f2 hp => ?_) ⟨rfl, rfl, Nat.le_of_ble_eq_true rfl, Nat.le_of_ble_eq_true rfl, Nat.le_of_ble_eq_true rfl, Nat.le_of_ble_eq_true rfl⟩ hmd ⟨rfl, rfl, Nat.le_of_ble_eq_true rfl, Nat.le_of_ble_eq_true rfl, Nat.le_of_ble_eq_true rfl, Nat.le_of_ble_eq_true rfl⟩ (fun f2 r f3 hp => ?_)
        · obtain ⟨t, _, _, _, hK⟩ := hp
          refine hI.outK hK (fun a ha z => ?_)
          simp only [List.mem_cons, List.not_mem_nil, or_false] at ha
          rcases ha with rfl | rfl
          · have := a1.1; dsimp only at this; omega
          · have := a2.1; dsimp only at this; omega
        · obtain ⟨r0, f1, g, ⟨t, hr, hT, h4, hK⟩, hg, hf⟩ := hp
          refine ⟨f1, g, oN o 2 f, c, ?_, hg, hf.trans (by rw [hr])⟩
          refine hI.step 2 hK (fun a ha => ?_) ?_ (fun j g hj hP => ?_)
          · simp only [List.mem_cons, List.not_mem_nil, or_false] at ha
            rcases ha with rfl | rfl
            · exact a1.1
            · exact a2.1
          · exact cDsk_put (kLst.add_n h1 hc h10 h64 h5 h6 he hT (h4.pick [1, 2] (by decide) ⟨rfl, rfl, trivial⟩)) (kLst.more hK (fun j hj => ⟨he j hj, fun z => by
              simp only [List.mem_cons, List.not_mem_nil, or_false] at z
              exact z.elim (h5 j hj).2.1 (h5 j hj).2.2⟩) hT (h4.at 3 rfl)) (by omega) hw hx (fun j _ _ => by omega)
          · unfold cPt at hP ⊢
            split
            case h_3 => exact absurd rfl hj
            all_goals first | exact hP | trivial
        · exact ⟨by rw [hp.1], (mMk m.q m.i0 m.i1 (nI (sz + 1)) m.i7 m.i18 m.i22 m.i23 (nI 0) m.j16 m.j17 m.a2 (upd m.a4 sz x1) (upd m.a5 sz x2) (upd m.a6 sz x3) m.b8 m.b9 m.b10 m.a11 m.a12 m.a13 m.a14 m.b15 m.b19 m.b20 m.b21 m.a24 m.a25 m.a26), ⟨rfl, rfl, rfl, rfl, rfl, rfl, rfl, rfl, rfl, rfl, rfl, rfl, rfl, rfl, rfl, rfl⟩, rfl, rfl, hp.2.1, hp.2.2⟩
      · have hcs : sz = cap := by omega
        subst hcs
        have hE : kEl f c.dl q g0 sz := ⟨(RX0, TX0, 3), by decide +kernel, 1, rfl, fun i hi y hy => by
          have e5 := h5 i hi
          rw [e5.1] at hy
          cases hy
          exact ⟨e5.2.1, e5.2.2, _, (kR_some.mp (he i hi)).2⟩⟩
        refine opI_ok (m1 := (mMk m.q m.i0 m.i1 (nI (sz + 1)) m.i7 m.i18 m.i22 m.i23 (nI 0) m.j16 m.j17 m.a2 (upd m.a4 sz x1) (upd m.a5 sz x2) (upd m.a6 sz x3) m.b8 m.b9 m.b10 m.a11 m.a12 m.a13 m.a14 m.b15 m.b19 m.b20 m.b21 m.a24 m.a25 m.a26)) (nI sz).toInt64 (kL_disk_g l G B0 f h po x1 x2 x3 hI.hd rfl rfl (kX8_disk_g l G B0 f h c.dl q mc sz g0 (.ref c.sp) (.ref c.gl) (.ref c.rw) (.ref c.ml) (.ref c.pp) (.ref c.nn) x1 x2 x3 hw8 hW (by omega) (by omega) hE) (fun r0 f1 hp => ?_)) (fun f2 hp => ?_) ⟨rfl, rfl, Nat.le_of_ble_eq_true rfl, Nat.le_of_ble_eq_true rfl, Nat.le_of_ble_eq_true rfl, Nat.le_of_ble_eq_true rfl⟩ hmd ⟨rfl, rfl, Nat.le_of_ble_eq_true rfl, Nat.le_of_ble_eq_true rfl, Nat.le_of_ble_eq_true rfl, Nat.le_of_ble_eq_true rfl⟩ (fun f2 r f3 hp => ?_)
        · obtain ⟨t, q2, _, _, _, _, hK⟩ := hp
          exact hI.outK hK (fun a ha z => by rw [List.mem_singleton.mp ha] at z; have := a1.1; dsimp only at this; omega)
        · obtain ⟨r0, f1, g, ⟨t, q2, hr, hT, hq, h4, hK⟩, hg, hf⟩ := hp
          refine ⟨f1, g, oN o 2 f, c, ?_, hg, hf.trans (by rw [hr])⟩
          have hqt : q2 ≠ t := fun z => by have := h4.2; simp [z] at this
          refine hI.step 2 hK (fun a ha => by rw [List.mem_singleton.mp ha]; exact a1.1) ?_ (fun j g hj hP => ?_)
          · exact cDsk_put (kLst.add_g h1 h10 (by omega) h5 h6 he hT hq hqt (h4.pick [1, 4] (by decide) ⟨rfl, rfl, trivial⟩)) (kLst.more hK (fun j hj => ⟨he j hj, fun z => (h5 j hj).2.1 (List.mem_singleton.mp z)⟩) hT (h4.at 3 rfl)) (by omega) hw hx (fun j _ _ => by omega)
          · unfold cPt at hP ⊢
            split
            case h_3 => exact absurd rfl hj
            all_goals first | exact hP | trivial
        · exact ⟨by rw [hp.1], (mMk m.q m.i0 m.i1 (nI (sz + 1)) m.i7 m.i18 m.i22 m.i23 (nI 0) m.j16 m.j17 m.a2 (upd m.a4 sz x1) (upd m.a5 sz x2) (upd m.a6 sz x3) m.b8 m.b9 m.b10 m.a11 m.a12 m.a13 m.a14 m.b15 m.b19 m.b20 m.b21 m.a24 m.a25 m.a26), ⟨rfl, rfl, rfl, rfl, rfl, rfl, rfl, rfl, rfl, rfl, rfl, rfl, rfl, rfl, rfl, rfl⟩, rfl, rfl, hp.2.1, hp.2.2⟩
  · exact opI_thr (m2 := (mMk m.q m.i0 m.i1 m.i3 m.i7 m.i18 m.i22 m.i23 (nI 1) m.j16 m.j17 m.a2 m.a4 m.a5 m.a6 m.b8 m.b9 m.b10 m.a11 m.a12 m.a13 m.a14 m.b15 m.b19 m.b20 m.b21 m.a24 m.a25 m.a26)) hI 1 (by omega) (kL_disk_a l G B0 f h po x1 x2 x3 hI.hd rfl rfl (kX8_disk_b1 l hst G B0 f h c.dl sz (.ref c.sp) (.ref c.gl) (.ref c.rw) (.ref c.ml) (.ref c.pp) (.ref c.nn) w dx dy dr x1 x2 x3 hH hls hsz (fun z => hw (dk_iff.mp z)))) (fun f2 h2 => by rw [show f2 = f from h2]; exact kKp.rf) ⟨rfl, rfl, Nat.le_of_ble_eq_true rfl, Nat.le_of_ble_eq_true rfl, Nat.le_of_ble_eq_true rfl, Nat.le_of_ble_eq_true rfl⟩ (fun f2 hM => kX9_disk_b1 l G B0 f2 hm m.q m.i0 m.i1 m.i3 m.i7 m.i18 m.i22 m.i23 m.i27 m.j16 m.j17 m.a2 m.a4 m.a5 m.a6 m.b8 m.b9 m.b10 m.a11 m.a12 m.a13 m.a14 m.b15 m.b19 m.b20 m.b21 m.a24 m.a25 m.a26 x1 x2 x3 sz hM e3 hsz hw) ⟨rfl, rfl, Nat.le_of_ble_eq_true rfl, Nat.le_of_ble_eq_true rfl, Nat.le_of_ble_eq_true rfl, Nat.le_of_ble_eq_true rfl⟩ ⟨rfl, rfl, rfl, rfl, rfl, rfl, rfl, rfl, rfl, rfl, rfl, rfl, rfl, rfl, rfl, rfl⟩ rfl rfl
