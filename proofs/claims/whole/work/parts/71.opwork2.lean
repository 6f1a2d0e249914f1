/-! nodes, wire -/
theorem kCs_kp {g g1 : kH} {ws : va_W} {as : List Nat} (h : kCs g ws) (hK : kKp as g g1) (ha : ∀ a ∈ as, a ∉ ws.map Prod.fst) : kCs g1 ws := ⟨fun q hq => hK _ _ (fun z => ha _ z (List.mem_map.mpr ⟨q, hq, rfl⟩)) (h.1 q hq), h.2⟩
theorem nwk_hd {G : kG} {g g1 : kH} {nn wL tA nc b : Nat} {r z : Nat → Nat} {M : Nat → Nat → Int64} {as : List Nat} (h : kCs g (mxW G nn wL tA nc r z M)) (hn : g1 nn = some (.inr (4, [.ref wL, .ref tA, .int (nI b)]))) (hK : kKp as g g1) (ha : ∀ a ∈ as, a = nn ∨ a ∉ mxAs nn tA r) : kCs g1 (mxW G nn wL tA b r z M) := by
  have hd : nn ∉ [tA, r 0, r 1, r 2, r 3, r 4] := (List.nodup_cons.mp h.2).1
  have key : ∀ a, a ∈ [tA, r 0, r 1, r 2, r 3, r 4] → a ∉ as := fun a h1 h2 => by
    rcases ha a h2 with e | e
    · exact hd (e ▸ h1)
    · exact e (List.mem_cons_of_mem _ h1)
  refine ⟨fun q hq => ?_, h.2⟩
  simp only [mxW, List.mem_cons, List.not_mem_nil, or_false] at hq
  rcases hq with rfl | rfl | rfl | rfl | rfl | rfl | rfl
  · exact hn
  · exact hK _ _ (key _ (by simp)) (h.at 1 rfl)
  · exact hK _ _ (key _ (by simp)) (h.at 2 rfl)
  · exact hK _ _ (key _ (by simp)) (h.at 3 rfl)
  · exact hK _ _ (key _ (by simp)) (h.at 4 rfl)
  · exact hK _ _ (key _ (by simp)) (h.at 5 rfl)
  · exact hK _ _ (key _ (by simp)) (h.at 6 rfl)
theorem nwk_new {G : kG} {g : kH} {nn wL tA nc : Nat} {r z : Nat → Nat} {M : Nat → Nat → Int64} (h : kCs g (mxW G nn wL tA nc r z M)) {t : Nat} (ht : g t = none) : t ∉ mxAs nn tA r := fun q => by
  rcases nwk_kind h t q with ⟨l, e⟩ | ⟨c, x, e⟩
  · rw [ht] at e; exact nomatch e
  · rw [ht] at e; exact nomatch e
theorem op_nodes {l : Launch} (hst : l.stackTraces = false) {G : kG} {B0 h hm po pd : Nat} {f : kH} {o : Nat → Nat} {c : cSt} {m : mSt} (hI : Inv2 G h hm po pd f o c m m) (x1 : Int32) : opI l G B0 h hm po pd f yL_nodes wsL_nodes [.ref h, .int x1, .ref po] yX9_nodes wsX9_nodes [.ref hm, .int x1] := by
  have hK7 : cNwk G (kR o 7 f) c m := hI 7
  obtain ⟨wL, tA, nc, sz, r, z, MM, w, e1, e2, h1, hwL, hz, hzi, hL, hel, hn2, hn6, hs10, e22, e23, hx⟩ := hK7
  have hH0 : kCs (kR o 0 f) (cHd h c) := hI 0
  have hH : kCs f (cHd h c) := hH0.le (kR_le _ _ _)
  have hN : kCs f (mxW G c.nn wL tA nc r z MM) := h1.le (kR_le _ _ _)
  have hwl : kWl G f (mxAs c.nn tA r) wL sz w e1 e2 := nwk_wl hN hwL (hL.le (kR_le _ _ _)) (fun k hk => ⟨(hel k hk).1, (kR_some.mp (hel k hk).2).2⟩)
  have he : ∀ k : Nat, k < sz → e1 k < nc ∧ e2 k < nc := fun k hk => (hx k hk).2.2
  have h7 := nwk_own h1
  have hh9 : h ∉ mxAs c.nn tA r := fun q => by have a := h7 _ q; have b := (kCs_mem hH0 _ List.mem_cons_self).1; dsimp only at b; omega
  have hn1 : 1 ≤ nc := by omega
  by_cases hv : mRg x1 (2 : Nat) (6 : Nat)
  · obtain ⟨b, hb2, hb6, rfl⟩ : ∃ b : Nat, 2 ≤ b ∧ b ≤ 6 ∧ x1 = nI b := ⟨x1.toInt.toNat, by have := hv.1; have := hv.2; omega, by have := hv.1; have := hv.2; omega, i32_of (by have := hv.1; omega) (by have := hv.1; have := hv.2; omega)⟩
    have hmd := fun f2 hM => kX9_nodes l G B0 f2 hm m.q m.i0 m.i1 m.i3 m.i7 m.i18 m.i22 m.i23 m.i27 m.j16 m.j17 m.a2 m.a4 m.a5 m.a6 m.b8 m.b9 m.b10 m.a11 m.a12 m.a13 m.a14 m.b15 m.b19 m.b20 m.b21 m.a24 m.a25 m.a26 (nI b) hM hv
    have hnw : c.nn ≠ wL := fun q => hwL (by rw [← q]; simp)
    have on : o c.nn = 7 := h7 _ (by simp)
    obtain ⟨mc, ⟨h0, hl1⟩ | ⟨q, cap, g0, hl1, hl2, h10, h64, h5, h6⟩⟩ := hL
    · have a1 := kR_some.mp hl1
      have hW : kCs f [(h, .inr (8, [.ref c.sp, .ref c.dl, .ref c.gl, .ref c.rw, .ref c.ml, .ref c.pp, .ref c.nn])), (c.nn, .inr (4, [.ref wL, .ref tA, .int (nI nc)])), (wL, .inr (0, [.int mc, .ref (G.2.2 1), .int (nI 0)]))] := kCs_app hH0 (show kCs (kR o 7 f) [(c.nn, .inr (4, [.ref wL, .ref tA, .int (nI nc)])), (wL, .inr (0, [.int mc, .ref (G.2.2 1), .int (nI 0)]))] from ⟨fun x hx => by
        simp only [List.mem_cons, List.not_mem_nil, or_false] at hx
        rcases hx with rfl | rfl
        · exact h1.at 0 rfl
        · exact hl1, by simpa using hnw⟩) (by decide)
      refine opI_ok (m1 := (mMk m.q m.i0 m.i1 m.i3 m.i7 m.i18 (nI b) (nI 0) (nI 0) m.j16 m.j17 m.a2 m.a4 m.a5 m.a6 m.b8 m.b9 m.b10 m.a11 m.a12 m.a13 m.a14 m.b15 m.b19 m.b20 m.b21 m.a24 m.a25 m.a26)) (nI nc).toInt64 (kL_nodes_g l G B0 f h po (nI b) hI.hd rfl rfl (kX8_nodes_0 l G B0 f h c.nn wL nc b (.ref c.sp) (.ref c.dl) (.ref c.gl) (.ref c.rw) (.ref c.ml) (.ref c.pp) (.ref tA) mc hW hb2 hb6) (fun r0 f1 hp => ?_)) (fun f2 hp => ?_) ⟨rfl, rfl, Nat.le_of_ble_eq_true rfl, Nat.le_of_ble_eq_true rfl, Nat.le_of_ble_eq_true rfl, Nat.le_of_ble_eq_true rfl⟩ hmd ⟨rfl, rfl, Nat.le_of_ble_eq_true rfl, Nat.le_of_ble_eq_true rfl, Nat.le_of_ble_eq_true rfl, Nat.le_of_ble_eq_true rfl⟩ (fun f2 v f3 hp => ?_)
      · refine hI.outK hp.2.2 (fun a ha q => ?_)
        simp only [List.mem_cons, List.not_mem_nil, or_false] at ha
        rcases ha with rfl | rfl
        · omega
        · have := a1.1; omega
      · obtain ⟨r0, f1, g, ⟨hr, h4, hK⟩, hg, hf⟩ := hp
        refine ⟨f1, g, oN o 7 f, c, ?_, hg, hf.trans (by rw [hr])⟩
        refine hI.step 7 hK (fun a ha => ?_) ?_ (fun j g hj hP => ?_)
        · simp only [List.mem_cons, List.not_mem_nil, or_false] at ha
          rcases ha with rfl | rfl
          · exact on
          · exact a1.1
        · refine ⟨wL, tA, b, 0, r, z, MM, w, e1, e2, ?_, hwL, hz, hzi, ⟨mc + nI 1, .inl ⟨rfl, kR_some.mpr ⟨oN_own a1.1, h4.at 2 rfl⟩⟩⟩, fun k hk => absurd hk (Nat.not_lt_zero _), hb2, hb6, by omega, rfl, rfl, fun k hk => absurd hk (Nat.not_lt_zero _)⟩
          refine nwk_hd h1 (kR_some.mpr ⟨oN_own on, h4.at 1 rfl⟩) (kR_own hK) (fun a ha => ?_)
          simp only [List.mem_cons, List.not_mem_nil, or_false] at ha
          rcases ha with rfl | rfl
          · exact .inl rfl
          · exact .inr hwL
        · unfold cPt at hP ⊢
          split
          case h_8 => exact absurd rfl hj
          all_goals first | exact hP | trivial
      · exact ⟨by rw [hp.1, e22], (mMk m.q m.i0 m.i1 m.i3 m.i7 m.i18 (nI b) (nI 0) (nI 0) m.j16 m.j17 m.a2 m.a4 m.a5 m.a6 m.b8 m.b9 m.b10 m.a11 m.a12 m.a13 m.a14 m.b15 m.b19 m.b20 m.b21 m.a24 m.a25 m.a26), ⟨rfl, rfl, rfl, rfl, rfl, rfl, rfl, rfl, rfl, rfl, rfl, rfl, rfl, rfl, rfl, rfl⟩, rfl, rfl, hp.2.1, hp.2.2⟩
    · have a1 := (kCs_mem hl1) _ List.mem_cons_self
      have a2 := (kCs_mem hl1) _ (List.mem_cons_of_mem _ List.mem_cons_self)
      have hqm := nwk_q h1 (hl1.at 1 rfl) h10
      have hnq : c.nn ≠ q := fun z9 => hqm (by rw [← z9]; simp)
      have hwq : wL ≠ q := by have := hl1.2; simpa using this
      have hW : kCs f [(h, .inr (8, [.ref c.sp, .ref c.dl, .ref c.gl, .ref c.rw, .ref c.ml, .ref c.pp, .ref c.nn])), (c.nn, .inr (4, [.ref wL, .ref tA, .int (nI nc)])), (wL, .inr (0, [.int mc, .ref q, .int (nI sz)])), (q, kaO G cap g0)] := kCs_app hH0 (show kCs (kR o 7 f) [(c.nn, .inr (4, [.ref wL, .ref tA, .int (nI nc)])), (wL, .inr (0, [.int mc, .ref q, .int (nI sz)])), (q, kaO G cap g0)] from ⟨fun x hx => by
        simp only [List.mem_cons, List.not_mem_nil, or_false] at hx
        rcases hx with rfl | rfl | rfl
        · exact h1.at 0 rfl
        · exact hl1.at 0 rfl
        · exact hl1.at 1 rfl, by simp only [List.map_cons, List.map_nil, List.nodup_cons, List.mem_cons, List.not_mem_nil, or_false, not_or, List.nodup_nil, and_true, not_false_eq_true]; exact ⟨⟨hnw, hnq⟩, hwq⟩⟩) (by decide)
      refine opI_ok (m1 := (mMk m.q m.i0 m.i1 m.i3 m.i7 m.i18 (nI b) (nI 0) (nI 0) m.j16 m.j17 m.a2 m.a4 m.a5 m.a6 m.b8 m.b9 m.b10 m.a11 m.a12 m.a13 m.a14 m.b15 m.b19 m.b20 m.b21 m.a24 m.a25 m.a26)) (nI nc).toInt64 (kL_nodes_g l G B0 f h po (nI b) hI.hd rfl rfl (kX8_nodes_n l G B0 f h c.nn wL q nc b (.ref c.sp) (.ref c.dl) (.ref c.gl) (.ref c.rw) (.ref c.ml) (.ref c.pp) (.ref tA) mc sz cap g0 hW hb2 hb6 hl2 (by omega)) (fun r0 f1 hp => ?_)) (fun f2 hp => ?_) ⟨rfl, rfl, Nat.le_of_ble_eq_true rfl, Nat.le_of_ble_eq_true rfl, Nat.le_of_ble_eq_true rfl, Nat.le_of_ble_eq_true rfl⟩ hmd ⟨rfl, rfl, Nat.le_of_ble_eq_true rfl, Nat.le_of_ble_eq_true rfl, Nat.le_of_ble_eq_true rfl, Nat.le_of_ble_eq_true rfl⟩ (fun f2 v f3 hp => ?_)
      · refine hI.outK hp.2.2 (fun a ha q => ?_)
        simp only [List.mem_cons, List.not_mem_nil, or_false] at ha
        rcases ha with rfl | rfl | rfl
        · omega
        · have := a1.1; dsimp only at this; omega
        · have := a2.1; dsimp only at this; omega
      · obtain ⟨r0, f1, g, ⟨hr, h4, hK⟩, hg, hf⟩ := hp
        refine ⟨f1, g, oN o 7 f, c, ?_, hg, hf.trans (by rw [hr])⟩
        refine hI.step 7 hK (fun a ha => ?_) ?_ (fun j g hj hP => ?_)
        · simp only [List.mem_cons, List.not_mem_nil, or_false] at ha
          rcases ha with rfl | rfl | rfl
          · exact on
          · exact a1.1
          · exact a2.1
        · refine ⟨wL, tA, b, 0, r, z, MM, w, e1, e2, ?_, hwL, hz, hzi, ⟨mc + nI 1, .inr ⟨q, cap, _, kCs_own (h4.pick [2, 3] (by decide) ⟨rfl, rfl, trivial⟩) (fun x hx => ?_), by omega, h10, h64, fun k hk => absurd hk (Nat.not_lt_zero _), fun i _ hi => absurd hi (Nat.not_lt_zero _)⟩⟩, fun k hk => absurd hk (Nat.not_lt_zero _), hb2, hb6, by omega, rfl, rfl, fun k hk => absurd hk (Nat.not_lt_zero _)⟩
          · refine nwk_hd h1 (kR_some.mpr ⟨oN_own on, h4.at 1 rfl⟩) (kR_own hK) (fun a ha => ?_)
            simp only [List.mem_cons, List.not_mem_nil, or_false] at ha
            rcases ha with rfl | rfl | rfl
            · exact .inl rfl
            · exact .inr hwL
            · exact .inr hqm
          · simp only [List.mem_cons, List.not_mem_nil, or_false] at hx
            rcases hx with rfl | rfl
            · exact .inl a1.1
            · exact .inl a2.1
        · unfold cPt at hP ⊢
          split
          case h_8 => exact absurd rfl hj
          all_goals first | exact hP | trivial
      · exact ⟨by rw [hp.1, e22], (mMk m.q m.i0 m.i1 m.i3 m.i7 m.i18 (nI b) (nI 0) (nI 0) m.j16 m.j17 m.a2 m.a4 m.a5 m.a6 m.b8 m.b9 m.b10 m.a11 m.a12 m.a13 m.a14 m.b15 m.b19 m.b20 m.b21 m.a24 m.a25 m.a26), ⟨rfl, rfl, rfl, rfl, rfl, rfl, rfl, rfl, rfl, rfl, rfl, rfl, rfl, rfl, rfl, rfl⟩, rfl, rfl, hp.2.1, hp.2.2⟩
  · exact opI_thr (m2 := (mMk m.q m.i0 m.i1 m.i3 m.i7 m.i18 m.i22 m.i23 (nI 1) m.j16 m.j17 m.a2 m.a4 m.a5 m.a6 m.b8 m.b9 m.b10 m.a11 m.a12 m.a13 m.a14 m.b15 m.b19 m.b20 m.b21 m.a24 m.a25 m.a26)) hI 1 (by omega) (kL_nodes_a l G B0 f h po x1 hI.hd rfl rfl (kX8_nodes_b1 l hst G B0 f h c.nn wL tA nc (.ref c.sp) (.ref c.dl) (.ref c.gl) (.ref c.rw) (.ref c.ml) (.ref c.pp) r z MM sz w e1 e2 x1 hH hN hz hwl hn6 hn1 hs10 he hh9 hv)) (fun f2 h2 => by rw [show f2 = f from h2]; exact kKp.rf) ⟨rfl, rfl, Nat.le_of_ble_eq_true rfl, Nat.le_of_ble_eq_true rfl, Nat.le_of_ble_eq_true rfl, Nat.le_of_ble_eq_true rfl⟩ (fun f2 hM => kX9_nodes_b1 l G B0 f2 hm m.q m.i0 m.i1 m.i3 m.i7 m.i18 m.i22 m.i23 m.i27 m.j16 m.j17 m.a2 m.a4 m.a5 m.a6 m.b8 m.b9 m.b10 m.a11 m.a12 m.a13 m.a14 m.b15 m.b19 m.b20 m.b21 m.a24 m.a25 m.a26 x1 hM hv) ⟨rfl, rfl, Nat.le_of_ble_eq_true rfl, Nat.le_of_ble_eq_true rfl, Nat.le_of_ble_eq_true rfl, Nat.le_of_ble_eq_true rfl⟩ ⟨rfl, rfl, rfl, rfl, rfl, rfl, rfl, rfl, rfl, rfl, rfl, rfl, rfl, rfl, rfl, rfl⟩ rfl rfl
theorem op_wire {l : Launch} (hst : l.stackTraces = false) {G : kG} {B0 h hm po pd : Nat} {f : kH} {o : Nat → Nat} {c : cSt} {m : mSt} (hI : Inv2 G h hm po pd f o c m m) (x1 x2 : Int32) : opI l G B0 h hm po pd f yL_wire wsL_wire [.ref h, .int x1, .int x2, .ref po] yX9_wire wsX9_wire [.ref hm, .int x1, .int x2] := by
  have hK7 : cNwk G (kR o 7 f) c m := hI 7
  obtain ⟨wL, tA, nc, sz, r, z, MM, w, e1, e2, h1, hwL, hz, hzi, hL, hel, hn2, hn6, hs10, e22, e23, hx⟩ := hK7
  have hH0 : kCs (kR o 0 f) (cHd h c) := hI 0
  have hH : kCs f (cHd h c) := hH0.le (kR_le _ _ _)
  have hN : kCs f (mxW G c.nn wL tA nc r z MM) := h1.le (kR_le _ _ _)
  have hwl : kWl G f (mxAs c.nn tA r) wL sz w e1 e2 := nwk_wl hN hwL (hL.le (kR_le _ _ _)) (fun k hk => ⟨(hel k hk).1, (kR_some.mp (hel k hk).2).2⟩)
  have he : ∀ k : Nat, k < sz → e1 k < nc ∧ e2 k < nc := fun k hk => (hx k hk).2.2
  have h7 := nwk_own h1
  have hh9 : h ∉ mxAs c.nn tA r := fun q => by have a := h7 _ q; have b := (kCs_mem hH0 _ List.mem_cons_self).1; dsimp only at b; omega
  have hn1 : 1 ≤ nc := by omega
  by_cases hv : mIn x1 nc ∧ mIn x2 nc
  · by_cases hab : x1 = x2
    · exact opI_thr (m2 := (mMk m.q m.i0 m.i1 m.i3 m.i7 m.i18 m.i22 m.i23 (nI 2) m.j16 m.j17 m.a2 m.a4 m.a5 m.a6 m.b8 m.b9 m.b10 m.a11 m.a12 m.a13 m.a14 m.b15 m.b19 m.b20 m.b21 m.a24 m.a25 m.a26)) hI 2 (by omega) (kL_wire_a l G B0 f h po x1 x2 hI.hd rfl rfl (kX8_wire_b2 l hst G B0 f h c.nn wL tA nc (.ref c.sp) (.ref c.dl) (.ref c.gl) (.ref c.rw) (.ref c.ml) (.ref c.pp) r z MM sz w e1 e2 x1 x2 hH hN hz hwl hn6 hn1 hs10 he hh9 hv hab)) (fun f2 h2 => by rw [show f2 = f from h2]; exact kKp.rf) ⟨rfl, rfl, Nat.le_of_ble_eq_true rfl, Nat.le_of_ble_eq_true rfl, Nat.le_of_ble_eq_true rfl, Nat.le_of_ble_eq_true rfl⟩ (fun f2 hM => kX9_wire_b2 l G B0 f2 hm m.q m.i0 m.i1 m.i3 m.i7 m.i18 m.i22 m.i23 m.i27 m.j16 m.j17 m.a2 m.a4 m.a5 m.a6 m.b8 m.b9 m.b10 m.a11 m.a12 m.a13 m.a14 m.b15 m.b19 m.b20 m.b21 m.a24 m.a25 m.a26 x1 x2 nc sz hM e22 hn6 e23 hs10 hv hab) ⟨rfl, rfl, Nat.le_of_ble_eq_true rfl, Nat.le_of_ble_eq_true rfl, Nat.le_of_ble_eq_true rfl, Nat.le_of_ble_eq_true rfl⟩ ⟨rfl, rfl, rfl, rfl, rfl, rfl, rfl, rfl, rfl, rfl, rfl, rfl, rfl, rfl, rfl, rfl⟩ rfl rfl
    by_cases h10w : 10 ≤ sz
    · exact opI_thr (m2 := (mMk m.q m.i0 m.i1 m.i3 m.i7 m.i18 m.i22 m.i23 (nI 3) m.j16 m.j17 m.a2 m.a4 m.a5 m.a6 m.b8 m.b9 m.b10 m.a11 m.a12 m.a13 m.a14 m.b15 m.b19 m.b20 m.b21 m.a24 m.a25 m.a26)) hI 3 (by omega) (kL_wire_s l G B0 f h po x1 x2 hI.hd rfl rfl (kX8_wire_b3 l hst G B0 f h c.nn wL tA nc (.ref c.sp) (.ref c.dl) (.ref c.gl) (.ref c.rw) (.ref c.ml) (.ref c.pp) r z MM sz w e1 e2 x1 x2 hH hN hz hwl hn6 hn1 hs10 he hh9 hv hab h10w)) (fun f2 h2 => by rw [show f2 = f from h2]; exact kKp.rf) ⟨rfl, rfl, Nat.le_of_ble_eq_true rfl, Nat.le_of_ble_eq_true rfl, Nat.le_of_ble_eq_true rfl, Nat.le_of_ble_eq_true rfl⟩ (fun f2 hM => kX9_wire_b3 l G B0 f2 hm m.q m.i0 m.i1 m.i3 m.i7 m.i18 m.i22 m.i23 m.i27 m.j16 m.j17 m.a2 m.a4 m.a5 m.a6 m.b8 m.b9 m.b10 m.a11 m.a12 m.a13 m.a14 m.b15 m.b19 m.b20 m.b21 m.a24 m.a25 m.a26 x1 x2 nc sz hM e22 hn6 e23 hs10 hv hab (by omega)) ⟨rfl, rfl, Nat.le_of_ble_eq_true rfl, Nat.le_of_ble_eq_true rfl, Nat.le_of_ble_eq_true rfl, Nat.le_of_ble_eq_true rfl⟩ ⟨rfl, rfl, rfl, rfl, rfl, rfl, rfl, rfl, rfl, rfl, rfl, rfl, rfl, rfl, rfl, rfl⟩ rfl rfl
    have hmd := fun f2 hM => kX9_wire l G B0 f2 hm m.q m.i0 m.i1 m.i3 m.i7 m.i18 m.i22 m.i23 m.i27 m.j16 m.j17 m.a2 m.a4 m.a5 m.a6 m.b8 m.b9 m.b10 m.a11 m.a12 m.a13 m.a14 m.b15 m.b19 m.b20 m.b21 m.a24 m.a25 m.a26 x1 x2 nc sz hM e22 hn6 e23 hs10 hv hab (by omega)
    obtain ⟨x, hx9, rfl⟩ := mIn_ex (by omega) hv.1
    obtain ⟨y, hy9, rfl⟩ := mIn_ex (by omega) hv.2
    have hxy : ¬ x = y := fun z => hab (by rw [z])
    have hnw : c.nn ≠ wL := fun q => hwL (by rw [← q]; simp)
    obtain ⟨mc, ⟨h0, hl1⟩ | ⟨q, cap, g0, hl1, hl2, h10, h64, h5, h6⟩⟩ := hL
    · subst h0
      have a1 := kR_some.mp hl1
      have hW : kCs f [(h, .inr (8, [.ref c.sp, .ref c.dl, .ref c.gl, .ref c.rw, .ref c.ml, .ref c.pp, .ref c.nn])), (c.nn, .inr (4, [.ref wL, .ref tA, .int (nI nc)])), (wL, .inr (0, [.int mc, .ref (G.2.2 1), .int (nI 0)]))] := kCs_app hH0 (show kCs (kR o 7 f) [(c.nn, .inr (4, [.ref wL, .ref tA, .int (nI nc)])), (wL, .inr (0, [.int mc, .ref (G.2.2 1), .int (nI 0)]))] from ⟨fun x hx => by
        simp only [List.mem_cons, List.not_mem_nil, or_false] at hx
        rcases hx with rfl | rfl
        · exact h1.at 0 rfl
        · exact hl1, by simpa using hnw⟩) (by decide)
      refine opI_ok (m1 := (mMk m.q m.i0 m.i1 m.i3 m.i7 m.i18 m.i22 (nI (0 + 1)) (nI 0) m.j16 m.j17 m.a2 m.a4 m.a5 m.a6 m.b8 m.b9 m.b10 m.a11 m.a12 m.a13 m.a14 m.b15 m.b19 m.b20 m.b21 (upd m.a24 0 (nI x)) (upd m.a25 0 (nI y)) m.a26)) (nI 0).toInt64 (kL_wire_g l G B0 f h po (nI x) (nI y) hI.hd rfl rfl (kX8_wire_0 l G B0 f h c.nn wL tA nc (.ref c.sp) (.ref c.dl) (.ref c.gl) (.ref c.rw) (.ref c.ml) (.ref c.pp) r z MM x y hN hz hn6 hx9 hy9 hxy mc hW) (fun r0 f1 hp => ?_)) (fun f2 hp => ?_) ⟨rfl, rfl, Nat.le_of_ble_eq_true rfl, Nat.le_of_ble_eq_true rfl, Nat.le_of_ble_eq_true rfl, Nat.le_of_ble_eq_true rfl⟩ hmd ⟨rfl, rfl, Nat.le_of_ble_eq_true rfl, Nat.le_of_ble_eq_true rfl, Nat.le_of_ble_eq_true rfl, Nat.le_of_ble_eq_true rfl⟩ (fun f2 v f3 hp => ?_)
      · obtain ⟨t, q, _, _, _, _, hK⟩ := hp
        exact hI.outK hK (fun a ha z9 => by rw [List.mem_singleton.mp ha] at z9; have := a1.1; omega)
      · obtain ⟨r0, f1, g, ⟨t, q, hr, hT, hq, h4, hK⟩, hg, hf⟩ := hp
        refine ⟨f1, g, oN o 7 f, c, ?_, hg, hf.trans (by rw [hr])⟩
        have hqt : q ≠ t := fun z9 => by have := h4.2; simp [z9] at this
        refine hI.step 7 hK (fun a ha => by rw [List.mem_singleton.mp ha]; exact a1.1) ?_ (fun j g hj hP => ?_)
        · refine ⟨wL, tA, nc, 0 + 1, r, z, MM, _, fun j => if j = 0 then x else e1 j, fun j => if j = 0 then y else e2 j, kCs_kp h1 (kR_own hK) (fun a ha => by rw [List.mem_singleton.mp ha]; exact hwL), hwL, hz, hzi, kLst.add_0 (w := w) hl1 hT hq hqt (h4.pick [2, 4] (by decide) ⟨rfl, rfl, trivial⟩), fun j hj => ⟨?_, ?_⟩, hn2, hn6, by omega, e22, rfl, fun j hj => ?_⟩
          · by_cases z9 : j = 0
            · rw [if_pos z9]; exact nwk_new hN hT
            · rw [if_neg z9]; exact (hel j (by omega)).1
          · refine (kLst.more (sz := 0) (w := w) (e := fun j => .inr (7, [.int (nI (e1 j)), .int (nI (e2 j))])) hK (fun j hj => absurd hj (Nat.not_lt_zero _)) hT (h4.at 3 rfl) j hj).trans ?_
            by_cases z9 : j = 0
            · simp only [if_pos z9]
            · simp only [if_neg z9]
          · show upd m.a24 0 (nI x) j = _ ∧ upd m.a25 0 (nI y) j = _ ∧ _
            unfold upd
            by_cases z9 : j = 0
            · simp only [if_pos z9]; exact ⟨trivial, trivial, hx9, hy9⟩
            · simp only [if_neg z9]; exact hx j (by omega)
        · unfold cPt at hP ⊢
          split
          case h_8 => exact absurd rfl hj
          all_goals first | exact hP | trivial
      · exact ⟨by rw [hp.1], (mMk m.q m.i0 m.i1 m.i3 m.i7 m.i18 m.i22 (nI (0 + 1)) (nI 0) m.j16 m.j17 m.a2 m.a4 m.a5 m.a6 m.b8 m.b9 m.b10 m.a11 m.a12 m.a13 m.a14 m.b15 m.b19 m.b20 m.b21 (upd m.a24 0 (nI x)) (upd m.a25 0 (nI y)) m.a26), ⟨rfl, rfl, rfl, rfl, rfl, rfl, rfl, rfl, rfl, rfl, rfl, rfl, rfl, rfl, rfl, rfl⟩, rfl, rfl, hp.2.1, hp.2.2⟩
    · have a1 := (kCs_mem hl1) _ List.mem_cons_self
      have a2 := (kCs_mem hl1) _ (List.mem_cons_of_mem _ List.mem_cons_self)
      have hqm := nwk_q h1 (hl1.at 1 rfl) h10
      have hnq : c.nn ≠ q := fun z9 => hqm (by rw [← z9]; simp)
      have hwq : wL ≠ q := by have := hl1.2; simpa using this
      have hc : sz < cap := by omega
      have hW : kCs f [(h, .inr (8, [.ref c.sp, .ref c.dl, .ref c.gl, .ref c.rw, .ref c.ml, .ref c.pp, .ref c.nn])), (c.nn, .inr (4, [.ref wL, .ref tA, .int (nI nc)])), (wL, .inr (0, [.int mc, .ref q, .int (nI sz)])), (q, kaO G cap g0)] := kCs_app hH0 (show kCs (kR o 7 f) [(c.nn, .inr (4, [.ref wL, .ref tA, .int (nI nc)])), (wL, .inr (0, [.int mc, .ref q, .int (nI sz)])), (q, kaO G cap g0)] from ⟨fun x hx => by
        simp only [List.mem_cons, List.not_mem_nil, or_false] at hx
        rcases hx with rfl | rfl | rfl
        · exact h1.at 0 rfl
        · exact hl1.at 0 rfl
        · exact hl1.at 1 rfl, by simp only [List.map_cons, List.map_nil, List.nodup_cons, List.mem_cons, List.not_mem_nil, or_false, not_or, List.nodup_nil, and_true, not_false_eq_true]; exact ⟨⟨hnw, hnq⟩, hwq⟩⟩) (by decide)
      refine opI_ok (m1 := (mMk m.q m.i0 m.i1 m.i3 m.i7 m.i18 m.i22 (nI (sz + 1)) (nI 0) m.j16 m.j17 m.a2 m.a4 m.a5 m.a6 m.b8 m.b9 m.b10 m.a11 m.a12 m.a13 m.a14 m.b15 m.b19 m.b20 m.b21 (upd m.a24 sz (nI x)) (upd m.a25 sz (nI y)) m.a26)) (nI sz).toInt64 (kL_wire_g l G B0 f h po (nI x) (nI y) hI.hd rfl rfl (kX8_wire_n l G B0 f h c.nn wL tA nc (.ref c.sp) (.ref c.dl) (.ref c.gl) (.ref c.rw) (.ref c.ml) (.ref c.pp) r z MM x y hN hz hn6 hx9 hy9 hxy q mc sz cap g0 hW (by omega) hc (by omega)) (fun r0 f1 hp => ?_)) (fun f2 hp => ?_) ⟨rfl, rfl, Nat.le_of_ble_eq_true rfl, Nat.le_of_ble_eq_true rfl, Nat.le_of_ble_eq_true rfl, Nat.le_of_ble_eq_true rfl⟩ hmd ⟨rfl, rfl, Nat.le_of_ble_eq_true rfl, Nat.le_of_ble_eq_true rfl, Nat.le_of_ble_eq_true rfl, Nat.le_of_ble_eq_true rfl⟩ (fun f2 v f3 hp => ?_)
      · obtain ⟨t, _, _, _, hK⟩ := hp
        refine hI.outK hK (fun a ha z9 => ?_)
        simp only [List.mem_cons, List.not_mem_nil, or_false] at ha
        rcases ha with rfl | rfl
        · have := a1.1; dsimp only at this; omega
        · have := a2.1; dsimp only at this; omega
      · obtain ⟨r0, f1, g, ⟨t, hr, hT, h4, hK⟩, hg, hf⟩ := hp
        refine ⟨f1, g, oN o 7 f, c, ?_, hg, hf.trans (by rw [hr])⟩
        refine hI.step 7 hK (fun a ha => ?_) ?_ (fun j g hj hP => ?_)
        · simp only [List.mem_cons, List.not_mem_nil, or_false] at ha
          rcases ha with rfl | rfl
          · exact a1.1
          · exact a2.1
        · refine ⟨wL, tA, nc, sz + 1, r, z, MM, _, fun j => if j = sz then x else e1 j, fun j => if j = sz then y else e2 j, kCs_kp h1 (kR_own hK) (fun a ha => by simp only [List.mem_cons, List.not_mem_nil, or_false] at ha; rcases ha with rfl | rfl; exact hwL; exact hqm), hwL, hz, hzi, kLst.add_n (e := fun j => .inr (7, [.int (nI (e1 j)), .int (nI (e2 j))])) hl1 hc h10 h64 h5 h6 (fun j hj => (hel j hj).2) hT (h4.pick [2, 3] (by decide) ⟨rfl, rfl, trivial⟩), fun j hj => ⟨?_, ?_⟩, hn2, hn6, by omega, e22, rfl, fun j hj => ?_⟩
          · by_cases z9 : j = sz
            · rw [if_pos z9]; exact nwk_new hN hT
            · rw [if_neg z9]; exact (hel j (by omega)).1
          · refine (kLst.more (e := fun j => .inr (7, [.int (nI (e1 j)), .int (nI (e2 j))])) hK (fun j hj => ⟨(hel j hj).2, fun z => by
              simp only [List.mem_cons, List.not_mem_nil, or_false] at z
              exact z.elim (h5 j hj).2.1 (h5 j hj).2.2⟩) hT (h4.at 4 rfl) j hj).trans ?_
            by_cases z9 : j = sz
            · simp only [if_pos z9]
            · simp only [if_neg z9]
          · show upd m.a24 sz (nI x) j = _ ∧ upd m.a25 sz (nI y) j = _ ∧ _
            unfold upd
            by_cases z9 : j = sz
            · simp only [if_pos z9]; exact ⟨trivial, trivial, hx9, hy9⟩
            · simp only [if_neg z9]; exact hx j (by omega)
        · unfold cPt at hP ⊢
          split
          case h_8 => exact absurd rfl hj
          all_goals first | exact hP | trivial
      · exact ⟨by rw [hp.1], (mMk m.q m.i0 m.i1 m.i3 m.i7 m.i18 m.i22 (nI (sz + 1)) (nI 0) m.j16 m.j17 m.a2 m.a4 m.a5 m.a6 m.b8 m.b9 m.b10 m.a11 m.a12 m.a13 m.a14 m.b15 m.b19 m.b20 m.b21 (upd m.a24 sz (nI x)) (upd m.a25 sz (nI y)) m.a26), ⟨rfl, rfl, rfl, rfl, rfl, rfl, rfl, rfl, rfl, rfl, rfl, rfl, rfl, rfl, rfl, rfl⟩, rfl, rfl, hp.2.1, hp.2.2⟩
  · exact opI_thr (m2 := (mMk m.q m.i0 m.i1 m.i3 m.i7 m.i18 m.i22 m.i23 (nI 1) m.j16 m.j17 m.a2 m.a4 m.a5 m.a6 m.b8 m.b9 m.b10 m.a11 m.a12 m.a13 m.a14 m.b15 m.b19 m.b20 m.b21 m.a24 m.a25 m.a26)) hI 1 (by omega) (kL_wire_o l G B0 f h po x1 x2 hI.hd rfl rfl (kX8_wire_b1 l hst G B0 f h c.nn wL tA nc (.ref c.sp) (.ref c.dl) (.ref c.gl) (.ref c.rw) (.ref c.ml) (.ref c.pp) r z MM sz w e1 e2 x1 x2 hH hN hz hwl hn6 hn1 hs10 he hh9 hv)) (fun f2 h2 => by rw [show f2 = f from h2]; exact kKp.rf) ⟨rfl, rfl, Nat.le_of_ble_eq_true rfl, Nat.le_of_ble_eq_true rfl, Nat.le_of_ble_eq_true rfl, Nat.le_of_ble_eq_true rfl⟩ (fun f2 hM => kX9_wire_b1 l G B0 f2 hm m.q m.i0 m.i1 m.i3 m.i7 m.i18 m.i22 m.i23 m.i27 m.j16 m.j17 m.a2 m.a4 m.a5 m.a6 m.b8 m.b9 m.b10 m.a11 m.a12 m.a13 m.a14 m.b15 m.b19 m.b20 m.b21 m.a24 m.a25 m.a26 x1 x2 nc sz hM e22 hn6 e23 hs10 hv) ⟨rfl, rfl, Nat.le_of_ble_eq_true rfl, Nat.le_of_ble_eq_true rfl, Nat.le_of_ble_eq_true rfl, Nat.le_of_ble_eq_true rfl⟩ ⟨rfl, rfl, rfl, rfl, rfl, rfl, rfl, rfl, rfl, rfl, rfl, rfl, rfl, rfl, rfl, rfl⟩ rfl rfl
