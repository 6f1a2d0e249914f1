/-! the network: what its table and its wires stand on; nodes, wire, trees, treesAnew, side -/
theorem nwk_kind {G : kG} {g : kH} {nn wL tA nc : Nat} {r z : Nat → Nat} {M : Nat → Nat → Int64} (h : kCs g (mxW G nn wL tA nc r z M)) : ∀ a ∈ mxAs nn tA r, (∃ l, g a = some (.inr (4, l))) ∨ ∃ c x, g a = some (.inl (c, 5, x)) := fun a ha => by
  simp only [mxAs, List.mem_cons, List.not_mem_nil, or_false] at ha
  rcases ha with rfl | rfl | rfl | rfl | rfl | rfl | rfl
  · exact .inl ⟨_, h.at 0 rfl⟩
  · exact .inr ⟨_, _, h.at 1 rfl⟩
  · exact .inr ⟨_, _, h.at 2 rfl⟩
  · exact .inr ⟨_, _, h.at 3 rfl⟩
  · exact .inr ⟨_, _, h.at 4 rfl⟩
  · exact .inr ⟨_, _, h.at 5 rfl⟩
  · exact .inr ⟨_, _, h.at 6 rfl⟩
theorem nwk_q {G : kG} {g : kH} {nn wL tA nc : Nat} {r z : Nat → Nat} {M : Nat → Nat → Int64} (h : kCs g (mxW G nn wL tA nc r z M)) {q cap : Nat} {g0 : Nat → Option Nat} (hq : g q = some (kaO G cap g0)) (hc : 10 ≤ cap) : q ∉ mxAs nn tA r := fun ha => by
  rcases nwk_kind h q ha with ⟨l, e⟩ | ⟨c, x, e⟩
  · rw [hq] at e; exact nomatch e
  · rw [hq] at e
    have := congrArg (fun v : Option va_E => match v with | some (.inl (_, n, _)) => n | _ => 0) e
    dsimp only at this
    omega
theorem nwk_own {o : Nat → Nat} {k : Nat} {f : kH} {G : kG} {nn wL tA nc : Nat} {r z : Nat → Nat} {M : Nat → Nat → Int64} (h : kCs (kR o k f) (mxW G nn wL tA nc r z M)) : ∀ a ∈ mxAs nn tA r, o a = k := fun a ha => by
  have : a ∈ (mxW G nn wL tA nc r z M).map Prod.fst := by simpa [mxW, mxAs] using ha
  obtain ⟨q, hq, rfl⟩ := List.mem_map.mp this
  exact (kCs_mem h q hq).1
theorem nwk_wl {G : kG} {f : kH} {nn wL tA nc sz : Nat} {r z w e1 e2 : Nat → Nat} {M : Nat → Nat → Int64} (h : kCs f (mxW G nn wL tA nc r z M)) (hwL : wL ∉ mxAs nn tA r) (hL : kLst G f wL sz w) (hel : ∀ k, k < sz → w k ∉ mxAs nn tA r ∧ f (w k) = some (.inr (7, [.int (nI (e1 k)), .int (nI (e2 k))]))) : kWl G f (mxAs nn tA r) wL sz w e1 e2 := by
  obtain ⟨mc, ⟨h0, h1⟩ | ⟨q, cap, g0, h1, h2, h10, h64, h5, h6⟩⟩ := hL
  · subst h0
    exact ⟨mc, _, ⟨hwL, h1⟩, fun k hk => absurd hk (Nat.not_lt_zero _), hel⟩
  · refine ⟨mc, _, ⟨hwL, h1.at 0 rfl⟩, fun k hk => ⟨q, cap, g0, rfl, nwk_q h (h1.at 1 rfl) h10, ?_, h1.at 1 rfl, h2, by omega, (h5 k hk).1⟩, hel⟩
    have := h1.2
    simp only [List.map_cons, List.map_nil, List.nodup_cons, List.mem_singleton] at this
    exact fun z => this.1 z.symm
/-- the table is another, the wires are the same -/
theorem nwk_tab {G : kG} {o : Nat → Nat} {f f1 : kH} {nn wL tA nc sz : Nat} {r z z1 w e1 e2 : Nat → Nat} {M M1 : Nat → Nat → Int64} (h : kCs (kR o 7 f) (mxW G nn wL tA nc r z M)) (hwL : wL ∉ mxAs nn tA r) (hL : kLst G (kR o 7 f) wL sz w) (hel : ∀ k, k < sz → w k ∉ mxAs nn tA r ∧ kR o 7 f (w k) = some (.inr (7, [.int (nI (e1 k)), .int (nI (e2 k))]))) (h1 : kCs f1 (mxW G nn wL tA nc r z1 M1)) (hK : kKp (mxAs nn tA r) f f1) :
    kCs (kR (oN o 7 f) 7 f1) (mxW G nn wL tA nc r z1 M1) ∧ kLst G (kR (oN o 7 f) 7 f1) wL sz w ∧ ∀ k, k < sz → w k ∉ mxAs nn tA r ∧ kR (oN o 7 f) 7 f1 (w k) = some (.inr (7, [.int (nI (e1 k)), .int (nI (e2 k))])) := by
  have ho := nwk_own h
  refine ⟨kCs_own h1 (fun q hq => .inl (ho _ ?_)), ?_, fun k hk => ⟨(hel k hk).1, kR_own hK _ _ (hel k hk).1 (hel k hk).2⟩⟩
  · have : q.1 ∈ (mxW G nn wL tA nc r z1 M1).map Prod.fst := List.mem_map.mpr ⟨q, hq, rfl⟩
    simpa [mxW, mxAs] using this
  · obtain ⟨mc, ⟨h0, h2⟩ | ⟨q, cap, g0, h2, h3, h10, h64, h5, h6⟩⟩ := hL
    · exact ⟨mc, .inl ⟨h0, kR_own hK _ _ hwL h2⟩⟩
    · refine ⟨mc, .inr ⟨q, cap, g0, ⟨fun x hx => ?_, h2.2⟩, h3, h10, h64, h5, h6⟩⟩
      simp only [List.mem_cons, List.not_mem_nil, or_false] at hx
      rcases hx with rfl | rfl
      · exact kR_own hK _ _ hwL (h2.at 0 rfl)
      · exact kR_own hK _ _ (nwk_q h (h2.at 1 rfl) h10) (h2.at 1 rfl)
theorem toI32n {x : Int64} {n : Nat} (h : x.toInt = n) : x.toInt32 = nI n := by
  refine Int32.toInt_inj.mp ?_
  rw [Int64.toInt_toInt32, h]
  show _ = (Int32.ofNat n).toInt
  rw [Int32.toInt_ofNat']
theorem Inv2.tab {G : kG} {h hm po pd : Nat} {f f1 : kH} {o : Nat → Nat} {c : cSt} {m mM : mSt} (hI : Inv2 G h hm po pd f o c m mM) {wL tA nc sz : Nat} {r z z1 w e1 e2 : Nat → Nat} {M M1 : Nat → Nat → Int64} (h1 : kCs (kR o 7 f) (mxW G c.nn wL tA nc r z M)) (hwL : wL ∉ mxAs c.nn tA r) (hL : kLst G (kR o 7 f) wL sz w) (hel : ∀ k, k < sz → w k ∉ mxAs c.nn tA r ∧ kR o 7 f (w k) = some (.inr (7, [.int (nI (e1 k)), .int (nI (e2 k))])))
    (hn : 2 ≤ nc ∧ nc ≤ 6 ∧ sz ≤ 10 ∧ m.i22 = nI nc ∧ m.i23 = nI sz ∧ ∀ k, k < sz → m.a24 k = nI (e1 k) ∧ m.a25 k = nI (e2 k) ∧ e1 k < nc ∧ e2 k < nc) (hz : mxZ z1) (hzi : zInj 5 z1) (h2 : kCs f1 (mxW G c.nn wL tA nc r z1 M1)) (hO : kOff (mxAs c.nn tA r) f f1) : Inv2 G h hm po pd f1 (oN o 7 f) c m mM := by
  obtain ⟨a1, a2, a3⟩ := nwk_tab h1 hwL hL hel h2 (kKp.of hO)
  exact hI.step 7 (kKp.of hO) (nwk_own h1) ⟨wL, tA, nc, sz, r, z1, M1, w, e1, e2, a1, hwL, hz, hzi, a2, a3, hn⟩ (fun _ _ _ h => h)
theorem mxH_inj {z e1 e2 : Nat → Nat} {nc sz : Nat} {M : Nat → Nat → Int64} {a b t : Nat} (hz : zInj 5 z) (hn : nc ≤ 6) : zInj 5 (mxH z e1 e2 nc sz M a b t).2.1 := by
  unfold mxH
  split
  · exact hz
  · exact mxD_inj (nc - 1) (by omega) _ _ _ _ _ _ (by omega) hz
theorem trees_m {nc sz : Nat} {z e1 e2 : Nat → Nat} {M : Nat → Nat → Int64} (hn : 2 ≤ nc ∧ nc ≤ 6) (hz : zInj 5 z) (hs : sz ≤ 10) (he : ∀ k : Nat, k < sz → e1 k < nc ∧ e2 k < nc) : (mxDet (nc - 1) z (mxFill z e1 e2 nc sz 0 M)).1.toInt = (mTrees e1 e2 nc sz : Int) := by
  obtain ⟨n, rfl⟩ : ∃ n, nc = n + 1 := ⟨nc - 1, by omega⟩
  exact class_trees (by omega) hz he hs
theorem height_m {nc sz : Nat} {z e1 e2 : Nat → Nat} {M : Nat → Nat → Int64} (hn : 2 ≤ nc ∧ nc ≤ 6) (hz : zInj 5 z) (hs : sz ≤ 10) (he : ∀ k : Nat, k < sz → e1 k < nc ∧ e2 k < nc) {a b t : Nat} (ha : a < nc) (hb : b < nc) (ht : t < nc) (hbt : b ≠ t) : (mxH z e1 e2 nc sz M a b t).1.toInt = (mHeight e1 e2 nc sz b t a : Int) := by
  obtain ⟨n, rfl⟩ : ∃ n, nc = n + 1 := ⟨nc - 1, by omega⟩
  exact class_height (by omega) hz he hs ha hb ht hbt
theorem opI_k {l : Launch} {G : kG} {B0 h hm po pd : Nat} {f : kH} {yL : MethodName} {wsL : List Cond} {avL : List Value} {yM : MethodName} {wsM : List Cond} {avM : List Value} {m m1 : mSt} (k : Nat) (hk : 0 < k ∧ k < 4) {Θ : kH → Prop} {Ψ : kH → Int32 → kH → Prop} {rm rm2 : Room} {mc ms mc2 ms2 : Nat}
    (hcl : vx_Met l yL wsL rm (kP G B0 f avL) (kQi G B0 (fun r f2 => r = nI k ∧ Θ f2)) (kXN G B0) mc ms (kAb B0)) (hΘ : ∀ f2, Θ f2 → ∃ o1 c1, Inv2 G h hm po pd f2 o1 c1 m1 m) (hb : rmOk rm mc ms)
    (hmd : ∀ f2, kCs f2 (mCs G hm m) → Met l yM wsM rm2 (kP G B0 f2 avM) (kQi G B0 (Ψ f2)) mc2 ms2 (kAb B0)) (hb2 : rmOk rm2 mc2 ms2)
    (hΨ : ∀ f2 r f3, Ψ f2 r f3 → ∃ m2 : mSt, mAlike m1 m2 ∧ m2.q = m.q ∧ m2.i27 = nI k ∧ kCs f3 (mCs G hm m2) ∧ kOff (mAs hm m.q) f2 f3) : opI l G B0 h hm po pd f yL wsL avL yM wsM avM := by
  refine ⟨k, rm, mc, ms, Θ, hk.2, hb, hcl, fun f2 h2 => ?_⟩
  obtain ⟨o1, c1, hI2⟩ := hΘ f2 h2
  refine ⟨rm2, mc2, ms2, _, hb2, hmd _ hI2.mC, ⟨m, hI2.mC⟩, fun r f3 h3 => ?_⟩
  obtain ⟨m2, hsm, hq, h27, h4, h5⟩ := hΨ _ _ _ h3
  exact ⟨m2, ⟨_, _, (hI2.ref hq h4 h5).sm hsm⟩, h27, fun q => absurd q (by omega)⟩
theorem op_treesAnew {l : Launch} {G : kG} {B0 h hm po pd : Nat} {f : kH} {o : Nat → Nat} {c : cSt} {m : mSt} (hI : Inv2 G h hm po pd f o c m m) : opD l G B0 h hm po pd f yX8_treesAnew wsX8_treesAnew yX9_treesAnew wsX9_treesAnew := by
  have hK7 : cNwk G (kR o 7 f) c m := hI 7
  obtain ⟨wL, tA, nc, sz, r, z, MM, w, e1, e2, h1, hwL, hz, hzi, hL, hel, hn2, hn6, hs10, e22, e23, hx⟩ := hK7
  have hH0 : kCs (kR o 0 f) (cHd h c) := hI 0
  have hH : kCs f (cHd h c) := hH0.le (kR_le _ _ _)
  have hN : kCs f (mxW G c.nn wL tA nc r z MM) := h1.le (kR_le _ _ _)
  have hwl : kWl G f (mxAs c.nn tA r) wL sz w e1 e2 := nwk_wl hN hwL (hL.le (kR_le _ _ _)) (fun k hk => ⟨(hel k hk).1, (kR_some.mp (hel k hk).2).2⟩)
  have he : ∀ k : Nat, k < sz → e1 k < nc ∧ e2 k < nc := fun k hk => (hx k hk).2.2
  have h7 := nwk_own h1
  have hh9 : h ∉ mxAs c.nn tA r := fun q => by have a := h7 _ q; have b := (kCs_mem hH0 _ List.mem_cons_self).1; dsimp only at b; omega
  have hn1 : 1 ≤ nc := by omega
  refine opD_ok (m1 := m) (nI (mTrees e1 e2 nc sz)) (kX8_treesAnew l G B0 f h c.nn wL tA nc (.ref c.sp) (.ref c.dl) (.ref c.gl) (.ref c.rw) (.ref c.ml) (.ref c.pp) r z MM sz w e1 e2 hH hN hz hwl hn6 hn1 hs10 he hh9) (fun v f2 hp => ⟨by rw [hp.1, class_sets (by omega) hn6 hs10 he], o, c, by rw [hp.2]; exact hI⟩) ⟨rfl, rfl, Nat.le_of_ble_eq_true rfl, Nat.le_of_ble_eq_true rfl, Nat.le_of_ble_eq_true rfl, Nat.le_of_ble_eq_true rfl⟩ (fun f2 hM => kX9_treesAnew l G B0 f2 hm m.q m.i0 m.i1 m.i3 m.i7 m.i18 m.i22 m.i23 m.i27 m.j16 m.j17 m.a2 m.a4 m.a5 m.a6 m.b8 m.b9 m.b10 m.a11 m.a12 m.a13 m.a14 m.b15 m.b19 m.b20 m.b21 m.a24 m.a25 m.a26 e1 e2 nc sz hM e22 hn6 e23 hs10 (fun k hk => ⟨(hx k hk).1, (hx k hk).2.2.1⟩) (fun k hk => ⟨(hx k hk).2.1, (hx k hk).2.2.2⟩)) ⟨rfl, rfl, Nat.le_of_ble_eq_true rfl, Nat.le_of_ble_eq_true rfl, Nat.le_of_ble_eq_true rfl, Nat.le_of_ble_eq_true rfl⟩ (fun f2 v f3 hp => ?_)
  obtain ⟨hr, F1, h4, h5⟩ := hp
  exact ⟨hr, (mMk m.q m.i0 m.i1 m.i3 m.i7 m.i18 m.i22 m.i23 (nI 0) m.j16 m.j17 m.a2 m.a4 m.a5 m.a6 m.b8 m.b9 m.b10 m.a11 m.a12 m.a13 m.a14 m.b15 m.b19 m.b20 m.b21 m.a24 m.a25 (F1)), ⟨rfl, rfl, rfl, rfl, rfl, rfl, rfl, rfl, rfl, rfl, rfl, rfl, rfl, rfl, rfl, rfl⟩, rfl, h4, h5⟩
theorem op_trees {l : Launch} {G : kG} {B0 h hm po pd : Nat} {f : kH} {o : Nat → Nat} {c : cSt} {m : mSt} (hI : Inv2 G h hm po pd f o c m m) : opD l G B0 h hm po pd f yX8_trees wsX8_trees yX9_trees wsX9_trees := by
  have hK7 : cNwk G (kR o 7 f) c m := hI 7
  obtain ⟨wL, tA, nc, sz, r, z, MM, w, e1, e2, h1, hwL, hz, hzi, hL, hel, hn2, hn6, hs10, e22, e23, hx⟩ := hK7
  have hH0 : kCs (kR o 0 f) (cHd h c) := hI 0
  have hH : kCs f (cHd h c) := hH0.le (kR_le _ _ _)
  have hN : kCs f (mxW G c.nn wL tA nc r z MM) := h1.le (kR_le _ _ _)
  have hwl : kWl G f (mxAs c.nn tA r) wL sz w e1 e2 := nwk_wl hN hwL (hL.le (kR_le _ _ _)) (fun k hk => ⟨(hel k hk).1, (kR_some.mp (hel k hk).2).2⟩)
  have he : ∀ k : Nat, k < sz → e1 k < nc ∧ e2 k < nc := fun k hk => (hx k hk).2.2
  have h7 := nwk_own h1
  have hh9 : h ∉ mxAs c.nn tA r := fun q => by have a := h7 _ q; have b := (kCs_mem hH0 _ List.mem_cons_self).1; dsimp only at b; omega
  have hn1 : 1 ≤ nc := by omega
  refine opD_ok (m1 := m) (nI (mTrees e1 e2 nc sz)) (kX8_trees l G B0 f h c.nn wL tA nc (.ref c.sp) (.ref c.dl) (.ref c.gl) (.ref c.rw) (.ref c.ml) (.ref c.pp) r z MM sz w e1 e2 hH hN hz hwl hn6 hn1 hs10 he hh9) (fun v f2 hp => ⟨by rw [hp.1]; exact toI32n (trees_m ⟨hn2, hn6⟩ hzi hs10 he), _, c, hI.tab h1 hwL hL hel ⟨hn2, hn6, hs10, e22, e23, hx⟩ (mxD_z (nc - 1) (by omega) _ _ _ _ _ _ (by omega) hz) (mxD_inj (nc - 1) (by omega) _ _ _ _ _ _ (by omega) hzi) hp.2.1 hp.2.2⟩) ⟨rfl, rfl, Nat.le_of_ble_eq_true rfl, Nat.le_of_ble_eq_true rfl, Nat.le_of_ble_eq_true rfl, Nat.le_of_ble_eq_true rfl⟩ (fun f2 hM => kX9_trees l G B0 f2 hm m.q m.i0 m.i1 m.i3 m.i7 m.i18 m.i22 m.i23 m.i27 m.j16 m.j17 m.a2 m.a4 m.a5 m.a6 m.b8 m.b9 m.b10 m.a11 m.a12 m.a13 m.a14 m.b15 m.b19 m.b20 m.b21 m.a24 m.a25 m.a26 e1 e2 nc sz hM e22 hn6 e23 hs10 (fun k hk => ⟨(hx k hk).1, (hx k hk).2.2.1⟩) (fun k hk => ⟨(hx k hk).2.1, (hx k hk).2.2.2⟩)) ⟨rfl, rfl, Nat.le_of_ble_eq_true rfl, Nat.le_of_ble_eq_true rfl, Nat.le_of_ble_eq_true rfl, Nat.le_of_ble_eq_true rfl⟩ (fun f2 v f3 hp => ?_)
  obtain ⟨hr, F1, h4, h5⟩ := hp
  exact ⟨hr, (mMk m.q m.i0 m.i1 m.i3 m.i7 m.i18 m.i22 m.i23 (nI 0) m.j16 m.j17 m.a2 m.a4 m.a5 m.a6 m.b8 m.b9 m.b10 m.a11 m.a12 m.a13 m.a14 m.b15 m.b19 m.b20 m.b21 m.a24 m.a25 (F1)), ⟨rfl, rfl, rfl, rfl, rfl, rfl, rfl, rfl, rfl, rfl, rfl, rfl, rfl, rfl, rfl, rfl⟩, rfl, h4, h5⟩
theorem op_side {l : Launch} (hst : l.stackTraces = false) {G : kG} {B0 h hm po pd : Nat} {f : kH} {o : Nat → Nat} {c : cSt} {m : mSt} (hI : Inv2 G h hm po pd f o c m m) (x1 x2 x3 : Int32) : opI l G B0 h hm po pd f yL_side wsL_side [.ref h, .int x1, .int x2, .int x3, .ref po] yX9_side wsX9_side [.ref hm, .int x1, .int x2, .int x3] := by
  have hK7 : cNwk G (kR o 7 f) c m := hI 7
  obtain ⟨wL, tA, nc, sz, r, z, MM, w, e1, e2, h1, hwL, hz, hzi, hL, hel, hn2, hn6, hs10, e22, e23, hx⟩ := hK7
  have hH0 : kCs (kR o 0 f) (cHd h c) := hI 0
  have hH : kCs f (cHd h c) := hH0.le (kR_le _ _ _)
  have hN : kCs f (mxW G c.nn wL tA nc r z MM) := h1.le (kR_le _ _ _)
  have hwl : kWl G f (mxAs c.nn tA r) wL sz w e1 e2 := nwk_wl hN hwL (hL.le (kR_le _ _ _)) (fun k hk => ⟨(hel k hk).1, (kR_some.mp (hel k hk).2).2⟩)
  have he : ∀ k : Nat, k < sz → e1 k < nc ∧ e2 k < nc := fun k hk => (hx k hk).2.2
  have h7 := nwk_own h1
  have hh9 : h ∉ mxAs c.nn tA r := fun q => by have a := h7 _ q; have b := (kCs_mem hH0 _ List.mem_cons_self).1; dsimp only at b; omega
  have hn1 : 1 ≤ nc := by omega
  have hT := trees_m (M := MM) ⟨hn2, hn6⟩ hzi hs10 he
  have hZ1 : mxZ (mxDet (nc - 1) z (mxFill z e1 e2 nc sz 0 MM)).2.1 := (mxD_z (nc - 1) (by omega) _ _ _ _ _ _ (by omega) hz)
  have hI1 : zInj 5 (mxDet (nc - 1) z (mxFill z e1 e2 nc sz 0 MM)).2.1 := (mxD_inj (nc - 1) (by omega) _ _ _ _ _ _ (by omega) hzi)
  by_cases hv : mIn x1 nc ∧ mIn x2 nc ∧ (x3 = -1 ∨ mIn x3 sz)
  · by_cases hab : x1 = x2
    · exact opI_thr (m2 := (mMk m.q m.i0 m.i1 m.i3 m.i7 m.i18 m.i22 m.i23 (nI 2) m.j16 m.j17 m.a2 m.a4 m.a5 m.a6 m.b8 m.b9 m.b10 m.a11 m.a12 m.a13 m.a14 m.b15 m.b19 m.b20 m.b21 m.a24 m.a25 m.a26)) hI 2 (by omega) (kL_side_a l G B0 f h po x1 x2 x3 hI.hd rfl rfl (kX8_side_b2 l hst G B0 f h c.nn wL tA nc (.ref c.sp) (.ref c.dl) (.ref c.gl) (.ref c.rw) (.ref c.ml) (.ref c.pp) r z MM sz w e1 e2 x1 x2 x3 hH hN hz hwl hn6 hn1 hs10 he hh9 hv hab)) (fun f2 h2 => by rw [show f2 = f from h2]; exact kKp.rf) ⟨rfl, rfl, Nat.le_of_ble_eq_true rfl, Nat.le_of_ble_eq_true rfl, Nat.le_of_ble_eq_true rfl, Nat.le_of_ble_eq_true rfl⟩ (fun f2 hM => kX9_side_b2 l G B0 f2 hm m.q m.i0 m.i1 m.i3 m.i7 m.i18 m.i22 m.i23 m.i27 m.j16 m.j17 m.a2 m.a4 m.a5 m.a6 m.b8 m.b9 m.b10 m.a11 m.a12 m.a13 m.a14 m.b15 m.b19 m.b20 m.b21 m.a24 m.a25 m.a26 e1 e2 nc sz x1 x2 x3 hM e22 hn6 e23 hs10 (fun k hk => ⟨(hx k hk).1, (hx k hk).2.2.1⟩) (fun k hk => ⟨(hx k hk).2.1, (hx k hk).2.2.2⟩) hv hab) ⟨rfl, rfl, Nat.le_of_ble_eq_true rfl, Nat.le_of_ble_eq_true rfl, Nat.le_of_ble_eq_true rfl, Nat.le_of_ble_eq_true rfl⟩ ⟨rfl, rfl, rfl, rfl, rfl, rfl, rfl, rfl, rfl, rfl, rfl, rfl, rfl, rfl, rfl, rfl⟩ rfl rfl
    obtain ⟨x, hx9, rfl⟩ := mIn_ex (by omega) hv.1
    obtain ⟨y, hy9, rfl⟩ := mIn_ex (by omega) hv.2.1
    have hxy : ¬ x = y := fun z => hab (by rw [z])
    by_cases hne : (mxDet (nc - 1) z (mxFill z e1 e2 nc sz 0 MM)).1 = 0
    · have hT0 : mTrees e1 e2 nc sz = 0 := by rw [hne] at hT; have : (0 : Int64).toInt = 0 := rfl; omega
      refine opI_k (m1 := m) 3 (by omega) (kL_side_s l G B0 f h po (nI x) (nI y) x3 hI.hd rfl rfl (kX8_side_b3 l hst G B0 f h c.nn wL tA nc (.ref c.sp) (.ref c.dl) (.ref c.gl) (.ref c.rw) (.ref c.ml) (.ref c.pp) r z MM sz w e1 e2 (nI x) (nI y) x3 hH hN hz hwl hn6 hn1 hs10 he hh9 hv hab hne)) (fun f2 hp => ⟨_, c, hI.tab h1 hwL hL hel ⟨hn2, hn6, hs10, e22, e23, hx⟩ hZ1 hI1 hp.1 hp.2⟩) ⟨rfl, rfl, Nat.le_of_ble_eq_true rfl, Nat.le_of_ble_eq_true rfl, Nat.le_of_ble_eq_true rfl, Nat.le_of_ble_eq_true rfl⟩ (fun f2 hM => kX9_side_b3 l G B0 f2 hm m.q m.i0 m.i1 m.i3 m.i7 m.i18 m.i22 m.i23 m.i27 m.j16 m.j17 m.a2 m.a4 m.a5 m.a6 m.b8 m.b9 m.b10 m.a11 m.a12 m.a13 m.a14 m.b15 m.b19 m.b20 m.b21 m.a24 m.a25 m.a26 e1 e2 nc sz x y x3 hM e22 hn6 e23 hs10 (fun k hk => ⟨(hx k hk).1, (hx k hk).2.2.1⟩) (fun k hk => ⟨(hx k hk).2.1, (hx k hk).2.2.2⟩) hx9 hy9 hxy hv.2.2 hT0) ⟨rfl, rfl, Nat.le_of_ble_eq_true rfl, Nat.le_of_ble_eq_true rfl, Nat.le_of_ble_eq_true rfl, Nat.le_of_ble_eq_true rfl⟩ (fun f2 v f3 hp => ?_)
      obtain ⟨hr, F1, h4, h5⟩ := hp
      exact ⟨(mMk m.q m.i0 m.i1 m.i3 m.i7 m.i18 m.i22 m.i23 (nI 3) m.j16 m.j17 m.a2 m.a4 m.a5 m.a6 m.b8 m.b9 m.b10 m.a11 m.a12 m.a13 m.a14 m.b15 m.b19 m.b20 m.b21 m.a24 m.a25 (F1)), ⟨rfl, rfl, rfl, rfl, rfl, rfl, rfl, rfl, rfl, rfl, rfl, rfl, rfl, rfl, rfl, rfl⟩, rfl, rfl, h4, h5⟩
    · have hT0 : ¬ mTrees e1 e2 nc sz = 0 := fun q => hne (z_0.mp (by rw [hT, q]; rfl))
      by_cases hm1 : x3 = -1
      · subst hm1
        have hr9 := toI32n (height_m (M := (mxDet (nc - 1) z (mxFill z e1 e2 nc sz 0 MM)).2.2) ⟨hn2, hn6⟩ hI1 hs10 he hx9 hx9 hy9 hxy)
        refine opI_ok (m1 := m) (nI (mHeight e1 e2 nc sz x y x)).toInt64 (kL_side_g l G B0 f h po (nI x) (nI y) (-1) hI.hd rfl rfl (kX8_side_h l G B0 f h c.nn wL tA nc (.ref c.sp) (.ref c.dl) (.ref c.gl) (.ref c.rw) (.ref c.ml) (.ref c.pp) r z MM sz w e1 e2 x y hH hN hz hwl hn6 hn1 hs10 he hh9 hx9 hy9 hxy hne) (fun r0 f1 hp => ?_)) (fun f2 hp => ?_) ⟨rfl, rfl, Nat.le_of_ble_eq_true rfl, Nat.le_of_ble_eq_true rfl, Nat.le_of_ble_eq_true rfl, Nat.le_of_ble_eq_true rfl⟩ (fun f2 hM => kX9_side_n l G B0 f2 hm m.q m.i0 m.i1 m.i3 m.i7 m.i18 m.i22 m.i23 m.i27 m.j16 m.j17 m.a2 m.a4 m.a5 m.a6 m.b8 m.b9 m.b10 m.a11 m.a12 m.a13 m.a14 m.b15 m.b19 m.b20 m.b21 m.a24 m.a25 m.a26 e1 e2 nc sz x y (-1) hM e22 hn6 e23 hs10 (fun k hk => ⟨(hx k hk).1, (hx k hk).2.2.1⟩) (fun k hk => ⟨(hx k hk).2.1, (hx k hk).2.2.2⟩) hx9 hy9 hxy hv.2.2 hT0 rfl) ⟨rfl, rfl, Nat.le_of_ble_eq_true rfl, Nat.le_of_ble_eq_true rfl, Nat.le_of_ble_eq_true rfl, Nat.le_of_ble_eq_true rfl⟩ (fun f2 v f3 hp => ?_)
        · exact hI.outK (kKp.of hp.2.2) (fun a ha q => by have := h7 a ha; omega)
        · obtain ⟨r0, f1, g, ⟨hr, h4, hO⟩, hg, hf⟩ := hp
          exact ⟨f1, g, _, c, hI.tab h1 hwL hL hel ⟨hn2, hn6, hs10, e22, e23, hx⟩ (mxH_z hZ1 hn6) (mxH_inj hI1 hn6) h4 hO, hg, hf.trans (by rw [hr, hr9])⟩
        · obtain ⟨hr, F1, h4, h5⟩ := hp
          exact ⟨by rw [hr], (mMk m.q m.i0 m.i1 m.i3 m.i7 m.i18 m.i22 m.i23 (nI 0) m.j16 m.j17 m.a2 m.a4 m.a5 m.a6 m.b8 m.b9 m.b10 m.a11 m.a12 m.a13 m.a14 m.b15 m.b19 m.b20 m.b21 m.a24 m.a25 (F1)), ⟨rfl, rfl, rfl, rfl, rfl, rfl, rfl, rfl, rfl, rfl, rfl, rfl, rfl, rfl, rfl, rfl⟩, rfl, rfl, h4, h5⟩
      · obtain ⟨k, hk9, rfl⟩ := mIn_ex (by omega) (hv.2.2.resolve_left hm1)
        have hr1 := toI32n (height_m (M := (mxDet (nc - 1) z (mxFill z e1 e2 nc sz 0 MM)).2.2) ⟨hn2, hn6⟩ hI1 hs10 he (he k hk9).1 hx9 hy9 hxy)
        have hr2 := toI32n (height_m (z := (mxH ((mxDet (nc - 1) z (mxFill z e1 e2 nc sz 0 MM)).2.1) e1 e2 nc sz ((mxDet (nc - 1) z (mxFill z e1 e2 nc sz 0 MM)).2.2) (e1 k) x y).2.1) (M := (mxH ((mxDet (nc - 1) z (mxFill z e1 e2 nc sz 0 MM)).2.1) e1 e2 nc sz ((mxDet (nc - 1) z (mxFill z e1 e2 nc sz 0 MM)).2.2) (e1 k) x y).2.2) ⟨hn2, hn6⟩ (mxH_inj hI1 hn6) hs10 he (he k hk9).2 hx9 hy9 hxy)
        refine opI_ok (m1 := m) (nI (mHeight e1 e2 nc sz x y (e1 k)) - nI (mHeight e1 e2 nc sz x y (e2 k))).toInt64 (kL_side_g l G B0 f h po (nI x) (nI y) (nI k) hI.hd rfl rfl (kX8_side_f l G B0 f h c.nn wL tA nc (.ref c.sp) (.ref c.dl) (.ref c.gl) (.ref c.rw) (.ref c.ml) (.ref c.pp) r z MM sz w e1 e2 x y k hH hN hz hwl hn6 hn1 hs10 he hh9 hx9 hy9 hxy hne hk9) (fun r0 f1 hp => ?_)) (fun f2 hp => ?_) ⟨rfl, rfl, Nat.le_of_ble_eq_true rfl, Nat.le_of_ble_eq_true rfl, Nat.le_of_ble_eq_true rfl, Nat.le_of_ble_eq_true rfl⟩ (fun f2 hM => kX9_side_w l G B0 f2 hm m.q m.i0 m.i1 m.i3 m.i7 m.i18 m.i22 m.i23 m.i27 m.j16 m.j17 m.a2 m.a4 m.a5 m.a6 m.b8 m.b9 m.b10 m.a11 m.a12 m.a13 m.a14 m.b15 m.b19 m.b20 m.b21 m.a24 m.a25 m.a26 e1 e2 nc sz x y k hM e22 hn6 e23 hs10 (fun k hk => ⟨(hx k hk).1, (hx k hk).2.2.1⟩) (fun k hk => ⟨(hx k hk).2.1, (hx k hk).2.2.2⟩) hx9 hy9 hxy hk9 hv.2.2 hT0 hm1) ⟨rfl, rfl, Nat.le_of_ble_eq_true rfl, Nat.le_of_ble_eq_true rfl, Nat.le_of_ble_eq_true rfl, Nat.le_of_ble_eq_true rfl⟩ (fun f2 v f3 hp => ?_)
        · exact hI.outK (kKp.of hp.2.2) (fun a ha q => by have := h7 a ha; omega)
        · obtain ⟨r0, f1, g, ⟨hr, h4, hO⟩, hg, hf⟩ := hp
          exact ⟨f1, g, _, c, hI.tab h1 hwL hL hel ⟨hn2, hn6, hs10, e22, e23, hx⟩ (mxH_z (mxH_z hZ1 hn6) hn6) (mxH_inj (mxH_inj hI1 hn6) hn6) h4 hO, hg, hf.trans (by rw [hr, Int64.toInt32_sub, hr1, hr2])⟩
        · obtain ⟨hr, F1, h4, h5⟩ := hp
          exact ⟨by rw [hr], (mMk m.q m.i0 m.i1 m.i3 m.i7 m.i18 m.i22 m.i23 (nI 0) m.j16 m.j17 m.a2 m.a4 m.a5 m.a6 m.b8 m.b9 m.b10 m.a11 m.a12 m.a13 m.a14 m.b15 m.b19 m.b20 m.b21 m.a24 m.a25 (F1)), ⟨rfl, rfl, rfl, rfl, rfl, rfl, rfl, rfl, rfl, rfl, rfl, rfl, rfl, rfl, rfl, rfl⟩, rfl, rfl, h4, h5⟩
  · exact opI_thr (m2 := (mMk m.q m.i0 m.i1 m.i3 m.i7 m.i18 m.i22 m.i23 (nI 1) m.j16 m.j17 m.a2 m.a4 m.a5 m.a6 m.b8 m.b9 m.b10 m.a11 m.a12 m.a13 m.a14 m.b15 m.b19 m.b20 m.b21 m.a24 m.a25 m.a26)) hI 1 (by omega) (kL_side_o l G B0 f h po x1 x2 x3 hI.hd rfl rfl (kX8_side_b1 l hst G B0 f h c.nn wL tA nc (.ref c.sp) (.ref c.dl) (.ref c.gl) (.ref c.rw) (.ref c.ml) (.ref c.pp) r z MM sz w e1 e2 x1 x2 x3 hH hN hz hwl hn6 hn1 hs10 he hh9 hv)) (fun f2 h2 => by rw [show f2 = f from h2]; exact kKp.rf) ⟨rfl, rfl, Nat.le_of_ble_eq_true rfl, Nat.le_of_ble_eq_true rfl, Nat.le_of_ble_eq_true rfl, Nat.le_of_ble_eq_true rfl⟩ (fun f2 hM => kX9_side_b1 l G B0 f2 hm m.q m.i0 m.i1 m.i3 m.i7 m.i18 m.i22 m.i23 m.i27 m.j16 m.j17 m.a2 m.a4 m.a5 m.a6 m.b8 m.b9 m.b10 m.a11 m.a12 m.a13 m.a14 m.b15 m.b19 m.b20 m.b21 m.a24 m.a25 m.a26 e1 e2 nc sz x1 x2 x3 hM e22 hn6 e23 hs10 (fun k hk => ⟨(hx k hk).1, (hx k hk).2.2.1⟩) (fun k hk => ⟨(hx k hk).2.1, (hx k hk).2.2.2⟩) hv) ⟨rfl, rfl, Nat.le_of_ble_eq_true rfl, Nat.le_of_ble_eq_true rfl, Nat.le_of_ble_eq_true rfl, Nat.le_of_ble_eq_true rfl⟩ ⟨rfl, rfl, rfl, rfl, rfl, rfl, rfl, rfl, rfl, rfl, rfl, rfl, rfl, rfl, rfl, rfl⟩ rfl rfl
