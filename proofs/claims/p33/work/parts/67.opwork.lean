/-! the network -/
theorem nwk_kind {G : kG} {g : kH} {nn wL tA nc : Nat} {r z : Nat → Nat} {M : Nat → Nat → Int64} (h : kCs g (mxW G nn wL tA nc r z M)) : ∀ a ∈ mxAs nn tA r, (∃ l, g a = some (.inr (4, l))) ∨ ∃ c x, g a = some (.inl (c, 5, x)) := fun a ha => by
  simp only [mxAs, List.mem_cons, List.not_mem_nil, or_false] at ha
  rcases ha with rfl | rfl | rfl | rfl | rfl | rfl | rfl
  · exact .inl ⟨_, h.at 0 rfl⟩
  · exact .inr ⟨_, _, h.at 1 rfl⟩
  · exact .inr ⟨_, _, h.at 2 rfl⟩
  · exact .inr ⟨_, _, h.at 3 rfl⟩
  · exact .inr ⟨_, _, h.at 4 rfl⟩
  · exact .inr ⟨_, _, h.at 5 rfl⟩
  · exact .inr ⟨_, _, h.at 6 rfl⟩
theorem nwk_q {G : kG} {g : kH} {nn wL tA nc : Nat} {r z : Nat → Nat} {M : Nat → Nat → Int64} (h : kCs g (mxW G nn wL tA nc r z M)) {q cap : Nat} {g0 : Nat → Option Nat} (hq : g q = some (kaO G cap g0)) (hc : 10 ≤ cap) : q ∉ mxAs nn tA r := fun ha => by
  rcases nwk_kind h q ha with ⟨l, e⟩ | ⟨c, x, e⟩
  · rw [hq] at e; exact nomatch e
  · rw [hq] at e
    have := congrArg (fun v : Option va_E => match v with | some (.inl (_, n, _)) => n | _ => 0) e
    dsimp only at this
    omega
theorem nwk_own {o : Nat → Nat} {k : Nat} {f : kH} {G : kG} {nn wL tA nc : Nat} {r z : Nat → Nat} {M : Nat → Nat → Int64} (h : kCs (kR o k f) (mxW G nn wL tA nc r z M)) : ∀ a ∈ mxAs nn tA r, o a = k := fun a ha => by
  have : a ∈ (mxW G nn wL tA nc r z M).map Prod.fst := by simpa [mxW, mxAs] using ha
  obtain ⟨q, hq, rfl⟩ := List.mem_map.mp this
  exact (kCs_mem h q hq).1
theorem nwk_wl {G : kG} {f : kH} {nn wL tA nc sz : Nat} {r z w e1 e2 : Nat → Nat} {M : Nat → Nat → Int64} (h : kCs f (mxW G nn wL tA nc r z M)) (hwL : wL ∉ mxAs nn tA r) (hL : kLst G f wL sz w) (hel : ∀ k, k < sz → w k ∉ mxAs nn tA r ∧ f (w k) = some (.inr (7, [.int (nI (e1 k)), .int (nI (e2 k))]))) : kWl G f (mxAs nn tA r) wL sz w e1 e2 := by
  obtain ⟨mc, ⟨h0, h1⟩ | ⟨q, cap, g0, h1, h2, h10, h64, h5, h6⟩⟩ := hL
  · subst h0
    exact ⟨mc, _, ⟨hwL, h1⟩, fun k hk => absurd hk (Nat.not_lt_zero _), hel⟩
  · refine ⟨mc, _, ⟨hwL, h1.at 0 rfl⟩, fun k hk => ⟨q, cap, g0, rfl, nwk_q h (h1.at 1 rfl) h10, ?_, h1.at 1 rfl, h2, by omega, (h5 k hk).1⟩, hel⟩
    have := h1.2
    simp only [List.map_cons, List.map_nil, List.nodup_cons, List.mem_singleton] at this
    exact fun z => this.1 z.symm
/-- the table is another, the wires are the same -/
theorem nwk_tab {G : kG} {o : Nat → Nat} {f f1 : kH} {nn wL tA nc sz : Nat} {r z z1 w e1 e2 : Nat → Nat} {M M1 : Nat → Nat → Int64} (h : kCs (kR o 7 f) (mxW G nn wL tA nc r z M)) (hwL : wL ∉ mxAs nn tA r) (hL : kLst G (kR o 7 f) wL sz w) (hel : ∀ k, k < sz → w k ∉ mxAs nn tA r ∧ kR o 7 f (w k) = some (.inr (7, [.int (nI (e1 k)), .int (nI (e2 k))]))) (h1 : kCs f1 (mxW G nn wL tA nc r z1 M1)) (hK : kKp (mxAs nn tA r) f f1) :
    kCs (kR (oN o 7 f) 7 f1) (mxW G nn wL tA nc r z1 M1) ∧ kLst G (kR (oN o 7 f) 7 f1) wL sz w ∧ ∀ k, k < sz → w k ∉ mxAs nn tA r ∧ kR (oN o 7 f) 7 f1 (w k) = some (.inr (7, [.int (nI (e1 k)), .int (nI (e2 k))])) := by
  have ho := nwk_own h
  refine ⟨kCs_own h1 (fun q hq => .inl (ho _ ?_)), ?_, fun k hk => ⟨(hel k hk).1, kR_own hK _ _ (hel k hk).1 (hel k hk).2⟩⟩
  · have : q.1 ∈ (mxW G nn wL tA nc r z1 M1).map Prod.fst := List.mem_map.mpr ⟨q, hq, rfl⟩
    simpa [mxW, mxAs] using this
  · obtain ⟨mc, ⟨h0, h2⟩ | ⟨q, cap, g0, h2, h3, h10, h64, h5, h6⟩⟩ := hL
    · exact ⟨mc, .inl ⟨h0, kR_own hK _ _ hwL h2⟩⟩
    · refine ⟨mc, .inr ⟨q, cap, g0, ⟨fun x hx => ?_, h2.2⟩, h3, h10, h64, h5, h6⟩⟩
      simp only [List.mem_cons, List.not_mem_nil, or_false] at hx
      rcases hx with rfl | rfl
      · exact kR_own hK _ _ hwL (h2.at 0 rfl)
      · exact kR_own hK _ _ (nwk_q h (h2.at 1 rfl) h10) (h2.at 1 rfl)
theorem toI32n {x : Int64} {n : Nat} (h : x.toInt = n) : x.toInt32 = nI n := by
  refine Int32.toInt_inj.mp ?_
  rw [Int64.toInt_toInt32, h]
  show _ = (Int32.ofNat n).toInt
  rw [Int32.toInt_ofNat']
theorem Inv2.tab {G : kG} {h : Nat} {f f1 : kH} {o : Nat → Nat} {c : cSt} {m : pSt} (hI : Inv2 G h f o c m) {wL tA nc sz : Nat} {r z z1 w : Nat → Nat} {M M1 : Nat → Nat → Int64} (h1 : kCs (kR o 7 f) (mxW G c.nn wL tA nc r z M)) (hwL : wL ∉ mxAs c.nn tA r) (hL : kLst G (kR o 7 f) wL sz w) (hel : ∀ k, k < sz → w k ∉ mxAs c.nn tA r ∧ kR o 7 f (w k) = some (.inr (7, [.int (nI (m.ea k)), .int (nI (m.eb k))])))
    (hn : 2 ≤ nc ∧ nc ≤ 6 ∧ sz ≤ 10 ∧ m.nc = nc ∧ m.nw = sz ∧ ∀ k, k < sz → m.ea k < nc ∧ m.eb k < nc) (hz : mxZ z1) (hzi : zInj 5 z1) (h2 : kCs f1 (mxW G c.nn wL tA nc r z1 M1)) (hO : kOff (mxAs c.nn tA r) f f1) : Inv2 G h f1 (oN o 7 f) c m := by
  obtain ⟨a1, a2, a3⟩ := nwk_tab h1 hwL hL hel h2 (kKp.of hO)
  exact hI.step 7 (kKp.of hO) (nwk_own h1) ⟨wL, tA, nc, sz, r, z1, M1, w, a1, hwL, hz, hzi, a2, a3, hn⟩ (fun _ _ _ h => h)
theorem mxH_inj {z e1 e2 : Nat → Nat} {nc sz : Nat} {M : Nat → Nat → Int64} {a b t : Nat} (hz : zInj 5 z) (hn : nc ≤ 6) : zInj 5 (mxH z e1 e2 nc sz M a b t).2.1 := by
  unfold mxH
  split
  · exact hz
  · exact mxD_inj (nc - 1) (by omega) _ _ _ _ _ _ (by omega) hz
theorem trees_m {nc sz : Nat} {z e1 e2 : Nat → Nat} {M : Nat → Nat → Int64} (hn : 2 ≤ nc ∧ nc ≤ 6) (hz : zInj 5 z) (hs : sz ≤ 10) (he : ∀ k : Nat, k < sz → e1 k < nc ∧ e2 k < nc) : (mxDet (nc - 1) z (mxFill z e1 e2 nc sz 0 M)).1.toInt = (mTrees e1 e2 nc sz : Int) := by
  obtain ⟨n, rfl⟩ : ∃ n, nc = n + 1 := ⟨nc - 1, by omega⟩
  exact class_trees (by omega) hz he hs
theorem height_m {nc sz : Nat} {z e1 e2 : Nat → Nat} {M : Nat → Nat → Int64} (hn : 2 ≤ nc ∧ nc ≤ 6) (hz : zInj 5 z) (hs : sz ≤ 10) (he : ∀ k : Nat, k < sz → e1 k < nc ∧ e2 k < nc) {a b t : Nat} (ha : a < nc) (hb : b < nc) (ht : t < nc) (hbt : b ≠ t) : (mxH z e1 e2 nc sz M a b t).1.toInt = (mHeight e1 e2 nc sz b t a : Int) := by
  obtain ⟨n, rfl⟩ : ∃ n, nc = n + 1 := ⟨nc - 1, by omega⟩
  exact class_height (by omega) hz he hs ha hb ht hbt
theorem kCs_kp {g g1 : kH} {ws : va_W} {as : List Nat} (h : kCs g ws) (hK : kKp as g g1) (ha : ∀ a ∈ as, a ∉ ws.map Prod.fst) : kCs g1 ws := ⟨fun q hq => hK _ _ (fun z => ha _ z (List.mem_map.mpr ⟨q, hq, rfl⟩)) (h.1 q hq), h.2⟩
theorem nwk_hd {G : kG} {g g1 : kH} {nn wL tA nc b : Nat} {r z : Nat → Nat} {M : Nat → Nat → Int64} {as : List Nat} (h : kCs g (mxW G nn wL tA nc r z M)) (hn : g1 nn = some (.inr (4, [.ref wL, .ref tA, .int (nI b)]))) (hK : kKp as g g1) (ha : ∀ a ∈ as, a = nn ∨ a ∉ mxAs nn tA r) : kCs g1 (mxW G nn wL tA b r z M) := by
  have hd : nn ∉ [tA, r 0, r 1, r 2, r 3, r 4] := (List.nodup_cons.mp h.2).1
  have key : ∀ a, a ∈ [tA, r 0, r 1, r 2, r 3, r 4] → a ∉ as := fun a h1 h2 => by
    rcases ha a h2 with e | e
    · exact hd (e ▸ h1)
    · exact e (List.mem_cons_of_mem _ h1)
  refine ⟨fun q hq => ?_, h.2⟩
  simp only [mxW, List.mem_cons, List.not_mem_nil, or_false] at hq
  rcases hq with rfl | rfl | rfl | rfl | rfl | rfl | rfl
  · exact hn
  · exact hK _ _ (key _ (by simp)) (h.at 1 rfl)
  · exact hK _ _ (key _ (by simp)) (h.at 2 rfl)
  · exact hK _ _ (key _ (by simp)) (h.at 3 rfl)
  · exact hK _ _ (key _ (by simp)) (h.at 4 rfl)
  · exact hK _ _ (key _ (by simp)) (h.at 5 rfl)
  · exact hK _ _ (key _ (by simp)) (h.at 6 rfl)
theorem nwk_new {G : kG} {g : kH} {nn wL tA nc : Nat} {r z : Nat → Nat} {M : Nat → Nat → Int64} (h : kCs g (mxW G nn wL tA nc r z M)) {t : Nat} (ht : g t = none) : t ∉ mxAs nn tA r := fun q => by
  rcases nwk_kind h t q with ⟨l, e⟩ | ⟨c, x, e⟩
  · rw [ht] at e; exact nomatch e
  · rw [ht] at e; exact nomatch e
def pUp (F : Nat → Nat) (k v : Nat) : Nat → Nat := fun j => if j = k then v else F j
def c_treesAnew (m : pSt) : pRI := (0, nI (mTrees m.ea m.eb m.nc m.nw), m)
def c_trees (m : pSt) : pRI := (0, nI (mTrees m.ea m.eb m.nc m.nw), m)
def pSide (m : pSt) (x1 x2 x3 : Int32) : Int32 := if x3 = -1 then nI (mHeight m.ea m.eb m.nc m.nw x1.toNatClampNeg x2.toNatClampNeg x1.toNatClampNeg) else nI (mHeight m.ea m.eb m.nc m.nw x1.toNatClampNeg x2.toNatClampNeg (m.ea x3.toNatClampNeg)) - nI (mHeight m.ea m.eb m.nc m.nw x1.toNatClampNeg x2.toNatClampNeg (m.eb x3.toNatClampNeg))
def c_side (m : pSt) (x1 x2 x3 : Int32) : pRI := if mIn x1 m.nc ∧ mIn x2 m.nc ∧ (x3 = -1 ∨ mIn x3 m.nw) then (if x1 = x2 then (2, 0, m) else if mTrees m.ea m.eb m.nc m.nw = 0 then (3, 0, m) else (0, pSide m x1 x2 x3, m)) else (1, 0, m)
def c_nodes (m : pSt) (x1 : Int32) : pRI := if mRg x1 (2 : Nat) (6 : Nat) then (0, nI m.nc, (pMk m.cc m.fc m.nd m.ng m.nm (x1.toNatClampNeg) (0) m.fa m.dx m.dy m.dr m.fo m.ro m.mv m.pr m.ea m.eb)) else (2, 0, m)
def c_wire (m : pSt) (x1 x2 : Int32) : pRI := if mIn x1 m.nc ∧ mIn x2 m.nc then (if x1 = x2 then (2, 0, m) else if 10 ≤ m.nw then (3, 0, m) else (0, nI m.nw, (pMk m.cc m.fc m.nd m.ng m.nm m.nc (m.nw + 1) m.fa m.dx m.dy m.dr m.fo m.ro m.mv m.pr (pUp m.ea m.nw x1.toNatClampNeg) (pUp m.eb m.nw x2.toNatClampNeg)))) else (1, 0, m)
theorem cop_treesAnew {l : Launch} {G : kG} {B0 h : Nat} {f : kH} {o : Nat → Nat} {c : cSt} {m : pSt} (hI : Inv2 G h f o c m)  : cI l G B0 h f yX8_treesAnew wsX8_treesAnew [] (c_treesAnew m) := by
  have hK7 : cNwk G (kR o 7 f) c m := hI 7
  obtain ⟨wL, tA, nc, sz, r, z, MM, w, h1, hwL, hz, hzi, hL, hel, hn2, hn6, hs10, e22, e23, hx⟩ := hK7
  have hH0 : kCs (kR o 0 f) (cHd h c) := hI 0
  have hH : kCs f (cHd h c) := hH0.le (kR_le _ _ _)
  have hN : kCs f (mxW G c.nn wL tA nc r z MM) := h1.le (kR_le _ _ _)
  have hwl : kWl G f (mxAs c.nn tA r) wL sz w m.ea m.eb := nwk_wl hN hwL (hL.le (kR_le _ _ _)) (fun k hk => ⟨(hel k hk).1, (kR_some.mp (hel k hk).2).2⟩)
  have he : ∀ k : Nat, k < sz → m.ea k < nc ∧ m.eb k < nc := hx
  have h7 := nwk_own h1
  have hh9 : h ∉ mxAs c.nn tA r := fun q => by have a := h7 _ q; have b := (kCs_mem hH0 _ List.mem_cons_self).1; dsimp only at b; omega
  have hn1 : 1 ≤ nc := by omega
  unfold c_treesAnew
  rw [e22, e23]
  exact cI_ok ⟨rfl, rfl, Nat.le_of_ble_eq_true rfl, Nat.le_of_ble_eq_true rfl, Nat.le_of_ble_eq_true rfl, Nat.le_of_ble_eq_true rfl⟩ (kX8_treesAnew l G B0 f h c.nn wL tA nc (.ref c.sp) (.ref c.dl) (.ref c.gl) (.ref c.rw) (.ref c.ml) (.ref c.pp) r z MM sz w m.ea m.eb hH hN hz hwl hn6 hn1 hs10 he hh9) (fun r f1 hp => ⟨hp.1.trans (by rw [class_sets (by omega) hn6 hs10 he]), hI.same _ hp.2⟩)
theorem cop_trees {l : Launch} {G : kG} {B0 h : Nat} {f : kH} {o : Nat → Nat} {c : cSt} {m : pSt} (hI : Inv2 G h f o c m)  : cI l G B0 h f yX8_trees wsX8_trees [] (c_trees m) := by
  have hK7 : cNwk G (kR o 7 f) c m := hI 7
  obtain ⟨wL, tA, nc, sz, r, z, MM, w, h1, hwL, hz, hzi, hL, hel, hn2, hn6, hs10, e22, e23, hx⟩ := hK7
  have hH0 : kCs (kR o 0 f) (cHd h c) := hI 0
  have hH : kCs f (cHd h c) := hH0.le (kR_le _ _ _)
  have hN : kCs f (mxW G c.nn wL tA nc r z MM) := h1.le (kR_le _ _ _)
  have hwl : kWl G f (mxAs c.nn tA r) wL sz w m.ea m.eb := nwk_wl hN hwL (hL.le (kR_le _ _ _)) (fun k hk => ⟨(hel k hk).1, (kR_some.mp (hel k hk).2).2⟩)
  have he : ∀ k : Nat, k < sz → m.ea k < nc ∧ m.eb k < nc := hx
  have h7 := nwk_own h1
  have hh9 : h ∉ mxAs c.nn tA r := fun q => by have a := h7 _ q; have b := (kCs_mem hH0 _ List.mem_cons_self).1; dsimp only at b; omega
  have hn1 : 1 ≤ nc := by omega
  unfold c_trees
  rw [e22, e23]
  exact cI_ok ⟨rfl, rfl, Nat.le_of_ble_eq_true rfl, Nat.le_of_ble_eq_true rfl, Nat.le_of_ble_eq_true rfl, Nat.le_of_ble_eq_true rfl⟩ (kX8_trees l G B0 f h c.nn wL tA nc (.ref c.sp) (.ref c.dl) (.ref c.gl) (.ref c.rw) (.ref c.ml) (.ref c.pp) r z MM sz w m.ea m.eb hH hN hz hwl hn6 hn1 hs10 he hh9) (fun r f1 hp => ⟨hp.1.trans (toI32n (trees_m ⟨hn2, hn6⟩ hzi hs10 he)), _, c, hI.tab h1 hwL hL hel ⟨hn2, hn6, hs10, e22, e23, hx⟩ (mxD_z (nc - 1) (by omega) _ _ _ _ _ _ (by omega) hz) (mxD_inj (nc - 1) (by omega) _ _ _ _ _ _ (by omega) hzi) hp.2.1 hp.2.2⟩)
theorem cop_side {l : Launch} (hst : l.stackTraces = false) {G : kG} {B0 h : Nat} {f : kH} {o : Nat → Nat} {c : cSt} {m : pSt} (hI : Inv2 G h f o c m) (x1 x2 x3 : Int32) : cI l G B0 h f yX8_side wsX8_side [.int x1, .int x2, .int x3] (c_side m x1 x2 x3) := by
  have hK7 : cNwk G (kR o 7 f) c m := hI 7
  obtain ⟨wL, tA, nc, sz, r, z, MM, w, h1, hwL, hz, hzi, hL, hel, hn2, hn6, hs10, e22, e23, hx⟩ := hK7
  have hH0 : kCs (kR o 0 f) (cHd h c) := hI 0
  have hH : kCs f (cHd h c) := hH0.le (kR_le _ _ _)
  have hN : kCs f (mxW G c.nn wL tA nc r z MM) := h1.le (kR_le _ _ _)
  have hwl : kWl G f (mxAs c.nn tA r) wL sz w m.ea m.eb := nwk_wl hN hwL (hL.le (kR_le _ _ _)) (fun k hk => ⟨(hel k hk).1, (kR_some.mp (hel k hk).2).2⟩)
  have he : ∀ k : Nat, k < sz → m.ea k < nc ∧ m.eb k < nc := hx
  have h7 := nwk_own h1
  have hh9 : h ∉ mxAs c.nn tA r := fun q => by have a := h7 _ q; have b := (kCs_mem hH0 _ List.mem_cons_self).1; dsimp only at b; omega
  have hn1 : 1 ≤ nc := by omega
  have hT := trees_m (M := MM) ⟨hn2, hn6⟩ hzi hs10 he
  have hZ1 : mxZ (mxDet (nc - 1) z (mxFill z m.ea m.eb nc sz 0 MM)).2.1 := (mxD_z (nc - 1) (by omega) _ _ _ _ _ _ (by omega) hz)
  have hI1 : zInj 5 (mxDet (nc - 1) z (mxFill z m.ea m.eb nc sz 0 MM)).2.1 := (mxD_inj (nc - 1) (by omega) _ _ _ _ _ _ (by omega) hzi)
  unfold c_side
  rw [e22, e23]
  by_cases hv : mIn x1 nc ∧ mIn x2 nc ∧ (x3 = -1 ∨ mIn x3 sz)
  · rw [if_pos hv]
    by_cases hab : x1 = x2
    · rw [if_pos hab]
      exact cI_no 2 ⟨by omega, by omega⟩ ⟨rfl, rfl, Nat.le_of_ble_eq_true rfl, Nat.le_of_ble_eq_true rfl, Nat.le_of_ble_eq_true rfl, Nat.le_of_ble_eq_true rfl⟩ (kX8_side_b2 l hst G B0 f h c.nn wL tA nc (.ref c.sp) (.ref c.dl) (.ref c.gl) (.ref c.rw) (.ref c.ml) (.ref c.pp) r z MM sz w m.ea m.eb x1 x2 x3 hH hN hz hwl hn6 hn1 hs10 he hh9 hv hab) hI.same
    rw [if_neg hab]
    obtain ⟨x, hx9, rfl⟩ := mIn_ex (by omega) hv.1
    obtain ⟨y, hy9, rfl⟩ := mIn_ex (by omega) hv.2.1
    have hxy : ¬ x = y := fun z => hab (by rw [z])
    by_cases hne : (mxDet (nc - 1) z (mxFill z m.ea m.eb nc sz 0 MM)).1 = 0
    · have hT0 : mTrees m.ea m.eb nc sz = 0 := by rw [hne] at hT; have : (0 : Int64).toInt = 0 := rfl; omega
      rw [if_pos hT0]
      exact cI_no 3 ⟨by omega, by omega⟩ ⟨rfl, rfl, Nat.le_of_ble_eq_true rfl, Nat.le_of_ble_eq_true rfl, Nat.le_of_ble_eq_true rfl, Nat.le_of_ble_eq_true rfl⟩ (kX8_side_b3 l hst G B0 f h c.nn wL tA nc (.ref c.sp) (.ref c.dl) (.ref c.gl) (.ref c.rw) (.ref c.ml) (.ref c.pp) r z MM sz w m.ea m.eb (nI x) (nI y) x3 hH hN hz hwl hn6 hn1 hs10 he hh9 hv hab hne) (fun f1 hp => ⟨_, c, hI.tab h1 hwL hL hel ⟨hn2, hn6, hs10, e22, e23, hx⟩ hZ1 hI1 hp.1 hp.2⟩)
    · have hT0 : ¬ mTrees m.ea m.eb nc sz = 0 := fun q => hne (z_0.mp (by rw [hT, q]; rfl))
      rw [if_neg hT0]
      by_cases hm1 : x3 = -1
      · subst hm1
        rw [pSide, if_pos rfl, e22, e23, nI_clamp (show x < 2 ^ 31 by omega), nI_clamp (show y < 2 ^ 31 by omega)]
        have hr9 := toI32n (height_m (M := (mxDet (nc - 1) z (mxFill z m.ea m.eb nc sz 0 MM)).2.2) ⟨hn2, hn6⟩ hI1 hs10 he hx9 hx9 hy9 hxy)
        exact cI_ok ⟨rfl, rfl, Nat.le_of_ble_eq_true rfl, Nat.le_of_ble_eq_true rfl, Nat.le_of_ble_eq_true rfl, Nat.le_of_ble_eq_true rfl⟩ (kX8_side_h l G B0 f h c.nn wL tA nc (.ref c.sp) (.ref c.dl) (.ref c.gl) (.ref c.rw) (.ref c.ml) (.ref c.pp) r z MM sz w m.ea m.eb x y hH hN hz hwl hn6 hn1 hs10 he hh9 hx9 hy9 hxy hne) (fun r f1 hp => ⟨hp.1.trans hr9, _, c, hI.tab h1 hwL hL hel ⟨hn2, hn6, hs10, e22, e23, hx⟩ (mxH_z hZ1 hn6) (mxH_inj hI1 hn6) hp.2.1 hp.2.2⟩)
      · obtain ⟨k, hk9, rfl⟩ := mIn_ex (by omega) (hv.2.2.resolve_left hm1)
        rw [pSide, if_neg hm1, e22, e23, nI_clamp (show x < 2 ^ 31 by omega), nI_clamp (show y < 2 ^ 31 by omega), nI_clamp (show k < 2 ^ 31 by omega)]
        have hr1 := toI32n (height_m (M := (mxDet (nc - 1) z (mxFill z m.ea m.eb nc sz 0 MM)).2.2) ⟨hn2, hn6⟩ hI1 hs10 he (he k hk9).1 hx9 hy9 hxy)
        have hr2 := toI32n (height_m (z := (mxH ((mxDet (nc - 1) z (mxFill z m.ea m.eb nc sz 0 MM)).2.1) m.ea m.eb nc sz ((mxDet (nc - 1) z (mxFill z m.ea m.eb nc sz 0 MM)).2.2) (m.ea k) x y).2.1) (M := (mxH ((mxDet (nc - 1) z (mxFill z m.ea m.eb nc sz 0 MM)).2.1) m.ea m.eb nc sz ((mxDet (nc - 1) z (mxFill z m.ea m.eb nc sz 0 MM)).2.2) (m.ea k) x y).2.2) ⟨hn2, hn6⟩ (mxH_inj hI1 hn6) hs10 he (he k hk9).2 hx9 hy9 hxy)
        exact cI_ok ⟨rfl, rfl, Nat.le_of_ble_eq_true rfl, Nat.le_of_ble_eq_true rfl, Nat.le_of_ble_eq_true rfl, Nat.le_of_ble_eq_true rfl⟩ (kX8_side_f l G B0 f h c.nn wL tA nc (.ref c.sp) (.ref c.dl) (.ref c.gl) (.ref c.rw) (.ref c.ml) (.ref c.pp) r z MM sz w m.ea m.eb x y k hH hN hz hwl hn6 hn1 hs10 he hh9 hx9 hy9 hxy hne hk9) (fun r f1 hp => ⟨hp.1.trans (by rw [Int64.toInt32_sub, hr1, hr2]), _, c, hI.tab h1 hwL hL hel ⟨hn2, hn6, hs10, e22, e23, hx⟩ (mxH_z (mxH_z hZ1 hn6) hn6) (mxH_inj (mxH_inj hI1 hn6) hn6) hp.2.1 hp.2.2⟩)
  · rw [if_neg hv]
    exact cI_no 1 ⟨by omega, by omega⟩ ⟨rfl, rfl, Nat.le_of_ble_eq_true rfl, Nat.le_of_ble_eq_true rfl, Nat.le_of_ble_eq_true rfl, Nat.le_of_ble_eq_true rfl⟩ (kX8_side_b1 l hst G B0 f h c.nn wL tA nc (.ref c.sp) (.ref c.dl) (.ref c.gl) (.ref c.rw) (.ref c.ml) (.ref c.pp) r z MM sz w m.ea m.eb x1 x2 x3 hH hN hz hwl hn6 hn1 hs10 he hh9 hv) hI.same
theorem cop_nodes {l : Launch} (hst : l.stackTraces = false) {G : kG} {B0 h : Nat} {f : kH} {o : Nat → Nat} {c : cSt} {m : pSt} (hI : Inv2 G h f o c m) (x1 : Int32) : cI l G B0 h f yX8_nodes wsX8_nodes [.int x1] (c_nodes m x1) := by
  have hK7 : cNwk G (kR o 7 f) c m := hI 7
  obtain ⟨wL, tA, nc, sz, r, z, MM, w, h1, hwL, hz, hzi, hL, hel, hn2, hn6, hs10, e22, e23, hx⟩ := hK7
  have hH0 : kCs (kR o 0 f) (cHd h c) := hI 0
  have hH : kCs f (cHd h c) := hH0.le (kR_le _ _ _)
  have hN : kCs f (mxW G c.nn wL tA nc r z MM) := h1.le (kR_le _ _ _)
  have hwl : kWl G f (mxAs c.nn tA r) wL sz w m.ea m.eb := nwk_wl hN hwL (hL.le (kR_le _ _ _)) (fun k hk => ⟨(hel k hk).1, (kR_some.mp (hel k hk).2).2⟩)
  have he : ∀ k : Nat, k < sz → m.ea k < nc ∧ m.eb k < nc := hx
  have h7 := nwk_own h1
  have hh9 : h ∉ mxAs c.nn tA r := fun q => by have a := h7 _ q; have b := (kCs_mem hH0 _ List.mem_cons_self).1; dsimp only at b; omega
  have hn1 : 1 ≤ nc := by omega
  unfold c_nodes
  rw [e22]
  by_cases hv : mRg x1 (2 : Nat) (6 : Nat)
  · rw [if_pos hv]
    obtain ⟨b, hb2, hb6, rfl⟩ : ∃ b : Nat, 2 ≤ b ∧ b ≤ 6 ∧ x1 = nI b := ⟨x1.toInt.toNat, by have := hv.1; have := hv.2; omega, by have := hv.1; have := hv.2; omega, i32_of (by have := hv.1; omega) (by have := hv.1; have := hv.2; omega)⟩
    rw [nI_clamp (show b < 2 ^ 31 by omega)]
    have hnw : c.nn ≠ wL := fun q => hwL (by rw [← q]; simp)
    have on : o c.nn = 7 := h7 _ (by simp)
    obtain ⟨mc, ⟨h0, hl1⟩ | ⟨q, cap, g0, hl1, hl2, h10, h64, h5, h6⟩⟩ := hL
    · have a1 := kR_some.mp hl1
      have hW : kCs f [(h, .inr (8, [.ref c.sp, .ref c.dl, .ref c.gl, .ref c.rw, .ref c.ml, .ref c.pp, .ref c.nn])), (c.nn, .inr (4, [.ref wL, .ref tA, .int (nI nc)])), (wL, .inr (0, [.int mc, .ref (G.2.2 1), .int (nI 0)]))] := kCs_app hH0 (show kCs (kR o 7 f) [(c.nn, .inr (4, [.ref wL, .ref tA, .int (nI nc)])), (wL, .inr (0, [.int mc, .ref (G.2.2 1), .int (nI 0)]))] from ⟨fun x hx => by
        simp only [List.mem_cons, List.not_mem_nil, or_false] at hx
        rcases hx with rfl | rfl
        · exact h1.at 0 rfl
        · exact hl1, by simpa using hnw⟩) (by decide)
      refine cI_ok ⟨rfl, rfl, Nat.le_of_ble_eq_true rfl, Nat.le_of_ble_eq_true rfl, Nat.le_of_ble_eq_true rfl, Nat.le_of_ble_eq_true rfl⟩ (kX8_nodes_0 l G B0 f h c.nn wL nc b (.ref c.sp) (.ref c.dl) (.ref c.gl) (.ref c.rw) (.ref c.ml) (.ref c.pp) (.ref tA) mc hW hb2 hb6) (fun r0 f1 hp => ?_)
      obtain ⟨hr, h4, hK⟩ := hp
      refine ⟨hr, oN o 7 f, c, ?_⟩
      refine hI.step 7 hK (fun a ha => ?_) ?_ (fun j g hj hP => ?_)
      · simp only [List.mem_cons, List.not_mem_nil, or_false] at ha
        rcases ha with rfl | rfl
        · exact on
        · exact a1.1
      · refine ⟨wL, tA, b, 0, r, z, MM, w, ?_, hwL, hz, hzi, ⟨mc + nI 1, .inl ⟨rfl, kR_some.mpr ⟨oN_own a1.1, h4.at 2 rfl⟩⟩⟩, fun k hk => absurd hk (Nat.not_lt_zero _), hb2, hb6, by omega, rfl, rfl, fun k hk => absurd hk (Nat.not_lt_zero _)⟩
        refine nwk_hd h1 (kR_some.mpr ⟨oN_own on, h4.at 1 rfl⟩) (kR_own hK) (fun a ha => ?_)
        simp only [List.mem_cons, List.not_mem_nil, or_false] at ha
        rcases ha with rfl | rfl
        · exact .inl rfl
        · exact .inr hwL
      · unfold cPt at hP ⊢
        split
        case h_8 => exact absurd rfl hj
        all_goals first | exact hP | trivial
    · have a1 := (kCs_mem hl1) _ List.mem_cons_self
      have a2 := (kCs_mem hl1) _ (List.mem_cons_of_mem _ List.mem_cons_self)
      have hqm := nwk_q h1 (hl1.at 1 rfl) h10
      have hnq : c.nn ≠ q := fun z9 => hqm (by rw [← z9]; simp)
      have hwq : wL ≠ q := by have := hl1.2; simpa using this
      have hW : kCs f [(h, .inr (8, [.ref c.sp, .ref c.dl, .ref c.gl, .ref c.rw, .ref c.ml, .ref c.pp, .ref c.nn])), (c.nn, .inr (4, [.ref wL, .ref tA, .int (nI nc)])), (wL, .inr (0, [.int mc, .ref q, .int (nI sz)])), (q, kaO G cap g0)] := kCs_app hH0 (show kCs (kR o 7 f) [(c.nn, .inr (4, [.ref wL, .ref tA, .int (nI nc)])), (wL, .inr (0, [.int mc, .ref q, .int (nI sz)])), (q, kaO G cap g0)] from ⟨fun x hx => by
        simp only [List.mem_cons, List.not_mem_nil, or_false] at hx
        rcases hx with rfl | rfl | rfl
        · exact h1.at 0 rfl
        · exact hl1.at 0 rfl
        · exact hl1.at 1 rfl, by simp only [List.map_cons, List.map_nil, List.nodup_cons, List.mem_cons, List.not_mem_nil, or_false, not_or, List.nodup_nil, and_true, not_false_eq_true]; exact ⟨⟨hnw, hnq⟩, hwq⟩⟩) (by decide)
      refine cI_ok ⟨rfl, rfl, Nat.le_of_ble_eq_true rfl, Nat.le_of_ble_eq_true rfl, Nat.le_of_ble_eq_true rfl, Nat.le_of_ble_eq_true rfl⟩ (kX8_nodes_n l G B0 f h c.nn wL q nc b (.ref c.sp) (.ref c.dl) (.ref c.gl) (.ref c.rw) (.ref c.ml) (.ref c.pp) (.ref tA) mc sz cap g0 hW hb2 hb6 hl2 (by omega)) (fun r0 f1 hp => ?_)
      obtain ⟨hr, h4, hK⟩ := hp
      refine ⟨hr, oN o 7 f, c, ?_⟩
      refine hI.step 7 hK (fun a ha => ?_) ?_ (fun j g hj hP => ?_)
      · simp only [List.mem_cons, List.not_mem_nil, or_false] at ha
        rcases ha with rfl | rfl | rfl
        · exact on
        · exact a1.1
        · exact a2.1
      · refine ⟨wL, tA, b, 0, r, z, MM, w, ?_, hwL, hz, hzi, ⟨mc + nI 1, .inr ⟨q, cap, _, kCs_own (h4.pick [2, 3] (by decide) ⟨rfl, rfl, trivial⟩) (fun x hx => ?_), by omega, h10, h64, fun k hk => absurd hk (Nat.not_lt_zero _), fun i _ hi => absurd hi (Nat.not_lt_zero _)⟩⟩, fun k hk => absurd hk (Nat.not_lt_zero _), hb2, hb6, by omega, rfl, rfl, fun k hk => absurd hk (Nat.not_lt_zero _)⟩
        · refine nwk_hd h1 (kR_some.mpr ⟨oN_own on, h4.at 1 rfl⟩) (kR_own hK) (fun a ha => ?_)
          simp only [List.mem_cons, List.not_mem_nil, or_false] at ha
          rcases ha with rfl | rfl | rfl
          · exact .inl rfl
          · exact .inr hwL
          · exact .inr hqm
        · simp only [List.mem_cons, List.not_mem_nil, or_false] at hx
          rcases hx with rfl | rfl
          · exact .inl a1.1
          · exact .inl a2.1
      · unfold cPt at hP ⊢
        split
        case h_8 => exact absurd rfl hj
        all_goals first | exact hP | trivial
  · rw [if_neg hv]
    exact cI_no 2 ⟨by omega, by omega⟩ ⟨rfl, rfl, Nat.le_of_ble_eq_true rfl, Nat.le_of_ble_eq_true rfl, Nat.le_of_ble_eq_true rfl, Nat.le_of_ble_eq_true rfl⟩ (kX8_nodes_b1 l hst G B0 f h c.nn wL tA nc (.ref c.sp) (.ref c.dl) (.ref c.gl) (.ref c.rw) (.ref c.ml) (.ref c.pp) r z MM sz w m.ea m.eb x1 hH hN hz hwl hn6 hn1 hs10 he hh9 hv) hI.same
theorem cop_wire {l : Launch} (hst : l.stackTraces = false) {G : kG} {B0 h : Nat} {f : kH} {o : Nat → Nat} {c : cSt} {m : pSt} (hI : Inv2 G h f o c m) (x1 x2 : Int32) : cI l G B0 h f yX8_wire wsX8_wire [.int x1, .int x2] (c_wire m x1 x2) := by
  have hK7 : cNwk G (kR o 7 f) c m := hI 7
  obtain ⟨wL, tA, nc, sz, r, z, MM, w, h1, hwL, hz, hzi, hL, hel, hn2, hn6, hs10, e22, e23, hx⟩ := hK7
  have hH0 : kCs (kR o 0 f) (cHd h c) := hI 0
  have hH : kCs f (cHd h c) := hH0.le (kR_le _ _ _)
  have hN : kCs f (mxW G c.nn wL tA nc r z MM) := h1.le (kR_le _ _ _)
  have hwl : kWl G f (mxAs c.nn tA r) wL sz w m.ea m.eb := nwk_wl hN hwL (hL.le (kR_le _ _ _)) (fun k hk => ⟨(hel k hk).1, (kR_some.mp (hel k hk).2).2⟩)
  have he : ∀ k : Nat, k < sz → m.ea k < nc ∧ m.eb k < nc := hx
  have h7 := nwk_own h1
  have hh9 : h ∉ mxAs c.nn tA r := fun q => by have a := h7 _ q; have b := (kCs_mem hH0 _ List.mem_cons_self).1; dsimp only at b; omega
  have hn1 : 1 ≤ nc := by omega
  unfold c_wire
  rw [e22, e23]
  by_cases hv : mIn x1 nc ∧ mIn x2 nc
  · rw [if_pos hv]
    by_cases hab : x1 = x2
    · rw [if_pos hab]
      exact cI_no 2 ⟨by omega, by omega⟩ ⟨rfl, rfl, Nat.le_of_ble_eq_true rfl, Nat.le_of_ble_eq_true rfl, Nat.le_of_ble_eq_true rfl, Nat.le_of_ble_eq_true rfl⟩ (kX8_wire_b2 l hst G B0 f h c.nn wL tA nc (.ref c.sp) (.ref c.dl) (.ref c.gl) (.ref c.rw) (.ref c.ml) (.ref c.pp) r z MM sz w m.ea m.eb x1 x2 hH hN hz hwl hn6 hn1 hs10 he hh9 hv hab) hI.same
    rw [if_neg hab]
    by_cases h10w : 10 ≤ sz
    · rw [if_pos h10w]
      exact cI_no 3 ⟨by omega, by omega⟩ ⟨rfl, rfl, Nat.le_of_ble_eq_true rfl, Nat.le_of_ble_eq_true rfl, Nat.le_of_ble_eq_true rfl, Nat.le_of_ble_eq_true rfl⟩ (kX8_wire_b3 l hst G B0 f h c.nn wL tA nc (.ref c.sp) (.ref c.dl) (.ref c.gl) (.ref c.rw) (.ref c.ml) (.ref c.pp) r z MM sz w m.ea m.eb x1 x2 hH hN hz hwl hn6 hn1 hs10 he hh9 hv hab h10w) hI.same
    rw [if_neg h10w]
    obtain ⟨x, hx9, rfl⟩ := mIn_ex (by omega) hv.1
    obtain ⟨y, hy9, rfl⟩ := mIn_ex (by omega) hv.2
    rw [nI_clamp (show x < 2 ^ 31 by omega), nI_clamp (show y < 2 ^ 31 by omega)]
    have hxy : ¬ x = y := fun z => hab (by rw [z])
    have hnw : c.nn ≠ wL := fun q => hwL (by rw [← q]; simp)
    obtain ⟨mc, ⟨h0, hl1⟩ | ⟨q, cap, g0, hl1, hl2, h10, h64, h5, h6⟩⟩ := hL
    · subst h0
      have a1 := kR_some.mp hl1
      have hW : kCs f [(h, .inr (8, [.ref c.sp, .ref c.dl, .ref c.gl, .ref c.rw, .ref c.ml, .ref c.pp, .ref c.nn])), (c.nn, .inr (4, [.ref wL, .ref tA, .int (nI nc)])), (wL, .inr (0, [.int mc, .ref (G.2.2 1), .int (nI 0)]))] := kCs_app hH0 (show kCs (kR o 7 f) [(c.nn, .inr (4, [.ref wL, .ref tA, .int (nI nc)])), (wL, .inr (0, [.int mc, .ref (G.2.2 1), .int (nI 0)]))] from ⟨fun x hx => by
        simp only [List.mem_cons, List.not_mem_nil, or_false] at hx
        rcases hx with rfl | rfl
        · exact h1.at 0 rfl
        · exact hl1, by simpa using hnw⟩) (by decide)
      refine cI_ok ⟨rfl, rfl, Nat.le_of_ble_eq_true rfl, Nat.le_of_ble_eq_true rfl, Nat.le_of_ble_eq_true rfl, Nat.le_of_ble_eq_true rfl⟩ (kX8_wire_0 l G B0 f h c.nn wL tA nc (.ref c.sp) (.ref c.dl) (.ref c.gl) (.ref c.rw) (.ref c.ml) (.ref c.pp) r z MM x y hN hz hn6 hx9 hy9 hxy mc hW) (fun r0 f1 hp => ?_)
      obtain ⟨t, q, hr, hT, hq, h4, hK⟩ := hp
      refine ⟨hr, oN o 7 f, c, ?_⟩
      have hqt : q ≠ t := fun z9 => by have := h4.2; simp [z9] at this
      refine hI.step 7 hK (fun a ha => by rw [List.mem_singleton.mp ha]; exact a1.1) ?_ (fun j g hj hP => ?_)
      · refine ⟨wL, tA, nc, 0 + 1, r, z, MM, _, kCs_kp h1 (kR_own hK) (fun a ha => by rw [List.mem_singleton.mp ha]; exact hwL), hwL, hz, hzi, kLst.add_0 (w := w) hl1 hT hq hqt (h4.pick [2, 4] (by decide) ⟨rfl, rfl, trivial⟩), fun j hj => ⟨?_, ?_⟩, hn2, hn6, by omega, rfl, rfl, fun j hj => ?_⟩
        · by_cases z9 : j = 0
          · rw [if_pos z9]; exact nwk_new hN hT
          · rw [if_neg z9]; exact (hel j (by omega)).1
        · refine (kLst.more (sz := 0) (w := w) (e := fun j => .inr (7, [.int (nI (m.ea j)), .int (nI (m.eb j))])) hK (fun j hj => absurd hj (Nat.not_lt_zero _)) hT (h4.at 3 rfl) j hj).trans ?_
          show _ = (some (.inr (7, [.int (nI (pUp m.ea 0 x j)), .int (nI (pUp m.eb 0 y j))])) : Option va_E)
          unfold pUp
          by_cases z9 : j = 0
          · simp only [if_pos z9]
          · simp only [if_neg z9]
        · show pUp m.ea 0 x j < nc ∧ pUp m.eb 0 y j < nc
          unfold pUp
          by_cases z9 : j = 0
          · simp only [if_pos z9]; exact ⟨hx9, hy9⟩
          · simp only [if_neg z9]; exact hx j (by omega)
      · unfold cPt at hP ⊢
        split
        case h_8 => exact absurd rfl hj
        all_goals first | exact hP | trivial
    · have a1 := (kCs_mem hl1) _ List.mem_cons_self
      have a2 := (kCs_mem hl1) _ (List.mem_cons_of_mem _ List.mem_cons_self)
      have hqm := nwk_q h1 (hl1.at 1 rfl) h10
      have hnq : c.nn ≠ q := fun z9 => hqm (by rw [← z9]; simp)
      have hwq : wL ≠ q := by have := hl1.2; simpa using this
      have hc : sz < cap := by omega
      have hW : kCs f [(h, .inr (8, [.ref c.sp, .ref c.dl, .ref c.gl, .ref c.rw, .ref c.ml, .ref c.pp, .ref c.nn])), (c.nn, .inr (4, [.ref wL, .ref tA, .int (nI nc)])), (wL, .inr (0, [.int mc, .ref q, .int (nI sz)])), (q, kaO G cap g0)] := kCs_app hH0 (show kCs (kR o 7 f) [(c.nn, .inr (4, [.ref wL, .ref tA, .int (nI nc)])), (wL, .inr (0, [.int mc, .ref q, .int (nI sz)])), (q, kaO G cap g0)] from ⟨fun x hx => by
        simp only [List.mem_cons, List.not_mem_nil, or_false] at hx
        rcases hx with rfl | rfl | rfl
        · exact h1.at 0 rfl
        · exact hl1.at 0 rfl
        · exact hl1.at 1 rfl, by simp only [List.map_cons, List.map_nil, List.nodup_cons, List.mem_cons, List.not_mem_nil, or_false, not_or, List.nodup_nil, and_true, not_false_eq_true]; exact ⟨⟨hnw, hnq⟩, hwq⟩⟩) (by decide)
      refine cI_ok ⟨rfl, rfl, Nat.le_of_ble_eq_true rfl, Nat.le_of_ble_eq_true rfl, Nat.le_of_ble_eq_true rfl, Nat.le_of_ble_eq_true rfl⟩ (kX8_wire_n l G B0 f h c.nn wL tA nc (.ref c.sp) (.ref c.dl) (.ref c.gl) (.ref c.rw) (.ref c.ml) (.ref c.pp) r z MM x y hN hz hn6 hx9 hy9 hxy q mc sz cap g0 hW (by omega) hc (by omega)) (fun r0 f1 hp => ?_)
      obtain ⟨t, hr, hT, h4, hK⟩ := hp
      refine ⟨hr, oN o 7 f, c, ?_⟩
      refine hI.step 7 hK (fun a ha => ?_) ?_ (fun j g hj hP => ?_)
      · simp only [List.mem_cons, List.not_mem_nil, or_false] at ha
        rcases ha with rfl | rfl
        · exact a1.1
        · exact a2.1
      · refine ⟨wL, tA, nc, sz + 1, r, z, MM, _, kCs_kp h1 (kR_own hK) (fun a ha => by simp only [List.mem_cons, List.not_mem_nil, or_false] at ha; rcases ha with rfl | rfl; exact hwL; exact hqm), hwL, hz, hzi, kLst.add_n (e := fun j => .inr (7, [.int (nI (m.ea j)), .int (nI (m.eb j))])) hl1 hc h10 h64 h5 h6 (fun j hj => (hel j hj).2) hT (h4.pick [2, 3] (by decide) ⟨rfl, rfl, trivial⟩), fun j hj => ⟨?_, ?_⟩, hn2, hn6, by omega, rfl, rfl, fun j hj => ?_⟩
        · by_cases z9 : j = sz
          · rw [if_pos z9]; exact nwk_new hN hT
          · rw [if_neg z9]; exact (hel j (by omega)).1
        · refine (kLst.more (e := fun j => .inr (7, [.int (nI (m.ea j)), .int (nI (m.eb j))])) hK (fun j hj => ⟨(hel j hj).2, fun z => by
            simp only [List.mem_cons, List.not_mem_nil, or_false] at z
            exact z.elim (h5 j hj).2.1 (h5 j hj).2.2⟩) hT (h4.at 4 rfl) j hj).trans ?_
          show _ = (some (.inr (7, [.int (nI (pUp m.ea sz x j)), .int (nI (pUp m.eb sz y j))])) : Option va_E)
          unfold pUp
          by_cases z9 : j = sz
          · simp only [if_pos z9]
          · simp only [if_neg z9]
        · show pUp m.ea sz x j < nc ∧ pUp m.eb sz y j < nc
          unfold pUp
          by_cases z9 : j = sz
          · simp only [if_pos z9]; exact ⟨hx9, hy9⟩
          · simp only [if_neg z9]; exact hx j (by omega)
      · unfold cPt at hP ⊢
        split
        case h_8 => exact absurd rfl hj
        all_goals first | exact hP | trivial
  · rw [if_neg hv]
    exact cI_no 1 ⟨by omega, by omega⟩ ⟨rfl, rfl, Nat.le_of_ble_eq_true rfl, Nat.le_of_ble_eq_true rfl, Nat.le_of_ble_eq_true rfl, Nat.le_of_ble_eq_true rfl⟩ (kX8_wire_b1 l hst G B0 f h c.nn wL tA nc (.ref c.sp) (.ref c.dl) (.ref c.gl) (.ref c.rw) (.ref c.ml) (.ref c.pp) r z MM sz w m.ea m.eb x1 x2 hH hN hz hwl hn6 hn1 hs10 he hh9 hv) hI.same
