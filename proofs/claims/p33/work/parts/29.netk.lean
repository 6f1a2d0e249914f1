
theorem lk_X8_trees_f48 : Cond.fieldLink RX8 48 "Koebehall" "network" "LKoebehall$Network;" ∈ wsX8_trees := by decide +kernel
theorem hin_X8_trees_RX8 : ∀ w ∈ u_ws RX8 TX8 7, w ∈ wsX8_trees := by decide +kernel
theorem hdX8_trees_X4_treesByTable : yX4_treesByTable.cls ≠ "java/lang/invoke/MethodHandle" ∧ yX4_treesByTable.cls ≠ "java/lang/invoke/VarHandle" ∧ (parseMethodDescriptor yX4_treesByTable.desc).map (fun d => d.parameters.length) = some 0 := by decide +kernel
theorem lk_X8_trees_in_RX4 : Cond.initialized RX4 ∈ wsX8_trees := by decide +kernel
theorem lk_X8_trees_im_X4_treesByTable : Cond.instanceMethod yX4_treesByTable ∈ wsX8_trees := by decide +kernel
theorem lk_X8_trees_se_X4_treesByTable : Cond.selects RX4 yX4_treesByTable yX4_treesByTable ∈ wsX8_trees := by decide +kernel
abbrev rmX8_trees : Room := { frames := 5, cells := 0, slots := 0, locals := 108 }
set_option maxHeartbeats 4000000 in
set_option maxRecDepth 100000 in
/-- X8_trees -/
theorem kX8_trees (l : Launch) (G : kG) (B0 : Nat) (f : kH) (h nn wL tA nc : Nat) (vs vd vg vw vm vp : Value) (r z : Nat → Nat) (M : Nat → Nat → Int64) (sz : Nat) (w e1 e2 : Nat → Nat) (hM : kCs f [(h, .inr (8, [vs, vd, vg, vw, vm, vp, .ref nn]))]) (hN : kCs f (mxW G nn wL tA nc r z M)) (hz : mxZ z) (hwl : kWl G f (mxAs nn tA r) wL sz w e1 e2) (hnc : nc ≤ 6) (hnc1 : 1 ≤ nc) (hsz : sz ≤ 10) (he : ∀ k : Nat, k < sz → e1 k < nc ∧ e2 k < nc) (hh9 : h ∉ mxAs nn tA r) : Met l yX8_trees wsX8_trees (rmX8_trees) (kP G B0 f [.ref h]) (kQi G B0 (fun r9 f1 => r9 = ((mxDet (nc - 1) z (mxFill z e1 e2 nc sz 0 M)).1).toInt32 ∧ kCs f1 (mxW G nn wL tA nc r ((mxDet (nc - 1) z (mxFill z e1 e2 nc sz 0 M)).2.1) ((mxDet (nc - 1) z (mxFill z e1 e2 nc sz 0 M)).2.2)) ∧ kOff (mxAs nn tA r) f f1)) 0 0 (kAb B0) := by
  refine kMet (cc := cX8_trees) (maxL := 1) (ret := (some .int)) (by decide) rfl (Nat.le_of_ble_eq_true rfl) ?_
  intro p e s m args below meth c H locs Q ls C hX hl hr hlocks hnm hQ
  have hl : lv_has ls 1 [(0, .ref h)] := hl
  refine lv_aload_n C.x C.b dX8_trees_0 rfl (lv_at hl 0 rfl) ?_
  refine k_get (X := RX8) (T := TX8) (N := 7) (v := .ref nn) C hX (hM.at 0 rfl) rfl hin_X8_trees_RX8 6 (by decide) lk_X8_trees_f48 (fun _ h9 => h9) rfl dX8_trees_1 ?_
  refine k_calll (va_runVN (As := []) (rest := []) C.1 (kX4_treesByTable l G B0 f nn wL tA nc r z M sz w e1 e2 hN hz hwl hnc hnc1 hsz he) ⟨va_cnB 0 C.ts gX8_trees_X4_treesByTable_n327 rfl rfl rfl (C.2.1.2.2.1 _ (show ((RX8, 327, yX4_treesByTable, "Koebehall") : String × Nat × MethodName × String) ∈ kNestM by decide +kernel)) (C.ts _ lk_X8_trees_in_RX4) hdX8_trees_X4_treesByTable ⟨Nat.le_of_ble_eq_true rfl, Nat.le_of_ble_eq_true rfl⟩, C.ts _ lk_X8_trees_im_X4_treesByTable, C.ts _ lk_X8_trees_se_X4_treesByTable⟩ (k_preV C hX (hN.at 0 rfl) rfl) rfl rfl hl.1 rfl (lv_room (Nat.le_of_ble_eq_true rfl)) dX8_trees_4 ⟨Nat.le_of_ble_eq_true rfl, Nat.le_of_ble_eq_true rfl⟩) hX (fun r4 f4 H locs hp4 hX => ?_)
  obtain ⟨hr4, hN, hO4⟩ := hp4
  refine k_topl (y := (mxDet (nc - 1) z (mxFill z e1 e2 nc sz 0 M)).1) hr4 ?_
  have hM : kCs f4 [(h, .inr (8, [vs, vd, vg, vw, vm, vp, .ref nn]))] := kCs.one (by rw [hO4 _ hh9]; exact hM.at 0 rfl)
  refine lv_l2i (v := ((mxDet (nc - 1) z (mxFill z e1 e2 nc sz 0 M)).1).toInt32) C.x C.b dX8_trees_7 rfl ?_
  exact k_iret C hX hr hlocks hQ (by omega) (by omega) (⟨rfl, hN, hO4⟩) dX8_trees_8

theorem lk_X8_treesAnew_f48 : Cond.fieldLink RX8 48 "Koebehall" "network" "LKoebehall$Network;" ∈ wsX8_treesAnew := by decide +kernel
theorem hin_X8_treesAnew_RX8 : ∀ w ∈ u_ws RX8 TX8 7, w ∈ wsX8_treesAnew := by decide +kernel
theorem hdX8_treesAnew_X4_treesBySets : yX4_treesBySets.cls ≠ "java/lang/invoke/MethodHandle" ∧ yX4_treesBySets.cls ≠ "java/lang/invoke/VarHandle" ∧ (parseMethodDescriptor yX4_treesBySets.desc).map (fun d => d.parameters.length) = some 0 := by decide +kernel
theorem lk_X8_treesAnew_in_RX4 : Cond.initialized RX4 ∈ wsX8_treesAnew := by decide +kernel
theorem lk_X8_treesAnew_im_X4_treesBySets : Cond.instanceMethod yX4_treesBySets ∈ wsX8_treesAnew := by decide +kernel
theorem lk_X8_treesAnew_se_X4_treesBySets : Cond.selects RX4 yX4_treesBySets yX4_treesBySets ∈ wsX8_treesAnew := by decide +kernel
abbrev rmX8_treesAnew : Room := { frames := 5, cells := 0, slots := 0, locals := 111 }
set_option maxHeartbeats 4000000 in
set_option maxRecDepth 100000 in
/-- X8_treesAnew -/
theorem kX8_treesAnew (l : Launch) (G : kG) (B0 : Nat) (f : kH) (h nn wL tA nc : Nat) (vs vd vg vw vm vp : Value) (r z : Nat → Nat) (M : Nat → Nat → Int64) (sz : Nat) (w e1 e2 : Nat → Nat) (hM : kCs f [(h, .inr (8, [vs, vd, vg, vw, vm, vp, .ref nn]))]) (hN : kCs f (mxW G nn wL tA nc r z M)) (hz : mxZ z) (hwl : kWl G f (mxAs nn tA r) wL sz w e1 e2) (hnc : nc ≤ 6) (hnc1 : 1 ≤ nc) (hsz : sz ≤ 10) (he : ∀ k : Nat, k < sz → e1 k < nc ∧ e2 k < nc) (hh9 : h ∉ mxAs nn tA r) : Met l yX8_treesAnew wsX8_treesAnew (rmX8_treesAnew) (kP G B0 f [.ref h]) (kQi G B0 (fun r9 f1 => r9 = nI (kCnt (fun k9 => jBc (nI k9) = nI (nc - 1) ∧ hgP (nI k9) e1 e2 nc sz) (2 ^ sz)) ∧ f1 = f)) 0 0 (kAb B0) := by
  refine kMet (cc := cX8_treesAnew) (maxL := 1) (ret := (some .int)) (by decide) rfl (Nat.le_of_ble_eq_true rfl) ?_
  intro p e s m args below meth c H locs Q ls C hX hl hr hlocks hnm hQ
  have hl : lv_has ls 1 [(0, .ref h)] := hl
  refine lv_aload_n C.x C.b dX8_treesAnew_0 rfl (lv_at hl 0 rfl) ?_
  refine k_get (X := RX8) (T := TX8) (N := 7) (v := .ref nn) C hX (hM.at 0 rfl) rfl hin_X8_treesAnew_RX8 6 (by decide) lk_X8_treesAnew_f48 (fun _ h9 => h9) rfl dX8_treesAnew_1 ?_
  refine k_calli (va_runVN (As := []) (rest := []) C.1 (kX4_treesBySets l G B0 f nn wL tA nc r z M sz w e1 e2 hN hz hwl hnc hnc1 hsz he) ⟨va_cnB 0 C.ts gX8_treesAnew_X4_treesBySets_n330 rfl rfl rfl (C.2.1.2.2.1 _ (show ((RX8, 330, yX4_treesBySets, "Koebehall") : String × Nat × MethodName × String) ∈ kNestM by decide +kernel)) (C.ts _ lk_X8_treesAnew_in_RX4) hdX8_treesAnew_X4_treesBySets ⟨Nat.le_of_ble_eq_true rfl, Nat.le_of_ble_eq_true rfl⟩, C.ts _ lk_X8_treesAnew_im_X4_treesBySets, C.ts _ lk_X8_treesAnew_se_X4_treesBySets⟩ (k_preV C hX (hN.at 0 rfl) rfl) rfl rfl hl.1 rfl (lv_room (Nat.le_of_ble_eq_true rfl)) dX8_treesAnew_4 ⟨Nat.le_of_ble_eq_true rfl, Nat.le_of_ble_eq_true rfl⟩) hX (fun r4 f4 H locs hp4 hX => ?_)
  obtain ⟨hr4, hf4⟩ := hp4
  rw [hf4] at hX
  refine k_topi (y := (nI (kCnt (fun k9 => jBc (nI k9) = nI (nc - 1) ∧ hgP (nI k9) e1 e2 nc sz) (2 ^ sz)))) hr4 ?_
  exact k_iret C hX hr hlocks hQ (by omega) (by omega) (⟨rfl, rfl⟩) dX8_treesAnew_7

theorem lk_X8_side_f48 : Cond.fieldLink RX8 48 "Koebehall" "network" "LKoebehall$Network;" ∈ wsX8_side := by decide +kernel
theorem hin_X8_side_RX8 : ∀ w ∈ u_ws RX8 TX8 7, w ∈ wsX8_side := by decide +kernel
theorem hdX8_side_X4_hasNode : yX4_hasNode.cls ≠ "java/lang/invoke/MethodHandle" ∧ yX4_hasNode.cls ≠ "java/lang/invoke/VarHandle" ∧ (parseMethodDescriptor yX4_hasNode.desc).map (fun d => d.parameters.length) = some 1 := by decide +kernel
theorem lk_X8_side_in_RX4 : Cond.initialized RX4 ∈ wsX8_side := by decide +kernel
theorem lk_X8_side_im_X4_hasNode : Cond.instanceMethod yX4_hasNode ∈ wsX8_side := by decide +kernel
theorem lk_X8_side_se_X4_hasNode : Cond.selects RX4 yX4_hasNode yX4_hasNode ∈ wsX8_side := by decide +kernel
theorem hdX8_side_X4_treesByTable : yX4_treesByTable.cls ≠ "java/lang/invoke/MethodHandle" ∧ yX4_treesByTable.cls ≠ "java/lang/invoke/VarHandle" ∧ (parseMethodDescriptor yX4_treesByTable.desc).map (fun d => d.parameters.length) = some 0 := by decide +kernel
theorem lk_X8_side_im_X4_treesByTable : Cond.instanceMethod yX4_treesByTable ∈ wsX8_side := by decide +kernel
theorem lk_X8_side_se_X4_treesByTable : Cond.selects RX4 yX4_treesByTable yX4_treesByTable ∈ wsX8_side := by decide +kernel
theorem hdX8_side_X4_heightOf : yX4_heightOf.cls ≠ "java/lang/invoke/MethodHandle" ∧ yX4_heightOf.cls ≠ "java/lang/invoke/VarHandle" ∧ (parseMethodDescriptor yX4_heightOf.desc).map (fun d => d.parameters.length) = some 3 := by decide +kernel
theorem lk_X8_side_im_X4_heightOf : Cond.instanceMethod yX4_heightOf ∈ wsX8_side := by decide +kernel
theorem lk_X8_side_se_X4_heightOf : Cond.selects RX4 yX4_heightOf yX4_heightOf ∈ wsX8_side := by decide +kernel
abbrev rmX8_side_h : Room := { frames := 5, cells := 0, slots := 0, locals := 113 }
set_option maxHeartbeats 4000000 in
set_option maxRecDepth 100000 in
/-- X8_side_h -/
theorem kX8_side_h (l : Launch) (G : kG) (B0 : Nat) (f : kH) (h nn wL tA nc : Nat) (vs vd vg vw vm vp : Value) (r z : Nat → Nat) (M : Nat → Nat → Int64) (sz : Nat) (w e1 e2 : Nat → Nat) (x y : Nat) (hM : kCs f [(h, .inr (8, [vs, vd, vg, vw, vm, vp, .ref nn]))]) (hN : kCs f (mxW G nn wL tA nc r z M)) (hz : mxZ z) (hwl : kWl G f (mxAs nn tA r) wL sz w e1 e2) (hnc : nc ≤ 6) (hnc1 : 1 ≤ nc) (hsz : sz ≤ 10) (he : ∀ k : Nat, k < sz → e1 k < nc ∧ e2 k < nc) (hh9 : h ∉ mxAs nn tA r) (hx9 : x < nc) (hy9 : y < nc) (hxy : ¬ x = y) (hne : ¬ (mxDet (nc - 1) z (mxFill z e1 e2 nc sz 0 M)).1 = 0) : Met l yX8_side wsX8_side (rmX8_side_h) (kP G B0 f [.ref h, .int (nI x), .int (nI y), .int (-1)]) (kQi G B0 (fun r9 f1 => r9 = ((mxH ((mxDet (nc - 1) z (mxFill z e1 e2 nc sz 0 M)).2.1) e1 e2 nc sz ((mxDet (nc - 1) z (mxFill z e1 e2 nc sz 0 M)).2.2) x x y).1).toInt32 ∧ kCs f1 (mxW G nn wL tA nc r ((mxH ((mxDet (nc - 1) z (mxFill z e1 e2 nc sz 0 M)).2.1) e1 e2 nc sz ((mxDet (nc - 1) z (mxFill z e1 e2 nc sz 0 M)).2.2) x x y).2.1) ((mxH ((mxDet (nc - 1) z (mxFill z e1 e2 nc sz 0 M)).2.1) e1 e2 nc sz ((mxDet (nc - 1) z (mxFill z e1 e2 nc sz 0 M)).2.2) x x y).2.2)) ∧ kOff (mxAs nn tA r) f f1)) 0 0 (kAb B0) := by
  refine kMet (cc := cX8_side) (maxL := 4) (ret := (some .int)) (by decide) rfl (Nat.le_of_ble_eq_true rfl) ?_
  intro p e s m args below meth c H locs Q ls C hX hl hr hlocks hnm hQ
  have hl : lv_has ls 4 [(0, .ref h), (1, .int (nI x)), (2, .int (nI y)), (3, .int (-1))] := hl
  refine lv_aload_n C.x C.b dX8_side_0 rfl (lv_at hl 0 rfl) ?_
  refine k_get (X := RX8) (T := TX8) (N := 7) (v := .ref nn) C hX (hM.at 0 rfl) rfl hin_X8_side_RX8 6 (by decide) lk_X8_side_f48 (fun _ h9 => h9) rfl dX8_side_1 ?_
  refine lv_iload_n C.x C.b dX8_side_4 rfl (lv_at hl 1 rfl) ?_
  refine k_calli (va_runVN (As := [.int (nI x)]) (rest := []) C.1 (kX4_hasNode l G B0 f nn wL tA nc r z M (nI x) hN hz hnc) ⟨va_cnB 1 C.ts gX8_side_X4_hasNode_n313 rfl rfl rfl (C.2.1.2.2.1 _ (show ((RX8, 313, yX4_hasNode, "Koebehall") : String × Nat × MethodName × String) ∈ kNestM by decide +kernel)) (C.ts _ lk_X8_side_in_RX4) hdX8_side_X4_hasNode ⟨Nat.le_of_ble_eq_true rfl, Nat.le_of_ble_eq_true rfl⟩, C.ts _ lk_X8_side_im_X4_hasNode, C.ts _ lk_X8_side_se_X4_hasNode⟩ (k_preV C hX (hN.at 0 rfl) rfl) rfl rfl hl.1 rfl (lv_room (Nat.le_of_ble_eq_true rfl)) dX8_side_5 ⟨Nat.le_of_ble_eq_true rfl, Nat.le_of_ble_eq_true rfl⟩) hX (fun r5 f5 H locs hp5 hX => ?_)
  obtain ⟨hr5, hf5⟩ := hp5
  rw [hf5] at hX
  refine k_topi (y := (kbI (mIn (nI x) nc))) hr5 ?_
  refine lv_if_eq (tgt := 22) C.x C.b dX8_side_8 (by decide) (fun c_8 => ?_) (fun c_8 => ?_)
  · exact absurd ((mIn_nI (by omega)).mpr hx9) (kbI_0 c_8)
  refine lv_aload_n C.x C.b dX8_side_11 rfl (lv_at hl 0 rfl) ?_
  refine k_get (X := RX8) (T := TX8) (N := 7) (v := .ref nn) C hX (hM.at 0 rfl) rfl hin_X8_side_RX8 6 (by decide) lk_X8_side_f48 (fun _ h9 => h9) rfl dX8_side_12 ?_
  refine lv_iload_n C.x C.b dX8_side_15 rfl (lv_at hl 2 rfl) ?_
  refine k_calli (va_runVN (As := [.int (nI y)]) (rest := []) C.1 (kX4_hasNode l G B0 f nn wL tA nc r z M (nI y) hN hz hnc) ⟨va_cnB 1 C.ts gX8_side_X4_hasNode_n313 rfl rfl rfl (C.2.1.2.2.1 _ (show ((RX8, 313, yX4_hasNode, "Koebehall") : String × Nat × MethodName × String) ∈ kNestM by decide +kernel)) (C.ts _ lk_X8_side_in_RX4) hdX8_side_X4_hasNode ⟨Nat.le_of_ble_eq_true rfl, Nat.le_of_ble_eq_true rfl⟩, C.ts _ lk_X8_side_im_X4_hasNode, C.ts _ lk_X8_side_se_X4_hasNode⟩ (k_preV C hX (hN.at 0 rfl) rfl) rfl rfl hl.1 rfl (lv_room (Nat.le_of_ble_eq_true rfl)) dX8_side_16 ⟨Nat.le_of_ble_eq_true rfl, Nat.le_of_ble_eq_true rfl⟩) hX (fun r16 f16 H locs hp16 hX => ?_)
  obtain ⟨hr16, hf16⟩ := hp16
  rw [hf16] at hX
  refine k_topi (y := (kbI (mIn (nI y) nc))) hr16 ?_
  refine lv_if_ne (tgt := 33) C.x C.b dX8_side_19 (by decide) (fun c_19 => ?_) (fun c_19 => ?_)
  rotate_left
  · exact absurd ((mIn_nI (by omega)).mpr hy9) (kbI_0 c_19)
  refine lv_iload_n C.x C.b dX8_side_33 rfl (lv_at hl 3 rfl) ?_
  refine lv_iconst (v := -1) C.x C.b dX8_side_34 (by decide) ?_
  refine lv_icmp_eq (tgt := 60) C.x C.b dX8_side_35 (by decide) (fun c_35 => ?_) (fun c_35 => ?_)
  · skip
    refine lv_iload_n C.x C.b dX8_side_60 rfl (lv_at hl 1 rfl) ?_
    refine lv_iload_n C.x C.b dX8_side_61 rfl (lv_at hl 2 rfl) ?_
    refine lv_icmp_ne (tgt := 76) C.x C.b dX8_side_62 (by decide) (fun c_62 => ?_) (fun c_62 => ?_)
    rotate_left
    · skip
      have c_62 : x = y := (nI_eq (by omega) (by omega)).mp c_62
      omega
    have c_62 : ¬ (x = y) := fun h9 => c_62 ((nI_eq (by omega) (by omega)).mpr h9)
    refine lv_aload_n C.x C.b dX8_side_76 rfl (lv_at hl 0 rfl) ?_
    refine k_get (X := RX8) (T := TX8) (N := 7) (v := .ref nn) C hX (hM.at 0 rfl) rfl hin_X8_side_RX8 6 (by decide) lk_X8_side_f48 (fun _ h9 => h9) rfl dX8_side_77 ?_
    refine k_calll (va_runVN (As := []) (rest := []) C.1 (kX4_treesByTable l G B0 f nn wL tA nc r z M sz w e1 e2 hN hz hwl hnc hnc1 hsz he) ⟨va_cnB 0 C.ts gX8_side_X4_treesByTable_n327 rfl rfl rfl (C.2.1.2.2.1 _ (show ((RX8, 327, yX4_treesByTable, "Koebehall") : String × Nat × MethodName × String) ∈ kNestM by decide +kernel)) (C.ts _ lk_X8_side_in_RX4) hdX8_side_X4_treesByTable ⟨Nat.le_of_ble_eq_true rfl, Nat.le_of_ble_eq_true rfl⟩, C.ts _ lk_X8_side_im_X4_treesByTable, C.ts _ lk_X8_side_se_X4_treesByTable⟩ (k_preV C hX (hN.at 0 rfl) rfl) rfl rfl hl.1 rfl (lv_room (Nat.le_of_ble_eq_true rfl)) dX8_side_80 ⟨Nat.le_of_ble_eq_true rfl, Nat.le_of_ble_eq_true rfl⟩) hX (fun r80 f80 H locs hp80 hX => ?_)
    obtain ⟨hr80, hN, hO80⟩ := hp80
    refine k_topl (y := (mxDet (nc - 1) z (mxFill z e1 e2 nc sz 0 M)).1) hr80 ?_
    have hM : kCs f80 [(h, .inr (8, [vs, vd, vg, vw, vm, vp, .ref nn]))] := kCs.one (by rw [hO80 _ hh9]; exact hM.at 0 rfl)
    refine lv_lconst (v := 0) C.x C.b dX8_side_83 (by decide) ?_
    refine k_lcmp_ne (tgt := 99) C.x C.b dX8_side_84 dX8_side_85 (by decide) (fun c_85 => ?_) (fun c_85 => ?_)
    · skip
      refine lv_iload_n C.x C.b dX8_side_99 rfl (lv_at hl 3 rfl) ?_
      refine lv_iconst (v := -1) C.x C.b dX8_side_100 (by decide) ?_
      refine lv_icmp_ne (tgt := 117) C.x C.b dX8_side_101 (by decide) (fun c_101 => ?_) (fun c_101 => ?_)
      · skip
        exact absurd rfl c_101
      · skip
        refine lv_aload_n C.x C.b dX8_side_104 rfl (lv_at hl 0 rfl) ?_
        refine k_get (X := RX8) (T := TX8) (N := 7) (v := .ref nn) C hX (hM.at 0 rfl) rfl hin_X8_side_RX8 6 (by decide) lk_X8_side_f48 (fun _ h9 => h9) rfl dX8_side_105 ?_
        refine lv_iload_n C.x C.b dX8_side_108 rfl (lv_at hl 1 rfl) ?_
        refine lv_iload_n C.x C.b dX8_side_109 rfl (lv_at hl 1 rfl) ?_
        refine lv_iload_n C.x C.b dX8_side_110 rfl (lv_at hl 2 rfl) ?_
        refine k_calll (va_runVN (As := [.int (nI x), .int (nI x), .int (nI y)]) (rest := []) C.1 (kX4_heightOf l G B0 f80 nn wL tA nc r ((mxDet (nc - 1) z (mxFill z e1 e2 nc sz 0 M)).2.1) ((mxDet (nc - 1) z (mxFill z e1 e2 nc sz 0 M)).2.2) sz w e1 e2 x x y hN (mxD_z (nc - 1) (by omega) (nc - 1) 0 z _ 1 1 (by omega) hz) (hwl.keep hO80) hnc hnc1 hsz he hx9 hx9 hy9) ⟨va_cnB 3 C.ts gX8_side_X4_heightOf_n342 rfl rfl rfl (C.2.1.2.2.1 _ (show ((RX8, 342, yX4_heightOf, "Koebehall") : String × Nat × MethodName × String) ∈ kNestM by decide +kernel)) (C.ts _ lk_X8_side_in_RX4) hdX8_side_X4_heightOf ⟨Nat.le_of_ble_eq_true rfl, Nat.le_of_ble_eq_true rfl⟩, C.ts _ lk_X8_side_im_X4_heightOf, C.ts _ lk_X8_side_se_X4_heightOf⟩ (k_preV C hX (hN.at 0 rfl) rfl) rfl rfl hl.1 rfl (lv_room (Nat.le_of_ble_eq_true rfl)) dX8_side_111 ⟨Nat.le_of_ble_eq_true rfl, Nat.le_of_ble_eq_true rfl⟩) hX (fun r111 f111 H locs hp111 hX => ?_)
        obtain ⟨hr111, hN, hO111⟩ := hp111
        refine k_topl (y := (mxH ((mxDet (nc - 1) z (mxFill z e1 e2 nc sz 0 M)).2.1) e1 e2 nc sz ((mxDet (nc - 1) z (mxFill z e1 e2 nc sz 0 M)).2.2) x x y).1) hr111 ?_
        refine lv_goto (tgt := 127) C.x C.b dX8_side_114 (by decide) ?_
        refine lv_l2i (v := ((mxH ((mxDet (nc - 1) z (mxFill z e1 e2 nc sz 0 M)).2.1) e1 e2 nc sz ((mxDet (nc - 1) z (mxFill z e1 e2 nc sz 0 M)).2.2) x x y).1).toInt32) C.x C.b dX8_side_127 rfl ?_
        exact k_iret C hX hr hlocks hQ (by omega) (by omega) (⟨rfl, hN, hO80.trans hO111⟩) dX8_side_128
    · skip
      exact absurd c_85 hne
  · skip
    exact absurd rfl c_35

theorem hdX8_side_X4_hasWire : yX4_hasWire.cls ≠ "java/lang/invoke/MethodHandle" ∧ yX4_hasWire.cls ≠ "java/lang/invoke/VarHandle" ∧ (parseMethodDescriptor yX4_hasWire.desc).map (fun d => d.parameters.length) = some 1 := by decide +kernel
theorem lk_X8_side_im_X4_hasWire : Cond.instanceMethod yX4_hasWire ∈ wsX8_side := by decide +kernel
theorem lk_X8_side_se_X4_hasWire : Cond.selects RX4 yX4_hasWire yX4_hasWire ∈ wsX8_side := by decide +kernel
theorem hdX8_side_X4_fallAlong : yX4_fallAlong.cls ≠ "java/lang/invoke/MethodHandle" ∧ yX4_fallAlong.cls ≠ "java/lang/invoke/VarHandle" ∧ (parseMethodDescriptor yX4_fallAlong.desc).map (fun d => d.parameters.length) = some 3 := by decide +kernel
theorem lk_X8_side_im_X4_fallAlong : Cond.instanceMethod yX4_fallAlong ∈ wsX8_side := by decide +kernel
theorem lk_X8_side_se_X4_fallAlong : Cond.selects RX4 yX4_fallAlong yX4_fallAlong ∈ wsX8_side := by decide +kernel
abbrev rmX8_side_f : Room := { frames := 6, cells := 0, slots := 0, locals := 137 }
set_option maxHeartbeats 4000000 in
set_option maxRecDepth 100000 in
/-- X8_side_f -/
theorem kX8_side_f (l : Launch) (G : kG) (B0 : Nat) (f : kH) (h nn wL tA nc : Nat) (vs vd vg vw vm vp : Value) (r z : Nat → Nat) (M : Nat → Nat → Int64) (sz : Nat) (w e1 e2 : Nat → Nat) (x y k : Nat) (hM : kCs f [(h, .inr (8, [vs, vd, vg, vw, vm, vp, .ref nn]))]) (hN : kCs f (mxW G nn wL tA nc r z M)) (hz : mxZ z) (hwl : kWl G f (mxAs nn tA r) wL sz w e1 e2) (hnc : nc ≤ 6) (hnc1 : 1 ≤ nc) (hsz : sz ≤ 10) (he : ∀ k : Nat, k < sz → e1 k < nc ∧ e2 k < nc) (hh9 : h ∉ mxAs nn tA r) (hx9 : x < nc) (hy9 : y < nc) (hxy : ¬ x = y) (hne : ¬ (mxDet (nc - 1) z (mxFill z e1 e2 nc sz 0 M)).1 = 0) (hk9 : k < sz) : Met l yX8_side wsX8_side (rmX8_side_f) (kP G B0 f [.ref h, .int (nI x), .int (nI y), .int (nI k)]) (kQi G B0 (fun r9 f1 => r9 = ((mxH ((mxDet (nc - 1) z (mxFill z e1 e2 nc sz 0 M)).2.1) e1 e2 nc sz ((mxDet (nc - 1) z (mxFill z e1 e2 nc sz 0 M)).2.2) (e1 k) x y).1 - (mxH (mxH ((mxDet (nc - 1) z (mxFill z e1 e2 nc sz 0 M)).2.1) e1 e2 nc sz ((mxDet (nc - 1) z (mxFill z e1 e2 nc sz 0 M)).2.2) (e1 k) x y).2.1 e1 e2 nc sz (mxH ((mxDet (nc - 1) z (mxFill z e1 e2 nc sz 0 M)).2.1) e1 e2 nc sz ((mxDet (nc - 1) z (mxFill z e1 e2 nc sz 0 M)).2.2) (e1 k) x y).2.2 (e2 k) x y).1).toInt32 ∧ kCs f1 (mxW G nn wL tA nc r ((mxH (mxH ((mxDet (nc - 1) z (mxFill z e1 e2 nc sz 0 M)).2.1) e1 e2 nc sz ((mxDet (nc - 1) z (mxFill z e1 e2 nc sz 0 M)).2.2) (e1 k) x y).2.1 e1 e2 nc sz (mxH ((mxDet (nc - 1) z (mxFill z e1 e2 nc sz 0 M)).2.1) e1 e2 nc sz ((mxDet (nc - 1) z (mxFill z e1 e2 nc sz 0 M)).2.2) (e1 k) x y).2.2 (e2 k) x y).2.1) ((mxH (mxH ((mxDet (nc - 1) z (mxFill z e1 e2 nc sz 0 M)).2.1) e1 e2 nc sz ((mxDet (nc - 1) z (mxFill z e1 e2 nc sz 0 M)).2.2) (e1 k) x y).2.1 e1 e2 nc sz (mxH ((mxDet (nc - 1) z (mxFill z e1 e2 nc sz 0 M)).2.1) e1 e2 nc sz ((mxDet (nc - 1) z (mxFill z e1 e2 nc sz 0 M)).2.2) (e1 k) x y).2.2 (e2 k) x y).2.2)) ∧ kOff (mxAs nn tA r) f f1)) 0 0 (kAb B0) := by
  refine kMet (cc := cX8_side) (maxL := 4) (ret := (some .int)) (by decide) rfl (Nat.le_of_ble_eq_true rfl) ?_
  intro p e s m args below meth c H locs Q ls C hX hl hr hlocks hnm hQ
  have hl : lv_has ls 4 [(0, .ref h), (1, .int (nI x)), (2, .int (nI y)), (3, .int (nI k))] := hl
  refine lv_aload_n C.x C.b dX8_side_0 rfl (lv_at hl 0 rfl) ?_
  refine k_get (X := RX8) (T := TX8) (N := 7) (v := .ref nn) C hX (hM.at 0 rfl) rfl hin_X8_side_RX8 6 (by decide) lk_X8_side_f48 (fun _ h9 => h9) rfl dX8_side_1 ?_
  refine lv_iload_n C.x C.b dX8_side_4 rfl (lv_at hl 1 rfl) ?_
  refine k_calli (va_runVN (As := [.int (nI x)]) (rest := []) C.1 (kX4_hasNode l G B0 f nn wL tA nc r z M (nI x) hN hz hnc) ⟨va_cnB 1 C.ts gX8_side_X4_hasNode_n313 rfl rfl rfl (C.2.1.2.2.1 _ (show ((RX8, 313, yX4_hasNode, "Koebehall") : String × Nat × MethodName × String) ∈ kNestM by decide +kernel)) (C.ts _ lk_X8_side_in_RX4) hdX8_side_X4_hasNode ⟨Nat.le_of_ble_eq_true rfl, Nat.le_of_ble_eq_true rfl⟩, C.ts _ lk_X8_side_im_X4_hasNode, C.ts _ lk_X8_side_se_X4_hasNode⟩ (k_preV C hX (hN.at 0 rfl) rfl) rfl rfl hl.1 rfl (lv_room (Nat.le_of_ble_eq_true rfl)) dX8_side_5 ⟨Nat.le_of_ble_eq_true rfl, Nat.le_of_ble_eq_true rfl⟩) hX (fun r5 f5 H locs hp5 hX => ?_)
  obtain ⟨hr5, hf5⟩ := hp5
  rw [hf5] at hX
  refine k_topi (y := (kbI (mIn (nI x) nc))) hr5 ?_
  refine lv_if_eq (tgt := 22) C.x C.b dX8_side_8 (by decide) (fun c_8 => ?_) (fun c_8 => ?_)
  · exact absurd ((mIn_nI (by omega)).mpr hx9) (kbI_0 c_8)
  refine lv_aload_n C.x C.b dX8_side_11 rfl (lv_at hl 0 rfl) ?_
  refine k_get (X := RX8) (T := TX8) (N := 7) (v := .ref nn) C hX (hM.at 0 rfl) rfl hin_X8_side_RX8 6 (by decide) lk_X8_side_f48 (fun _ h9 => h9) rfl dX8_side_12 ?_
  refine lv_iload_n C.x C.b dX8_side_15 rfl (lv_at hl 2 rfl) ?_
  refine k_calli (va_runVN (As := [.int (nI y)]) (rest := []) C.1 (kX4_hasNode l G B0 f nn wL tA nc r z M (nI y) hN hz hnc) ⟨va_cnB 1 C.ts gX8_side_X4_hasNode_n313 rfl rfl rfl (C.2.1.2.2.1 _ (show ((RX8, 313, yX4_hasNode, "Koebehall") : String × Nat × MethodName × String) ∈ kNestM by decide +kernel)) (C.ts _ lk_X8_side_in_RX4) hdX8_side_X4_hasNode ⟨Nat.le_of_ble_eq_true rfl, Nat.le_of_ble_eq_true rfl⟩, C.ts _ lk_X8_side_im_X4_hasNode, C.ts _ lk_X8_side_se_X4_hasNode⟩ (k_preV C hX (hN.at 0 rfl) rfl) rfl rfl hl.1 rfl (lv_room (Nat.le_of_ble_eq_true rfl)) dX8_side_16 ⟨Nat.le_of_ble_eq_true rfl, Nat.le_of_ble_eq_true rfl⟩) hX (fun r16 f16 H locs hp16 hX => ?_)
  obtain ⟨hr16, hf16⟩ := hp16
  rw [hf16] at hX
  refine k_topi (y := (kbI (mIn (nI y) nc))) hr16 ?_
  refine lv_if_ne (tgt := 33) C.x C.b dX8_side_19 (by decide) (fun c_19 => ?_) (fun c_19 => ?_)
  rotate_left
  · exact absurd ((mIn_nI (by omega)).mpr hy9) (kbI_0 c_19)
  refine lv_iload_n C.x C.b dX8_side_33 rfl (lv_at hl 3 rfl) ?_
  refine lv_iconst (v := -1) C.x C.b dX8_side_34 (by decide) ?_
  refine lv_icmp_eq (tgt := 60) C.x C.b dX8_side_35 (by decide) (fun c_35 => ?_) (fun c_35 => ?_)
  · skip
    exact absurd c_35 (nI_ne1 (by omega))
  · skip
    refine lv_aload_n C.x C.b dX8_side_38 rfl (lv_at hl 0 rfl) ?_
    refine k_get (X := RX8) (T := TX8) (N := 7) (v := .ref nn) C hX (hM.at 0 rfl) rfl hin_X8_side_RX8 6 (by decide) lk_X8_side_f48 (fun _ h9 => h9) rfl dX8_side_39 ?_
    refine lv_iload_n C.x C.b dX8_side_42 rfl (lv_at hl 3 rfl) ?_
    refine k_calli (va_runVN (As := [.int (nI k)]) (rest := []) C.1 (kX4_hasWire l G B0 f nn wL tA nc r z M sz w e1 e2 (nI k) hN hz hwl hnc hnc1 hsz he) ⟨va_cnB 1 C.ts gX8_side_X4_hasWire_n333 rfl rfl rfl (C.2.1.2.2.1 _ (show ((RX8, 333, yX4_hasWire, "Koebehall") : String × Nat × MethodName × String) ∈ kNestM by decide +kernel)) (C.ts _ lk_X8_side_in_RX4) hdX8_side_X4_hasWire ⟨Nat.le_of_ble_eq_true rfl, Nat.le_of_ble_eq_true rfl⟩, C.ts _ lk_X8_side_im_X4_hasWire, C.ts _ lk_X8_side_se_X4_hasWire⟩ (k_preV C hX (hN.at 0 rfl) rfl) rfl rfl hl.1 rfl (lv_room (Nat.le_of_ble_eq_true rfl)) dX8_side_43 ⟨Nat.le_of_ble_eq_true rfl, Nat.le_of_ble_eq_true rfl⟩) hX (fun r43 f43 H locs hp43 hX => ?_)
    obtain ⟨hr43, hf43⟩ := hp43
    rw [hf43] at hX
    refine k_topi (y := (kbI (mIn (nI k) sz))) hr43 ?_
    refine lv_if_ne (tgt := 60) C.x C.b dX8_side_46 (by decide) (fun c_46 => ?_) (fun c_46 => ?_)
    rotate_left
    · exact absurd ((mIn_nI (by omega)).mpr hk9) (kbI_0 c_46)
    refine lv_iload_n C.x C.b dX8_side_60 rfl (lv_at hl 1 rfl) ?_
    refine lv_iload_n C.x C.b dX8_side_61 rfl (lv_at hl 2 rfl) ?_
    refine lv_icmp_ne (tgt := 76) C.x C.b dX8_side_62 (by decide) (fun c_62 => ?_) (fun c_62 => ?_)
    rotate_left
    · skip
      have c_62 : x = y := (nI_eq (by omega) (by omega)).mp c_62
      omega
    have c_62 : ¬ (x = y) := fun h9 => c_62 ((nI_eq (by omega) (by omega)).mpr h9)
    refine lv_aload_n C.x C.b dX8_side_76 rfl (lv_at hl 0 rfl) ?_
    refine k_get (X := RX8) (T := TX8) (N := 7) (v := .ref nn) C hX (hM.at 0 rfl) rfl hin_X8_side_RX8 6 (by decide) lk_X8_side_f48 (fun _ h9 => h9) rfl dX8_side_77 ?_
    refine k_calll (va_runVN (As := []) (rest := []) C.1 (kX4_treesByTable l G B0 f nn wL tA nc r z M sz w e1 e2 hN hz hwl hnc hnc1 hsz he) ⟨va_cnB 0 C.ts gX8_side_X4_treesByTable_n327 rfl rfl rfl (C.2.1.2.2.1 _ (show ((RX8, 327, yX4_treesByTable, "Koebehall") : String × Nat × MethodName × String) ∈ kNestM by decide +kernel)) (C.ts _ lk_X8_side_in_RX4) hdX8_side_X4_treesByTable ⟨Nat.le_of_ble_eq_true rfl, Nat.le_of_ble_eq_true rfl⟩, C.ts _ lk_X8_side_im_X4_treesByTable, C.ts _ lk_X8_side_se_X4_treesByTable⟩ (k_preV C hX (hN.at 0 rfl) rfl) rfl rfl hl.1 rfl (lv_room (Nat.le_of_ble_eq_true rfl)) dX8_side_80 ⟨Nat.le_of_ble_eq_true rfl, Nat.le_of_ble_eq_true rfl⟩) hX (fun r80 f80 H locs hp80 hX => ?_)
    obtain ⟨hr80, hN, hO80⟩ := hp80
    refine k_topl (y := (mxDet (nc - 1) z (mxFill z e1 e2 nc sz 0 M)).1) hr80 ?_
    have hM : kCs f80 [(h, .inr (8, [vs, vd, vg, vw, vm, vp, .ref nn]))] := kCs.one (by rw [hO80 _ hh9]; exact hM.at 0 rfl)
    refine lv_lconst (v := 0) C.x C.b dX8_side_83 (by decide) ?_
    refine k_lcmp_ne (tgt := 99) C.x C.b dX8_side_84 dX8_side_85 (by decide) (fun c_85 => ?_) (fun c_85 => ?_)
    · skip
      refine lv_iload_n C.x C.b dX8_side_99 rfl (lv_at hl 3 rfl) ?_
      refine lv_iconst (v := -1) C.x C.b dX8_side_100 (by decide) ?_
      refine lv_icmp_ne (tgt := 117) C.x C.b dX8_side_101 (by decide) (fun c_101 => ?_) (fun c_101 => ?_)
      · skip
        refine lv_aload_n C.x C.b dX8_side_117 rfl (lv_at hl 0 rfl) ?_
        refine k_get (X := RX8) (T := TX8) (N := 7) (v := .ref nn) C hX (hM.at 0 rfl) rfl hin_X8_side_RX8 6 (by decide) lk_X8_side_f48 (fun _ h9 => h9) rfl dX8_side_118 ?_
        refine lv_iload_n C.x C.b dX8_side_121 rfl (lv_at hl 3 rfl) ?_
        refine lv_iload_n C.x C.b dX8_side_122 rfl (lv_at hl 1 rfl) ?_
        refine lv_iload_n C.x C.b dX8_side_123 rfl (lv_at hl 2 rfl) ?_
        refine k_calll (va_runVN (As := [.int (nI k), .int (nI x), .int (nI y)]) (rest := []) C.1 (kX4_fallAlong l G B0 f80 nn wL tA nc r ((mxDet (nc - 1) z (mxFill z e1 e2 nc sz 0 M)).2.1) ((mxDet (nc - 1) z (mxFill z e1 e2 nc sz 0 M)).2.2) sz w e1 e2 k x y hN (mxD_z (nc - 1) (by omega) (nc - 1) 0 z _ 1 1 (by omega) hz) (hwl.keep hO80) hnc hnc1 hsz he hk9 hx9 hy9) ⟨va_cnB 3 C.ts gX8_side_X4_fallAlong_n346 rfl rfl rfl (C.2.1.2.2.1 _ (show ((RX8, 346, yX4_fallAlong, "Koebehall") : String × Nat × MethodName × String) ∈ kNestM by decide +kernel)) (C.ts _ lk_X8_side_in_RX4) hdX8_side_X4_fallAlong ⟨Nat.le_of_ble_eq_true rfl, Nat.le_of_ble_eq_true rfl⟩, C.ts _ lk_X8_side_im_X4_fallAlong, C.ts _ lk_X8_side_se_X4_fallAlong⟩ (k_preV C hX (hN.at 0 rfl) rfl) rfl rfl hl.1 rfl (lv_room (Nat.le_of_ble_eq_true rfl)) dX8_side_124 ⟨Nat.le_of_ble_eq_true rfl, Nat.le_of_ble_eq_true rfl⟩) hX (fun r124 f124 H locs hp124 hX => ?_)
        obtain ⟨hr124, hN, hO124⟩ := hp124
        refine k_topl (y := (mxH ((mxDet (nc - 1) z (mxFill z e1 e2 nc sz 0 M)).2.1) e1 e2 nc sz ((mxDet (nc - 1) z (mxFill z e1 e2 nc sz 0 M)).2.2) (e1 k) x y).1 - (mxH (mxH ((mxDet (nc - 1) z (mxFill z e1 e2 nc sz 0 M)).2.1) e1 e2 nc sz ((mxDet (nc - 1) z (mxFill z e1 e2 nc sz 0 M)).2.2) (e1 k) x y).2.1 e1 e2 nc sz (mxH ((mxDet (nc - 1) z (mxFill z e1 e2 nc sz 0 M)).2.1) e1 e2 nc sz ((mxDet (nc - 1) z (mxFill z e1 e2 nc sz 0 M)).2.2) (e1 k) x y).2.2 (e2 k) x y).1) hr124 ?_
        refine lv_l2i (v := ((mxH ((mxDet (nc - 1) z (mxFill z e1 e2 nc sz 0 M)).2.1) e1 e2 nc sz ((mxDet (nc - 1) z (mxFill z e1 e2 nc sz 0 M)).2.2) (e1 k) x y).1 - (mxH (mxH ((mxDet (nc - 1) z (mxFill z e1 e2 nc sz 0 M)).2.1) e1 e2 nc sz ((mxDet (nc - 1) z (mxFill z e1 e2 nc sz 0 M)).2.2) (e1 k) x y).2.1 e1 e2 nc sz (mxH ((mxDet (nc - 1) z (mxFill z e1 e2 nc sz 0 M)).2.1) e1 e2 nc sz ((mxDet (nc - 1) z (mxFill z e1 e2 nc sz 0 M)).2.2) (e1 k) x y).2.2 (e2 k) x y).1).toInt32) C.x C.b dX8_side_127 rfl ?_
        exact k_iret C hX hr hlocks hQ (by omega) (by omega) (⟨rfl, hN, hO80.trans hO124⟩) dX8_side_128
      · skip
        exact absurd c_101 (nI_ne1 (by omega))
    · skip
      exact absurd c_85 hne
