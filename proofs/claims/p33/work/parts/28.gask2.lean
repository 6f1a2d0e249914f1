abbrev gkE (g1 g2 g3 : Nat → Nat) (k : Nat) : va_E := .inr (2, [.ref (g1 k), .ref (g2 k), .ref (g3 k)])
/-- the gaskets' rows: told and turned, of the root, for walking -/
def gkA (G : kG) (f : kH) (sz : Nat) (g1 g2 g3 : Nat → Nat) (fo le wa : Nat → Nat → Int64) : Prop := ∀ k : Nat, k < sz → f (g1 k) = some (kaJ G 4 (fo k)) ∧ f (g2 k) = some (kaJ G 4 (le k)) ∧ f (g3 k) = some (kaJ G 4 (wa k))

theorem lk_X8_gasketOf_f23 : Cond.fieldLink RX8 23 "Koebehall" "gaskets" "Ljava/util/ArrayList;" ∈ wsX8_gasketOf := by decide +kernel
theorem hin_X8_gasketOf_RX8 : ∀ w ∈ u_ws RX8 TX8 7, w ∈ wsX8_gasketOf := by decide +kernel
theorem hdX8_gasketOf_Jx4a65c_size_8abf5 : yJx4a65c_size_8abf5.cls ≠ "java/lang/invoke/MethodHandle" ∧ yJx4a65c_size_8abf5.cls ≠ "java/lang/invoke/VarHandle" ∧ (parseMethodDescriptor yJx4a65c_size_8abf5.desc).map (fun d => d.parameters.length) = some 0 := by decide +kernel
theorem hdX8_gasketOf_Jx4a65c_get_915e3 : yJx4a65c_get_915e3.cls ≠ "java/lang/invoke/MethodHandle" ∧ yJx4a65c_get_915e3.cls ≠ "java/lang/invoke/VarHandle" ∧ (parseMethodDescriptor yJx4a65c_get_915e3.desc).map (fun d => d.parameters.length) = some 1 := by decide +kernel
theorem lk_X8_gasketOf_cl187 : Cond.classLink RX8 187 RX2 ∈ wsX8_gasketOf := by decide +kernel
abbrev rmX8_gasketOf : Room := { frames := 3, cells := 0, slots := 0, locals := 64 }
set_option maxHeartbeats 4000000 in
set_option maxRecDepth 100000 in
/-- X8_gasketOf -/
theorem kX8_gasketOf (l : Launch) (G : kG) (B0 : Nat) (f : kH) (h dl sz : Nat) (vs vd vw vm vp vn : Value) (w g1 g2 g3 : Nat → Nat) (fo le wa : Nat → Nat → Int64) (i : Nat) (hM : kCs f [(h, .inr (8, [vs, vd, .ref dl, vw, vm, vp, vn]))]) (hdl : kLs G f dl sz w (gkE g1 g2 g3)) (har : gkA G f sz g1 g2 g3 fo le wa) (hsz : sz ≤ 8) (hi : i < sz) : Met l yX8_gasketOf wsX8_gasketOf (rmX8_gasketOf) (kP G B0 f [.ref h, .int (nI i)]) (kQq G B0 (fun r f1 => r = some (w i) ∧ f1 = f)) 0 0 (kAb B0) := by
  refine kMet (cc := cX8_gasketOf) (maxL := 2) (ret := (some (.object "Koebehall$Gasket"))) (by decide) rfl (Nat.le_of_ble_eq_true rfl) ?_
  intro p e s m args below meth c H locs Q ls C hX hl hr hlocks hnm hQ
  have hl : lv_has ls 2 [(0, .ref h), (1, .int (nI i))] := hl
  refine lv_iload_n C.x C.b dX8_gasketOf_0 rfl (lv_at hl 1 rfl) ?_
  refine lv_if_lt (tgt := 15) C.x C.b dX8_gasketOf_1 (by decide) (fun c_1 => ?_) (fun c_1 => ?_)
  · skip
    exact absurd c_1 (nI_pos (by omega))
  · skip
    refine lv_iload_n C.x C.b dX8_gasketOf_4 rfl (lv_at hl 1 rfl) ?_
    refine lv_aload_n C.x C.b dX8_gasketOf_5 rfl (lv_at hl 0 rfl) ?_
    refine k_get (X := RX8) (T := TX8) (N := 7) (v := .ref dl) C hX (hM.at 0 rfl) rfl hin_X8_gasketOf_RX8 2 (by decide) lk_X8_gasketOf_f23 (fun _ h9 => h9) rfl dX8_gasketOf_6 ?_
    refine k_calli (va_runV (As := []) (rest := [.int (nI i)]) C.1 (kSizeL l G B0 f hdl) (cwV 0 C.ts gX8_gasketOf_Jx4a65c_size_8abf5 rfl rfl rfl ⟨rfl, hdX8_gasketOf_Jx4a65c_size_8abf5⟩ ⟨Nat.le_of_ble_eq_true rfl, Nat.le_of_ble_eq_true rfl⟩) (k_preV C hX (hdl.list.choose_spec) rfl) rfl rfl hl.1 rfl (lv_room (Nat.le_of_ble_eq_true rfl)) dX8_gasketOf_9 ⟨Nat.le_of_ble_eq_true rfl, Nat.le_of_ble_eq_true rfl⟩) hX (fun r9 f9 H locs hp9 hX => ?_)
    obtain ⟨hr9, hf9⟩ := hp9
    rw [hf9] at hX
    refine k_topi (y := (nI sz)) hr9 ?_
    refine lv_icmp_lt (tgt := 25) C.x C.b dX8_gasketOf_12 (by decide) (fun c_12 => ?_) (fun c_12 => ?_)
    rotate_left
    · skip
      have c_12 : ¬ (i < sz) := fun h9 => c_12 ((nI_ltI (by omega) (by omega)).mpr h9)
      omega
    have c_12 : i < sz := (nI_ltI (by omega) (by omega)).mp c_12
    refine lv_aload_n C.x C.b dX8_gasketOf_25 rfl (lv_at hl 0 rfl) ?_
    refine k_get (X := RX8) (T := TX8) (N := 7) (v := .ref dl) C hX (hM.at 0 rfl) rfl hin_X8_gasketOf_RX8 2 (by decide) lk_X8_gasketOf_f23 (fun _ h9 => h9) rfl dX8_gasketOf_26 ?_
    refine lv_iload_n C.x C.b dX8_gasketOf_29 rfl (lv_at hl 1 rfl) ?_
    refine k_callq (va_runV (As := [.int (nI i)]) (rest := []) C.1 (kGetL l G B0 f i hi hdl) (cwV 1 C.ts gX8_gasketOf_Jx4a65c_get_915e3 rfl rfl rfl ⟨rfl, hdX8_gasketOf_Jx4a65c_get_915e3⟩ ⟨Nat.le_of_ble_eq_true rfl, Nat.le_of_ble_eq_true rfl⟩) (k_preV C hX (hdl.list.choose_spec) rfl) rfl rfl hl.1 rfl (lv_room (Nat.le_of_ble_eq_true rfl)) dX8_gasketOf_30 ⟨Nat.le_of_ble_eq_true rfl, Nat.le_of_ble_eq_true rfl⟩) hX (fun r30 f30 H locs hp30 hX => ?_)
    obtain ⟨hr30, hf30⟩ := hp30
    rw [hf30] at hX
    refine k_topq (v := w i) hr30 ?_
    refine k_cast C hX (hdl.elt (by omega)) rfl (C.ts _ lk_X8_gasketOf_cl187) dX8_gasketOf_33 ?_
    exact k_aret (v := some (w i)) C hX hr (Or.inl ⟨_, rfl⟩) hlocks hQ (by omega) (by omega) (⟨rfl, rfl⟩) dX8_gasketOf_36

theorem hdX8_fourOf_X8_gasketOf : yX8_gasketOf.cls ≠ "java/lang/invoke/MethodHandle" ∧ yX8_gasketOf.cls ≠ "java/lang/invoke/VarHandle" ∧ (parseMethodDescriptor yX8_gasketOf.desc).map (fun d => d.parameters.length) = some 1 := by decide +kernel
theorem hin_X8_fourOf_RX2 : ∀ w ∈ u_ws RX2 TX2 3, w ∈ wsX8_fourOf := by decide +kernel
abbrev rmX8_fourOf : Room := { frames := 4, cells := 0, slots := 0, locals := 85 }
set_option maxHeartbeats 4000000 in
set_option maxRecDepth 100000 in
/-- X8_fourOf -/
theorem kX8_fourOf (l : Launch) (G : kG) (B0 : Nat) (f : kH) (h dl sz : Nat) (vs vd vw vm vp vn : Value) (w g1 g2 g3 : Nat → Nat) (fo le wa : Nat → Nat → Int64) (i pl : Nat) (hM : kCs f [(h, .inr (8, [vs, vd, .ref dl, vw, vm, vp, vn]))]) (hdl : kLs G f dl sz w (gkE g1 g2 g3)) (har : gkA G f sz g1 g2 g3 fo le wa) (hsz : sz ≤ 8) (hi : i < sz) (hpl : pl < 4) : Met l yX8_fourOf wsX8_fourOf (rmX8_fourOf) (kP G B0 f [.ref h, .int (nI i), .int (nI pl)]) (kQq G B0 (fun r f1 => r = some (g1 i) ∧ f1 = f)) 0 0 (kAb B0) := by
  refine kMet (cc := cX8_fourOf) (maxL := 4) (ret := (some (.array .long))) (by decide) rfl (Nat.le_of_ble_eq_true rfl) ?_
  intro p e s m args below meth c H locs Q ls C hX hl hr hlocks hnm hQ
  have hl : lv_has ls 4 [(0, .ref h), (1, .int (nI i)), (2, .int (nI pl))] := hl
  refine lv_aload_n C.x C.b dX8_fourOf_0 rfl (lv_at hl 0 rfl) ?_
  refine lv_iload_n C.x C.b dX8_fourOf_1 rfl (lv_at hl 1 rfl) ?_
  refine k_callq (va_runV (As := [.int (nI i)]) (rest := []) C.1 (kX8_gasketOf l G B0 f h dl sz vs vd vw vm vp vn w g1 g2 g3 fo le wa i hM hdl har hsz hi) (cwV 1 C.ts gX8_fourOf_X8_gasketOf rfl rfl rfl ⟨rfl, hdX8_fourOf_X8_gasketOf⟩ ⟨Nat.le_of_ble_eq_true rfl, Nat.le_of_ble_eq_true rfl⟩) (k_preV C hX (hM.at 0 rfl) rfl) rfl rfl hl.1 rfl (lv_room (Nat.le_of_ble_eq_true rfl)) dX8_fourOf_2 ⟨Nat.le_of_ble_eq_true rfl, Nat.le_of_ble_eq_true rfl⟩) hX (fun r2 f2 H locs hp2 hX => ?_)
  obtain ⟨hr2, hf2⟩ := hp2
  rw [hf2] at hX
  refine k_topq (v := w i) hr2 ?_
  refine lv_astore_n (lv' := [(3, .ref (w i)), (0, .ref h), (1, .int (nI i)), (2, .int (nI pl))]) C.x C.b dX8_fourOf_5 rfl hl (by decide) rfl (fun ls hl => ?_)
  refine lv_iload_n C.x C.b dX8_fourOf_6 rfl (lv_at hl 3 rfl) ?_
  refine lv_if_lt (tgt := 15) C.x C.b dX8_fourOf_7 (by decide) (fun c_7 => ?_) (fun c_7 => ?_)
  · skip
    exact absurd c_7 (nI_pos (by omega))
  · skip
    refine lv_iload_n C.x C.b dX8_fourOf_10 rfl (lv_at hl 3 rfl) ?_
    refine lv_iconst (v := nI 3) C.x C.b dX8_fourOf_11 (by decide) ?_
    refine lv_icmp_le (tgt := 25) C.x C.b dX8_fourOf_12 (by decide) (fun c_12 => ?_) (fun c_12 => ?_)
    rotate_left
    · skip
      have c_12 : ¬ (pl ≤ 3) := fun h9 => c_12 ((nI_leI (by omega) (by omega)).mpr h9)
      omega
    have c_12 : pl ≤ 3 := (nI_leI (by omega) (by omega)).mp c_12
    refine lv_aload_n C.x C.b dX8_fourOf_25 rfl (lv_at hl 0 rfl) ?_
    refine k_getN (host := "Koebehall") (X := RX2) (T := TX2) (N := 3) (v := .ref (g1 i)) C hX (hdl.elt (by omega)) rfl hin_X8_fourOf_RX2 0 (by decide) (by decide +kernel) (fun _ h9 => h9) rfl dX8_fourOf_26 ?_
    exact k_aret (v := some (g1 i)) C hX hr (Or.inr ⟨_, rfl⟩) hlocks hQ (by omega) (by omega) (⟨rfl, rfl⟩) dX8_fourOf_29

theorem hdX8_curvature_X8_fourOf : yX8_fourOf.cls ≠ "java/lang/invoke/MethodHandle" ∧ yX8_fourOf.cls ≠ "java/lang/invoke/VarHandle" ∧ (parseMethodDescriptor yX8_fourOf.desc).map (fun d => d.parameters.length) = some 2 := by decide +kernel
abbrev rmX8_curvature : Room := { frames := 5, cells := 0, slots := 0, locals := 108 }
set_option maxHeartbeats 4000000 in
set_option maxRecDepth 100000 in
/-- X8_curvature -/
theorem kX8_curvature (l : Launch) (G : kG) (B0 : Nat) (f : kH) (h dl sz : Nat) (vs vd vw vm vp vn : Value) (w g1 g2 g3 : Nat → Nat) (fo le wa : Nat → Nat → Int64) (i pl : Nat) (hM : kCs f [(h, .inr (8, [vs, vd, .ref dl, vw, vm, vp, vn]))]) (hdl : kLs G f dl sz w (gkE g1 g2 g3)) (har : gkA G f sz g1 g2 g3 fo le wa) (hsz : sz ≤ 8) (hi : i < sz) (hpl : pl < 4) : Met l yX8_curvature wsX8_curvature (rmX8_curvature) (kP G B0 f [.ref h, .int (nI i), .int (nI pl)]) (kQl G B0 (fun r f1 => r = fo i pl ∧ f1 = f)) 0 0 (kAb B0) := by
  refine kMet (cc := cX8_curvature) (maxL := 3) (ret := (some .long)) (by decide) rfl (Nat.le_of_ble_eq_true rfl) ?_
  intro p e s m args below meth c H locs Q ls C hX hl hr hlocks hnm hQ
  have hl : lv_has ls 3 [(0, .ref h), (1, .int (nI i)), (2, .int (nI pl))] := hl
  refine lv_aload_n C.x C.b dX8_curvature_0 rfl (lv_at hl 0 rfl) ?_
  refine lv_iload_n C.x C.b dX8_curvature_1 rfl (lv_at hl 1 rfl) ?_
  refine lv_iload_n C.x C.b dX8_curvature_2 rfl (lv_at hl 2 rfl) ?_
  refine k_callq (va_runV (As := [.int (nI i), .int (nI pl)]) (rest := []) C.1 (kX8_fourOf l G B0 f h dl sz vs vd vw vm vp vn w g1 g2 g3 fo le wa i pl hM hdl har hsz hi hpl) (cwV 2 C.ts gX8_curvature_X8_fourOf rfl rfl rfl ⟨rfl, hdX8_curvature_X8_fourOf⟩ ⟨Nat.le_of_ble_eq_true rfl, Nat.le_of_ble_eq_true rfl⟩) (k_preV C hX (hM.at 0 rfl) rfl) rfl rfl hl.1 rfl (lv_room (Nat.le_of_ble_eq_true rfl)) dX8_curvature_3 ⟨Nat.le_of_ble_eq_true rfl, Nat.le_of_ble_eq_true rfl⟩) hX (fun r3 f3 H locs hp3 hX => ?_)
  obtain ⟨hr3, hf3⟩ := hp3
  rw [hf3] at hX
  refine k_topq (v := g1 i) hr3 ?_
  refine lv_iload_n C.x C.b dX8_curvature_6 rfl (lv_at hl 2 rfl) ?_
  refine k_lald C hX ((har _ (by omega)).1) (vp_in_nI (by omega) (by omega)) dX8_curvature_7 ?_
  refine k_topl (y := (fo i) pl) (by rw [nI_clamp (by omega)]) ?_
  exact k_lret C hX hr hlocks hQ (by omega) (by omega) (⟨rfl, rfl⟩) dX8_curvature_8

theorem hdX8_root_X8_gasketOf : yX8_gasketOf.cls ≠ "java/lang/invoke/MethodHandle" ∧ yX8_gasketOf.cls ≠ "java/lang/invoke/VarHandle" ∧ (parseMethodDescriptor yX8_gasketOf.desc).map (fun d => d.parameters.length) = some 1 := by decide +kernel
theorem hin_X8_root_RX2 : ∀ w ∈ u_ws RX2 TX2 3, w ∈ wsX8_root := by decide +kernel
abbrev rmX8_root : Room := { frames := 4, cells := 0, slots := 0, locals := 85 }
set_option maxHeartbeats 4000000 in
set_option maxRecDepth 100000 in
/-- X8_root -/
theorem kX8_root (l : Launch) (G : kG) (B0 : Nat) (f : kH) (h dl sz : Nat) (vs vd vw vm vp vn : Value) (w g1 g2 g3 : Nat → Nat) (fo le wa : Nat → Nat → Int64) (i pl : Nat) (hM : kCs f [(h, .inr (8, [vs, vd, .ref dl, vw, vm, vp, vn]))]) (hdl : kLs G f dl sz w (gkE g1 g2 g3)) (har : gkA G f sz g1 g2 g3 fo le wa) (hsz : sz ≤ 8) (hi : i < sz) (hpl : pl < 4) : Met l yX8_root wsX8_root (rmX8_root) (kP G B0 f [.ref h, .int (nI i), .int (nI pl)]) (kQl G B0 (fun r f1 => r = le i pl ∧ f1 = f)) 0 0 (kAb B0) := by
  refine kMet (cc := cX8_root) (maxL := 4) (ret := (some .long)) (by decide) rfl (Nat.le_of_ble_eq_true rfl) ?_
  intro p e s m args below meth c H locs Q ls C hX hl hr hlocks hnm hQ
  have hl : lv_has ls 4 [(0, .ref h), (1, .int (nI i)), (2, .int (nI pl))] := hl
  refine lv_aload_n C.x C.b dX8_root_0 rfl (lv_at hl 0 rfl) ?_
  refine lv_iload_n C.x C.b dX8_root_1 rfl (lv_at hl 1 rfl) ?_
  refine k_callq (va_runV (As := [.int (nI i)]) (rest := []) C.1 (kX8_gasketOf l G B0 f h dl sz vs vd vw vm vp vn w g1 g2 g3 fo le wa i hM hdl har hsz hi) (cwV 1 C.ts gX8_root_X8_gasketOf rfl rfl rfl ⟨rfl, hdX8_root_X8_gasketOf⟩ ⟨Nat.le_of_ble_eq_true rfl, Nat.le_of_ble_eq_true rfl⟩) (k_preV C hX (hM.at 0 rfl) rfl) rfl rfl hl.1 rfl (lv_room (Nat.le_of_ble_eq_true rfl)) dX8_root_2 ⟨Nat.le_of_ble_eq_true rfl, Nat.le_of_ble_eq_true rfl⟩) hX (fun r2 f2 H locs hp2 hX => ?_)
  obtain ⟨hr2, hf2⟩ := hp2
  rw [hf2] at hX
  refine k_topq (v := w i) hr2 ?_
  refine lv_astore_n (lv' := [(3, .ref (w i)), (0, .ref h), (1, .int (nI i)), (2, .int (nI pl))]) C.x C.b dX8_root_5 rfl hl (by decide) rfl (fun ls hl => ?_)
  refine lv_iload_n C.x C.b dX8_root_6 rfl (lv_at hl 3 rfl) ?_
  refine lv_if_lt (tgt := 15) C.x C.b dX8_root_7 (by decide) (fun c_7 => ?_) (fun c_7 => ?_)
  · skip
    exact absurd c_7 (nI_pos (by omega))
  · skip
    refine lv_iload_n C.x C.b dX8_root_10 rfl (lv_at hl 3 rfl) ?_
    refine lv_iconst (v := nI 3) C.x C.b dX8_root_11 (by decide) ?_
    refine lv_icmp_le (tgt := 25) C.x C.b dX8_root_12 (by decide) (fun c_12 => ?_) (fun c_12 => ?_)
    rotate_left
    · skip
      have c_12 : ¬ (pl ≤ 3) := fun h9 => c_12 ((nI_leI (by omega) (by omega)).mpr h9)
      omega
    have c_12 : pl ≤ 3 := (nI_leI (by omega) (by omega)).mp c_12
    refine lv_aload_n C.x C.b dX8_root_25 rfl (lv_at hl 0 rfl) ?_
    refine k_getN (host := "Koebehall") (X := RX2) (T := TX2) (N := 3) (v := .ref (g2 i)) C hX (hdl.elt (by omega)) rfl hin_X8_root_RX2 1 (by decide) (by decide +kernel) (fun _ h9 => h9) rfl dX8_root_26 ?_
    refine lv_iload_n C.x C.b dX8_root_29 rfl (lv_at hl 3 rfl) ?_
    refine k_lald C hX ((har _ (by omega)).2.1) (vp_in_nI (by omega) (by omega)) dX8_root_30 ?_
    refine k_topl (y := (le i) pl) (by rw [nI_clamp (by omega)]) ?_
    exact k_lret C hX hr hlocks hQ (by omega) (by omega) (⟨rfl, rfl⟩) dX8_root_31

theorem hdX8_boundedGasket_X8_gasketOf : yX8_gasketOf.cls ≠ "java/lang/invoke/MethodHandle" ∧ yX8_gasketOf.cls ≠ "java/lang/invoke/VarHandle" ∧ (parseMethodDescriptor yX8_gasketOf.desc).map (fun d => d.parameters.length) = some 1 := by decide +kernel
theorem hin_X8_boundedGasket_RX2 : ∀ w ∈ u_ws RX2 TX2 3, w ∈ wsX8_boundedGasket := by decide +kernel
abbrev rmX8_boundedGasket : Room := { frames := 4, cells := 0, slots := 0, locals := 85 }
set_option maxHeartbeats 4000000 in
set_option maxRecDepth 100000 in
/-- X8_boundedGasket -/
theorem kX8_boundedGasket (l : Launch) (G : kG) (B0 : Nat) (f : kH) (h dl sz : Nat) (vs vd vw vm vp vn : Value) (w g1 g2 g3 : Nat → Nat) (fo le wa : Nat → Nat → Int64) (i b : Nat) (hM : kCs f [(h, .inr (8, [vs, vd, .ref dl, vw, vm, vp, vn]))]) (hdl : kLs G f dl sz w (gkE g1 g2 g3)) (har : gkA G f sz g1 g2 g3 fo le wa) (hsz : sz ≤ 8) (hi : i < sz) (hb1 : 1 ≤ b) (hb2 : b ≤ 1000) (hng : le i 0 < 0) : Met l yX8_boundedGasket wsX8_boundedGasket (rmX8_boundedGasket) (kP G B0 f [.ref h, .int (nI i), .int (nI b)]) (kQq G B0 (fun r f1 => r = some (w i) ∧ f1 = f)) 0 0 (kAb B0) := by
  refine kMet (cc := cX8_boundedGasket) (maxL := 4) (ret := (some (.object "Koebehall$Gasket"))) (by decide) rfl (Nat.le_of_ble_eq_true rfl) ?_
  intro p e s m args below meth c H locs Q ls C hX hl hr hlocks hnm hQ
  have hl : lv_has ls 4 [(0, .ref h), (1, .int (nI i)), (2, .int (nI b))] := hl
  refine lv_aload_n C.x C.b dX8_boundedGasket_0 rfl (lv_at hl 0 rfl) ?_
  refine lv_iload_n C.x C.b dX8_boundedGasket_1 rfl (lv_at hl 1 rfl) ?_
  refine k_callq (va_runV (As := [.int (nI i)]) (rest := []) C.1 (kX8_gasketOf l G B0 f h dl sz vs vd vw vm vp vn w g1 g2 g3 fo le wa i hM hdl har hsz hi) (cwV 1 C.ts gX8_boundedGasket_X8_gasketOf rfl rfl rfl ⟨rfl, hdX8_boundedGasket_X8_gasketOf⟩ ⟨Nat.le_of_ble_eq_true rfl, Nat.le_of_ble_eq_true rfl⟩) (k_preV C hX (hM.at 0 rfl) rfl) rfl rfl hl.1 rfl (lv_room (Nat.le_of_ble_eq_true rfl)) dX8_boundedGasket_2 ⟨Nat.le_of_ble_eq_true rfl, Nat.le_of_ble_eq_true rfl⟩) hX (fun r2 f2 H locs hp2 hX => ?_)
  obtain ⟨hr2, hf2⟩ := hp2
  rw [hf2] at hX
  refine k_topq (v := w i) hr2 ?_
  refine lv_astore_n (lv' := [(3, .ref (w i)), (0, .ref h), (1, .int (nI i)), (2, .int (nI b))]) C.x C.b dX8_boundedGasket_5 rfl hl (by decide) rfl (fun ls hl => ?_)
  refine lv_iload_n C.x C.b dX8_boundedGasket_6 rfl (lv_at hl 3 rfl) ?_
  refine lv_iconst (v := nI 1) C.x C.b dX8_boundedGasket_7 (by decide) ?_
  refine lv_icmp_lt (tgt := 18) C.x C.b dX8_boundedGasket_8 (by decide) (fun c_8 => ?_) (fun c_8 => ?_)
  · skip
    have c_8 : b < 1 := (nI_ltI (by omega) (by omega)).mp c_8
    omega
  have c_8 : ¬ (b < 1) := fun h9 => c_8 ((nI_ltI (by omega) (by omega)).mpr h9)
  refine lv_iload_n C.x C.b dX8_boundedGasket_11 rfl (lv_at hl 3 rfl) ?_
  refine lv_sipush (v := nI 1000) C.x C.b dX8_boundedGasket_12 (by decide) ?_
  refine lv_icmp_le (tgt := 28) C.x C.b dX8_boundedGasket_15 (by decide) (fun c_15 => ?_) (fun c_15 => ?_)
  rotate_left
  · skip
    have c_15 : ¬ (b ≤ 1000) := fun h9 => c_15 ((nI_leI (by omega) (by omega)).mpr h9)
    omega
  have c_15 : b ≤ 1000 := (nI_leI (by omega) (by omega)).mp c_15
  refine lv_aload_n C.x C.b dX8_boundedGasket_28 rfl (lv_at hl 0 rfl) ?_
  refine k_getN (host := "Koebehall") (X := RX2) (T := TX2) (N := 3) (v := .ref (g2 i)) C hX (hdl.elt (by omega)) rfl hin_X8_boundedGasket_RX2 1 (by decide) (by decide +kernel) (fun _ h9 => h9) rfl dX8_boundedGasket_29 ?_
  refine lv_iconst (v := nI 0) C.x C.b dX8_boundedGasket_32 (by decide) ?_
  refine k_lald C hX ((har _ (by omega)).2.1) (vp_in_nI (by omega) (by omega)) dX8_boundedGasket_33 ?_
  refine k_topl (y := (le i) 0) (by rw [nI_clamp (by omega)]) ?_
  refine lv_lconst (v := 0) C.x C.b dX8_boundedGasket_34 (by decide) ?_
  refine k_lcmp_lt (tgt := 49) C.x C.b dX8_boundedGasket_35 dX8_boundedGasket_36 (by decide) (fun c_36 => ?_) (fun c_36 => ?_)
  · skip
    refine lv_aload_n C.x C.b dX8_boundedGasket_49 rfl (lv_at hl 0 rfl) ?_
    exact k_aret (v := some (w i)) C hX hr (Or.inl ⟨_, rfl⟩) hlocks hQ (by omega) (by omega) (⟨rfl, rfl⟩) dX8_boundedGasket_50
  · skip
    exact absurd hng c_36

theorem hdX8_countAnew_X8_boundedGasket : yX8_boundedGasket.cls ≠ "java/lang/invoke/MethodHandle" ∧ yX8_boundedGasket.cls ≠ "java/lang/invoke/VarHandle" ∧ (parseMethodDescriptor yX8_boundedGasket.desc).map (fun d => d.parameters.length) = some 2 := by decide +kernel
theorem hdX8_countAnew_X2_circlesByThrees : yX2_circlesByThrees.cls ≠ "java/lang/invoke/MethodHandle" ∧ yX2_circlesByThrees.cls ≠ "java/lang/invoke/VarHandle" ∧ (parseMethodDescriptor yX2_circlesByThrees.desc).map (fun d => d.parameters.length) = some 1 := by decide +kernel
theorem lk_X8_countAnew_in_RX2 : Cond.initialized RX2 ∈ wsX8_countAnew := by decide +kernel
theorem lk_X8_countAnew_im_X2_circlesByThrees : Cond.instanceMethod yX2_circlesByThrees ∈ wsX8_countAnew := by decide +kernel
theorem lk_X8_countAnew_se_X2_circlesByThrees : Cond.selects RX2 yX2_circlesByThrees yX2_circlesByThrees ∈ wsX8_countAnew := by decide +kernel
abbrev rmX8_countAnew : Room := { frames := 105, cells := 0, slots := 0, locals := 3019 }
set_option maxHeartbeats 4000000 in
set_option maxRecDepth 100000 in
/-- X8_countAnew -/
theorem kX8_countAnew (l : Launch) (G : kG) (B0 : Nat) (f : kH) (h dl sz : Nat) (vs vd vw vm vp vn : Value) (w g1 g2 g3 : Nat → Nat) (fo le wa : Nat → Nat → Int64) (i b : Nat) (hM : kCs f [(h, .inr (8, [vs, vd, .ref dl, vw, vm, vp, vn]))]) (hdl : kLs G f dl sz w (gkE g1 g2 g3)) (har : gkA G f sz g1 g2 g3 fo le wa) (hsz : sz ≤ 8) (hi : i < sz) (hb1 : 1 ≤ b) (hb2 : b ≤ 1000) (hng : le i 0 < 0) (hW : jNlOk) (hne : g2 i ≠ w i) : Met l yX8_countAnew wsX8_countAnew (rmX8_countAnew) (kP G B0 f [.ref h, .int (nI i), .int (nI b)]) (kQi G B0 (fun r f1 => r = nI (kCnt (fun k => le i k ≤ (nI b).toInt64) 4) + cAm (nI b) 100 (le i 0) (le i 1) (le i 2) + cAm (nI b) 100 (le i 0) (le i 1) (le i 3) + cAm (nI b) 100 (le i 0) (le i 2) (le i 3) + cAm (nI b) 100 (le i 1) (le i 2) (le i 3) ∧ f1 = f)) 0 0 (kAb B0) := by
  refine kMet (cc := cX8_countAnew) (maxL := 3) (ret := (some .int)) (by decide) rfl (Nat.le_of_ble_eq_true rfl) ?_
  intro p e s m args below meth c H locs Q ls C hX hl hr hlocks hnm hQ
  have hl : lv_has ls 3 [(0, .ref h), (1, .int (nI i)), (2, .int (nI b))] := hl
  refine lv_aload_n C.x C.b dX8_countAnew_0 rfl (lv_at hl 0 rfl) ?_
  refine lv_iload_n C.x C.b dX8_countAnew_1 rfl (lv_at hl 1 rfl) ?_
  refine lv_iload_n C.x C.b dX8_countAnew_2 rfl (lv_at hl 2 rfl) ?_
  refine k_callq (va_runV (As := [.int (nI i), .int (nI b)]) (rest := []) C.1 (kX8_boundedGasket l G B0 f h dl sz vs vd vw vm vp vn w g1 g2 g3 fo le wa i b hM hdl har hsz hi hb1 hb2 hng) (cwV 2 C.ts gX8_countAnew_X8_boundedGasket rfl rfl rfl ⟨rfl, hdX8_countAnew_X8_boundedGasket⟩ ⟨Nat.le_of_ble_eq_true rfl, Nat.le_of_ble_eq_true rfl⟩) (k_preV C hX (hM.at 0 rfl) rfl) rfl rfl hl.1 rfl (lv_room (Nat.le_of_ble_eq_true rfl)) dX8_countAnew_3 ⟨Nat.le_of_ble_eq_true rfl, Nat.le_of_ble_eq_true rfl⟩) hX (fun r3 f3 H locs hp3 hX => ?_)
  obtain ⟨hr3, hf3⟩ := hp3
  rw [hf3] at hX
  refine k_topq (v := w i) hr3 ?_
  refine lv_iload_n C.x C.b dX8_countAnew_6 rfl (lv_at hl 2 rfl) ?_
  refine k_calli (va_runVN (As := [.int (nI b)]) (rest := []) C.1 (kX2_circlesByThrees l G B0 f (w i) (g1 i) (g2 i) (g3 i) (le i) (nI b) hW (kCs.two (hdl.elt hi) (har i hi).2.1 hne)) ⟨va_cnB 1 C.ts gX8_countAnew_X2_circlesByThrees_n226 rfl rfl rfl (C.2.1.2.2.1 _ (show ((RX8, 226, yX2_circlesByThrees, "Koebehall") : String × Nat × MethodName × String) ∈ kNestM by decide +kernel)) (C.ts _ lk_X8_countAnew_in_RX2) hdX8_countAnew_X2_circlesByThrees ⟨Nat.le_of_ble_eq_true rfl, Nat.le_of_ble_eq_true rfl⟩, C.ts _ lk_X8_countAnew_im_X2_circlesByThrees, C.ts _ lk_X8_countAnew_se_X2_circlesByThrees⟩ (k_preV C hX (hdl.elt (by omega)) rfl) rfl rfl hl.1 rfl (lv_room (Nat.le_of_ble_eq_true rfl)) dX8_countAnew_7 ⟨Nat.le_of_ble_eq_true rfl, Nat.le_of_ble_eq_true rfl⟩) hX (fun r7 f7 H locs hp7 hX => ?_)
  obtain ⟨hr7, hf7⟩ := hp7
  rw [hf7] at hX
  refine k_topi (y := (nI (kCnt (fun k => le i k ≤ (nI b).toInt64) 4) + cAm (nI b) 100 (le i 0) (le i 1) (le i 2) + cAm (nI b) 100 (le i 0) (le i 1) (le i 3) + cAm (nI b) 100 (le i 0) (le i 2) (le i 3) + cAm (nI b) 100 (le i 1) (le i 2) (le i 3))) hr7 ?_
  exact k_iret C hX hr hlocks hQ (by omega) (by omega) (⟨rfl, rfl⟩) dX8_countAnew_10

theorem hdX8_count_X8_boundedGasket : yX8_boundedGasket.cls ≠ "java/lang/invoke/MethodHandle" ∧ yX8_boundedGasket.cls ≠ "java/lang/invoke/VarHandle" ∧ (parseMethodDescriptor yX8_boundedGasket.desc).map (fun d => d.parameters.length) = some 2 := by decide +kernel
theorem hdX8_count_X2_circlesByTurns : yX2_circlesByTurns.cls ≠ "java/lang/invoke/MethodHandle" ∧ yX2_circlesByTurns.cls ≠ "java/lang/invoke/VarHandle" ∧ (parseMethodDescriptor yX2_circlesByTurns.desc).map (fun d => d.parameters.length) = some 1 := by decide +kernel
theorem lk_X8_count_in_RX2 : Cond.initialized RX2 ∈ wsX8_count := by decide +kernel
theorem lk_X8_count_im_X2_circlesByTurns : Cond.instanceMethod yX2_circlesByTurns ∈ wsX8_count := by decide +kernel
theorem lk_X8_count_se_X2_circlesByTurns : Cond.selects RX2 yX2_circlesByTurns yX2_circlesByTurns ∈ wsX8_count := by decide +kernel
abbrev rmX8_count : Room := { frames := 103, cells := 0, slots := 0, locals := 2973 }
set_option maxHeartbeats 4000000 in
set_option maxRecDepth 100000 in
/-- X8_count -/
theorem kX8_count (l : Launch) (G : kG) (B0 : Nat) (f : kH) (h dl sz : Nat) (vs vd vw vm vp vn : Value) (w g1 g2 g3 : Nat → Nat) (fo le wa : Nat → Nat → Int64) (i b : Nat) (hM : kCs f [(h, .inr (8, [vs, vd, .ref dl, vw, vm, vp, vn]))]) (hdl : kLs G f dl sz w (gkE g1 g2 g3)) (har : gkA G f sz g1 g2 g3 fo le wa) (hsz : sz ≤ 8) (hi : i < sz) (hb1 : 1 ≤ b) (hb2 : b ≤ 1000) (hng : le i 0 < 0) (h3 : kCs f [(w i, .inr (2, [.ref (g1 i), .ref (g2 i), .ref (g3 i)])), (g2 i, kaJ G 4 (le i)), (g3 i, kaJ G 4 (wa i))]) : Met l yX8_count wsX8_count (rmX8_count) (kP G B0 f [.ref h, .int (nI i), .int (nI b)]) (kQi G B0 (fun r f1 => r = nI (kCnt (fun k => le i k ≤ (nI b).toInt64) 4) + cRw (nI b) 100 (fun j9 => if j9 < 4 then le i j9 else wa i j9) (-1) ∧ f1 (g3 i) = some (kaJ G 4 (fun j9 => if j9 < 4 then le i j9 else wa i j9)) ∧ kKp [g3 i] f f1)) 0 0 (kAb B0) := by
  refine kMet (cc := cX8_count) (maxL := 3) (ret := (some .int)) (by decide) rfl (Nat.le_of_ble_eq_true rfl) ?_
  intro p e s m args below meth c H locs Q ls C hX hl hr hlocks hnm hQ
  have hl : lv_has ls 3 [(0, .ref h), (1, .int (nI i)), (2, .int (nI b))] := hl
  refine lv_aload_n C.x C.b dX8_count_0 rfl (lv_at hl 0 rfl) ?_
  refine lv_iload_n C.x C.b dX8_count_1 rfl (lv_at hl 1 rfl) ?_
  refine lv_iload_n C.x C.b dX8_count_2 rfl (lv_at hl 2 rfl) ?_
  refine k_callq (va_runV (As := [.int (nI i), .int (nI b)]) (rest := []) C.1 (kX8_boundedGasket l G B0 f h dl sz vs vd vw vm vp vn w g1 g2 g3 fo le wa i b hM hdl har hsz hi hb1 hb2 hng) (cwV 2 C.ts gX8_count_X8_boundedGasket rfl rfl rfl ⟨rfl, hdX8_count_X8_boundedGasket⟩ ⟨Nat.le_of_ble_eq_true rfl, Nat.le_of_ble_eq_true rfl⟩) (k_preV C hX (hM.at 0 rfl) rfl) rfl rfl hl.1 rfl (lv_room (Nat.le_of_ble_eq_true rfl)) dX8_count_3 ⟨Nat.le_of_ble_eq_true rfl, Nat.le_of_ble_eq_true rfl⟩) hX (fun r3 f3 H locs hp3 hX => ?_)
  obtain ⟨hr3, hf3⟩ := hp3
  rw [hf3] at hX
  refine k_topq (v := w i) hr3 ?_
  refine lv_iload_n C.x C.b dX8_count_6 rfl (lv_at hl 2 rfl) ?_
  refine k_calli (va_runVN (As := [.int (nI b)]) (rest := []) C.1 (kX2_circlesByTurns l G B0 f (w i) (g1 i) (g2 i) (g3 i) (le i) (wa i) (nI b) h3) ⟨va_cnB 1 C.ts gX8_count_X2_circlesByTurns_n223 rfl rfl rfl (C.2.1.2.2.1 _ (show ((RX8, 223, yX2_circlesByTurns, "Koebehall") : String × Nat × MethodName × String) ∈ kNestM by decide +kernel)) (C.ts _ lk_X8_count_in_RX2) hdX8_count_X2_circlesByTurns ⟨Nat.le_of_ble_eq_true rfl, Nat.le_of_ble_eq_true rfl⟩, C.ts _ lk_X8_count_im_X2_circlesByTurns, C.ts _ lk_X8_count_se_X2_circlesByTurns⟩ (k_preV C hX (hdl.elt (by omega)) rfl) rfl rfl hl.1 rfl (lv_room (Nat.le_of_ble_eq_true rfl)) dX8_count_7 ⟨Nat.le_of_ble_eq_true rfl, Nat.le_of_ble_eq_true rfl⟩) hX (fun r7 f7 H locs hp7 hX => ?_)
  obtain ⟨hr7, hM9, hO9⟩ := hp7
  refine k_topi (y := nI (kCnt (fun k => le i k ≤ (nI b).toInt64) 4) + cRw (nI b) 100 (fun j9 => if j9 < 4 then le i j9 else wa i j9) (-1)) hr7 ?_
  exact k_iret C hX hr hlocks hQ (by omega) (by omega) (⟨rfl, hM9.at 2 rfl, hO9⟩) dX8_count_10
