
theorem hdX8_turn_X8_fourOf : yX8_fourOf.cls ≠ "java/lang/invoke/MethodHandle" ∧ yX8_fourOf.cls ≠ "java/lang/invoke/VarHandle" ∧ (parseMethodDescriptor yX8_fourOf.desc).map (fun d => d.parameters.length) = some 2 := by decide +kernel
theorem hdX8_turn_X2_turnedAt : yX2_turnedAt.cls ≠ "java/lang/invoke/MethodHandle" ∧ yX2_turnedAt.cls ≠ "java/lang/invoke/VarHandle" ∧ (parseMethodDescriptor yX2_turnedAt.desc).map (fun d => d.parameters.length) = some 2 := by decide +kernel
theorem lk_X8_turn_in_RX2 : Cond.initialized RX2 ∈ wsX8_turn := by decide +kernel
theorem lk_X8_turn_st_X2_turnedAt : Cond.static yX2_turnedAt ∈ wsX8_turn := by decide +kernel
theorem lk_X8_turn_c205 : Cond.constantLong RX8 205 (1000000000000000) ∈ wsX8_turn := by decide +kernel
abbrev rmX8_turn : Room := { frames := 5, cells := 0, slots := 0, locals := 108 }
set_option maxHeartbeats 4000000 in
set_option maxRecDepth 100000 in
/-- X8_turn -/
theorem kX8_turn (l : Launch) (G : kG) (B0 : Nat) (f : kH) (h dl sz : Nat) (vs vd vw vm vp vn : Value) (w u1 u2 u3 : Nat → Nat) (fo le wa : Nat → Nat → Int64) (i pl : Nat) (hM : kCs f [(h, .inr (8, [vs, vd, .ref dl, vw, vm, vp, vn])), (u1 i, kaJ G 4 (fo i))]) (hdl : kLs G f dl sz w (gkE u1 u2 u3)) (har : gkA G f sz u1 u2 u3 fo le wa) (hsz : sz ≤ 8) (hi : i < sz) (hpl : pl < 4) (hle : ¬ 1000000000000000 < xTurn (fo i) pl) : Met l yX8_turn wsX8_turn (rmX8_turn) (kP G B0 f [.ref h, .int (nI i), .int (nI pl)]) (kQl G B0 (fun r f1 => r = xTurn (fo i) pl ∧ kCs f1 [(h, .inr (8, [vs, vd, .ref dl, vw, vm, vp, vn])), (u1 i, kaJ G 4 (vp_updL (fo i) pl (xTurn (fo i) pl)))] ∧ kKp [u1 i] f f1)) 0 0 (kAb B0) := by
  refine kMet (cc := cX8_turn) (maxL := 6) (ret := (some .long)) (by decide) rfl (Nat.le_of_ble_eq_true rfl) ?_
  intro p e s m args below meth c H locs Q ls C hX hl hr hlocks hnm hQ
  have hO : kKp [u1 i] f f := kKp.rf
  have hS : ∀ a ∈ [u1 i], (f a).isSome := by
    intro a h9
    simp only [List.mem_cons, List.not_mem_nil, or_false] at h9
    rcases h9 with rfl
    · rw [hM.at 1 rfl]; rfl
  have hl : lv_has ls 6 [(0, .ref h), (1, .int (nI i)), (2, .int (nI pl))] := hl
  refine lv_aload_n C.x C.b dX8_turn_0 rfl (lv_at hl 0 rfl) ?_
  refine lv_iload_n C.x C.b dX8_turn_1 rfl (lv_at hl 1 rfl) ?_
  refine lv_iload_n C.x C.b dX8_turn_2 rfl (lv_at hl 2 rfl) ?_
  have hM9 : kCs f ([(h, .inr (8, [vs, vd, .ref dl, vw, vm, vp, vn]))]) := hM.pick [0] (by decide) ⟨rfl, trivial⟩
  refine k_callq (va_runV (As := [.int (nI i), .int (nI pl)]) (rest := []) C.1 (kX8_fourOf l G B0 f h dl sz vs vd vw vm vp vn w u1 u2 u3 fo le wa i pl hM9 hdl har hsz hi hpl) (cwV 2 C.ts gX8_turn_X8_fourOf rfl rfl rfl ⟨rfl, hdX8_turn_X8_fourOf⟩ ⟨Nat.le_of_ble_eq_true rfl, Nat.le_of_ble_eq_true rfl⟩) (k_preV C hX (hM.at 0 rfl) rfl) rfl rfl hl.1 rfl (lv_room (Nat.le_of_ble_eq_true rfl)) dX8_turn_3 ⟨Nat.le_of_ble_eq_true rfl, Nat.le_of_ble_eq_true rfl⟩) hX (fun r3 f3 H locs hp3 hX => ?_)
  obtain ⟨hr3, hf3⟩ := hp3
  rw [hf3] at hX
  refine k_topq (v := u1 i) hr3 ?_
  refine lv_astore_n (lv' := [(3, .ref (u1 i)), (0, .ref h), (1, .int (nI i)), (2, .int (nI pl))]) C.x C.b dX8_turn_6 rfl hl (by decide) rfl (fun ls hl => ?_)
  refine lv_aload_n C.x C.b dX8_turn_7 rfl (lv_at hl 0 rfl) ?_
  refine lv_iload_n C.x C.b dX8_turn_8 rfl (lv_at hl 3 rfl) ?_
  refine k_calll (va_runSN (As := [.ref (u1 i), .int (nI pl)]) (rest := []) C.1 (kX2_turnedAt l G B0 f (u1 i) (fo i) pl (kCs.one (har i hi).1) hpl) ⟨va_cnB 2 C.ts gX8_turn_X2_turnedAt_n201 rfl rfl rfl (C.2.1.2.2.1 _ (show ((RX8, 201, yX2_turnedAt, "Koebehall") : String × Nat × MethodName × String) ∈ kNestM by decide +kernel)) (C.ts _ lk_X8_turn_in_RX2) hdX8_turn_X2_turnedAt ⟨Nat.le_of_ble_eq_true rfl, Nat.le_of_ble_eq_true rfl⟩, C.ts _ lk_X8_turn_st_X2_turnedAt, trivial⟩ (k_preS C hX) rfl rfl hl.1 rfl (lv_room (Nat.le_of_ble_eq_true rfl)) dX8_turn_9 ⟨Nat.le_of_ble_eq_true rfl, Nat.le_of_ble_eq_true rfl⟩) hX (fun r9 f9 H locs hp9 hX => ?_)
  obtain ⟨hr9, hf9⟩ := hp9
  rw [hf9] at hX
  refine k_topl (y := (xTurn (fo i) pl)) hr9 ?_
  refine lv_lstore (lv' := [(4, .long (xTurn (fo i) pl)), (3, .ref (u1 i)), (0, .ref h), (1, .int (nI i)), (2, .int (nI pl))]) C.x C.b dX8_turn_12 hl (by decide) rfl (fun ls hl => ?_)
  refine lv_lload C.x C.b dX8_turn_14 (lv_at hl 0 rfl) ?_
  refine lv_ldc2 (v := 1000000000000000) C.x C.b C.ow (C.ts _ lk_X8_turn_c205) dX8_turn_16 ?_
  refine k_lcmp_le (tgt := 33) C.x C.b dX8_turn_19 dX8_turn_20 (by decide) (fun c_20 => ?_) (fun c_20 => ?_)
  · skip
    refine lv_aload_n C.x C.b dX8_turn_33 rfl (lv_at hl 1 rfl) ?_
    refine lv_iload_n C.x C.b dX8_turn_34 rfl (lv_at hl 4 rfl) ?_
    refine lv_lload C.x C.b dX8_turn_35 (lv_at hl 0 rfl) ?_
    refine k_last C hX (hM.at 1 rfl) (vp_in_nI (by omega) (by omega)) dX8_turn_37 (fun H locs hX => ?_)
    rw [nI_clamp (by omega)] at hX
    obtain ⟨g1, hX, hM, hO, hS⟩ := kX.wrP hX hM hO hS 1 rfl (Or.inl (by simp))
    have hM : kCs g1 ([(h, .inr (8, [vs, vd, .ref dl, vw, vm, vp, vn])), (u1 i, kaJ G 4 (vp_updL (fo i) pl (xTurn (fo i) pl)))]) := hM
    refine lv_lload C.x C.b dX8_turn_38 (lv_at hl 0 rfl) ?_
    exact k_lret C hX hr hlocks hQ (by omega) (by omega) (⟨rfl, hM, hO⟩) dX8_turn_40
  · skip
    exact absurd c_20 hle

theorem hdX8_move_X8_hasDisk : yX8_hasDisk.cls ≠ "java/lang/invoke/MethodHandle" ∧ yX8_hasDisk.cls ≠ "java/lang/invoke/VarHandle" ∧ (parseMethodDescriptor yX8_hasDisk.desc).map (fun d => d.parameters.length) = some 1 := by decide +kernel
theorem hdX8_move_X8_isDisk : yX8_isDisk.cls ≠ "java/lang/invoke/MethodHandle" ∧ yX8_isDisk.cls ≠ "java/lang/invoke/VarHandle" ∧ (parseMethodDescriptor yX8_isDisk.desc).map (fun d => d.parameters.length) = some 3 := by decide +kernel
theorem lk_X8_move_f19 : Cond.fieldLink RX8 19 "Koebehall" "disks" "Ljava/util/ArrayList;" ∈ wsX8_move := by decide +kernel
theorem hin_X8_move_RX8 : ∀ w ∈ u_ws RX8 TX8 7, w ∈ wsX8_move := by decide +kernel
theorem hdX8_move_Jx4a65c_get_915e3 : yJx4a65c_get_915e3.cls ≠ "java/lang/invoke/MethodHandle" ∧ yJx4a65c_get_915e3.cls ≠ "java/lang/invoke/VarHandle" ∧ (parseMethodDescriptor yJx4a65c_get_915e3.desc).map (fun d => d.parameters.length) = some 1 := by decide +kernel
theorem lk_X8_move_cl134 : Cond.classLink RX8 134 RX0 ∈ wsX8_move := by decide +kernel
theorem lk_X8_move_new134 : ∀ w ∈ [Cond.classLink RX8 134 RX0, Cond.instantiable RX0 3, Cond.initialized RX0], w ∈ wsX8_move := by decide +kernel
theorem hin_X8_move_RX0 : ∀ w ∈ u_ws RX0 TX0 3, w ∈ wsX8_move := by decide +kernel
theorem hdX8_move_X0_init : yX0_init.cls ≠ "java/lang/invoke/MethodHandle" ∧ yX0_init.cls ≠ "java/lang/invoke/VarHandle" ∧ (parseMethodDescriptor yX0_init.desc).map (fun d => d.parameters.length) = some 3 := by decide +kernel
theorem lk_X8_move_in_RX0 : Cond.initialized RX0 ∈ wsX8_move := by decide +kernel
theorem lk_X8_move_im_X0_init : Cond.instanceMethod yX0_init ∈ wsX8_move := by decide +kernel
theorem hdX8_move_Jx4a65c_set_bcc79 : yJx4a65c_set_bcc79.cls ≠ "java/lang/invoke/MethodHandle" ∧ yJx4a65c_set_bcc79.cls ≠ "java/lang/invoke/VarHandle" ∧ (parseMethodDescriptor yJx4a65c_set_bcc79.desc).map (fun d => d.parameters.length) = some 2 := by decide +kernel
abbrev rmX8_move : Room := { frames := 3, cells := 1, slots := 3, locals := 66 }
set_option maxHeartbeats 4000000 in
set_option maxRecDepth 100000 in
/-- X8_move -/
theorem kX8_move (l : Launch) (G : kG) (B0 : Nat) (f : kH) (h dl q t0 : Nat) (mc : Int32) (sz cap i : Nat) (g0 : Nat → Option Nat) (vs vg vw vm vp vn : Value) (y1 y2 y3 : Int64) (w : Nat → Nat) (dx dy dr : Nat → Int64) (x1 x2 x3 : Int32) (hw : cIn x1.toInt64 1000000000 ∧ cIn x2.toInt64 1000000000 ∧ ¬ x3 < nI 1 ∧ ¬ nI 1000000000 < x3) (hM : kCs f [(h, .inr (8, [vs, .ref dl, vg, vw, vm, vp, vn])), (dl, .inr (0, [.int mc, .ref q, .int (nI sz)])), (q, kaO G cap g0), (t0, .inr (1, [.long y1, .long y2, .long y3]))]) (hdl : kLs G f dl sz w (dsE dx dy dr)) (hsz : sz ≤ 16) (hi : i < sz) (hcap : sz ≤ cap) (hc9 : cap < 2 ^ 31) (hg : g0 i = some t0) : Met l yX8_move wsX8_move (rmX8_move) (kP G B0 f [.ref h, .int (nI i), .int x1, .int x2, .int x3]) (kQi G B0 (fun r f1 => ∃ t : Nat, r = y3.toInt32 ∧ f t = none ∧ kCs f1 [(h, .inr (8, [vs, .ref dl, vg, vw, vm, vp, vn])), (dl, .inr (0, [.int mc, .ref q, .int (nI sz)])), (q, kaO G cap (va_up g0 i (some t))), (t0, .inr (1, [.long y1, .long y2, .long y3])), (t, .inr (1, [.long x1.toInt64, .long x2.toInt64, .long x3.toInt64]))] ∧ kKp [dl, q] f f1)) 1 3 (kAb B0) := by
  refine kMet (cc := cX8_move) (maxL := 6) (ret := (some .int)) (by decide) rfl (Nat.le_of_ble_eq_true rfl) ?_
  intro p e s m args below meth c H locs Q ls C hX hl hr hlocks hnm hQ
  have hO : kKp [dl, q] f f := kKp.rf
  have hS : ∀ a ∈ [dl, q], (f a).isSome := by
    intro a h9
    simp only [List.mem_cons, List.not_mem_nil, or_false] at h9
    rcases h9 with rfl | rfl
    · rw [hM.at 1 rfl]; rfl
    · rw [hM.at 2 rfl]; rfl
  have hl : lv_has ls 6 [(0, .ref h), (1, .int (nI i)), (2, .int x1), (3, .int x2), (4, .int x3)] := hl
  refine lv_aload_n C.x C.b dX8_move_0 rfl (lv_at hl 0 rfl) ?_
  refine lv_iload_n C.x C.b dX8_move_1 rfl (lv_at hl 1 rfl) ?_
  have hM9 : kCs f ([(h, .inr (8, [vs, .ref dl, vg, vw, vm, vp, vn]))]) := hM.pick [0] (by decide) ⟨rfl, trivial⟩
  refine k_calli (va_runV (As := [.int (nI i)]) (rest := []) C.1 (kX8_hasDisk l G B0 f h dl sz vs vg vw vm vp vn w dx dy dr (nI i) hM9 hdl hsz) (cwV 1 C.ts gX8_move_X8_hasDisk rfl rfl rfl ⟨rfl, hdX8_move_X8_hasDisk⟩ ⟨Nat.le_of_ble_eq_true rfl, Nat.le_of_ble_eq_true rfl⟩) (k_preV C hX (hM.at 0 rfl) rfl) rfl rfl hl.1 rfl (lv_room (Nat.le_of_ble_eq_true rfl)) dX8_move_2 ⟨Nat.le_of_ble_eq_true rfl, Nat.le_of_ble_eq_true rfl⟩) hX (fun r2 f2 H locs hp2 hX => ?_)
  obtain ⟨hr2, hf2⟩ := hp2
  rw [hf2] at hX
  refine k_topi (y := (kbI (mIn (nI i) sz))) hr2 ?_
  refine lv_if_ne (tgt := 18) C.x C.b dX8_move_5 (by decide) (fun c_5 => ?_) (fun c_5 => ?_)
  rotate_left
  · exact absurd ((mIn_nI (by omega)).mpr hi) (kbI_0 c_5)
  refine lv_iload_n C.x C.b dX8_move_18 rfl (lv_at hl 2 rfl) ?_
  refine lv_iload_n C.x C.b dX8_move_19 rfl (lv_at hl 3 rfl) ?_
  refine lv_iload C.x C.b dX8_move_20 (lv_at hl 4 rfl) ?_
  refine k_calli (va_runS (As := [.int x1, .int x2, .int x3]) (rest := []) C.1 (kX8_isDisk l G B0 f x1 x2 x3) (va_cwS 3 C.ts gX8_move_X8_isDisk rfl rfl rfl (hdX8_move_X8_isDisk) ⟨Nat.le_of_ble_eq_true rfl, Nat.le_of_ble_eq_true rfl⟩) (k_preS C hX) rfl rfl hl.1 rfl (lv_room (Nat.le_of_ble_eq_true rfl)) dX8_move_22 ⟨Nat.le_of_ble_eq_true rfl, Nat.le_of_ble_eq_true rfl⟩) hX (fun r22 f22 H locs hp22 hX => ?_)
  obtain ⟨hr22, hf22⟩ := hp22
  rw [hf22] at hX
  refine k_topi (y := (kbI (cIn x1.toInt64 1000000000 ∧ cIn x2.toInt64 1000000000 ∧ ¬ x3 < nI 1 ∧ ¬ nI 1000000000 < x3))) hr22 ?_
  refine lv_if_ne (tgt := 38) C.x C.b dX8_move_25 (by decide) (fun c_25 => ?_) (fun c_25 => ?_)
  rotate_left
  · exact absurd (hw) (kbI_0 c_25)
  refine lv_aload_n C.x C.b dX8_move_38 rfl (lv_at hl 0 rfl) ?_
  refine k_get (X := RX8) (T := TX8) (N := 7) (v := .ref dl) C hX (hM.at 0 rfl) rfl hin_X8_move_RX8 1 (by decide) lk_X8_move_f19 (fun _ h9 => h9) rfl dX8_move_39 ?_
  refine lv_iload_n C.x C.b dX8_move_42 rfl (lv_at hl 1 rfl) ?_
  have hM9 : kCs f ([(dl, .inr (0, [.int mc, .ref q, .int (nI sz)])), (q, kaO G cap g0)]) := hM.pick [1, 2] (by decide) ⟨rfl, rfl, trivial⟩
  refine k_callq (va_runV (As := [.int (nI i)]) (rest := []) C.1 (kJx4a65c_get_915e3 l G B0 f dl q mc sz cap g0 i t0 hi hcap hc9 hg hM9) (cwV 1 C.ts gX8_move_Jx4a65c_get_915e3 rfl rfl rfl ⟨rfl, hdX8_move_Jx4a65c_get_915e3⟩ ⟨Nat.le_of_ble_eq_true rfl, Nat.le_of_ble_eq_true rfl⟩) (k_preV C hX (hM.at 1 rfl) rfl) rfl rfl hl.1 rfl (lv_room (Nat.le_of_ble_eq_true rfl)) dX8_move_43 ⟨Nat.le_of_ble_eq_true rfl, Nat.le_of_ble_eq_true rfl⟩) hX (fun r43 f43 H locs hp43 hX => ?_)
  obtain ⟨hr43, hf43⟩ := hp43
  rw [hf43] at hX
  refine k_topq (v := t0) hr43 ?_
  refine k_cast C hX (hM.at 3 rfl) rfl (C.ts _ lk_X8_move_cl134) dX8_move_46 ?_
  refine lv_astore (lv' := [(5, .ref t0), (0, .ref h), (1, .int (nI i)), (2, .int x1), (3, .int x2), (4, .int x3)]) C.x C.b dX8_move_49 hl (by decide) rfl (fun ls hl => ?_)
  refine lv_aload_n C.x C.b dX8_move_51 rfl (lv_at hl 1 rfl) ?_
  refine k_get (X := RX8) (T := TX8) (N := 7) (v := .ref dl) C hX (hM.at 0 rfl) rfl hin_X8_move_RX8 1 (by decide) lk_X8_move_f19 (fun _ h9 => h9) rfl dX8_move_52 ?_
  refine lv_iload_n C.x C.b dX8_move_55 rfl (lv_at hl 2 rfl) ?_
  refine k_new (X := RX0) (T := TX0) (N := 3) (ci := 1) (fs := [.long 0, .long 0, .long 0]) C hX hin_X8_move_RX0 tyX0_ok lk_X8_move_new134 rfl (by decide) (by decide) (by decide) dX8_move_56 (fun n1 H hn hX => ?_)
  obtain ⟨g2, hX, hM, hO, fr_n1, hS⟩ := kX.nwP hX hM hO hn hS
  have hM : kCs g2 ([(h, .inr (8, [vs, .ref dl, vg, vw, vm, vp, vn])), (dl, .inr (0, [.int mc, .ref q, .int (nI sz)])), (q, kaO G cap g0), (t0, .inr (1, [.long y1, .long y2, .long y3])), (n1, .inr (1, [.long 0, .long 0, .long 0]))]) := hM
  refine lv_dup C.x C.b dX8_move_59 rfl ?_
  refine lv_iload_n C.x C.b dX8_move_60 rfl (lv_at hl 3 rfl) ?_
  refine lv_i2l (v := x1.toInt64) C.x C.b dX8_move_61 rfl ?_
  refine lv_iload_n C.x C.b dX8_move_62 rfl (lv_at hl 4 rfl) ?_
  refine lv_i2l (v := x2.toInt64) C.x C.b dX8_move_63 rfl ?_
  refine lv_iload C.x C.b dX8_move_64 (lv_at hl 5 rfl) ?_
  refine lv_i2l (v := x3.toInt64) C.x C.b dX8_move_66 rfl ?_
  have hM9 : kCs g2 ([(n1, .inr (1, [.long 0, .long 0, .long 0]))]) := hM.pick [4] (by decide) ⟨rfl, trivial⟩
  refine k_callv (va_runIN (As := [.long x1.toInt64, .long x2.toInt64, .long x3.toInt64]) (rest := [.ref n1, .int (nI i), .ref dl]) C.1 (kX0_init l G B0 g2 n1 x1.toInt64 x2.toInt64 x3.toInt64 hM9) ⟨va_cnB 3 C.ts gX8_move_X0_init_n136 rfl rfl rfl (C.2.1.2.2.1 _ (show ((RX8, 136, yX0_init, "Koebehall") : String × Nat × MethodName × String) ∈ kNestM by decide +kernel)) (C.ts _ lk_X8_move_in_RX0) hdX8_move_X0_init ⟨Nat.le_of_ble_eq_true rfl, Nat.le_of_ble_eq_true rfl⟩, rfl, C.ts _ lk_X8_move_im_X0_init⟩ (k_preS C hX) rfl rfl hl.1 rfl (lv_room (Nat.le_of_ble_eq_true rfl)) dX8_move_67 ⟨Nat.le_of_ble_eq_true rfl, Nat.le_of_ble_eq_true rfl⟩) hX (fun f67 H locs hp67 hX => ?_)
  obtain ⟨hM9, hO9⟩ := hp67
  have hM : kCs f67 ([(h, .inr (8, [vs, .ref dl, vg, vw, vm, vp, vn])), (dl, .inr (0, [.int mc, .ref q, .int (nI sz)])), (q, kaO G cap g0), (t0, .inr (1, [.long y1, .long y2, .long y3])), (n1, .inr (1, [.long x1.toInt64, .long x2.toInt64, .long x3.toInt64]))]) := hM.sub hM9 (kKp.of hO9) [4] (by simp) ⟨rfl, trivial⟩
  have hO := hO.then (kKp.of hO9) (by
      intro a h9
      simp only [List.mem_cons, List.not_mem_nil, or_false] at h9
      rcases h9 with rfl
      · exact Or.inr fr_n1)
  have hS : ∀ a ∈ [dl, q], (f67 a).isSome := by
    intro a h9
    simp only [List.mem_cons, List.not_mem_nil, or_false] at h9
    rcases h9 with rfl | rfl
    · rw [hM.at 1 rfl]; rfl
    · rw [hM.at 2 rfl]; rfl
  have hM9 : kCs f67 ([(dl, .inr (0, [.int mc, .ref q, .int (nI sz)])), (q, kaO G cap g0), (n1, .inr (1, [.long x1.toInt64, .long x2.toInt64, .long x3.toInt64]))]) := hM.pick [1, 2, 4] (by decide) ⟨rfl, rfl, rfl, trivial⟩
  refine k_callq (va_runV (As := [.int (nI i), .ref n1]) (rest := []) C.1 (kJx4a65c_set_bcc79 l G B0 f67 dl q mc sz cap g0 i t0 hi (by omega) hc9 hg n1 1 [.long x1.toInt64, .long x2.toInt64, .long x3.toInt64] _ rfl (by decide) hM9) (cwV 2 C.ts gX8_move_Jx4a65c_set_bcc79 rfl rfl rfl ⟨rfl, hdX8_move_Jx4a65c_set_bcc79⟩ ⟨Nat.le_of_ble_eq_true rfl, Nat.le_of_ble_eq_true rfl⟩) (k_preV C hX (hM.at 1 rfl) rfl) rfl rfl hl.1 rfl (lv_room (Nat.le_of_ble_eq_true rfl)) dX8_move_70 ⟨Nat.le_of_ble_eq_true rfl, Nat.le_of_ble_eq_true rfl⟩) hX (fun r70 f70 H locs hp70 hX => ?_)
  obtain ⟨hr70, hM9, hO9⟩ := hp70
  have hM : kCs f70 ([(h, .inr (8, [vs, .ref dl, vg, vw, vm, vp, vn])), (dl, .inr (0, [.int mc, .ref q, .int (nI sz)])), (q, kaO G cap (va_up g0 i (some n1))), (t0, .inr (1, [.long y1, .long y2, .long y3])), (n1, .inr (1, [.long x1.toInt64, .long x2.toInt64, .long x3.toInt64]))]) := hM.sub hM9 (kKp.of hO9) [1, 2, 4] (by simp) ⟨rfl, rfl, rfl, trivial⟩
  have hO := hO.then (kKp.of hO9) (by
      intro a h9
      simp only [List.mem_cons, List.not_mem_nil, or_false] at h9
      rcases h9 with rfl | rfl
      · exact Or.inl (by simp)
      · exact Or.inl (by simp))
  have hS : ∀ a ∈ [dl, q], (f70 a).isSome := by
    intro a h9
    simp only [List.mem_cons, List.not_mem_nil, or_false] at h9
    rcases h9 with rfl | rfl
    · rw [hM.at 1 rfl]; rfl
    · rw [hM.at 2 rfl]; rfl
  refine k_topq (v := t0) hr70 ?_
  refine lv_pop C.x C.b dX8_move_73 rfl ?_
  refine lv_aload C.x C.b dX8_move_74 (lv_at hl 0 rfl) ?_
  refine k_getN (host := "Koebehall") (X := RX0) (T := TX0) (N := 3) (v := .long y3) C hX (hM.at 3 rfl) rfl hin_X8_move_RX0 2 (by decide) (by decide +kernel) (fun _ h9 => h9) rfl dX8_move_76 ?_
  refine lv_l2i (v := y3.toInt32) C.x C.b dX8_move_79 rfl ?_
  exact k_iret C hX hr hlocks hQ (by omega) (by omega) (⟨n1, rfl, fr_n1, hM, hO⟩) dX8_move_80
