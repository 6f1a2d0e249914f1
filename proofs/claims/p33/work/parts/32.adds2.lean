
theorem hdX8_disk_X8_isDisk : yX8_isDisk.cls ≠ "java/lang/invoke/MethodHandle" ∧ yX8_isDisk.cls ≠ "java/lang/invoke/VarHandle" ∧ (parseMethodDescriptor yX8_isDisk.desc).map (fun d => d.parameters.length) = some 3 := by decide +kernel
theorem lk_X8_disk_f19 : Cond.fieldLink RX8 19 "Koebehall" "disks" "Ljava/util/ArrayList;" ∈ wsX8_disk := by decide +kernel
theorem hin_X8_disk_RX8 : ∀ w ∈ u_ws RX8 TX8 7, w ∈ wsX8_disk := by decide +kernel
theorem hdX8_disk_Jx4a65c_size_8abf5 : yJx4a65c_size_8abf5.cls ≠ "java/lang/invoke/MethodHandle" ∧ yJx4a65c_size_8abf5.cls ≠ "java/lang/invoke/VarHandle" ∧ (parseMethodDescriptor yJx4a65c_size_8abf5.desc).map (fun d => d.parameters.length) = some 0 := by decide +kernel
theorem lk_X8_disk_new134 : ∀ w ∈ [Cond.classLink RX8 134 RX0, Cond.instantiable RX0 3, Cond.initialized RX0], w ∈ wsX8_disk := by decide +kernel
theorem hin_X8_disk_RX0 : ∀ w ∈ u_ws RX0 TX0 3, w ∈ wsX8_disk := by decide +kernel
theorem hdX8_disk_X0_init : yX0_init.cls ≠ "java/lang/invoke/MethodHandle" ∧ yX0_init.cls ≠ "java/lang/invoke/VarHandle" ∧ (parseMethodDescriptor yX0_init.desc).map (fun d => d.parameters.length) = some 3 := by decide +kernel
theorem lk_X8_disk_in_RX0 : Cond.initialized RX0 ∈ wsX8_disk := by decide +kernel
theorem lk_X8_disk_im_X0_init : Cond.instanceMethod yX0_init ∈ wsX8_disk := by decide +kernel
theorem hdX8_disk_Jx4a65c_add_9ea2d : yJx4a65c_add_9ea2d.cls ≠ "java/lang/invoke/MethodHandle" ∧ yJx4a65c_add_9ea2d.cls ≠ "java/lang/invoke/VarHandle" ∧ (parseMethodDescriptor yJx4a65c_add_9ea2d.desc).map (fun d => d.parameters.length) = some 1 := by decide +kernel
abbrev rmX8_disk_n : Room := { frames := 2, cells := 1, slots := 3, locals := 45 }
set_option maxHeartbeats 4000000 in
set_option maxRecDepth 100000 in
/-- X8_disk_n -/
theorem kX8_disk_n (l : Launch) (G : kG) (B0 : Nat) (f : kH) (h dl q : Nat) (mc : Int32) (sz cap : Nat) (g0 : Nat → Option Nat) (vs vg vw vm vp vn : Value) (x1 x2 x3 : Int32) (hw : cIn x1.toInt64 1000000000 ∧ cIn x2.toInt64 1000000000 ∧ ¬ x3 < nI 1 ∧ ¬ nI 1000000000 < x3) (hM : kCs f [(h, .inr (8, [vs, .ref dl, vg, vw, vm, vp, vn])), (dl, .inr (0, [.int mc, .ref q, .int (nI sz)])), (q, kaO G cap g0)]) (hsz : sz < 16) (hcap : sz < cap) (hc9 : cap < 2 ^ 31) : Met l yX8_disk wsX8_disk (rmX8_disk_n) (kP G B0 f [.ref h, .int x1, .int x2, .int x3]) (kQi G B0 (fun r f1 => ∃ t : Nat, r = nI sz ∧ f t = none ∧ kCs f1 [(h, .inr (8, [vs, .ref dl, vg, vw, vm, vp, vn])), (dl, .inr (0, [.int (mc + nI 1), .ref q, .int (nI (sz + 1))])), (q, kaO G cap (va_up g0 sz (some t))), (t, .inr (1, [.long x1.toInt64, .long x2.toInt64, .long x3.toInt64]))] ∧ kKp [dl, q] f f1)) 1 3 (kAb B0) := by
  refine kMet (cc := cX8_disk) (maxL := 4) (ret := (some .int)) (by decide) rfl (Nat.le_of_ble_eq_true rfl) ?_
  intro p e s m args below meth c H locs Q ls C hX hl hr hlocks hnm hQ
  have hO : kKp [dl, q] f f := kKp.rf
  have hS : ∀ a ∈ [dl, q], (f a).isSome := by
    intro a h9
    simp only [List.mem_cons, List.not_mem_nil, or_false] at h9
    rcases h9 with rfl | rfl
    · rw [hM.at 1 rfl]; rfl
    · rw [hM.at 2 rfl]; rfl
  have hl : lv_has ls 4 [(0, .ref h), (1, .int x1), (2, .int x2), (3, .int x3)] := hl
  refine lv_iload_n C.x C.b dX8_disk_0 rfl (lv_at hl 1 rfl) ?_
  refine lv_iload_n C.x C.b dX8_disk_1 rfl (lv_at hl 2 rfl) ?_
  refine lv_iload_n C.x C.b dX8_disk_2 rfl (lv_at hl 3 rfl) ?_
  refine k_calli (va_runS (As := [.int x1, .int x2, .int x3]) (rest := []) C.1 (kX8_isDisk l G B0 f x1 x2 x3) (va_cwS 3 C.ts gX8_disk_X8_isDisk rfl rfl rfl (hdX8_disk_X8_isDisk) ⟨Nat.le_of_ble_eq_true rfl, Nat.le_of_ble_eq_true rfl⟩) (k_preS C hX) rfl rfl hl.1 rfl (lv_room (Nat.le_of_ble_eq_true rfl)) dX8_disk_3 ⟨Nat.le_of_ble_eq_true rfl, Nat.le_of_ble_eq_true rfl⟩) hX (fun r3 f3 H locs hp3 hX => ?_)
  obtain ⟨hr3, hf3⟩ := hp3
  rw [hf3] at hX
  refine k_topi (y := (kbI (cIn x1.toInt64 1000000000 ∧ cIn x2.toInt64 1000000000 ∧ ¬ x3 < nI 1 ∧ ¬ nI 1000000000 < x3))) hr3 ?_
  refine lv_if_ne (tgt := 19) C.x C.b dX8_disk_6 (by decide) (fun c_6 => ?_) (fun c_6 => ?_)
  rotate_left
  · exact absurd (hw) (kbI_0 c_6)
  refine lv_aload_n C.x C.b dX8_disk_19 rfl (lv_at hl 0 rfl) ?_
  refine k_get (X := RX8) (T := TX8) (N := 7) (v := .ref dl) C hX (hM.at 0 rfl) rfl hin_X8_disk_RX8 1 (by decide) lk_X8_disk_f19 (fun _ h9 => h9) rfl dX8_disk_20 ?_
  have hM9 : kCs f ([(dl, .inr (0, [.int mc, .ref q, .int (nI sz)]))]) := hM.pick [1] (by decide) ⟨rfl, trivial⟩
  refine k_calli (va_runV (As := []) (rest := []) C.1 (kJx4a65c_size_8abf5 l G B0 f dl mc (.ref q) sz hM9) (cwV 0 C.ts gX8_disk_Jx4a65c_size_8abf5 rfl rfl rfl ⟨rfl, hdX8_disk_Jx4a65c_size_8abf5⟩ ⟨Nat.le_of_ble_eq_true rfl, Nat.le_of_ble_eq_true rfl⟩) (k_preV C hX (hM.at 1 rfl) rfl) rfl rfl hl.1 rfl (lv_room (Nat.le_of_ble_eq_true rfl)) dX8_disk_23 ⟨Nat.le_of_ble_eq_true rfl, Nat.le_of_ble_eq_true rfl⟩) hX (fun r23 f23 H locs hp23 hX => ?_)
  obtain ⟨hr23, hf23⟩ := hp23
  rw [hf23] at hX
  refine k_topi (y := (nI sz)) hr23 ?_
  refine lv_bipush (v := nI 16) C.x C.b dX8_disk_26 (by decide) ?_
  refine lv_icmp_lt (tgt := 41) C.x C.b dX8_disk_28 (by decide) (fun c_28 => ?_) (fun c_28 => ?_)
  rotate_left
  · skip
    have c_28 : ¬ (sz < 16) := fun h9 => c_28 ((nI_ltI (by omega) (by omega)).mpr h9)
    omega
  have c_28 : sz < 16 := (nI_ltI (by omega) (by omega)).mp c_28
  refine lv_aload_n C.x C.b dX8_disk_41 rfl (lv_at hl 0 rfl) ?_
  refine k_get (X := RX8) (T := TX8) (N := 7) (v := .ref dl) C hX (hM.at 0 rfl) rfl hin_X8_disk_RX8 1 (by decide) lk_X8_disk_f19 (fun _ h9 => h9) rfl dX8_disk_42 ?_
  refine k_new (X := RX0) (T := TX0) (N := 3) (ci := 1) (fs := [.long 0, .long 0, .long 0]) C hX hin_X8_disk_RX0 tyX0_ok lk_X8_disk_new134 rfl (by decide) (by decide) (by decide) dX8_disk_45 (fun n1 H hn hX => ?_)
  obtain ⟨g2, hX, hM, hO, fr_n1, hS⟩ := kX.nwP hX hM hO hn hS
  have hM : kCs g2 ([(h, .inr (8, [vs, .ref dl, vg, vw, vm, vp, vn])), (dl, .inr (0, [.int mc, .ref q, .int (nI sz)])), (q, kaO G cap g0), (n1, .inr (1, [.long 0, .long 0, .long 0]))]) := hM
  refine lv_dup C.x C.b dX8_disk_48 rfl ?_
  refine lv_iload_n C.x C.b dX8_disk_49 rfl (lv_at hl 1 rfl) ?_
  refine lv_i2l (v := x1.toInt64) C.x C.b dX8_disk_50 rfl ?_
  refine lv_iload_n C.x C.b dX8_disk_51 rfl (lv_at hl 2 rfl) ?_
  refine lv_i2l (v := x2.toInt64) C.x C.b dX8_disk_52 rfl ?_
  refine lv_iload_n C.x C.b dX8_disk_53 rfl (lv_at hl 3 rfl) ?_
  refine lv_i2l (v := x3.toInt64) C.x C.b dX8_disk_54 rfl ?_
  have hM9 : kCs g2 ([(n1, .inr (1, [.long 0, .long 0, .long 0]))]) := hM.pick [3] (by decide) ⟨rfl, trivial⟩
  refine k_callv (va_runIN (As := [.long x1.toInt64, .long x2.toInt64, .long x3.toInt64]) (rest := [.ref n1, .ref dl]) C.1 (kX0_init l G B0 g2 n1 x1.toInt64 x2.toInt64 x3.toInt64 hM9) ⟨va_cnB 3 C.ts gX8_disk_X0_init_n136 rfl rfl rfl (C.2.1.2.2.1 _ (show ((RX8, 136, yX0_init, "Koebehall") : String × Nat × MethodName × String) ∈ kNestM by decide +kernel)) (C.ts _ lk_X8_disk_in_RX0) hdX8_disk_X0_init ⟨Nat.le_of_ble_eq_true rfl, Nat.le_of_ble_eq_true rfl⟩, rfl, C.ts _ lk_X8_disk_im_X0_init⟩ (k_preS C hX) rfl rfl hl.1 rfl (lv_room (Nat.le_of_ble_eq_true rfl)) dX8_disk_55 ⟨Nat.le_of_ble_eq_true rfl, Nat.le_of_ble_eq_true rfl⟩) hX (fun f55 H locs hp55 hX => ?_)
  obtain ⟨hM9, hO9⟩ := hp55
  have hM : kCs f55 ([(h, .inr (8, [vs, .ref dl, vg, vw, vm, vp, vn])), (dl, .inr (0, [.int mc, .ref q, .int (nI sz)])), (q, kaO G cap g0), (n1, .inr (1, [.long x1.toInt64, .long x2.toInt64, .long x3.toInt64]))]) := hM.sub hM9 (kKp.of hO9) [3] (by simp) ⟨rfl, trivial⟩
  have hO := hO.then (kKp.of hO9) (by
      intro a h9
      simp only [List.mem_cons, List.not_mem_nil, or_false] at h9
      rcases h9 with rfl
      · exact Or.inr fr_n1)
  have hS : ∀ a ∈ [dl, q], (f55 a).isSome := by
    intro a h9
    simp only [List.mem_cons, List.not_mem_nil, or_false] at h9
    rcases h9 with rfl | rfl
    · rw [hM.at 1 rfl]; rfl
    · rw [hM.at 2 rfl]; rfl
  have hM9 : kCs f55 ([(dl, .inr (0, [.int mc, .ref q, .int (nI sz)])), (q, kaO G cap g0), (n1, .inr (1, [.long x1.toInt64, .long x2.toInt64, .long x3.toInt64]))]) := hM.pick [1, 2, 3] (by decide) ⟨rfl, rfl, rfl, trivial⟩
  refine k_calli (va_runV (As := [.ref n1]) (rest := []) C.1 (kJx4a65c_add_9ea2d_n l G B0 f55 dl q mc sz cap g0 (by omega) (by omega) n1 1 [.long x1.toInt64, .long x2.toInt64, .long x3.toInt64] _ rfl (by decide) hM9) (cwV 1 C.ts gX8_disk_Jx4a65c_add_9ea2d rfl rfl rfl ⟨rfl, hdX8_disk_Jx4a65c_add_9ea2d⟩ ⟨Nat.le_of_ble_eq_true rfl, Nat.le_of_ble_eq_true rfl⟩) (k_preV C hX (hM.at 1 rfl) rfl) rfl rfl hl.1 rfl (lv_room (Nat.le_of_ble_eq_true rfl)) dX8_disk_58 ⟨Nat.le_of_ble_eq_true rfl, Nat.le_of_ble_eq_true rfl⟩) hX (fun r58 f58 H locs hp58 hX => ?_)
  obtain ⟨hr58, hM9, hO9⟩ := hp58
  have hM : kCs f58 ([(h, .inr (8, [vs, .ref dl, vg, vw, vm, vp, vn])), (dl, .inr (0, [.int (mc + nI 1), .ref q, .int (nI (sz + 1))])), (q, kaO G cap (va_up g0 sz (some n1))), (n1, .inr (1, [.long x1.toInt64, .long x2.toInt64, .long x3.toInt64]))]) := hM.sub hM9 (kKp.of hO9) [1, 2, 3] (by simp) ⟨rfl, rfl, rfl, trivial⟩
  have hO := hO.then (kKp.of hO9) (by
      intro a h9
      simp only [List.mem_cons, List.not_mem_nil, or_false] at h9
      rcases h9 with rfl | rfl
      · exact Or.inl (by simp)
      · exact Or.inl (by simp))
  have hS : ∀ a ∈ [dl, q], (f58 a).isSome := by
    intro a h9
    simp only [List.mem_cons, List.not_mem_nil, or_false] at h9
    rcases h9 with rfl | rfl
    · rw [hM.at 1 rfl]; rfl
    · rw [hM.at 2 rfl]; rfl
  refine k_topi (y := (nI 1)) hr58 ?_
  refine lv_pop C.x C.b dX8_disk_61 rfl ?_
  refine lv_aload_n C.x C.b dX8_disk_62 rfl (lv_at hl 0 rfl) ?_
  refine k_get (X := RX8) (T := TX8) (N := 7) (v := .ref dl) C hX (hM.at 0 rfl) rfl hin_X8_disk_RX8 1 (by decide) lk_X8_disk_f19 (fun _ h9 => h9) rfl dX8_disk_63 ?_
  have hM9 : kCs f58 ([(dl, .inr (0, [.int (mc + nI 1), .ref q, .int (nI (sz + 1))]))]) := hM.pick [1] (by decide) ⟨rfl, trivial⟩
  refine k_calli (va_runV (As := []) (rest := []) C.1 (kJx4a65c_size_8abf5 l G B0 f58 dl (mc + nI 1) (.ref q) (sz + 1) hM9) (cwV 0 C.ts gX8_disk_Jx4a65c_size_8abf5 rfl rfl rfl ⟨rfl, hdX8_disk_Jx4a65c_size_8abf5⟩ ⟨Nat.le_of_ble_eq_true rfl, Nat.le_of_ble_eq_true rfl⟩) (k_preV C hX (hM.at 1 rfl) rfl) rfl rfl hl.1 rfl (lv_room (Nat.le_of_ble_eq_true rfl)) dX8_disk_66 ⟨Nat.le_of_ble_eq_true rfl, Nat.le_of_ble_eq_true rfl⟩) hX (fun r66 f66 H locs hp66 hX => ?_)
  obtain ⟨hr66, hf66⟩ := hp66
  rw [hf66] at hX
  refine k_topi (y := (nI (sz + 1))) hr66 ?_
  refine lv_iconst (v := nI 1) C.x C.b dX8_disk_69 (by decide) ?_
  refine lv_isub C.x C.b dX8_disk_70 ?_
  refine k_topi (y := (nI sz)) (pk_sub (by omega)) ?_
  exact k_iret C hX hr hlocks hQ (by omega) (by omega) (⟨n1, rfl, fr_n1, hM, hO⟩) dX8_disk_71

abbrev rmX8_disk_0 : Room := { frames := 5, cells := 2, slots := 13, locals := 101 }
set_option maxHeartbeats 4000000 in
set_option maxRecDepth 100000 in
/-- X8_disk_0 -/
theorem kX8_disk_0 (l : Launch) (G : kG) (B0 : Nat) (f : kH) (h dl : Nat) (mc : Int32) (vs vg vw vm vp vn : Value) (x1 x2 x3 : Int32) (hw : cIn x1.toInt64 1000000000 ∧ cIn x2.toInt64 1000000000 ∧ ¬ x3 < nI 1 ∧ ¬ nI 1000000000 < x3) (hM : kCs f [(h, .inr (8, [vs, .ref dl, vg, vw, vm, vp, vn])), (dl, .inr (0, [.int mc, .ref (G.2.2 1), .int (nI 0)]))]) : Met l yX8_disk wsX8_disk (rmX8_disk_0) (kP G B0 f [.ref h, .int x1, .int x2, .int x3]) (kQi G B0 (fun r f1 => ∃ t q : Nat, r = nI 0 ∧ f t = none ∧ f q = none ∧ kCs f1 [(h, .inr (8, [vs, .ref dl, vg, vw, vm, vp, vn])), (dl, .inr (0, [.int (mc + nI 1), .ref q, .int (nI 1)])), (t, .inr (1, [.long x1.toInt64, .long x2.toInt64, .long x3.toInt64])), (q, kaO G 10 (va_up (fun _ => none) 0 (some t)))] ∧ kKp [dl] f f1)) 2 13 (kAb B0) := by
  refine kMet (cc := cX8_disk) (maxL := 4) (ret := (some .int)) (by decide) rfl (Nat.le_of_ble_eq_true rfl) ?_
  intro p e s m args below meth c H locs Q ls C hX hl hr hlocks hnm hQ
  have hO : kKp [dl] f f := kKp.rf
  have hS : ∀ a ∈ [dl], (f a).isSome := by
    intro a h9
    simp only [List.mem_cons, List.not_mem_nil, or_false] at h9
    rcases h9 with rfl
    · rw [hM.at 1 rfl]; rfl
  have hl : lv_has ls 4 [(0, .ref h), (1, .int x1), (2, .int x2), (3, .int x3)] := hl
  refine lv_iload_n C.x C.b dX8_disk_0 rfl (lv_at hl 1 rfl) ?_
  refine lv_iload_n C.x C.b dX8_disk_1 rfl (lv_at hl 2 rfl) ?_
  refine lv_iload_n C.x C.b dX8_disk_2 rfl (lv_at hl 3 rfl) ?_
  refine k_calli (va_runS (As := [.int x1, .int x2, .int x3]) (rest := []) C.1 (kX8_isDisk l G B0 f x1 x2 x3) (va_cwS 3 C.ts gX8_disk_X8_isDisk rfl rfl rfl (hdX8_disk_X8_isDisk) ⟨Nat.le_of_ble_eq_true rfl, Nat.le_of_ble_eq_true rfl⟩) (k_preS C hX) rfl rfl hl.1 rfl (lv_room (Nat.le_of_ble_eq_true rfl)) dX8_disk_3 ⟨Nat.le_of_ble_eq_true rfl, Nat.le_of_ble_eq_true rfl⟩) hX (fun r3 f3 H locs hp3 hX => ?_)
  obtain ⟨hr3, hf3⟩ := hp3
  rw [hf3] at hX
  refine k_topi (y := (kbI (cIn x1.toInt64 1000000000 ∧ cIn x2.toInt64 1000000000 ∧ ¬ x3 < nI 1 ∧ ¬ nI 1000000000 < x3))) hr3 ?_
  refine lv_if_ne (tgt := 19) C.x C.b dX8_disk_6 (by decide) (fun c_6 => ?_) (fun c_6 => ?_)
  rotate_left
  · exact absurd (hw) (kbI_0 c_6)
  refine lv_aload_n C.x C.b dX8_disk_19 rfl (lv_at hl 0 rfl) ?_
  refine k_get (X := RX8) (T := TX8) (N := 7) (v := .ref dl) C hX (hM.at 0 rfl) rfl hin_X8_disk_RX8 1 (by decide) lk_X8_disk_f19 (fun _ h9 => h9) rfl dX8_disk_20 ?_
  have hM9 : kCs f ([(dl, .inr (0, [.int mc, .ref (G.2.2 1), .int (nI 0)]))]) := hM.pick [1] (by decide) ⟨rfl, trivial⟩
  refine k_calli (va_runV (As := []) (rest := []) C.1 (kJx4a65c_size_8abf5 l G B0 f dl mc (.ref (G.2.2 1)) 0 hM9) (cwV 0 C.ts gX8_disk_Jx4a65c_size_8abf5 rfl rfl rfl ⟨rfl, hdX8_disk_Jx4a65c_size_8abf5⟩ ⟨Nat.le_of_ble_eq_true rfl, Nat.le_of_ble_eq_true rfl⟩) (k_preV C hX (hM.at 1 rfl) rfl) rfl rfl hl.1 rfl (lv_room (Nat.le_of_ble_eq_true rfl)) dX8_disk_23 ⟨Nat.le_of_ble_eq_true rfl, Nat.le_of_ble_eq_true rfl⟩) hX (fun r23 f23 H locs hp23 hX => ?_)
  obtain ⟨hr23, hf23⟩ := hp23
  rw [hf23] at hX
  refine k_topi (y := (nI 0)) hr23 ?_
  refine lv_bipush (v := nI 16) C.x C.b dX8_disk_26 (by decide) ?_
  refine lv_icmp_lt (tgt := 41) C.x C.b dX8_disk_28 (by decide) (fun c_28 => ?_) (fun c_28 => ?_)
  rotate_left
  · skip
    have c_28 : ¬ (0 < 16) := fun h9 => c_28 ((nI_ltI (by omega) (by omega)).mpr h9)
    omega
  have c_28 : 0 < 16 := (nI_ltI (by omega) (by omega)).mp c_28
  refine lv_aload_n C.x C.b dX8_disk_41 rfl (lv_at hl 0 rfl) ?_
  refine k_get (X := RX8) (T := TX8) (N := 7) (v := .ref dl) C hX (hM.at 0 rfl) rfl hin_X8_disk_RX8 1 (by decide) lk_X8_disk_f19 (fun _ h9 => h9) rfl dX8_disk_42 ?_
  refine k_new (X := RX0) (T := TX0) (N := 3) (ci := 1) (fs := [.long 0, .long 0, .long 0]) C hX hin_X8_disk_RX0 tyX0_ok lk_X8_disk_new134 rfl (by decide) (by decide) (by decide) dX8_disk_45 (fun n1 H hn hX => ?_)
  obtain ⟨g2, hX, hM, hO, fr_n1, hS⟩ := kX.nwP hX hM hO hn hS
  have hM : kCs g2 ([(h, .inr (8, [vs, .ref dl, vg, vw, vm, vp, vn])), (dl, .inr (0, [.int mc, .ref (G.2.2 1), .int (nI 0)])), (n1, .inr (1, [.long 0, .long 0, .long 0]))]) := hM
  refine lv_dup C.x C.b dX8_disk_48 rfl ?_
  refine lv_iload_n C.x C.b dX8_disk_49 rfl (lv_at hl 1 rfl) ?_
  refine lv_i2l (v := x1.toInt64) C.x C.b dX8_disk_50 rfl ?_
  refine lv_iload_n C.x C.b dX8_disk_51 rfl (lv_at hl 2 rfl) ?_
  refine lv_i2l (v := x2.toInt64) C.x C.b dX8_disk_52 rfl ?_
  refine lv_iload_n C.x C.b dX8_disk_53 rfl (lv_at hl 3 rfl) ?_
  refine lv_i2l (v := x3.toInt64) C.x C.b dX8_disk_54 rfl ?_
  have hM9 : kCs g2 ([(n1, .inr (1, [.long 0, .long 0, .long 0]))]) := hM.pick [2] (by decide) ⟨rfl, trivial⟩
  refine k_callv (va_runIN (As := [.long x1.toInt64, .long x2.toInt64, .long x3.toInt64]) (rest := [.ref n1, .ref dl]) C.1 (kX0_init l G B0 g2 n1 x1.toInt64 x2.toInt64 x3.toInt64 hM9) ⟨va_cnB 3 C.ts gX8_disk_X0_init_n136 rfl rfl rfl (C.2.1.2.2.1 _ (show ((RX8, 136, yX0_init, "Koebehall") : String × Nat × MethodName × String) ∈ kNestM by decide +kernel)) (C.ts _ lk_X8_disk_in_RX0) hdX8_disk_X0_init ⟨Nat.le_of_ble_eq_true rfl, Nat.le_of_ble_eq_true rfl⟩, rfl, C.ts _ lk_X8_disk_im_X0_init⟩ (k_preS C hX) rfl rfl hl.1 rfl (lv_room (Nat.le_of_ble_eq_true rfl)) dX8_disk_55 ⟨Nat.le_of_ble_eq_true rfl, Nat.le_of_ble_eq_true rfl⟩) hX (fun f55 H locs hp55 hX => ?_)
  obtain ⟨hM9, hO9⟩ := hp55
  have hM : kCs f55 ([(h, .inr (8, [vs, .ref dl, vg, vw, vm, vp, vn])), (dl, .inr (0, [.int mc, .ref (G.2.2 1), .int (nI 0)])), (n1, .inr (1, [.long x1.toInt64, .long x2.toInt64, .long x3.toInt64]))]) := hM.sub hM9 (kKp.of hO9) [2] (by simp) ⟨rfl, trivial⟩
  have hO := hO.then (kKp.of hO9) (by
      intro a h9
      simp only [List.mem_cons, List.not_mem_nil, or_false] at h9
      rcases h9 with rfl
      · exact Or.inr fr_n1)
  have hS : ∀ a ∈ [dl], (f55 a).isSome := by
    intro a h9
    simp only [List.mem_cons, List.not_mem_nil, or_false] at h9
    rcases h9 with rfl
    · rw [hM.at 1 rfl]; rfl
  have hM9 : kCs f55 ([(dl, .inr (0, [.int mc, .ref (G.2.2 1), .int (nI 0)])), (n1, .inr (1, [.long x1.toInt64, .long x2.toInt64, .long x3.toInt64]))]) := hM.pick [1, 2] (by decide) ⟨rfl, rfl, trivial⟩
  refine k_calli (va_runV (As := [.ref n1]) (rest := []) C.1 (kJx4a65c_add_9ea2d_0 l G B0 f55 dl mc n1 1 [.long x1.toInt64, .long x2.toInt64, .long x3.toInt64] _ rfl (by decide) hM9) (cwV 1 C.ts gX8_disk_Jx4a65c_add_9ea2d rfl rfl rfl ⟨rfl, hdX8_disk_Jx4a65c_add_9ea2d⟩ ⟨Nat.le_of_ble_eq_true rfl, Nat.le_of_ble_eq_true rfl⟩) (k_preV C hX (hM.at 1 rfl) rfl) rfl rfl hl.1 rfl (lv_room (Nat.le_of_ble_eq_true rfl)) dX8_disk_58 ⟨Nat.le_of_ble_eq_true rfl, Nat.le_of_ble_eq_true rfl⟩) hX (fun r58 f58 H locs hp58 hX => ?_)
  obtain ⟨q58, hr58, hn58, hM9, hO9⟩ := hp58
  have fr_q58 : f q58 = none := hO.fr hS hn58
  have hM : kCs f58 ([(h, .inr (8, [vs, .ref dl, vg, vw, vm, vp, vn])), (dl, .inr (0, [.int (mc + nI 1), .ref q58, .int (nI 1)])), (n1, .inr (1, [.long x1.toInt64, .long x2.toInt64, .long x3.toInt64])), (q58, kaO G 10 (va_up (fun _ => none) 0 (some n1)))]) := hM.subg hM9 hO9 hn58 [1, 2] (by simp) ⟨rfl, rfl, trivial⟩
  have hO := hO.then (hO9) (by
      intro a h9
      simp only [List.mem_cons, List.not_mem_nil, or_false] at h9
      rcases h9 with rfl
      · exact Or.inl (by simp))
  have hS : ∀ a ∈ [dl], (f58 a).isSome := by
    intro a h9
    simp only [List.mem_cons, List.not_mem_nil, or_false] at h9
    rcases h9 with rfl
    · rw [hM.at 1 rfl]; rfl
  refine k_topi (y := (nI 1)) hr58 ?_
  refine lv_pop C.x C.b dX8_disk_61 rfl ?_
  refine lv_aload_n C.x C.b dX8_disk_62 rfl (lv_at hl 0 rfl) ?_
  refine k_get (X := RX8) (T := TX8) (N := 7) (v := .ref dl) C hX (hM.at 0 rfl) rfl hin_X8_disk_RX8 1 (by decide) lk_X8_disk_f19 (fun _ h9 => h9) rfl dX8_disk_63 ?_
  have hM9 : kCs f58 ([(dl, .inr (0, [.int (mc + nI 1), .ref q58, .int (nI 1)]))]) := hM.pick [1] (by decide) ⟨rfl, trivial⟩
  refine k_calli (va_runV (As := []) (rest := []) C.1 (kJx4a65c_size_8abf5 l G B0 f58 dl (mc + nI 1) (.ref q58) 1 hM9) (cwV 0 C.ts gX8_disk_Jx4a65c_size_8abf5 rfl rfl rfl ⟨rfl, hdX8_disk_Jx4a65c_size_8abf5⟩ ⟨Nat.le_of_ble_eq_true rfl, Nat.le_of_ble_eq_true rfl⟩) (k_preV C hX (hM.at 1 rfl) rfl) rfl rfl hl.1 rfl (lv_room (Nat.le_of_ble_eq_true rfl)) dX8_disk_66 ⟨Nat.le_of_ble_eq_true rfl, Nat.le_of_ble_eq_true rfl⟩) hX (fun r66 f66 H locs hp66 hX => ?_)
  obtain ⟨hr66, hf66⟩ := hp66
  rw [hf66] at hX
  refine k_topi (y := (nI 1)) hr66 ?_
  refine lv_iconst (v := nI 1) C.x C.b dX8_disk_69 (by decide) ?_
  refine lv_isub C.x C.b dX8_disk_70 ?_
  refine k_topi (y := (nI 0)) (by decide) ?_
  exact k_iret C hX hr hlocks hQ (by omega) (by omega) (⟨n1, q58, rfl, fr_n1, fr_q58, hM, hO⟩) dX8_disk_71

abbrev rmX8_disk_g : Room := { frames := 7, cells := 2, slots := 27, locals := 171 }
set_option maxHeartbeats 4000000 in
set_option maxRecDepth 100000 in
/-- X8_disk_g -/
theorem kX8_disk_g (l : Launch) (G : kG) (B0 : Nat) (f : kH) (h dl q : Nat) (mc : Int32) (cap : Nat) (g0 : Nat → Option Nat) (vs vg vw vm vp vn : Value) (x1 x2 x3 : Int32) (hw : cIn x1.toInt64 1000000000 ∧ cIn x2.toInt64 1000000000 ∧ ¬ x3 < nI 1 ∧ ¬ nI 1000000000 < x3) (hM : kCs f [(h, .inr (8, [vs, .ref dl, vg, vw, vm, vp, vn])), (dl, .inr (0, [.int mc, .ref q, .int (nI cap)])), (q, kaO G cap g0)]) (hc2 : 2 ≤ cap) (hc9 : cap < 16) (hE : kEl f dl q g0 cap) : Met l yX8_disk wsX8_disk (rmX8_disk_g) (kP G B0 f [.ref h, .int x1, .int x2, .int x3]) (kQi G B0 (fun r f1 => ∃ t q2 : Nat, r = nI cap ∧ f t = none ∧ f q2 = none ∧ kCs f1 [(h, .inr (8, [vs, .ref dl, vg, vw, vm, vp, vn])), (dl, .inr (0, [.int (mc + nI 1), .ref q2, .int (nI (cap + 1))])), (q, kaO G cap g0), (t, .inr (1, [.long x1.toInt64, .long x2.toInt64, .long x3.toInt64])), (q2, kaO G (cap + cap / 2) (va_up (fun j9 => if j9 < cap then g0 j9 else none) cap (some t)))] ∧ kKp [dl] f f1)) 2 27 (kAb B0) := by
  refine kMet (cc := cX8_disk) (maxL := 4) (ret := (some .int)) (by decide) rfl (Nat.le_of_ble_eq_true rfl) ?_
  intro p e s m args below meth c H locs Q ls C hX hl hr hlocks hnm hQ
  have hO : kKp [dl] f f := kKp.rf
  have hS : ∀ a ∈ [dl], (f a).isSome := by
    intro a h9
    simp only [List.mem_cons, List.not_mem_nil, or_false] at h9
    rcases h9 with rfl
    · rw [hM.at 1 rfl]; rfl
  have hl : lv_has ls 4 [(0, .ref h), (1, .int x1), (2, .int x2), (3, .int x3)] := hl
  refine lv_iload_n C.x C.b dX8_disk_0 rfl (lv_at hl 1 rfl) ?_
  refine lv_iload_n C.x C.b dX8_disk_1 rfl (lv_at hl 2 rfl) ?_
  refine lv_iload_n C.x C.b dX8_disk_2 rfl (lv_at hl 3 rfl) ?_
  refine k_calli (va_runS (As := [.int x1, .int x2, .int x3]) (rest := []) C.1 (kX8_isDisk l G B0 f x1 x2 x3) (va_cwS 3 C.ts gX8_disk_X8_isDisk rfl rfl rfl (hdX8_disk_X8_isDisk) ⟨Nat.le_of_ble_eq_true rfl, Nat.le_of_ble_eq_true rfl⟩) (k_preS C hX) rfl rfl hl.1 rfl (lv_room (Nat.le_of_ble_eq_true rfl)) dX8_disk_3 ⟨Nat.le_of_ble_eq_true rfl, Nat.le_of_ble_eq_true rfl⟩) hX (fun r3 f3 H locs hp3 hX => ?_)
  obtain ⟨hr3, hf3⟩ := hp3
  rw [hf3] at hX
  refine k_topi (y := (kbI (cIn x1.toInt64 1000000000 ∧ cIn x2.toInt64 1000000000 ∧ ¬ x3 < nI 1 ∧ ¬ nI 1000000000 < x3))) hr3 ?_
  refine lv_if_ne (tgt := 19) C.x C.b dX8_disk_6 (by decide) (fun c_6 => ?_) (fun c_6 => ?_)
  rotate_left
  · exact absurd (hw) (kbI_0 c_6)
  refine lv_aload_n C.x C.b dX8_disk_19 rfl (lv_at hl 0 rfl) ?_
  refine k_get (X := RX8) (T := TX8) (N := 7) (v := .ref dl) C hX (hM.at 0 rfl) rfl hin_X8_disk_RX8 1 (by decide) lk_X8_disk_f19 (fun _ h9 => h9) rfl dX8_disk_20 ?_
  have hM9 : kCs f ([(dl, .inr (0, [.int mc, .ref q, .int (nI cap)]))]) := hM.pick [1] (by decide) ⟨rfl, trivial⟩
  refine k_calli (va_runV (As := []) (rest := []) C.1 (kJx4a65c_size_8abf5 l G B0 f dl mc (.ref q) cap hM9) (cwV 0 C.ts gX8_disk_Jx4a65c_size_8abf5 rfl rfl rfl ⟨rfl, hdX8_disk_Jx4a65c_size_8abf5⟩ ⟨Nat.le_of_ble_eq_true rfl, Nat.le_of_ble_eq_true rfl⟩) (k_preV C hX (hM.at 1 rfl) rfl) rfl rfl hl.1 rfl (lv_room (Nat.le_of_ble_eq_true rfl)) dX8_disk_23 ⟨Nat.le_of_ble_eq_true rfl, Nat.le_of_ble_eq_true rfl⟩) hX (fun r23 f23 H locs hp23 hX => ?_)
  obtain ⟨hr23, hf23⟩ := hp23
  rw [hf23] at hX
  refine k_topi (y := (nI cap)) hr23 ?_
  refine lv_bipush (v := nI 16) C.x C.b dX8_disk_26 (by decide) ?_
  refine lv_icmp_lt (tgt := 41) C.x C.b dX8_disk_28 (by decide) (fun c_28 => ?_) (fun c_28 => ?_)
  rotate_left
  · skip
    have c_28 : ¬ (cap < 16) := fun h9 => c_28 ((nI_ltI (by omega) (by omega)).mpr h9)
    omega
  have c_28 : cap < 16 := (nI_ltI (by omega) (by omega)).mp c_28
  refine lv_aload_n C.x C.b dX8_disk_41 rfl (lv_at hl 0 rfl) ?_
  refine k_get (X := RX8) (T := TX8) (N := 7) (v := .ref dl) C hX (hM.at 0 rfl) rfl hin_X8_disk_RX8 1 (by decide) lk_X8_disk_f19 (fun _ h9 => h9) rfl dX8_disk_42 ?_
  refine k_new (X := RX0) (T := TX0) (N := 3) (ci := 1) (fs := [.long 0, .long 0, .long 0]) C hX hin_X8_disk_RX0 tyX0_ok lk_X8_disk_new134 rfl (by decide) (by decide) (by decide) dX8_disk_45 (fun n1 H hn hX => ?_)
  obtain ⟨g2, hX, hM, hO, fr_n1, hS⟩ := kX.nwP hX hM hO hn hS
  have hM : kCs g2 ([(h, .inr (8, [vs, .ref dl, vg, vw, vm, vp, vn])), (dl, .inr (0, [.int mc, .ref q, .int (nI cap)])), (q, kaO G cap g0), (n1, .inr (1, [.long 0, .long 0, .long 0]))]) := hM
  refine lv_dup C.x C.b dX8_disk_48 rfl ?_
  refine lv_iload_n C.x C.b dX8_disk_49 rfl (lv_at hl 1 rfl) ?_
  refine lv_i2l (v := x1.toInt64) C.x C.b dX8_disk_50 rfl ?_
  refine lv_iload_n C.x C.b dX8_disk_51 rfl (lv_at hl 2 rfl) ?_
  refine lv_i2l (v := x2.toInt64) C.x C.b dX8_disk_52 rfl ?_
  refine lv_iload_n C.x C.b dX8_disk_53 rfl (lv_at hl 3 rfl) ?_
  refine lv_i2l (v := x3.toInt64) C.x C.b dX8_disk_54 rfl ?_
  have hM9 : kCs g2 ([(n1, .inr (1, [.long 0, .long 0, .long 0]))]) := hM.pick [3] (by decide) ⟨rfl, trivial⟩
  refine k_callv (va_runIN (As := [.long x1.toInt64, .long x2.toInt64, .long x3.toInt64]) (rest := [.ref n1, .ref dl]) C.1 (kX0_init l G B0 g2 n1 x1.toInt64 x2.toInt64 x3.toInt64 hM9) ⟨va_cnB 3 C.ts gX8_disk_X0_init_n136 rfl rfl rfl (C.2.1.2.2.1 _ (show ((RX8, 136, yX0_init, "Koebehall") : String × Nat × MethodName × String) ∈ kNestM by decide +kernel)) (C.ts _ lk_X8_disk_in_RX0) hdX8_disk_X0_init ⟨Nat.le_of_ble_eq_true rfl, Nat.le_of_ble_eq_true rfl⟩, rfl, C.ts _ lk_X8_disk_im_X0_init⟩ (k_preS C hX) rfl rfl hl.1 rfl (lv_room (Nat.le_of_ble_eq_true rfl)) dX8_disk_55 ⟨Nat.le_of_ble_eq_true rfl, Nat.le_of_ble_eq_true rfl⟩) hX (fun f55 H locs hp55 hX => ?_)
  obtain ⟨hM9, hO9⟩ := hp55
  have hM : kCs f55 ([(h, .inr (8, [vs, .ref dl, vg, vw, vm, vp, vn])), (dl, .inr (0, [.int mc, .ref q, .int (nI cap)])), (q, kaO G cap g0), (n1, .inr (1, [.long x1.toInt64, .long x2.toInt64, .long x3.toInt64]))]) := hM.sub hM9 (kKp.of hO9) [3] (by simp) ⟨rfl, trivial⟩
  have hO := hO.then (kKp.of hO9) (by
      intro a h9
      simp only [List.mem_cons, List.not_mem_nil, or_false] at h9
      rcases h9 with rfl
      · exact Or.inr fr_n1)
  have hS : ∀ a ∈ [dl], (f55 a).isSome := by
    intro a h9
    simp only [List.mem_cons, List.not_mem_nil, or_false] at h9
    rcases h9 with rfl
    · rw [hM.at 1 rfl]; rfl
  have hM9 : kCs f55 ([(dl, .inr (0, [.int mc, .ref q, .int (nI cap)])), (q, kaO G cap g0), (n1, .inr (1, [.long x1.toInt64, .long x2.toInt64, .long x3.toInt64]))]) := hM.pick [1, 2, 3] (by decide) ⟨rfl, rfl, rfl, trivial⟩
  refine k_calli (va_runV (As := [.ref n1]) (rest := []) C.1 (kJx4a65c_add_9ea2d_g l G B0 f55 dl q mc cap g0 hc2 (by omega) (hE.kp hO (by intro a h9; exact Or.inl (List.mem_singleton.mp h9))) n1 1 [.long x1.toInt64, .long x2.toInt64, .long x3.toInt64] _ rfl (by decide) hM9) (cwV 1 C.ts gX8_disk_Jx4a65c_add_9ea2d rfl rfl rfl ⟨rfl, hdX8_disk_Jx4a65c_add_9ea2d⟩ ⟨Nat.le_of_ble_eq_true rfl, Nat.le_of_ble_eq_true rfl⟩) (k_preV C hX (hM.at 1 rfl) rfl) rfl rfl hl.1 rfl (lv_room (Nat.le_of_ble_eq_true rfl)) dX8_disk_58 ⟨Nat.le_of_ble_eq_true rfl, Nat.le_of_ble_eq_true rfl⟩) hX (fun r58 f58 H locs hp58 hX => ?_)
  obtain ⟨q58, hr58, hn58, hM9, hO9⟩ := hp58
  have fr_q58 : f q58 = none := hO.fr hS hn58
  have hM : kCs f58 ([(h, .inr (8, [vs, .ref dl, vg, vw, vm, vp, vn])), (dl, .inr (0, [.int (mc + nI 1), .ref q58, .int (nI (cap + 1))])), (q, kaO G cap g0), (n1, .inr (1, [.long x1.toInt64, .long x2.toInt64, .long x3.toInt64])), (q58, kaO G (cap + cap / 2) (va_up (fun j9 => if j9 < cap then g0 j9 else none) cap (some n1)))]) := hM.subg hM9 hO9 hn58 [1, 2, 3] (by simp) ⟨rfl, rfl, rfl, trivial⟩
  have hO := hO.then (hO9) (by
      intro a h9
      simp only [List.mem_cons, List.not_mem_nil, or_false] at h9
      rcases h9 with rfl
      · exact Or.inl (by simp))
  have hS : ∀ a ∈ [dl], (f58 a).isSome := by
    intro a h9
    simp only [List.mem_cons, List.not_mem_nil, or_false] at h9
    rcases h9 with rfl
    · rw [hM.at 1 rfl]; rfl
  refine k_topi (y := (nI 1)) hr58 ?_
  refine lv_pop C.x C.b dX8_disk_61 rfl ?_
  refine lv_aload_n C.x C.b dX8_disk_62 rfl (lv_at hl 0 rfl) ?_
  refine k_get (X := RX8) (T := TX8) (N := 7) (v := .ref dl) C hX (hM.at 0 rfl) rfl hin_X8_disk_RX8 1 (by decide) lk_X8_disk_f19 (fun _ h9 => h9) rfl dX8_disk_63 ?_
  have hM9 : kCs f58 ([(dl, .inr (0, [.int (mc + nI 1), .ref q58, .int (nI (cap + 1))]))]) := hM.pick [1] (by decide) ⟨rfl, trivial⟩
  refine k_calli (va_runV (As := []) (rest := []) C.1 (kJx4a65c_size_8abf5 l G B0 f58 dl (mc + nI 1) (.ref q58) (cap + 1) hM9) (cwV 0 C.ts gX8_disk_Jx4a65c_size_8abf5 rfl rfl rfl ⟨rfl, hdX8_disk_Jx4a65c_size_8abf5⟩ ⟨Nat.le_of_ble_eq_true rfl, Nat.le_of_ble_eq_true rfl⟩) (k_preV C hX (hM.at 1 rfl) rfl) rfl rfl hl.1 rfl (lv_room (Nat.le_of_ble_eq_true rfl)) dX8_disk_66 ⟨Nat.le_of_ble_eq_true rfl, Nat.le_of_ble_eq_true rfl⟩) hX (fun r66 f66 H locs hp66 hX => ?_)
  obtain ⟨hr66, hf66⟩ := hp66
  rw [hf66] at hX
  refine k_topi (y := (nI (cap + 1))) hr66 ?_
  refine lv_iconst (v := nI 1) C.x C.b dX8_disk_69 (by decide) ?_
  refine lv_isub C.x C.b dX8_disk_70 ?_
  refine k_topi (y := (nI cap)) (pk_sub (by omega)) ?_
  exact k_iret C hX hr hlocks hQ (by omega) (by omega) (⟨n1, q58, rfl, fr_n1, fr_q58, hM, hO⟩) dX8_disk_71
