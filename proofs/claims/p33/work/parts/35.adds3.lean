
theorem lk_X8_gasket_c181 : Cond.constant RX8 181 (1000000) ∈ wsX8_gasket := by decide +kernel
theorem hdX8_gasket_X8_areFourWithin : yX8_areFourWithin.cls ≠ "java/lang/invoke/MethodHandle" ∧ yX8_areFourWithin.cls ≠ "java/lang/invoke/VarHandle" ∧ (parseMethodDescriptor yX8_areFourWithin.desc).map (fun d => d.parameters.length) = some 5 := by decide +kernel
theorem hdX8_gasket_X2_areOfGasket : yX2_areOfGasket.cls ≠ "java/lang/invoke/MethodHandle" ∧ yX2_areOfGasket.cls ≠ "java/lang/invoke/VarHandle" ∧ (parseMethodDescriptor yX2_areOfGasket.desc).map (fun d => d.parameters.length) = some 4 := by decide +kernel
theorem lk_X8_gasket_in_RX2 : Cond.initialized RX2 ∈ wsX8_gasket := by decide +kernel
theorem lk_X8_gasket_st_X2_areOfGasket : Cond.static yX2_areOfGasket ∈ wsX8_gasket := by decide +kernel
theorem lk_X8_gasket_f23 : Cond.fieldLink RX8 23 "Koebehall" "gaskets" "Ljava/util/ArrayList;" ∈ wsX8_gasket := by decide +kernel
theorem hin_X8_gasket_RX8 : ∀ w ∈ u_ws RX8 TX8 7, w ∈ wsX8_gasket := by decide +kernel
theorem hdX8_gasket_Jx4a65c_size_8abf5 : yJx4a65c_size_8abf5.cls ≠ "java/lang/invoke/MethodHandle" ∧ yJx4a65c_size_8abf5.cls ≠ "java/lang/invoke/VarHandle" ∧ (parseMethodDescriptor yJx4a65c_size_8abf5.desc).map (fun d => d.parameters.length) = some 0 := by decide +kernel
theorem lk_X8_gasket_new187 : ∀ w ∈ [Cond.classLink RX8 187 RX2, Cond.instantiable RX2 3, Cond.initialized RX2], w ∈ wsX8_gasket := by decide +kernel
theorem hin_X8_gasket_RX2 : ∀ w ∈ u_ws RX2 TX2 3, w ∈ wsX8_gasket := by decide +kernel
theorem hdX8_gasket_X2_init : yX2_init.cls ≠ "java/lang/invoke/MethodHandle" ∧ yX2_init.cls ≠ "java/lang/invoke/VarHandle" ∧ (parseMethodDescriptor yX2_init.desc).map (fun d => d.parameters.length) = some 4 := by decide +kernel
theorem lk_X8_gasket_im_X2_init : Cond.instanceMethod yX2_init ∈ wsX8_gasket := by decide +kernel
theorem hdX8_gasket_Jx4a65c_add_9ea2d : yJx4a65c_add_9ea2d.cls ≠ "java/lang/invoke/MethodHandle" ∧ yJx4a65c_add_9ea2d.cls ≠ "java/lang/invoke/VarHandle" ∧ (parseMethodDescriptor yJx4a65c_add_9ea2d.desc).map (fun d => d.parameters.length) = some 1 := by decide +kernel
abbrev rmX8_gasket_n : Room := { frames := 4, cells := 4, slots := 15, locals := 103 }
set_option maxHeartbeats 4000000 in
set_option maxRecDepth 100000 in
/-- X8_gasket_n -/
theorem kX8_gasket_n (l : Launch) (G : kG) (B0 : Nat) (f : kH) (h dl q : Nat) (mc : Int32) (sz cap : Nat) (g0 : Nat → Option Nat) (vs vd vw vm vp vn : Value) (x1 x2 x3 x4 : Int32) (hw : cIn x1.toInt64 (nI 1000000).toInt64 ∧ cIn x2.toInt64 (nI 1000000).toInt64 ∧ cIn x3.toInt64 (nI 1000000).toInt64 ∧ cIn x4.toInt64 (nI 1000000).toInt64) (hof : xOf x1.toInt64 x2.toInt64 x3.toInt64 x4.toInt64) (hM : kCs f [(h, .inr (8, [vs, vd, .ref dl, vw, vm, vp, vn])), (dl, .inr (0, [.int mc, .ref q, .int (nI sz)])), (q, kaO G cap g0)]) (hsz : sz < 8) (hcap : sz < cap) (hc9 : cap < 2 ^ 31) : Met l yX8_gasket wsX8_gasket (rmX8_gasket_n) (kP G B0 f [.ref h, .int x1, .int x2, .int x3, .int x4]) (kQi G B0 (fun r f1 => ∃ t q1 q2 q3 : Nat, r = nI sz ∧ (f t = none ∧ f q1 = none ∧ f q2 = none ∧ f q3 = none) ∧ kCs f1 [(h, .inr (8, [vs, vd, .ref dl, vw, vm, vp, vn])), (dl, .inr (0, [.int (mc + nI 1), .ref q, .int (nI (sz + 1))])), (q, kaO G cap (va_up g0 sz (some t))), (t, .inr (2, [.ref q1, .ref q2, .ref q3])), (q1, kaJ G 4 (xRow x1.toInt64 x2.toInt64 x3.toInt64 x4.toInt64)), (q2, kaJ G 4 (xLeast x1.toInt64 x2.toInt64 x3.toInt64 x4.toInt64)), (q3, kaJ G 4 (fun _ => 0))] ∧ kKp [dl, q] f f1)) 4 15 (kAb B0) := by
  refine kMet (cc := cX8_gasket) (maxL := 5) (ret := (some .int)) (by decide) rfl (Nat.le_of_ble_eq_true rfl) ?_
  intro p e s m args below meth c H locs Q ls C hX hl hr hlocks hnm hQ
  have hO : kKp [dl, q] f f := kKp.rf
  have hS : ∀ a ∈ [dl, q], (f a).isSome := by
    intro a h9
    simp only [List.mem_cons, List.not_mem_nil, or_false] at h9
    rcases h9 with rfl | rfl
    · rw [hM.at 1 rfl]; rfl
    · rw [hM.at 2 rfl]; rfl
  have hl : lv_has ls 5 [(0, .ref h), (1, .int x1), (2, .int x2), (3, .int x3), (4, .int x4)] := hl
  refine lv_iload_n C.x C.b dX8_gasket_0 rfl (lv_at hl 1 rfl) ?_
  refine lv_iload_n C.x C.b dX8_gasket_1 rfl (lv_at hl 2 rfl) ?_
  refine lv_iload_n C.x C.b dX8_gasket_2 rfl (lv_at hl 3 rfl) ?_
  refine lv_iload C.x C.b dX8_gasket_3 (lv_at hl 4 rfl) ?_
  refine lv_ldc (v := nI 1000000) C.x C.b C.ow (C.ts _ lk_X8_gasket_c181) dX8_gasket_5 ?_
  refine k_calli (va_runS (As := [.int x1, .int x2, .int x3, .int x4, .int (nI 1000000)]) (rest := []) C.1 (kX8_areFourWithin l G B0 f x1 x2 x3 x4 (nI 1000000)) (va_cwS 5 C.ts gX8_gasket_X8_areFourWithin rfl rfl rfl (hdX8_gasket_X8_areFourWithin) ⟨Nat.le_of_ble_eq_true rfl, Nat.le_of_ble_eq_true rfl⟩) (k_preS C hX) rfl rfl hl.1 rfl (lv_room (Nat.le_of_ble_eq_true rfl)) dX8_gasket_7 ⟨Nat.le_of_ble_eq_true rfl, Nat.le_of_ble_eq_true rfl⟩) hX (fun r7 f7 H locs hp7 hX => ?_)
  obtain ⟨hr7, hf7⟩ := hp7
  rw [hf7] at hX
  refine k_topi (y := (kbI (cIn x1.toInt64 (nI 1000000).toInt64 ∧ cIn x2.toInt64 (nI 1000000).toInt64 ∧ cIn x3.toInt64 (nI 1000000).toInt64 ∧ cIn x4.toInt64 (nI 1000000).toInt64))) hr7 ?_
  refine lv_if_ne (tgt := 23) C.x C.b dX8_gasket_10 (by decide) (fun c_10 => ?_) (fun c_10 => ?_)
  rotate_left
  · exact absurd (hw) (kbI_0 c_10)
  refine lv_iload_n C.x C.b dX8_gasket_23 rfl (lv_at hl 1 rfl) ?_
  refine lv_i2l (v := x1.toInt64) C.x C.b dX8_gasket_24 rfl ?_
  refine lv_iload_n C.x C.b dX8_gasket_25 rfl (lv_at hl 2 rfl) ?_
  refine lv_i2l (v := x2.toInt64) C.x C.b dX8_gasket_26 rfl ?_
  refine lv_iload_n C.x C.b dX8_gasket_27 rfl (lv_at hl 3 rfl) ?_
  refine lv_i2l (v := x3.toInt64) C.x C.b dX8_gasket_28 rfl ?_
  refine lv_iload C.x C.b dX8_gasket_29 (lv_at hl 4 rfl) ?_
  refine lv_i2l (v := x4.toInt64) C.x C.b dX8_gasket_31 rfl ?_
  refine k_calli (va_runSN (As := [.long x1.toInt64, .long x2.toInt64, .long x3.toInt64, .long x4.toInt64]) (rest := []) C.1 (kX2_areOfGasket l G B0 f x1.toInt64 x2.toInt64 x3.toInt64 x4.toInt64) ⟨va_cnB 4 C.ts gX8_gasket_X2_areOfGasket_n186 rfl rfl rfl (C.2.1.2.2.1 _ (show ((RX8, 186, yX2_areOfGasket, "Koebehall") : String × Nat × MethodName × String) ∈ kNestM by decide +kernel)) (C.ts _ lk_X8_gasket_in_RX2) hdX8_gasket_X2_areOfGasket ⟨Nat.le_of_ble_eq_true rfl, Nat.le_of_ble_eq_true rfl⟩, C.ts _ lk_X8_gasket_st_X2_areOfGasket, trivial⟩ (k_preS C hX) rfl rfl hl.1 rfl (lv_room (Nat.le_of_ble_eq_true rfl)) dX8_gasket_32 ⟨Nat.le_of_ble_eq_true rfl, Nat.le_of_ble_eq_true rfl⟩) hX (fun r32 f32 H locs hp32 hX => ?_)
  obtain ⟨hr32, hf32⟩ := hp32
  rw [hf32] at hX
  refine k_topi (y := (kbI (xOf x1.toInt64 x2.toInt64 x3.toInt64 x4.toInt64))) hr32 ?_
  refine lv_if_ne (tgt := 48) C.x C.b dX8_gasket_35 (by decide) (fun c_35 => ?_) (fun c_35 => ?_)
  rotate_left
  · exact absurd (hof) (kbI_0 c_35)
  refine lv_aload_n C.x C.b dX8_gasket_48 rfl (lv_at hl 0 rfl) ?_
  refine k_get (X := RX8) (T := TX8) (N := 7) (v := .ref dl) C hX (hM.at 0 rfl) rfl hin_X8_gasket_RX8 2 (by decide) lk_X8_gasket_f23 (fun _ h9 => h9) rfl dX8_gasket_49 ?_
  have hM9 : kCs f ([(dl, .inr (0, [.int mc, .ref q, .int (nI sz)]))]) := hM.pick [1] (by decide) ⟨rfl, trivial⟩
  refine k_calli (va_runV (As := []) (rest := []) C.1 (kJx4a65c_size_8abf5 l G B0 f dl mc (.ref q) sz hM9) (cwV 0 C.ts gX8_gasket_Jx4a65c_size_8abf5 rfl rfl rfl ⟨rfl, hdX8_gasket_Jx4a65c_size_8abf5⟩ ⟨Nat.le_of_ble_eq_true rfl, Nat.le_of_ble_eq_true rfl⟩) (k_preV C hX (hM.at 1 rfl) rfl) rfl rfl hl.1 rfl (lv_room (Nat.le_of_ble_eq_true rfl)) dX8_gasket_52 ⟨Nat.le_of_ble_eq_true rfl, Nat.le_of_ble_eq_true rfl⟩) hX (fun r52 f52 H locs hp52 hX => ?_)
  obtain ⟨hr52, hf52⟩ := hp52
  rw [hf52] at hX
  refine k_topi (y := (nI sz)) hr52 ?_
  refine lv_bipush (v := nI 8) C.x C.b dX8_gasket_55 (by decide) ?_
  refine lv_icmp_lt (tgt := 70) C.x C.b dX8_gasket_57 (by decide) (fun c_57 => ?_) (fun c_57 => ?_)
  rotate_left
  · skip
    have c_57 : ¬ (sz < 8) := fun h9 => c_57 ((nI_ltI (by omega) (by omega)).mpr h9)
    omega
  have c_57 : sz < 8 := (nI_ltI (by omega) (by omega)).mp c_57
  refine lv_aload_n C.x C.b dX8_gasket_70 rfl (lv_at hl 0 rfl) ?_
  refine k_get (X := RX8) (T := TX8) (N := 7) (v := .ref dl) C hX (hM.at 0 rfl) rfl hin_X8_gasket_RX8 2 (by decide) lk_X8_gasket_f23 (fun _ h9 => h9) rfl dX8_gasket_71 ?_
  refine k_new (X := RX2) (T := TX2) (N := 3) (ci := 2) (fs := [.null, .null, .null]) C hX hin_X8_gasket_RX2 tyX2_ok lk_X8_gasket_new187 rfl (by decide) (by decide) (by decide) dX8_gasket_74 (fun n1 H hn hX => ?_)
  obtain ⟨g2, hX, hM, hO, fr_n1, hS⟩ := kX.nwP hX hM hO hn hS
  have hM : kCs g2 ([(h, .inr (8, [vs, vd, .ref dl, vw, vm, vp, vn])), (dl, .inr (0, [.int mc, .ref q, .int (nI sz)])), (q, kaO G cap g0), (n1, .inr (2, [.null, .null, .null]))]) := hM
  refine lv_dup C.x C.b dX8_gasket_77 rfl ?_
  refine lv_iload_n C.x C.b dX8_gasket_78 rfl (lv_at hl 1 rfl) ?_
  refine lv_i2l (v := x1.toInt64) C.x C.b dX8_gasket_79 rfl ?_
  refine lv_iload_n C.x C.b dX8_gasket_80 rfl (lv_at hl 2 rfl) ?_
  refine lv_i2l (v := x2.toInt64) C.x C.b dX8_gasket_81 rfl ?_
  refine lv_iload_n C.x C.b dX8_gasket_82 rfl (lv_at hl 3 rfl) ?_
  refine lv_i2l (v := x3.toInt64) C.x C.b dX8_gasket_83 rfl ?_
  refine lv_iload C.x C.b dX8_gasket_84 (lv_at hl 4 rfl) ?_
  refine lv_i2l (v := x4.toInt64) C.x C.b dX8_gasket_86 rfl ?_
  have hM9 : kCs g2 ([(n1, .inr (2, [.null, .null, .null]))]) := hM.pick [3] (by decide) ⟨rfl, trivial⟩
  refine k_callv (va_runIN (As := [.long x1.toInt64, .long x2.toInt64, .long x3.toInt64, .long x4.toInt64]) (rest := [.ref n1, .ref dl]) C.1 (kX2_init l G B0 g2 n1 x1.toInt64 x2.toInt64 x3.toInt64 x4.toInt64 hM9) ⟨va_cnB 4 C.ts gX8_gasket_X2_init_n196 rfl rfl rfl (C.2.1.2.2.1 _ (show ((RX8, 196, yX2_init, "Koebehall") : String × Nat × MethodName × String) ∈ kNestM by decide +kernel)) (C.ts _ lk_X8_gasket_in_RX2) hdX8_gasket_X2_init ⟨Nat.le_of_ble_eq_true rfl, Nat.le_of_ble_eq_true rfl⟩, rfl, C.ts _ lk_X8_gasket_im_X2_init⟩ (k_preS C hX) rfl rfl hl.1 rfl (lv_room (Nat.le_of_ble_eq_true rfl)) dX8_gasket_87 ⟨Nat.le_of_ble_eq_true rfl, Nat.le_of_ble_eq_true rfl⟩) hX (fun f87 H locs hp87 hX => ?_)
  obtain ⟨q1, q2, q3, hM9, hO9, hn1, hn2, hn3⟩ := hp87
  have fr_q1 : f q1 = none := hO.fr hS (hn1)
  have fr_q2 : f q2 = none := hO.fr hS (hn2)
  have fr_q3 : f q3 = none := hO.fr hS (hn3)
  have hM : kCs f87 ([(h, .inr (8, [vs, vd, .ref dl, vw, vm, vp, vn])), (dl, .inr (0, [.int mc, .ref q, .int (nI sz)])), (q, kaO G cap g0), (n1, .inr (2, [.ref q1, .ref q2, .ref q3])), (q1, kaJ G 4 (xRow x1.toInt64 x2.toInt64 x3.toInt64 x4.toInt64)), (q2, kaJ G 4 (xLeast x1.toInt64 x2.toInt64 x3.toInt64 x4.toInt64)), (q3, kaJ G 4 (fun _ => 0))]) := hM.subgs (ws1 := [(n1, .inr (2, [.ref q1, .ref q2, .ref q3]))]) (ns := [(q1, kaJ G 4 (xRow x1.toInt64 x2.toInt64 x3.toInt64 x4.toInt64)), (q2, kaJ G 4 (xLeast x1.toInt64 x2.toInt64 x3.toInt64 x4.toInt64)), (q3, kaJ G 4 (fun _ => 0))]) hM9 hO9 (by
      intro q9 h9
      simp only [List.mem_cons, List.not_mem_nil, or_false] at h9
      rcases h9 with rfl | rfl | rfl
      · exact hn1
      · exact hn2
      · exact hn3) [3] (by simp) ⟨rfl, trivial⟩
  have hO := hO.then (hO9) (by
      intro a h9
      simp only [List.mem_cons, List.not_mem_nil, or_false] at h9
      rcases h9 with rfl
      · exact Or.inr fr_n1)
  have hS : ∀ a ∈ [dl, q], (f87 a).isSome := by
    intro a h9
    simp only [List.mem_cons, List.not_mem_nil, or_false] at h9
    rcases h9 with rfl | rfl
    · rw [hM.at 1 rfl]; rfl
    · rw [hM.at 2 rfl]; rfl
  have hM9 : kCs f87 ([(dl, .inr (0, [.int mc, .ref q, .int (nI sz)])), (q, kaO G cap g0), (n1, .inr (2, [.ref q1, .ref q2, .ref q3]))]) := hM.pick [1, 2, 3] (by decide) ⟨rfl, rfl, rfl, trivial⟩
  refine k_calli (va_runV (As := [.ref n1]) (rest := []) C.1 (kJx4a65c_add_9ea2d_n l G B0 f87 dl q mc sz cap g0 (by omega) (by omega) n1 2 [.ref q1, .ref q2, .ref q3] _ rfl (by decide) hM9) (cwV 1 C.ts gX8_gasket_Jx4a65c_add_9ea2d rfl rfl rfl ⟨rfl, hdX8_gasket_Jx4a65c_add_9ea2d⟩ ⟨Nat.le_of_ble_eq_true rfl, Nat.le_of_ble_eq_true rfl⟩) (k_preV C hX (hM.at 1 rfl) rfl) rfl rfl hl.1 rfl (lv_room (Nat.le_of_ble_eq_true rfl)) dX8_gasket_90 ⟨Nat.le_of_ble_eq_true rfl, Nat.le_of_ble_eq_true rfl⟩) hX (fun r90 f90 H locs hp90 hX => ?_)
  obtain ⟨hr90, hM9, hO9⟩ := hp90
  have hM : kCs f90 ([(h, .inr (8, [vs, vd, .ref dl, vw, vm, vp, vn])), (dl, .inr (0, [.int (mc + nI 1), .ref q, .int (nI (sz + 1))])), (q, kaO G cap (va_up g0 sz (some n1))), (n1, .inr (2, [.ref q1, .ref q2, .ref q3])), (q1, kaJ G 4 (xRow x1.toInt64 x2.toInt64 x3.toInt64 x4.toInt64)), (q2, kaJ G 4 (xLeast x1.toInt64 x2.toInt64 x3.toInt64 x4.toInt64)), (q3, kaJ G 4 (fun _ => 0))]) := hM.sub hM9 (kKp.of hO9) [1, 2, 3] (by simp) ⟨rfl, rfl, rfl, trivial⟩
  have hO := hO.then (kKp.of hO9) (by
      intro a h9
      simp only [List.mem_cons, List.not_mem_nil, or_false] at h9
      rcases h9 with rfl | rfl
      · exact Or.inl (by simp)
      · exact Or.inl (by simp))
  have hS : ∀ a ∈ [dl, q], (f90 a).isSome := by
    intro a h9
    simp only [List.mem_cons, List.not_mem_nil, or_false] at h9
    rcases h9 with rfl | rfl
    · rw [hM.at 1 rfl]; rfl
    · rw [hM.at 2 rfl]; rfl
  refine k_topi (y := (nI 1)) hr90 ?_
  refine lv_pop C.x C.b dX8_gasket_93 rfl ?_
  refine lv_aload_n C.x C.b dX8_gasket_94 rfl (lv_at hl 0 rfl) ?_
  refine k_get (X := RX8) (T := TX8) (N := 7) (v := .ref dl) C hX (hM.at 0 rfl) rfl hin_X8_gasket_RX8 2 (by decide) lk_X8_gasket_f23 (fun _ h9 => h9) rfl dX8_gasket_95 ?_
  have hM9 : kCs f90 ([(dl, .inr (0, [.int (mc + nI 1), .ref q, .int (nI (sz + 1))]))]) := hM.pick [1] (by decide) ⟨rfl, trivial⟩
  refine k_calli (va_runV (As := []) (rest := []) C.1 (kJx4a65c_size_8abf5 l G B0 f90 dl (mc + nI 1) (.ref q) (sz + 1) hM9) (cwV 0 C.ts gX8_gasket_Jx4a65c_size_8abf5 rfl rfl rfl ⟨rfl, hdX8_gasket_Jx4a65c_size_8abf5⟩ ⟨Nat.le_of_ble_eq_true rfl, Nat.le_of_ble_eq_true rfl⟩) (k_preV C hX (hM.at 1 rfl) rfl) rfl rfl hl.1 rfl (lv_room (Nat.le_of_ble_eq_true rfl)) dX8_gasket_98 ⟨Nat.le_of_ble_eq_true rfl, Nat.le_of_ble_eq_true rfl⟩) hX (fun r98 f98 H locs hp98 hX => ?_)
  obtain ⟨hr98, hf98⟩ := hp98
  rw [hf98] at hX
  refine k_topi (y := (nI (sz + 1))) hr98 ?_
  refine lv_iconst (v := nI 1) C.x C.b dX8_gasket_101 (by decide) ?_
  refine lv_isub C.x C.b dX8_gasket_102 ?_
  refine k_topi (y := (nI sz)) (pk_sub (by omega)) ?_
  exact k_iret C hX hr hlocks hQ (by omega) (by omega) (⟨n1, q1, q2, q3, rfl, ⟨fr_n1, fr_q1, fr_q2, fr_q3⟩, hM, hO⟩) dX8_gasket_103

abbrev rmX8_gasket_0 : Room := { frames := 5, cells := 5, slots := 25, locals := 103 }
set_option maxHeartbeats 4000000 in
set_option maxRecDepth 100000 in
/-- X8_gasket_0 -/
theorem kX8_gasket_0 (l : Launch) (G : kG) (B0 : Nat) (f : kH) (h dl : Nat) (mc : Int32) (vs vd vw vm vp vn : Value) (x1 x2 x3 x4 : Int32) (hw : cIn x1.toInt64 (nI 1000000).toInt64 ∧ cIn x2.toInt64 (nI 1000000).toInt64 ∧ cIn x3.toInt64 (nI 1000000).toInt64 ∧ cIn x4.toInt64 (nI 1000000).toInt64) (hof : xOf x1.toInt64 x2.toInt64 x3.toInt64 x4.toInt64) (hM : kCs f [(h, .inr (8, [vs, vd, .ref dl, vw, vm, vp, vn])), (dl, .inr (0, [.int mc, .ref (G.2.2 1), .int (nI 0)]))]) : Met l yX8_gasket wsX8_gasket (rmX8_gasket_0) (kP G B0 f [.ref h, .int x1, .int x2, .int x3, .int x4]) (kQi G B0 (fun r f1 => ∃ t q1 q2 q3 q : Nat, r = nI 0 ∧ (f t = none ∧ f q1 = none ∧ f q2 = none ∧ f q3 = none ∧ f q = none) ∧ kCs f1 [(h, .inr (8, [vs, vd, .ref dl, vw, vm, vp, vn])), (dl, .inr (0, [.int (mc + nI 1), .ref q, .int (nI 1)])), (t, .inr (2, [.ref q1, .ref q2, .ref q3])), (q1, kaJ G 4 (xRow x1.toInt64 x2.toInt64 x3.toInt64 x4.toInt64)), (q2, kaJ G 4 (xLeast x1.toInt64 x2.toInt64 x3.toInt64 x4.toInt64)), (q3, kaJ G 4 (fun _ => 0)), (q, kaO G 10 (va_up (fun _ => none) 0 (some t)))] ∧ kKp [dl] f f1)) 5 25 (kAb B0) := by
  refine kMet (cc := cX8_gasket) (maxL := 5) (ret := (some .int)) (by decide) rfl (Nat.le_of_ble_eq_true rfl) ?_
  intro p e s m args below meth c H locs Q ls C hX hl hr hlocks hnm hQ
  have hO : kKp [dl] f f := kKp.rf
  have hS : ∀ a ∈ [dl], (f a).isSome := by
    intro a h9
    simp only [List.mem_cons, List.not_mem_nil, or_false] at h9
    rcases h9 with rfl
    · rw [hM.at 1 rfl]; rfl
  have hl : lv_has ls 5 [(0, .ref h), (1, .int x1), (2, .int x2), (3, .int x3), (4, .int x4)] := hl
  refine lv_iload_n C.x C.b dX8_gasket_0 rfl (lv_at hl 1 rfl) ?_
  refine lv_iload_n C.x C.b dX8_gasket_1 rfl (lv_at hl 2 rfl) ?_
  refine lv_iload_n C.x C.b dX8_gasket_2 rfl (lv_at hl 3 rfl) ?_
  refine lv_iload C.x C.b dX8_gasket_3 (lv_at hl 4 rfl) ?_
  refine lv_ldc (v := nI 1000000) C.x C.b C.ow (C.ts _ lk_X8_gasket_c181) dX8_gasket_5 ?_
  refine k_calli (va_runS (As := [.int x1, .int x2, .int x3, .int x4, .int (nI 1000000)]) (rest := []) C.1 (kX8_areFourWithin l G B0 f x1 x2 x3 x4 (nI 1000000)) (va_cwS 5 C.ts gX8_gasket_X8_areFourWithin rfl rfl rfl (hdX8_gasket_X8_areFourWithin) ⟨Nat.le_of_ble_eq_true rfl, Nat.le_of_ble_eq_true rfl⟩) (k_preS C hX) rfl rfl hl.1 rfl (lv_room (Nat.le_of_ble_eq_true rfl)) dX8_gasket_7 ⟨Nat.le_of_ble_eq_true rfl, Nat.le_of_ble_eq_true rfl⟩) hX (fun r7 f7 H locs hp7 hX => ?_)
  obtain ⟨hr7, hf7⟩ := hp7
  rw [hf7] at hX
  refine k_topi (y := (kbI (cIn x1.toInt64 (nI 1000000).toInt64 ∧ cIn x2.toInt64 (nI 1000000).toInt64 ∧ cIn x3.toInt64 (nI 1000000).toInt64 ∧ cIn x4.toInt64 (nI 1000000).toInt64))) hr7 ?_
  refine lv_if_ne (tgt := 23) C.x C.b dX8_gasket_10 (by decide) (fun c_10 => ?_) (fun c_10 => ?_)
  rotate_left
  · exact absurd (hw) (kbI_0 c_10)
  refine lv_iload_n C.x C.b dX8_gasket_23 rfl (lv_at hl 1 rfl) ?_
  refine lv_i2l (v := x1.toInt64) C.x C.b dX8_gasket_24 rfl ?_
  refine lv_iload_n C.x C.b dX8_gasket_25 rfl (lv_at hl 2 rfl) ?_
  refine lv_i2l (v := x2.toInt64) C.x C.b dX8_gasket_26 rfl ?_
  refine lv_iload_n C.x C.b dX8_gasket_27 rfl (lv_at hl 3 rfl) ?_
  refine lv_i2l (v := x3.toInt64) C.x C.b dX8_gasket_28 rfl ?_
  refine lv_iload C.x C.b dX8_gasket_29 (lv_at hl 4 rfl) ?_
  refine lv_i2l (v := x4.toInt64) C.x C.b dX8_gasket_31 rfl ?_
  refine k_calli (va_runSN (As := [.long x1.toInt64, .long x2.toInt64, .long x3.toInt64, .long x4.toInt64]) (rest := []) C.1 (kX2_areOfGasket l G B0 f x1.toInt64 x2.toInt64 x3.toInt64 x4.toInt64) ⟨va_cnB 4 C.ts gX8_gasket_X2_areOfGasket_n186 rfl rfl rfl (C.2.1.2.2.1 _ (show ((RX8, 186, yX2_areOfGasket, "Koebehall") : String × Nat × MethodName × String) ∈ kNestM by decide +kernel)) (C.ts _ lk_X8_gasket_in_RX2) hdX8_gasket_X2_areOfGasket ⟨Nat.le_of_ble_eq_true rfl, Nat.le_of_ble_eq_true rfl⟩, C.ts _ lk_X8_gasket_st_X2_areOfGasket, trivial⟩ (k_preS C hX) rfl rfl hl.1 rfl (lv_room (Nat.le_of_ble_eq_true rfl)) dX8_gasket_32 ⟨Nat.le_of_ble_eq_true rfl, Nat.le_of_ble_eq_true rfl⟩) hX (fun r32 f32 H locs hp32 hX => ?_)
  obtain ⟨hr32, hf32⟩ := hp32
  rw [hf32] at hX
  refine k_topi (y := (kbI (xOf x1.toInt64 x2.toInt64 x3.toInt64 x4.toInt64))) hr32 ?_
  refine lv_if_ne (tgt := 48) C.x C.b dX8_gasket_35 (by decide) (fun c_35 => ?_) (fun c_35 => ?_)
  rotate_left
  · exact absurd (hof) (kbI_0 c_35)
  refine lv_aload_n C.x C.b dX8_gasket_48 rfl (lv_at hl 0 rfl) ?_
  refine k_get (X := RX8) (T := TX8) (N := 7) (v := .ref dl) C hX (hM.at 0 rfl) rfl hin_X8_gasket_RX8 2 (by decide) lk_X8_gasket_f23 (fun _ h9 => h9) rfl dX8_gasket_49 ?_
  have hM9 : kCs f ([(dl, .inr (0, [.int mc, .ref (G.2.2 1), .int (nI 0)]))]) := hM.pick [1] (by decide) ⟨rfl, trivial⟩
  refine k_calli (va_runV (As := []) (rest := []) C.1 (kJx4a65c_size_8abf5 l G B0 f dl mc (.ref (G.2.2 1)) 0 hM9) (cwV 0 C.ts gX8_gasket_Jx4a65c_size_8abf5 rfl rfl rfl ⟨rfl, hdX8_gasket_Jx4a65c_size_8abf5⟩ ⟨Nat.le_of_ble_eq_true rfl, Nat.le_of_ble_eq_true rfl⟩) (k_preV C hX (hM.at 1 rfl) rfl) rfl rfl hl.1 rfl (lv_room (Nat.le_of_ble_eq_true rfl)) dX8_gasket_52 ⟨Nat.le_of_ble_eq_true rfl, Nat.le_of_ble_eq_true rfl⟩) hX (fun r52 f52 H locs hp52 hX => ?_)
  obtain ⟨hr52, hf52⟩ := hp52
  rw [hf52] at hX
  refine k_topi (y := (nI 0)) hr52 ?_
  refine lv_bipush (v := nI 8) C.x C.b dX8_gasket_55 (by decide) ?_
  refine lv_icmp_lt (tgt := 70) C.x C.b dX8_gasket_57 (by decide) (fun c_57 => ?_) (fun c_57 => ?_)
  rotate_left
  · skip
    have c_57 : ¬ (0 < 8) := fun h9 => c_57 ((nI_ltI (by omega) (by omega)).mpr h9)
    omega
  have c_57 : 0 < 8 := (nI_ltI (by omega) (by omega)).mp c_57
  refine lv_aload_n C.x C.b dX8_gasket_70 rfl (lv_at hl 0 rfl) ?_
  refine k_get (X := RX8) (T := TX8) (N := 7) (v := .ref dl) C hX (hM.at 0 rfl) rfl hin_X8_gasket_RX8 2 (by decide) lk_X8_gasket_f23 (fun _ h9 => h9) rfl dX8_gasket_71 ?_
  refine k_new (X := RX2) (T := TX2) (N := 3) (ci := 2) (fs := [.null, .null, .null]) C hX hin_X8_gasket_RX2 tyX2_ok lk_X8_gasket_new187 rfl (by decide) (by decide) (by decide) dX8_gasket_74 (fun n1 H hn hX => ?_)
  obtain ⟨g2, hX, hM, hO, fr_n1, hS⟩ := kX.nwP hX hM hO hn hS
  have hM : kCs g2 ([(h, .inr (8, [vs, vd, .ref dl, vw, vm, vp, vn])), (dl, .inr (0, [.int mc, .ref (G.2.2 1), .int (nI 0)])), (n1, .inr (2, [.null, .null, .null]))]) := hM
  refine lv_dup C.x C.b dX8_gasket_77 rfl ?_
  refine lv_iload_n C.x C.b dX8_gasket_78 rfl (lv_at hl 1 rfl) ?_
  refine lv_i2l (v := x1.toInt64) C.x C.b dX8_gasket_79 rfl ?_
  refine lv_iload_n C.x C.b dX8_gasket_80 rfl (lv_at hl 2 rfl) ?_
  refine lv_i2l (v := x2.toInt64) C.x C.b dX8_gasket_81 rfl ?_
  refine lv_iload_n C.x C.b dX8_gasket_82 rfl (lv_at hl 3 rfl) ?_
  refine lv_i2l (v := x3.toInt64) C.x C.b dX8_gasket_83 rfl ?_
  refine lv_iload C.x C.b dX8_gasket_84 (lv_at hl 4 rfl) ?_
  refine lv_i2l (v := x4.toInt64) C.x C.b dX8_gasket_86 rfl ?_
  have hM9 : kCs g2 ([(n1, .inr (2, [.null, .null, .null]))]) := hM.pick [2] (by decide) ⟨rfl, trivial⟩
  refine k_callv (va_runIN (As := [.long x1.toInt64, .long x2.toInt64, .long x3.toInt64, .long x4.toInt64]) (rest := [.ref n1, .ref dl]) C.1 (kX2_init l G B0 g2 n1 x1.toInt64 x2.toInt64 x3.toInt64 x4.toInt64 hM9) ⟨va_cnB 4 C.ts gX8_gasket_X2_init_n196 rfl rfl rfl (C.2.1.2.2.1 _ (show ((RX8, 196, yX2_init, "Koebehall") : String × Nat × MethodName × String) ∈ kNestM by decide +kernel)) (C.ts _ lk_X8_gasket_in_RX2) hdX8_gasket_X2_init ⟨Nat.le_of_ble_eq_true rfl, Nat.le_of_ble_eq_true rfl⟩, rfl, C.ts _ lk_X8_gasket_im_X2_init⟩ (k_preS C hX) rfl rfl hl.1 rfl (lv_room (Nat.le_of_ble_eq_true rfl)) dX8_gasket_87 ⟨Nat.le_of_ble_eq_true rfl, Nat.le_of_ble_eq_true rfl⟩) hX (fun f87 H locs hp87 hX => ?_)
  obtain ⟨q1, q2, q3, hM9, hO9, hn1, hn2, hn3⟩ := hp87
  have fr_q1 : f q1 = none := hO.fr hS (hn1)
  have fr_q2 : f q2 = none := hO.fr hS (hn2)
  have fr_q3 : f q3 = none := hO.fr hS (hn3)
  have hM : kCs f87 ([(h, .inr (8, [vs, vd, .ref dl, vw, vm, vp, vn])), (dl, .inr (0, [.int mc, .ref (G.2.2 1), .int (nI 0)])), (n1, .inr (2, [.ref q1, .ref q2, .ref q3])), (q1, kaJ G 4 (xRow x1.toInt64 x2.toInt64 x3.toInt64 x4.toInt64)), (q2, kaJ G 4 (xLeast x1.toInt64 x2.toInt64 x3.toInt64 x4.toInt64)), (q3, kaJ G 4 (fun _ => 0))]) := hM.subgs (ws1 := [(n1, .inr (2, [.ref q1, .ref q2, .ref q3]))]) (ns := [(q1, kaJ G 4 (xRow x1.toInt64 x2.toInt64 x3.toInt64 x4.toInt64)), (q2, kaJ G 4 (xLeast x1.toInt64 x2.toInt64 x3.toInt64 x4.toInt64)), (q3, kaJ G 4 (fun _ => 0))]) hM9 hO9 (by
      intro q9 h9
      simp only [List.mem_cons, List.not_mem_nil, or_false] at h9
      rcases h9 with rfl | rfl | rfl
      · exact hn1
      · exact hn2
      · exact hn3) [2] (by simp) ⟨rfl, trivial⟩
  have hO := hO.then (hO9) (by
      intro a h9
      simp only [List.mem_cons, List.not_mem_nil, or_false] at h9
      rcases h9 with rfl
      · exact Or.inr fr_n1)
  have hS : ∀ a ∈ [dl], (f87 a).isSome := by
    intro a h9
    simp only [List.mem_cons, List.not_mem_nil, or_false] at h9
    rcases h9 with rfl
    · rw [hM.at 1 rfl]; rfl
  have hM9 : kCs f87 ([(dl, .inr (0, [.int mc, .ref (G.2.2 1), .int (nI 0)])), (n1, .inr (2, [.ref q1, .ref q2, .ref q3]))]) := hM.pick [1, 2] (by decide) ⟨rfl, rfl, trivial⟩
  refine k_calli (va_runV (As := [.ref n1]) (rest := []) C.1 (kJx4a65c_add_9ea2d_0 l G B0 f87 dl mc n1 2 [.ref q1, .ref q2, .ref q3] _ rfl (by decide) hM9) (cwV 1 C.ts gX8_gasket_Jx4a65c_add_9ea2d rfl rfl rfl ⟨rfl, hdX8_gasket_Jx4a65c_add_9ea2d⟩ ⟨Nat.le_of_ble_eq_true rfl, Nat.le_of_ble_eq_true rfl⟩) (k_preV C hX (hM.at 1 rfl) rfl) rfl rfl hl.1 rfl (lv_room (Nat.le_of_ble_eq_true rfl)) dX8_gasket_90 ⟨Nat.le_of_ble_eq_true rfl, Nat.le_of_ble_eq_true rfl⟩) hX (fun r90 f90 H locs hp90 hX => ?_)
  obtain ⟨q90, hr90, hn90, hM9, hO9⟩ := hp90
  have fr_q90 : f q90 = none := hO.fr hS hn90
  have hM : kCs f90 ([(h, .inr (8, [vs, vd, .ref dl, vw, vm, vp, vn])), (dl, .inr (0, [.int (mc + nI 1), .ref q90, .int (nI 1)])), (n1, .inr (2, [.ref q1, .ref q2, .ref q3])), (q1, kaJ G 4 (xRow x1.toInt64 x2.toInt64 x3.toInt64 x4.toInt64)), (q2, kaJ G 4 (xLeast x1.toInt64 x2.toInt64 x3.toInt64 x4.toInt64)), (q3, kaJ G 4 (fun _ => 0)), (q90, kaO G 10 (va_up (fun _ => none) 0 (some n1)))]) := hM.subg hM9 hO9 hn90 [1, 2] (by simp) ⟨rfl, rfl, trivial⟩
  have hO := hO.then (hO9) (by
      intro a h9
      simp only [List.mem_cons, List.not_mem_nil, or_false] at h9
      rcases h9 with rfl
      · exact Or.inl (by simp))
  have hS : ∀ a ∈ [dl], (f90 a).isSome := by
    intro a h9
    simp only [List.mem_cons, List.not_mem_nil, or_false] at h9
    rcases h9 with rfl
    · rw [hM.at 1 rfl]; rfl
  refine k_topi (y := (nI 1)) hr90 ?_
  refine lv_pop C.x C.b dX8_gasket_93 rfl ?_
  refine lv_aload_n C.x C.b dX8_gasket_94 rfl (lv_at hl 0 rfl) ?_
  refine k_get (X := RX8) (T := TX8) (N := 7) (v := .ref dl) C hX (hM.at 0 rfl) rfl hin_X8_gasket_RX8 2 (by decide) lk_X8_gasket_f23 (fun _ h9 => h9) rfl dX8_gasket_95 ?_
  have hM9 : kCs f90 ([(dl, .inr (0, [.int (mc + nI 1), .ref q90, .int (nI 1)]))]) := hM.pick [1] (by decide) ⟨rfl, trivial⟩
  refine k_calli (va_runV (As := []) (rest := []) C.1 (kJx4a65c_size_8abf5 l G B0 f90 dl (mc + nI 1) (.ref q90) 1 hM9) (cwV 0 C.ts gX8_gasket_Jx4a65c_size_8abf5 rfl rfl rfl ⟨rfl, hdX8_gasket_Jx4a65c_size_8abf5⟩ ⟨Nat.le_of_ble_eq_true rfl, Nat.le_of_ble_eq_true rfl⟩) (k_preV C hX (hM.at 1 rfl) rfl) rfl rfl hl.1 rfl (lv_room (Nat.le_of_ble_eq_true rfl)) dX8_gasket_98 ⟨Nat.le_of_ble_eq_true rfl, Nat.le_of_ble_eq_true rfl⟩) hX (fun r98 f98 H locs hp98 hX => ?_)
  obtain ⟨hr98, hf98⟩ := hp98
  rw [hf98] at hX
  refine k_topi (y := (nI 1)) hr98 ?_
  refine lv_iconst (v := nI 1) C.x C.b dX8_gasket_101 (by decide) ?_
  refine lv_isub C.x C.b dX8_gasket_102 ?_
  refine k_topi (y := (nI 0)) (by decide) ?_
  exact k_iret C hX hr hlocks hQ (by omega) (by omega) (⟨n1, q1, q2, q3, q90, rfl, ⟨fr_n1, fr_q1, fr_q2, fr_q3, fr_q90⟩, hM, hO⟩) dX8_gasket_103

theorem lk_X8_wire_f48 : Cond.fieldLink RX8 48 "Koebehall" "network" "LKoebehall$Network;" ∈ wsX8_wire := by decide +kernel
theorem hin_X8_wire_RX8 : ∀ w ∈ u_ws RX8 TX8 7, w ∈ wsX8_wire := by decide +kernel
theorem hdX8_wire_X4_hasNode : yX4_hasNode.cls ≠ "java/lang/invoke/MethodHandle" ∧ yX4_hasNode.cls ≠ "java/lang/invoke/VarHandle" ∧ (parseMethodDescriptor yX4_hasNode.desc).map (fun d => d.parameters.length) = some 1 := by decide +kernel
theorem lk_X8_wire_in_RX4 : Cond.initialized RX4 ∈ wsX8_wire := by decide +kernel
theorem lk_X8_wire_im_X4_hasNode : Cond.instanceMethod yX4_hasNode ∈ wsX8_wire := by decide +kernel
theorem lk_X8_wire_se_X4_hasNode : Cond.selects RX4 yX4_hasNode yX4_hasNode ∈ wsX8_wire := by decide +kernel
theorem hin_X8_wire_RX4 : ∀ w ∈ u_ws RX4 TX4 3, w ∈ wsX8_wire := by decide +kernel
theorem hdX8_wire_Jx4a65c_size_8abf5 : yJx4a65c_size_8abf5.cls ≠ "java/lang/invoke/MethodHandle" ∧ yJx4a65c_size_8abf5.cls ≠ "java/lang/invoke/VarHandle" ∧ (parseMethodDescriptor yJx4a65c_size_8abf5.desc).map (fun d => d.parameters.length) = some 0 := by decide +kernel
theorem lk_X8_wire_new323 : ∀ w ∈ [Cond.classLink RX8 323 RX7, Cond.instantiable RX7 2, Cond.initialized RX7], w ∈ wsX8_wire := by decide +kernel
theorem hin_X8_wire_RX7 : ∀ w ∈ u_ws RX7 TX7 2, w ∈ wsX8_wire := by decide +kernel
theorem hdX8_wire_X7_init : yX7_init.cls ≠ "java/lang/invoke/MethodHandle" ∧ yX7_init.cls ≠ "java/lang/invoke/VarHandle" ∧ (parseMethodDescriptor yX7_init.desc).map (fun d => d.parameters.length) = some 2 := by decide +kernel
theorem lk_X8_wire_in_RX7 : Cond.initialized RX7 ∈ wsX8_wire := by decide +kernel
theorem lk_X8_wire_im_X7_init : Cond.instanceMethod yX7_init ∈ wsX8_wire := by decide +kernel
theorem hdX8_wire_Jx4a65c_add_9ea2d : yJx4a65c_add_9ea2d.cls ≠ "java/lang/invoke/MethodHandle" ∧ yJx4a65c_add_9ea2d.cls ≠ "java/lang/invoke/VarHandle" ∧ (parseMethodDescriptor yJx4a65c_add_9ea2d.desc).map (fun d => d.parameters.length) = some 1 := by decide +kernel
abbrev rmX8_wire_n : Room := { frames := 2, cells := 1, slots := 2, locals := 44 }
set_option maxHeartbeats 4000000 in
set_option maxRecDepth 100000 in
/-- X8_wire_n -/
theorem kX8_wire_n (l : Launch) (G : kG) (B0 : Nat) (f : kH) (h nn wL tA nc : Nat) (vs vd vg vw vm vp : Value) (r z : Nat → Nat) (M : Nat → Nat → Int64) (x y : Nat) (hN : kCs f (mxW G nn wL tA nc r z M)) (hz : mxZ z) (hnc : nc ≤ 6) (hx9 : x < nc) (hy9 : y < nc) (hxy : ¬ x = y) (q : Nat) (mc : Int32) (sz cap : Nat) (g0 : Nat → Option Nat) (hM : kCs f [(h, .inr (8, [vs, vd, vg, vw, vm, vp, .ref nn])), (nn, .inr (4, [.ref wL, .ref tA, .int (nI nc)])), (wL, .inr (0, [.int mc, .ref q, .int (nI sz)])), (q, kaO G cap g0)]) (hsz : sz < 10) (hcap : sz < cap) (hc9 : cap < 2 ^ 31) : Met l yX8_wire wsX8_wire (rmX8_wire_n) (kP G B0 f [.ref h, .int (nI x), .int (nI y)]) (kQi G B0 (fun r9 f1 => ∃ t : Nat, r9 = nI sz ∧ f t = none ∧ kCs f1 [(h, .inr (8, [vs, vd, vg, vw, vm, vp, .ref nn])), (nn, .inr (4, [.ref wL, .ref tA, .int (nI nc)])), (wL, .inr (0, [.int (mc + nI 1), .ref q, .int (nI (sz + 1))])), (q, kaO G cap (va_up g0 sz (some t))), (t, .inr (7, [.int (nI x), .int (nI y)]))] ∧ kKp [wL, q] f f1)) 1 2 (kAb B0) := by
  refine kMet (cc := cX8_wire) (maxL := 3) (ret := (some .int)) (by decide) rfl (Nat.le_of_ble_eq_true rfl) ?_
  intro p e s m args below meth c H locs Q ls C hX hl hr hlocks hnm hQ
  have hO : kKp [wL, q] f f := kKp.rf
  have hS : ∀ a ∈ [wL, q], (f a).isSome := by
    intro a h9
    simp only [List.mem_cons, List.not_mem_nil, or_false] at h9
    rcases h9 with rfl | rfl
    · rw [hM.at 2 rfl]; rfl
    · rw [hM.at 3 rfl]; rfl
  have hl : lv_has ls 3 [(0, .ref h), (1, .int (nI x)), (2, .int (nI y))] := hl
  refine lv_aload_n C.x C.b dX8_wire_0 rfl (lv_at hl 0 rfl) ?_
  refine k_get (X := RX8) (T := TX8) (N := 7) (v := .ref nn) C hX (hM.at 0 rfl) rfl hin_X8_wire_RX8 6 (by decide) lk_X8_wire_f48 (fun _ h9 => h9) rfl dX8_wire_1 ?_
  refine lv_iload_n C.x C.b dX8_wire_4 rfl (lv_at hl 1 rfl) ?_
  refine k_calli (va_runVN (As := [.int (nI x)]) (rest := []) C.1 (kX4_hasNode l G B0 f nn wL tA nc r z M (nI x) hN hz hnc) ⟨va_cnB 1 C.ts gX8_wire_X4_hasNode_n313 rfl rfl rfl (C.2.1.2.2.1 _ (show ((RX8, 313, yX4_hasNode, "Koebehall") : String × Nat × MethodName × String) ∈ kNestM by decide +kernel)) (C.ts _ lk_X8_wire_in_RX4) hdX8_wire_X4_hasNode ⟨Nat.le_of_ble_eq_true rfl, Nat.le_of_ble_eq_true rfl⟩, C.ts _ lk_X8_wire_im_X4_hasNode, C.ts _ lk_X8_wire_se_X4_hasNode⟩ (k_preV C hX (hM.at 1 rfl) rfl) rfl rfl hl.1 rfl (lv_room (Nat.le_of_ble_eq_true rfl)) dX8_wire_5 ⟨Nat.le_of_ble_eq_true rfl, Nat.le_of_ble_eq_true rfl⟩) hX (fun r5 f5 H locs hp5 hX => ?_)
  obtain ⟨hr5, hf5⟩ := hp5
  rw [hf5] at hX
  refine k_topi (y := (kbI (mIn (nI x) nc))) hr5 ?_
  refine lv_if_eq (tgt := 22) C.x C.b dX8_wire_8 (by decide) (fun c_8 => ?_) (fun c_8 => ?_)
  · exact absurd ((mIn_nI (by omega)).mpr hx9) (kbI_0 c_8)
  refine lv_aload_n C.x C.b dX8_wire_11 rfl (lv_at hl 0 rfl) ?_
  refine k_get (X := RX8) (T := TX8) (N := 7) (v := .ref nn) C hX (hM.at 0 rfl) rfl hin_X8_wire_RX8 6 (by decide) lk_X8_wire_f48 (fun _ h9 => h9) rfl dX8_wire_12 ?_
  refine lv_iload_n C.x C.b dX8_wire_15 rfl (lv_at hl 2 rfl) ?_
  refine k_calli (va_runVN (As := [.int (nI y)]) (rest := []) C.1 (kX4_hasNode l G B0 f nn wL tA nc r z M (nI y) hN hz hnc) ⟨va_cnB 1 C.ts gX8_wire_X4_hasNode_n313 rfl rfl rfl (C.2.1.2.2.1 _ (show ((RX8, 313, yX4_hasNode, "Koebehall") : String × Nat × MethodName × String) ∈ kNestM by decide +kernel)) (C.ts _ lk_X8_wire_in_RX4) hdX8_wire_X4_hasNode ⟨Nat.le_of_ble_eq_true rfl, Nat.le_of_ble_eq_true rfl⟩, C.ts _ lk_X8_wire_im_X4_hasNode, C.ts _ lk_X8_wire_se_X4_hasNode⟩ (k_preV C hX (hM.at 1 rfl) rfl) rfl rfl hl.1 rfl (lv_room (Nat.le_of_ble_eq_true rfl)) dX8_wire_16 ⟨Nat.le_of_ble_eq_true rfl, Nat.le_of_ble_eq_true rfl⟩) hX (fun r16 f16 H locs hp16 hX => ?_)
  obtain ⟨hr16, hf16⟩ := hp16
  rw [hf16] at hX
  refine k_topi (y := (kbI (mIn (nI y) nc))) hr16 ?_
  refine lv_if_ne (tgt := 33) C.x C.b dX8_wire_19 (by decide) (fun c_19 => ?_) (fun c_19 => ?_)
  rotate_left
  · exact absurd ((mIn_nI (by omega)).mpr hy9) (kbI_0 c_19)
  refine lv_iload_n C.x C.b dX8_wire_33 rfl (lv_at hl 1 rfl) ?_
  refine lv_iload_n C.x C.b dX8_wire_34 rfl (lv_at hl 2 rfl) ?_
  refine lv_icmp_ne (tgt := 48) C.x C.b dX8_wire_35 (by decide) (fun c_35 => ?_) (fun c_35 => ?_)
  rotate_left
  · skip
    have c_35 : x = y := (nI_eq (by omega) (by omega)).mp c_35
    omega
  have c_35 : ¬ (x = y) := fun h9 => c_35 ((nI_eq (by omega) (by omega)).mpr h9)
  refine lv_aload_n C.x C.b dX8_wire_48 rfl (lv_at hl 0 rfl) ?_
  refine k_get (X := RX8) (T := TX8) (N := 7) (v := .ref nn) C hX (hM.at 0 rfl) rfl hin_X8_wire_RX8 6 (by decide) lk_X8_wire_f48 (fun _ h9 => h9) rfl dX8_wire_49 ?_
  refine k_getN (host := "Koebehall") (X := RX4) (T := TX4) (N := 3) (v := .ref wL) C hX (hM.at 1 rfl) rfl hin_X8_wire_RX4 0 (by decide) (by decide +kernel) (fun _ h9 => h9) rfl dX8_wire_52 ?_
  have hM9 : kCs f ([(wL, .inr (0, [.int mc, .ref q, .int (nI sz)]))]) := hM.pick [2] (by decide) ⟨rfl, trivial⟩
  refine k_calli (va_runV (As := []) (rest := []) C.1 (kJx4a65c_size_8abf5 l G B0 f wL mc (.ref q) sz hM9) (cwV 0 C.ts gX8_wire_Jx4a65c_size_8abf5 rfl rfl rfl ⟨rfl, hdX8_wire_Jx4a65c_size_8abf5⟩ ⟨Nat.le_of_ble_eq_true rfl, Nat.le_of_ble_eq_true rfl⟩) (k_preV C hX (hM.at 2 rfl) rfl) rfl rfl hl.1 rfl (lv_room (Nat.le_of_ble_eq_true rfl)) dX8_wire_55 ⟨Nat.le_of_ble_eq_true rfl, Nat.le_of_ble_eq_true rfl⟩) hX (fun r55 f55 H locs hp55 hX => ?_)
  obtain ⟨hr55, hf55⟩ := hp55
  rw [hf55] at hX
  refine k_topi (y := (nI sz)) hr55 ?_
  refine lv_bipush (v := nI 10) C.x C.b dX8_wire_58 (by decide) ?_
  refine lv_icmp_lt (tgt := 74) C.x C.b dX8_wire_60 (by decide) (fun c_60 => ?_) (fun c_60 => ?_)
  rotate_left
  · skip
    have c_60 : ¬ (sz < 10) := fun h9 => c_60 ((nI_ltI (by omega) (by omega)).mpr h9)
    omega
  have c_60 : sz < 10 := (nI_ltI (by omega) (by omega)).mp c_60
  refine lv_aload_n C.x C.b dX8_wire_74 rfl (lv_at hl 0 rfl) ?_
  refine k_get (X := RX8) (T := TX8) (N := 7) (v := .ref nn) C hX (hM.at 0 rfl) rfl hin_X8_wire_RX8 6 (by decide) lk_X8_wire_f48 (fun _ h9 => h9) rfl dX8_wire_75 ?_
  refine k_getN (host := "Koebehall") (X := RX4) (T := TX4) (N := 3) (v := .ref wL) C hX (hM.at 1 rfl) rfl hin_X8_wire_RX4 0 (by decide) (by decide +kernel) (fun _ h9 => h9) rfl dX8_wire_78 ?_
  refine k_new (X := RX7) (T := TX7) (N := 2) (ci := 7) (fs := [.int 0, .int 0]) C hX hin_X8_wire_RX7 tyX7_ok lk_X8_wire_new323 rfl (by decide) (by decide) (by decide) dX8_wire_81 (fun n1 H hn hX => ?_)
  obtain ⟨g2, hX, hM, hO, fr_n1, hS⟩ := kX.nwP hX hM hO hn hS
  have hM : kCs g2 ([(h, .inr (8, [vs, vd, vg, vw, vm, vp, .ref nn])), (nn, .inr (4, [.ref wL, .ref tA, .int (nI nc)])), (wL, .inr (0, [.int mc, .ref q, .int (nI sz)])), (q, kaO G cap g0), (n1, .inr (7, [.int 0, .int 0]))]) := hM
  refine lv_dup C.x C.b dX8_wire_84 rfl ?_
  refine lv_iload_n C.x C.b dX8_wire_85 rfl (lv_at hl 1 rfl) ?_
  refine lv_iload_n C.x C.b dX8_wire_86 rfl (lv_at hl 2 rfl) ?_
  have hM9 : kCs g2 ([(n1, .inr (7, [.int 0, .int 0]))]) := hM.pick [4] (by decide) ⟨rfl, trivial⟩
  refine k_callv (va_runIN (As := [.int (nI x), .int (nI y)]) (rest := [.ref n1, .ref wL]) C.1 (kX7_init l G B0 g2 n1 (nI x) (nI y) hM9) ⟨va_cnB 2 C.ts gX8_wire_X7_init_n325 rfl rfl rfl (C.2.1.2.2.1 _ (show ((RX8, 325, yX7_init, "Koebehall") : String × Nat × MethodName × String) ∈ kNestM by decide +kernel)) (C.ts _ lk_X8_wire_in_RX7) hdX8_wire_X7_init ⟨Nat.le_of_ble_eq_true rfl, Nat.le_of_ble_eq_true rfl⟩, rfl, C.ts _ lk_X8_wire_im_X7_init⟩ (k_preS C hX) rfl rfl hl.1 rfl (lv_room (Nat.le_of_ble_eq_true rfl)) dX8_wire_87 ⟨Nat.le_of_ble_eq_true rfl, Nat.le_of_ble_eq_true rfl⟩) hX (fun f87 H locs hp87 hX => ?_)
  obtain ⟨hM9, hO9⟩ := hp87
  have hM : kCs f87 ([(h, .inr (8, [vs, vd, vg, vw, vm, vp, .ref nn])), (nn, .inr (4, [.ref wL, .ref tA, .int (nI nc)])), (wL, .inr (0, [.int mc, .ref q, .int (nI sz)])), (q, kaO G cap g0), (n1, .inr (7, [.int (nI x), .int (nI y)]))]) := hM.sub hM9 (kKp.of hO9) [4] (by simp) ⟨rfl, trivial⟩
  have hO := hO.then (kKp.of hO9) (by
      intro a h9
      simp only [List.mem_cons, List.not_mem_nil, or_false] at h9
      rcases h9 with rfl
      · exact Or.inr fr_n1)
  have hS : ∀ a ∈ [wL, q], (f87 a).isSome := by
    intro a h9
    simp only [List.mem_cons, List.not_mem_nil, or_false] at h9
    rcases h9 with rfl | rfl
    · rw [hM.at 2 rfl]; rfl
    · rw [hM.at 3 rfl]; rfl
  have hM9 : kCs f87 ([(wL, .inr (0, [.int mc, .ref q, .int (nI sz)])), (q, kaO G cap g0), (n1, .inr (7, [.int (nI x), .int (nI y)]))]) := hM.pick [2, 3, 4] (by decide) ⟨rfl, rfl, rfl, trivial⟩
  refine k_calli (va_runV (As := [.ref n1]) (rest := []) C.1 (kJx4a65c_add_9ea2d_n l G B0 f87 wL q mc sz cap g0 (by omega) (by omega) n1 7 [.int (nI x), .int (nI y)] _ rfl (by decide) hM9) (cwV 1 C.ts gX8_wire_Jx4a65c_add_9ea2d rfl rfl rfl ⟨rfl, hdX8_wire_Jx4a65c_add_9ea2d⟩ ⟨Nat.le_of_ble_eq_true rfl, Nat.le_of_ble_eq_true rfl⟩) (k_preV C hX (hM.at 2 rfl) rfl) rfl rfl hl.1 rfl (lv_room (Nat.le_of_ble_eq_true rfl)) dX8_wire_90 ⟨Nat.le_of_ble_eq_true rfl, Nat.le_of_ble_eq_true rfl⟩) hX (fun r90 f90 H locs hp90 hX => ?_)
  obtain ⟨hr90, hM9, hO9⟩ := hp90
  have hM : kCs f90 ([(h, .inr (8, [vs, vd, vg, vw, vm, vp, .ref nn])), (nn, .inr (4, [.ref wL, .ref tA, .int (nI nc)])), (wL, .inr (0, [.int (mc + nI 1), .ref q, .int (nI (sz + 1))])), (q, kaO G cap (va_up g0 sz (some n1))), (n1, .inr (7, [.int (nI x), .int (nI y)]))]) := hM.sub hM9 (kKp.of hO9) [2, 3, 4] (by simp) ⟨rfl, rfl, rfl, trivial⟩
  have hO := hO.then (kKp.of hO9) (by
      intro a h9
      simp only [List.mem_cons, List.not_mem_nil, or_false] at h9
      rcases h9 with rfl | rfl
      · exact Or.inl (by simp)
      · exact Or.inl (by simp))
  have hS : ∀ a ∈ [wL, q], (f90 a).isSome := by
    intro a h9
    simp only [List.mem_cons, List.not_mem_nil, or_false] at h9
    rcases h9 with rfl | rfl
    · rw [hM.at 2 rfl]; rfl
    · rw [hM.at 3 rfl]; rfl
  refine k_topi (y := (nI 1)) hr90 ?_
  refine lv_pop C.x C.b dX8_wire_93 rfl ?_
  refine lv_aload_n C.x C.b dX8_wire_94 rfl (lv_at hl 0 rfl) ?_
  refine k_get (X := RX8) (T := TX8) (N := 7) (v := .ref nn) C hX (hM.at 0 rfl) rfl hin_X8_wire_RX8 6 (by decide) lk_X8_wire_f48 (fun _ h9 => h9) rfl dX8_wire_95 ?_
  refine k_getN (host := "Koebehall") (X := RX4) (T := TX4) (N := 3) (v := .ref wL) C hX (hM.at 1 rfl) rfl hin_X8_wire_RX4 0 (by decide) (by decide +kernel) (fun _ h9 => h9) rfl dX8_wire_98 ?_
  have hM9 : kCs f90 ([(wL, .inr (0, [.int (mc + nI 1), .ref q, .int (nI (sz + 1))]))]) := hM.pick [2] (by decide) ⟨rfl, trivial⟩
  refine k_calli (va_runV (As := []) (rest := []) C.1 (kJx4a65c_size_8abf5 l G B0 f90 wL (mc + nI 1) (.ref q) (sz + 1) hM9) (cwV 0 C.ts gX8_wire_Jx4a65c_size_8abf5 rfl rfl rfl ⟨rfl, hdX8_wire_Jx4a65c_size_8abf5⟩ ⟨Nat.le_of_ble_eq_true rfl, Nat.le_of_ble_eq_true rfl⟩) (k_preV C hX (hM.at 2 rfl) rfl) rfl rfl hl.1 rfl (lv_room (Nat.le_of_ble_eq_true rfl)) dX8_wire_101 ⟨Nat.le_of_ble_eq_true rfl, Nat.le_of_ble_eq_true rfl⟩) hX (fun r101 f101 H locs hp101 hX => ?_)
  obtain ⟨hr101, hf101⟩ := hp101
  rw [hf101] at hX
  refine k_topi (y := (nI (sz + 1))) hr101 ?_
  refine lv_iconst (v := nI 1) C.x C.b dX8_wire_104 (by decide) ?_
  refine lv_isub C.x C.b dX8_wire_105 ?_
  refine k_topi (y := (nI sz)) (pk_sub (by omega)) ?_
  exact k_iret C hX hr hlocks hQ (by omega) (by omega) (⟨n1, rfl, fr_n1, hM, hO⟩) dX8_wire_106

abbrev rmX8_wire_0 : Room := { frames := 5, cells := 2, slots := 12, locals := 101 }
set_option maxHeartbeats 4000000 in
set_option maxRecDepth 100000 in
/-- X8_wire_0 -/
theorem kX8_wire_0 (l : Launch) (G : kG) (B0 : Nat) (f : kH) (h nn wL tA nc : Nat) (vs vd vg vw vm vp : Value) (r z : Nat → Nat) (M : Nat → Nat → Int64) (x y : Nat) (hN : kCs f (mxW G nn wL tA nc r z M)) (hz : mxZ z) (hnc : nc ≤ 6) (hx9 : x < nc) (hy9 : y < nc) (hxy : ¬ x = y) (mc : Int32) (hM : kCs f [(h, .inr (8, [vs, vd, vg, vw, vm, vp, .ref nn])), (nn, .inr (4, [.ref wL, .ref tA, .int (nI nc)])), (wL, .inr (0, [.int mc, .ref (G.2.2 1), .int (nI 0)]))]) : Met l yX8_wire wsX8_wire (rmX8_wire_0) (kP G B0 f [.ref h, .int (nI x), .int (nI y)]) (kQi G B0 (fun r9 f1 => ∃ t q : Nat, r9 = nI 0 ∧ f t = none ∧ f q = none ∧ kCs f1 [(h, .inr (8, [vs, vd, vg, vw, vm, vp, .ref nn])), (nn, .inr (4, [.ref wL, .ref tA, .int (nI nc)])), (wL, .inr (0, [.int (mc + nI 1), .ref q, .int (nI 1)])), (t, .inr (7, [.int (nI x), .int (nI y)])), (q, kaO G 10 (va_up (fun _ => none) 0 (some t)))] ∧ kKp [wL] f f1)) 2 12 (kAb B0) := by
  refine kMet (cc := cX8_wire) (maxL := 3) (ret := (some .int)) (by decide) rfl (Nat.le_of_ble_eq_true rfl) ?_
  intro p e s m args below meth c H locs Q ls C hX hl hr hlocks hnm hQ
  have hO : kKp [wL] f f := kKp.rf
  have hS : ∀ a ∈ [wL], (f a).isSome := by
    intro a h9
    simp only [List.mem_cons, List.not_mem_nil, or_false] at h9
    rcases h9 with rfl
    · rw [hM.at 2 rfl]; rfl
  have hl : lv_has ls 3 [(0, .ref h), (1, .int (nI x)), (2, .int (nI y))] := hl
  refine lv_aload_n C.x C.b dX8_wire_0 rfl (lv_at hl 0 rfl) ?_
  refine k_get (X := RX8) (T := TX8) (N := 7) (v := .ref nn) C hX (hM.at 0 rfl) rfl hin_X8_wire_RX8 6 (by decide) lk_X8_wire_f48 (fun _ h9 => h9) rfl dX8_wire_1 ?_
  refine lv_iload_n C.x C.b dX8_wire_4 rfl (lv_at hl 1 rfl) ?_
  refine k_calli (va_runVN (As := [.int (nI x)]) (rest := []) C.1 (kX4_hasNode l G B0 f nn wL tA nc r z M (nI x) hN hz hnc) ⟨va_cnB 1 C.ts gX8_wire_X4_hasNode_n313 rfl rfl rfl (C.2.1.2.2.1 _ (show ((RX8, 313, yX4_hasNode, "Koebehall") : String × Nat × MethodName × String) ∈ kNestM by decide +kernel)) (C.ts _ lk_X8_wire_in_RX4) hdX8_wire_X4_hasNode ⟨Nat.le_of_ble_eq_true rfl, Nat.le_of_ble_eq_true rfl⟩, C.ts _ lk_X8_wire_im_X4_hasNode, C.ts _ lk_X8_wire_se_X4_hasNode⟩ (k_preV C hX (hM.at 1 rfl) rfl) rfl rfl hl.1 rfl (lv_room (Nat.le_of_ble_eq_true rfl)) dX8_wire_5 ⟨Nat.le_of_ble_eq_true rfl, Nat.le_of_ble_eq_true rfl⟩) hX (fun r5 f5 H locs hp5 hX => ?_)
  obtain ⟨hr5, hf5⟩ := hp5
  rw [hf5] at hX
  refine k_topi (y := (kbI (mIn (nI x) nc))) hr5 ?_
  refine lv_if_eq (tgt := 22) C.x C.b dX8_wire_8 (by decide) (fun c_8 => ?_) (fun c_8 => ?_)
  · exact absurd ((mIn_nI (by omega)).mpr hx9) (kbI_0 c_8)
  refine lv_aload_n C.x C.b dX8_wire_11 rfl (lv_at hl 0 rfl) ?_
  refine k_get (X := RX8) (T := TX8) (N := 7) (v := .ref nn) C hX (hM.at 0 rfl) rfl hin_X8_wire_RX8 6 (by decide) lk_X8_wire_f48 (fun _ h9 => h9) rfl dX8_wire_12 ?_
  refine lv_iload_n C.x C.b dX8_wire_15 rfl (lv_at hl 2 rfl) ?_
  refine k_calli (va_runVN (As := [.int (nI y)]) (rest := []) C.1 (kX4_hasNode l G B0 f nn wL tA nc r z M (nI y) hN hz hnc) ⟨va_cnB 1 C.ts gX8_wire_X4_hasNode_n313 rfl rfl rfl (C.2.1.2.2.1 _ (show ((RX8, 313, yX4_hasNode, "Koebehall") : String × Nat × MethodName × String) ∈ kNestM by decide +kernel)) (C.ts _ lk_X8_wire_in_RX4) hdX8_wire_X4_hasNode ⟨Nat.le_of_ble_eq_true rfl, Nat.le_of_ble_eq_true rfl⟩, C.ts _ lk_X8_wire_im_X4_hasNode, C.ts _ lk_X8_wire_se_X4_hasNode⟩ (k_preV C hX (hM.at 1 rfl) rfl) rfl rfl hl.1 rfl (lv_room (Nat.le_of_ble_eq_true rfl)) dX8_wire_16 ⟨Nat.le_of_ble_eq_true rfl, Nat.le_of_ble_eq_true rfl⟩) hX (fun r16 f16 H locs hp16 hX => ?_)
  obtain ⟨hr16, hf16⟩ := hp16
  rw [hf16] at hX
  refine k_topi (y := (kbI (mIn (nI y) nc))) hr16 ?_
  refine lv_if_ne (tgt := 33) C.x C.b dX8_wire_19 (by decide) (fun c_19 => ?_) (fun c_19 => ?_)
  rotate_left
  · exact absurd ((mIn_nI (by omega)).mpr hy9) (kbI_0 c_19)
  refine lv_iload_n C.x C.b dX8_wire_33 rfl (lv_at hl 1 rfl) ?_
  refine lv_iload_n C.x C.b dX8_wire_34 rfl (lv_at hl 2 rfl) ?_
  refine lv_icmp_ne (tgt := 48) C.x C.b dX8_wire_35 (by decide) (fun c_35 => ?_) (fun c_35 => ?_)
  rotate_left
  · skip
    have c_35 : x = y := (nI_eq (by omega) (by omega)).mp c_35
    omega
  have c_35 : ¬ (x = y) := fun h9 => c_35 ((nI_eq (by omega) (by omega)).mpr h9)
  refine lv_aload_n C.x C.b dX8_wire_48 rfl (lv_at hl 0 rfl) ?_
  refine k_get (X := RX8) (T := TX8) (N := 7) (v := .ref nn) C hX (hM.at 0 rfl) rfl hin_X8_wire_RX8 6 (by decide) lk_X8_wire_f48 (fun _ h9 => h9) rfl dX8_wire_49 ?_
  refine k_getN (host := "Koebehall") (X := RX4) (T := TX4) (N := 3) (v := .ref wL) C hX (hM.at 1 rfl) rfl hin_X8_wire_RX4 0 (by decide) (by decide +kernel) (fun _ h9 => h9) rfl dX8_wire_52 ?_
  have hM9 : kCs f ([(wL, .inr (0, [.int mc, .ref (G.2.2 1), .int (nI 0)]))]) := hM.pick [2] (by decide) ⟨rfl, trivial⟩
  refine k_calli (va_runV (As := []) (rest := []) C.1 (kJx4a65c_size_8abf5 l G B0 f wL mc (.ref (G.2.2 1)) 0 hM9) (cwV 0 C.ts gX8_wire_Jx4a65c_size_8abf5 rfl rfl rfl ⟨rfl, hdX8_wire_Jx4a65c_size_8abf5⟩ ⟨Nat.le_of_ble_eq_true rfl, Nat.le_of_ble_eq_true rfl⟩) (k_preV C hX (hM.at 2 rfl) rfl) rfl rfl hl.1 rfl (lv_room (Nat.le_of_ble_eq_true rfl)) dX8_wire_55 ⟨Nat.le_of_ble_eq_true rfl, Nat.le_of_ble_eq_true rfl⟩) hX (fun r55 f55 H locs hp55 hX => ?_)
  obtain ⟨hr55, hf55⟩ := hp55
  rw [hf55] at hX
  refine k_topi (y := (nI 0)) hr55 ?_
  refine lv_bipush (v := nI 10) C.x C.b dX8_wire_58 (by decide) ?_
  refine lv_icmp_lt (tgt := 74) C.x C.b dX8_wire_60 (by decide) (fun c_60 => ?_) (fun c_60 => ?_)
  rotate_left
  · skip
    have c_60 : ¬ (0 < 10) := fun h9 => c_60 ((nI_ltI (by omega) (by omega)).mpr h9)
    omega
  have c_60 : 0 < 10 := (nI_ltI (by omega) (by omega)).mp c_60
  refine lv_aload_n C.x C.b dX8_wire_74 rfl (lv_at hl 0 rfl) ?_
  refine k_get (X := RX8) (T := TX8) (N := 7) (v := .ref nn) C hX (hM.at 0 rfl) rfl hin_X8_wire_RX8 6 (by decide) lk_X8_wire_f48 (fun _ h9 => h9) rfl dX8_wire_75 ?_
  refine k_getN (host := "Koebehall") (X := RX4) (T := TX4) (N := 3) (v := .ref wL) C hX (hM.at 1 rfl) rfl hin_X8_wire_RX4 0 (by decide) (by decide +kernel) (fun _ h9 => h9) rfl dX8_wire_78 ?_
  refine k_new (X := RX7) (T := TX7) (N := 2) (ci := 7) (fs := [.int 0, .int 0]) C hX hin_X8_wire_RX7 tyX7_ok lk_X8_wire_new323 rfl (by decide) (by decide) (by decide) dX8_wire_81 (fun n1 H hn hX => ?_)
  obtain ⟨g2, hX, hM, hO, fr_n1, hS⟩ := kX.nwP hX hM hO hn hS
  have hM : kCs g2 ([(h, .inr (8, [vs, vd, vg, vw, vm, vp, .ref nn])), (nn, .inr (4, [.ref wL, .ref tA, .int (nI nc)])), (wL, .inr (0, [.int mc, .ref (G.2.2 1), .int (nI 0)])), (n1, .inr (7, [.int 0, .int 0]))]) := hM
  refine lv_dup C.x C.b dX8_wire_84 rfl ?_
  refine lv_iload_n C.x C.b dX8_wire_85 rfl (lv_at hl 1 rfl) ?_
  refine lv_iload_n C.x C.b dX8_wire_86 rfl (lv_at hl 2 rfl) ?_
  have hM9 : kCs g2 ([(n1, .inr (7, [.int 0, .int 0]))]) := hM.pick [3] (by decide) ⟨rfl, trivial⟩
  refine k_callv (va_runIN (As := [.int (nI x), .int (nI y)]) (rest := [.ref n1, .ref wL]) C.1 (kX7_init l G B0 g2 n1 (nI x) (nI y) hM9) ⟨va_cnB 2 C.ts gX8_wire_X7_init_n325 rfl rfl rfl (C.2.1.2.2.1 _ (show ((RX8, 325, yX7_init, "Koebehall") : String × Nat × MethodName × String) ∈ kNestM by decide +kernel)) (C.ts _ lk_X8_wire_in_RX7) hdX8_wire_X7_init ⟨Nat.le_of_ble_eq_true rfl, Nat.le_of_ble_eq_true rfl⟩, rfl, C.ts _ lk_X8_wire_im_X7_init⟩ (k_preS C hX) rfl rfl hl.1 rfl (lv_room (Nat.le_of_ble_eq_true rfl)) dX8_wire_87 ⟨Nat.le_of_ble_eq_true rfl, Nat.le_of_ble_eq_true rfl⟩) hX (fun f87 H locs hp87 hX => ?_)
  obtain ⟨hM9, hO9⟩ := hp87
  have hM : kCs f87 ([(h, .inr (8, [vs, vd, vg, vw, vm, vp, .ref nn])), (nn, .inr (4, [.ref wL, .ref tA, .int (nI nc)])), (wL, .inr (0, [.int mc, .ref (G.2.2 1), .int (nI 0)])), (n1, .inr (7, [.int (nI x), .int (nI y)]))]) := hM.sub hM9 (kKp.of hO9) [3] (by simp) ⟨rfl, trivial⟩
  have hO := hO.then (kKp.of hO9) (by
      intro a h9
      simp only [List.mem_cons, List.not_mem_nil, or_false] at h9
      rcases h9 with rfl
      · exact Or.inr fr_n1)
  have hS : ∀ a ∈ [wL], (f87 a).isSome := by
    intro a h9
    simp only [List.mem_cons, List.not_mem_nil, or_false] at h9
    rcases h9 with rfl
    · rw [hM.at 2 rfl]; rfl
  have hM9 : kCs f87 ([(wL, .inr (0, [.int mc, .ref (G.2.2 1), .int (nI 0)])), (n1, .inr (7, [.int (nI x), .int (nI y)]))]) := hM.pick [2, 3] (by decide) ⟨rfl, rfl, trivial⟩
  refine k_calli (va_runV (As := [.ref n1]) (rest := []) C.1 (kJx4a65c_add_9ea2d_0 l G B0 f87 wL mc n1 7 [.int (nI x), .int (nI y)] _ rfl (by decide) hM9) (cwV 1 C.ts gX8_wire_Jx4a65c_add_9ea2d rfl rfl rfl ⟨rfl, hdX8_wire_Jx4a65c_add_9ea2d⟩ ⟨Nat.le_of_ble_eq_true rfl, Nat.le_of_ble_eq_true rfl⟩) (k_preV C hX (hM.at 2 rfl) rfl) rfl rfl hl.1 rfl (lv_room (Nat.le_of_ble_eq_true rfl)) dX8_wire_90 ⟨Nat.le_of_ble_eq_true rfl, Nat.le_of_ble_eq_true rfl⟩) hX (fun r90 f90 H locs hp90 hX => ?_)
  obtain ⟨q90, hr90, hn90, hM9, hO9⟩ := hp90
  have fr_q90 : f q90 = none := hO.fr hS hn90
  have hM : kCs f90 ([(h, .inr (8, [vs, vd, vg, vw, vm, vp, .ref nn])), (nn, .inr (4, [.ref wL, .ref tA, .int (nI nc)])), (wL, .inr (0, [.int (mc + nI 1), .ref q90, .int (nI 1)])), (n1, .inr (7, [.int (nI x), .int (nI y)])), (q90, kaO G 10 (va_up (fun _ => none) 0 (some n1)))]) := hM.subg hM9 hO9 hn90 [2, 3] (by simp) ⟨rfl, rfl, trivial⟩
  have hO := hO.then (hO9) (by
      intro a h9
      simp only [List.mem_cons, List.not_mem_nil, or_false] at h9
      rcases h9 with rfl
      · exact Or.inl (by simp))
  have hS : ∀ a ∈ [wL], (f90 a).isSome := by
    intro a h9
    simp only [List.mem_cons, List.not_mem_nil, or_false] at h9
    rcases h9 with rfl
    · rw [hM.at 2 rfl]; rfl
  refine k_topi (y := (nI 1)) hr90 ?_
  refine lv_pop C.x C.b dX8_wire_93 rfl ?_
  refine lv_aload_n C.x C.b dX8_wire_94 rfl (lv_at hl 0 rfl) ?_
  refine k_get (X := RX8) (T := TX8) (N := 7) (v := .ref nn) C hX (hM.at 0 rfl) rfl hin_X8_wire_RX8 6 (by decide) lk_X8_wire_f48 (fun _ h9 => h9) rfl dX8_wire_95 ?_
  refine k_getN (host := "Koebehall") (X := RX4) (T := TX4) (N := 3) (v := .ref wL) C hX (hM.at 1 rfl) rfl hin_X8_wire_RX4 0 (by decide) (by decide +kernel) (fun _ h9 => h9) rfl dX8_wire_98 ?_
  have hM9 : kCs f90 ([(wL, .inr (0, [.int (mc + nI 1), .ref q90, .int (nI 1)]))]) := hM.pick [2] (by decide) ⟨rfl, trivial⟩
  refine k_calli (va_runV (As := []) (rest := []) C.1 (kJx4a65c_size_8abf5 l G B0 f90 wL (mc + nI 1) (.ref q90) 1 hM9) (cwV 0 C.ts gX8_wire_Jx4a65c_size_8abf5 rfl rfl rfl ⟨rfl, hdX8_wire_Jx4a65c_size_8abf5⟩ ⟨Nat.le_of_ble_eq_true rfl, Nat.le_of_ble_eq_true rfl⟩) (k_preV C hX (hM.at 2 rfl) rfl) rfl rfl hl.1 rfl (lv_room (Nat.le_of_ble_eq_true rfl)) dX8_wire_101 ⟨Nat.le_of_ble_eq_true rfl, Nat.le_of_ble_eq_true rfl⟩) hX (fun r101 f101 H locs hp101 hX => ?_)
  obtain ⟨hr101, hf101⟩ := hp101
  rw [hf101] at hX
  refine k_topi (y := (nI 1)) hr101 ?_
  refine lv_iconst (v := nI 1) C.x C.b dX8_wire_104 (by decide) ?_
  refine lv_isub C.x C.b dX8_wire_105 ?_
  refine k_topi (y := (nI 0)) (by decide) ?_
  exact k_iret C hX hr hlocks hQ (by omega) (by omega) (⟨n1, q90, rfl, fr_n1, fr_q90, hM, hO⟩) dX8_wire_106

theorem lk_X8_init_m1 : Cond.methodLink RX8 1 objectInit ∈ wsX8_init := by decide +kernel
theorem lk_X8_init_oi : Cond.instanceMethod objectInit ∈ wsX8_init := by decide +kernel
theorem lk_X8_init_oc : Cond.code objectInit ⟨#[0xb1]⟩ 1 none ∈ wsX8_init := by decide +kernel
theorem lk_X8_init_new7 : ∀ w ∈ [Cond.classLink RX8 7 RX3, Cond.instantiable RX3 4, Cond.initialized RX3], w ∈ wsX8_init := by decide +kernel
theorem hin_X8_init_RX3 : ∀ w ∈ u_ws RX3 TX3 4, w ∈ wsX8_init := by decide +kernel
theorem hdX8_init_X3_init : yX3_init.cls ≠ "java/lang/invoke/MethodHandle" ∧ yX3_init.cls ≠ "java/lang/invoke/VarHandle" ∧ (parseMethodDescriptor yX3_init.desc).map (fun d => d.parameters.length) = some 0 := by decide +kernel
theorem lk_X8_init_in_RX3 : Cond.initialized RX3 ∈ wsX8_init := by decide +kernel
theorem lk_X8_init_im_X3_init : Cond.instanceMethod yX3_init ∈ wsX8_init := by decide +kernel
theorem lk_X8_init_f10 : Cond.fieldLink RX8 10 "Koebehall" "sphere" "LKoebehall$Net;" ∈ wsX8_init := by decide +kernel
theorem hin_X8_init_RX8 : ∀ w ∈ u_ws RX8 TX8 7, w ∈ wsX8_init := by decide +kernel
theorem lk_X8_init_new16 : ∀ w ∈ [Cond.classLink RX8 16 RJx4a65c, Cond.instantiable RJx4a65c 3, Cond.initialized RJx4a65c], w ∈ wsX8_init := by decide +kernel
theorem hin_X8_init_RJx4a65c : ∀ w ∈ u_ws RJx4a65c TJx4a65c 3, w ∈ wsX8_init := by decide +kernel
theorem hdX8_init_Jx4a65c_init_da8c8 : yJx4a65c_init_da8c8.cls ≠ "java/lang/invoke/MethodHandle" ∧ yJx4a65c_init_da8c8.cls ≠ "java/lang/invoke/VarHandle" ∧ (parseMethodDescriptor yJx4a65c_init_da8c8.desc).map (fun d => d.parameters.length) = some 0 := by decide +kernel
theorem lk_X8_init_ml18 : Cond.methodLink RX8 18 yJx4a65c_init_da8c8 ∈ wsX8_init := by decide +kernel
theorem lk_X8_init_in_RJx4a65c : Cond.initialized RJx4a65c ∈ wsX8_init := by decide +kernel
theorem lk_X8_init_im_Jx4a65c_init_da8c8 : Cond.instanceMethod yJx4a65c_init_da8c8 ∈ wsX8_init := by decide +kernel
theorem lk_X8_init_f19 : Cond.fieldLink RX8 19 "Koebehall" "disks" "Ljava/util/ArrayList;" ∈ wsX8_init := by decide +kernel
theorem lk_X8_init_f23 : Cond.fieldLink RX8 23 "Koebehall" "gaskets" "Ljava/util/ArrayList;" ∈ wsX8_init := by decide +kernel
theorem lk_X8_init_new26 : ∀ w ∈ [Cond.classLink RX8 26 RX5, Cond.instantiable RX5 2, Cond.initialized RX5], w ∈ wsX8_init := by decide +kernel
theorem hin_X8_init_RX5 : ∀ w ∈ u_ws RX5 TX5 2, w ∈ wsX8_init := by decide +kernel
theorem hdX8_init_X5_init : yX5_init.cls ≠ "java/lang/invoke/MethodHandle" ∧ yX5_init.cls ≠ "java/lang/invoke/VarHandle" ∧ (parseMethodDescriptor yX5_init.desc).map (fun d => d.parameters.length) = some 0 := by decide +kernel
theorem lk_X8_init_in_RX5 : Cond.initialized RX5 ∈ wsX8_init := by decide +kernel
theorem lk_X8_init_im_X5_init : Cond.instanceMethod yX5_init ∈ wsX8_init := by decide +kernel
theorem lk_X8_init_f29 : Cond.fieldLink RX8 29 "Koebehall" "remainderWalk" "LKoebehall$RemainderWalk;" ∈ wsX8_init := by decide +kernel
theorem lk_X8_init_f33 : Cond.fieldLink RX8 33 "Koebehall" "moves" "Ljava/util/ArrayList;" ∈ wsX8_init := by decide +kernel
theorem lk_X8_init_new36 : ∀ w ∈ [Cond.classLink RX8 36 RX6, Cond.instantiable RX6 4, Cond.initialized RX6], w ∈ wsX8_init := by decide +kernel
theorem hin_X8_init_RX6 : ∀ w ∈ u_ws RX6 TX6 4, w ∈ wsX8_init := by decide +kernel
theorem hdX8_init_X6_init : yX6_init.cls ≠ "java/lang/invoke/MethodHandle" ∧ yX6_init.cls ≠ "java/lang/invoke/VarHandle" ∧ (parseMethodDescriptor yX6_init.desc).map (fun d => d.parameters.length) = some 4 := by decide +kernel
theorem lk_X8_init_in_RX6 : Cond.initialized RX6 ∈ wsX8_init := by decide +kernel
theorem lk_X8_init_im_X6_init : Cond.instanceMethod yX6_init ∈ wsX8_init := by decide +kernel
theorem lk_X8_init_f41 : Cond.fieldLink RX8 41 "Koebehall" "product" "LKoebehall$Table;" ∈ wsX8_init := by decide +kernel
theorem lk_X8_init_new45 : ∀ w ∈ [Cond.classLink RX8 45 RX4, Cond.instantiable RX4 3, Cond.initialized RX4], w ∈ wsX8_init := by decide +kernel
theorem hin_X8_init_RX4 : ∀ w ∈ u_ws RX4 TX4 3, w ∈ wsX8_init := by decide +kernel
theorem hdX8_init_X4_init : yX4_init.cls ≠ "java/lang/invoke/MethodHandle" ∧ yX4_init.cls ≠ "java/lang/invoke/VarHandle" ∧ (parseMethodDescriptor yX4_init.desc).map (fun d => d.parameters.length) = some 0 := by decide +kernel
theorem lk_X8_init_in_RX4 : Cond.initialized RX4 ∈ wsX8_init := by decide +kernel
theorem lk_X8_init_im_X4_init : Cond.instanceMethod yX4_init ∈ wsX8_init := by decide +kernel
theorem lk_X8_init_f48 : Cond.fieldLink RX8 48 "Koebehall" "network" "LKoebehall$Network;" ∈ wsX8_init := by decide +kernel
abbrev rmX8_init : Room := { frames := 5, cells := 22, slots := 563, locals := 92 }
set_option maxHeartbeats 4000000 in
set_option maxRecDepth 100000 in
/-- X8_init -/
theorem kX8_init (l : Launch) (G : kG) (B0 : Nat) (f : kH) (h : Nat) (hM : kCs f [(h, .inr (8, [.null, .null, .null, .null, .null, .null, .null]))]) : Met l yX8_init wsX8_init (rmX8_init) (kP G B0 f [.ref h]) (kQv G B0 (fun f1 => ∃ (sp nA tA dl gl rw sA wA ml pp nn wL qm : Nat) (rm9 : Nat → Nat), kCs f1 [(h, .inr (8, [.ref sp, .ref dl, .ref gl, .ref rw, .ref ml, .ref pp, .ref nn])), (sp, .inr (3, [.ref nA, .ref tA, .int (nI 4), .int (nI 4)])), (nA, kaI G 84 (iNN 4)), (tA, kaI G 256 (iTT 4)), (dl, .inr (0, [.int (nI 0), .ref (G.2.2 1), .int 0])), (gl, .inr (0, [.int (nI 0), .ref (G.2.2 1), .int 0])), (rw, .inr (5, [.ref sA, .ref wA])), (sA, kaJ G 64 (fun _ => 0)), (wA, kaJ G 64 (fun _ => 0)), (ml, .inr (0, [.int (nI 0), .ref (G.2.2 1), .int 0])), (pp, .inr (6, [.long 1, .long 0, .long 0, .long 1])), (nn, .inr (4, [.ref wL, .ref qm, .int (nI 2)])), (wL, .inr (0, [.int (nI 0), .ref (G.2.2 1), .int 0])), (qm, kaR G 5 (fun i9 => if i9 < 5 then some (rm9 i9) else none)), (rm9 0, kaJ G 5 (fun _ => 0)), (rm9 1, kaJ G 5 (fun _ => 0)), (rm9 2, kaJ G 5 (fun _ => 0)), (rm9 3, kaJ G 5 (fun _ => 0)), (rm9 4, kaJ G 5 (fun _ => 0))] ∧ kKp [h] f f1 ∧ ∀ a ∈ [sp, nA, tA, dl, gl, rw, sA, wA, ml, pp, nn, wL, qm, rm9 0, rm9 1, rm9 2, rm9 3, rm9 4], f a = none)) 22 563 (kAb B0) := by
  refine kMet (cc := cX8_init) (maxL := 1) (ret := none) (by decide) rfl (Nat.le_of_ble_eq_true rfl) ?_
  intro p e s m args below meth c H locs Q ls C hX hl hr hlocks hnm hQ
  have hO : kKp [h] f f := kKp.rf
  have hS : ∀ a ∈ [h], (f a).isSome := by
    intro a h9
    simp only [List.mem_cons, List.not_mem_nil, or_false] at h9
    rcases h9 with rfl
    · rw [hM.at 0 rfl]; rfl
  have hl : lv_has ls 1 [(0, .ref h)] := hl
  refine lv_aload_n C.x C.b dX8_init_0 rfl (lv_at hl 0 rfl) ?_
  refine W.objInit C.x C.b C.ow (C.ts _ lk_X8_init_m1) (C.ts _ lk_X8_init_oi) (C.ts _ lk_X8_init_oc) rfl (by rw [C.ml]; exact hl.1) rfl dX8_init_1 (Nat.le_of_ble_eq_true rfl) (Nat.le_of_ble_eq_true rfl) ?_
  refine W.eq (g2 := F0 m 4 ls []) rfl ?_
  refine lv_aload_n C.x C.b dX8_init_4 rfl (lv_at hl 0 rfl) ?_
  refine k_new (X := RX3) (T := TX3) (N := 4) (ci := 3) (fs := [.null, .null, .int 0, .int 0]) C hX hin_X8_init_RX3 tyX3_ok lk_X8_init_new7 rfl (by decide) (by decide) (by decide) dX8_init_5 (fun n1 H hn hX => ?_)
  obtain ⟨g2, hX, hM, hO, fr_n1, hS⟩ := kX.nwP hX hM hO hn hS
  have hM : kCs g2 ([(h, .inr (8, [.null, .null, .null, .null, .null, .null, .null])), (n1, .inr (3, [.null, .null, .int 0, .int 0]))]) := hM
  refine lv_dup C.x C.b dX8_init_8 rfl ?_
  have hM9 : kCs g2 ([(n1, .inr (3, [.null, .null, .int 0, .int 0]))]) := hM.pick [1] (by decide) ⟨rfl, trivial⟩
  refine k_callv (va_runIN (As := []) (rest := [.ref n1, .ref h]) C.1 (kX3_init l G B0 g2 n1 hM9) ⟨va_cnB 0 C.ts gX8_init_X3_init_n9 rfl rfl rfl (C.2.1.2.2.1 _ (show ((RX8, 9, yX3_init, "Koebehall") : String × Nat × MethodName × String) ∈ kNestM by decide +kernel)) (C.ts _ lk_X8_init_in_RX3) hdX8_init_X3_init ⟨Nat.le_of_ble_eq_true rfl, Nat.le_of_ble_eq_true rfl⟩, rfl, C.ts _ lk_X8_init_im_X3_init⟩ (k_preS C hX) rfl rfl hl.1 rfl (lv_room (Nat.le_of_ble_eq_true rfl)) dX8_init_9 ⟨Nat.le_of_ble_eq_true rfl, Nat.le_of_ble_eq_true rfl⟩) hX (fun f9 H locs hp9 hX => ?_)
  obtain ⟨nA, tA, hM9, hO9, hn1, hn2⟩ := hp9
  have fr_nA : f nA = none := hO.fr hS (hn1)
  have fr_tA : f tA = none := hO.fr hS (hn2)
  have hM : kCs f9 ([(h, .inr (8, [.null, .null, .null, .null, .null, .null, .null])), (n1, .inr (3, [.ref nA, .ref tA, .int (nI 4), .int (nI 4)])), (nA, kaI G 84 (iNN 4)), (tA, kaI G 256 (iTT 4))]) := hM.subgs (ws1 := [(n1, .inr (3, [.ref nA, .ref tA, .int (nI 4), .int (nI 4)]))]) (ns := [(nA, kaI G 84 (iNN 4)), (tA, kaI G 256 (iTT 4))]) hM9 hO9 (by
      intro q9 h9
      simp only [List.mem_cons, List.not_mem_nil, or_false] at h9
      rcases h9 with rfl | rfl
      · exact hn1
      · exact hn2) [1] (by simp) ⟨rfl, trivial⟩
  have hO := hO.then (hO9) (by
      intro a h9
      simp only [List.mem_cons, List.not_mem_nil, or_false] at h9
      rcases h9 with rfl
      · exact Or.inr fr_n1)
  have hS : ∀ a ∈ [h], (f9 a).isSome := by
    intro a h9
    simp only [List.mem_cons, List.not_mem_nil, or_false] at h9
    rcases h9 with rfl
    · rw [hM.at 0 rfl]; rfl
  refine k_putF (X := RX8) (T := TX8) (N := 7) (ty := .object "Koebehall$Net") (v := .ref n1) C hX (hM.at 0 rfl) rfl hin_X8_init_RX8 tyX8_ok nmX8 0 (by decide) lk_X8_init_f10 (fun _ h9 => h9) rfl hnm rfl rfl (by decide +kernel) rfl rfl (Nat.le_of_ble_eq_true rfl) dX8_init_12 (fun H locs hX => ?_)
  obtain ⟨g3, hX, hM, hO, hS⟩ := kX.wrP hX hM hO hS 0 rfl (Or.inl (by simp))
  have hM : kCs g3 ([(h, .inr (8, [.ref n1, .null, .null, .null, .null, .null, .null])), (n1, .inr (3, [.ref nA, .ref tA, .int (nI 4), .int (nI 4)])), (nA, kaI G 84 (iNN 4)), (tA, kaI G 256 (iTT 4))]) := hM
  refine lv_aload_n C.x C.b dX8_init_15 rfl (lv_at hl 0 rfl) ?_
  refine k_new (X := RJx4a65c) (T := TJx4a65c) (N := 3) (ci := 0) (fs := [.int 0, .null, .int 0]) C hX hin_X8_init_RJx4a65c tyJx4a65c_ok lk_X8_init_new16 rfl (by decide) (by decide) (by decide) dX8_init_16 (fun n4 H hn hX => ?_)
  obtain ⟨g5, hX, hM, hO, fr_n4, hS⟩ := kX.nwP hX hM hO hn hS
  have hM : kCs g5 ([(h, .inr (8, [.ref n1, .null, .null, .null, .null, .null, .null])), (n1, .inr (3, [.ref nA, .ref tA, .int (nI 4), .int (nI 4)])), (nA, kaI G 84 (iNN 4)), (tA, kaI G 256 (iTT 4)), (n4, .inr (0, [.int 0, .null, .int 0]))]) := hM
  refine lv_dup C.x C.b dX8_init_19 rfl ?_
  have hM9 : kCs g5 ([(n4, .inr (0, [.int 0, .null, .int 0]))]) := hM.pick [4] (by decide) ⟨rfl, trivial⟩
  refine k_callv (va_runI (As := []) (rest := [.ref n4, .ref h]) C.1 (kJx4a65c_init_da8c8 l G B0 g5 n4 hM9) (cwI 0 C.ts gX8_init_Jx4a65c_init_da8c8 rfl rfl rfl (C.ts _ lk_X8_init_in_RJx4a65c) (C.ts _ lk_X8_init_ml18) (C.ts _ lk_X8_init_im_Jx4a65c_init_da8c8) rfl (hdX8_init_Jx4a65c_init_da8c8) ⟨Nat.le_of_ble_eq_true rfl, Nat.le_of_ble_eq_true rfl⟩) (k_preS C hX) rfl rfl hl.1 rfl (lv_room (Nat.le_of_ble_eq_true rfl)) dX8_init_20 ⟨Nat.le_of_ble_eq_true rfl, Nat.le_of_ble_eq_true rfl⟩) hX (fun f20 H locs hp20 hX => ?_)
  obtain ⟨hM9, hO9⟩ := hp20
  have hM : kCs f20 ([(h, .inr (8, [.ref n1, .null, .null, .null, .null, .null, .null])), (n1, .inr (3, [.ref nA, .ref tA, .int (nI 4), .int (nI 4)])), (nA, kaI G 84 (iNN 4)), (tA, kaI G 256 (iTT 4)), (n4, .inr (0, [.int (nI 0), .ref (G.2.2 1), .int 0]))]) := hM.sub hM9 (kKp.of hO9) [4] (by simp) ⟨rfl, trivial⟩
  have hO := hO.then (kKp.of hO9) (by
      intro a h9
      simp only [List.mem_cons, List.not_mem_nil, or_false] at h9
      rcases h9 with rfl
      · exact Or.inr fr_n4)
  have hS : ∀ a ∈ [h], (f20 a).isSome := by
    intro a h9
    simp only [List.mem_cons, List.not_mem_nil, or_false] at h9
    rcases h9 with rfl
    · rw [hM.at 0 rfl]; rfl
  refine k_putF (X := RX8) (T := TX8) (N := 7) (ty := .object "java/util/ArrayList") (v := .ref n4) C hX (hM.at 0 rfl) rfl hin_X8_init_RX8 tyX8_ok nmX8 1 (by decide) lk_X8_init_f19 (fun _ h9 => h9) rfl hnm rfl rfl (by decide +kernel) rfl rfl (Nat.le_of_ble_eq_true rfl) dX8_init_23 (fun H locs hX => ?_)
  obtain ⟨g6, hX, hM, hO, hS⟩ := kX.wrP hX hM hO hS 0 rfl (Or.inl (by simp))
  have hM : kCs g6 ([(h, .inr (8, [.ref n1, .ref n4, .null, .null, .null, .null, .null])), (n1, .inr (3, [.ref nA, .ref tA, .int (nI 4), .int (nI 4)])), (nA, kaI G 84 (iNN 4)), (tA, kaI G 256 (iTT 4)), (n4, .inr (0, [.int (nI 0), .ref (G.2.2 1), .int 0]))]) := hM
  refine lv_aload_n C.x C.b dX8_init_26 rfl (lv_at hl 0 rfl) ?_
  refine k_new (X := RJx4a65c) (T := TJx4a65c) (N := 3) (ci := 0) (fs := [.int 0, .null, .int 0]) C hX hin_X8_init_RJx4a65c tyJx4a65c_ok lk_X8_init_new16 rfl (by decide) (by decide) (by decide) dX8_init_27 (fun n7 H hn hX => ?_)
  obtain ⟨g8, hX, hM, hO, fr_n7, hS⟩ := kX.nwP hX hM hO hn hS
  have hM : kCs g8 ([(h, .inr (8, [.ref n1, .ref n4, .null, .null, .null, .null, .null])), (n1, .inr (3, [.ref nA, .ref tA, .int (nI 4), .int (nI 4)])), (nA, kaI G 84 (iNN 4)), (tA, kaI G 256 (iTT 4)), (n4, .inr (0, [.int (nI 0), .ref (G.2.2 1), .int 0])), (n7, .inr (0, [.int 0, .null, .int 0]))]) := hM
  refine lv_dup C.x C.b dX8_init_30 rfl ?_
  have hM9 : kCs g8 ([(n7, .inr (0, [.int 0, .null, .int 0]))]) := hM.pick [5] (by decide) ⟨rfl, trivial⟩
  refine k_callv (va_runI (As := []) (rest := [.ref n7, .ref h]) C.1 (kJx4a65c_init_da8c8 l G B0 g8 n7 hM9) (cwI 0 C.ts gX8_init_Jx4a65c_init_da8c8 rfl rfl rfl (C.ts _ lk_X8_init_in_RJx4a65c) (C.ts _ lk_X8_init_ml18) (C.ts _ lk_X8_init_im_Jx4a65c_init_da8c8) rfl (hdX8_init_Jx4a65c_init_da8c8) ⟨Nat.le_of_ble_eq_true rfl, Nat.le_of_ble_eq_true rfl⟩) (k_preS C hX) rfl rfl hl.1 rfl (lv_room (Nat.le_of_ble_eq_true rfl)) dX8_init_31 ⟨Nat.le_of_ble_eq_true rfl, Nat.le_of_ble_eq_true rfl⟩) hX (fun f31 H locs hp31 hX => ?_)
  obtain ⟨hM9, hO9⟩ := hp31
  have hM : kCs f31 ([(h, .inr (8, [.ref n1, .ref n4, .null, .null, .null, .null, .null])), (n1, .inr (3, [.ref nA, .ref tA, .int (nI 4), .int (nI 4)])), (nA, kaI G 84 (iNN 4)), (tA, kaI G 256 (iTT 4)), (n4, .inr (0, [.int (nI 0), .ref (G.2.2 1), .int 0])), (n7, .inr (0, [.int (nI 0), .ref (G.2.2 1), .int 0]))]) := hM.sub hM9 (kKp.of hO9) [5] (by simp) ⟨rfl, trivial⟩
  have hO := hO.then (kKp.of hO9) (by
      intro a h9
      simp only [List.mem_cons, List.not_mem_nil, or_false] at h9
      rcases h9 with rfl
      · exact Or.inr fr_n7)
  have hS : ∀ a ∈ [h], (f31 a).isSome := by
    intro a h9
    simp only [List.mem_cons, List.not_mem_nil, or_false] at h9
    rcases h9 with rfl
    · rw [hM.at 0 rfl]; rfl
  refine k_putF (X := RX8) (T := TX8) (N := 7) (ty := .object "java/util/ArrayList") (v := .ref n7) C hX (hM.at 0 rfl) rfl hin_X8_init_RX8 tyX8_ok nmX8 2 (by decide) lk_X8_init_f23 (fun _ h9 => h9) rfl hnm rfl rfl (by decide +kernel) rfl rfl (Nat.le_of_ble_eq_true rfl) dX8_init_34 (fun H locs hX => ?_)
  obtain ⟨g9, hX, hM, hO, hS⟩ := kX.wrP hX hM hO hS 0 rfl (Or.inl (by simp))
  have hM : kCs g9 ([(h, .inr (8, [.ref n1, .ref n4, .ref n7, .null, .null, .null, .null])), (n1, .inr (3, [.ref nA, .ref tA, .int (nI 4), .int (nI 4)])), (nA, kaI G 84 (iNN 4)), (tA, kaI G 256 (iTT 4)), (n4, .inr (0, [.int (nI 0), .ref (G.2.2 1), .int 0])), (n7, .inr (0, [.int (nI 0), .ref (G.2.2 1), .int 0]))]) := hM
  refine lv_aload_n C.x C.b dX8_init_37 rfl (lv_at hl 0 rfl) ?_
  refine k_new (X := RX5) (T := TX5) (N := 2) (ci := 5) (fs := [.null, .null]) C hX hin_X8_init_RX5 tyX5_ok lk_X8_init_new26 rfl (by decide) (by decide) (by decide) dX8_init_38 (fun n10 H hn hX => ?_)
  obtain ⟨g11, hX, hM, hO, fr_n10, hS⟩ := kX.nwP hX hM hO hn hS
  have hM : kCs g11 ([(h, .inr (8, [.ref n1, .ref n4, .ref n7, .null, .null, .null, .null])), (n1, .inr (3, [.ref nA, .ref tA, .int (nI 4), .int (nI 4)])), (nA, kaI G 84 (iNN 4)), (tA, kaI G 256 (iTT 4)), (n4, .inr (0, [.int (nI 0), .ref (G.2.2 1), .int 0])), (n7, .inr (0, [.int (nI 0), .ref (G.2.2 1), .int 0])), (n10, .inr (5, [.null, .null]))]) := hM
  refine lv_dup C.x C.b dX8_init_41 rfl ?_
  have hM9 : kCs g11 ([(n10, .inr (5, [.null, .null]))]) := hM.pick [6] (by decide) ⟨rfl, trivial⟩
  refine k_callv (va_runIN (As := []) (rest := [.ref n10, .ref h]) C.1 (kX5_init l G B0 g11 n10 hM9) ⟨va_cnB 0 C.ts gX8_init_X5_init_n28 rfl rfl rfl (C.2.1.2.2.1 _ (show ((RX8, 28, yX5_init, "Koebehall") : String × Nat × MethodName × String) ∈ kNestM by decide +kernel)) (C.ts _ lk_X8_init_in_RX5) hdX8_init_X5_init ⟨Nat.le_of_ble_eq_true rfl, Nat.le_of_ble_eq_true rfl⟩, rfl, C.ts _ lk_X8_init_im_X5_init⟩ (k_preS C hX) rfl rfl hl.1 rfl (lv_room (Nat.le_of_ble_eq_true rfl)) dX8_init_42 ⟨Nat.le_of_ble_eq_true rfl, Nat.le_of_ble_eq_true rfl⟩) hX (fun f42 H locs hp42 hX => ?_)
  obtain ⟨sA, wA, hM9, hO9, hn3, hn4⟩ := hp42
  have fr_sA : f sA = none := hO.fr hS (hn3)
  have fr_wA : f wA = none := hO.fr hS (hn4)
  have hM : kCs f42 ([(h, .inr (8, [.ref n1, .ref n4, .ref n7, .null, .null, .null, .null])), (n1, .inr (3, [.ref nA, .ref tA, .int (nI 4), .int (nI 4)])), (nA, kaI G 84 (iNN 4)), (tA, kaI G 256 (iTT 4)), (n4, .inr (0, [.int (nI 0), .ref (G.2.2 1), .int 0])), (n7, .inr (0, [.int (nI 0), .ref (G.2.2 1), .int 0])), (n10, .inr (5, [.ref sA, .ref wA])), (sA, kaJ G 64 (fun _ => 0)), (wA, kaJ G 64 (fun _ => 0))]) := hM.subgs (ws1 := [(n10, .inr (5, [.ref sA, .ref wA]))]) (ns := [(sA, kaJ G 64 (fun _ => 0)), (wA, kaJ G 64 (fun _ => 0))]) hM9 hO9 (by
      intro q9 h9
      simp only [List.mem_cons, List.not_mem_nil, or_false] at h9
      rcases h9 with rfl | rfl
      · exact hn3
      · exact hn4) [6] (by simp) ⟨rfl, trivial⟩
  have hO := hO.then (hO9) (by
      intro a h9
      simp only [List.mem_cons, List.not_mem_nil, or_false] at h9
      rcases h9 with rfl
      · exact Or.inr fr_n10)
  have hS : ∀ a ∈ [h], (f42 a).isSome := by
    intro a h9
    simp only [List.mem_cons, List.not_mem_nil, or_false] at h9
    rcases h9 with rfl
    · rw [hM.at 0 rfl]; rfl
  refine k_putF (X := RX8) (T := TX8) (N := 7) (ty := .object "Koebehall$RemainderWalk") (v := .ref n10) C hX (hM.at 0 rfl) rfl hin_X8_init_RX8 tyX8_ok nmX8 3 (by decide) lk_X8_init_f29 (fun _ h9 => h9) rfl hnm rfl rfl (by decide +kernel) rfl rfl (Nat.le_of_ble_eq_true rfl) dX8_init_45 (fun H locs hX => ?_)
  obtain ⟨g12, hX, hM, hO, hS⟩ := kX.wrP hX hM hO hS 0 rfl (Or.inl (by simp))
  have hM : kCs g12 ([(h, .inr (8, [.ref n1, .ref n4, .ref n7, .ref n10, .null, .null, .null])), (n1, .inr (3, [.ref nA, .ref tA, .int (nI 4), .int (nI 4)])), (nA, kaI G 84 (iNN 4)), (tA, kaI G 256 (iTT 4)), (n4, .inr (0, [.int (nI 0), .ref (G.2.2 1), .int 0])), (n7, .inr (0, [.int (nI 0), .ref (G.2.2 1), .int 0])), (n10, .inr (5, [.ref sA, .ref wA])), (sA, kaJ G 64 (fun _ => 0)), (wA, kaJ G 64 (fun _ => 0))]) := hM
  refine lv_aload_n C.x C.b dX8_init_48 rfl (lv_at hl 0 rfl) ?_
  refine k_new (X := RJx4a65c) (T := TJx4a65c) (N := 3) (ci := 0) (fs := [.int 0, .null, .int 0]) C hX hin_X8_init_RJx4a65c tyJx4a65c_ok lk_X8_init_new16 rfl (by decide) (by decide) (by decide) dX8_init_49 (fun n13 H hn hX => ?_)
  obtain ⟨g14, hX, hM, hO, fr_n13, hS⟩ := kX.nwP hX hM hO hn hS
  have hM : kCs g14 ([(h, .inr (8, [.ref n1, .ref n4, .ref n7, .ref n10, .null, .null, .null])), (n1, .inr (3, [.ref nA, .ref tA, .int (nI 4), .int (nI 4)])), (nA, kaI G 84 (iNN 4)), (tA, kaI G 256 (iTT 4)), (n4, .inr (0, [.int (nI 0), .ref (G.2.2 1), .int 0])), (n7, .inr (0, [.int (nI 0), .ref (G.2.2 1), .int 0])), (n10, .inr (5, [.ref sA, .ref wA])), (sA, kaJ G 64 (fun _ => 0)), (wA, kaJ G 64 (fun _ => 0)), (n13, .inr (0, [.int 0, .null, .int 0]))]) := hM
  refine lv_dup C.x C.b dX8_init_52 rfl ?_
  have hM9 : kCs g14 ([(n13, .inr (0, [.int 0, .null, .int 0]))]) := hM.pick [9] (by decide) ⟨rfl, trivial⟩
  refine k_callv (va_runI (As := []) (rest := [.ref n13, .ref h]) C.1 (kJx4a65c_init_da8c8 l G B0 g14 n13 hM9) (cwI 0 C.ts gX8_init_Jx4a65c_init_da8c8 rfl rfl rfl (C.ts _ lk_X8_init_in_RJx4a65c) (C.ts _ lk_X8_init_ml18) (C.ts _ lk_X8_init_im_Jx4a65c_init_da8c8) rfl (hdX8_init_Jx4a65c_init_da8c8) ⟨Nat.le_of_ble_eq_true rfl, Nat.le_of_ble_eq_true rfl⟩) (k_preS C hX) rfl rfl hl.1 rfl (lv_room (Nat.le_of_ble_eq_true rfl)) dX8_init_53 ⟨Nat.le_of_ble_eq_true rfl, Nat.le_of_ble_eq_true rfl⟩) hX (fun f53 H locs hp53 hX => ?_)
  obtain ⟨hM9, hO9⟩ := hp53
  have hM : kCs f53 ([(h, .inr (8, [.ref n1, .ref n4, .ref n7, .ref n10, .null, .null, .null])), (n1, .inr (3, [.ref nA, .ref tA, .int (nI 4), .int (nI 4)])), (nA, kaI G 84 (iNN 4)), (tA, kaI G 256 (iTT 4)), (n4, .inr (0, [.int (nI 0), .ref (G.2.2 1), .int 0])), (n7, .inr (0, [.int (nI 0), .ref (G.2.2 1), .int 0])), (n10, .inr (5, [.ref sA, .ref wA])), (sA, kaJ G 64 (fun _ => 0)), (wA, kaJ G 64 (fun _ => 0)), (n13, .inr (0, [.int (nI 0), .ref (G.2.2 1), .int 0]))]) := hM.sub hM9 (kKp.of hO9) [9] (by simp) ⟨rfl, trivial⟩
  have hO := hO.then (kKp.of hO9) (by
      intro a h9
      simp only [List.mem_cons, List.not_mem_nil, or_false] at h9
      rcases h9 with rfl
      · exact Or.inr fr_n13)
  have hS : ∀ a ∈ [h], (f53 a).isSome := by
    intro a h9
    simp only [List.mem_cons, List.not_mem_nil, or_false] at h9
    rcases h9 with rfl
    · rw [hM.at 0 rfl]; rfl
  refine k_putF (X := RX8) (T := TX8) (N := 7) (ty := .object "java/util/ArrayList") (v := .ref n13) C hX (hM.at 0 rfl) rfl hin_X8_init_RX8 tyX8_ok nmX8 4 (by decide) lk_X8_init_f33 (fun _ h9 => h9) rfl hnm rfl rfl (by decide +kernel) rfl rfl (Nat.le_of_ble_eq_true rfl) dX8_init_56 (fun H locs hX => ?_)
  obtain ⟨g15, hX, hM, hO, hS⟩ := kX.wrP hX hM hO hS 0 rfl (Or.inl (by simp))
  have hM : kCs g15 ([(h, .inr (8, [.ref n1, .ref n4, .ref n7, .ref n10, .ref n13, .null, .null])), (n1, .inr (3, [.ref nA, .ref tA, .int (nI 4), .int (nI 4)])), (nA, kaI G 84 (iNN 4)), (tA, kaI G 256 (iTT 4)), (n4, .inr (0, [.int (nI 0), .ref (G.2.2 1), .int 0])), (n7, .inr (0, [.int (nI 0), .ref (G.2.2 1), .int 0])), (n10, .inr (5, [.ref sA, .ref wA])), (sA, kaJ G 64 (fun _ => 0)), (wA, kaJ G 64 (fun _ => 0)), (n13, .inr (0, [.int (nI 0), .ref (G.2.2 1), .int 0]))]) := hM
  refine lv_aload_n C.x C.b dX8_init_59 rfl (lv_at hl 0 rfl) ?_
  refine k_new (X := RX6) (T := TX6) (N := 4) (ci := 6) (fs := [.long 0, .long 0, .long 0, .long 0]) C hX hin_X8_init_RX6 tyX6_ok lk_X8_init_new36 rfl (by decide) (by decide) (by decide) dX8_init_60 (fun n16 H hn hX => ?_)
  obtain ⟨g17, hX, hM, hO, fr_n16, hS⟩ := kX.nwP hX hM hO hn hS
  have hM : kCs g17 ([(h, .inr (8, [.ref n1, .ref n4, .ref n7, .ref n10, .ref n13, .null, .null])), (n1, .inr (3, [.ref nA, .ref tA, .int (nI 4), .int (nI 4)])), (nA, kaI G 84 (iNN 4)), (tA, kaI G 256 (iTT 4)), (n4, .inr (0, [.int (nI 0), .ref (G.2.2 1), .int 0])), (n7, .inr (0, [.int (nI 0), .ref (G.2.2 1), .int 0])), (n10, .inr (5, [.ref sA, .ref wA])), (sA, kaJ G 64 (fun _ => 0)), (wA, kaJ G 64 (fun _ => 0)), (n13, .inr (0, [.int (nI 0), .ref (G.2.2 1), .int 0])), (n16, .inr (6, [.long 0, .long 0, .long 0, .long 0]))]) := hM
  refine lv_dup C.x C.b dX8_init_63 rfl ?_
  refine lv_lconst (v := 1) C.x C.b dX8_init_64 (by decide) ?_
  refine lv_lconst (v := 0) C.x C.b dX8_init_65 (by decide) ?_
  refine lv_lconst (v := 0) C.x C.b dX8_init_66 (by decide) ?_
  refine lv_lconst (v := 1) C.x C.b dX8_init_67 (by decide) ?_
  have hM9 : kCs g17 ([(n16, .inr (6, [.long 0, .long 0, .long 0, .long 0]))]) := hM.pick [10] (by decide) ⟨rfl, trivial⟩
  refine k_callv (va_runIN (As := [.long 1, .long 0, .long 0, .long 1]) (rest := [.ref n16, .ref h]) C.1 (kX6_init l G B0 g17 n16 1 0 0 1 hM9) ⟨va_cnB 4 C.ts gX8_init_X6_init_n38 rfl rfl rfl (C.2.1.2.2.1 _ (show ((RX8, 38, yX6_init, "Koebehall") : String × Nat × MethodName × String) ∈ kNestM by decide +kernel)) (C.ts _ lk_X8_init_in_RX6) hdX8_init_X6_init ⟨Nat.le_of_ble_eq_true rfl, Nat.le_of_ble_eq_true rfl⟩, rfl, C.ts _ lk_X8_init_im_X6_init⟩ (k_preS C hX) rfl rfl hl.1 rfl (lv_room (Nat.le_of_ble_eq_true rfl)) dX8_init_68 ⟨Nat.le_of_ble_eq_true rfl, Nat.le_of_ble_eq_true rfl⟩) hX (fun f68 H locs hp68 hX => ?_)
  obtain ⟨hM9, hO9⟩ := hp68
  have hM : kCs f68 ([(h, .inr (8, [.ref n1, .ref n4, .ref n7, .ref n10, .ref n13, .null, .null])), (n1, .inr (3, [.ref nA, .ref tA, .int (nI 4), .int (nI 4)])), (nA, kaI G 84 (iNN 4)), (tA, kaI G 256 (iTT 4)), (n4, .inr (0, [.int (nI 0), .ref (G.2.2 1), .int 0])), (n7, .inr (0, [.int (nI 0), .ref (G.2.2 1), .int 0])), (n10, .inr (5, [.ref sA, .ref wA])), (sA, kaJ G 64 (fun _ => 0)), (wA, kaJ G 64 (fun _ => 0)), (n13, .inr (0, [.int (nI 0), .ref (G.2.2 1), .int 0])), (n16, .inr (6, [.long 1, .long 0, .long 0, .long 1]))]) := hM.sub hM9 (kKp.of hO9) [10] (by simp) ⟨rfl, trivial⟩
  have hO := hO.then (kKp.of hO9) (by
      intro a h9
      simp only [List.mem_cons, List.not_mem_nil, or_false] at h9
      rcases h9 with rfl
      · exact Or.inr fr_n16)
  have hS : ∀ a ∈ [h], (f68 a).isSome := by
    intro a h9
    simp only [List.mem_cons, List.not_mem_nil, or_false] at h9
    rcases h9 with rfl
    · rw [hM.at 0 rfl]; rfl
  refine k_put (X := RX8) (T := TX8) (N := 7) (ty := .object "Koebehall$Table") (v := .ref n16) C hX (hM.at 0 rfl) rfl hin_X8_init_RX8 tyX8_ok nmX8 5 (by decide) lk_X8_init_f41 (fun _ h9 => h9) rfl (by decide +kernel) rfl rfl (Nat.le_of_ble_eq_true rfl) dX8_init_71 (fun H locs hX => ?_)
  obtain ⟨g18, hX, hM, hO, hS⟩ := kX.wrP hX hM hO hS 0 rfl (Or.inl (by simp))
  have hM : kCs g18 ([(h, .inr (8, [.ref n1, .ref n4, .ref n7, .ref n10, .ref n13, .ref n16, .null])), (n1, .inr (3, [.ref nA, .ref tA, .int (nI 4), .int (nI 4)])), (nA, kaI G 84 (iNN 4)), (tA, kaI G 256 (iTT 4)), (n4, .inr (0, [.int (nI 0), .ref (G.2.2 1), .int 0])), (n7, .inr (0, [.int (nI 0), .ref (G.2.2 1), .int 0])), (n10, .inr (5, [.ref sA, .ref wA])), (sA, kaJ G 64 (fun _ => 0)), (wA, kaJ G 64 (fun _ => 0)), (n13, .inr (0, [.int (nI 0), .ref (G.2.2 1), .int 0])), (n16, .inr (6, [.long 1, .long 0, .long 0, .long 1]))]) := hM
  refine lv_aload_n C.x C.b dX8_init_74 rfl (lv_at hl 0 rfl) ?_
  refine k_new (X := RX4) (T := TX4) (N := 3) (ci := 4) (fs := [.null, .null, .int 0]) C hX hin_X8_init_RX4 tyX4_ok lk_X8_init_new45 rfl (by decide) (by decide) (by decide) dX8_init_75 (fun n19 H hn hX => ?_)
  obtain ⟨g20, hX, hM, hO, fr_n19, hS⟩ := kX.nwP hX hM hO hn hS
  have hM : kCs g20 ([(h, .inr (8, [.ref n1, .ref n4, .ref n7, .ref n10, .ref n13, .ref n16, .null])), (n1, .inr (3, [.ref nA, .ref tA, .int (nI 4), .int (nI 4)])), (nA, kaI G 84 (iNN 4)), (tA, kaI G 256 (iTT 4)), (n4, .inr (0, [.int (nI 0), .ref (G.2.2 1), .int 0])), (n7, .inr (0, [.int (nI 0), .ref (G.2.2 1), .int 0])), (n10, .inr (5, [.ref sA, .ref wA])), (sA, kaJ G 64 (fun _ => 0)), (wA, kaJ G 64 (fun _ => 0)), (n13, .inr (0, [.int (nI 0), .ref (G.2.2 1), .int 0])), (n16, .inr (6, [.long 1, .long 0, .long 0, .long 1])), (n19, .inr (4, [.null, .null, .int 0]))]) := hM
  refine lv_dup C.x C.b dX8_init_78 rfl ?_
  have hM9 : kCs g20 ([(n19, .inr (4, [.null, .null, .int 0]))]) := hM.pick [11] (by decide) ⟨rfl, trivial⟩
  refine k_callv (va_runIN (As := []) (rest := [.ref n19, .ref h]) C.1 (kX4_init l G B0 g20 n19 hM9) ⟨va_cnB 0 C.ts gX8_init_X4_init_n47 rfl rfl rfl (C.2.1.2.2.1 _ (show ((RX8, 47, yX4_init, "Koebehall") : String × Nat × MethodName × String) ∈ kNestM by decide +kernel)) (C.ts _ lk_X8_init_in_RX4) hdX8_init_X4_init ⟨Nat.le_of_ble_eq_true rfl, Nat.le_of_ble_eq_true rfl⟩, rfl, C.ts _ lk_X8_init_im_X4_init⟩ (k_preS C hX) rfl rfl hl.1 rfl (lv_room (Nat.le_of_ble_eq_true rfl)) dX8_init_79 ⟨Nat.le_of_ble_eq_true rfl, Nat.le_of_ble_eq_true rfl⟩) hX (fun f79 H locs hp79 hX => ?_)
  obtain ⟨wL, qm, rm9, hM9, hO9, hn5, hn6, hn7⟩ := hp79
  have fr_wL : f wL = none := hO.fr hS (hn5)
  have fr_qm : f qm = none := hO.fr hS (hn6)
  have fr_rm9_0 : f (rm9 0) = none := hO.fr hS (hn7 0 (by decide))
  have fr_rm9_1 : f (rm9 1) = none := hO.fr hS (hn7 1 (by decide))
  have fr_rm9_2 : f (rm9 2) = none := hO.fr hS (hn7 2 (by decide))
  have fr_rm9_3 : f (rm9 3) = none := hO.fr hS (hn7 3 (by decide))
  have fr_rm9_4 : f (rm9 4) = none := hO.fr hS (hn7 4 (by decide))
  have hM : kCs f79 ([(h, .inr (8, [.ref n1, .ref n4, .ref n7, .ref n10, .ref n13, .ref n16, .null])), (n1, .inr (3, [.ref nA, .ref tA, .int (nI 4), .int (nI 4)])), (nA, kaI G 84 (iNN 4)), (tA, kaI G 256 (iTT 4)), (n4, .inr (0, [.int (nI 0), .ref (G.2.2 1), .int 0])), (n7, .inr (0, [.int (nI 0), .ref (G.2.2 1), .int 0])), (n10, .inr (5, [.ref sA, .ref wA])), (sA, kaJ G 64 (fun _ => 0)), (wA, kaJ G 64 (fun _ => 0)), (n13, .inr (0, [.int (nI 0), .ref (G.2.2 1), .int 0])), (n16, .inr (6, [.long 1, .long 0, .long 0, .long 1])), (n19, .inr (4, [.ref wL, .ref qm, .int (nI 2)])), (wL, .inr (0, [.int (nI 0), .ref (G.2.2 1), .int 0])), (qm, kaR G 5 (fun i9 => if i9 < 5 then some (rm9 i9) else none)), (rm9 0, kaJ G 5 (fun _ => 0)), (rm9 1, kaJ G 5 (fun _ => 0)), (rm9 2, kaJ G 5 (fun _ => 0)), (rm9 3, kaJ G 5 (fun _ => 0)), (rm9 4, kaJ G 5 (fun _ => 0))]) := hM.subgs (ws1 := [(n19, .inr (4, [.ref wL, .ref qm, .int (nI 2)]))]) (ns := [(wL, .inr (0, [.int (nI 0), .ref (G.2.2 1), .int 0])), (qm, kaR G 5 (fun i9 => if i9 < 5 then some (rm9 i9) else none)), (rm9 0, kaJ G 5 (fun _ => 0)), (rm9 1, kaJ G 5 (fun _ => 0)), (rm9 2, kaJ G 5 (fun _ => 0)), (rm9 3, kaJ G 5 (fun _ => 0)), (rm9 4, kaJ G 5 (fun _ => 0))]) hM9 hO9 (by
      intro q9 h9
      simp only [List.mem_cons, List.not_mem_nil, or_false] at h9
      rcases h9 with rfl | rfl | rfl | rfl | rfl | rfl | rfl
      · exact hn5
      · exact hn6
      · exact hn7 0 (by decide)
      · exact hn7 1 (by decide)
      · exact hn7 2 (by decide)
      · exact hn7 3 (by decide)
      · exact hn7 4 (by decide)) [11] (by simp) ⟨rfl, trivial⟩
  have hO := hO.then (hO9) (by
      intro a h9
      simp only [List.mem_cons, List.not_mem_nil, or_false] at h9
      rcases h9 with rfl
      · exact Or.inr fr_n19)
  have hS : ∀ a ∈ [h], (f79 a).isSome := by
    intro a h9
    simp only [List.mem_cons, List.not_mem_nil, or_false] at h9
    rcases h9 with rfl
    · rw [hM.at 0 rfl]; rfl
  refine k_putF (X := RX8) (T := TX8) (N := 7) (ty := .object "Koebehall$Network") (v := .ref n19) C hX (hM.at 0 rfl) rfl hin_X8_init_RX8 tyX8_ok nmX8 6 (by decide) lk_X8_init_f48 (fun _ h9 => h9) rfl hnm rfl rfl (by decide +kernel) rfl rfl (Nat.le_of_ble_eq_true rfl) dX8_init_82 (fun H locs hX => ?_)
  obtain ⟨g21, hX, hM, hO, hS⟩ := kX.wrP hX hM hO hS 0 rfl (Or.inl (by simp))
  have hM : kCs g21 ([(h, .inr (8, [.ref n1, .ref n4, .ref n7, .ref n10, .ref n13, .ref n16, .ref n19])), (n1, .inr (3, [.ref nA, .ref tA, .int (nI 4), .int (nI 4)])), (nA, kaI G 84 (iNN 4)), (tA, kaI G 256 (iTT 4)), (n4, .inr (0, [.int (nI 0), .ref (G.2.2 1), .int 0])), (n7, .inr (0, [.int (nI 0), .ref (G.2.2 1), .int 0])), (n10, .inr (5, [.ref sA, .ref wA])), (sA, kaJ G 64 (fun _ => 0)), (wA, kaJ G 64 (fun _ => 0)), (n13, .inr (0, [.int (nI 0), .ref (G.2.2 1), .int 0])), (n16, .inr (6, [.long 1, .long 0, .long 0, .long 1])), (n19, .inr (4, [.ref wL, .ref qm, .int (nI 2)])), (wL, .inr (0, [.int (nI 0), .ref (G.2.2 1), .int 0])), (qm, kaR G 5 (fun i9 => if i9 < 5 then some (rm9 i9) else none)), (rm9 0, kaJ G 5 (fun _ => 0)), (rm9 1, kaJ G 5 (fun _ => 0)), (rm9 2, kaJ G 5 (fun _ => 0)), (rm9 3, kaJ G 5 (fun _ => 0)), (rm9 4, kaJ G 5 (fun _ => 0))]) := hM
  refine k_vret C hX hr hlocks hQ (by omega) (by omega) ⟨n1, nA, tA, n4, n7, n10, sA, wA, n13, n16, n19, wL, qm, rm9, hM, hO, ?_⟩ dX8_init_85
  intro a h9
  simp only [List.mem_cons, List.not_mem_nil, or_false] at h9
  rcases h9 with rfl | rfl | rfl | rfl | rfl | rfl | rfl | rfl | rfl | rfl | rfl | rfl | rfl | rfl | rfl | rfl | rfl | rfl
  · exact fr_n1
  · exact fr_nA
  · exact fr_tA
  · exact fr_n4
  · exact fr_n7
  · exact fr_n10
  · exact fr_sA
  · exact fr_wA
  · exact fr_n13
  · exact fr_n16
  · exact fr_n19
  · exact fr_wL
  · exact fr_qm
  · exact fr_rm9_0
  · exact fr_rm9_1
  · exact fr_rm9_2
  · exact fr_rm9_3
  · exact fr_rm9_4
