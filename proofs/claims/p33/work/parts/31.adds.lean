
theorem hdX8_tell_X8_areFourWithin : yX8_areFourWithin.cls ≠ "java/lang/invoke/MethodHandle" ∧ yX8_areFourWithin.cls ≠ "java/lang/invoke/VarHandle" ∧ (parseMethodDescriptor yX8_areFourWithin.desc).map (fun d => d.parameters.length) = some 5 := by decide +kernel
theorem lk_X8_tell_f33 : Cond.fieldLink RX8 33 "Koebehall" "moves" "Ljava/util/ArrayList;" ∈ wsX8_tell := by decide +kernel
theorem hin_X8_tell_RX8 : ∀ w ∈ u_ws RX8 TX8 7, w ∈ wsX8_tell := by decide +kernel
theorem hdX8_tell_Jx4a65c_size_8abf5 : yJx4a65c_size_8abf5.cls ≠ "java/lang/invoke/MethodHandle" ∧ yJx4a65c_size_8abf5.cls ≠ "java/lang/invoke/VarHandle" ∧ (parseMethodDescriptor yJx4a65c_size_8abf5.desc).map (fun d => d.parameters.length) = some 0 := by decide +kernel
theorem lk_X8_tell_new36 : ∀ w ∈ [Cond.classLink RX8 36 RX6, Cond.instantiable RX6 4, Cond.initialized RX6], w ∈ wsX8_tell := by decide +kernel
theorem hin_X8_tell_RX6 : ∀ w ∈ u_ws RX6 TX6 4, w ∈ wsX8_tell := by decide +kernel
theorem hdX8_tell_X6_init : yX6_init.cls ≠ "java/lang/invoke/MethodHandle" ∧ yX6_init.cls ≠ "java/lang/invoke/VarHandle" ∧ (parseMethodDescriptor yX6_init.desc).map (fun d => d.parameters.length) = some 4 := by decide +kernel
theorem lk_X8_tell_in_RX6 : Cond.initialized RX6 ∈ wsX8_tell := by decide +kernel
theorem lk_X8_tell_im_X6_init : Cond.instanceMethod yX6_init ∈ wsX8_tell := by decide +kernel
theorem hdX8_tell_Jx4a65c_add_9ea2d : yJx4a65c_add_9ea2d.cls ≠ "java/lang/invoke/MethodHandle" ∧ yJx4a65c_add_9ea2d.cls ≠ "java/lang/invoke/VarHandle" ∧ (parseMethodDescriptor yJx4a65c_add_9ea2d.desc).map (fun d => d.parameters.length) = some 1 := by decide +kernel
abbrev rmX8_tell_n : Room := { frames := 2, cells := 1, slots := 4, locals := 47 }
set_option maxHeartbeats 4000000 in
set_option maxRecDepth 100000 in
/-- X8_tell_n -/
theorem kX8_tell_n (l : Launch) (G : kG) (B0 : Nat) (f : kH) (h ml q : Nat) (mc : Int32) (sz cap : Nat) (g0 : Nat → Option Nat) (vs vd vg vw vp vn : Value) (x1 x2 x3 x4 : Int32) (hw : cIn x1.toInt64 (nI 1000).toInt64 ∧ cIn x2.toInt64 (nI 1000).toInt64 ∧ cIn x3.toInt64 (nI 1000).toInt64 ∧ cIn x4.toInt64 (nI 1000).toInt64) (hdet : x1 * x4 - x2 * x3 = nI 1) (hM : kCs f [(h, .inr (8, [vs, vd, vg, vw, .ref ml, vp, vn])), (ml, .inr (0, [.int mc, .ref q, .int (nI sz)])), (q, kaO G cap g0)]) (hsz : sz < 4) (hcap : sz < cap) (hc9 : cap < 2 ^ 31) : Met l yX8_tell wsX8_tell (rmX8_tell_n) (kP G B0 f [.ref h, .int x1, .int x2, .int x3, .int x4]) (kQi G B0 (fun r f1 => ∃ t : Nat, r = nI sz ∧ f t = none ∧ kCs f1 [(h, .inr (8, [vs, vd, vg, vw, .ref ml, vp, vn])), (ml, .inr (0, [.int (mc + nI 1), .ref q, .int (nI (sz + 1))])), (q, kaO G cap (va_up g0 sz (some t))), (t, .inr (6, [.long x1.toInt64, .long x2.toInt64, .long x3.toInt64, .long x4.toInt64]))] ∧ kKp [ml, q] f f1)) 1 4 (kAb B0) := by
  refine kMet (cc := cX8_tell) (maxL := 5) (ret := (some .int)) (by decide) rfl (Nat.le_of_ble_eq_true rfl) ?_
  intro p e s m args below meth c H locs Q ls C hX hl hr hlocks hnm hQ
  have hO : kKp [ml, q] f f := kKp.rf
  have hS : ∀ a ∈ [ml, q], (f a).isSome := by
    intro a h9
    simp only [List.mem_cons, List.not_mem_nil, or_false] at h9
    rcases h9 with rfl | rfl
    · rw [hM.at 1 rfl]; rfl
    · rw [hM.at 2 rfl]; rfl
  have hl : lv_has ls 5 [(0, .ref h), (1, .int x1), (2, .int x2), (3, .int x3), (4, .int x4)] := hl
  refine lv_iload_n C.x C.b dX8_tell_0 rfl (lv_at hl 1 rfl) ?_
  refine lv_iload_n C.x C.b dX8_tell_1 rfl (lv_at hl 2 rfl) ?_
  refine lv_iload_n C.x C.b dX8_tell_2 rfl (lv_at hl 3 rfl) ?_
  refine lv_iload C.x C.b dX8_tell_3 (lv_at hl 4 rfl) ?_
  refine lv_sipush (v := nI 1000) C.x C.b dX8_tell_5 (by decide) ?_
  refine k_calli (va_runS (As := [.int x1, .int x2, .int x3, .int x4, .int (nI 1000)]) (rest := []) C.1 (kX8_areFourWithin l G B0 f x1 x2 x3 x4 (nI 1000)) (va_cwS 5 C.ts gX8_tell_X8_areFourWithin rfl rfl rfl (hdX8_tell_X8_areFourWithin) ⟨Nat.le_of_ble_eq_true rfl, Nat.le_of_ble_eq_true rfl⟩) (k_preS C hX) rfl rfl hl.1 rfl (lv_room (Nat.le_of_ble_eq_true rfl)) dX8_tell_8 ⟨Nat.le_of_ble_eq_true rfl, Nat.le_of_ble_eq_true rfl⟩) hX (fun r8 f8 H locs hp8 hX => ?_)
  obtain ⟨hr8, hf8⟩ := hp8
  rw [hf8] at hX
  refine k_topi (y := (kbI (cIn x1.toInt64 (nI 1000).toInt64 ∧ cIn x2.toInt64 (nI 1000).toInt64 ∧ cIn x3.toInt64 (nI 1000).toInt64 ∧ cIn x4.toInt64 (nI 1000).toInt64))) hr8 ?_
  refine lv_if_ne (tgt := 24) C.x C.b dX8_tell_11 (by decide) (fun c_11 => ?_) (fun c_11 => ?_)
  rotate_left
  · exact absurd (hw) (kbI_0 c_11)
  refine lv_iload_n C.x C.b dX8_tell_24 rfl (lv_at hl 1 rfl) ?_
  refine lv_iload C.x C.b dX8_tell_25 (lv_at hl 4 rfl) ?_
  refine lv_imul C.x C.b dX8_tell_27 ?_
  refine lv_iload_n C.x C.b dX8_tell_28 rfl (lv_at hl 2 rfl) ?_
  refine lv_iload_n C.x C.b dX8_tell_29 rfl (lv_at hl 3 rfl) ?_
  refine lv_imul C.x C.b dX8_tell_30 ?_
  refine lv_isub C.x C.b dX8_tell_31 ?_
  refine lv_iconst (v := nI 1) C.x C.b dX8_tell_32 (by decide) ?_
  refine lv_icmp_eq (tgt := 47) C.x C.b dX8_tell_33 (by decide) (fun c_33 => ?_) (fun c_33 => ?_)
  rotate_left
  · skip
    exact absurd hdet c_33
  refine lv_aload_n C.x C.b dX8_tell_47 rfl (lv_at hl 0 rfl) ?_
  refine k_get (X := RX8) (T := TX8) (N := 7) (v := .ref ml) C hX (hM.at 0 rfl) rfl hin_X8_tell_RX8 4 (by decide) lk_X8_tell_f33 (fun _ h9 => h9) rfl dX8_tell_48 ?_
  have hM9 : kCs f ([(ml, .inr (0, [.int mc, .ref q, .int (nI sz)]))]) := hM.pick [1] (by decide) ⟨rfl, trivial⟩
  refine k_calli (va_runV (As := []) (rest := []) C.1 (kJx4a65c_size_8abf5 l G B0 f ml mc (.ref q) sz hM9) (cwV 0 C.ts gX8_tell_Jx4a65c_size_8abf5 rfl rfl rfl ⟨rfl, hdX8_tell_Jx4a65c_size_8abf5⟩ ⟨Nat.le_of_ble_eq_true rfl, Nat.le_of_ble_eq_true rfl⟩) (k_preV C hX (hM.at 1 rfl) rfl) rfl rfl hl.1 rfl (lv_room (Nat.le_of_ble_eq_true rfl)) dX8_tell_51 ⟨Nat.le_of_ble_eq_true rfl, Nat.le_of_ble_eq_true rfl⟩) hX (fun r51 f51 H locs hp51 hX => ?_)
  obtain ⟨hr51, hf51⟩ := hp51
  rw [hf51] at hX
  refine k_topi (y := (nI sz)) hr51 ?_
  refine lv_iconst (v := nI 4) C.x C.b dX8_tell_54 (by decide) ?_
  refine lv_icmp_lt (tgt := 69) C.x C.b dX8_tell_55 (by decide) (fun c_55 => ?_) (fun c_55 => ?_)
  rotate_left
  · skip
    have c_55 : ¬ (sz < 4) := fun h9 => c_55 ((nI_ltI (by omega) (by omega)).mpr h9)
    omega
  have c_55 : sz < 4 := (nI_ltI (by omega) (by omega)).mp c_55
  refine lv_aload_n C.x C.b dX8_tell_69 rfl (lv_at hl 0 rfl) ?_
  refine k_get (X := RX8) (T := TX8) (N := 7) (v := .ref ml) C hX (hM.at 0 rfl) rfl hin_X8_tell_RX8 4 (by decide) lk_X8_tell_f33 (fun _ h9 => h9) rfl dX8_tell_70 ?_
  refine k_new (X := RX6) (T := TX6) (N := 4) (ci := 6) (fs := [.long 0, .long 0, .long 0, .long 0]) C hX hin_X8_tell_RX6 tyX6_ok lk_X8_tell_new36 rfl (by decide) (by decide) (by decide) dX8_tell_73 (fun n1 H hn hX => ?_)
  obtain ⟨g2, hX, hM, hO, fr_n1, hS⟩ := kX.nwP hX hM hO hn hS
  have hM : kCs g2 ([(h, .inr (8, [vs, vd, vg, vw, .ref ml, vp, vn])), (ml, .inr (0, [.int mc, .ref q, .int (nI sz)])), (q, kaO G cap g0), (n1, .inr (6, [.long 0, .long 0, .long 0, .long 0]))]) := hM
  refine lv_dup C.x C.b dX8_tell_76 rfl ?_
  refine lv_iload_n C.x C.b dX8_tell_77 rfl (lv_at hl 1 rfl) ?_
  refine lv_i2l (v := x1.toInt64) C.x C.b dX8_tell_78 rfl ?_
  refine lv_iload_n C.x C.b dX8_tell_79 rfl (lv_at hl 2 rfl) ?_
  refine lv_i2l (v := x2.toInt64) C.x C.b dX8_tell_80 rfl ?_
  refine lv_iload_n C.x C.b dX8_tell_81 rfl (lv_at hl 3 rfl) ?_
  refine lv_i2l (v := x3.toInt64) C.x C.b dX8_tell_82 rfl ?_
  refine lv_iload C.x C.b dX8_tell_83 (lv_at hl 4 rfl) ?_
  refine lv_i2l (v := x4.toInt64) C.x C.b dX8_tell_85 rfl ?_
  have hM9 : kCs g2 ([(n1, .inr (6, [.long 0, .long 0, .long 0, .long 0]))]) := hM.pick [3] (by decide) ⟨rfl, trivial⟩
  refine k_callv (va_runIN (As := [.long x1.toInt64, .long x2.toInt64, .long x3.toInt64, .long x4.toInt64]) (rest := [.ref n1, .ref ml]) C.1 (kX6_init l G B0 g2 n1 x1.toInt64 x2.toInt64 x3.toInt64 x4.toInt64 hM9) ⟨va_cnB 4 C.ts gX8_tell_X6_init_n38 rfl rfl rfl (C.2.1.2.2.1 _ (show ((RX8, 38, yX6_init, "Koebehall") : String × Nat × MethodName × String) ∈ kNestM by decide +kernel)) (C.ts _ lk_X8_tell_in_RX6) hdX8_tell_X6_init ⟨Nat.le_of_ble_eq_true rfl, Nat.le_of_ble_eq_true rfl⟩, rfl, C.ts _ lk_X8_tell_im_X6_init⟩ (k_preS C hX) rfl rfl hl.1 rfl (lv_room (Nat.le_of_ble_eq_true rfl)) dX8_tell_86 ⟨Nat.le_of_ble_eq_true rfl, Nat.le_of_ble_eq_true rfl⟩) hX (fun f86 H locs hp86 hX => ?_)
  obtain ⟨hM9, hO9⟩ := hp86
  have hM : kCs f86 ([(h, .inr (8, [vs, vd, vg, vw, .ref ml, vp, vn])), (ml, .inr (0, [.int mc, .ref q, .int (nI sz)])), (q, kaO G cap g0), (n1, .inr (6, [.long x1.toInt64, .long x2.toInt64, .long x3.toInt64, .long x4.toInt64]))]) := hM.sub hM9 (kKp.of hO9) [3] (by simp) ⟨rfl, trivial⟩
  have hO := hO.then (kKp.of hO9) (by
      intro a h9
      simp only [List.mem_cons, List.not_mem_nil, or_false] at h9
      rcases h9 with rfl
      · exact Or.inr fr_n1)
  have hS : ∀ a ∈ [ml, q], (f86 a).isSome := by
    intro a h9
    simp only [List.mem_cons, List.not_mem_nil, or_false] at h9
    rcases h9 with rfl | rfl
    · rw [hM.at 1 rfl]; rfl
    · rw [hM.at 2 rfl]; rfl
  have hM9 : kCs f86 ([(ml, .inr (0, [.int mc, .ref q, .int (nI sz)])), (q, kaO G cap g0), (n1, .inr (6, [.long x1.toInt64, .long x2.toInt64, .long x3.toInt64, .long x4.toInt64]))]) := hM.pick [1, 2, 3] (by decide) ⟨rfl, rfl, rfl, trivial⟩
  refine k_calli (va_runV (As := [.ref n1]) (rest := []) C.1 (kJx4a65c_add_9ea2d_n l G B0 f86 ml q mc sz cap g0 (by omega) (by omega) n1 6 [.long x1.toInt64, .long x2.toInt64, .long x3.toInt64, .long x4.toInt64] _ rfl (by decide) hM9) (cwV 1 C.ts gX8_tell_Jx4a65c_add_9ea2d rfl rfl rfl ⟨rfl, hdX8_tell_Jx4a65c_add_9ea2d⟩ ⟨Nat.le_of_ble_eq_true rfl, Nat.le_of_ble_eq_true rfl⟩) (k_preV C hX (hM.at 1 rfl) rfl) rfl rfl hl.1 rfl (lv_room (Nat.le_of_ble_eq_true rfl)) dX8_tell_89 ⟨Nat.le_of_ble_eq_true rfl, Nat.le_of_ble_eq_true rfl⟩) hX (fun r89 f89 H locs hp89 hX => ?_)
  obtain ⟨hr89, hM9, hO9⟩ := hp89
  have hM : kCs f89 ([(h, .inr (8, [vs, vd, vg, vw, .ref ml, vp, vn])), (ml, .inr (0, [.int (mc + nI 1), .ref q, .int (nI (sz + 1))])), (q, kaO G cap (va_up g0 sz (some n1))), (n1, .inr (6, [.long x1.toInt64, .long x2.toInt64, .long x3.toInt64, .long x4.toInt64]))]) := hM.sub hM9 (kKp.of hO9) [1, 2, 3] (by simp) ⟨rfl, rfl, rfl, trivial⟩
  have hO := hO.then (kKp.of hO9) (by
      intro a h9
      simp only [List.mem_cons, List.not_mem_nil, or_false] at h9
      rcases h9 with rfl | rfl
      · exact Or.inl (by simp)
      · exact Or.inl (by simp))
  have hS : ∀ a ∈ [ml, q], (f89 a).isSome := by
    intro a h9
    simp only [List.mem_cons, List.not_mem_nil, or_false] at h9
    rcases h9 with rfl | rfl
    · rw [hM.at 1 rfl]; rfl
    · rw [hM.at 2 rfl]; rfl
  refine k_topi (y := (nI 1)) hr89 ?_
  refine lv_pop C.x C.b dX8_tell_92 rfl ?_
  refine lv_aload_n C.x C.b dX8_tell_93 rfl (lv_at hl 0 rfl) ?_
  refine k_get (X := RX8) (T := TX8) (N := 7) (v := .ref ml) C hX (hM.at 0 rfl) rfl hin_X8_tell_RX8 4 (by decide) lk_X8_tell_f33 (fun _ h9 => h9) rfl dX8_tell_94 ?_
  have hM9 : kCs f89 ([(ml, .inr (0, [.int (mc + nI 1), .ref q, .int (nI (sz + 1))]))]) := hM.pick [1] (by decide) ⟨rfl, trivial⟩
  refine k_calli (va_runV (As := []) (rest := []) C.1 (kJx4a65c_size_8abf5 l G B0 f89 ml (mc + nI 1) (.ref q) (sz + 1) hM9) (cwV 0 C.ts gX8_tell_Jx4a65c_size_8abf5 rfl rfl rfl ⟨rfl, hdX8_tell_Jx4a65c_size_8abf5⟩ ⟨Nat.le_of_ble_eq_true rfl, Nat.le_of_ble_eq_true rfl⟩) (k_preV C hX (hM.at 1 rfl) rfl) rfl rfl hl.1 rfl (lv_room (Nat.le_of_ble_eq_true rfl)) dX8_tell_97 ⟨Nat.le_of_ble_eq_true rfl, Nat.le_of_ble_eq_true rfl⟩) hX (fun r97 f97 H locs hp97 hX => ?_)
  obtain ⟨hr97, hf97⟩ := hp97
  rw [hf97] at hX
  refine k_topi (y := (nI (sz + 1))) hr97 ?_
  refine lv_iconst (v := nI 1) C.x C.b dX8_tell_100 (by decide) ?_
  refine lv_isub C.x C.b dX8_tell_101 ?_
  refine k_topi (y := (nI sz)) (pk_sub (by omega)) ?_
  exact k_iret C hX hr hlocks hQ (by omega) (by omega) (⟨n1, rfl, fr_n1, hM, hO⟩) dX8_tell_102

abbrev rmX8_tell_0 : Room := { frames := 5, cells := 2, slots := 14, locals := 101 }
set_option maxHeartbeats 4000000 in
set_option maxRecDepth 100000 in
/-- X8_tell_0 -/
theorem kX8_tell_0 (l : Launch) (G : kG) (B0 : Nat) (f : kH) (h ml : Nat) (mc : Int32) (vs vd vg vw vp vn : Value) (x1 x2 x3 x4 : Int32) (hw : cIn x1.toInt64 (nI 1000).toInt64 ∧ cIn x2.toInt64 (nI 1000).toInt64 ∧ cIn x3.toInt64 (nI 1000).toInt64 ∧ cIn x4.toInt64 (nI 1000).toInt64) (hdet : x1 * x4 - x2 * x3 = nI 1) (hM : kCs f [(h, .inr (8, [vs, vd, vg, vw, .ref ml, vp, vn])), (ml, .inr (0, [.int mc, .ref (G.2.2 1), .int (nI 0)]))]) : Met l yX8_tell wsX8_tell (rmX8_tell_0) (kP G B0 f [.ref h, .int x1, .int x2, .int x3, .int x4]) (kQi G B0 (fun r f1 => ∃ t q : Nat, r = nI 0 ∧ f t = none ∧ f q = none ∧ kCs f1 [(h, .inr (8, [vs, vd, vg, vw, .ref ml, vp, vn])), (ml, .inr (0, [.int (mc + nI 1), .ref q, .int (nI 1)])), (t, .inr (6, [.long x1.toInt64, .long x2.toInt64, .long x3.toInt64, .long x4.toInt64])), (q, kaO G 10 (va_up (fun _ => none) 0 (some t)))] ∧ kKp [ml] f f1)) 2 14 (kAb B0) := by
  refine kMet (cc := cX8_tell) (maxL := 5) (ret := (some .int)) (by decide) rfl (Nat.le_of_ble_eq_true rfl) ?_
  intro p e s m args below meth c H locs Q ls C hX hl hr hlocks hnm hQ
  have hO : kKp [ml] f f := kKp.rf
  have hS : ∀ a ∈ [ml], (f a).isSome := by
    intro a h9
    simp only [List.mem_cons, List.not_mem_nil, or_false] at h9
    rcases h9 with rfl
    · rw [hM.at 1 rfl]; rfl
  have hl : lv_has ls 5 [(0, .ref h), (1, .int x1), (2, .int x2), (3, .int x3), (4, .int x4)] := hl
  refine lv_iload_n C.x C.b dX8_tell_0 rfl (lv_at hl 1 rfl) ?_
  refine lv_iload_n C.x C.b dX8_tell_1 rfl (lv_at hl 2 rfl) ?_
  refine lv_iload_n C.x C.b dX8_tell_2 rfl (lv_at hl 3 rfl) ?_
  refine lv_iload C.x C.b dX8_tell_3 (lv_at hl 4 rfl) ?_
  refine lv_sipush (v := nI 1000) C.x C.b dX8_tell_5 (by decide) ?_
  refine k_calli (va_runS (As := [.int x1, .int x2, .int x3, .int x4, .int (nI 1000)]) (rest := []) C.1 (kX8_areFourWithin l G B0 f x1 x2 x3 x4 (nI 1000)) (va_cwS 5 C.ts gX8_tell_X8_areFourWithin rfl rfl rfl (hdX8_tell_X8_areFourWithin) ⟨Nat.le_of_ble_eq_true rfl, Nat.le_of_ble_eq_true rfl⟩) (k_preS C hX) rfl rfl hl.1 rfl (lv_room (Nat.le_of_ble_eq_true rfl)) dX8_tell_8 ⟨Nat.le_of_ble_eq_true rfl, Nat.le_of_ble_eq_true rfl⟩) hX (fun r8 f8 H locs hp8 hX => ?_)
  obtain ⟨hr8, hf8⟩ := hp8
  rw [hf8] at hX
  refine k_topi (y := (kbI (cIn x1.toInt64 (nI 1000).toInt64 ∧ cIn x2.toInt64 (nI 1000).toInt64 ∧ cIn x3.toInt64 (nI 1000).toInt64 ∧ cIn x4.toInt64 (nI 1000).toInt64))) hr8 ?_
  refine lv_if_ne (tgt := 24) C.x C.b dX8_tell_11 (by decide) (fun c_11 => ?_) (fun c_11 => ?_)
  rotate_left
  · exact absurd (hw) (kbI_0 c_11)
  refine lv_iload_n C.x C.b dX8_tell_24 rfl (lv_at hl 1 rfl) ?_
  refine lv_iload C.x C.b dX8_tell_25 (lv_at hl 4 rfl) ?_
  refine lv_imul C.x C.b dX8_tell_27 ?_
  refine lv_iload_n C.x C.b dX8_tell_28 rfl (lv_at hl 2 rfl) ?_
  refine lv_iload_n C.x C.b dX8_tell_29 rfl (lv_at hl 3 rfl) ?_
  refine lv_imul C.x C.b dX8_tell_30 ?_
  refine lv_isub C.x C.b dX8_tell_31 ?_
  refine lv_iconst (v := nI 1) C.x C.b dX8_tell_32 (by decide) ?_
  refine lv_icmp_eq (tgt := 47) C.x C.b dX8_tell_33 (by decide) (fun c_33 => ?_) (fun c_33 => ?_)
  rotate_left
  · skip
    exact absurd hdet c_33
  refine lv_aload_n C.x C.b dX8_tell_47 rfl (lv_at hl 0 rfl) ?_
  refine k_get (X := RX8) (T := TX8) (N := 7) (v := .ref ml) C hX (hM.at 0 rfl) rfl hin_X8_tell_RX8 4 (by decide) lk_X8_tell_f33 (fun _ h9 => h9) rfl dX8_tell_48 ?_
  have hM9 : kCs f ([(ml, .inr (0, [.int mc, .ref (G.2.2 1), .int (nI 0)]))]) := hM.pick [1] (by decide) ⟨rfl, trivial⟩
  refine k_calli (va_runV (As := []) (rest := []) C.1 (kJx4a65c_size_8abf5 l G B0 f ml mc (.ref (G.2.2 1)) 0 hM9) (cwV 0 C.ts gX8_tell_Jx4a65c_size_8abf5 rfl rfl rfl ⟨rfl, hdX8_tell_Jx4a65c_size_8abf5⟩ ⟨Nat.le_of_ble_eq_true rfl, Nat.le_of_ble_eq_true rfl⟩) (k_preV C hX (hM.at 1 rfl) rfl) rfl rfl hl.1 rfl (lv_room (Nat.le_of_ble_eq_true rfl)) dX8_tell_51 ⟨Nat.le_of_ble_eq_true rfl, Nat.le_of_ble_eq_true rfl⟩) hX (fun r51 f51 H locs hp51 hX => ?_)
  obtain ⟨hr51, hf51⟩ := hp51
  rw [hf51] at hX
  refine k_topi (y := (nI 0)) hr51 ?_
  refine lv_iconst (v := nI 4) C.x C.b dX8_tell_54 (by decide) ?_
  refine lv_icmp_lt (tgt := 69) C.x C.b dX8_tell_55 (by decide) (fun c_55 => ?_) (fun c_55 => ?_)
  rotate_left
  · skip
    have c_55 : ¬ (0 < 4) := fun h9 => c_55 ((nI_ltI (by omega) (by omega)).mpr h9)
    omega
  have c_55 : 0 < 4 := (nI_ltI (by omega) (by omega)).mp c_55
  refine lv_aload_n C.x C.b dX8_tell_69 rfl (lv_at hl 0 rfl) ?_
  refine k_get (X := RX8) (T := TX8) (N := 7) (v := .ref ml) C hX (hM.at 0 rfl) rfl hin_X8_tell_RX8 4 (by decide) lk_X8_tell_f33 (fun _ h9 => h9) rfl dX8_tell_70 ?_
  refine k_new (X := RX6) (T := TX6) (N := 4) (ci := 6) (fs := [.long 0, .long 0, .long 0, .long 0]) C hX hin_X8_tell_RX6 tyX6_ok lk_X8_tell_new36 rfl (by decide) (by decide) (by decide) dX8_tell_73 (fun n1 H hn hX => ?_)
  obtain ⟨g2, hX, hM, hO, fr_n1, hS⟩ := kX.nwP hX hM hO hn hS
  have hM : kCs g2 ([(h, .inr (8, [vs, vd, vg, vw, .ref ml, vp, vn])), (ml, .inr (0, [.int mc, .ref (G.2.2 1), .int (nI 0)])), (n1, .inr (6, [.long 0, .long 0, .long 0, .long 0]))]) := hM
  refine lv_dup C.x C.b dX8_tell_76 rfl ?_
  refine lv_iload_n C.x C.b dX8_tell_77 rfl (lv_at hl 1 rfl) ?_
  refine lv_i2l (v := x1.toInt64) C.x C.b dX8_tell_78 rfl ?_
  refine lv_iload_n C.x C.b dX8_tell_79 rfl (lv_at hl 2 rfl) ?_
  refine lv_i2l (v := x2.toInt64) C.x C.b dX8_tell_80 rfl ?_
  refine lv_iload_n C.x C.b dX8_tell_81 rfl (lv_at hl 3 rfl) ?_
  refine lv_i2l (v := x3.toInt64) C.x C.b dX8_tell_82 rfl ?_
  refine lv_iload C.x C.b dX8_tell_83 (lv_at hl 4 rfl) ?_
  refine lv_i2l (v := x4.toInt64) C.x C.b dX8_tell_85 rfl ?_
  have hM9 : kCs g2 ([(n1, .inr (6, [.long 0, .long 0, .long 0, .long 0]))]) := hM.pick [2] (by decide) ⟨rfl, trivial⟩
  refine k_callv (va_runIN (As := [.long x1.toInt64, .long x2.toInt64, .long x3.toInt64, .long x4.toInt64]) (rest := [.ref n1, .ref ml]) C.1 (kX6_init l G B0 g2 n1 x1.toInt64 x2.toInt64 x3.toInt64 x4.toInt64 hM9) ⟨va_cnB 4 C.ts gX8_tell_X6_init_n38 rfl rfl rfl (C.2.1.2.2.1 _ (show ((RX8, 38, yX6_init, "Koebehall") : String × Nat × MethodName × String) ∈ kNestM by decide +kernel)) (C.ts _ lk_X8_tell_in_RX6) hdX8_tell_X6_init ⟨Nat.le_of_ble_eq_true rfl, Nat.le_of_ble_eq_true rfl⟩, rfl, C.ts _ lk_X8_tell_im_X6_init⟩ (k_preS C hX) rfl rfl hl.1 rfl (lv_room (Nat.le_of_ble_eq_true rfl)) dX8_tell_86 ⟨Nat.le_of_ble_eq_true rfl, Nat.le_of_ble_eq_true rfl⟩) hX (fun f86 H locs hp86 hX => ?_)
  obtain ⟨hM9, hO9⟩ := hp86
  have hM : kCs f86 ([(h, .inr (8, [vs, vd, vg, vw, .ref ml, vp, vn])), (ml, .inr (0, [.int mc, .ref (G.2.2 1), .int (nI 0)])), (n1, .inr (6, [.long x1.toInt64, .long x2.toInt64, .long x3.toInt64, .long x4.toInt64]))]) := hM.sub hM9 (kKp.of hO9) [2] (by simp) ⟨rfl, trivial⟩
  have hO := hO.then (kKp.of hO9) (by
      intro a h9
      simp only [List.mem_cons, List.not_mem_nil, or_false] at h9
      rcases h9 with rfl
      · exact Or.inr fr_n1)
  have hS : ∀ a ∈ [ml], (f86 a).isSome := by
    intro a h9
    simp only [List.mem_cons, List.not_mem_nil, or_false] at h9
    rcases h9 with rfl
    · rw [hM.at 1 rfl]; rfl
  have hM9 : kCs f86 ([(ml, .inr (0, [.int mc, .ref (G.2.2 1), .int (nI 0)])), (n1, .inr (6, [.long x1.toInt64, .long x2.toInt64, .long x3.toInt64, .long x4.toInt64]))]) := hM.pick [1, 2] (by decide) ⟨rfl, rfl, trivial⟩
  refine k_calli (va_runV (As := [.ref n1]) (rest := []) C.1 (kJx4a65c_add_9ea2d_0 l G B0 f86 ml mc n1 6 [.long x1.toInt64, .long x2.toInt64, .long x3.toInt64, .long x4.toInt64] _ rfl (by decide) hM9) (cwV 1 C.ts gX8_tell_Jx4a65c_add_9ea2d rfl rfl rfl ⟨rfl, hdX8_tell_Jx4a65c_add_9ea2d⟩ ⟨Nat.le_of_ble_eq_true rfl, Nat.le_of_ble_eq_true rfl⟩) (k_preV C hX (hM.at 1 rfl) rfl) rfl rfl hl.1 rfl (lv_room (Nat.le_of_ble_eq_true rfl)) dX8_tell_89 ⟨Nat.le_of_ble_eq_true rfl, Nat.le_of_ble_eq_true rfl⟩) hX (fun r89 f89 H locs hp89 hX => ?_)
  obtain ⟨q89, hr89, hn89, hM9, hO9⟩ := hp89
  have fr_q89 : f q89 = none := hO.fr hS hn89
  have hM : kCs f89 ([(h, .inr (8, [vs, vd, vg, vw, .ref ml, vp, vn])), (ml, .inr (0, [.int (mc + nI 1), .ref q89, .int (nI 1)])), (n1, .inr (6, [.long x1.toInt64, .long x2.toInt64, .long x3.toInt64, .long x4.toInt64])), (q89, kaO G 10 (va_up (fun _ => none) 0 (some n1)))]) := hM.subg hM9 hO9 hn89 [1, 2] (by simp) ⟨rfl, rfl, trivial⟩
  have hO := hO.then (hO9) (by
      intro a h9
      simp only [List.mem_cons, List.not_mem_nil, or_false] at h9
      rcases h9 with rfl
      · exact Or.inl (by simp))
  have hS : ∀ a ∈ [ml], (f89 a).isSome := by
    intro a h9
    simp only [List.mem_cons, List.not_mem_nil, or_false] at h9
    rcases h9 with rfl
    · rw [hM.at 1 rfl]; rfl
  refine k_topi (y := (nI 1)) hr89 ?_
  refine lv_pop C.x C.b dX8_tell_92 rfl ?_
  refine lv_aload_n C.x C.b dX8_tell_93 rfl (lv_at hl 0 rfl) ?_
  refine k_get (X := RX8) (T := TX8) (N := 7) (v := .ref ml) C hX (hM.at 0 rfl) rfl hin_X8_tell_RX8 4 (by decide) lk_X8_tell_f33 (fun _ h9 => h9) rfl dX8_tell_94 ?_
  have hM9 : kCs f89 ([(ml, .inr (0, [.int (mc + nI 1), .ref q89, .int (nI 1)]))]) := hM.pick [1] (by decide) ⟨rfl, trivial⟩
  refine k_calli (va_runV (As := []) (rest := []) C.1 (kJx4a65c_size_8abf5 l G B0 f89 ml (mc + nI 1) (.ref q89) 1 hM9) (cwV 0 C.ts gX8_tell_Jx4a65c_size_8abf5 rfl rfl rfl ⟨rfl, hdX8_tell_Jx4a65c_size_8abf5⟩ ⟨Nat.le_of_ble_eq_true rfl, Nat.le_of_ble_eq_true rfl⟩) (k_preV C hX (hM.at 1 rfl) rfl) rfl rfl hl.1 rfl (lv_room (Nat.le_of_ble_eq_true rfl)) dX8_tell_97 ⟨Nat.le_of_ble_eq_true rfl, Nat.le_of_ble_eq_true rfl⟩) hX (fun r97 f97 H locs hp97 hX => ?_)
  obtain ⟨hr97, hf97⟩ := hp97
  rw [hf97] at hX
  refine k_topi (y := (nI 1)) hr97 ?_
  refine lv_iconst (v := nI 1) C.x C.b dX8_tell_100 (by decide) ?_
  refine lv_isub C.x C.b dX8_tell_101 ?_
  refine k_topi (y := (nI 0)) (by decide) ?_
  exact k_iret C hX hr hlocks hQ (by omega) (by omega) (⟨n1, q89, rfl, fr_n1, fr_q89, hM, hO⟩) dX8_tell_102
