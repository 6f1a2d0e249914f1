
theorem lk_X8_home_f41 : Cond.fieldLink RX8 41 "Koebehall" "product" "LKoebehall$Table;" ∈ wsX8_home := by decide +kernel
theorem hin_X8_home_RX8 : ∀ w ∈ u_ws RX8 TX8 7, w ∈ wsX8_home := by decide +kernel
theorem hdX8_home_X6_trace : yX6_trace.cls ≠ "java/lang/invoke/MethodHandle" ∧ yX6_trace.cls ≠ "java/lang/invoke/VarHandle" ∧ (parseMethodDescriptor yX6_trace.desc).map (fun d => d.parameters.length) = some 0 := by decide +kernel
theorem lk_X8_home_in_RX6 : Cond.initialized RX6 ∈ wsX8_home := by decide +kernel
theorem lk_X8_home_im_X6_trace : Cond.instanceMethod yX6_trace ∈ wsX8_home := by decide +kernel
theorem lk_X8_home_se_X6_trace : Cond.selects RX6 yX6_trace yX6_trace ∈ wsX8_home := by decide +kernel
theorem lk_X8_home_new36 : ∀ w ∈ [Cond.classLink RX8 36 RX6, Cond.instantiable RX6 4, Cond.initialized RX6], w ∈ wsX8_home := by decide +kernel
theorem hin_X8_home_RX6 : ∀ w ∈ u_ws RX6 TX6 4, w ∈ wsX8_home := by decide +kernel
theorem hdX8_home_X6_init : yX6_init.cls ≠ "java/lang/invoke/MethodHandle" ∧ yX6_init.cls ≠ "java/lang/invoke/VarHandle" ∧ (parseMethodDescriptor yX6_init.desc).map (fun d => d.parameters.length) = some 4 := by decide +kernel
theorem lk_X8_home_im_X6_init : Cond.instanceMethod yX6_init ∈ wsX8_home := by decide +kernel
abbrev rmX8_home : Room := { frames := 2, cells := 1, slots := 4, locals := 40 }
set_option maxHeartbeats 4000000 in
set_option maxRecDepth 100000 in
/-- X8_home -/
theorem kX8_home (l : Launch) (G : kG) (B0 : Nat) (f : kH) (h pp : Nat) (vs vd vg vw vm vn : Value) (a1 b1 c1 d1 : Int64) (hM : kCs f [(h, .inr (8, [vs, vd, vg, vw, vm, .ref pp, vn])), (pp, .inr (6, [.long a1, .long b1, .long c1, .long d1]))]) : Met l yX8_home wsX8_home (rmX8_home) (kP G B0 f [.ref h]) (kQi G B0 (fun r f1 => ∃ q : Nat, r = (a1 + d1).toInt32 ∧ f q = none ∧ kCs f1 [(h, .inr (8, [vs, vd, vg, vw, vm, .ref q, vn])), (pp, .inr (6, [.long a1, .long b1, .long c1, .long d1])), (q, .inr (6, [.long 1, .long 0, .long 0, .long 1]))] ∧ kKp [h] f f1)) 1 4 (kAb B0) := by
  refine kMet (cc := cX8_home) (maxL := 2) (ret := (some .int)) (by decide) rfl (Nat.le_of_ble_eq_true rfl) ?_
  intro p e s m args below meth c H locs Q ls C hX hl hr hlocks hnm hQ
  have hO : kKp [h] f f := kKp.rf
  have hS : ∀ a ∈ [h], (f a).isSome := by
    intro a h9
    simp only [List.mem_cons, List.not_mem_nil, or_false] at h9
    rcases h9 with rfl
    · rw [hM.at 0 rfl]; rfl
  have hl : lv_has ls 2 [(0, .ref h)] := hl
  refine lv_aload_n C.x C.b dX8_home_0 rfl (lv_at hl 0 rfl) ?_
  refine k_get (X := RX8) (T := TX8) (N := 7) (v := .ref pp) C hX (hM.at 0 rfl) rfl hin_X8_home_RX8 5 (by decide) lk_X8_home_f41 (fun _ h9 => h9) rfl dX8_home_1 ?_
  have hM9 : kCs f ([(pp, .inr (6, [.long a1, .long b1, .long c1, .long d1]))]) := hM.pick [1] (by decide) ⟨rfl, trivial⟩
  refine k_calll (va_runVN (As := []) (rest := []) C.1 (kX6_trace l G B0 f pp a1 b1 c1 d1 hM9) ⟨va_cnB 0 C.ts gX8_home_X6_trace_n287 rfl rfl rfl (C.2.1.2.2.1 _ (show ((RX8, 287, yX6_trace, "Koebehall") : String × Nat × MethodName × String) ∈ kNestM by decide +kernel)) (C.ts _ lk_X8_home_in_RX6) hdX8_home_X6_trace ⟨Nat.le_of_ble_eq_true rfl, Nat.le_of_ble_eq_true rfl⟩, C.ts _ lk_X8_home_im_X6_trace, C.ts _ lk_X8_home_se_X6_trace⟩ (k_preV C hX (hM.at 1 rfl) rfl) rfl rfl hl.1 rfl (lv_room (Nat.le_of_ble_eq_true rfl)) dX8_home_4 ⟨Nat.le_of_ble_eq_true rfl, Nat.le_of_ble_eq_true rfl⟩) hX (fun r4 f4 H locs hp4 hX => ?_)
  obtain ⟨hr4, hf4⟩ := hp4
  rw [hf4] at hX
  refine k_topl (y := (a1 + d1)) hr4 ?_
  refine lv_l2i (v := (a1 + d1).toInt32) C.x C.b dX8_home_7 rfl ?_
  refine lv_istore_n (lv' := [(1, .int ((a1 + d1).toInt32)), (0, .ref h)]) C.x C.b dX8_home_8 rfl hl (by decide) rfl (fun ls hl => ?_)
  refine lv_aload_n C.x C.b dX8_home_9 rfl (lv_at hl 1 rfl) ?_
  refine k_new (X := RX6) (T := TX6) (N := 4) (ci := 6) (fs := [.long 0, .long 0, .long 0, .long 0]) C hX hin_X8_home_RX6 tyX6_ok lk_X8_home_new36 rfl (by decide) (by decide) (by decide) dX8_home_10 (fun n1 H hn hX => ?_)
  obtain ⟨g2, hX, hM, hO, fr_n1, hS⟩ := kX.nwP hX hM hO hn hS
  have hM : kCs g2 ([(h, .inr (8, [vs, vd, vg, vw, vm, .ref pp, vn])), (pp, .inr (6, [.long a1, .long b1, .long c1, .long d1])), (n1, .inr (6, [.long 0, .long 0, .long 0, .long 0]))]) := hM
  refine lv_dup C.x C.b dX8_home_13 rfl ?_
  refine lv_lconst (v := 1) C.x C.b dX8_home_14 (by decide) ?_
  refine lv_lconst (v := 0) C.x C.b dX8_home_15 (by decide) ?_
  refine lv_lconst (v := 0) C.x C.b dX8_home_16 (by decide) ?_
  refine lv_lconst (v := 1) C.x C.b dX8_home_17 (by decide) ?_
  have hM9 : kCs g2 ([(n1, .inr (6, [.long 0, .long 0, .long 0, .long 0]))]) := hM.pick [2] (by decide) ⟨rfl, trivial⟩
  refine k_callv (va_runIN (As := [.long 1, .long 0, .long 0, .long 1]) (rest := [.ref n1, .ref h]) C.1 (kX6_init l G B0 g2 n1 1 0 0 1 hM9) ⟨va_cnB 4 C.ts gX8_home_X6_init_n38 rfl rfl rfl (C.2.1.2.2.1 _ (show ((RX8, 38, yX6_init, "Koebehall") : String × Nat × MethodName × String) ∈ kNestM by decide +kernel)) (C.ts _ lk_X8_home_in_RX6) hdX8_home_X6_init ⟨Nat.le_of_ble_eq_true rfl, Nat.le_of_ble_eq_true rfl⟩, rfl, C.ts _ lk_X8_home_im_X6_init⟩ (k_preS C hX) rfl rfl hl.1 rfl (lv_room (Nat.le_of_ble_eq_true rfl)) dX8_home_18 ⟨Nat.le_of_ble_eq_true rfl, Nat.le_of_ble_eq_true rfl⟩) hX (fun f18 H locs hp18 hX => ?_)
  obtain ⟨hM9, hO9⟩ := hp18
  have hM : kCs f18 ([(h, .inr (8, [vs, vd, vg, vw, vm, .ref pp, vn])), (pp, .inr (6, [.long a1, .long b1, .long c1, .long d1])), (n1, .inr (6, [.long 1, .long 0, .long 0, .long 1]))]) := hM.sub hM9 (kKp.of hO9) [2] (by simp) ⟨rfl, trivial⟩
  have hO := hO.then (kKp.of hO9) (by
      intro a h9
      simp only [List.mem_cons, List.not_mem_nil, or_false] at h9
      rcases h9 with rfl
      · exact Or.inr fr_n1)
  have hS : ∀ a ∈ [h], (f18 a).isSome := by
    intro a h9
    simp only [List.mem_cons, List.not_mem_nil, or_false] at h9
    rcases h9 with rfl
    · rw [hM.at 0 rfl]; rfl
  refine k_put (X := RX8) (T := TX8) (N := 7) (ty := .object "Koebehall$Table") (v := .ref n1) C hX (hM.at 0 rfl) rfl hin_X8_home_RX8 tyX8_ok nmX8 5 (by decide) lk_X8_home_f41 (fun _ h9 => h9) rfl (by decide +kernel) rfl rfl (Nat.le_of_ble_eq_true rfl) dX8_home_21 (fun H locs hX => ?_)
  obtain ⟨g3, hX, hM, hO, hS⟩ := kX.wrP hX hM hO hS 0 rfl (Or.inl (by simp))
  have hM : kCs g3 ([(h, .inr (8, [vs, vd, vg, vw, vm, .ref n1, vn])), (pp, .inr (6, [.long a1, .long b1, .long c1, .long d1])), (n1, .inr (6, [.long 1, .long 0, .long 0, .long 1]))]) := hM
  refine lv_iload_n C.x C.b dX8_home_24 rfl (lv_at hl 0 rfl) ?_
  exact k_iret C hX hr hlocks hQ (by omega) (by omega) (⟨n1, rfl, fr_n1, hM, hO⟩) dX8_home_25

theorem hdX8_remainders_X8_gasketOf : yX8_gasketOf.cls ≠ "java/lang/invoke/MethodHandle" ∧ yX8_gasketOf.cls ≠ "java/lang/invoke/VarHandle" ∧ (parseMethodDescriptor yX8_gasketOf.desc).map (fun d => d.parameters.length) = some 1 := by decide +kernel
theorem lk_X8_remainders_f29 : Cond.fieldLink RX8 29 "Koebehall" "remainderWalk" "LKoebehall$RemainderWalk;" ∈ wsX8_remainders := by decide +kernel
theorem hin_X8_remainders_RX8 : ∀ w ∈ u_ws RX8 TX8 7, w ∈ wsX8_remainders := by decide +kernel
theorem hin_X8_remainders_RX2 : ∀ w ∈ u_ws RX2 TX2 3, w ∈ wsX8_remainders := by decide +kernel
theorem hdX8_remainders_X5_allReached : yX5_allReached.cls ≠ "java/lang/invoke/MethodHandle" ∧ yX5_allReached.cls ≠ "java/lang/invoke/VarHandle" ∧ (parseMethodDescriptor yX5_allReached.desc).map (fun d => d.parameters.length) = some 2 := by decide +kernel
theorem lk_X8_remainders_in_RX5 : Cond.initialized RX5 ∈ wsX8_remainders := by decide +kernel
theorem lk_X8_remainders_im_X5_allReached : Cond.instanceMethod yX5_allReached ∈ wsX8_remainders := by decide +kernel
theorem lk_X8_remainders_se_X5_allReached : Cond.selects RX5 yX5_allReached yX5_allReached ∈ wsX8_remainders := by decide +kernel
abbrev rmX8_remainders : Room := { frames := 4, cells := 0, slots := 0, locals := 91 }
set_option maxHeartbeats 4000000 in
set_option maxRecDepth 100000 in
/-- X8_remainders -/
theorem kX8_remainders (l : Launch) (G : kG) (B0 : Nat) (f : kH) (h dl sz rw sA wA : Nat) (vs vd vm vp vn : Value) (w g1 g2 g3 : Nat → Nat) (fo le wa : Nat → Nat → Int64) (gs gw : Nat → Int64) (i b : Nat) (hM : kCs f [(h, .inr (8, [vs, vd, .ref dl, .ref rw, vm, vp, vn]))]) (hdl : kLs G f dl sz w (gkE g1 g2 g3)) (har : gkA G f sz g1 g2 g3 fo le wa) (hsz : sz ≤ 8) (hR : kCs f [(rw, .inr (5, [.ref sA, .ref wA])), (sA, kaJ G 64 gs), (wA, kaJ G 64 gw), (g1 i, kaJ G 4 (fo i))]) (hi : i < sz) (hb1 : 2 ≤ b) (hb2 : b ≤ 8) (hok : cdOk (nI b)) (hc9 : mIn (wCode (fo i) (nI b) 4) 4096) (hb6 : (nI b).toInt64 ≠ 0) : Met l yX8_remainders wsX8_remainders (rmX8_remainders) (kP G B0 f [.ref h, .int (nI i), .int (nI b)]) (kQi G B0 (fun r f1 => r = (rGo (nI b) 4096 (nI 0, rNs (fun j => if j < 64 then 0 else gs j) (wCode (fo i) (nI b) 4).toNatClampNeg, rNw (fun j => if j < 64 then 0 else gs j) (fun j => if j < 64 then 0 else gw j) (wCode (fo i) (nI b) 4).toNatClampNeg)).1 ∧ kCs f1 [(rw, .inr (5, [.ref sA, .ref wA])), (sA, kaJ G 64 (rGo (nI b) 4096 (nI 0, rNs (fun j => if j < 64 then 0 else gs j) (wCode (fo i) (nI b) 4).toNatClampNeg, rNw (fun j => if j < 64 then 0 else gs j) (fun j => if j < 64 then 0 else gw j) (wCode (fo i) (nI b) 4).toNatClampNeg)).2.1), (wA, kaJ G 64 (rGo (nI b) 4096 (nI 0, rNs (fun j => if j < 64 then 0 else gs j) (wCode (fo i) (nI b) 4).toNatClampNeg, rNw (fun j => if j < 64 then 0 else gs j) (fun j => if j < 64 then 0 else gw j) (wCode (fo i) (nI b) 4).toNatClampNeg)).2.2), (g1 i, kaJ G 4 (fo i))] ∧ kKp [rw, sA, wA] f f1)) 0 0 (kAb B0) := by
  refine kMet (cc := cX8_remainders) (maxL := 4) (ret := (some .int)) (by decide) rfl (Nat.le_of_ble_eq_true rfl) ?_
  intro p e s m args below meth c H locs Q ls C hX hl hr hlocks hnm hQ
  have hl : lv_has ls 4 [(0, .ref h), (1, .int (nI i)), (2, .int (nI b))] := hl
  refine lv_aload_n C.x C.b dX8_remainders_0 rfl (lv_at hl 0 rfl) ?_
  refine lv_iload_n C.x C.b dX8_remainders_1 rfl (lv_at hl 1 rfl) ?_
  refine k_callq (va_runV (As := [.int (nI i)]) (rest := []) C.1 (kX8_gasketOf l G B0 f h dl sz vs vd (.ref rw) vm vp vn w g1 g2 g3 fo le wa i hM hdl har hsz hi) (cwV 1 C.ts gX8_remainders_X8_gasketOf rfl rfl rfl ⟨rfl, hdX8_remainders_X8_gasketOf⟩ ⟨Nat.le_of_ble_eq_true rfl, Nat.le_of_ble_eq_true rfl⟩) (k_preV C hX (hM.at 0 rfl) rfl) rfl rfl hl.1 rfl (lv_room (Nat.le_of_ble_eq_true rfl)) dX8_remainders_2 ⟨Nat.le_of_ble_eq_true rfl, Nat.le_of_ble_eq_true rfl⟩) hX (fun r2 f2 H locs hp2 hX => ?_)
  obtain ⟨hr2, hf2⟩ := hp2
  rw [hf2] at hX
  refine k_topq (v := w i) hr2 ?_
  refine lv_astore_n (lv' := [(3, .ref (w i)), (0, .ref h), (1, .int (nI i)), (2, .int (nI b))]) C.x C.b dX8_remainders_5 rfl hl (by decide) rfl (fun ls hl => ?_)
  refine lv_iload_n C.x C.b dX8_remainders_6 rfl (lv_at hl 3 rfl) ?_
  refine lv_iconst (v := nI 2) C.x C.b dX8_remainders_7 (by decide) ?_
  refine lv_icmp_lt (tgt := 17) C.x C.b dX8_remainders_8 (by decide) (fun c_8 => ?_) (fun c_8 => ?_)
  · skip
    have c_8 : b < 2 := (nI_ltI (by omega) (by omega)).mp c_8
    omega
  have c_8 : ¬ (b < 2) := fun h9 => c_8 ((nI_ltI (by omega) (by omega)).mpr h9)
  refine lv_iload_n C.x C.b dX8_remainders_11 rfl (lv_at hl 3 rfl) ?_
  refine lv_bipush (v := nI 8) C.x C.b dX8_remainders_12 (by decide) ?_
  refine lv_icmp_le (tgt := 27) C.x C.b dX8_remainders_14 (by decide) (fun c_14 => ?_) (fun c_14 => ?_)
  rotate_left
  · skip
    have c_14 : ¬ (b ≤ 8) := fun h9 => c_14 ((nI_leI (by omega) (by omega)).mpr h9)
    omega
  have c_14 : b ≤ 8 := (nI_leI (by omega) (by omega)).mp c_14
  refine lv_aload_n C.x C.b dX8_remainders_27 rfl (lv_at hl 1 rfl) ?_
  refine k_get (X := RX8) (T := TX8) (N := 7) (v := .ref rw) C hX (hM.at 0 rfl) rfl hin_X8_remainders_RX8 3 (by decide) lk_X8_remainders_f29 (fun _ h9 => h9) rfl dX8_remainders_28 ?_
  refine lv_aload_n C.x C.b dX8_remainders_31 rfl (lv_at hl 0 rfl) ?_
  refine k_getN (host := "Koebehall") (X := RX2) (T := TX2) (N := 3) (v := .ref (g1 i)) C hX (hdl.elt (by omega)) rfl hin_X8_remainders_RX2 0 (by decide) (by decide +kernel) (fun _ h9 => h9) rfl dX8_remainders_32 ?_
  refine lv_iload_n C.x C.b dX8_remainders_35 rfl (lv_at hl 3 rfl) ?_
  refine k_calli (va_runVN (As := [.ref (g1 i), .int (nI b)]) (rest := []) C.1 (kX5_allReached l G B0 f rw sA wA gs gw (g1 i) (fo i) (nI b) hR (fun h9 => by have := (nI_eq (b := 0) (by omega) (by omega)).mp h9; omega) hb6 hok hc9) ⟨va_cnB 2 C.ts gX8_remainders_X5_allReached_n234 rfl rfl rfl (C.2.1.2.2.1 _ (show ((RX8, 234, yX5_allReached, "Koebehall") : String × Nat × MethodName × String) ∈ kNestM by decide +kernel)) (C.ts _ lk_X8_remainders_in_RX5) hdX8_remainders_X5_allReached ⟨Nat.le_of_ble_eq_true rfl, Nat.le_of_ble_eq_true rfl⟩, C.ts _ lk_X8_remainders_im_X5_allReached, C.ts _ lk_X8_remainders_se_X5_allReached⟩ (k_preV C hX (hR.at 0 rfl) rfl) rfl rfl hl.1 rfl (lv_room (Nat.le_of_ble_eq_true rfl)) dX8_remainders_36 ⟨Nat.le_of_ble_eq_true rfl, Nat.le_of_ble_eq_true rfl⟩) hX (fun r36 f36 H locs hp36 hX => ?_)
  obtain ⟨hr36, hM9, hO9⟩ := hp36
  refine k_topi (y := (rGo (nI b) 4096 (nI 0, rNs (fun j => if j < 64 then 0 else gs j) (wCode (fo i) (nI b) 4).toNatClampNeg, rNw (fun j => if j < 64 then 0 else gs j) (fun j => if j < 64 then 0 else gw j) (wCode (fo i) (nI b) 4).toNatClampNeg)).1) hr36 ?_
  exact k_iret C hX hr hlocks hQ (by omega) (by omega) (⟨rfl, hM9, hO9⟩) dX8_remainders_39
