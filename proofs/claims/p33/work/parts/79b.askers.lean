set_option maxHeartbeats 16000000 in
set_option maxRecDepth 100000 in
theorem pL_around_0_321_3 {l : Launch} (hst : l.stackTraces = false) {G : kG} {B0 h : Nat} {f : kH} {m : pSt} (hI : Inv G h f m) (e0 : c_around m (nI 0) (nI 0) = (0, nI 1, m)) (e1 : c_around m (nI 0) (nI 1) = (0, nI 2, m)) (e2 : c_around m (nI 0) (nI 2) = (0, nI 3, m)) (e8 : c_around m (nI 0) (nI 3) = (0, -1, m)) (e9 : c_around m (nI 0) (nI 2147483647) = (0, -1, m)) : Met l yL_around wsP_around rmF (kP G B0 f [.ref h, .int (nI 0), .int (nI 321), .int (nI 3)]) (kQi G B0 (fun r f1 => r = nI 1 ∧ Inv G h f1 m)) 80 640 (kAb B0) := by
  refine kMet (cc := cL_around) (maxL := 6) (ret := (some .boolean)) (by decide) rfl (Nat.le_of_ble_eq_true rfl) ?_
  intro p e s mi args below meth c H locs Q ls C hX hl hr hlocks hnm hQ
  have hl : lv_has ls 6 [(0, .ref h), (1, .int (nI 0)), (2, .int (nI 321)), (3, .int (nI 3))] := hl
  refine lv_iload_n C.x C.b dL_around_0 rfl (lv_at hl 2 rfl) ?_
  refine lv_istore (lv' := [(4, .int (nI 321)), (0, .ref h), (1, .int (nI 0)), (2, .int (nI 321)), (3, .int (nI 3))]) C.x C.b dL_around_1 hl (by decide) rfl (fun ls hl => ?_)
  refine lv_iconst (v := (nI 0)) C.x C.b dL_around_3 (by decide) ?_
  refine lv_istore (lv' := [(5, .int (nI 0)), (4, .int (nI 321)), (0, .ref h), (1, .int (nI 0)), (2, .int (nI 321)), (3, .int (nI 3))]) C.x C.b dL_around_4 hl (by decide) rfl (fun ls hl => ?_)
  refine lv_iload C.x C.b dL_around_6 (lv_at hl 0 rfl) ?_
  refine lv_iload_n C.x C.b dL_around_8 rfl (lv_at hl 5 rfl) ?_
  refine lv_icmp_ge (tgt := 42) C.x C.b dL_around_9 (by decide) (fun q9 => absurd q9 (by decide)) (fun _ => ?_)
  refine lv_aload_n C.x C.b dL_around_12 rfl (lv_at hl 2 rfl) ?_
  refine lv_iload_n C.x C.b dL_around_13 rfl (lv_at hl 3 rfl) ?_
  refine lv_iload C.x C.b dL_around_14 (lv_at hl 0 rfl) ?_
  refine k_cI (As := [.int (nI 0), .int (nI 0)]) (rest := []) (c2 := 8) (s2 := 64) (v := (nI 1)) (m1 := m) C hX (iop_around hst hI (nI 0) (nI 0)) (e0) hI.hd (gl_up inv_X8_around) rfl ⟨rfl, hdA_X8_around⟩ (by decide) rfl hl.1 rfl (by decide) dL_around_16 ⟨Nat.le_of_ble_eq_true rfl, Nat.le_of_ble_eq_true rfl⟩ ⟨Nat.le_of_ble_eq_true rfl, Nat.le_of_ble_eq_true rfl⟩ rfl rfl (fun f H locs hX hI => ?_)
  refine lv_iload C.x C.b dL_around_19 (lv_at hl 1 rfl) ?_
  refine lv_bipush (v := (nI 10)) C.x C.b dL_around_21 (by decide) ?_
  refine lv_irem C.x C.b dL_around_23 (by decide) ?_
  refine k_topi (y := (nI 1)) (by decide) ?_
  refine lv_icmp_eq (tgt := 29) C.x C.b dL_around_24 (by decide) (fun _ => ?_) (fun q9 => absurd (by decide) q9)
  refine lv_iload C.x C.b dL_around_29 (lv_at hl 1 rfl) ?_
  refine lv_bipush (v := (nI 10)) C.x C.b dL_around_31 (by decide) ?_
  refine lv_idiv C.x C.b dL_around_33 (by decide) ?_
  refine k_topi (y := (nI 32)) (by decide) ?_
  refine lv_istore (lv' := [(4, .int (nI 32)), (5, .int (nI 0)), (0, .ref h), (1, .int (nI 0)), (2, .int (nI 321)), (3, .int (nI 3))]) C.x C.b dL_around_34 hl (by decide) rfl (fun ls hl => ?_)
  refine lv_iinc (v := (nI 1)) (lv' := [(5, .int (nI 1)), (4, .int (nI 32)), (0, .ref h), (1, .int (nI 0)), (2, .int (nI 321)), (3, .int (nI 3))]) C.x C.b dL_around_36 hl (k := 1) rfl (by decide) (by decide) rfl (fun ls hl => ?_)
  refine lv_goto (tgt := 6) C.x C.b dL_around_39 (by decide) ?_
  refine lv_iload C.x C.b dL_around_6 (lv_at hl 0 rfl) ?_
  refine lv_iload_n C.x C.b dL_around_8 rfl (lv_at hl 5 rfl) ?_
  refine lv_icmp_ge (tgt := 42) C.x C.b dL_around_9 (by decide) (fun q9 => absurd q9 (by decide)) (fun _ => ?_)
  refine lv_aload_n C.x C.b dL_around_12 rfl (lv_at hl 2 rfl) ?_
  refine lv_iload_n C.x C.b dL_around_13 rfl (lv_at hl 3 rfl) ?_
  refine lv_iload C.x C.b dL_around_14 (lv_at hl 0 rfl) ?_
  refine k_cI (As := [.int (nI 0), .int (nI 1)]) (rest := []) (c2 := 16) (s2 := 128) (v := (nI 2)) (m1 := m) C hX (iop_around hst hI (nI 0) (nI 1)) (e1) hI.hd (gl_up inv_X8_around) rfl ⟨rfl, hdA_X8_around⟩ (by decide) rfl hl.1 rfl (by decide) dL_around_16 ⟨Nat.le_of_ble_eq_true rfl, Nat.le_of_ble_eq_true rfl⟩ ⟨Nat.le_of_ble_eq_true rfl, Nat.le_of_ble_eq_true rfl⟩ rfl rfl (fun f H locs hX hI => ?_)
  refine lv_iload C.x C.b dL_around_19 (lv_at hl 1 rfl) ?_
  refine lv_bipush (v := (nI 10)) C.x C.b dL_around_21 (by decide) ?_
  refine lv_irem C.x C.b dL_around_23 (by decide) ?_
  refine k_topi (y := (nI 2)) (by decide) ?_
  refine lv_icmp_eq (tgt := 29) C.x C.b dL_around_24 (by decide) (fun _ => ?_) (fun q9 => absurd (by decide) q9)
  refine lv_iload C.x C.b dL_around_29 (lv_at hl 1 rfl) ?_
  refine lv_bipush (v := (nI 10)) C.x C.b dL_around_31 (by decide) ?_
  refine lv_idiv C.x C.b dL_around_33 (by decide) ?_
  refine k_topi (y := (nI 3)) (by decide) ?_
  refine lv_istore (lv' := [(4, .int (nI 3)), (5, .int (nI 1)), (0, .ref h), (1, .int (nI 0)), (2, .int (nI 321)), (3, .int (nI 3))]) C.x C.b dL_around_34 hl (by decide) rfl (fun ls hl => ?_)
  refine lv_iinc (v := (nI 2)) (lv' := [(5, .int (nI 2)), (4, .int (nI 3)), (0, .ref h), (1, .int (nI 0)), (2, .int (nI 321)), (3, .int (nI 3))]) C.x C.b dL_around_36 hl (k := 1) rfl (by decide) (by decide) rfl (fun ls hl => ?_)
  refine lv_goto (tgt := 6) C.x C.b dL_around_39 (by decide) ?_
  refine lv_iload C.x C.b dL_around_6 (lv_at hl 0 rfl) ?_
  refine lv_iload_n C.x C.b dL_around_8 rfl (lv_at hl 5 rfl) ?_
  refine lv_icmp_ge (tgt := 42) C.x C.b dL_around_9 (by decide) (fun q9 => absurd q9 (by decide)) (fun _ => ?_)
  refine lv_aload_n C.x C.b dL_around_12 rfl (lv_at hl 2 rfl) ?_
  refine lv_iload_n C.x C.b dL_around_13 rfl (lv_at hl 3 rfl) ?_
  refine lv_iload C.x C.b dL_around_14 (lv_at hl 0 rfl) ?_
  refine k_cI (As := [.int (nI 0), .int (nI 2)]) (rest := []) (c2 := 24) (s2 := 192) (v := (nI 3)) (m1 := m) C hX (iop_around hst hI (nI 0) (nI 2)) (e2) hI.hd (gl_up inv_X8_around) rfl ⟨rfl, hdA_X8_around⟩ (by decide) rfl hl.1 rfl (by decide) dL_around_16 ⟨Nat.le_of_ble_eq_true rfl, Nat.le_of_ble_eq_true rfl⟩ ⟨Nat.le_of_ble_eq_true rfl, Nat.le_of_ble_eq_true rfl⟩ rfl rfl (fun f H locs hX hI => ?_)
  refine lv_iload C.x C.b dL_around_19 (lv_at hl 1 rfl) ?_
  refine lv_bipush (v := (nI 10)) C.x C.b dL_around_21 (by decide) ?_
  refine lv_irem C.x C.b dL_around_23 (by decide) ?_
  refine k_topi (y := (nI 3)) (by decide) ?_
  refine lv_icmp_eq (tgt := 29) C.x C.b dL_around_24 (by decide) (fun _ => ?_) (fun q9 => absurd (by decide) q9)
  refine lv_iload C.x C.b dL_around_29 (lv_at hl 1 rfl) ?_
  refine lv_bipush (v := (nI 10)) C.x C.b dL_around_31 (by decide) ?_
  refine lv_idiv C.x C.b dL_around_33 (by decide) ?_
  refine k_topi (y := (nI 0)) (by decide) ?_
  refine lv_istore (lv' := [(4, .int (nI 0)), (5, .int (nI 2)), (0, .ref h), (1, .int (nI 0)), (2, .int (nI 321)), (3, .int (nI 3))]) C.x C.b dL_around_34 hl (by decide) rfl (fun ls hl => ?_)
  refine lv_iinc (v := (nI 3)) (lv' := [(5, .int (nI 3)), (4, .int (nI 0)), (0, .ref h), (1, .int (nI 0)), (2, .int (nI 321)), (3, .int (nI 3))]) C.x C.b dL_around_36 hl (k := 1) rfl (by decide) (by decide) rfl (fun ls hl => ?_)
  refine lv_goto (tgt := 6) C.x C.b dL_around_39 (by decide) ?_
  refine lv_iload C.x C.b dL_around_6 (lv_at hl 0 rfl) ?_
  refine lv_iload_n C.x C.b dL_around_8 rfl (lv_at hl 5 rfl) ?_
  refine lv_icmp_ge (tgt := 42) C.x C.b dL_around_9 (by decide) (fun _ => ?_) (fun q9 => absurd (by decide) q9)
  refine lv_aload_n C.x C.b dL_around_42 rfl (lv_at hl 2 rfl) ?_
  refine lv_iload_n C.x C.b dL_around_43 rfl (lv_at hl 3 rfl) ?_
  refine lv_iload_n C.x C.b dL_around_44 rfl (lv_at hl 5 rfl) ?_
  refine k_cI (As := [.int (nI 0), .int (nI 3)]) (rest := []) (c2 := 32) (s2 := 256) (v := (-1)) (m1 := m) C hX (iop_around hst hI (nI 0) (nI 3)) (e8) hI.hd (gl_up inv_X8_around) rfl ⟨rfl, hdA_X8_around⟩ (by decide) rfl hl.1 rfl (by decide) dL_around_45 ⟨Nat.le_of_ble_eq_true rfl, Nat.le_of_ble_eq_true rfl⟩ ⟨Nat.le_of_ble_eq_true rfl, Nat.le_of_ble_eq_true rfl⟩ rfl rfl (fun f H locs hX hI => ?_)
  refine lv_iconst (v := (-1)) C.x C.b dL_around_48 (by decide) ?_
  refine lv_icmp_ne (tgt := 67) C.x C.b dL_around_49 (by decide) (fun q9 => absurd (by decide) q9) (fun _ => ?_)
  refine lv_aload_n C.x C.b dL_around_52 rfl (lv_at hl 2 rfl) ?_
  refine lv_iload_n C.x C.b dL_around_53 rfl (lv_at hl 3 rfl) ?_
  refine lv_ldc (v := (nI 2147483647)) C.x C.b C.ow (C.ts _ (List.mem_cons_of_mem _ lkC_106)) dL_around_54 ?_
  refine k_cI (As := [.int (nI 0), .int (nI 2147483647)]) (rest := []) (c2 := 40) (s2 := 320) (v := (-1)) (m1 := m) C hX (iop_around hst hI (nI 0) (nI 2147483647)) (e9) hI.hd (gl_up inv_X8_around) rfl ⟨rfl, hdA_X8_around⟩ (by decide) rfl hl.1 rfl (by decide) dL_around_56 ⟨Nat.le_of_ble_eq_true rfl, Nat.le_of_ble_eq_true rfl⟩ ⟨Nat.le_of_ble_eq_true rfl, Nat.le_of_ble_eq_true rfl⟩ rfl rfl (fun f H locs hX hI => ?_)
  refine lv_iconst (v := (-1)) C.x C.b dL_around_59 (by decide) ?_
  refine lv_icmp_ne (tgt := 67) C.x C.b dL_around_60 (by decide) (fun q9 => absurd (by decide) q9) (fun _ => ?_)
  refine lv_iconst (v := (nI 1)) C.x C.b dL_around_63 (by decide) ?_
  refine lv_goto (tgt := 68) C.x C.b dL_around_64 (by decide) ?_
  exact k_zret C hX hr hlocks hQ (Nat.le_of_ble_eq_true rfl) (Nat.le_of_ble_eq_true rfl) (Or.inr rfl) ⟨rfl, hI⟩ dL_around_68
set_option maxHeartbeats 16000000 in
set_option maxRecDepth 100000 in
theorem pL_around_1_230_3 {l : Launch} (hst : l.stackTraces = false) {G : kG} {B0 h : Nat} {f : kH} {m : pSt} (hI : Inv G h f m) (e0 : c_around m (nI 1) (nI 0) = (0, nI 0, m)) (e1 : c_around m (nI 1) (nI 1) = (0, nI 3, m)) (e2 : c_around m (nI 1) (nI 2) = (0, nI 2, m)) (e8 : c_around m (nI 1) (nI 3) = (0, -1, m)) (e9 : c_around m (nI 1) (nI 2147483647) = (0, -1, m)) : Met l yL_around wsP_around rmF (kP G B0 f [.ref h, .int (nI 1), .int (nI 230), .int (nI 3)]) (kQi G B0 (fun r f1 => r = nI 1 ∧ Inv G h f1 m)) 80 640 (kAb B0) := by
  refine kMet (cc := cL_around) (maxL := 6) (ret := (some .boolean)) (by decide) rfl (Nat.le_of_ble_eq_true rfl) ?_
  intro p e s mi args below meth c H locs Q ls C hX hl hr hlocks hnm hQ
  have hl : lv_has ls 6 [(0, .ref h), (1, .int (nI 1)), (2, .int (nI 230)), (3, .int (nI 3))] := hl
  refine lv_iload_n C.x C.b dL_around_0 rfl (lv_at hl 2 rfl) ?_
  refine lv_istore (lv' := [(4, .int (nI 230)), (0, .ref h), (1, .int (nI 1)), (2, .int (nI 230)), (3, .int (nI 3))]) C.x C.b dL_around_1 hl (by decide) rfl (fun ls hl => ?_)
  refine lv_iconst (v := (nI 0)) C.x C.b dL_around_3 (by decide) ?_
  refine lv_istore (lv' := [(5, .int (nI 0)), (4, .int (nI 230)), (0, .ref h), (1, .int (nI 1)), (2, .int (nI 230)), (3, .int (nI 3))]) C.x C.b dL_around_4 hl (by decide) rfl (fun ls hl => ?_)
  refine lv_iload C.x C.b dL_around_6 (lv_at hl 0 rfl) ?_
  refine lv_iload_n C.x C.b dL_around_8 rfl (lv_at hl 5 rfl) ?_
  refine lv_icmp_ge (tgt := 42) C.x C.b dL_around_9 (by decide) (fun q9 => absurd q9 (by decide)) (fun _ => ?_)
  refine lv_aload_n C.x C.b dL_around_12 rfl (lv_at hl 2 rfl) ?_
  refine lv_iload_n C.x C.b dL_around_13 rfl (lv_at hl 3 rfl) ?_
  refine lv_iload C.x C.b dL_around_14 (lv_at hl 0 rfl) ?_
  refine k_cI (As := [.int (nI 1), .int (nI 0)]) (rest := []) (c2 := 8) (s2 := 64) (v := (nI 0)) (m1 := m) C hX (iop_around hst hI (nI 1) (nI 0)) (e0) hI.hd (gl_up inv_X8_around) rfl ⟨rfl, hdA_X8_around⟩ (by decide) rfl hl.1 rfl (by decide) dL_around_16 ⟨Nat.le_of_ble_eq_true rfl, Nat.le_of_ble_eq_true rfl⟩ ⟨Nat.le_of_ble_eq_true rfl, Nat.le_of_ble_eq_true rfl⟩ rfl rfl (fun f H locs hX hI => ?_)
  refine lv_iload C.x C.b dL_around_19 (lv_at hl 1 rfl) ?_
  refine lv_bipush (v := (nI 10)) C.x C.b dL_around_21 (by decide) ?_
  refine lv_irem C.x C.b dL_around_23 (by decide) ?_
  refine k_topi (y := (nI 0)) (by decide) ?_
  refine lv_icmp_eq (tgt := 29) C.x C.b dL_around_24 (by decide) (fun _ => ?_) (fun q9 => absurd (by decide) q9)
  refine lv_iload C.x C.b dL_around_29 (lv_at hl 1 rfl) ?_
  refine lv_bipush (v := (nI 10)) C.x C.b dL_around_31 (by decide) ?_
  refine lv_idiv C.x C.b dL_around_33 (by decide) ?_
  refine k_topi (y := (nI 23)) (by decide) ?_
  refine lv_istore (lv' := [(4, .int (nI 23)), (5, .int (nI 0)), (0, .ref h), (1, .int (nI 1)), (2, .int (nI 230)), (3, .int (nI 3))]) C.x C.b dL_around_34 hl (by decide) rfl (fun ls hl => ?_)
  refine lv_iinc (v := (nI 1)) (lv' := [(5, .int (nI 1)), (4, .int (nI 23)), (0, .ref h), (1, .int (nI 1)), (2, .int (nI 230)), (3, .int (nI 3))]) C.x C.b dL_around_36 hl (k := 1) rfl (by decide) (by decide) rfl (fun ls hl => ?_)
  refine lv_goto (tgt := 6) C.x C.b dL_around_39 (by decide) ?_
  refine lv_iload C.x C.b dL_around_6 (lv_at hl 0 rfl) ?_
  refine lv_iload_n C.x C.b dL_around_8 rfl (lv_at hl 5 rfl) ?_
  refine lv_icmp_ge (tgt := 42) C.x C.b dL_around_9 (by decide) (fun q9 => absurd q9 (by decide)) (fun _ => ?_)
  refine lv_aload_n C.x C.b dL_around_12 rfl (lv_at hl 2 rfl) ?_
  refine lv_iload_n C.x C.b dL_around_13 rfl (lv_at hl 3 rfl) ?_
  refine lv_iload C.x C.b dL_around_14 (lv_at hl 0 rfl) ?_
  refine k_cI (As := [.int (nI 1), .int (nI 1)]) (rest := []) (c2 := 16) (s2 := 128) (v := (nI 3)) (m1 := m) C hX (iop_around hst hI (nI 1) (nI 1)) (e1) hI.hd (gl_up inv_X8_around) rfl ⟨rfl, hdA_X8_around⟩ (by decide) rfl hl.1 rfl (by decide) dL_around_16 ⟨Nat.le_of_ble_eq_true rfl, Nat.le_of_ble_eq_true rfl⟩ ⟨Nat.le_of_ble_eq_true rfl, Nat.le_of_ble_eq_true rfl⟩ rfl rfl (fun f H locs hX hI => ?_)
  refine lv_iload C.x C.b dL_around_19 (lv_at hl 1 rfl) ?_
  refine lv_bipush (v := (nI 10)) C.x C.b dL_around_21 (by decide) ?_
  refine lv_irem C.x C.b dL_around_23 (by decide) ?_
  refine k_topi (y := (nI 3)) (by decide) ?_
  refine lv_icmp_eq (tgt := 29) C.x C.b dL_around_24 (by decide) (fun _ => ?_) (fun q9 => absurd (by decide) q9)
  refine lv_iload C.x C.b dL_around_29 (lv_at hl 1 rfl) ?_
  refine lv_bipush (v := (nI 10)) C.x C.b dL_around_31 (by decide) ?_
  refine lv_idiv C.x C.b dL_around_33 (by decide) ?_
  refine k_topi (y := (nI 2)) (by decide) ?_
  refine lv_istore (lv' := [(4, .int (nI 2)), (5, .int (nI 1)), (0, .ref h), (1, .int (nI 1)), (2, .int (nI 230)), (3, .int (nI 3))]) C.x C.b dL_around_34 hl (by decide) rfl (fun ls hl => ?_)
  refine lv_iinc (v := (nI 2)) (lv' := [(5, .int (nI 2)), (4, .int (nI 2)), (0, .ref h), (1, .int (nI 1)), (2, .int (nI 230)), (3, .int (nI 3))]) C.x C.b dL_around_36 hl (k := 1) rfl (by decide) (by decide) rfl (fun ls hl => ?_)
  refine lv_goto (tgt := 6) C.x C.b dL_around_39 (by decide) ?_
  refine lv_iload C.x C.b dL_around_6 (lv_at hl 0 rfl) ?_
  refine lv_iload_n C.x C.b dL_around_8 rfl (lv_at hl 5 rfl) ?_
  refine lv_icmp_ge (tgt := 42) C.x C.b dL_around_9 (by decide) (fun q9 => absurd q9 (by decide)) (fun _ => ?_)
  refine lv_aload_n C.x C.b dL_around_12 rfl (lv_at hl 2 rfl) ?_
  refine lv_iload_n C.x C.b dL_around_13 rfl (lv_at hl 3 rfl) ?_
  refine lv_iload C.x C.b dL_around_14 (lv_at hl 0 rfl) ?_
  refine k_cI (As := [.int (nI 1), .int (nI 2)]) (rest := []) (c2 := 24) (s2 := 192) (v := (nI 2)) (m1 := m) C hX (iop_around hst hI (nI 1) (nI 2)) (e2) hI.hd (gl_up inv_X8_around) rfl ⟨rfl, hdA_X8_around⟩ (by decide) rfl hl.1 rfl (by decide) dL_around_16 ⟨Nat.le_of_ble_eq_true rfl, Nat.le_of_ble_eq_true rfl⟩ ⟨Nat.le_of_ble_eq_true rfl, Nat.le_of_ble_eq_true rfl⟩ rfl rfl (fun f H locs hX hI => ?_)
  refine lv_iload C.x C.b dL_around_19 (lv_at hl 1 rfl) ?_
  refine lv_bipush (v := (nI 10)) C.x C.b dL_around_21 (by decide) ?_
  refine lv_irem C.x C.b dL_around_23 (by decide) ?_
  refine k_topi (y := (nI 2)) (by decide) ?_
  refine lv_icmp_eq (tgt := 29) C.x C.b dL_around_24 (by decide) (fun _ => ?_) (fun q9 => absurd (by decide) q9)
  refine lv_iload C.x C.b dL_around_29 (lv_at hl 1 rfl) ?_
  refine lv_bipush (v := (nI 10)) C.x C.b dL_around_31 (by decide) ?_
  refine lv_idiv C.x C.b dL_around_33 (by decide) ?_
  refine k_topi (y := (nI 0)) (by decide) ?_
  refine lv_istore (lv' := [(4, .int (nI 0)), (5, .int (nI 2)), (0, .ref h), (1, .int (nI 1)), (2, .int (nI 230)), (3, .int (nI 3))]) C.x C.b dL_around_34 hl (by decide) rfl (fun ls hl => ?_)
  refine lv_iinc (v := (nI 3)) (lv' := [(5, .int (nI 3)), (4, .int (nI 0)), (0, .ref h), (1, .int (nI 1)), (2, .int (nI 230)), (3, .int (nI 3))]) C.x C.b dL_around_36 hl (k := 1) rfl (by decide) (by decide) rfl (fun ls hl => ?_)
  refine lv_goto (tgt := 6) C.x C.b dL_around_39 (by decide) ?_
  refine lv_iload C.x C.b dL_around_6 (lv_at hl 0 rfl) ?_
  refine lv_iload_n C.x C.b dL_around_8 rfl (lv_at hl 5 rfl) ?_
  refine lv_icmp_ge (tgt := 42) C.x C.b dL_around_9 (by decide) (fun _ => ?_) (fun q9 => absurd (by decide) q9)
  refine lv_aload_n C.x C.b dL_around_42 rfl (lv_at hl 2 rfl) ?_
  refine lv_iload_n C.x C.b dL_around_43 rfl (lv_at hl 3 rfl) ?_
  refine lv_iload_n C.x C.b dL_around_44 rfl (lv_at hl 5 rfl) ?_
  refine k_cI (As := [.int (nI 1), .int (nI 3)]) (rest := []) (c2 := 32) (s2 := 256) (v := (-1)) (m1 := m) C hX (iop_around hst hI (nI 1) (nI 3)) (e8) hI.hd (gl_up inv_X8_around) rfl ⟨rfl, hdA_X8_around⟩ (by decide) rfl hl.1 rfl (by decide) dL_around_45 ⟨Nat.le_of_ble_eq_true rfl, Nat.le_of_ble_eq_true rfl⟩ ⟨Nat.le_of_ble_eq_true rfl, Nat.le_of_ble_eq_true rfl⟩ rfl rfl (fun f H locs hX hI => ?_)
  refine lv_iconst (v := (-1)) C.x C.b dL_around_48 (by decide) ?_
  refine lv_icmp_ne (tgt := 67) C.x C.b dL_around_49 (by decide) (fun q9 => absurd (by decide) q9) (fun _ => ?_)
  refine lv_aload_n C.x C.b dL_around_52 rfl (lv_at hl 2 rfl) ?_
  refine lv_iload_n C.x C.b dL_around_53 rfl (lv_at hl 3 rfl) ?_
  refine lv_ldc (v := (nI 2147483647)) C.x C.b C.ow (C.ts _ (List.mem_cons_of_mem _ lkC_106)) dL_around_54 ?_
  refine k_cI (As := [.int (nI 1), .int (nI 2147483647)]) (rest := []) (c2 := 40) (s2 := 320) (v := (-1)) (m1 := m) C hX (iop_around hst hI (nI 1) (nI 2147483647)) (e9) hI.hd (gl_up inv_X8_around) rfl ⟨rfl, hdA_X8_around⟩ (by decide) rfl hl.1 rfl (by decide) dL_around_56 ⟨Nat.le_of_ble_eq_true rfl, Nat.le_of_ble_eq_true rfl⟩ ⟨Nat.le_of_ble_eq_true rfl, Nat.le_of_ble_eq_true rfl⟩ rfl rfl (fun f H locs hX hI => ?_)
  refine lv_iconst (v := (-1)) C.x C.b dL_around_59 (by decide) ?_
  refine lv_icmp_ne (tgt := 67) C.x C.b dL_around_60 (by decide) (fun q9 => absurd (by decide) q9) (fun _ => ?_)
  refine lv_iconst (v := (nI 1)) C.x C.b dL_around_63 (by decide) ?_
  refine lv_goto (tgt := 68) C.x C.b dL_around_64 (by decide) ?_
  exact k_zret C hX hr hlocks hQ (Nat.le_of_ble_eq_true rfl) (Nat.le_of_ble_eq_true rfl) (Or.inr rfl) ⟨rfl, hI⟩ dL_around_68
set_option maxHeartbeats 16000000 in
set_option maxRecDepth 100000 in
theorem pL_around_2_310_3 {l : Launch} (hst : l.stackTraces = false) {G : kG} {B0 h : Nat} {f : kH} {m : pSt} (hI : Inv G h f m) (e0 : c_around m (nI 2) (nI 0) = (0, nI 0, m)) (e1 : c_around m (nI 2) (nI 1) = (0, nI 1, m)) (e2 : c_around m (nI 2) (nI 2) = (0, nI 3, m)) (e8 : c_around m (nI 2) (nI 3) = (0, -1, m)) (e9 : c_around m (nI 2) (nI 2147483647) = (0, -1, m)) : Met l yL_around wsP_around rmF (kP G B0 f [.ref h, .int (nI 2), .int (nI 310), .int (nI 3)]) (kQi G B0 (fun r f1 => r = nI 1 ∧ Inv G h f1 m)) 80 640 (kAb B0) := by
  refine kMet (cc := cL_around) (maxL := 6) (ret := (some .boolean)) (by decide) rfl (Nat.le_of_ble_eq_true rfl) ?_
  intro p e s mi args below meth c H locs Q ls C hX hl hr hlocks hnm hQ
  have hl : lv_has ls 6 [(0, .ref h), (1, .int (nI 2)), (2, .int (nI 310)), (3, .int (nI 3))] := hl
  refine lv_iload_n C.x C.b dL_around_0 rfl (lv_at hl 2 rfl) ?_
  refine lv_istore (lv' := [(4, .int (nI 310)), (0, .ref h), (1, .int (nI 2)), (2, .int (nI 310)), (3, .int (nI 3))]) C.x C.b dL_around_1 hl (by decide) rfl (fun ls hl => ?_)
  refine lv_iconst (v := (nI 0)) C.x C.b dL_around_3 (by decide) ?_
  refine lv_istore (lv' := [(5, .int (nI 0)), (4, .int (nI 310)), (0, .ref h), (1, .int (nI 2)), (2, .int (nI 310)), (3, .int (nI 3))]) C.x C.b dL_around_4 hl (by decide) rfl (fun ls hl => ?_)
  refine lv_iload C.x C.b dL_around_6 (lv_at hl 0 rfl) ?_
  refine lv_iload_n C.x C.b dL_around_8 rfl (lv_at hl 5 rfl) ?_
  refine lv_icmp_ge (tgt := 42) C.x C.b dL_around_9 (by decide) (fun q9 => absurd q9 (by decide)) (fun _ => ?_)
  refine lv_aload_n C.x C.b dL_around_12 rfl (lv_at hl 2 rfl) ?_
  refine lv_iload_n C.x C.b dL_around_13 rfl (lv_at hl 3 rfl) ?_
  refine lv_iload C.x C.b dL_around_14 (lv_at hl 0 rfl) ?_
  refine k_cI (As := [.int (nI 2), .int (nI 0)]) (rest := []) (c2 := 8) (s2 := 64) (v := (nI 0)) (m1 := m) C hX (iop_around hst hI (nI 2) (nI 0)) (e0) hI.hd (gl_up inv_X8_around) rfl ⟨rfl, hdA_X8_around⟩ (by decide) rfl hl.1 rfl (by decide) dL_around_16 ⟨Nat.le_of_ble_eq_true rfl, Nat.le_of_ble_eq_true rfl⟩ ⟨Nat.le_of_ble_eq_true rfl, Nat.le_of_ble_eq_true rfl⟩ rfl rfl (fun f H locs hX hI => ?_)
  refine lv_iload C.x C.b dL_around_19 (lv_at hl 1 rfl) ?_
  refine lv_bipush (v := (nI 10)) C.x C.b dL_around_21 (by decide) ?_
  refine lv_irem C.x C.b dL_around_23 (by decide) ?_
  refine k_topi (y := (nI 0)) (by decide) ?_
  refine lv_icmp_eq (tgt := 29) C.x C.b dL_around_24 (by decide) (fun _ => ?_) (fun q9 => absurd (by decide) q9)
  refine lv_iload C.x C.b dL_around_29 (lv_at hl 1 rfl) ?_
  refine lv_bipush (v := (nI 10)) C.x C.b dL_around_31 (by decide) ?_
  refine lv_idiv C.x C.b dL_around_33 (by decide) ?_
  refine k_topi (y := (nI 31)) (by decide) ?_
  refine lv_istore (lv' := [(4, .int (nI 31)), (5, .int (nI 0)), (0, .ref h), (1, .int (nI 2)), (2, .int (nI 310)), (3, .int (nI 3))]) C.x C.b dL_around_34 hl (by decide) rfl (fun ls hl => ?_)
  refine lv_iinc (v := (nI 1)) (lv' := [(5, .int (nI 1)), (4, .int (nI 31)), (0, .ref h), (1, .int (nI 2)), (2, .int (nI 310)), (3, .int (nI 3))]) C.x C.b dL_around_36 hl (k := 1) rfl (by decide) (by decide) rfl (fun ls hl => ?_)
  refine lv_goto (tgt := 6) C.x C.b dL_around_39 (by decide) ?_
  refine lv_iload C.x C.b dL_around_6 (lv_at hl 0 rfl) ?_
  refine lv_iload_n C.x C.b dL_around_8 rfl (lv_at hl 5 rfl) ?_
  refine lv_icmp_ge (tgt := 42) C.x C.b dL_around_9 (by decide) (fun q9 => absurd q9 (by decide)) (fun _ => ?_)
  refine lv_aload_n C.x C.b dL_around_12 rfl (lv_at hl 2 rfl) ?_
  refine lv_iload_n C.x C.b dL_around_13 rfl (lv_at hl 3 rfl) ?_
  refine lv_iload C.x C.b dL_around_14 (lv_at hl 0 rfl) ?_
  refine k_cI (As := [.int (nI 2), .int (nI 1)]) (rest := []) (c2 := 16) (s2 := 128) (v := (nI 1)) (m1 := m) C hX (iop_around hst hI (nI 2) (nI 1)) (e1) hI.hd (gl_up inv_X8_around) rfl ⟨rfl, hdA_X8_around⟩ (by decide) rfl hl.1 rfl (by decide) dL_around_16 ⟨Nat.le_of_ble_eq_true rfl, Nat.le_of_ble_eq_true rfl⟩ ⟨Nat.le_of_ble_eq_true rfl, Nat.le_of_ble_eq_true rfl⟩ rfl rfl (fun f H locs hX hI => ?_)
  refine lv_iload C.x C.b dL_around_19 (lv_at hl 1 rfl) ?_
  refine lv_bipush (v := (nI 10)) C.x C.b dL_around_21 (by decide) ?_
  refine lv_irem C.x C.b dL_around_23 (by decide) ?_
  refine k_topi (y := (nI 1)) (by decide) ?_
  refine lv_icmp_eq (tgt := 29) C.x C.b dL_around_24 (by decide) (fun _ => ?_) (fun q9 => absurd (by decide) q9)
  refine lv_iload C.x C.b dL_around_29 (lv_at hl 1 rfl) ?_
  refine lv_bipush (v := (nI 10)) C.x C.b dL_around_31 (by decide) ?_
  refine lv_idiv C.x C.b dL_around_33 (by decide) ?_
  refine k_topi (y := (nI 3)) (by decide) ?_
  refine lv_istore (lv' := [(4, .int (nI 3)), (5, .int (nI 1)), (0, .ref h), (1, .int (nI 2)), (2, .int (nI 310)), (3, .int (nI 3))]) C.x C.b dL_around_34 hl (by decide) rfl (fun ls hl => ?_)
  refine lv_iinc (v := (nI 2)) (lv' := [(5, .int (nI 2)), (4, .int (nI 3)), (0, .ref h), (1, .int (nI 2)), (2, .int (nI 310)), (3, .int (nI 3))]) C.x C.b dL_around_36 hl (k := 1) rfl (by decide) (by decide) rfl (fun ls hl => ?_)
  refine lv_goto (tgt := 6) C.x C.b dL_around_39 (by decide) ?_
  refine lv_iload C.x C.b dL_around_6 (lv_at hl 0 rfl) ?_
  refine lv_iload_n C.x C.b dL_around_8 rfl (lv_at hl 5 rfl) ?_
  refine lv_icmp_ge (tgt := 42) C.x C.b dL_around_9 (by decide) (fun q9 => absurd q9 (by decide)) (fun _ => ?_)
  refine lv_aload_n C.x C.b dL_around_12 rfl (lv_at hl 2 rfl) ?_
  refine lv_iload_n C.x C.b dL_around_13 rfl (lv_at hl 3 rfl) ?_
  refine lv_iload C.x C.b dL_around_14 (lv_at hl 0 rfl) ?_
  refine k_cI (As := [.int (nI 2), .int (nI 2)]) (rest := []) (c2 := 24) (s2 := 192) (v := (nI 3)) (m1 := m) C hX (iop_around hst hI (nI 2) (nI 2)) (e2) hI.hd (gl_up inv_X8_around) rfl ⟨rfl, hdA_X8_around⟩ (by decide) rfl hl.1 rfl (by decide) dL_around_16 ⟨Nat.le_of_ble_eq_true rfl, Nat.le_of_ble_eq_true rfl⟩ ⟨Nat.le_of_ble_eq_true rfl, Nat.le_of_ble_eq_true rfl⟩ rfl rfl (fun f H locs hX hI => ?_)
  refine lv_iload C.x C.b dL_around_19 (lv_at hl 1 rfl) ?_
  refine lv_bipush (v := (nI 10)) C.x C.b dL_around_21 (by decide) ?_
  refine lv_irem C.x C.b dL_around_23 (by decide) ?_
  refine k_topi (y := (nI 3)) (by decide) ?_
  refine lv_icmp_eq (tgt := 29) C.x C.b dL_around_24 (by decide) (fun _ => ?_) (fun q9 => absurd (by decide) q9)
  refine lv_iload C.x C.b dL_around_29 (lv_at hl 1 rfl) ?_
  refine lv_bipush (v := (nI 10)) C.x C.b dL_around_31 (by decide) ?_
  refine lv_idiv C.x C.b dL_around_33 (by decide) ?_
  refine k_topi (y := (nI 0)) (by decide) ?_
  refine lv_istore (lv' := [(4, .int (nI 0)), (5, .int (nI 2)), (0, .ref h), (1, .int (nI 2)), (2, .int (nI 310)), (3, .int (nI 3))]) C.x C.b dL_around_34 hl (by decide) rfl (fun ls hl => ?_)
  refine lv_iinc (v := (nI 3)) (lv' := [(5, .int (nI 3)), (4, .int (nI 0)), (0, .ref h), (1, .int (nI 2)), (2, .int (nI 310)), (3, .int (nI 3))]) C.x C.b dL_around_36 hl (k := 1) rfl (by decide) (by decide) rfl (fun ls hl => ?_)
  refine lv_goto (tgt := 6) C.x C.b dL_around_39 (by decide) ?_
  refine lv_iload C.x C.b dL_around_6 (lv_at hl 0 rfl) ?_
  refine lv_iload_n C.x C.b dL_around_8 rfl (lv_at hl 5 rfl) ?_
  refine lv_icmp_ge (tgt := 42) C.x C.b dL_around_9 (by decide) (fun _ => ?_) (fun q9 => absurd (by decide) q9)
  refine lv_aload_n C.x C.b dL_around_42 rfl (lv_at hl 2 rfl) ?_
  refine lv_iload_n C.x C.b dL_around_43 rfl (lv_at hl 3 rfl) ?_
  refine lv_iload_n C.x C.b dL_around_44 rfl (lv_at hl 5 rfl) ?_
  refine k_cI (As := [.int (nI 2), .int (nI 3)]) (rest := []) (c2 := 32) (s2 := 256) (v := (-1)) (m1 := m) C hX (iop_around hst hI (nI 2) (nI 3)) (e8) hI.hd (gl_up inv_X8_around) rfl ⟨rfl, hdA_X8_around⟩ (by decide) rfl hl.1 rfl (by decide) dL_around_45 ⟨Nat.le_of_ble_eq_true rfl, Nat.le_of_ble_eq_true rfl⟩ ⟨Nat.le_of_ble_eq_true rfl, Nat.le_of_ble_eq_true rfl⟩ rfl rfl (fun f H locs hX hI => ?_)
  refine lv_iconst (v := (-1)) C.x C.b dL_around_48 (by decide) ?_
  refine lv_icmp_ne (tgt := 67) C.x C.b dL_around_49 (by decide) (fun q9 => absurd (by decide) q9) (fun _ => ?_)
  refine lv_aload_n C.x C.b dL_around_52 rfl (lv_at hl 2 rfl) ?_
  refine lv_iload_n C.x C.b dL_around_53 rfl (lv_at hl 3 rfl) ?_
  refine lv_ldc (v := (nI 2147483647)) C.x C.b C.ow (C.ts _ (List.mem_cons_of_mem _ lkC_106)) dL_around_54 ?_
  refine k_cI (As := [.int (nI 2), .int (nI 2147483647)]) (rest := []) (c2 := 40) (s2 := 320) (v := (-1)) (m1 := m) C hX (iop_around hst hI (nI 2) (nI 2147483647)) (e9) hI.hd (gl_up inv_X8_around) rfl ⟨rfl, hdA_X8_around⟩ (by decide) rfl hl.1 rfl (by decide) dL_around_56 ⟨Nat.le_of_ble_eq_true rfl, Nat.le_of_ble_eq_true rfl⟩ ⟨Nat.le_of_ble_eq_true rfl, Nat.le_of_ble_eq_true rfl⟩ rfl rfl (fun f H locs hX hI => ?_)
  refine lv_iconst (v := (-1)) C.x C.b dL_around_59 (by decide) ?_
  refine lv_icmp_ne (tgt := 67) C.x C.b dL_around_60 (by decide) (fun q9 => absurd (by decide) q9) (fun _ => ?_)
  refine lv_iconst (v := (nI 1)) C.x C.b dL_around_63 (by decide) ?_
  refine lv_goto (tgt := 68) C.x C.b dL_around_64 (by decide) ?_
  exact k_zret C hX hr hlocks hQ (Nat.le_of_ble_eq_true rfl) (Nat.le_of_ble_eq_true rfl) (Or.inr rfl) ⟨rfl, hI⟩ dL_around_68
set_option maxHeartbeats 16000000 in
set_option maxRecDepth 100000 in
theorem pL_around_3_120_3 {l : Launch} (hst : l.stackTraces = false) {G : kG} {B0 h : Nat} {f : kH} {m : pSt} (hI : Inv G h f m) (e0 : c_around m (nI 3) (nI 0) = (0, nI 0, m)) (e1 : c_around m (nI 3) (nI 1) = (0, nI 2, m)) (e2 : c_around m (nI 3) (nI 2) = (0, nI 1, m)) (e8 : c_around m (nI 3) (nI 3) = (0, -1, m)) (e9 : c_around m (nI 3) (nI 2147483647) = (0, -1, m)) : Met l yL_around wsP_around rmF (kP G B0 f [.ref h, .int (nI 3), .int (nI 120), .int (nI 3)]) (kQi G B0 (fun r f1 => r = nI 1 ∧ Inv G h f1 m)) 80 640 (kAb B0) := by
  refine kMet (cc := cL_around) (maxL := 6) (ret := (some .boolean)) (by decide) rfl (Nat.le_of_ble_eq_true rfl) ?_
  intro p e s mi args below meth c H locs Q ls C hX hl hr hlocks hnm hQ
  have hl : lv_has ls 6 [(0, .ref h), (1, .int (nI 3)), (2, .int (nI 120)), (3, .int (nI 3))] := hl
  refine lv_iload_n C.x C.b dL_around_0 rfl (lv_at hl 2 rfl) ?_
  refine lv_istore (lv' := [(4, .int (nI 120)), (0, .ref h), (1, .int (nI 3)), (2, .int (nI 120)), (3, .int (nI 3))]) C.x C.b dL_around_1 hl (by decide) rfl (fun ls hl => ?_)
  refine lv_iconst (v := (nI 0)) C.x C.b dL_around_3 (by decide) ?_
  refine lv_istore (lv' := [(5, .int (nI 0)), (4, .int (nI 120)), (0, .ref h), (1, .int (nI 3)), (2, .int (nI 120)), (3, .int (nI 3))]) C.x C.b dL_around_4 hl (by decide) rfl (fun ls hl => ?_)
  refine lv_iload C.x C.b dL_around_6 (lv_at hl 0 rfl) ?_
  refine lv_iload_n C.x C.b dL_around_8 rfl (lv_at hl 5 rfl) ?_
  refine lv_icmp_ge (tgt := 42) C.x C.b dL_around_9 (by decide) (fun q9 => absurd q9 (by decide)) (fun _ => ?_)
  refine lv_aload_n C.x C.b dL_around_12 rfl (lv_at hl 2 rfl) ?_
  refine lv_iload_n C.x C.b dL_around_13 rfl (lv_at hl 3 rfl) ?_
  refine lv_iload C.x C.b dL_around_14 (lv_at hl 0 rfl) ?_
  refine k_cI (As := [.int (nI 3), .int (nI 0)]) (rest := []) (c2 := 8) (s2 := 64) (v := (nI 0)) (m1 := m) C hX (iop_around hst hI (nI 3) (nI 0)) (e0) hI.hd (gl_up inv_X8_around) rfl ⟨rfl, hdA_X8_around⟩ (by decide) rfl hl.1 rfl (by decide) dL_around_16 ⟨Nat.le_of_ble_eq_true rfl, Nat.le_of_ble_eq_true rfl⟩ ⟨Nat.le_of_ble_eq_true rfl, Nat.le_of_ble_eq_true rfl⟩ rfl rfl (fun f H locs hX hI => ?_)
  refine lv_iload C.x C.b dL_around_19 (lv_at hl 1 rfl) ?_
  refine lv_bipush (v := (nI 10)) C.x C.b dL_around_21 (by decide) ?_
  refine lv_irem C.x C.b dL_around_23 (by decide) ?_
  refine k_topi (y := (nI 0)) (by decide) ?_
  refine lv_icmp_eq (tgt := 29) C.x C.b dL_around_24 (by decide) (fun _ => ?_) (fun q9 => absurd (by decide) q9)
  refine lv_iload C.x C.b dL_around_29 (lv_at hl 1 rfl) ?_
  refine lv_bipush (v := (nI 10)) C.x C.b dL_around_31 (by decide) ?_
  refine lv_idiv C.x C.b dL_around_33 (by decide) ?_
  refine k_topi (y := (nI 12)) (by decide) ?_
  refine lv_istore (lv' := [(4, .int (nI 12)), (5, .int (nI 0)), (0, .ref h), (1, .int (nI 3)), (2, .int (nI 120)), (3, .int (nI 3))]) C.x C.b dL_around_34 hl (by decide) rfl (fun ls hl => ?_)
  refine lv_iinc (v := (nI 1)) (lv' := [(5, .int (nI 1)), (4, .int (nI 12)), (0, .ref h), (1, .int (nI 3)), (2, .int (nI 120)), (3, .int (nI 3))]) C.x C.b dL_around_36 hl (k := 1) rfl (by decide) (by decide) rfl (fun ls hl => ?_)
  refine lv_goto (tgt := 6) C.x C.b dL_around_39 (by decide) ?_
  refine lv_iload C.x C.b dL_around_6 (lv_at hl 0 rfl) ?_
  refine lv_iload_n C.x C.b dL_around_8 rfl (lv_at hl 5 rfl) ?_
  refine lv_icmp_ge (tgt := 42) C.x C.b dL_around_9 (by decide) (fun q9 => absurd q9 (by decide)) (fun _ => ?_)
  refine lv_aload_n C.x C.b dL_around_12 rfl (lv_at hl 2 rfl) ?_
  refine lv_iload_n C.x C.b dL_around_13 rfl (lv_at hl 3 rfl) ?_
  refine lv_iload C.x C.b dL_around_14 (lv_at hl 0 rfl) ?_
  refine k_cI (As := [.int (nI 3), .int (nI 1)]) (rest := []) (c2 := 16) (s2 := 128) (v := (nI 2)) (m1 := m) C hX (iop_around hst hI (nI 3) (nI 1)) (e1) hI.hd (gl_up inv_X8_around) rfl ⟨rfl, hdA_X8_around⟩ (by decide) rfl hl.1 rfl (by decide) dL_around_16 ⟨Nat.le_of_ble_eq_true rfl, Nat.le_of_ble_eq_true rfl⟩ ⟨Nat.le_of_ble_eq_true rfl, Nat.le_of_ble_eq_true rfl⟩ rfl rfl (fun f H locs hX hI => ?_)
  refine lv_iload C.x C.b dL_around_19 (lv_at hl 1 rfl) ?_
  refine lv_bipush (v := (nI 10)) C.x C.b dL_around_21 (by decide) ?_
  refine lv_irem C.x C.b dL_around_23 (by decide) ?_
  refine k_topi (y := (nI 2)) (by decide) ?_
  refine lv_icmp_eq (tgt := 29) C.x C.b dL_around_24 (by decide) (fun _ => ?_) (fun q9 => absurd (by decide) q9)
  refine lv_iload C.x C.b dL_around_29 (lv_at hl 1 rfl) ?_
  refine lv_bipush (v := (nI 10)) C.x C.b dL_around_31 (by decide) ?_
  refine lv_idiv C.x C.b dL_around_33 (by decide) ?_
  refine k_topi (y := (nI 1)) (by decide) ?_
  refine lv_istore (lv' := [(4, .int (nI 1)), (5, .int (nI 1)), (0, .ref h), (1, .int (nI 3)), (2, .int (nI 120)), (3, .int (nI 3))]) C.x C.b dL_around_34 hl (by decide) rfl (fun ls hl => ?_)
  refine lv_iinc (v := (nI 2)) (lv' := [(5, .int (nI 2)), (4, .int (nI 1)), (0, .ref h), (1, .int (nI 3)), (2, .int (nI 120)), (3, .int (nI 3))]) C.x C.b dL_around_36 hl (k := 1) rfl (by decide) (by decide) rfl (fun ls hl => ?_)
  refine lv_goto (tgt := 6) C.x C.b dL_around_39 (by decide) ?_
  refine lv_iload C.x C.b dL_around_6 (lv_at hl 0 rfl) ?_
  refine lv_iload_n C.x C.b dL_around_8 rfl (lv_at hl 5 rfl) ?_
  refine lv_icmp_ge (tgt := 42) C.x C.b dL_around_9 (by decide) (fun q9 => absurd q9 (by decide)) (fun _ => ?_)
  refine lv_aload_n C.x C.b dL_around_12 rfl (lv_at hl 2 rfl) ?_
  refine lv_iload_n C.x C.b dL_around_13 rfl (lv_at hl 3 rfl) ?_
  refine lv_iload C.x C.b dL_around_14 (lv_at hl 0 rfl) ?_
  refine k_cI (As := [.int (nI 3), .int (nI 2)]) (rest := []) (c2 := 24) (s2 := 192) (v := (nI 1)) (m1 := m) C hX (iop_around hst hI (nI 3) (nI 2)) (e2) hI.hd (gl_up inv_X8_around) rfl ⟨rfl, hdA_X8_around⟩ (by decide) rfl hl.1 rfl (by decide) dL_around_16 ⟨Nat.le_of_ble_eq_true rfl, Nat.le_of_ble_eq_true rfl⟩ ⟨Nat.le_of_ble_eq_true rfl, Nat.le_of_ble_eq_true rfl⟩ rfl rfl (fun f H locs hX hI => ?_)
  refine lv_iload C.x C.b dL_around_19 (lv_at hl 1 rfl) ?_
  refine lv_bipush (v := (nI 10)) C.x C.b dL_around_21 (by decide) ?_
  refine lv_irem C.x C.b dL_around_23 (by decide) ?_
  refine k_topi (y := (nI 1)) (by decide) ?_
  refine lv_icmp_eq (tgt := 29) C.x C.b dL_around_24 (by decide) (fun _ => ?_) (fun q9 => absurd (by decide) q9)
  refine lv_iload C.x C.b dL_around_29 (lv_at hl 1 rfl) ?_
  refine lv_bipush (v := (nI 10)) C.x C.b dL_around_31 (by decide) ?_
  refine lv_idiv C.x C.b dL_around_33 (by decide) ?_
  refine k_topi (y := (nI 0)) (by decide) ?_
  refine lv_istore (lv' := [(4, .int (nI 0)), (5, .int (nI 2)), (0, .ref h), (1, .int (nI 3)), (2, .int (nI 120)), (3, .int (nI 3))]) C.x C.b dL_around_34 hl (by decide) rfl (fun ls hl => ?_)
  refine lv_iinc (v := (nI 3)) (lv' := [(5, .int (nI 3)), (4, .int (nI 0)), (0, .ref h), (1, .int (nI 3)), (2, .int (nI 120)), (3, .int (nI 3))]) C.x C.b dL_around_36 hl (k := 1) rfl (by decide) (by decide) rfl (fun ls hl => ?_)
  refine lv_goto (tgt := 6) C.x C.b dL_around_39 (by decide) ?_
  refine lv_iload C.x C.b dL_around_6 (lv_at hl 0 rfl) ?_
  refine lv_iload_n C.x C.b dL_around_8 rfl (lv_at hl 5 rfl) ?_
  refine lv_icmp_ge (tgt := 42) C.x C.b dL_around_9 (by decide) (fun _ => ?_) (fun q9 => absurd (by decide) q9)
  refine lv_aload_n C.x C.b dL_around_42 rfl (lv_at hl 2 rfl) ?_
  refine lv_iload_n C.x C.b dL_around_43 rfl (lv_at hl 3 rfl) ?_
  refine lv_iload_n C.x C.b dL_around_44 rfl (lv_at hl 5 rfl) ?_
  refine k_cI (As := [.int (nI 3), .int (nI 3)]) (rest := []) (c2 := 32) (s2 := 256) (v := (-1)) (m1 := m) C hX (iop_around hst hI (nI 3) (nI 3)) (e8) hI.hd (gl_up inv_X8_around) rfl ⟨rfl, hdA_X8_around⟩ (by decide) rfl hl.1 rfl (by decide) dL_around_45 ⟨Nat.le_of_ble_eq_true rfl, Nat.le_of_ble_eq_true rfl⟩ ⟨Nat.le_of_ble_eq_true rfl, Nat.le_of_ble_eq_true rfl⟩ rfl rfl (fun f H locs hX hI => ?_)
  refine lv_iconst (v := (-1)) C.x C.b dL_around_48 (by decide) ?_
  refine lv_icmp_ne (tgt := 67) C.x C.b dL_around_49 (by decide) (fun q9 => absurd (by decide) q9) (fun _ => ?_)
  refine lv_aload_n C.x C.b dL_around_52 rfl (lv_at hl 2 rfl) ?_
  refine lv_iload_n C.x C.b dL_around_53 rfl (lv_at hl 3 rfl) ?_
  refine lv_ldc (v := (nI 2147483647)) C.x C.b C.ow (C.ts _ (List.mem_cons_of_mem _ lkC_106)) dL_around_54 ?_
  refine k_cI (As := [.int (nI 3), .int (nI 2147483647)]) (rest := []) (c2 := 40) (s2 := 320) (v := (-1)) (m1 := m) C hX (iop_around hst hI (nI 3) (nI 2147483647)) (e9) hI.hd (gl_up inv_X8_around) rfl ⟨rfl, hdA_X8_around⟩ (by decide) rfl hl.1 rfl (by decide) dL_around_56 ⟨Nat.le_of_ble_eq_true rfl, Nat.le_of_ble_eq_true rfl⟩ ⟨Nat.le_of_ble_eq_true rfl, Nat.le_of_ble_eq_true rfl⟩ rfl rfl (fun f H locs hX hI => ?_)
  refine lv_iconst (v := (-1)) C.x C.b dL_around_59 (by decide) ?_
  refine lv_icmp_ne (tgt := 67) C.x C.b dL_around_60 (by decide) (fun q9 => absurd (by decide) q9) (fun _ => ?_)
  refine lv_iconst (v := (nI 1)) C.x C.b dL_around_63 (by decide) ?_
  refine lv_goto (tgt := 68) C.x C.b dL_around_64 (by decide) ?_
  exact k_zret C hX hr hlocks hQ (Nat.le_of_ble_eq_true rfl) (Nat.le_of_ble_eq_true rfl) (Or.inr rfl) ⟨rfl, hI⟩ dL_around_68
set_option maxHeartbeats 16000000 in
set_option maxRecDepth 100000 in
theorem pL_around_0_3241_4 {l : Launch} (hst : l.stackTraces = false) {G : kG} {B0 h : Nat} {f : kH} {m : pSt} (hI : Inv G h f m) (e0 : c_around m (nI 0) (nI 0) = (0, nI 1, m)) (e1 : c_around m (nI 0) (nI 1) = (0, nI 4, m)) (e2 : c_around m (nI 0) (nI 2) = (0, nI 2, m)) (e3 : c_around m (nI 0) (nI 3) = (0, nI 3, m)) (e8 : c_around m (nI 0) (nI 4) = (0, -1, m)) (e9 : c_around m (nI 0) (nI 2147483647) = (0, -1, m)) : Met l yL_around wsP_around rmF (kP G B0 f [.ref h, .int (nI 0), .int (nI 3241), .int (nI 4)]) (kQi G B0 (fun r f1 => r = nI 1 ∧ Inv G h f1 m)) 80 640 (kAb B0) := by
  refine kMet (cc := cL_around) (maxL := 6) (ret := (some .boolean)) (by decide) rfl (Nat.le_of_ble_eq_true rfl) ?_
  intro p e s mi args below meth c H locs Q ls C hX hl hr hlocks hnm hQ
  have hl : lv_has ls 6 [(0, .ref h), (1, .int (nI 0)), (2, .int (nI 3241)), (3, .int (nI 4))] := hl
  refine lv_iload_n C.x C.b dL_around_0 rfl (lv_at hl 2 rfl) ?_
  refine lv_istore (lv' := [(4, .int (nI 3241)), (0, .ref h), (1, .int (nI 0)), (2, .int (nI 3241)), (3, .int (nI 4))]) C.x C.b dL_around_1 hl (by decide) rfl (fun ls hl => ?_)
  refine lv_iconst (v := (nI 0)) C.x C.b dL_around_3 (by decide) ?_
  refine lv_istore (lv' := [(5, .int (nI 0)), (4, .int (nI 3241)), (0, .ref h), (1, .int (nI 0)), (2, .int (nI 3241)), (3, .int (nI 4))]) C.x C.b dL_around_4 hl (by decide) rfl (fun ls hl => ?_)
  refine lv_iload C.x C.b dL_around_6 (lv_at hl 0 rfl) ?_
  refine lv_iload_n C.x C.b dL_around_8 rfl (lv_at hl 5 rfl) ?_
  refine lv_icmp_ge (tgt := 42) C.x C.b dL_around_9 (by decide) (fun q9 => absurd q9 (by decide)) (fun _ => ?_)
  refine lv_aload_n C.x C.b dL_around_12 rfl (lv_at hl 2 rfl) ?_
  refine lv_iload_n C.x C.b dL_around_13 rfl (lv_at hl 3 rfl) ?_
  refine lv_iload C.x C.b dL_around_14 (lv_at hl 0 rfl) ?_
  refine k_cI (As := [.int (nI 0), .int (nI 0)]) (rest := []) (c2 := 8) (s2 := 64) (v := (nI 1)) (m1 := m) C hX (iop_around hst hI (nI 0) (nI 0)) (e0) hI.hd (gl_up inv_X8_around) rfl ⟨rfl, hdA_X8_around⟩ (by decide) rfl hl.1 rfl (by decide) dL_around_16 ⟨Nat.le_of_ble_eq_true rfl, Nat.le_of_ble_eq_true rfl⟩ ⟨Nat.le_of_ble_eq_true rfl, Nat.le_of_ble_eq_true rfl⟩ rfl rfl (fun f H locs hX hI => ?_)
  refine lv_iload C.x C.b dL_around_19 (lv_at hl 1 rfl) ?_
  refine lv_bipush (v := (nI 10)) C.x C.b dL_around_21 (by decide) ?_
  refine lv_irem C.x C.b dL_around_23 (by decide) ?_
  refine k_topi (y := (nI 1)) (by decide) ?_
  refine lv_icmp_eq (tgt := 29) C.x C.b dL_around_24 (by decide) (fun _ => ?_) (fun q9 => absurd (by decide) q9)
  refine lv_iload C.x C.b dL_around_29 (lv_at hl 1 rfl) ?_
  refine lv_bipush (v := (nI 10)) C.x C.b dL_around_31 (by decide) ?_
  refine lv_idiv C.x C.b dL_around_33 (by decide) ?_
  refine k_topi (y := (nI 324)) (by decide) ?_
  refine lv_istore (lv' := [(4, .int (nI 324)), (5, .int (nI 0)), (0, .ref h), (1, .int (nI 0)), (2, .int (nI 3241)), (3, .int (nI 4))]) C.x C.b dL_around_34 hl (by decide) rfl (fun ls hl => ?_)
  refine lv_iinc (v := (nI 1)) (lv' := [(5, .int (nI 1)), (4, .int (nI 324)), (0, .ref h), (1, .int (nI 0)), (2, .int (nI 3241)), (3, .int (nI 4))]) C.x C.b dL_around_36 hl (k := 1) rfl (by decide) (by decide) rfl (fun ls hl => ?_)
  refine lv_goto (tgt := 6) C.x C.b dL_around_39 (by decide) ?_
  refine lv_iload C.x C.b dL_around_6 (lv_at hl 0 rfl) ?_
  refine lv_iload_n C.x C.b dL_around_8 rfl (lv_at hl 5 rfl) ?_
  refine lv_icmp_ge (tgt := 42) C.x C.b dL_around_9 (by decide) (fun q9 => absurd q9 (by decide)) (fun _ => ?_)
  refine lv_aload_n C.x C.b dL_around_12 rfl (lv_at hl 2 rfl) ?_
  refine lv_iload_n C.x C.b dL_around_13 rfl (lv_at hl 3 rfl) ?_
  refine lv_iload C.x C.b dL_around_14 (lv_at hl 0 rfl) ?_
  refine k_cI (As := [.int (nI 0), .int (nI 1)]) (rest := []) (c2 := 16) (s2 := 128) (v := (nI 4)) (m1 := m) C hX (iop_around hst hI (nI 0) (nI 1)) (e1) hI.hd (gl_up inv_X8_around) rfl ⟨rfl, hdA_X8_around⟩ (by decide) rfl hl.1 rfl (by decide) dL_around_16 ⟨Nat.le_of_ble_eq_true rfl, Nat.le_of_ble_eq_true rfl⟩ ⟨Nat.le_of_ble_eq_true rfl, Nat.le_of_ble_eq_true rfl⟩ rfl rfl (fun f H locs hX hI => ?_)
  refine lv_iload C.x C.b dL_around_19 (lv_at hl 1 rfl) ?_
  refine lv_bipush (v := (nI 10)) C.x C.b dL_around_21 (by decide) ?_
  refine lv_irem C.x C.b dL_around_23 (by decide) ?_
  refine k_topi (y := (nI 4)) (by decide) ?_
  refine lv_icmp_eq (tgt := 29) C.x C.b dL_around_24 (by decide) (fun _ => ?_) (fun q9 => absurd (by decide) q9)
  refine lv_iload C.x C.b dL_around_29 (lv_at hl 1 rfl) ?_
  refine lv_bipush (v := (nI 10)) C.x C.b dL_around_31 (by decide) ?_
  refine lv_idiv C.x C.b dL_around_33 (by decide) ?_
  refine k_topi (y := (nI 32)) (by decide) ?_
  refine lv_istore (lv' := [(4, .int (nI 32)), (5, .int (nI 1)), (0, .ref h), (1, .int (nI 0)), (2, .int (nI 3241)), (3, .int (nI 4))]) C.x C.b dL_around_34 hl (by decide) rfl (fun ls hl => ?_)
  refine lv_iinc (v := (nI 2)) (lv' := [(5, .int (nI 2)), (4, .int (nI 32)), (0, .ref h), (1, .int (nI 0)), (2, .int (nI 3241)), (3, .int (nI 4))]) C.x C.b dL_around_36 hl (k := 1) rfl (by decide) (by decide) rfl (fun ls hl => ?_)
  refine lv_goto (tgt := 6) C.x C.b dL_around_39 (by decide) ?_
  refine lv_iload C.x C.b dL_around_6 (lv_at hl 0 rfl) ?_
  refine lv_iload_n C.x C.b dL_around_8 rfl (lv_at hl 5 rfl) ?_
  refine lv_icmp_ge (tgt := 42) C.x C.b dL_around_9 (by decide) (fun q9 => absurd q9 (by decide)) (fun _ => ?_)
  refine lv_aload_n C.x C.b dL_around_12 rfl (lv_at hl 2 rfl) ?_
  refine lv_iload_n C.x C.b dL_around_13 rfl (lv_at hl 3 rfl) ?_
  refine lv_iload C.x C.b dL_around_14 (lv_at hl 0 rfl) ?_
  refine k_cI (As := [.int (nI 0), .int (nI 2)]) (rest := []) (c2 := 24) (s2 := 192) (v := (nI 2)) (m1 := m) C hX (iop_around hst hI (nI 0) (nI 2)) (e2) hI.hd (gl_up inv_X8_around) rfl ⟨rfl, hdA_X8_around⟩ (by decide) rfl hl.1 rfl (by decide) dL_around_16 ⟨Nat.le_of_ble_eq_true rfl, Nat.le_of_ble_eq_true rfl⟩ ⟨Nat.le_of_ble_eq_true rfl, Nat.le_of_ble_eq_true rfl⟩ rfl rfl (fun f H locs hX hI => ?_)
  refine lv_iload C.x C.b dL_around_19 (lv_at hl 1 rfl) ?_
  refine lv_bipush (v := (nI 10)) C.x C.b dL_around_21 (by decide) ?_
  refine lv_irem C.x C.b dL_around_23 (by decide) ?_
  refine k_topi (y := (nI 2)) (by decide) ?_
  refine lv_icmp_eq (tgt := 29) C.x C.b dL_around_24 (by decide) (fun _ => ?_) (fun q9 => absurd (by decide) q9)
  refine lv_iload C.x C.b dL_around_29 (lv_at hl 1 rfl) ?_
  refine lv_bipush (v := (nI 10)) C.x C.b dL_around_31 (by decide) ?_
  refine lv_idiv C.x C.b dL_around_33 (by decide) ?_
  refine k_topi (y := (nI 3)) (by decide) ?_
  refine lv_istore (lv' := [(4, .int (nI 3)), (5, .int (nI 2)), (0, .ref h), (1, .int (nI 0)), (2, .int (nI 3241)), (3, .int (nI 4))]) C.x C.b dL_around_34 hl (by decide) rfl (fun ls hl => ?_)
  refine lv_iinc (v := (nI 3)) (lv' := [(5, .int (nI 3)), (4, .int (nI 3)), (0, .ref h), (1, .int (nI 0)), (2, .int (nI 3241)), (3, .int (nI 4))]) C.x C.b dL_around_36 hl (k := 1) rfl (by decide) (by decide) rfl (fun ls hl => ?_)
  refine lv_goto (tgt := 6) C.x C.b dL_around_39 (by decide) ?_
  refine lv_iload C.x C.b dL_around_6 (lv_at hl 0 rfl) ?_
  refine lv_iload_n C.x C.b dL_around_8 rfl (lv_at hl 5 rfl) ?_
  refine lv_icmp_ge (tgt := 42) C.x C.b dL_around_9 (by decide) (fun q9 => absurd q9 (by decide)) (fun _ => ?_)
  refine lv_aload_n C.x C.b dL_around_12 rfl (lv_at hl 2 rfl) ?_
  refine lv_iload_n C.x C.b dL_around_13 rfl (lv_at hl 3 rfl) ?_
  refine lv_iload C.x C.b dL_around_14 (lv_at hl 0 rfl) ?_
  refine k_cI (As := [.int (nI 0), .int (nI 3)]) (rest := []) (c2 := 32) (s2 := 256) (v := (nI 3)) (m1 := m) C hX (iop_around hst hI (nI 0) (nI 3)) (e3) hI.hd (gl_up inv_X8_around) rfl ⟨rfl, hdA_X8_around⟩ (by decide) rfl hl.1 rfl (by decide) dL_around_16 ⟨Nat.le_of_ble_eq_true rfl, Nat.le_of_ble_eq_true rfl⟩ ⟨Nat.le_of_ble_eq_true rfl, Nat.le_of_ble_eq_true rfl⟩ rfl rfl (fun f H locs hX hI => ?_)
  refine lv_iload C.x C.b dL_around_19 (lv_at hl 1 rfl) ?_
  refine lv_bipush (v := (nI 10)) C.x C.b dL_around_21 (by decide) ?_
  refine lv_irem C.x C.b dL_around_23 (by decide) ?_
  refine k_topi (y := (nI 3)) (by decide) ?_
  refine lv_icmp_eq (tgt := 29) C.x C.b dL_around_24 (by decide) (fun _ => ?_) (fun q9 => absurd (by decide) q9)
  refine lv_iload C.x C.b dL_around_29 (lv_at hl 1 rfl) ?_
  refine lv_bipush (v := (nI 10)) C.x C.b dL_around_31 (by decide) ?_
  refine lv_idiv C.x C.b dL_around_33 (by decide) ?_
  refine k_topi (y := (nI 0)) (by decide) ?_
  refine lv_istore (lv' := [(4, .int (nI 0)), (5, .int (nI 3)), (0, .ref h), (1, .int (nI 0)), (2, .int (nI 3241)), (3, .int (nI 4))]) C.x C.b dL_around_34 hl (by decide) rfl (fun ls hl => ?_)
  refine lv_iinc (v := (nI 4)) (lv' := [(5, .int (nI 4)), (4, .int (nI 0)), (0, .ref h), (1, .int (nI 0)), (2, .int (nI 3241)), (3, .int (nI 4))]) C.x C.b dL_around_36 hl (k := 1) rfl (by decide) (by decide) rfl (fun ls hl => ?_)
  refine lv_goto (tgt := 6) C.x C.b dL_around_39 (by decide) ?_
  refine lv_iload C.x C.b dL_around_6 (lv_at hl 0 rfl) ?_
  refine lv_iload_n C.x C.b dL_around_8 rfl (lv_at hl 5 rfl) ?_
  refine lv_icmp_ge (tgt := 42) C.x C.b dL_around_9 (by decide) (fun _ => ?_) (fun q9 => absurd (by decide) q9)
  refine lv_aload_n C.x C.b dL_around_42 rfl (lv_at hl 2 rfl) ?_
  refine lv_iload_n C.x C.b dL_around_43 rfl (lv_at hl 3 rfl) ?_
  refine lv_iload_n C.x C.b dL_around_44 rfl (lv_at hl 5 rfl) ?_
  refine k_cI (As := [.int (nI 0), .int (nI 4)]) (rest := []) (c2 := 40) (s2 := 320) (v := (-1)) (m1 := m) C hX (iop_around hst hI (nI 0) (nI 4)) (e8) hI.hd (gl_up inv_X8_around) rfl ⟨rfl, hdA_X8_around⟩ (by decide) rfl hl.1 rfl (by decide) dL_around_45 ⟨Nat.le_of_ble_eq_true rfl, Nat.le_of_ble_eq_true rfl⟩ ⟨Nat.le_of_ble_eq_true rfl, Nat.le_of_ble_eq_true rfl⟩ rfl rfl (fun f H locs hX hI => ?_)
  refine lv_iconst (v := (-1)) C.x C.b dL_around_48 (by decide) ?_
  refine lv_icmp_ne (tgt := 67) C.x C.b dL_around_49 (by decide) (fun q9 => absurd (by decide) q9) (fun _ => ?_)
  refine lv_aload_n C.x C.b dL_around_52 rfl (lv_at hl 2 rfl) ?_
  refine lv_iload_n C.x C.b dL_around_53 rfl (lv_at hl 3 rfl) ?_
  refine lv_ldc (v := (nI 2147483647)) C.x C.b C.ow (C.ts _ (List.mem_cons_of_mem _ lkC_106)) dL_around_54 ?_
  refine k_cI (As := [.int (nI 0), .int (nI 2147483647)]) (rest := []) (c2 := 48) (s2 := 384) (v := (-1)) (m1 := m) C hX (iop_around hst hI (nI 0) (nI 2147483647)) (e9) hI.hd (gl_up inv_X8_around) rfl ⟨rfl, hdA_X8_around⟩ (by decide) rfl hl.1 rfl (by decide) dL_around_56 ⟨Nat.le_of_ble_eq_true rfl, Nat.le_of_ble_eq_true rfl⟩ ⟨Nat.le_of_ble_eq_true rfl, Nat.le_of_ble_eq_true rfl⟩ rfl rfl (fun f H locs hX hI => ?_)
  refine lv_iconst (v := (-1)) C.x C.b dL_around_59 (by decide) ?_
  refine lv_icmp_ne (tgt := 67) C.x C.b dL_around_60 (by decide) (fun q9 => absurd (by decide) q9) (fun _ => ?_)
  refine lv_iconst (v := (nI 1)) C.x C.b dL_around_63 (by decide) ?_
  refine lv_goto (tgt := 68) C.x C.b dL_around_64 (by decide) ?_
  exact k_zret C hX hr hlocks hQ (Nat.le_of_ble_eq_true rfl) (Nat.le_of_ble_eq_true rfl) (Or.inr rfl) ⟨rfl, hI⟩ dL_around_68
set_option maxHeartbeats 16000000 in
set_option maxRecDepth 100000 in
theorem pL_around_4_210_3 {l : Launch} (hst : l.stackTraces = false) {G : kG} {B0 h : Nat} {f : kH} {m : pSt} (hI : Inv G h f m) (e0 : c_around m (nI 4) (nI 0) = (0, nI 0, m)) (e1 : c_around m (nI 4) (nI 1) = (0, nI 1, m)) (e2 : c_around m (nI 4) (nI 2) = (0, nI 2, m)) (e8 : c_around m (nI 4) (nI 3) = (0, -1, m)) (e9 : c_around m (nI 4) (nI 2147483647) = (0, -1, m)) : Met l yL_around wsP_around rmF (kP G B0 f [.ref h, .int (nI 4), .int (nI 210), .int (nI 3)]) (kQi G B0 (fun r f1 => r = nI 1 ∧ Inv G h f1 m)) 80 640 (kAb B0) := by
  refine kMet (cc := cL_around) (maxL := 6) (ret := (some .boolean)) (by decide) rfl (Nat.le_of_ble_eq_true rfl) ?_
  intro p e s mi args below meth c H locs Q ls C hX hl hr hlocks hnm hQ
  have hl : lv_has ls 6 [(0, .ref h), (1, .int (nI 4)), (2, .int (nI 210)), (3, .int (nI 3))] := hl
  refine lv_iload_n C.x C.b dL_around_0 rfl (lv_at hl 2 rfl) ?_
  refine lv_istore (lv' := [(4, .int (nI 210)), (0, .ref h), (1, .int (nI 4)), (2, .int (nI 210)), (3, .int (nI 3))]) C.x C.b dL_around_1 hl (by decide) rfl (fun ls hl => ?_)
  refine lv_iconst (v := (nI 0)) C.x C.b dL_around_3 (by decide) ?_
  refine lv_istore (lv' := [(5, .int (nI 0)), (4, .int (nI 210)), (0, .ref h), (1, .int (nI 4)), (2, .int (nI 210)), (3, .int (nI 3))]) C.x C.b dL_around_4 hl (by decide) rfl (fun ls hl => ?_)
  refine lv_iload C.x C.b dL_around_6 (lv_at hl 0 rfl) ?_
  refine lv_iload_n C.x C.b dL_around_8 rfl (lv_at hl 5 rfl) ?_
  refine lv_icmp_ge (tgt := 42) C.x C.b dL_around_9 (by decide) (fun q9 => absurd q9 (by decide)) (fun _ => ?_)
  refine lv_aload_n C.x C.b dL_around_12 rfl (lv_at hl 2 rfl) ?_
  refine lv_iload_n C.x C.b dL_around_13 rfl (lv_at hl 3 rfl) ?_
  refine lv_iload C.x C.b dL_around_14 (lv_at hl 0 rfl) ?_
  refine k_cI (As := [.int (nI 4), .int (nI 0)]) (rest := []) (c2 := 8) (s2 := 64) (v := (nI 0)) (m1 := m) C hX (iop_around hst hI (nI 4) (nI 0)) (e0) hI.hd (gl_up inv_X8_around) rfl ⟨rfl, hdA_X8_around⟩ (by decide) rfl hl.1 rfl (by decide) dL_around_16 ⟨Nat.le_of_ble_eq_true rfl, Nat.le_of_ble_eq_true rfl⟩ ⟨Nat.le_of_ble_eq_true rfl, Nat.le_of_ble_eq_true rfl⟩ rfl rfl (fun f H locs hX hI => ?_)
  refine lv_iload C.x C.b dL_around_19 (lv_at hl 1 rfl) ?_
  refine lv_bipush (v := (nI 10)) C.x C.b dL_around_21 (by decide) ?_
  refine lv_irem C.x C.b dL_around_23 (by decide) ?_
  refine k_topi (y := (nI 0)) (by decide) ?_
  refine lv_icmp_eq (tgt := 29) C.x C.b dL_around_24 (by decide) (fun _ => ?_) (fun q9 => absurd (by decide) q9)
  refine lv_iload C.x C.b dL_around_29 (lv_at hl 1 rfl) ?_
  refine lv_bipush (v := (nI 10)) C.x C.b dL_around_31 (by decide) ?_
  refine lv_idiv C.x C.b dL_around_33 (by decide) ?_
  refine k_topi (y := (nI 21)) (by decide) ?_
  refine lv_istore (lv' := [(4, .int (nI 21)), (5, .int (nI 0)), (0, .ref h), (1, .int (nI 4)), (2, .int (nI 210)), (3, .int (nI 3))]) C.x C.b dL_around_34 hl (by decide) rfl (fun ls hl => ?_)
  refine lv_iinc (v := (nI 1)) (lv' := [(5, .int (nI 1)), (4, .int (nI 21)), (0, .ref h), (1, .int (nI 4)), (2, .int (nI 210)), (3, .int (nI 3))]) C.x C.b dL_around_36 hl (k := 1) rfl (by decide) (by decide) rfl (fun ls hl => ?_)
  refine lv_goto (tgt := 6) C.x C.b dL_around_39 (by decide) ?_
  refine lv_iload C.x C.b dL_around_6 (lv_at hl 0 rfl) ?_
  refine lv_iload_n C.x C.b dL_around_8 rfl (lv_at hl 5 rfl) ?_
  refine lv_icmp_ge (tgt := 42) C.x C.b dL_around_9 (by decide) (fun q9 => absurd q9 (by decide)) (fun _ => ?_)
  refine lv_aload_n C.x C.b dL_around_12 rfl (lv_at hl 2 rfl) ?_
  refine lv_iload_n C.x C.b dL_around_13 rfl (lv_at hl 3 rfl) ?_
  refine lv_iload C.x C.b dL_around_14 (lv_at hl 0 rfl) ?_
  refine k_cI (As := [.int (nI 4), .int (nI 1)]) (rest := []) (c2 := 16) (s2 := 128) (v := (nI 1)) (m1 := m) C hX (iop_around hst hI (nI 4) (nI 1)) (e1) hI.hd (gl_up inv_X8_around) rfl ⟨rfl, hdA_X8_around⟩ (by decide) rfl hl.1 rfl (by decide) dL_around_16 ⟨Nat.le_of_ble_eq_true rfl, Nat.le_of_ble_eq_true rfl⟩ ⟨Nat.le_of_ble_eq_true rfl, Nat.le_of_ble_eq_true rfl⟩ rfl rfl (fun f H locs hX hI => ?_)
  refine lv_iload C.x C.b dL_around_19 (lv_at hl 1 rfl) ?_
  refine lv_bipush (v := (nI 10)) C.x C.b dL_around_21 (by decide) ?_
  refine lv_irem C.x C.b dL_around_23 (by decide) ?_
  refine k_topi (y := (nI 1)) (by decide) ?_
  refine lv_icmp_eq (tgt := 29) C.x C.b dL_around_24 (by decide) (fun _ => ?_) (fun q9 => absurd (by decide) q9)
  refine lv_iload C.x C.b dL_around_29 (lv_at hl 1 rfl) ?_
  refine lv_bipush (v := (nI 10)) C.x C.b dL_around_31 (by decide) ?_
  refine lv_idiv C.x C.b dL_around_33 (by decide) ?_
  refine k_topi (y := (nI 2)) (by decide) ?_
  refine lv_istore (lv' := [(4, .int (nI 2)), (5, .int (nI 1)), (0, .ref h), (1, .int (nI 4)), (2, .int (nI 210)), (3, .int (nI 3))]) C.x C.b dL_around_34 hl (by decide) rfl (fun ls hl => ?_)
  refine lv_iinc (v := (nI 2)) (lv' := [(5, .int (nI 2)), (4, .int (nI 2)), (0, .ref h), (1, .int (nI 4)), (2, .int (nI 210)), (3, .int (nI 3))]) C.x C.b dL_around_36 hl (k := 1) rfl (by decide) (by decide) rfl (fun ls hl => ?_)
  refine lv_goto (tgt := 6) C.x C.b dL_around_39 (by decide) ?_
  refine lv_iload C.x C.b dL_around_6 (lv_at hl 0 rfl) ?_
  refine lv_iload_n C.x C.b dL_around_8 rfl (lv_at hl 5 rfl) ?_
  refine lv_icmp_ge (tgt := 42) C.x C.b dL_around_9 (by decide) (fun q9 => absurd q9 (by decide)) (fun _ => ?_)
  refine lv_aload_n C.x C.b dL_around_12 rfl (lv_at hl 2 rfl) ?_
  refine lv_iload_n C.x C.b dL_around_13 rfl (lv_at hl 3 rfl) ?_
  refine lv_iload C.x C.b dL_around_14 (lv_at hl 0 rfl) ?_
  refine k_cI (As := [.int (nI 4), .int (nI 2)]) (rest := []) (c2 := 24) (s2 := 192) (v := (nI 2)) (m1 := m) C hX (iop_around hst hI (nI 4) (nI 2)) (e2) hI.hd (gl_up inv_X8_around) rfl ⟨rfl, hdA_X8_around⟩ (by decide) rfl hl.1 rfl (by decide) dL_around_16 ⟨Nat.le_of_ble_eq_true rfl, Nat.le_of_ble_eq_true rfl⟩ ⟨Nat.le_of_ble_eq_true rfl, Nat.le_of_ble_eq_true rfl⟩ rfl rfl (fun f H locs hX hI => ?_)
  refine lv_iload C.x C.b dL_around_19 (lv_at hl 1 rfl) ?_
  refine lv_bipush (v := (nI 10)) C.x C.b dL_around_21 (by decide) ?_
  refine lv_irem C.x C.b dL_around_23 (by decide) ?_
  refine k_topi (y := (nI 2)) (by decide) ?_
  refine lv_icmp_eq (tgt := 29) C.x C.b dL_around_24 (by decide) (fun _ => ?_) (fun q9 => absurd (by decide) q9)
  refine lv_iload C.x C.b dL_around_29 (lv_at hl 1 rfl) ?_
  refine lv_bipush (v := (nI 10)) C.x C.b dL_around_31 (by decide) ?_
  refine lv_idiv C.x C.b dL_around_33 (by decide) ?_
  refine k_topi (y := (nI 0)) (by decide) ?_
  refine lv_istore (lv' := [(4, .int (nI 0)), (5, .int (nI 2)), (0, .ref h), (1, .int (nI 4)), (2, .int (nI 210)), (3, .int (nI 3))]) C.x C.b dL_around_34 hl (by decide) rfl (fun ls hl => ?_)
  refine lv_iinc (v := (nI 3)) (lv' := [(5, .int (nI 3)), (4, .int (nI 0)), (0, .ref h), (1, .int (nI 4)), (2, .int (nI 210)), (3, .int (nI 3))]) C.x C.b dL_around_36 hl (k := 1) rfl (by decide) (by decide) rfl (fun ls hl => ?_)
  refine lv_goto (tgt := 6) C.x C.b dL_around_39 (by decide) ?_
  refine lv_iload C.x C.b dL_around_6 (lv_at hl 0 rfl) ?_
  refine lv_iload_n C.x C.b dL_around_8 rfl (lv_at hl 5 rfl) ?_
  refine lv_icmp_ge (tgt := 42) C.x C.b dL_around_9 (by decide) (fun _ => ?_) (fun q9 => absurd (by decide) q9)
  refine lv_aload_n C.x C.b dL_around_42 rfl (lv_at hl 2 rfl) ?_
  refine lv_iload_n C.x C.b dL_around_43 rfl (lv_at hl 3 rfl) ?_
  refine lv_iload_n C.x C.b dL_around_44 rfl (lv_at hl 5 rfl) ?_
  refine k_cI (As := [.int (nI 4), .int (nI 3)]) (rest := []) (c2 := 32) (s2 := 256) (v := (-1)) (m1 := m) C hX (iop_around hst hI (nI 4) (nI 3)) (e8) hI.hd (gl_up inv_X8_around) rfl ⟨rfl, hdA_X8_around⟩ (by decide) rfl hl.1 rfl (by decide) dL_around_45 ⟨Nat.le_of_ble_eq_true rfl, Nat.le_of_ble_eq_true rfl⟩ ⟨Nat.le_of_ble_eq_true rfl, Nat.le_of_ble_eq_true rfl⟩ rfl rfl (fun f H locs hX hI => ?_)
  refine lv_iconst (v := (-1)) C.x C.b dL_around_48 (by decide) ?_
  refine lv_icmp_ne (tgt := 67) C.x C.b dL_around_49 (by decide) (fun q9 => absurd (by decide) q9) (fun _ => ?_)
  refine lv_aload_n C.x C.b dL_around_52 rfl (lv_at hl 2 rfl) ?_
  refine lv_iload_n C.x C.b dL_around_53 rfl (lv_at hl 3 rfl) ?_
  refine lv_ldc (v := (nI 2147483647)) C.x C.b C.ow (C.ts _ (List.mem_cons_of_mem _ lkC_106)) dL_around_54 ?_
  refine k_cI (As := [.int (nI 4), .int (nI 2147483647)]) (rest := []) (c2 := 40) (s2 := 320) (v := (-1)) (m1 := m) C hX (iop_around hst hI (nI 4) (nI 2147483647)) (e9) hI.hd (gl_up inv_X8_around) rfl ⟨rfl, hdA_X8_around⟩ (by decide) rfl hl.1 rfl (by decide) dL_around_56 ⟨Nat.le_of_ble_eq_true rfl, Nat.le_of_ble_eq_true rfl⟩ ⟨Nat.le_of_ble_eq_true rfl, Nat.le_of_ble_eq_true rfl⟩ rfl rfl (fun f H locs hX hI => ?_)
  refine lv_iconst (v := (-1)) C.x C.b dL_around_59 (by decide) ?_
  refine lv_icmp_ne (tgt := 67) C.x C.b dL_around_60 (by decide) (fun q9 => absurd (by decide) q9) (fun _ => ?_)
  refine lv_iconst (v := (nI 1)) C.x C.b dL_around_63 (by decide) ?_
  refine lv_goto (tgt := 68) C.x C.b dL_around_64 (by decide) ?_
  exact k_zret C hX hr hlocks hQ (Nat.le_of_ble_eq_true rfl) (Nat.le_of_ble_eq_true rfl) (Or.inr rfl) ⟨rfl, hI⟩ dL_around_68
set_option maxHeartbeats 16000000 in
set_option maxRecDepth 100000 in
theorem pL_around_0_432_3 {l : Launch} (hst : l.stackTraces = false) {G : kG} {B0 h : Nat} {f : kH} {m : pSt} (hI : Inv G h f m) (e0 : c_around m (nI 0) (nI 0) = (0, nI 2, m)) (e1 : c_around m (nI 0) (nI 1) = (0, nI 3, m)) (e2 : c_around m (nI 0) (nI 2) = (0, nI 4, m)) (e8 : c_around m (nI 0) (nI 3) = (0, -1, m)) (e9 : c_around m (nI 0) (nI 2147483647) = (0, -1, m)) : Met l yL_around wsP_around rmF (kP G B0 f [.ref h, .int (nI 0), .int (nI 432), .int (nI 3)]) (kQi G B0 (fun r f1 => r = nI 1 ∧ Inv G h f1 m)) 80 640 (kAb B0) := by
  refine kMet (cc := cL_around) (maxL := 6) (ret := (some .boolean)) (by decide) rfl (Nat.le_of_ble_eq_true rfl) ?_
  intro p e s mi args below meth c H locs Q ls C hX hl hr hlocks hnm hQ
  have hl : lv_has ls 6 [(0, .ref h), (1, .int (nI 0)), (2, .int (nI 432)), (3, .int (nI 3))] := hl
  refine lv_iload_n C.x C.b dL_around_0 rfl (lv_at hl 2 rfl) ?_
  refine lv_istore (lv' := [(4, .int (nI 432)), (0, .ref h), (1, .int (nI 0)), (2, .int (nI 432)), (3, .int (nI 3))]) C.x C.b dL_around_1 hl (by decide) rfl (fun ls hl => ?_)
  refine lv_iconst (v := (nI 0)) C.x C.b dL_around_3 (by decide) ?_
  refine lv_istore (lv' := [(5, .int (nI 0)), (4, .int (nI 432)), (0, .ref h), (1, .int (nI 0)), (2, .int (nI 432)), (3, .int (nI 3))]) C.x C.b dL_around_4 hl (by decide) rfl (fun ls hl => ?_)
  refine lv_iload C.x C.b dL_around_6 (lv_at hl 0 rfl) ?_
  refine lv_iload_n C.x C.b dL_around_8 rfl (lv_at hl 5 rfl) ?_
  refine lv_icmp_ge (tgt := 42) C.x C.b dL_around_9 (by decide) (fun q9 => absurd q9 (by decide)) (fun _ => ?_)
  refine lv_aload_n C.x C.b dL_around_12 rfl (lv_at hl 2 rfl) ?_
  refine lv_iload_n C.x C.b dL_around_13 rfl (lv_at hl 3 rfl) ?_
  refine lv_iload C.x C.b dL_around_14 (lv_at hl 0 rfl) ?_
  refine k_cI (As := [.int (nI 0), .int (nI 0)]) (rest := []) (c2 := 8) (s2 := 64) (v := (nI 2)) (m1 := m) C hX (iop_around hst hI (nI 0) (nI 0)) (e0) hI.hd (gl_up inv_X8_around) rfl ⟨rfl, hdA_X8_around⟩ (by decide) rfl hl.1 rfl (by decide) dL_around_16 ⟨Nat.le_of_ble_eq_true rfl, Nat.le_of_ble_eq_true rfl⟩ ⟨Nat.le_of_ble_eq_true rfl, Nat.le_of_ble_eq_true rfl⟩ rfl rfl (fun f H locs hX hI => ?_)
  refine lv_iload C.x C.b dL_around_19 (lv_at hl 1 rfl) ?_
  refine lv_bipush (v := (nI 10)) C.x C.b dL_around_21 (by decide) ?_
  refine lv_irem C.x C.b dL_around_23 (by decide) ?_
  refine k_topi (y := (nI 2)) (by decide) ?_
  refine lv_icmp_eq (tgt := 29) C.x C.b dL_around_24 (by decide) (fun _ => ?_) (fun q9 => absurd (by decide) q9)
  refine lv_iload C.x C.b dL_around_29 (lv_at hl 1 rfl) ?_
  refine lv_bipush (v := (nI 10)) C.x C.b dL_around_31 (by decide) ?_
  refine lv_idiv C.x C.b dL_around_33 (by decide) ?_
  refine k_topi (y := (nI 43)) (by decide) ?_
  refine lv_istore (lv' := [(4, .int (nI 43)), (5, .int (nI 0)), (0, .ref h), (1, .int (nI 0)), (2, .int (nI 432)), (3, .int (nI 3))]) C.x C.b dL_around_34 hl (by decide) rfl (fun ls hl => ?_)
  refine lv_iinc (v := (nI 1)) (lv' := [(5, .int (nI 1)), (4, .int (nI 43)), (0, .ref h), (1, .int (nI 0)), (2, .int (nI 432)), (3, .int (nI 3))]) C.x C.b dL_around_36 hl (k := 1) rfl (by decide) (by decide) rfl (fun ls hl => ?_)
  refine lv_goto (tgt := 6) C.x C.b dL_around_39 (by decide) ?_
  refine lv_iload C.x C.b dL_around_6 (lv_at hl 0 rfl) ?_
  refine lv_iload_n C.x C.b dL_around_8 rfl (lv_at hl 5 rfl) ?_
  refine lv_icmp_ge (tgt := 42) C.x C.b dL_around_9 (by decide) (fun q9 => absurd q9 (by decide)) (fun _ => ?_)
  refine lv_aload_n C.x C.b dL_around_12 rfl (lv_at hl 2 rfl) ?_
  refine lv_iload_n C.x C.b dL_around_13 rfl (lv_at hl 3 rfl) ?_
  refine lv_iload C.x C.b dL_around_14 (lv_at hl 0 rfl) ?_
  refine k_cI (As := [.int (nI 0), .int (nI 1)]) (rest := []) (c2 := 16) (s2 := 128) (v := (nI 3)) (m1 := m) C hX (iop_around hst hI (nI 0) (nI 1)) (e1) hI.hd (gl_up inv_X8_around) rfl ⟨rfl, hdA_X8_around⟩ (by decide) rfl hl.1 rfl (by decide) dL_around_16 ⟨Nat.le_of_ble_eq_true rfl, Nat.le_of_ble_eq_true rfl⟩ ⟨Nat.le_of_ble_eq_true rfl, Nat.le_of_ble_eq_true rfl⟩ rfl rfl (fun f H locs hX hI => ?_)
  refine lv_iload C.x C.b dL_around_19 (lv_at hl 1 rfl) ?_
  refine lv_bipush (v := (nI 10)) C.x C.b dL_around_21 (by decide) ?_
  refine lv_irem C.x C.b dL_around_23 (by decide) ?_
  refine k_topi (y := (nI 3)) (by decide) ?_
  refine lv_icmp_eq (tgt := 29) C.x C.b dL_around_24 (by decide) (fun _ => ?_) (fun q9 => absurd (by decide) q9)
  refine lv_iload C.x C.b dL_around_29 (lv_at hl 1 rfl) ?_
  refine lv_bipush (v := (nI 10)) C.x C.b dL_around_31 (by decide) ?_
  refine lv_idiv C.x C.b dL_around_33 (by decide) ?_
  refine k_topi (y := (nI 4)) (by decide) ?_
  refine lv_istore (lv' := [(4, .int (nI 4)), (5, .int (nI 1)), (0, .ref h), (1, .int (nI 0)), (2, .int (nI 432)), (3, .int (nI 3))]) C.x C.b dL_around_34 hl (by decide) rfl (fun ls hl => ?_)
  refine lv_iinc (v := (nI 2)) (lv' := [(5, .int (nI 2)), (4, .int (nI 4)), (0, .ref h), (1, .int (nI 0)), (2, .int (nI 432)), (3, .int (nI 3))]) C.x C.b dL_around_36 hl (k := 1) rfl (by decide) (by decide) rfl (fun ls hl => ?_)
  refine lv_goto (tgt := 6) C.x C.b dL_around_39 (by decide) ?_
  refine lv_iload C.x C.b dL_around_6 (lv_at hl 0 rfl) ?_
  refine lv_iload_n C.x C.b dL_around_8 rfl (lv_at hl 5 rfl) ?_
  refine lv_icmp_ge (tgt := 42) C.x C.b dL_around_9 (by decide) (fun q9 => absurd q9 (by decide)) (fun _ => ?_)
  refine lv_aload_n C.x C.b dL_around_12 rfl (lv_at hl 2 rfl) ?_
  refine lv_iload_n C.x C.b dL_around_13 rfl (lv_at hl 3 rfl) ?_
  refine lv_iload C.x C.b dL_around_14 (lv_at hl 0 rfl) ?_
  refine k_cI (As := [.int (nI 0), .int (nI 2)]) (rest := []) (c2 := 24) (s2 := 192) (v := (nI 4)) (m1 := m) C hX (iop_around hst hI (nI 0) (nI 2)) (e2) hI.hd (gl_up inv_X8_around) rfl ⟨rfl, hdA_X8_around⟩ (by decide) rfl hl.1 rfl (by decide) dL_around_16 ⟨Nat.le_of_ble_eq_true rfl, Nat.le_of_ble_eq_true rfl⟩ ⟨Nat.le_of_ble_eq_true rfl, Nat.le_of_ble_eq_true rfl⟩ rfl rfl (fun f H locs hX hI => ?_)
  refine lv_iload C.x C.b dL_around_19 (lv_at hl 1 rfl) ?_
  refine lv_bipush (v := (nI 10)) C.x C.b dL_around_21 (by decide) ?_
  refine lv_irem C.x C.b dL_around_23 (by decide) ?_
  refine k_topi (y := (nI 4)) (by decide) ?_
  refine lv_icmp_eq (tgt := 29) C.x C.b dL_around_24 (by decide) (fun _ => ?_) (fun q9 => absurd (by decide) q9)
  refine lv_iload C.x C.b dL_around_29 (lv_at hl 1 rfl) ?_
  refine lv_bipush (v := (nI 10)) C.x C.b dL_around_31 (by decide) ?_
  refine lv_idiv C.x C.b dL_around_33 (by decide) ?_
  refine k_topi (y := (nI 0)) (by decide) ?_
  refine lv_istore (lv' := [(4, .int (nI 0)), (5, .int (nI 2)), (0, .ref h), (1, .int (nI 0)), (2, .int (nI 432)), (3, .int (nI 3))]) C.x C.b dL_around_34 hl (by decide) rfl (fun ls hl => ?_)
  refine lv_iinc (v := (nI 3)) (lv' := [(5, .int (nI 3)), (4, .int (nI 0)), (0, .ref h), (1, .int (nI 0)), (2, .int (nI 432)), (3, .int (nI 3))]) C.x C.b dL_around_36 hl (k := 1) rfl (by decide) (by decide) rfl (fun ls hl => ?_)
  refine lv_goto (tgt := 6) C.x C.b dL_around_39 (by decide) ?_
  refine lv_iload C.x C.b dL_around_6 (lv_at hl 0 rfl) ?_
  refine lv_iload_n C.x C.b dL_around_8 rfl (lv_at hl 5 rfl) ?_
  refine lv_icmp_ge (tgt := 42) C.x C.b dL_around_9 (by decide) (fun _ => ?_) (fun q9 => absurd (by decide) q9)
  refine lv_aload_n C.x C.b dL_around_42 rfl (lv_at hl 2 rfl) ?_
  refine lv_iload_n C.x C.b dL_around_43 rfl (lv_at hl 3 rfl) ?_
  refine lv_iload_n C.x C.b dL_around_44 rfl (lv_at hl 5 rfl) ?_
  refine k_cI (As := [.int (nI 0), .int (nI 3)]) (rest := []) (c2 := 32) (s2 := 256) (v := (-1)) (m1 := m) C hX (iop_around hst hI (nI 0) (nI 3)) (e8) hI.hd (gl_up inv_X8_around) rfl ⟨rfl, hdA_X8_around⟩ (by decide) rfl hl.1 rfl (by decide) dL_around_45 ⟨Nat.le_of_ble_eq_true rfl, Nat.le_of_ble_eq_true rfl⟩ ⟨Nat.le_of_ble_eq_true rfl, Nat.le_of_ble_eq_true rfl⟩ rfl rfl (fun f H locs hX hI => ?_)
  refine lv_iconst (v := (-1)) C.x C.b dL_around_48 (by decide) ?_
  refine lv_icmp_ne (tgt := 67) C.x C.b dL_around_49 (by decide) (fun q9 => absurd (by decide) q9) (fun _ => ?_)
  refine lv_aload_n C.x C.b dL_around_52 rfl (lv_at hl 2 rfl) ?_
  refine lv_iload_n C.x C.b dL_around_53 rfl (lv_at hl 3 rfl) ?_
  refine lv_ldc (v := (nI 2147483647)) C.x C.b C.ow (C.ts _ (List.mem_cons_of_mem _ lkC_106)) dL_around_54 ?_
  refine k_cI (As := [.int (nI 0), .int (nI 2147483647)]) (rest := []) (c2 := 40) (s2 := 320) (v := (-1)) (m1 := m) C hX (iop_around hst hI (nI 0) (nI 2147483647)) (e9) hI.hd (gl_up inv_X8_around) rfl ⟨rfl, hdA_X8_around⟩ (by decide) rfl hl.1 rfl (by decide) dL_around_56 ⟨Nat.le_of_ble_eq_true rfl, Nat.le_of_ble_eq_true rfl⟩ ⟨Nat.le_of_ble_eq_true rfl, Nat.le_of_ble_eq_true rfl⟩ rfl rfl (fun f H locs hX hI => ?_)
  refine lv_iconst (v := (-1)) C.x C.b dL_around_59 (by decide) ?_
  refine lv_icmp_ne (tgt := 67) C.x C.b dL_around_60 (by decide) (fun q9 => absurd (by decide) q9) (fun _ => ?_)
  refine lv_iconst (v := (nI 1)) C.x C.b dL_around_63 (by decide) ?_
  refine lv_goto (tgt := 68) C.x C.b dL_around_64 (by decide) ?_
  exact k_zret C hX hr hlocks hQ (Nat.le_of_ble_eq_true rfl) (Nat.le_of_ble_eq_true rfl) (Or.inr rfl) ⟨rfl, hI⟩ dL_around_68
set_option maxHeartbeats 16000000 in
set_option maxRecDepth 100000 in
theorem pL_around_3_4120_4 {l : Launch} (hst : l.stackTraces = false) {G : kG} {B0 h : Nat} {f : kH} {m : pSt} (hI : Inv G h f m) (e0 : c_around m (nI 3) (nI 0) = (0, nI 0, m)) (e1 : c_around m (nI 3) (nI 1) = (0, nI 2, m)) (e2 : c_around m (nI 3) (nI 2) = (0, nI 1, m)) (e3 : c_around m (nI 3) (nI 3) = (0, nI 4, m)) (e8 : c_around m (nI 3) (nI 4) = (0, -1, m)) (e9 : c_around m (nI 3) (nI 2147483647) = (0, -1, m)) : Met l yL_around wsP_around rmF (kP G B0 f [.ref h, .int (nI 3), .int (nI 4120), .int (nI 4)]) (kQi G B0 (fun r f1 => r = nI 1 ∧ Inv G h f1 m)) 80 640 (kAb B0) := by
  refine kMet (cc := cL_around) (maxL := 6) (ret := (some .boolean)) (by decide) rfl (Nat.le_of_ble_eq_true rfl) ?_
  intro p e s mi args below meth c H locs Q ls C hX hl hr hlocks hnm hQ
  have hl : lv_has ls 6 [(0, .ref h), (1, .int (nI 3)), (2, .int (nI 4120)), (3, .int (nI 4))] := hl
  refine lv_iload_n C.x C.b dL_around_0 rfl (lv_at hl 2 rfl) ?_
  refine lv_istore (lv' := [(4, .int (nI 4120)), (0, .ref h), (1, .int (nI 3)), (2, .int (nI 4120)), (3, .int (nI 4))]) C.x C.b dL_around_1 hl (by decide) rfl (fun ls hl => ?_)
  refine lv_iconst (v := (nI 0)) C.x C.b dL_around_3 (by decide) ?_
  refine lv_istore (lv' := [(5, .int (nI 0)), (4, .int (nI 4120)), (0, .ref h), (1, .int (nI 3)), (2, .int (nI 4120)), (3, .int (nI 4))]) C.x C.b dL_around_4 hl (by decide) rfl (fun ls hl => ?_)
  refine lv_iload C.x C.b dL_around_6 (lv_at hl 0 rfl) ?_
  refine lv_iload_n C.x C.b dL_around_8 rfl (lv_at hl 5 rfl) ?_
  refine lv_icmp_ge (tgt := 42) C.x C.b dL_around_9 (by decide) (fun q9 => absurd q9 (by decide)) (fun _ => ?_)
  refine lv_aload_n C.x C.b dL_around_12 rfl (lv_at hl 2 rfl) ?_
  refine lv_iload_n C.x C.b dL_around_13 rfl (lv_at hl 3 rfl) ?_
  refine lv_iload C.x C.b dL_around_14 (lv_at hl 0 rfl) ?_
  refine k_cI (As := [.int (nI 3), .int (nI 0)]) (rest := []) (c2 := 8) (s2 := 64) (v := (nI 0)) (m1 := m) C hX (iop_around hst hI (nI 3) (nI 0)) (e0) hI.hd (gl_up inv_X8_around) rfl ⟨rfl, hdA_X8_around⟩ (by decide) rfl hl.1 rfl (by decide) dL_around_16 ⟨Nat.le_of_ble_eq_true rfl, Nat.le_of_ble_eq_true rfl⟩ ⟨Nat.le_of_ble_eq_true rfl, Nat.le_of_ble_eq_true rfl⟩ rfl rfl (fun f H locs hX hI => ?_)
  refine lv_iload C.x C.b dL_around_19 (lv_at hl 1 rfl) ?_
  refine lv_bipush (v := (nI 10)) C.x C.b dL_around_21 (by decide) ?_
  refine lv_irem C.x C.b dL_around_23 (by decide) ?_
  refine k_topi (y := (nI 0)) (by decide) ?_
  refine lv_icmp_eq (tgt := 29) C.x C.b dL_around_24 (by decide) (fun _ => ?_) (fun q9 => absurd (by decide) q9)
  refine lv_iload C.x C.b dL_around_29 (lv_at hl 1 rfl) ?_
  refine lv_bipush (v := (nI 10)) C.x C.b dL_around_31 (by decide) ?_
  refine lv_idiv C.x C.b dL_around_33 (by decide) ?_
  refine k_topi (y := (nI 412)) (by decide) ?_
  refine lv_istore (lv' := [(4, .int (nI 412)), (5, .int (nI 0)), (0, .ref h), (1, .int (nI 3)), (2, .int (nI 4120)), (3, .int (nI 4))]) C.x C.b dL_around_34 hl (by decide) rfl (fun ls hl => ?_)
  refine lv_iinc (v := (nI 1)) (lv' := [(5, .int (nI 1)), (4, .int (nI 412)), (0, .ref h), (1, .int (nI 3)), (2, .int (nI 4120)), (3, .int (nI 4))]) C.x C.b dL_around_36 hl (k := 1) rfl (by decide) (by decide) rfl (fun ls hl => ?_)
  refine lv_goto (tgt := 6) C.x C.b dL_around_39 (by decide) ?_
  refine lv_iload C.x C.b dL_around_6 (lv_at hl 0 rfl) ?_
  refine lv_iload_n C.x C.b dL_around_8 rfl (lv_at hl 5 rfl) ?_
  refine lv_icmp_ge (tgt := 42) C.x C.b dL_around_9 (by decide) (fun q9 => absurd q9 (by decide)) (fun _ => ?_)
  refine lv_aload_n C.x C.b dL_around_12 rfl (lv_at hl 2 rfl) ?_
  refine lv_iload_n C.x C.b dL_around_13 rfl (lv_at hl 3 rfl) ?_
  refine lv_iload C.x C.b dL_around_14 (lv_at hl 0 rfl) ?_
  refine k_cI (As := [.int (nI 3), .int (nI 1)]) (rest := []) (c2 := 16) (s2 := 128) (v := (nI 2)) (m1 := m) C hX (iop_around hst hI (nI 3) (nI 1)) (e1) hI.hd (gl_up inv_X8_around) rfl ⟨rfl, hdA_X8_around⟩ (by decide) rfl hl.1 rfl (by decide) dL_around_16 ⟨Nat.le_of_ble_eq_true rfl, Nat.le_of_ble_eq_true rfl⟩ ⟨Nat.le_of_ble_eq_true rfl, Nat.le_of_ble_eq_true rfl⟩ rfl rfl (fun f H locs hX hI => ?_)
  refine lv_iload C.x C.b dL_around_19 (lv_at hl 1 rfl) ?_
  refine lv_bipush (v := (nI 10)) C.x C.b dL_around_21 (by decide) ?_
  refine lv_irem C.x C.b dL_around_23 (by decide) ?_
  refine k_topi (y := (nI 2)) (by decide) ?_
  refine lv_icmp_eq (tgt := 29) C.x C.b dL_around_24 (by decide) (fun _ => ?_) (fun q9 => absurd (by decide) q9)
  refine lv_iload C.x C.b dL_around_29 (lv_at hl 1 rfl) ?_
  refine lv_bipush (v := (nI 10)) C.x C.b dL_around_31 (by decide) ?_
  refine lv_idiv C.x C.b dL_around_33 (by decide) ?_
  refine k_topi (y := (nI 41)) (by decide) ?_
  refine lv_istore (lv' := [(4, .int (nI 41)), (5, .int (nI 1)), (0, .ref h), (1, .int (nI 3)), (2, .int (nI 4120)), (3, .int (nI 4))]) C.x C.b dL_around_34 hl (by decide) rfl (fun ls hl => ?_)
  refine lv_iinc (v := (nI 2)) (lv' := [(5, .int (nI 2)), (4, .int (nI 41)), (0, .ref h), (1, .int (nI 3)), (2, .int (nI 4120)), (3, .int (nI 4))]) C.x C.b dL_around_36 hl (k := 1) rfl (by decide) (by decide) rfl (fun ls hl => ?_)
  refine lv_goto (tgt := 6) C.x C.b dL_around_39 (by decide) ?_
  refine lv_iload C.x C.b dL_around_6 (lv_at hl 0 rfl) ?_
  refine lv_iload_n C.x C.b dL_around_8 rfl (lv_at hl 5 rfl) ?_
  refine lv_icmp_ge (tgt := 42) C.x C.b dL_around_9 (by decide) (fun q9 => absurd q9 (by decide)) (fun _ => ?_)
  refine lv_aload_n C.x C.b dL_around_12 rfl (lv_at hl 2 rfl) ?_
  refine lv_iload_n C.x C.b dL_around_13 rfl (lv_at hl 3 rfl) ?_
  refine lv_iload C.x C.b dL_around_14 (lv_at hl 0 rfl) ?_
  refine k_cI (As := [.int (nI 3), .int (nI 2)]) (rest := []) (c2 := 24) (s2 := 192) (v := (nI 1)) (m1 := m) C hX (iop_around hst hI (nI 3) (nI 2)) (e2) hI.hd (gl_up inv_X8_around) rfl ⟨rfl, hdA_X8_around⟩ (by decide) rfl hl.1 rfl (by decide) dL_around_16 ⟨Nat.le_of_ble_eq_true rfl, Nat.le_of_ble_eq_true rfl⟩ ⟨Nat.le_of_ble_eq_true rfl, Nat.le_of_ble_eq_true rfl⟩ rfl rfl (fun f H locs hX hI => ?_)
  refine lv_iload C.x C.b dL_around_19 (lv_at hl 1 rfl) ?_
  refine lv_bipush (v := (nI 10)) C.x C.b dL_around_21 (by decide) ?_
  refine lv_irem C.x C.b dL_around_23 (by decide) ?_
  refine k_topi (y := (nI 1)) (by decide) ?_
  refine lv_icmp_eq (tgt := 29) C.x C.b dL_around_24 (by decide) (fun _ => ?_) (fun q9 => absurd (by decide) q9)
  refine lv_iload C.x C.b dL_around_29 (lv_at hl 1 rfl) ?_
  refine lv_bipush (v := (nI 10)) C.x C.b dL_around_31 (by decide) ?_
  refine lv_idiv C.x C.b dL_around_33 (by decide) ?_
  refine k_topi (y := (nI 4)) (by decide) ?_
  refine lv_istore (lv' := [(4, .int (nI 4)), (5, .int (nI 2)), (0, .ref h), (1, .int (nI 3)), (2, .int (nI 4120)), (3, .int (nI 4))]) C.x C.b dL_around_34 hl (by decide) rfl (fun ls hl => ?_)
  refine lv_iinc (v := (nI 3)) (lv' := [(5, .int (nI 3)), (4, .int (nI 4)), (0, .ref h), (1, .int (nI 3)), (2, .int (nI 4120)), (3, .int (nI 4))]) C.x C.b dL_around_36 hl (k := 1) rfl (by decide) (by decide) rfl (fun ls hl => ?_)
  refine lv_goto (tgt := 6) C.x C.b dL_around_39 (by decide) ?_
  refine lv_iload C.x C.b dL_around_6 (lv_at hl 0 rfl) ?_
  refine lv_iload_n C.x C.b dL_around_8 rfl (lv_at hl 5 rfl) ?_
  refine lv_icmp_ge (tgt := 42) C.x C.b dL_around_9 (by decide) (fun q9 => absurd q9 (by decide)) (fun _ => ?_)
  refine lv_aload_n C.x C.b dL_around_12 rfl (lv_at hl 2 rfl) ?_
  refine lv_iload_n C.x C.b dL_around_13 rfl (lv_at hl 3 rfl) ?_
  refine lv_iload C.x C.b dL_around_14 (lv_at hl 0 rfl) ?_
  refine k_cI (As := [.int (nI 3), .int (nI 3)]) (rest := []) (c2 := 32) (s2 := 256) (v := (nI 4)) (m1 := m) C hX (iop_around hst hI (nI 3) (nI 3)) (e3) hI.hd (gl_up inv_X8_around) rfl ⟨rfl, hdA_X8_around⟩ (by decide) rfl hl.1 rfl (by decide) dL_around_16 ⟨Nat.le_of_ble_eq_true rfl, Nat.le_of_ble_eq_true rfl⟩ ⟨Nat.le_of_ble_eq_true rfl, Nat.le_of_ble_eq_true rfl⟩ rfl rfl (fun f H locs hX hI => ?_)
  refine lv_iload C.x C.b dL_around_19 (lv_at hl 1 rfl) ?_
  refine lv_bipush (v := (nI 10)) C.x C.b dL_around_21 (by decide) ?_
  refine lv_irem C.x C.b dL_around_23 (by decide) ?_
  refine k_topi (y := (nI 4)) (by decide) ?_
  refine lv_icmp_eq (tgt := 29) C.x C.b dL_around_24 (by decide) (fun _ => ?_) (fun q9 => absurd (by decide) q9)
  refine lv_iload C.x C.b dL_around_29 (lv_at hl 1 rfl) ?_
  refine lv_bipush (v := (nI 10)) C.x C.b dL_around_31 (by decide) ?_
  refine lv_idiv C.x C.b dL_around_33 (by decide) ?_
  refine k_topi (y := (nI 0)) (by decide) ?_
  refine lv_istore (lv' := [(4, .int (nI 0)), (5, .int (nI 3)), (0, .ref h), (1, .int (nI 3)), (2, .int (nI 4120)), (3, .int (nI 4))]) C.x C.b dL_around_34 hl (by decide) rfl (fun ls hl => ?_)
  refine lv_iinc (v := (nI 4)) (lv' := [(5, .int (nI 4)), (4, .int (nI 0)), (0, .ref h), (1, .int (nI 3)), (2, .int (nI 4120)), (3, .int (nI 4))]) C.x C.b dL_around_36 hl (k := 1) rfl (by decide) (by decide) rfl (fun ls hl => ?_)
  refine lv_goto (tgt := 6) C.x C.b dL_around_39 (by decide) ?_
  refine lv_iload C.x C.b dL_around_6 (lv_at hl 0 rfl) ?_
  refine lv_iload_n C.x C.b dL_around_8 rfl (lv_at hl 5 rfl) ?_
  refine lv_icmp_ge (tgt := 42) C.x C.b dL_around_9 (by decide) (fun _ => ?_) (fun q9 => absurd (by decide) q9)
  refine lv_aload_n C.x C.b dL_around_42 rfl (lv_at hl 2 rfl) ?_
  refine lv_iload_n C.x C.b dL_around_43 rfl (lv_at hl 3 rfl) ?_
  refine lv_iload_n C.x C.b dL_around_44 rfl (lv_at hl 5 rfl) ?_
  refine k_cI (As := [.int (nI 3), .int (nI 4)]) (rest := []) (c2 := 40) (s2 := 320) (v := (-1)) (m1 := m) C hX (iop_around hst hI (nI 3) (nI 4)) (e8) hI.hd (gl_up inv_X8_around) rfl ⟨rfl, hdA_X8_around⟩ (by decide) rfl hl.1 rfl (by decide) dL_around_45 ⟨Nat.le_of_ble_eq_true rfl, Nat.le_of_ble_eq_true rfl⟩ ⟨Nat.le_of_ble_eq_true rfl, Nat.le_of_ble_eq_true rfl⟩ rfl rfl (fun f H locs hX hI => ?_)
  refine lv_iconst (v := (-1)) C.x C.b dL_around_48 (by decide) ?_
  refine lv_icmp_ne (tgt := 67) C.x C.b dL_around_49 (by decide) (fun q9 => absurd (by decide) q9) (fun _ => ?_)
  refine lv_aload_n C.x C.b dL_around_52 rfl (lv_at hl 2 rfl) ?_
  refine lv_iload_n C.x C.b dL_around_53 rfl (lv_at hl 3 rfl) ?_
  refine lv_ldc (v := (nI 2147483647)) C.x C.b C.ow (C.ts _ (List.mem_cons_of_mem _ lkC_106)) dL_around_54 ?_
  refine k_cI (As := [.int (nI 3), .int (nI 2147483647)]) (rest := []) (c2 := 48) (s2 := 384) (v := (-1)) (m1 := m) C hX (iop_around hst hI (nI 3) (nI 2147483647)) (e9) hI.hd (gl_up inv_X8_around) rfl ⟨rfl, hdA_X8_around⟩ (by decide) rfl hl.1 rfl (by decide) dL_around_56 ⟨Nat.le_of_ble_eq_true rfl, Nat.le_of_ble_eq_true rfl⟩ ⟨Nat.le_of_ble_eq_true rfl, Nat.le_of_ble_eq_true rfl⟩ rfl rfl (fun f H locs hX hI => ?_)
  refine lv_iconst (v := (-1)) C.x C.b dL_around_59 (by decide) ?_
  refine lv_icmp_ne (tgt := 67) C.x C.b dL_around_60 (by decide) (fun q9 => absurd (by decide) q9) (fun _ => ?_)
  refine lv_iconst (v := (nI 1)) C.x C.b dL_around_63 (by decide) ?_
  refine lv_goto (tgt := 68) C.x C.b dL_around_64 (by decide) ?_
  exact k_zret C hX hr hlocks hQ (Nat.le_of_ble_eq_true rfl) (Nat.le_of_ble_eq_true rfl) (Or.inr rfl) ⟨rfl, hI⟩ dL_around_68
