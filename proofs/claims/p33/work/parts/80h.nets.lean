def hS_nets_1 : pSt := pMk 5 6 0 0 0 2 0 (nPutN (nPutN (nPutN mF0 0 0 1 4) 4 1 2 4) 5 2 0 4) (fun _ => 0) (fun _ => 0) (fun _ => 0) (fun _ => 0) (fun _ => 0) (fun _ => 0) mW0 (fun _ => 0) (fun _ => 0)
def hS_nets_2 : pSt := pMk 5 6 0 0 0 2 0 (nPutN (nPutN hS_nets_1.fa 0 0 3 4) 1 3 1 4) (fun _ => 0) (fun _ => 0) (fun _ => 0) (fun _ => 0) (fun _ => 0) (fun _ => 0) mW0 (fun _ => 0) (fun _ => 0)
def hS_nets_3 : pSt := pMk 5 6 0 0 0 2 0 (nPutN (nPutN hS_nets_2.fa 1 4 0 1) 0 0 3 1) (fun _ => 0) (fun _ => 0) (fun _ => 0) (fun _ => 0) (fun _ => 0) (fun _ => 0) mW0 (fun _ => 0) (fun _ => 0)
def hS_nets_4 : pSt := pMk 6 8 0 0 0 2 0 (nPutN (nPutN (nPutN hS_nets_3.fa 1 0 1 5) 6 1 4 5) 7 4 0 5) (fun _ => 0) (fun _ => 0) (fun _ => 0) (fun _ => 0) (fun _ => 0) (fun _ => 0) mW0 (fun _ => 0) (fun _ => 0)
def hS_nets_5 : pSt := pMk 7 10 0 0 0 2 0 (nPutN (nPutN (nPutN hS_nets_4.fa 1 0 1 6) 8 1 5 6) 9 5 0 6) (fun _ => 0) (fun _ => 0) (fun _ => 0) (fun _ => 0) (fun _ => 0) (fun _ => 0) mW0 (fun _ => 0) (fun _ => 0)
def hS_nets_6 : pSt := pMk 8 12 0 0 0 2 0 (nPutN (nPutN (nPutN hS_nets_5.fa 2 1 3 7) 10 3 2 7) 11 2 1 7) (fun _ => 0) (fun _ => 0) (fun _ => 0) (fun _ => 0) (fun _ => 0) (fun _ => 0) mW0 (fun _ => 0) (fun _ => 0)
def hS_nets_7 : pSt := pMk 9 14 0 0 0 2 0 (nPutN (nPutN (nPutN hS_nets_6.fa 3 0 2 8) 12 2 3 8) 13 3 0 8) (fun _ => 0) (fun _ => 0) (fun _ => 0) (fun _ => 0) (fun _ => 0) (fun _ => 0) mW0 (fun _ => 0) (fun _ => 0)
def hS_nets_8 : pSt := pMk 10 16 0 0 0 2 0 (nPutN (nPutN (nPutN hS_nets_7.fa 4 1 2 9) 14 2 4 9) 15 4 1 9) (fun _ => 0) (fun _ => 0) (fun _ => 0) (fun _ => 0) (fun _ => 0) (fun _ => 0) mW0 (fun _ => 0) (fun _ => 0)
def hS_nets_9 : pSt := pMk 11 18 0 0 0 2 0 (nPutN (nPutN (nPutN hS_nets_8.fa 0 0 3 10) 16 3 1 10) 17 1 0 10) (fun _ => 0) (fun _ => 0) (fun _ => 0) (fun _ => 0) (fun _ => 0) (fun _ => 0) mW0 (fun _ => 0) (fun _ => 0)
def hS_nets_10 : pSt := pMk 12 20 0 0 0 2 0 (nPutN (nPutN (nPutN hS_nets_9.fa 1 0 1 11) 18 1 6 11) 19 6 0 11) (fun _ => 0) (fun _ => 0) (fun _ => 0) (fun _ => 0) (fun _ => 0) (fun _ => 0) mW0 (fun _ => 0) (fun _ => 0)
def hS_nets_11 : pSt := pMk 13 22 0 0 0 2 0 (nPutN (nPutN (nPutN hS_nets_10.fa 2 1 3 12) 20 3 7 12) 21 7 1 12) (fun _ => 0) (fun _ => 0) (fun _ => 0) (fun _ => 0) (fun _ => 0) (fun _ => 0) mW0 (fun _ => 0) (fun _ => 0)
def hS_nets_12 : pSt := pMk 14 24 0 0 0 2 0 (nPutN (nPutN (nPutN hS_nets_11.fa 3 0 2 13) 22 2 8 13) 23 8 0 13) (fun _ => 0) (fun _ => 0) (fun _ => 0) (fun _ => 0) (fun _ => 0) (fun _ => 0) mW0 (fun _ => 0) (fun _ => 0)
def hS_nets_13 : pSt := pMk 15 26 0 0 0 2 0 (nPutN (nPutN (nPutN hS_nets_12.fa 4 1 2 14) 24 2 9 14) 25 9 1 14) (fun _ => 0) (fun _ => 0) (fun _ => 0) (fun _ => 0) (fun _ => 0) (fun _ => 0) mW0 (fun _ => 0) (fun _ => 0)
def hS_nets_14 : pSt := pMk 16 28 0 0 0 2 0 (nPutN (nPutN (nPutN hS_nets_13.fa 0 0 3 15) 26 3 10 15) 27 10 0 15) (fun _ => 0) (fun _ => 0) (fun _ => 0) (fun _ => 0) (fun _ => 0) (fun _ => 0) mW0 (fun _ => 0) (fun _ => 0)
theorem e_split_s {m : pSt} {x1 : Int32} (h1 : mIn x1 m.fc) (h2 : 16 ≤ m.cc) : c_split m x1 = (3, 0, m) := by unfold c_split; rw [if_pos h1, if_pos h2]
set_option maxHeartbeats 16000000 in
set_option maxRecDepth 100000 in
theorem pL_nets {l : Launch} (hst : l.stackTraces = false) {G : kG} {B0 : Nat} {f : kH} : Met l yL_nets wsP_nets rmN (kP G B0 f []) (kQi G B0 (fun r f1 => r = nI 1 ∧ True)) 70000 560000 (kAb B0) := by
  refine kMet (cc := cL_nets) (maxL := 2) (ret := (some .boolean)) (by decide) rfl (Nat.le_of_ble_eq_true rfl) ?_
  intro p e s mi args below meth c H locs Q ls C hX hl hr hlocks hnm hQ
  refine k_new (X := RX8) (T := TX8) (N := 7) (ci := 8) (fs := [.null, .null, .null, .null, .null, .null, .null]) C hX (fun w9 h9 => List.mem_cons_of_mem _ (inlX8 w9 h9)) tyX8_ok (fun w9 h9 => List.mem_cons_of_mem _ (in_new w9 h9)) rfl (by decide) (Nat.le_of_ble_eq_true rfl) (Nat.le_of_ble_eq_true rfl) dL_nets_0 (fun h H hn hX => ?_)
  refine lv_dup C.x C.b dL_nets_3 rfl ?_
  have h0 : kCs (kst f h (.inr (8, [.null, .null, .null, .null, .null, .null, .null]))) [(h, .inr (8, [.null, .null, .null, .null, .null, .null, .null]))] := ⟨fun q hq => by rw [List.mem_singleton.mp hq]; exact kst_s _ _ _, by simp⟩
  refine k_callv (va_runI (As := []) (rest := [.ref h]) C.1 (kX8_init l G B0 _ h h0) (cwI 0 C.ts (gl_up inw_X8_init) rfl rfl rfl (C.ts (.initialized RX8) (List.mem_cons_of_mem _ (in_ini _ (by simp)))) (C.ts (.methodLink RL 126 yX8_init) (List.mem_cons_of_mem _ (in_ini _ (by simp)))) (C.ts (.instanceMethod yX8_init) (List.mem_cons_of_mem _ (in_ini _ (by simp)))) rfl hdA_X8_init ⟨Nat.le_of_ble_eq_true rfl, Nat.le_of_ble_eq_true rfl⟩) (k_preS C hX) rfl rfl hl.1 rfl (lv_room (Nat.le_of_ble_eq_true rfl)) dL_nets_4 ⟨Nat.le_of_ble_eq_true rfl, Nat.le_of_ble_eq_true rfl⟩) hX (fun f H locs hp hX => ?_)
  obtain ⟨sp, nA, tA, dl, gl, rw9, sA, wA, ml, pp, nn, wL, qm, rm9, h1, -, -⟩ := hp
  have hI : Inv G h f p0 := Inv_start h1
  refine W.widen (k := 24) (n := 600) (by decide) (by decide) ?_
  refine lv_astore_n (lv' := [(0, .ref h)]) C.x C.b dL_nets_7 rfl hl (by decide) rfl (fun ls hl => ?_)
  refine lv_aload_n C.x C.b dL_nets_8 rfl (lv_at hl 0 rfl) ?_
  refine lv_iconst (v := (nI 0)) C.x C.b dL_nets_9 (by decide) ?_
  refine lv_iconst (v := (nI 0)) C.x C.b dL_nets_10 (by decide) ?_
  refine lv_iconst (v := (nI 0)) C.x C.b dL_nets_11 (by decide) ?_
  refine lv_iconst (v := (nI 2)) C.x C.b dL_nets_12 (by decide) ?_
  refine lv_iconst (v := (nI 0)) C.x C.b dL_nets_13 (by decide) ?_
  refine k_law (As := [.ref h, .int (nI 0), .int (nI 0), .int (nI 0), .int (nI 2), .int (nI 0)]) (rest := []) (c2 := 3324) (s2 := 27000) (m1 := p0) C hX (pL_refuses hst hI) (gl_up inv_L_refuses) rfl rfl rfl hdP_L_refuses ⟨Nat.le_of_ble_eq_true rfl, Nat.le_of_ble_eq_true rfl⟩ rfl hl.1 rfl (by decide) dL_nets_14 ⟨Nat.le_of_ble_eq_true rfl, Nat.le_of_ble_eq_true rfl⟩ rfl rfl (fun f H locs hX hI => ?_)
  refine lv_if_eq (tgt := 245) C.x C.b dL_nets_17 (by decide) (fun q9 => absurd q9 (by decide)) (fun _ => ?_)
  refine lv_aload_n C.x C.b dL_nets_20 rfl (lv_at hl 0 rfl) ?_
  refine lv_iconst (v := (nI 4)) C.x C.b dL_nets_21 (by decide) ?_
  refine lv_iconst (v := (nI 0)) C.x C.b dL_nets_22 (by decide) ?_
  refine lv_iconst (v := (nI 3)) C.x C.b dL_nets_23 (by decide) ?_
  refine k_law (As := [.ref h, .int (nI 4), .int (nI 0), .int (nI 3)]) (rest := []) (c2 := 3404) (s2 := 27640) (m1 := p0) C hX (pL_net hst hI (nI 4) (nI 0) (nI 3) (ev_net (by decide +kernel) (by decide +kernel)) (ev_net (by decide +kernel) (by decide +kernel)) (ev_net (by decide +kernel) (by decide +kernel)) (ev_net (by decide +kernel) (by decide +kernel)) (ev_net (by decide +kernel) (by decide +kernel))) (gl_up inv_L_net) rfl rfl rfl hdP_L_net ⟨Nat.le_of_ble_eq_true rfl, Nat.le_of_ble_eq_true rfl⟩ rfl hl.1 rfl (by decide) dL_nets_24 ⟨Nat.le_of_ble_eq_true rfl, Nat.le_of_ble_eq_true rfl⟩ rfl rfl (fun f H locs hX hI => ?_)
  refine lv_if_eq (tgt := 245) C.x C.b dL_nets_27 (by decide) (fun q9 => absurd q9 (by decide)) (fun _ => ?_)
  refine lv_aload_n C.x C.b dL_nets_30 rfl (lv_at hl 0 rfl) ?_
  refine lv_iconst (v := (nI 0)) C.x C.b dL_nets_31 (by decide) ?_
  refine lv_iconst (v := (nI 0)) C.x C.b dL_nets_32 (by decide) ?_
  refine lv_iconst (v := (nI 1)) C.x C.b dL_nets_33 (by decide) ?_
  refine lv_iconst (v := (nI 2)) C.x C.b dL_nets_34 (by decide) ?_
  refine k_law (As := [.ref h, .int (nI 0), .int (nI 0), .int (nI 1), .int (nI 2)]) (rest := []) (c2 := 3484) (s2 := 28280) (m1 := p0) C hX (pL_face hst hI (nI 0) (nI 0) (nI 1) (nI 2) (ev_corner (by decide +kernel) (by decide +kernel)) (ev_corner (by decide +kernel) (by decide +kernel)) (ev_corner (by decide +kernel) (by decide +kernel))) (gl_up inv_L_face) rfl rfl rfl hdP_L_face ⟨Nat.le_of_ble_eq_true rfl, Nat.le_of_ble_eq_true rfl⟩ rfl hl.1 rfl (by decide) dL_nets_35 ⟨Nat.le_of_ble_eq_true rfl, Nat.le_of_ble_eq_true rfl⟩ rfl rfl (fun f H locs hX hI => ?_)
  refine lv_if_eq (tgt := 245) C.x C.b dL_nets_38 (by decide) (fun q9 => absurd q9 (by decide)) (fun _ => ?_)
  refine lv_aload_n C.x C.b dL_nets_41 rfl (lv_at hl 0 rfl) ?_
  refine lv_iconst (v := (nI 1)) C.x C.b dL_nets_42 (by decide) ?_
  refine lv_iconst (v := (nI 0)) C.x C.b dL_nets_43 (by decide) ?_
  refine lv_iconst (v := (nI 3)) C.x C.b dL_nets_44 (by decide) ?_
  refine lv_iconst (v := (nI 1)) C.x C.b dL_nets_45 (by decide) ?_
  refine k_law (As := [.ref h, .int (nI 1), .int (nI 0), .int (nI 3), .int (nI 1)]) (rest := []) (c2 := 3564) (s2 := 28920) (m1 := p0) C hX (pL_face hst hI (nI 1) (nI 0) (nI 3) (nI 1) (ev_corner (by decide +kernel) (by decide +kernel)) (ev_corner (by decide +kernel) (by decide +kernel)) (ev_corner (by decide +kernel) (by decide +kernel))) (gl_up inv_L_face) rfl rfl rfl hdP_L_face ⟨Nat.le_of_ble_eq_true rfl, Nat.le_of_ble_eq_true rfl⟩ rfl hl.1 rfl (by decide) dL_nets_46 ⟨Nat.le_of_ble_eq_true rfl, Nat.le_of_ble_eq_true rfl⟩ rfl rfl (fun f H locs hX hI => ?_)
  refine lv_if_eq (tgt := 245) C.x C.b dL_nets_49 (by decide) (fun q9 => absurd q9 (by decide)) (fun _ => ?_)
  refine lv_aload_n C.x C.b dL_nets_52 rfl (lv_at hl 0 rfl) ?_
  refine lv_iconst (v := (nI 2)) C.x C.b dL_nets_53 (by decide) ?_
  refine lv_iconst (v := (nI 1)) C.x C.b dL_nets_54 (by decide) ?_
  refine lv_iconst (v := (nI 3)) C.x C.b dL_nets_55 (by decide) ?_
  refine lv_iconst (v := (nI 2)) C.x C.b dL_nets_56 (by decide) ?_
  refine k_law (As := [.ref h, .int (nI 2), .int (nI 1), .int (nI 3), .int (nI 2)]) (rest := []) (c2 := 3644) (s2 := 29560) (m1 := p0) C hX (pL_face hst hI (nI 2) (nI 1) (nI 3) (nI 2) (ev_corner (by decide +kernel) (by decide +kernel)) (ev_corner (by decide +kernel) (by decide +kernel)) (ev_corner (by decide +kernel) (by decide +kernel))) (gl_up inv_L_face) rfl rfl rfl hdP_L_face ⟨Nat.le_of_ble_eq_true rfl, Nat.le_of_ble_eq_true rfl⟩ rfl hl.1 rfl (by decide) dL_nets_57 ⟨Nat.le_of_ble_eq_true rfl, Nat.le_of_ble_eq_true rfl⟩ rfl rfl (fun f H locs hX hI => ?_)
  refine lv_if_eq (tgt := 245) C.x C.b dL_nets_60 (by decide) (fun q9 => absurd q9 (by decide)) (fun _ => ?_)
  refine lv_aload_n C.x C.b dL_nets_63 rfl (lv_at hl 0 rfl) ?_
  refine lv_iconst (v := (nI 3)) C.x C.b dL_nets_64 (by decide) ?_
  refine lv_iconst (v := (nI 0)) C.x C.b dL_nets_65 (by decide) ?_
  refine lv_iconst (v := (nI 2)) C.x C.b dL_nets_66 (by decide) ?_
  refine lv_iconst (v := (nI 3)) C.x C.b dL_nets_67 (by decide) ?_
  refine k_law (As := [.ref h, .int (nI 3), .int (nI 0), .int (nI 2), .int (nI 3)]) (rest := []) (c2 := 3724) (s2 := 30200) (m1 := p0) C hX (pL_face hst hI (nI 3) (nI 0) (nI 2) (nI 3) (ev_corner (by decide +kernel) (by decide +kernel)) (ev_corner (by decide +kernel) (by decide +kernel)) (ev_corner (by decide +kernel) (by decide +kernel))) (gl_up inv_L_face) rfl rfl rfl hdP_L_face ⟨Nat.le_of_ble_eq_true rfl, Nat.le_of_ble_eq_true rfl⟩ rfl hl.1 rfl (by decide) dL_nets_68 ⟨Nat.le_of_ble_eq_true rfl, Nat.le_of_ble_eq_true rfl⟩ rfl rfl (fun f H locs hX hI => ?_)
  refine lv_if_eq (tgt := 245) C.x C.b dL_nets_71 (by decide) (fun q9 => absurd q9 (by decide)) (fun _ => ?_)
  refine lv_aload_n C.x C.b dL_nets_74 rfl (lv_at hl 0 rfl) ?_
  refine lv_iconst (v := (nI 0)) C.x C.b dL_nets_75 (by decide) ?_
  refine lv_sipush (v := (nI 321)) C.x C.b dL_nets_76 (by decide) ?_
  refine lv_iconst (v := (nI 3)) C.x C.b dL_nets_79 (by decide) ?_
  refine k_law (As := [.ref h, .int (nI 0), .int (nI 321), .int (nI 3)]) (rest := []) (c2 := 3804) (s2 := 30840) (m1 := p0) C hX (pL_around_0_321_3 hst hI (ev_around_y (by decide +kernel) (by decide +kernel) (by decide +kernel)) (ev_around_y (by decide +kernel) (by decide +kernel) (by decide +kernel)) (ev_around_y (by decide +kernel) (by decide +kernel) (by decide +kernel)) (ev_around_n (by decide +kernel) (by decide +kernel)) (ev_around_n (by decide +kernel) (by decide +kernel))) (gl_up inv_L_around) rfl rfl rfl hdP_L_around ⟨Nat.le_of_ble_eq_true rfl, Nat.le_of_ble_eq_true rfl⟩ rfl hl.1 rfl (by decide) dL_nets_80 ⟨Nat.le_of_ble_eq_true rfl, Nat.le_of_ble_eq_true rfl⟩ rfl rfl (fun f H locs hX hI => ?_)
  refine lv_if_eq (tgt := 245) C.x C.b dL_nets_83 (by decide) (fun q9 => absurd q9 (by decide)) (fun _ => ?_)
  refine lv_aload_n C.x C.b dL_nets_86 rfl (lv_at hl 0 rfl) ?_
  refine lv_iconst (v := (nI 1)) C.x C.b dL_nets_87 (by decide) ?_
  refine lv_sipush (v := (nI 230)) C.x C.b dL_nets_88 (by decide) ?_
  refine lv_iconst (v := (nI 3)) C.x C.b dL_nets_91 (by decide) ?_
  refine k_law (As := [.ref h, .int (nI 1), .int (nI 230), .int (nI 3)]) (rest := []) (c2 := 3884) (s2 := 31480) (m1 := p0) C hX (pL_around_1_230_3 hst hI (ev_around_y (by decide +kernel) (by decide +kernel) (by decide +kernel)) (ev_around_y (by decide +kernel) (by decide +kernel) (by decide +kernel)) (ev_around_y (by decide +kernel) (by decide +kernel) (by decide +kernel)) (ev_around_n (by decide +kernel) (by decide +kernel)) (ev_around_n (by decide +kernel) (by decide +kernel))) (gl_up inv_L_around) rfl rfl rfl hdP_L_around ⟨Nat.le_of_ble_eq_true rfl, Nat.le_of_ble_eq_true rfl⟩ rfl hl.1 rfl (by decide) dL_nets_92 ⟨Nat.le_of_ble_eq_true rfl, Nat.le_of_ble_eq_true rfl⟩ rfl rfl (fun f H locs hX hI => ?_)
  refine lv_if_eq (tgt := 245) C.x C.b dL_nets_95 (by decide) (fun q9 => absurd q9 (by decide)) (fun _ => ?_)
  refine lv_aload_n C.x C.b dL_nets_98 rfl (lv_at hl 0 rfl) ?_
  refine lv_iconst (v := (nI 2)) C.x C.b dL_nets_99 (by decide) ?_
  refine lv_sipush (v := (nI 310)) C.x C.b dL_nets_100 (by decide) ?_
  refine lv_iconst (v := (nI 3)) C.x C.b dL_nets_103 (by decide) ?_
  refine k_law (As := [.ref h, .int (nI 2), .int (nI 310), .int (nI 3)]) (rest := []) (c2 := 3964) (s2 := 32120) (m1 := p0) C hX (pL_around_2_310_3 hst hI (ev_around_y (by decide +kernel) (by decide +kernel) (by decide +kernel)) (ev_around_y (by decide +kernel) (by decide +kernel) (by decide +kernel)) (ev_around_y (by decide +kernel) (by decide +kernel) (by decide +kernel)) (ev_around_n (by decide +kernel) (by decide +kernel)) (ev_around_n (by decide +kernel) (by decide +kernel))) (gl_up inv_L_around) rfl rfl rfl hdP_L_around ⟨Nat.le_of_ble_eq_true rfl, Nat.le_of_ble_eq_true rfl⟩ rfl hl.1 rfl (by decide) dL_nets_104 ⟨Nat.le_of_ble_eq_true rfl, Nat.le_of_ble_eq_true rfl⟩ rfl rfl (fun f H locs hX hI => ?_)
  refine lv_if_eq (tgt := 245) C.x C.b dL_nets_107 (by decide) (fun q9 => absurd q9 (by decide)) (fun _ => ?_)
  refine lv_aload_n C.x C.b dL_nets_110 rfl (lv_at hl 0 rfl) ?_
  refine lv_iconst (v := (nI 3)) C.x C.b dL_nets_111 (by decide) ?_
  refine lv_bipush (v := (nI 120)) C.x C.b dL_nets_112 (by decide) ?_
  refine lv_iconst (v := (nI 3)) C.x C.b dL_nets_114 (by decide) ?_
  refine k_law (As := [.ref h, .int (nI 3), .int (nI 120), .int (nI 3)]) (rest := []) (c2 := 4044) (s2 := 32760) (m1 := p0) C hX (pL_around_3_120_3 hst hI (ev_around_y (by decide +kernel) (by decide +kernel) (by decide +kernel)) (ev_around_y (by decide +kernel) (by decide +kernel) (by decide +kernel)) (ev_around_y (by decide +kernel) (by decide +kernel) (by decide +kernel)) (ev_around_n (by decide +kernel) (by decide +kernel)) (ev_around_n (by decide +kernel) (by decide +kernel))) (gl_up inv_L_around) rfl rfl rfl hdP_L_around ⟨Nat.le_of_ble_eq_true rfl, Nat.le_of_ble_eq_true rfl⟩ rfl hl.1 rfl (by decide) dL_nets_115 ⟨Nat.le_of_ble_eq_true rfl, Nat.le_of_ble_eq_true rfl⟩ rfl rfl (fun f H locs hX hI => ?_)
  refine lv_if_eq (tgt := 245) C.x C.b dL_nets_118 (by decide) (fun q9 => absurd q9 (by decide)) (fun _ => ?_)
  refine lv_aload_n C.x C.b dL_nets_121 rfl (lv_at hl 0 rfl) ?_
  refine lv_iconst (v := (nI 1)) C.x C.b dL_nets_122 (by decide) ?_
  refine lv_iconst (v := (nI 0)) C.x C.b dL_nets_123 (by decide) ?_
  refine lv_iconst (v := (nI 1)) C.x C.b dL_nets_124 (by decide) ?_
  refine lv_iconst (v := (nI 0)) C.x C.b dL_nets_125 (by decide) ?_
  refine lv_iconst (v := (nI 0)) C.x C.b dL_nets_126 (by decide) ?_
  refine k_actI (As := [.ref h, .int (nI 1), .int (nI 0), .int (nI 1), .int (nI 0), .int (nI 0)]) (rest := []) (c2 := 4052) (s2 := 32824) (v := (-7000003)) (m1 := p0) C hX (act_1 hI.hd (nI 0) (nI 1) (nI 0) (nI 0) (iop_flip hst hI (nI 0) (nI 1))) (e_flip_s (by decide +kernel) (by decide +kernel)) (rfl) (gl_up inv_L_act) rfl hl.1 rfl (by decide) dL_nets_127 ⟨Nat.le_of_ble_eq_true rfl, Nat.le_of_ble_eq_true rfl⟩ ⟨Nat.le_of_ble_eq_true rfl, Nat.le_of_ble_eq_true rfl⟩ rfl rfl (fun f H locs hX hI => ?_)
  refine lv_ldc2 (v := (-7000003)) C.x C.b C.ow (C.ts _ (List.mem_cons_of_mem _ lkC_4)) dL_nets_130 ?_
  refine k_lcmp_ne (tgt := 245) C.x C.b dL_nets_133 dL_nets_134 (by decide) (fun q9 => absurd (by decide) q9) (fun _ => ?_)
  refine lv_aload_n C.x C.b dL_nets_137 rfl (lv_at hl 0 rfl) ?_
  refine lv_iconst (v := (nI 0)) C.x C.b dL_nets_138 (by decide) ?_
  refine k_cI (As := [.int (nI 0)]) (rest := []) (c2 := 4060) (s2 := 32888) (v := (nI 4)) (m1 := hS_nets_1) C hX (iop_split hst hI (nI 0)) (ev_split 0 0 1 2 4 4 (by decide) (by decide) (by decide) rfl rfl (by decide +kernel) (by decide +kernel) (by decide +kernel) rfl) hI.hd (gl_up inv_X8_split) rfl ⟨rfl, hdA_X8_split⟩ (by decide) rfl hl.1 rfl (by decide) dL_nets_139 ⟨Nat.le_of_ble_eq_true rfl, Nat.le_of_ble_eq_true rfl⟩ ⟨Nat.le_of_ble_eq_true rfl, Nat.le_of_ble_eq_true rfl⟩ rfl rfl (fun f H locs hX hI => ?_)
  refine lv_iconst (v := (nI 4)) C.x C.b dL_nets_142 (by decide) ?_
  refine lv_icmp_ne (tgt := 245) C.x C.b dL_nets_143 (by decide) (fun q9 => absurd (by decide) q9) (fun _ => ?_)
  refine lv_aload_n C.x C.b dL_nets_146 rfl (lv_at hl 0 rfl) ?_
  refine lv_iconst (v := (nI 5)) C.x C.b dL_nets_147 (by decide) ?_
  refine lv_iconst (v := (nI 3)) C.x C.b dL_nets_148 (by decide) ?_
  refine lv_iconst (v := (nI 4)) C.x C.b dL_nets_149 (by decide) ?_
  refine k_law (As := [.ref h, .int (nI 5), .int (nI 3), .int (nI 4)]) (rest := []) (c2 := 4140) (s2 := 33528) (m1 := hS_nets_1) C hX (pL_net hst hI (nI 5) (nI 3) (nI 4) (ev_net (by decide +kernel) (by decide +kernel)) (ev_net (by decide +kernel) (by decide +kernel)) (ev_net (by decide +kernel) (by decide +kernel)) (ev_net (by decide +kernel) (by decide +kernel)) (ev_net (by decide +kernel) (by decide +kernel))) (gl_up inv_L_net) rfl rfl rfl hdP_L_net ⟨Nat.le_of_ble_eq_true rfl, Nat.le_of_ble_eq_true rfl⟩ rfl hl.1 rfl (by decide) dL_nets_150 ⟨Nat.le_of_ble_eq_true rfl, Nat.le_of_ble_eq_true rfl⟩ rfl rfl (fun f H locs hX hI => ?_)
  refine lv_if_eq (tgt := 245) C.x C.b dL_nets_153 (by decide) (fun q9 => absurd q9 (by decide)) (fun _ => ?_)
  refine lv_aload_n C.x C.b dL_nets_156 rfl (lv_at hl 0 rfl) ?_
  refine lv_iconst (v := (nI 0)) C.x C.b dL_nets_157 (by decide) ?_
  refine lv_iconst (v := (nI 0)) C.x C.b dL_nets_158 (by decide) ?_
  refine lv_iconst (v := (nI 1)) C.x C.b dL_nets_159 (by decide) ?_
  refine lv_iconst (v := (nI 4)) C.x C.b dL_nets_160 (by decide) ?_
  refine k_law (As := [.ref h, .int (nI 0), .int (nI 0), .int (nI 1), .int (nI 4)]) (rest := []) (c2 := 4220) (s2 := 34168) (m1 := hS_nets_1) C hX (pL_face hst hI (nI 0) (nI 0) (nI 1) (nI 4) (ev_corner (by decide +kernel) (by decide +kernel)) (ev_corner (by decide +kernel) (by decide +kernel)) (ev_corner (by decide +kernel) (by decide +kernel))) (gl_up inv_L_face) rfl rfl rfl hdP_L_face ⟨Nat.le_of_ble_eq_true rfl, Nat.le_of_ble_eq_true rfl⟩ rfl hl.1 rfl (by decide) dL_nets_161 ⟨Nat.le_of_ble_eq_true rfl, Nat.le_of_ble_eq_true rfl⟩ rfl rfl (fun f H locs hX hI => ?_)
  refine lv_if_eq (tgt := 245) C.x C.b dL_nets_164 (by decide) (fun q9 => absurd q9 (by decide)) (fun _ => ?_)
  refine lv_aload_n C.x C.b dL_nets_167 rfl (lv_at hl 0 rfl) ?_
  refine lv_iconst (v := (nI 4)) C.x C.b dL_nets_168 (by decide) ?_
  refine lv_iconst (v := (nI 1)) C.x C.b dL_nets_169 (by decide) ?_
  refine lv_iconst (v := (nI 2)) C.x C.b dL_nets_170 (by decide) ?_
  refine lv_iconst (v := (nI 4)) C.x C.b dL_nets_171 (by decide) ?_
  refine k_law (As := [.ref h, .int (nI 4), .int (nI 1), .int (nI 2), .int (nI 4)]) (rest := []) (c2 := 4300) (s2 := 34808) (m1 := hS_nets_1) C hX (pL_face hst hI (nI 4) (nI 1) (nI 2) (nI 4) (ev_corner (by decide +kernel) (by decide +kernel)) (ev_corner (by decide +kernel) (by decide +kernel)) (ev_corner (by decide +kernel) (by decide +kernel))) (gl_up inv_L_face) rfl rfl rfl hdP_L_face ⟨Nat.le_of_ble_eq_true rfl, Nat.le_of_ble_eq_true rfl⟩ rfl hl.1 rfl (by decide) dL_nets_172 ⟨Nat.le_of_ble_eq_true rfl, Nat.le_of_ble_eq_true rfl⟩ rfl rfl (fun f H locs hX hI => ?_)
  refine lv_if_eq (tgt := 245) C.x C.b dL_nets_175 (by decide) (fun q9 => absurd q9 (by decide)) (fun _ => ?_)
  refine lv_aload_n C.x C.b dL_nets_178 rfl (lv_at hl 0 rfl) ?_
  refine lv_iconst (v := (nI 5)) C.x C.b dL_nets_179 (by decide) ?_
  refine lv_iconst (v := (nI 0)) C.x C.b dL_nets_180 (by decide) ?_
  refine lv_iconst (v := (nI 4)) C.x C.b dL_nets_181 (by decide) ?_
  refine lv_iconst (v := (nI 2)) C.x C.b dL_nets_182 (by decide) ?_
  refine k_law (As := [.ref h, .int (nI 5), .int (nI 0), .int (nI 4), .int (nI 2)]) (rest := []) (c2 := 4380) (s2 := 35448) (m1 := hS_nets_1) C hX (pL_face hst hI (nI 5) (nI 0) (nI 4) (nI 2) (ev_corner (by decide +kernel) (by decide +kernel)) (ev_corner (by decide +kernel) (by decide +kernel)) (ev_corner (by decide +kernel) (by decide +kernel))) (gl_up inv_L_face) rfl rfl rfl hdP_L_face ⟨Nat.le_of_ble_eq_true rfl, Nat.le_of_ble_eq_true rfl⟩ rfl hl.1 rfl (by decide) dL_nets_183 ⟨Nat.le_of_ble_eq_true rfl, Nat.le_of_ble_eq_true rfl⟩ rfl rfl (fun f H locs hX hI => ?_)
  refine lv_if_eq (tgt := 245) C.x C.b dL_nets_186 (by decide) (fun q9 => absurd q9 (by decide)) (fun _ => ?_)
  refine lv_aload_n C.x C.b dL_nets_189 rfl (lv_at hl 0 rfl) ?_
  refine lv_iconst (v := (nI 0)) C.x C.b dL_nets_190 (by decide) ?_
  refine lv_sipush (v := (nI 3241)) C.x C.b dL_nets_191 (by decide) ?_
  refine lv_iconst (v := (nI 4)) C.x C.b dL_nets_194 (by decide) ?_
  refine k_law (As := [.ref h, .int (nI 0), .int (nI 3241), .int (nI 4)]) (rest := []) (c2 := 4460) (s2 := 36088) (m1 := hS_nets_1) C hX (pL_around_0_3241_4 hst hI (ev_around_y (by decide +kernel) (by decide +kernel) (by decide +kernel)) (ev_around_y (by decide +kernel) (by decide +kernel) (by decide +kernel)) (ev_around_y (by decide +kernel) (by decide +kernel) (by decide +kernel)) (ev_around_y (by decide +kernel) (by decide +kernel) (by decide +kernel)) (ev_around_n (by decide +kernel) (by decide +kernel)) (ev_around_n (by decide +kernel) (by decide +kernel))) (gl_up inv_L_around) rfl rfl rfl hdP_L_around ⟨Nat.le_of_ble_eq_true rfl, Nat.le_of_ble_eq_true rfl⟩ rfl hl.1 rfl (by decide) dL_nets_195 ⟨Nat.le_of_ble_eq_true rfl, Nat.le_of_ble_eq_true rfl⟩ rfl rfl (fun f H locs hX hI => ?_)
  refine lv_if_eq (tgt := 245) C.x C.b dL_nets_198 (by decide) (fun q9 => absurd q9 (by decide)) (fun _ => ?_)
  refine lv_aload_n C.x C.b dL_nets_201 rfl (lv_at hl 0 rfl) ?_
  refine lv_iconst (v := (nI 4)) C.x C.b dL_nets_202 (by decide) ?_
  refine lv_sipush (v := (nI 210)) C.x C.b dL_nets_203 (by decide) ?_
  refine lv_iconst (v := (nI 3)) C.x C.b dL_nets_206 (by decide) ?_
  refine k_law (As := [.ref h, .int (nI 4), .int (nI 210), .int (nI 3)]) (rest := []) (c2 := 4540) (s2 := 36728) (m1 := hS_nets_1) C hX (pL_around_4_210_3 hst hI (ev_around_y (by decide +kernel) (by decide +kernel) (by decide +kernel)) (ev_around_y (by decide +kernel) (by decide +kernel) (by decide +kernel)) (ev_around_y (by decide +kernel) (by decide +kernel) (by decide +kernel)) (ev_around_n (by decide +kernel) (by decide +kernel)) (ev_around_n (by decide +kernel) (by decide +kernel))) (gl_up inv_L_around) rfl rfl rfl hdP_L_around ⟨Nat.le_of_ble_eq_true rfl, Nat.le_of_ble_eq_true rfl⟩ rfl hl.1 rfl (by decide) dL_nets_207 ⟨Nat.le_of_ble_eq_true rfl, Nat.le_of_ble_eq_true rfl⟩ rfl rfl (fun f H locs hX hI => ?_)
  refine lv_if_eq (tgt := 245) C.x C.b dL_nets_210 (by decide) (fun q9 => absurd q9 (by decide)) (fun _ => ?_)
  refine lv_aload_n C.x C.b dL_nets_213 rfl (lv_at hl 0 rfl) ?_
  refine lv_iconst (v := (nI 1)) C.x C.b dL_nets_214 (by decide) ?_
  refine lv_iconst (v := (nI 0)) C.x C.b dL_nets_215 (by decide) ?_
  refine lv_iconst (v := (nI 4)) C.x C.b dL_nets_216 (by decide) ?_
  refine lv_iconst (v := (nI 0)) C.x C.b dL_nets_217 (by decide) ?_
  refine lv_iconst (v := (nI 0)) C.x C.b dL_nets_218 (by decide) ?_
  refine k_actI (As := [.ref h, .int (nI 1), .int (nI 0), .int (nI 4), .int (nI 0), .int (nI 0)]) (rest := []) (c2 := 4548) (s2 := 36792) (v := (-7000003)) (m1 := hS_nets_1) C hX (act_1 hI.hd (nI 0) (nI 4) (nI 0) (nI 0) (iop_flip hst hI (nI 0) (nI 4))) (e_flip_s (by decide +kernel) (by decide +kernel)) (rfl) (gl_up inv_L_act) rfl hl.1 rfl (by decide) dL_nets_219 ⟨Nat.le_of_ble_eq_true rfl, Nat.le_of_ble_eq_true rfl⟩ ⟨Nat.le_of_ble_eq_true rfl, Nat.le_of_ble_eq_true rfl⟩ rfl rfl (fun f H locs hX hI => ?_)
  refine lv_ldc2 (v := (-7000003)) C.x C.b C.ow (C.ts _ (List.mem_cons_of_mem _ lkC_4)) dL_nets_222 ?_
  refine k_lcmp_ne (tgt := 245) C.x C.b dL_nets_225 dL_nets_226 (by decide) (fun q9 => absurd (by decide) q9) (fun _ => ?_)
  refine lv_aload_n C.x C.b dL_nets_229 rfl (lv_at hl 0 rfl) ?_
  refine lv_iconst (v := (nI 1)) C.x C.b dL_nets_230 (by decide) ?_
  refine lv_iconst (v := (nI 3)) C.x C.b dL_nets_231 (by decide) ?_
  refine lv_iconst (v := (nI 4)) C.x C.b dL_nets_232 (by decide) ?_
  refine lv_iconst (v := (nI 0)) C.x C.b dL_nets_233 (by decide) ?_
  refine lv_iconst (v := (nI 0)) C.x C.b dL_nets_234 (by decide) ?_
  refine k_actI (As := [.ref h, .int (nI 1), .int (nI 3), .int (nI 4), .int (nI 0), .int (nI 0)]) (rest := []) (c2 := 4556) (s2 := 36856) (v := (-7000003)) (m1 := hS_nets_1) C hX (act_1 hI.hd (nI 3) (nI 4) (nI 0) (nI 0) (iop_flip hst hI (nI 3) (nI 4))) (e_flip_s (by decide +kernel) (by decide +kernel)) (rfl) (gl_up inv_L_act) rfl hl.1 rfl (by decide) dL_nets_235 ⟨Nat.le_of_ble_eq_true rfl, Nat.le_of_ble_eq_true rfl⟩ ⟨Nat.le_of_ble_eq_true rfl, Nat.le_of_ble_eq_true rfl⟩ rfl rfl (fun f H locs hX hI => ?_)
  refine lv_ldc2 (v := (-7000003)) C.x C.b C.ow (C.ts _ (List.mem_cons_of_mem _ lkC_4)) dL_nets_238 ?_
  refine k_lcmp_eq (tgt := 247) C.x C.b dL_nets_241 dL_nets_242 (by decide) (fun _ => ?_) (fun q9 => absurd (by decide) q9)
  refine lv_aload_n C.x C.b dL_nets_247 rfl (lv_at hl 0 rfl) ?_
  refine lv_iconst (v := (nI 0)) C.x C.b dL_nets_248 (by decide) ?_
  refine lv_iconst (v := (nI 1)) C.x C.b dL_nets_249 (by decide) ?_
  refine k_cI (As := [.int (nI 0), .int (nI 1)]) (rest := []) (c2 := 4564) (s2 := 36920) (v := (nI 304)) (m1 := hS_nets_2) C hX (iop_flip hst hI (nI 0) (nI 1)) (ev_flip 0 1 4 3 0 1 304 (by decide +kernel) (by decide +kernel) (by decide) (by decide) (by decide +kernel) (by decide +kernel) (by decide +kernel) (by decide +kernel) (by decide) rfl) hI.hd (gl_up inv_X8_flip) rfl ⟨rfl, hdA_X8_flip⟩ (by decide) rfl hl.1 rfl (by decide) dL_nets_250 ⟨Nat.le_of_ble_eq_true rfl, Nat.le_of_ble_eq_true rfl⟩ ⟨Nat.le_of_ble_eq_true rfl, Nat.le_of_ble_eq_true rfl⟩ rfl rfl (fun f H locs hX hI => ?_)
  refine lv_sipush (v := (nI 304)) C.x C.b dL_nets_253 (by decide) ?_
  refine lv_icmp_ne (tgt := 438) C.x C.b dL_nets_256 (by decide) (fun q9 => absurd (by decide) q9) (fun _ => ?_)
  refine lv_aload_n C.x C.b dL_nets_259 rfl (lv_at hl 0 rfl) ?_
  refine lv_iconst (v := (nI 5)) C.x C.b dL_nets_260 (by decide) ?_
  refine lv_iconst (v := (nI 3)) C.x C.b dL_nets_261 (by decide) ?_
  refine lv_iconst (v := (nI 4)) C.x C.b dL_nets_262 (by decide) ?_
  refine k_law (As := [.ref h, .int (nI 5), .int (nI 3), .int (nI 4)]) (rest := []) (c2 := 4644) (s2 := 37560) (m1 := hS_nets_2) C hX (pL_net hst hI (nI 5) (nI 3) (nI 4) (ev_net (by decide +kernel) (by decide +kernel)) (ev_net (by decide +kernel) (by decide +kernel)) (ev_net (by decide +kernel) (by decide +kernel)) (ev_net (by decide +kernel) (by decide +kernel)) (ev_net (by decide +kernel) (by decide +kernel))) (gl_up inv_L_net) rfl rfl rfl hdP_L_net ⟨Nat.le_of_ble_eq_true rfl, Nat.le_of_ble_eq_true rfl⟩ rfl hl.1 rfl (by decide) dL_nets_263 ⟨Nat.le_of_ble_eq_true rfl, Nat.le_of_ble_eq_true rfl⟩ rfl rfl (fun f H locs hX hI => ?_)
  refine lv_if_eq (tgt := 438) C.x C.b dL_nets_266 (by decide) (fun q9 => absurd q9 (by decide)) (fun _ => ?_)
  refine lv_aload_n C.x C.b dL_nets_269 rfl (lv_at hl 0 rfl) ?_
  refine lv_iconst (v := (nI 0)) C.x C.b dL_nets_270 (by decide) ?_
  refine lv_iconst (v := (nI 0)) C.x C.b dL_nets_271 (by decide) ?_
  refine lv_iconst (v := (nI 3)) C.x C.b dL_nets_272 (by decide) ?_
  refine lv_iconst (v := (nI 4)) C.x C.b dL_nets_273 (by decide) ?_
  refine k_law (As := [.ref h, .int (nI 0), .int (nI 0), .int (nI 3), .int (nI 4)]) (rest := []) (c2 := 4724) (s2 := 38200) (m1 := hS_nets_2) C hX (pL_face hst hI (nI 0) (nI 0) (nI 3) (nI 4) (ev_corner (by decide +kernel) (by decide +kernel)) (ev_corner (by decide +kernel) (by decide +kernel)) (ev_corner (by decide +kernel) (by decide +kernel))) (gl_up inv_L_face) rfl rfl rfl hdP_L_face ⟨Nat.le_of_ble_eq_true rfl, Nat.le_of_ble_eq_true rfl⟩ rfl hl.1 rfl (by decide) dL_nets_274 ⟨Nat.le_of_ble_eq_true rfl, Nat.le_of_ble_eq_true rfl⟩ rfl rfl (fun f H locs hX hI => ?_)
  refine lv_if_eq (tgt := 438) C.x C.b dL_nets_277 (by decide) (fun q9 => absurd q9 (by decide)) (fun _ => ?_)
  refine lv_aload_n C.x C.b dL_nets_280 rfl (lv_at hl 0 rfl) ?_
  refine lv_iconst (v := (nI 1)) C.x C.b dL_nets_281 (by decide) ?_
  refine lv_iconst (v := (nI 1)) C.x C.b dL_nets_282 (by decide) ?_
  refine lv_iconst (v := (nI 4)) C.x C.b dL_nets_283 (by decide) ?_
  refine lv_iconst (v := (nI 3)) C.x C.b dL_nets_284 (by decide) ?_
  refine k_law (As := [.ref h, .int (nI 1), .int (nI 1), .int (nI 4), .int (nI 3)]) (rest := []) (c2 := 4804) (s2 := 38840) (m1 := hS_nets_2) C hX (pL_face hst hI (nI 1) (nI 1) (nI 4) (nI 3) (ev_corner (by decide +kernel) (by decide +kernel)) (ev_corner (by decide +kernel) (by decide +kernel)) (ev_corner (by decide +kernel) (by decide +kernel))) (gl_up inv_L_face) rfl rfl rfl hdP_L_face ⟨Nat.le_of_ble_eq_true rfl, Nat.le_of_ble_eq_true rfl⟩ rfl hl.1 rfl (by decide) dL_nets_285 ⟨Nat.le_of_ble_eq_true rfl, Nat.le_of_ble_eq_true rfl⟩ rfl rfl (fun f H locs hX hI => ?_)
  refine lv_if_eq (tgt := 438) C.x C.b dL_nets_288 (by decide) (fun q9 => absurd q9 (by decide)) (fun _ => ?_)
  refine lv_aload_n C.x C.b dL_nets_291 rfl (lv_at hl 0 rfl) ?_
  refine lv_iconst (v := (nI 0)) C.x C.b dL_nets_292 (by decide) ?_
  refine lv_sipush (v := (nI 432)) C.x C.b dL_nets_293 (by decide) ?_
  refine lv_iconst (v := (nI 3)) C.x C.b dL_nets_296 (by decide) ?_
  refine k_law (As := [.ref h, .int (nI 0), .int (nI 432), .int (nI 3)]) (rest := []) (c2 := 4884) (s2 := 39480) (m1 := hS_nets_2) C hX (pL_around_0_432_3 hst hI (ev_around_y (by decide +kernel) (by decide +kernel) (by decide +kernel)) (ev_around_y (by decide +kernel) (by decide +kernel) (by decide +kernel)) (ev_around_y (by decide +kernel) (by decide +kernel) (by decide +kernel)) (ev_around_n (by decide +kernel) (by decide +kernel)) (ev_around_n (by decide +kernel) (by decide +kernel))) (gl_up inv_L_around) rfl rfl rfl hdP_L_around ⟨Nat.le_of_ble_eq_true rfl, Nat.le_of_ble_eq_true rfl⟩ rfl hl.1 rfl (by decide) dL_nets_297 ⟨Nat.le_of_ble_eq_true rfl, Nat.le_of_ble_eq_true rfl⟩ rfl rfl (fun f H locs hX hI => ?_)
  refine lv_if_eq (tgt := 438) C.x C.b dL_nets_300 (by decide) (fun q9 => absurd q9 (by decide)) (fun _ => ?_)
  refine lv_aload_n C.x C.b dL_nets_303 rfl (lv_at hl 0 rfl) ?_
  refine lv_iconst (v := (nI 3)) C.x C.b dL_nets_304 (by decide) ?_
  refine lv_sipush (v := (nI 4120)) C.x C.b dL_nets_305 (by decide) ?_
  refine lv_iconst (v := (nI 4)) C.x C.b dL_nets_308 (by decide) ?_
  refine k_law (As := [.ref h, .int (nI 3), .int (nI 4120), .int (nI 4)]) (rest := []) (c2 := 4964) (s2 := 40120) (m1 := hS_nets_2) C hX (pL_around_3_4120_4 hst hI (ev_around_y (by decide +kernel) (by decide +kernel) (by decide +kernel)) (ev_around_y (by decide +kernel) (by decide +kernel) (by decide +kernel)) (ev_around_y (by decide +kernel) (by decide +kernel) (by decide +kernel)) (ev_around_y (by decide +kernel) (by decide +kernel) (by decide +kernel)) (ev_around_n (by decide +kernel) (by decide +kernel)) (ev_around_n (by decide +kernel) (by decide +kernel))) (gl_up inv_L_around) rfl rfl rfl hdP_L_around ⟨Nat.le_of_ble_eq_true rfl, Nat.le_of_ble_eq_true rfl⟩ rfl hl.1 rfl (by decide) dL_nets_309 ⟨Nat.le_of_ble_eq_true rfl, Nat.le_of_ble_eq_true rfl⟩ rfl rfl (fun f H locs hX hI => ?_)
  refine lv_if_eq (tgt := 438) C.x C.b dL_nets_312 (by decide) (fun q9 => absurd q9 (by decide)) (fun _ => ?_)
  refine lv_aload_n C.x C.b dL_nets_315 rfl (lv_at hl 0 rfl) ?_
  refine lv_iconst (v := (nI 1)) C.x C.b dL_nets_316 (by decide) ?_
  refine lv_iconst (v := (nI 0)) C.x C.b dL_nets_317 (by decide) ?_
  refine lv_iconst (v := (nI 1)) C.x C.b dL_nets_318 (by decide) ?_
  refine lv_iconst (v := (nI 0)) C.x C.b dL_nets_319 (by decide) ?_
  refine lv_iconst (v := (nI 0)) C.x C.b dL_nets_320 (by decide) ?_
  refine k_actI (As := [.ref h, .int (nI 1), .int (nI 0), .int (nI 1), .int (nI 0), .int (nI 0)]) (rest := []) (c2 := 4972) (s2 := 40184) (v := (-7000003)) (m1 := hS_nets_2) C hX (act_1 hI.hd (nI 0) (nI 1) (nI 0) (nI 0) (iop_flip hst hI (nI 0) (nI 1))) (e_flip_s (by decide +kernel) (by decide +kernel)) (rfl) (gl_up inv_L_act) rfl hl.1 rfl (by decide) dL_nets_321 ⟨Nat.le_of_ble_eq_true rfl, Nat.le_of_ble_eq_true rfl⟩ ⟨Nat.le_of_ble_eq_true rfl, Nat.le_of_ble_eq_true rfl⟩ rfl rfl (fun f H locs hX hI => ?_)
  refine lv_ldc2 (v := (-7000003)) C.x C.b C.ow (C.ts _ (List.mem_cons_of_mem _ lkC_4)) dL_nets_324 ?_
  refine k_lcmp_ne (tgt := 438) C.x C.b dL_nets_327 dL_nets_328 (by decide) (fun q9 => absurd (by decide) q9) (fun _ => ?_)
  refine lv_aload_n C.x C.b dL_nets_331 rfl (lv_at hl 0 rfl) ?_
  refine lv_iconst (v := (nI 4)) C.x C.b dL_nets_332 (by decide) ?_
  refine lv_iconst (v := (nI 3)) C.x C.b dL_nets_333 (by decide) ?_
  refine k_cI (As := [.int (nI 4), .int (nI 3)]) (rest := []) (c2 := 4980) (s2 := 40248) (v := (nI 1)) (m1 := hS_nets_3) C hX (iop_flip hst hI (nI 4) (nI 3)) (ev_flip 4 3 1 0 1 0 1 (by decide +kernel) (by decide +kernel) (by decide) (by decide) (by decide +kernel) (by decide +kernel) (by decide +kernel) (by decide +kernel) (by decide) rfl) hI.hd (gl_up inv_X8_flip) rfl ⟨rfl, hdA_X8_flip⟩ (by decide) rfl hl.1 rfl (by decide) dL_nets_334 ⟨Nat.le_of_ble_eq_true rfl, Nat.le_of_ble_eq_true rfl⟩ ⟨Nat.le_of_ble_eq_true rfl, Nat.le_of_ble_eq_true rfl⟩ rfl rfl (fun f H locs hX hI => ?_)
  refine lv_iconst (v := (nI 1)) C.x C.b dL_nets_337 (by decide) ?_
  refine lv_icmp_ne (tgt := 438) C.x C.b dL_nets_338 (by decide) (fun q9 => absurd (by decide) q9) (fun _ => ?_)
  refine lv_aload_n C.x C.b dL_nets_341 rfl (lv_at hl 0 rfl) ?_
  refine lv_iconst (v := (nI 5)) C.x C.b dL_nets_342 (by decide) ?_
  refine lv_iconst (v := (nI 3)) C.x C.b dL_nets_343 (by decide) ?_
  refine lv_iconst (v := (nI 4)) C.x C.b dL_nets_344 (by decide) ?_
  refine k_law (As := [.ref h, .int (nI 5), .int (nI 3), .int (nI 4)]) (rest := []) (c2 := 5060) (s2 := 40888) (m1 := hS_nets_3) C hX (pL_net hst hI (nI 5) (nI 3) (nI 4) (ev_net (by decide +kernel) (by decide +kernel)) (ev_net (by decide +kernel) (by decide +kernel)) (ev_net (by decide +kernel) (by decide +kernel)) (ev_net (by decide +kernel) (by decide +kernel)) (ev_net (by decide +kernel) (by decide +kernel))) (gl_up inv_L_net) rfl rfl rfl hdP_L_net ⟨Nat.le_of_ble_eq_true rfl, Nat.le_of_ble_eq_true rfl⟩ rfl hl.1 rfl (by decide) dL_nets_345 ⟨Nat.le_of_ble_eq_true rfl, Nat.le_of_ble_eq_true rfl⟩ rfl rfl (fun f H locs hX hI => ?_)
  refine lv_if_eq (tgt := 438) C.x C.b dL_nets_348 (by decide) (fun q9 => absurd q9 (by decide)) (fun _ => ?_)
  refine lv_aload_n C.x C.b dL_nets_351 rfl (lv_at hl 0 rfl) ?_
  refine lv_iconst (v := (nI 0)) C.x C.b dL_nets_352 (by decide) ?_
  refine lv_iconst (v := (nI 0)) C.x C.b dL_nets_353 (by decide) ?_
  refine lv_iconst (v := (nI 3)) C.x C.b dL_nets_354 (by decide) ?_
  refine lv_iconst (v := (nI 1)) C.x C.b dL_nets_355 (by decide) ?_
  refine k_law (As := [.ref h, .int (nI 0), .int (nI 0), .int (nI 3), .int (nI 1)]) (rest := []) (c2 := 5140) (s2 := 41528) (m1 := hS_nets_3) C hX (pL_face hst hI (nI 0) (nI 0) (nI 3) (nI 1) (ev_corner (by decide +kernel) (by decide +kernel)) (ev_corner (by decide +kernel) (by decide +kernel)) (ev_corner (by decide +kernel) (by decide +kernel))) (gl_up inv_L_face) rfl rfl rfl hdP_L_face ⟨Nat.le_of_ble_eq_true rfl, Nat.le_of_ble_eq_true rfl⟩ rfl hl.1 rfl (by decide) dL_nets_356 ⟨Nat.le_of_ble_eq_true rfl, Nat.le_of_ble_eq_true rfl⟩ rfl rfl (fun f H locs hX hI => ?_)
  refine lv_if_eq (tgt := 438) C.x C.b dL_nets_359 (by decide) (fun q9 => absurd q9 (by decide)) (fun _ => ?_)
  refine lv_aload_n C.x C.b dL_nets_362 rfl (lv_at hl 0 rfl) ?_
  refine lv_iconst (v := (nI 1)) C.x C.b dL_nets_363 (by decide) ?_
  refine lv_iconst (v := (nI 0)) C.x C.b dL_nets_364 (by decide) ?_
  refine lv_iconst (v := (nI 1)) C.x C.b dL_nets_365 (by decide) ?_
  refine lv_iconst (v := (nI 4)) C.x C.b dL_nets_366 (by decide) ?_
  refine k_law (As := [.ref h, .int (nI 1), .int (nI 0), .int (nI 1), .int (nI 4)]) (rest := []) (c2 := 5220) (s2 := 42168) (m1 := hS_nets_3) C hX (pL_face hst hI (nI 1) (nI 0) (nI 1) (nI 4) (ev_corner (by decide +kernel) (by decide +kernel)) (ev_corner (by decide +kernel) (by decide +kernel)) (ev_corner (by decide +kernel) (by decide +kernel))) (gl_up inv_L_face) rfl rfl rfl hdP_L_face ⟨Nat.le_of_ble_eq_true rfl, Nat.le_of_ble_eq_true rfl⟩ rfl hl.1 rfl (by decide) dL_nets_367 ⟨Nat.le_of_ble_eq_true rfl, Nat.le_of_ble_eq_true rfl⟩ rfl rfl (fun f H locs hX hI => ?_)
  refine lv_if_eq (tgt := 438) C.x C.b dL_nets_370 (by decide) (fun q9 => absurd q9 (by decide)) (fun _ => ?_)
  refine lv_aload_n C.x C.b dL_nets_373 rfl (lv_at hl 0 rfl) ?_
  refine lv_iconst (v := (nI 0)) C.x C.b dL_nets_374 (by decide) ?_
  refine lv_sipush (v := (nI 3241)) C.x C.b dL_nets_375 (by decide) ?_
  refine lv_iconst (v := (nI 4)) C.x C.b dL_nets_378 (by decide) ?_
  refine k_law (As := [.ref h, .int (nI 0), .int (nI 3241), .int (nI 4)]) (rest := []) (c2 := 5300) (s2 := 42808) (m1 := hS_nets_3) C hX (pL_around_0_3241_4 hst hI (ev_around_y (by decide +kernel) (by decide +kernel) (by decide +kernel)) (ev_around_y (by decide +kernel) (by decide +kernel) (by decide +kernel)) (ev_around_y (by decide +kernel) (by decide +kernel) (by decide +kernel)) (ev_around_y (by decide +kernel) (by decide +kernel) (by decide +kernel)) (ev_around_n (by decide +kernel) (by decide +kernel)) (ev_around_n (by decide +kernel) (by decide +kernel))) (gl_up inv_L_around) rfl rfl rfl hdP_L_around ⟨Nat.le_of_ble_eq_true rfl, Nat.le_of_ble_eq_true rfl⟩ rfl hl.1 rfl (by decide) dL_nets_379 ⟨Nat.le_of_ble_eq_true rfl, Nat.le_of_ble_eq_true rfl⟩ rfl rfl (fun f H locs hX hI => ?_)
  refine lv_if_eq (tgt := 438) C.x C.b dL_nets_382 (by decide) (fun q9 => absurd q9 (by decide)) (fun _ => ?_)
  refine lv_aload_n C.x C.b dL_nets_385 rfl (lv_at hl 0 rfl) ?_
  refine lv_iconst (v := (nI 1)) C.x C.b dL_nets_386 (by decide) ?_
  refine k_cI (As := [.int (nI 1)]) (rest := []) (c2 := 5308) (s2 := 42872) (v := (nI 5)) (m1 := hS_nets_4) C hX (iop_split hst hI (nI 1)) (ev_split 1 0 1 4 5 6 (by decide) (by decide) (by decide) rfl rfl (by decide +kernel) (by decide +kernel) (by decide +kernel) rfl) hI.hd (gl_up inv_X8_split) rfl ⟨rfl, hdA_X8_split⟩ (by decide) rfl hl.1 rfl (by decide) dL_nets_387 ⟨Nat.le_of_ble_eq_true rfl, Nat.le_of_ble_eq_true rfl⟩ ⟨Nat.le_of_ble_eq_true rfl, Nat.le_of_ble_eq_true rfl⟩ rfl rfl (fun f H locs hX hI => ?_)
  refine lv_iconst (v := (nI 5)) C.x C.b dL_nets_390 (by decide) ?_
  refine lv_icmp_ne (tgt := 438) C.x C.b dL_nets_391 (by decide) (fun q9 => absurd (by decide) q9) (fun _ => ?_)
  refine lv_aload_n C.x C.b dL_nets_394 rfl (lv_at hl 0 rfl) ?_
  refine lv_iconst (v := (nI 1)) C.x C.b dL_nets_395 (by decide) ?_
  refine lv_iconst (v := (nI 0)) C.x C.b dL_nets_396 (by decide) ?_
  refine lv_iconst (v := (nI 1)) C.x C.b dL_nets_397 (by decide) ?_
  refine lv_iconst (v := (nI 5)) C.x C.b dL_nets_398 (by decide) ?_
  refine k_law (As := [.ref h, .int (nI 1), .int (nI 0), .int (nI 1), .int (nI 5)]) (rest := []) (c2 := 5388) (s2 := 43512) (m1 := hS_nets_4) C hX (pL_face hst hI (nI 1) (nI 0) (nI 1) (nI 5) (ev_corner (by decide +kernel) (by decide +kernel)) (ev_corner (by decide +kernel) (by decide +kernel)) (ev_corner (by decide +kernel) (by decide +kernel))) (gl_up inv_L_face) rfl rfl rfl hdP_L_face ⟨Nat.le_of_ble_eq_true rfl, Nat.le_of_ble_eq_true rfl⟩ rfl hl.1 rfl (by decide) dL_nets_399 ⟨Nat.le_of_ble_eq_true rfl, Nat.le_of_ble_eq_true rfl⟩ rfl rfl (fun f H locs hX hI => ?_)
  refine lv_if_eq (tgt := 438) C.x C.b dL_nets_402 (by decide) (fun q9 => absurd q9 (by decide)) (fun _ => ?_)
  refine lv_aload_n C.x C.b dL_nets_405 rfl (lv_at hl 0 rfl) ?_
  refine lv_bipush (v := (nI 6)) C.x C.b dL_nets_406 (by decide) ?_
  refine lv_iconst (v := (nI 1)) C.x C.b dL_nets_408 (by decide) ?_
  refine lv_iconst (v := (nI 4)) C.x C.b dL_nets_409 (by decide) ?_
  refine lv_iconst (v := (nI 5)) C.x C.b dL_nets_410 (by decide) ?_
  refine k_law (As := [.ref h, .int (nI 6), .int (nI 1), .int (nI 4), .int (nI 5)]) (rest := []) (c2 := 5468) (s2 := 44152) (m1 := hS_nets_4) C hX (pL_face hst hI (nI 6) (nI 1) (nI 4) (nI 5) (ev_corner (by decide +kernel) (by decide +kernel)) (ev_corner (by decide +kernel) (by decide +kernel)) (ev_corner (by decide +kernel) (by decide +kernel))) (gl_up inv_L_face) rfl rfl rfl hdP_L_face ⟨Nat.le_of_ble_eq_true rfl, Nat.le_of_ble_eq_true rfl⟩ rfl hl.1 rfl (by decide) dL_nets_411 ⟨Nat.le_of_ble_eq_true rfl, Nat.le_of_ble_eq_true rfl⟩ rfl rfl (fun f H locs hX hI => ?_)
  refine lv_if_eq (tgt := 438) C.x C.b dL_nets_414 (by decide) (fun q9 => absurd q9 (by decide)) (fun _ => ?_)
  refine lv_aload_n C.x C.b dL_nets_417 rfl (lv_at hl 0 rfl) ?_
  refine lv_bipush (v := (nI 7)) C.x C.b dL_nets_418 (by decide) ?_
  refine lv_iconst (v := (nI 0)) C.x C.b dL_nets_420 (by decide) ?_
  refine lv_iconst (v := (nI 5)) C.x C.b dL_nets_421 (by decide) ?_
  refine lv_iconst (v := (nI 4)) C.x C.b dL_nets_422 (by decide) ?_
  refine k_law (As := [.ref h, .int (nI 7), .int (nI 0), .int (nI 5), .int (nI 4)]) (rest := []) (c2 := 5548) (s2 := 44792) (m1 := hS_nets_4) C hX (pL_face hst hI (nI 7) (nI 0) (nI 5) (nI 4) (ev_corner (by decide +kernel) (by decide +kernel)) (ev_corner (by decide +kernel) (by decide +kernel)) (ev_corner (by decide +kernel) (by decide +kernel))) (gl_up inv_L_face) rfl rfl rfl hdP_L_face ⟨Nat.le_of_ble_eq_true rfl, Nat.le_of_ble_eq_true rfl⟩ rfl hl.1 rfl (by decide) dL_nets_423 ⟨Nat.le_of_ble_eq_true rfl, Nat.le_of_ble_eq_true rfl⟩ rfl rfl (fun f H locs hX hI => ?_)
  refine lv_if_eq (tgt := 438) C.x C.b dL_nets_426 (by decide) (fun q9 => absurd q9 (by decide)) (fun _ => ?_)
  refine lv_aload_n C.x C.b dL_nets_429 rfl (lv_at hl 0 rfl) ?_
  refine lv_iconst (v := (nI 4)) C.x C.b dL_nets_430 (by decide) ?_
  refine k_cI (As := [.int (nI 4)]) (rest := []) (c2 := 5556) (s2 := 44856) (v := (nI 5)) (m1 := hS_nets_4) C hX (iop_net hst hI (nI 4)) (ev_net (by decide +kernel) (by decide +kernel)) hI.hd (gl_up inv_X8_net) rfl ⟨rfl, hdA_X8_net⟩ (by decide) rfl hl.1 rfl (by decide) dL_nets_431 ⟨Nat.le_of_ble_eq_true rfl, Nat.le_of_ble_eq_true rfl⟩ ⟨Nat.le_of_ble_eq_true rfl, Nat.le_of_ble_eq_true rfl⟩ rfl rfl (fun f H locs hX hI => ?_)
  refine lv_iconst (v := (nI 5)) C.x C.b dL_nets_434 (by decide) ?_
  refine lv_icmp_eq (tgt := 440) C.x C.b dL_nets_435 (by decide) (fun _ => ?_) (fun q9 => absurd (by decide) q9)
  refine lv_bipush (v := (nI 6)) C.x C.b dL_nets_440 (by decide) ?_
  refine lv_istore_n (lv' := [(1, .int (nI 6)), (0, .ref h)]) C.x C.b dL_nets_442 rfl hl (by decide) rfl (fun ls hl => ?_)
  refine lv_iload_n C.x C.b dL_nets_443 rfl (lv_at hl 0 rfl) ?_
  refine lv_bipush (v := (nI 17)) C.x C.b dL_nets_444 (by decide) ?_
  refine lv_icmp_ge (tgt := 485) C.x C.b dL_nets_446 (by decide) (fun q9 => absurd q9 (by decide)) (fun _ => ?_)
  refine lv_aload_n C.x C.b dL_nets_449 rfl (lv_at hl 1 rfl) ?_
  refine lv_iconst (v := (nI 0)) C.x C.b dL_nets_450 (by decide) ?_
  refine lv_iload_n C.x C.b dL_nets_451 rfl (lv_at hl 0 rfl) ?_
  refine lv_iconst (v := (nI 5)) C.x C.b dL_nets_452 (by decide) ?_
  refine lv_irem C.x C.b dL_nets_453 (by decide) ?_
  refine k_topi (y := (nI 1)) (by decide) ?_
  refine lv_iconst (v := (nI 0)) C.x C.b dL_nets_454 (by decide) ?_
  refine lv_iconst (v := (nI 0)) C.x C.b dL_nets_455 (by decide) ?_
  refine lv_iconst (v := (nI 0)) C.x C.b dL_nets_456 (by decide) ?_
  refine k_actI (As := [.ref h, .int (nI 0), .int (nI 1), .int (nI 0), .int (nI 0), .int (nI 0)]) (rest := []) (c2 := 5564) (s2 := 44920) (v := 6) (m1 := hS_nets_5) C hX (act_0 hI.hd (nI 1) (nI 0) (nI 0) (nI 0) (iop_split hst hI (nI 1))) (ev_split 1 0 1 5 6 8 (by decide) (by decide) (by decide) rfl rfl (by decide +kernel) (by decide +kernel) (by decide +kernel) rfl) (rfl) (gl_up inv_L_act) rfl hl.1 rfl (by decide) dL_nets_457 ⟨Nat.le_of_ble_eq_true rfl, Nat.le_of_ble_eq_true rfl⟩ ⟨Nat.le_of_ble_eq_true rfl, Nat.le_of_ble_eq_true rfl⟩ rfl rfl (fun f H locs hX hI => ?_)
  refine lv_iload_n C.x C.b dL_nets_460 rfl (lv_at hl 0 rfl) ?_
  refine lv_bipush (v := (nI 16)) C.x C.b dL_nets_461 (by decide) ?_
  refine lv_icmp_ge (tgt := 470) C.x C.b dL_nets_463 (by decide) (fun q9 => absurd q9 (by decide)) (fun _ => ?_)
  refine lv_iload_n C.x C.b dL_nets_466 rfl (lv_at hl 0 rfl) ?_
  refine lv_goto (tgt := 472) C.x C.b dL_nets_467 (by decide) ?_
  refine lv_i2l (v := (nI 6).toInt64) C.x C.b dL_nets_472 rfl ?_
  refine k_topl (y := 6) (by decide) ?_
  refine k_lcmp_eq (tgt := 479) C.x C.b dL_nets_473 dL_nets_474 (by decide) (fun _ => ?_) (fun q9 => absurd (by decide) q9)
  refine lv_iinc (v := (nI 7)) (lv' := [(1, .int (nI 7)), (0, .ref h)]) C.x C.b dL_nets_479 hl (k := 0) rfl (by decide) (by decide) rfl (fun ls hl => ?_)
  refine lv_goto (tgt := 443) C.x C.b dL_nets_482 (by decide) ?_
  refine lv_iload_n C.x C.b dL_nets_443 rfl (lv_at hl 0 rfl) ?_
  refine lv_bipush (v := (nI 17)) C.x C.b dL_nets_444 (by decide) ?_
  refine lv_icmp_ge (tgt := 485) C.x C.b dL_nets_446 (by decide) (fun q9 => absurd q9 (by decide)) (fun _ => ?_)
  refine lv_aload_n C.x C.b dL_nets_449 rfl (lv_at hl 1 rfl) ?_
  refine lv_iconst (v := (nI 0)) C.x C.b dL_nets_450 (by decide) ?_
  refine lv_iload_n C.x C.b dL_nets_451 rfl (lv_at hl 0 rfl) ?_
  refine lv_iconst (v := (nI 5)) C.x C.b dL_nets_452 (by decide) ?_
  refine lv_irem C.x C.b dL_nets_453 (by decide) ?_
  refine k_topi (y := (nI 2)) (by decide) ?_
  refine lv_iconst (v := (nI 0)) C.x C.b dL_nets_454 (by decide) ?_
  refine lv_iconst (v := (nI 0)) C.x C.b dL_nets_455 (by decide) ?_
  refine lv_iconst (v := (nI 0)) C.x C.b dL_nets_456 (by decide) ?_
  refine k_actI (As := [.ref h, .int (nI 0), .int (nI 2), .int (nI 0), .int (nI 0), .int (nI 0)]) (rest := []) (c2 := 5572) (s2 := 44984) (v := 7) (m1 := hS_nets_6) C hX (act_0 hI.hd (nI 2) (nI 0) (nI 0) (nI 0) (iop_split hst hI (nI 2))) (ev_split 2 1 3 2 7 10 (by decide) (by decide) (by decide) rfl rfl (by decide +kernel) (by decide +kernel) (by decide +kernel) rfl) (rfl) (gl_up inv_L_act) rfl hl.1 rfl (by decide) dL_nets_457 ⟨Nat.le_of_ble_eq_true rfl, Nat.le_of_ble_eq_true rfl⟩ ⟨Nat.le_of_ble_eq_true rfl, Nat.le_of_ble_eq_true rfl⟩ rfl rfl (fun f H locs hX hI => ?_)
  refine lv_iload_n C.x C.b dL_nets_460 rfl (lv_at hl 0 rfl) ?_
  refine lv_bipush (v := (nI 16)) C.x C.b dL_nets_461 (by decide) ?_
  refine lv_icmp_ge (tgt := 470) C.x C.b dL_nets_463 (by decide) (fun q9 => absurd q9 (by decide)) (fun _ => ?_)
  refine lv_iload_n C.x C.b dL_nets_466 rfl (lv_at hl 0 rfl) ?_
  refine lv_goto (tgt := 472) C.x C.b dL_nets_467 (by decide) ?_
  refine lv_i2l (v := (nI 7).toInt64) C.x C.b dL_nets_472 rfl ?_
  refine k_topl (y := 7) (by decide) ?_
  refine k_lcmp_eq (tgt := 479) C.x C.b dL_nets_473 dL_nets_474 (by decide) (fun _ => ?_) (fun q9 => absurd (by decide) q9)
  refine lv_iinc (v := (nI 8)) (lv' := [(1, .int (nI 8)), (0, .ref h)]) C.x C.b dL_nets_479 hl (k := 0) rfl (by decide) (by decide) rfl (fun ls hl => ?_)
  refine lv_goto (tgt := 443) C.x C.b dL_nets_482 (by decide) ?_
  refine lv_iload_n C.x C.b dL_nets_443 rfl (lv_at hl 0 rfl) ?_
  refine lv_bipush (v := (nI 17)) C.x C.b dL_nets_444 (by decide) ?_
  refine lv_icmp_ge (tgt := 485) C.x C.b dL_nets_446 (by decide) (fun q9 => absurd q9 (by decide)) (fun _ => ?_)
  refine lv_aload_n C.x C.b dL_nets_449 rfl (lv_at hl 1 rfl) ?_
  refine lv_iconst (v := (nI 0)) C.x C.b dL_nets_450 (by decide) ?_
  refine lv_iload_n C.x C.b dL_nets_451 rfl (lv_at hl 0 rfl) ?_
  refine lv_iconst (v := (nI 5)) C.x C.b dL_nets_452 (by decide) ?_
  refine lv_irem C.x C.b dL_nets_453 (by decide) ?_
  refine k_topi (y := (nI 3)) (by decide) ?_
  refine lv_iconst (v := (nI 0)) C.x C.b dL_nets_454 (by decide) ?_
  refine lv_iconst (v := (nI 0)) C.x C.b dL_nets_455 (by decide) ?_
  refine lv_iconst (v := (nI 0)) C.x C.b dL_nets_456 (by decide) ?_
  refine k_actI (As := [.ref h, .int (nI 0), .int (nI 3), .int (nI 0), .int (nI 0), .int (nI 0)]) (rest := []) (c2 := 5580) (s2 := 45048) (v := 8) (m1 := hS_nets_7) C hX (act_0 hI.hd (nI 3) (nI 0) (nI 0) (nI 0) (iop_split hst hI (nI 3))) (ev_split 3 0 2 3 8 12 (by decide) (by decide) (by decide) rfl rfl (by decide +kernel) (by decide +kernel) (by decide +kernel) rfl) (rfl) (gl_up inv_L_act) rfl hl.1 rfl (by decide) dL_nets_457 ⟨Nat.le_of_ble_eq_true rfl, Nat.le_of_ble_eq_true rfl⟩ ⟨Nat.le_of_ble_eq_true rfl, Nat.le_of_ble_eq_true rfl⟩ rfl rfl (fun f H locs hX hI => ?_)
  refine lv_iload_n C.x C.b dL_nets_460 rfl (lv_at hl 0 rfl) ?_
  refine lv_bipush (v := (nI 16)) C.x C.b dL_nets_461 (by decide) ?_
  refine lv_icmp_ge (tgt := 470) C.x C.b dL_nets_463 (by decide) (fun q9 => absurd q9 (by decide)) (fun _ => ?_)
  refine lv_iload_n C.x C.b dL_nets_466 rfl (lv_at hl 0 rfl) ?_
  refine lv_goto (tgt := 472) C.x C.b dL_nets_467 (by decide) ?_
  refine lv_i2l (v := (nI 8).toInt64) C.x C.b dL_nets_472 rfl ?_
  refine k_topl (y := 8) (by decide) ?_
  refine k_lcmp_eq (tgt := 479) C.x C.b dL_nets_473 dL_nets_474 (by decide) (fun _ => ?_) (fun q9 => absurd (by decide) q9)
  refine lv_iinc (v := (nI 9)) (lv' := [(1, .int (nI 9)), (0, .ref h)]) C.x C.b dL_nets_479 hl (k := 0) rfl (by decide) (by decide) rfl (fun ls hl => ?_)
  refine lv_goto (tgt := 443) C.x C.b dL_nets_482 (by decide) ?_
  refine lv_iload_n C.x C.b dL_nets_443 rfl (lv_at hl 0 rfl) ?_
  refine lv_bipush (v := (nI 17)) C.x C.b dL_nets_444 (by decide) ?_
  refine lv_icmp_ge (tgt := 485) C.x C.b dL_nets_446 (by decide) (fun q9 => absurd q9 (by decide)) (fun _ => ?_)
  refine lv_aload_n C.x C.b dL_nets_449 rfl (lv_at hl 1 rfl) ?_
  refine lv_iconst (v := (nI 0)) C.x C.b dL_nets_450 (by decide) ?_
  refine lv_iload_n C.x C.b dL_nets_451 rfl (lv_at hl 0 rfl) ?_
  refine lv_iconst (v := (nI 5)) C.x C.b dL_nets_452 (by decide) ?_
  refine lv_irem C.x C.b dL_nets_453 (by decide) ?_
  refine k_topi (y := (nI 4)) (by decide) ?_
  refine lv_iconst (v := (nI 0)) C.x C.b dL_nets_454 (by decide) ?_
  refine lv_iconst (v := (nI 0)) C.x C.b dL_nets_455 (by decide) ?_
  refine lv_iconst (v := (nI 0)) C.x C.b dL_nets_456 (by decide) ?_
  refine k_actI (As := [.ref h, .int (nI 0), .int (nI 4), .int (nI 0), .int (nI 0), .int (nI 0)]) (rest := []) (c2 := 5588) (s2 := 45112) (v := 9) (m1 := hS_nets_8) C hX (act_0 hI.hd (nI 4) (nI 0) (nI 0) (nI 0) (iop_split hst hI (nI 4))) (ev_split 4 1 2 4 9 14 (by decide) (by decide) (by decide) rfl rfl (by decide +kernel) (by decide +kernel) (by decide +kernel) rfl) (rfl) (gl_up inv_L_act) rfl hl.1 rfl (by decide) dL_nets_457 ⟨Nat.le_of_ble_eq_true rfl, Nat.le_of_ble_eq_true rfl⟩ ⟨Nat.le_of_ble_eq_true rfl, Nat.le_of_ble_eq_true rfl⟩ rfl rfl (fun f H locs hX hI => ?_)
  refine lv_iload_n C.x C.b dL_nets_460 rfl (lv_at hl 0 rfl) ?_
  refine lv_bipush (v := (nI 16)) C.x C.b dL_nets_461 (by decide) ?_
  refine lv_icmp_ge (tgt := 470) C.x C.b dL_nets_463 (by decide) (fun q9 => absurd q9 (by decide)) (fun _ => ?_)
  refine lv_iload_n C.x C.b dL_nets_466 rfl (lv_at hl 0 rfl) ?_
  refine lv_goto (tgt := 472) C.x C.b dL_nets_467 (by decide) ?_
  refine lv_i2l (v := (nI 9).toInt64) C.x C.b dL_nets_472 rfl ?_
  refine k_topl (y := 9) (by decide) ?_
  refine k_lcmp_eq (tgt := 479) C.x C.b dL_nets_473 dL_nets_474 (by decide) (fun _ => ?_) (fun q9 => absurd (by decide) q9)
  refine lv_iinc (v := (nI 10)) (lv' := [(1, .int (nI 10)), (0, .ref h)]) C.x C.b dL_nets_479 hl (k := 0) rfl (by decide) (by decide) rfl (fun ls hl => ?_)
  refine lv_goto (tgt := 443) C.x C.b dL_nets_482 (by decide) ?_
  refine lv_iload_n C.x C.b dL_nets_443 rfl (lv_at hl 0 rfl) ?_
  refine lv_bipush (v := (nI 17)) C.x C.b dL_nets_444 (by decide) ?_
  refine lv_icmp_ge (tgt := 485) C.x C.b dL_nets_446 (by decide) (fun q9 => absurd q9 (by decide)) (fun _ => ?_)
  refine lv_aload_n C.x C.b dL_nets_449 rfl (lv_at hl 1 rfl) ?_
  refine lv_iconst (v := (nI 0)) C.x C.b dL_nets_450 (by decide) ?_
  refine lv_iload_n C.x C.b dL_nets_451 rfl (lv_at hl 0 rfl) ?_
  refine lv_iconst (v := (nI 5)) C.x C.b dL_nets_452 (by decide) ?_
  refine lv_irem C.x C.b dL_nets_453 (by decide) ?_
  refine k_topi (y := (nI 0)) (by decide) ?_
  refine lv_iconst (v := (nI 0)) C.x C.b dL_nets_454 (by decide) ?_
  refine lv_iconst (v := (nI 0)) C.x C.b dL_nets_455 (by decide) ?_
  refine lv_iconst (v := (nI 0)) C.x C.b dL_nets_456 (by decide) ?_
  refine k_actI (As := [.ref h, .int (nI 0), .int (nI 0), .int (nI 0), .int (nI 0), .int (nI 0)]) (rest := []) (c2 := 5596) (s2 := 45176) (v := 10) (m1 := hS_nets_9) C hX (act_0 hI.hd (nI 0) (nI 0) (nI 0) (nI 0) (iop_split hst hI (nI 0))) (ev_split 0 0 3 1 10 16 (by decide) (by decide) (by decide) rfl rfl (by decide +kernel) (by decide +kernel) (by decide +kernel) rfl) (rfl) (gl_up inv_L_act) rfl hl.1 rfl (by decide) dL_nets_457 ⟨Nat.le_of_ble_eq_true rfl, Nat.le_of_ble_eq_true rfl⟩ ⟨Nat.le_of_ble_eq_true rfl, Nat.le_of_ble_eq_true rfl⟩ rfl rfl (fun f H locs hX hI => ?_)
  refine lv_iload_n C.x C.b dL_nets_460 rfl (lv_at hl 0 rfl) ?_
  refine lv_bipush (v := (nI 16)) C.x C.b dL_nets_461 (by decide) ?_
  refine lv_icmp_ge (tgt := 470) C.x C.b dL_nets_463 (by decide) (fun q9 => absurd q9 (by decide)) (fun _ => ?_)
  refine lv_iload_n C.x C.b dL_nets_466 rfl (lv_at hl 0 rfl) ?_
  refine lv_goto (tgt := 472) C.x C.b dL_nets_467 (by decide) ?_
  refine lv_i2l (v := (nI 10).toInt64) C.x C.b dL_nets_472 rfl ?_
  refine k_topl (y := 10) (by decide) ?_
  refine k_lcmp_eq (tgt := 479) C.x C.b dL_nets_473 dL_nets_474 (by decide) (fun _ => ?_) (fun q9 => absurd (by decide) q9)
  refine lv_iinc (v := (nI 11)) (lv' := [(1, .int (nI 11)), (0, .ref h)]) C.x C.b dL_nets_479 hl (k := 0) rfl (by decide) (by decide) rfl (fun ls hl => ?_)
  refine lv_goto (tgt := 443) C.x C.b dL_nets_482 (by decide) ?_
  refine lv_iload_n C.x C.b dL_nets_443 rfl (lv_at hl 0 rfl) ?_
  refine lv_bipush (v := (nI 17)) C.x C.b dL_nets_444 (by decide) ?_
  refine lv_icmp_ge (tgt := 485) C.x C.b dL_nets_446 (by decide) (fun q9 => absurd q9 (by decide)) (fun _ => ?_)
  refine lv_aload_n C.x C.b dL_nets_449 rfl (lv_at hl 1 rfl) ?_
  refine lv_iconst (v := (nI 0)) C.x C.b dL_nets_450 (by decide) ?_
  refine lv_iload_n C.x C.b dL_nets_451 rfl (lv_at hl 0 rfl) ?_
  refine lv_iconst (v := (nI 5)) C.x C.b dL_nets_452 (by decide) ?_
  refine lv_irem C.x C.b dL_nets_453 (by decide) ?_
  refine k_topi (y := (nI 1)) (by decide) ?_
  refine lv_iconst (v := (nI 0)) C.x C.b dL_nets_454 (by decide) ?_
  refine lv_iconst (v := (nI 0)) C.x C.b dL_nets_455 (by decide) ?_
  refine lv_iconst (v := (nI 0)) C.x C.b dL_nets_456 (by decide) ?_
  refine k_actI (As := [.ref h, .int (nI 0), .int (nI 1), .int (nI 0), .int (nI 0), .int (nI 0)]) (rest := []) (c2 := 5604) (s2 := 45240) (v := 11) (m1 := hS_nets_10) C hX (act_0 hI.hd (nI 1) (nI 0) (nI 0) (nI 0) (iop_split hst hI (nI 1))) (ev_split 1 0 1 6 11 18 (by decide) (by decide) (by decide) rfl rfl (by decide +kernel) (by decide +kernel) (by decide +kernel) rfl) (rfl) (gl_up inv_L_act) rfl hl.1 rfl (by decide) dL_nets_457 ⟨Nat.le_of_ble_eq_true rfl, Nat.le_of_ble_eq_true rfl⟩ ⟨Nat.le_of_ble_eq_true rfl, Nat.le_of_ble_eq_true rfl⟩ rfl rfl (fun f H locs hX hI => ?_)
  refine lv_iload_n C.x C.b dL_nets_460 rfl (lv_at hl 0 rfl) ?_
  refine lv_bipush (v := (nI 16)) C.x C.b dL_nets_461 (by decide) ?_
  refine lv_icmp_ge (tgt := 470) C.x C.b dL_nets_463 (by decide) (fun q9 => absurd q9 (by decide)) (fun _ => ?_)
  refine lv_iload_n C.x C.b dL_nets_466 rfl (lv_at hl 0 rfl) ?_
  refine lv_goto (tgt := 472) C.x C.b dL_nets_467 (by decide) ?_
  refine lv_i2l (v := (nI 11).toInt64) C.x C.b dL_nets_472 rfl ?_
  refine k_topl (y := 11) (by decide) ?_
  refine k_lcmp_eq (tgt := 479) C.x C.b dL_nets_473 dL_nets_474 (by decide) (fun _ => ?_) (fun q9 => absurd (by decide) q9)
  refine lv_iinc (v := (nI 12)) (lv' := [(1, .int (nI 12)), (0, .ref h)]) C.x C.b dL_nets_479 hl (k := 0) rfl (by decide) (by decide) rfl (fun ls hl => ?_)
  refine lv_goto (tgt := 443) C.x C.b dL_nets_482 (by decide) ?_
  refine lv_iload_n C.x C.b dL_nets_443 rfl (lv_at hl 0 rfl) ?_
  refine lv_bipush (v := (nI 17)) C.x C.b dL_nets_444 (by decide) ?_
  refine lv_icmp_ge (tgt := 485) C.x C.b dL_nets_446 (by decide) (fun q9 => absurd q9 (by decide)) (fun _ => ?_)
  refine lv_aload_n C.x C.b dL_nets_449 rfl (lv_at hl 1 rfl) ?_
  refine lv_iconst (v := (nI 0)) C.x C.b dL_nets_450 (by decide) ?_
  refine lv_iload_n C.x C.b dL_nets_451 rfl (lv_at hl 0 rfl) ?_
  refine lv_iconst (v := (nI 5)) C.x C.b dL_nets_452 (by decide) ?_
  refine lv_irem C.x C.b dL_nets_453 (by decide) ?_
  refine k_topi (y := (nI 2)) (by decide) ?_
  refine lv_iconst (v := (nI 0)) C.x C.b dL_nets_454 (by decide) ?_
  refine lv_iconst (v := (nI 0)) C.x C.b dL_nets_455 (by decide) ?_
  refine lv_iconst (v := (nI 0)) C.x C.b dL_nets_456 (by decide) ?_
  refine k_actI (As := [.ref h, .int (nI 0), .int (nI 2), .int (nI 0), .int (nI 0), .int (nI 0)]) (rest := []) (c2 := 5612) (s2 := 45304) (v := 12) (m1 := hS_nets_11) C hX (act_0 hI.hd (nI 2) (nI 0) (nI 0) (nI 0) (iop_split hst hI (nI 2))) (ev_split 2 1 3 7 12 20 (by decide) (by decide) (by decide) rfl rfl (by decide +kernel) (by decide +kernel) (by decide +kernel) rfl) (rfl) (gl_up inv_L_act) rfl hl.1 rfl (by decide) dL_nets_457 ⟨Nat.le_of_ble_eq_true rfl, Nat.le_of_ble_eq_true rfl⟩ ⟨Nat.le_of_ble_eq_true rfl, Nat.le_of_ble_eq_true rfl⟩ rfl rfl (fun f H locs hX hI => ?_)
  refine lv_iload_n C.x C.b dL_nets_460 rfl (lv_at hl 0 rfl) ?_
  refine lv_bipush (v := (nI 16)) C.x C.b dL_nets_461 (by decide) ?_
  refine lv_icmp_ge (tgt := 470) C.x C.b dL_nets_463 (by decide) (fun q9 => absurd q9 (by decide)) (fun _ => ?_)
  refine lv_iload_n C.x C.b dL_nets_466 rfl (lv_at hl 0 rfl) ?_
  refine lv_goto (tgt := 472) C.x C.b dL_nets_467 (by decide) ?_
  refine lv_i2l (v := (nI 12).toInt64) C.x C.b dL_nets_472 rfl ?_
  refine k_topl (y := 12) (by decide) ?_
  refine k_lcmp_eq (tgt := 479) C.x C.b dL_nets_473 dL_nets_474 (by decide) (fun _ => ?_) (fun q9 => absurd (by decide) q9)
  refine lv_iinc (v := (nI 13)) (lv' := [(1, .int (nI 13)), (0, .ref h)]) C.x C.b dL_nets_479 hl (k := 0) rfl (by decide) (by decide) rfl (fun ls hl => ?_)
  refine lv_goto (tgt := 443) C.x C.b dL_nets_482 (by decide) ?_
  refine lv_iload_n C.x C.b dL_nets_443 rfl (lv_at hl 0 rfl) ?_
  refine lv_bipush (v := (nI 17)) C.x C.b dL_nets_444 (by decide) ?_
  refine lv_icmp_ge (tgt := 485) C.x C.b dL_nets_446 (by decide) (fun q9 => absurd q9 (by decide)) (fun _ => ?_)
  refine lv_aload_n C.x C.b dL_nets_449 rfl (lv_at hl 1 rfl) ?_
  refine lv_iconst (v := (nI 0)) C.x C.b dL_nets_450 (by decide) ?_
  refine lv_iload_n C.x C.b dL_nets_451 rfl (lv_at hl 0 rfl) ?_
  refine lv_iconst (v := (nI 5)) C.x C.b dL_nets_452 (by decide) ?_
  refine lv_irem C.x C.b dL_nets_453 (by decide) ?_
  refine k_topi (y := (nI 3)) (by decide) ?_
  refine lv_iconst (v := (nI 0)) C.x C.b dL_nets_454 (by decide) ?_
  refine lv_iconst (v := (nI 0)) C.x C.b dL_nets_455 (by decide) ?_
  refine lv_iconst (v := (nI 0)) C.x C.b dL_nets_456 (by decide) ?_
  refine k_actI (As := [.ref h, .int (nI 0), .int (nI 3), .int (nI 0), .int (nI 0), .int (nI 0)]) (rest := []) (c2 := 5620) (s2 := 45368) (v := 13) (m1 := hS_nets_12) C hX (act_0 hI.hd (nI 3) (nI 0) (nI 0) (nI 0) (iop_split hst hI (nI 3))) (ev_split 3 0 2 8 13 22 (by decide) (by decide) (by decide) rfl rfl (by decide +kernel) (by decide +kernel) (by decide +kernel) rfl) (rfl) (gl_up inv_L_act) rfl hl.1 rfl (by decide) dL_nets_457 ⟨Nat.le_of_ble_eq_true rfl, Nat.le_of_ble_eq_true rfl⟩ ⟨Nat.le_of_ble_eq_true rfl, Nat.le_of_ble_eq_true rfl⟩ rfl rfl (fun f H locs hX hI => ?_)
  refine lv_iload_n C.x C.b dL_nets_460 rfl (lv_at hl 0 rfl) ?_
  refine lv_bipush (v := (nI 16)) C.x C.b dL_nets_461 (by decide) ?_
  refine lv_icmp_ge (tgt := 470) C.x C.b dL_nets_463 (by decide) (fun q9 => absurd q9 (by decide)) (fun _ => ?_)
  refine lv_iload_n C.x C.b dL_nets_466 rfl (lv_at hl 0 rfl) ?_
  refine lv_goto (tgt := 472) C.x C.b dL_nets_467 (by decide) ?_
  refine lv_i2l (v := (nI 13).toInt64) C.x C.b dL_nets_472 rfl ?_
  refine k_topl (y := 13) (by decide) ?_
  refine k_lcmp_eq (tgt := 479) C.x C.b dL_nets_473 dL_nets_474 (by decide) (fun _ => ?_) (fun q9 => absurd (by decide) q9)
  refine lv_iinc (v := (nI 14)) (lv' := [(1, .int (nI 14)), (0, .ref h)]) C.x C.b dL_nets_479 hl (k := 0) rfl (by decide) (by decide) rfl (fun ls hl => ?_)
  refine lv_goto (tgt := 443) C.x C.b dL_nets_482 (by decide) ?_
  refine lv_iload_n C.x C.b dL_nets_443 rfl (lv_at hl 0 rfl) ?_
  refine lv_bipush (v := (nI 17)) C.x C.b dL_nets_444 (by decide) ?_
  refine lv_icmp_ge (tgt := 485) C.x C.b dL_nets_446 (by decide) (fun q9 => absurd q9 (by decide)) (fun _ => ?_)
  refine lv_aload_n C.x C.b dL_nets_449 rfl (lv_at hl 1 rfl) ?_
  refine lv_iconst (v := (nI 0)) C.x C.b dL_nets_450 (by decide) ?_
  refine lv_iload_n C.x C.b dL_nets_451 rfl (lv_at hl 0 rfl) ?_
  refine lv_iconst (v := (nI 5)) C.x C.b dL_nets_452 (by decide) ?_
  refine lv_irem C.x C.b dL_nets_453 (by decide) ?_
  refine k_topi (y := (nI 4)) (by decide) ?_
  refine lv_iconst (v := (nI 0)) C.x C.b dL_nets_454 (by decide) ?_
  refine lv_iconst (v := (nI 0)) C.x C.b dL_nets_455 (by decide) ?_
  refine lv_iconst (v := (nI 0)) C.x C.b dL_nets_456 (by decide) ?_
  refine k_actI (As := [.ref h, .int (nI 0), .int (nI 4), .int (nI 0), .int (nI 0), .int (nI 0)]) (rest := []) (c2 := 5628) (s2 := 45432) (v := 14) (m1 := hS_nets_13) C hX (act_0 hI.hd (nI 4) (nI 0) (nI 0) (nI 0) (iop_split hst hI (nI 4))) (ev_split 4 1 2 9 14 24 (by decide) (by decide) (by decide) rfl rfl (by decide +kernel) (by decide +kernel) (by decide +kernel) rfl) (rfl) (gl_up inv_L_act) rfl hl.1 rfl (by decide) dL_nets_457 ⟨Nat.le_of_ble_eq_true rfl, Nat.le_of_ble_eq_true rfl⟩ ⟨Nat.le_of_ble_eq_true rfl, Nat.le_of_ble_eq_true rfl⟩ rfl rfl (fun f H locs hX hI => ?_)
  refine lv_iload_n C.x C.b dL_nets_460 rfl (lv_at hl 0 rfl) ?_
  refine lv_bipush (v := (nI 16)) C.x C.b dL_nets_461 (by decide) ?_
  refine lv_icmp_ge (tgt := 470) C.x C.b dL_nets_463 (by decide) (fun q9 => absurd q9 (by decide)) (fun _ => ?_)
  refine lv_iload_n C.x C.b dL_nets_466 rfl (lv_at hl 0 rfl) ?_
  refine lv_goto (tgt := 472) C.x C.b dL_nets_467 (by decide) ?_
  refine lv_i2l (v := (nI 14).toInt64) C.x C.b dL_nets_472 rfl ?_
  refine k_topl (y := 14) (by decide) ?_
  refine k_lcmp_eq (tgt := 479) C.x C.b dL_nets_473 dL_nets_474 (by decide) (fun _ => ?_) (fun q9 => absurd (by decide) q9)
  refine lv_iinc (v := (nI 15)) (lv' := [(1, .int (nI 15)), (0, .ref h)]) C.x C.b dL_nets_479 hl (k := 0) rfl (by decide) (by decide) rfl (fun ls hl => ?_)
  refine lv_goto (tgt := 443) C.x C.b dL_nets_482 (by decide) ?_
  refine lv_iload_n C.x C.b dL_nets_443 rfl (lv_at hl 0 rfl) ?_
  refine lv_bipush (v := (nI 17)) C.x C.b dL_nets_444 (by decide) ?_
  refine lv_icmp_ge (tgt := 485) C.x C.b dL_nets_446 (by decide) (fun q9 => absurd q9 (by decide)) (fun _ => ?_)
  refine lv_aload_n C.x C.b dL_nets_449 rfl (lv_at hl 1 rfl) ?_
  refine lv_iconst (v := (nI 0)) C.x C.b dL_nets_450 (by decide) ?_
  refine lv_iload_n C.x C.b dL_nets_451 rfl (lv_at hl 0 rfl) ?_
  refine lv_iconst (v := (nI 5)) C.x C.b dL_nets_452 (by decide) ?_
  refine lv_irem C.x C.b dL_nets_453 (by decide) ?_
  refine k_topi (y := (nI 0)) (by decide) ?_
  refine lv_iconst (v := (nI 0)) C.x C.b dL_nets_454 (by decide) ?_
  refine lv_iconst (v := (nI 0)) C.x C.b dL_nets_455 (by decide) ?_
  refine lv_iconst (v := (nI 0)) C.x C.b dL_nets_456 (by decide) ?_
  refine k_actI (As := [.ref h, .int (nI 0), .int (nI 0), .int (nI 0), .int (nI 0), .int (nI 0)]) (rest := []) (c2 := 5636) (s2 := 45496) (v := 15) (m1 := hS_nets_14) C hX (act_0 hI.hd (nI 0) (nI 0) (nI 0) (nI 0) (iop_split hst hI (nI 0))) (ev_split 0 0 3 10 15 26 (by decide) (by decide) (by decide) rfl rfl (by decide +kernel) (by decide +kernel) (by decide +kernel) rfl) (rfl) (gl_up inv_L_act) rfl hl.1 rfl (by decide) dL_nets_457 ⟨Nat.le_of_ble_eq_true rfl, Nat.le_of_ble_eq_true rfl⟩ ⟨Nat.le_of_ble_eq_true rfl, Nat.le_of_ble_eq_true rfl⟩ rfl rfl (fun f H locs hX hI => ?_)
  refine lv_iload_n C.x C.b dL_nets_460 rfl (lv_at hl 0 rfl) ?_
  refine lv_bipush (v := (nI 16)) C.x C.b dL_nets_461 (by decide) ?_
  refine lv_icmp_ge (tgt := 470) C.x C.b dL_nets_463 (by decide) (fun q9 => absurd q9 (by decide)) (fun _ => ?_)
  refine lv_iload_n C.x C.b dL_nets_466 rfl (lv_at hl 0 rfl) ?_
  refine lv_goto (tgt := 472) C.x C.b dL_nets_467 (by decide) ?_
  refine lv_i2l (v := (nI 15).toInt64) C.x C.b dL_nets_472 rfl ?_
  refine k_topl (y := 15) (by decide) ?_
  refine k_lcmp_eq (tgt := 479) C.x C.b dL_nets_473 dL_nets_474 (by decide) (fun _ => ?_) (fun q9 => absurd (by decide) q9)
  refine lv_iinc (v := (nI 16)) (lv' := [(1, .int (nI 16)), (0, .ref h)]) C.x C.b dL_nets_479 hl (k := 0) rfl (by decide) (by decide) rfl (fun ls hl => ?_)
  refine lv_goto (tgt := 443) C.x C.b dL_nets_482 (by decide) ?_
  refine lv_iload_n C.x C.b dL_nets_443 rfl (lv_at hl 0 rfl) ?_
  refine lv_bipush (v := (nI 17)) C.x C.b dL_nets_444 (by decide) ?_
  refine lv_icmp_ge (tgt := 485) C.x C.b dL_nets_446 (by decide) (fun q9 => absurd q9 (by decide)) (fun _ => ?_)
  refine lv_aload_n C.x C.b dL_nets_449 rfl (lv_at hl 1 rfl) ?_
  refine lv_iconst (v := (nI 0)) C.x C.b dL_nets_450 (by decide) ?_
  refine lv_iload_n C.x C.b dL_nets_451 rfl (lv_at hl 0 rfl) ?_
  refine lv_iconst (v := (nI 5)) C.x C.b dL_nets_452 (by decide) ?_
  refine lv_irem C.x C.b dL_nets_453 (by decide) ?_
  refine k_topi (y := (nI 1)) (by decide) ?_
  refine lv_iconst (v := (nI 0)) C.x C.b dL_nets_454 (by decide) ?_
  refine lv_iconst (v := (nI 0)) C.x C.b dL_nets_455 (by decide) ?_
  refine lv_iconst (v := (nI 0)) C.x C.b dL_nets_456 (by decide) ?_
  refine k_actI (As := [.ref h, .int (nI 0), .int (nI 1), .int (nI 0), .int (nI 0), .int (nI 0)]) (rest := []) (c2 := 5644) (s2 := 45560) (v := (-7000003)) (m1 := hS_nets_14) C hX (act_0 hI.hd (nI 1) (nI 0) (nI 0) (nI 0) (iop_split hst hI (nI 1))) (e_split_s (by decide +kernel) (by decide +kernel)) (rfl) (gl_up inv_L_act) rfl hl.1 rfl (by decide) dL_nets_457 ⟨Nat.le_of_ble_eq_true rfl, Nat.le_of_ble_eq_true rfl⟩ ⟨Nat.le_of_ble_eq_true rfl, Nat.le_of_ble_eq_true rfl⟩ rfl rfl (fun f H locs hX hI => ?_)
  refine lv_iload_n C.x C.b dL_nets_460 rfl (lv_at hl 0 rfl) ?_
  refine lv_bipush (v := (nI 16)) C.x C.b dL_nets_461 (by decide) ?_
  refine lv_icmp_ge (tgt := 470) C.x C.b dL_nets_463 (by decide) (fun _ => ?_) (fun q9 => absurd (by decide) q9)
  refine lv_ldc (v := (-7000003)) C.x C.b C.ow (C.ts _ (List.mem_cons_of_mem _ lkC_3)) dL_nets_470 ?_
  refine lv_i2l (v := (-7000003).toInt64) C.x C.b dL_nets_472 rfl ?_
  refine k_topl (y := (-7000003)) (by decide) ?_
  refine k_lcmp_eq (tgt := 479) C.x C.b dL_nets_473 dL_nets_474 (by decide) (fun _ => ?_) (fun q9 => absurd (by decide) q9)
  refine lv_iinc (v := (nI 17)) (lv' := [(1, .int (nI 17)), (0, .ref h)]) C.x C.b dL_nets_479 hl (k := 0) rfl (by decide) (by decide) rfl (fun ls hl => ?_)
  refine lv_goto (tgt := 443) C.x C.b dL_nets_482 (by decide) ?_
  refine lv_iload_n C.x C.b dL_nets_443 rfl (lv_at hl 0 rfl) ?_
  refine lv_bipush (v := (nI 17)) C.x C.b dL_nets_444 (by decide) ?_
  refine lv_icmp_ge (tgt := 485) C.x C.b dL_nets_446 (by decide) (fun _ => ?_) (fun q9 => absurd (by decide) q9)
  refine lv_aload_n C.x C.b dL_nets_485 rfl (lv_at hl 1 rfl) ?_
  refine lv_iconst (v := (nI 2)) C.x C.b dL_nets_486 (by decide) ?_
  refine k_cI (As := [.int (nI 2)]) (rest := []) (c2 := 5652) (s2 := 45624) (v := (nI 28)) (m1 := hS_nets_14) C hX (iop_net hst hI (nI 2)) (ev_net (by decide +kernel) (by decide +kernel)) hI.hd (gl_up inv_X8_net) rfl ⟨rfl, hdA_X8_net⟩ (by decide) rfl hl.1 rfl (by decide) dL_nets_487 ⟨Nat.le_of_ble_eq_true rfl, Nat.le_of_ble_eq_true rfl⟩ ⟨Nat.le_of_ble_eq_true rfl, Nat.le_of_ble_eq_true rfl⟩ rfl rfl (fun f H locs hX hI => ?_)
  refine lv_bipush (v := (nI 28)) C.x C.b dL_nets_490 (by decide) ?_
  refine lv_icmp_ne (tgt := 557) C.x C.b dL_nets_492 (by decide) (fun q9 => absurd (by decide) q9) (fun _ => ?_)
  refine lv_aload_n C.x C.b dL_nets_495 rfl (lv_at hl 1 rfl) ?_
  refine lv_iconst (v := (nI 1)) C.x C.b dL_nets_496 (by decide) ?_
  refine k_cI (As := [.int (nI 1)]) (rest := []) (c2 := 5660) (s2 := 45688) (v := (nI 42)) (m1 := hS_nets_14) C hX (iop_net hst hI (nI 1)) (ev_net (by decide +kernel) (by decide +kernel)) hI.hd (gl_up inv_X8_net) rfl ⟨rfl, hdA_X8_net⟩ (by decide) rfl hl.1 rfl (by decide) dL_nets_497 ⟨Nat.le_of_ble_eq_true rfl, Nat.le_of_ble_eq_true rfl⟩ ⟨Nat.le_of_ble_eq_true rfl, Nat.le_of_ble_eq_true rfl⟩ rfl rfl (fun f H locs hX hI => ?_)
  refine lv_bipush (v := (nI 42)) C.x C.b dL_nets_500 (by decide) ?_
  refine lv_icmp_ne (tgt := 557) C.x C.b dL_nets_502 (by decide) (fun q9 => absurd (by decide) q9) (fun _ => ?_)
  refine lv_aload_n C.x C.b dL_nets_505 rfl (lv_at hl 1 rfl) ?_
  refine lv_iconst (v := (nI 0)) C.x C.b dL_nets_506 (by decide) ?_
  refine lv_iconst (v := (nI 0)) C.x C.b dL_nets_507 (by decide) ?_
  refine lv_iconst (v := (nI 0)) C.x C.b dL_nets_508 (by decide) ?_
  refine lv_iconst (v := (nI 2)) C.x C.b dL_nets_509 (by decide) ?_
  refine lv_iconst (v := (nI 0)) C.x C.b dL_nets_510 (by decide) ?_
  refine k_law (As := [.ref h, .int (nI 0), .int (nI 0), .int (nI 0), .int (nI 2), .int (nI 0)]) (rest := []) (c2 := 8960) (s2 := 72088) (m1 := hS_nets_14) C hX (pL_refuses hst hI) (gl_up inv_L_refuses) rfl rfl rfl hdP_L_refuses ⟨Nat.le_of_ble_eq_true rfl, Nat.le_of_ble_eq_true rfl⟩ rfl hl.1 rfl (by decide) dL_nets_511 ⟨Nat.le_of_ble_eq_true rfl, Nat.le_of_ble_eq_true rfl⟩ rfl rfl (fun f H locs hX hI => ?_)
  refine lv_if_eq (tgt := 557) C.x C.b dL_nets_514 (by decide) (fun q9 => absurd q9 (by decide)) (fun _ => ?_)
  refine k_law0 (As := []) (rest := []) (c2 := 17960) (s2 := 144088) C hX (pL_disks hst) (gl_up inv_L_disks) rfl rfl rfl hdP_L_disks ⟨Nat.le_of_ble_eq_true rfl, Nat.le_of_ble_eq_true rfl⟩ rfl hl.1 rfl (by decide) dL_nets_517 ⟨Nat.le_of_ble_eq_true rfl, Nat.le_of_ble_eq_true rfl⟩ rfl rfl (fun f H locs hX => ?_)
  refine lv_if_eq (tgt := 557) C.x C.b dL_nets_520 (by decide) (fun q9 => absurd q9 (by decide)) (fun _ => ?_)
  refine k_law0 (As := []) (rest := []) (c2 := 26960) (s2 := 216088) C hX (pL_five hst) (gl_up inv_L_five) rfl rfl rfl hdP_L_five ⟨Nat.le_of_ble_eq_true rfl, Nat.le_of_ble_eq_true rfl⟩ rfl hl.1 rfl (by decide) dL_nets_523 ⟨Nat.le_of_ble_eq_true rfl, Nat.le_of_ble_eq_true rfl⟩ rfl rfl (fun f H locs hX => ?_)
  refine lv_if_eq (tgt := 557) C.x C.b dL_nets_526 (by decide) (fun q9 => absurd q9 (by decide)) (fun _ => ?_)
  refine k_law0 (As := []) (rest := []) (c2 := 35960) (s2 := 288088) C hX (pL_gaskets hst) (gl_up inv_L_gaskets) rfl rfl rfl hdP_L_gaskets ⟨Nat.le_of_ble_eq_true rfl, Nat.le_of_ble_eq_true rfl⟩ rfl hl.1 rfl (by decide) dL_nets_529 ⟨Nat.le_of_ble_eq_true rfl, Nat.le_of_ble_eq_true rfl⟩ rfl rfl (fun f H locs hX => ?_)
  refine lv_if_eq (tgt := 557) C.x C.b dL_nets_532 (by decide) (fun q9 => absurd q9 (by decide)) (fun _ => ?_)
  refine k_law0 (As := []) (rest := []) (c2 := 44960) (s2 := 360088) C hX (pL_fractions hst) (gl_up inv_L_fractions) rfl rfl rfl hdP_L_fractions ⟨Nat.le_of_ble_eq_true rfl, Nat.le_of_ble_eq_true rfl⟩ rfl hl.1 rfl (by decide) dL_nets_535 ⟨Nat.le_of_ble_eq_true rfl, Nat.le_of_ble_eq_true rfl⟩ rfl rfl (fun f H locs hX => ?_)
  refine lv_if_eq (tgt := 557) C.x C.b dL_nets_538 (by decide) (fun q9 => absurd q9 (by decide)) (fun _ => ?_)
  refine k_law0 (As := []) (rest := []) (c2 := 53960) (s2 := 432088) C hX (pL_words hst) (gl_up inv_L_words) rfl rfl rfl hdP_L_words ⟨Nat.le_of_ble_eq_true rfl, Nat.le_of_ble_eq_true rfl⟩ rfl hl.1 rfl (by decide) dL_nets_541 ⟨Nat.le_of_ble_eq_true rfl, Nat.le_of_ble_eq_true rfl⟩ rfl rfl (fun f H locs hX => ?_)
  refine lv_if_eq (tgt := 557) C.x C.b dL_nets_544 (by decide) (fun q9 => absurd q9 (by decide)) (fun _ => ?_)
  refine k_law0 (As := []) (rest := []) (c2 := 62960) (s2 := 504088) C hX (pL_networks hst) (gl_up inv_L_networks) rfl rfl rfl hdP_L_networks ⟨Nat.le_of_ble_eq_true rfl, Nat.le_of_ble_eq_true rfl⟩ rfl hl.1 rfl (by decide) dL_nets_547 ⟨Nat.le_of_ble_eq_true rfl, Nat.le_of_ble_eq_true rfl⟩ rfl rfl (fun f H locs hX => ?_)
  refine lv_if_eq (tgt := 557) C.x C.b dL_nets_550 (by decide) (fun q9 => absurd q9 (by decide)) (fun _ => ?_)
  refine lv_iconst (v := (nI 1)) C.x C.b dL_nets_553 (by decide) ?_
  refine lv_goto (tgt := 558) C.x C.b dL_nets_554 (by decide) ?_
  exact k_zret C hX hr hlocks hQ (Nat.le_of_ble_eq_true rfl) (Nat.le_of_ble_eq_true rfl) (Or.inr rfl) ⟨rfl, trivial⟩ dL_nets_558
