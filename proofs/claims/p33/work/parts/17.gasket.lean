def xTurn (g : Nat → Int64) (pl : Nat) : Int64 := 2 * (g 0 + g 1 + g 2 + g 3 - g pl) - g pl
def xGr (g : Nat → Int64) : Nat → Nat
  | 0 => 0
  | k + 1 => if g (xGr g k) < g (k + 1) then k + 1 else xGr g k
theorem xGr_le (g : Nat → Int64) : ∀ k, xGr g k ≤ k
  | 0 => Nat.le_refl 0
  | k + 1 => by
    have := xGr_le g k
    simp only [xGr]
    split <;> omega
def xRoot : Nat → (Nat → Int64) → (Nat → Int64)
  | 0, g => g
  | n + 1, g => if xTurn g (xGr g 3) < g (xGr g 3) then xRoot n (vp_updL g (xGr g 3) (xTurn g (xGr g 3))) else g
def xSw (g : Nat → Int64) (pl : Nat) : Nat → Int64 := if g (pl + 1) < g pl then vp_updL (vp_updL g pl (g (pl + 1))) (pl + 1) (g pl) else g
def xPass (g : Nat → Int64) : Nat → (Nat → Int64)
  | 0 => g
  | n + 1 => xSw (xPass g n) n
def xDown : Nat → (Nat → Int64) → (Nat → Int64)
  | 0, g => g
  | n + 1, g => xDown n (xPass g (n + 1))
abbrev xRow (a b c d : Int64) : Nat → Int64 := vp_updL (vp_updL (vp_updL (vp_updL (fun _ => 0) 0 a) 1 b) 2 c) 3 d
abbrev xLeast (a b c d : Int64) : Nat → Int64 := xDown 3 (xRoot 1000000 (xRow a b c d))
abbrev xOf (a b c d : Int64) : Prop := 0 < a + b + c + d ∧ (a + b + c + d) * (a + b + c + d) = 2 * (a * a + b * b + c * c + d * d)
theorem nI_dec {n : Nat} (h : 0 < n) : nI n + -1 = nI (n - 1) := by
  obtain ⟨k, rfl⟩ : ∃ k, n = k + 1 := ⟨n - 1, by omega⟩
  rw [← nI_add]
  show nI k + nI 1 + -1 = nI k
  rw [Int32.add_assoc]
  exact Int32.add_zero _

theorem lk_Jxa1e45_init_da8c8_m1 : Cond.methodLink RJxa1e45 1 objectInit ∈ wsJxa1e45_init_da8c8 := by decide +kernel
theorem lk_Jxa1e45_init_da8c8_oi : Cond.instanceMethod objectInit ∈ wsJxa1e45_init_da8c8 := by decide +kernel
theorem lk_Jxa1e45_init_da8c8_oc : Cond.code objectInit ⟨#[0xb1]⟩ 1 none ∈ wsJxa1e45_init_da8c8 := by decide +kernel
abbrev rmJxa1e45_init_da8c8 : Room := { frames := 1, cells := 0, slots := 0, locals := 12 }
set_option maxHeartbeats 4000000 in
set_option maxRecDepth 100000 in
/-- Jxa1e45_init_da8c8 -/
theorem kJxa1e45_init_da8c8 (l : Launch) (G : kG) (B0 : Nat) (f : kH) (h : Nat) (hM : kCs f [(h, .inr (0, [.int 0, .null, .int 0]))]) : Met l yJxa1e45_init_da8c8 wsJxa1e45_init_da8c8 (rmJxa1e45_init_da8c8) (kP G B0 f [.ref h]) (kQv G B0 (fun f1 => kCs f1 [(h, .inr (0, [.int 0, .null, .int 0]))] ∧ kOff [h] f f1)) 0 0 (kAb B0) := by
  refine kMet (cc := cJxa1e45_init_da8c8) (maxL := 1) (ret := none) (by decide) rfl (Nat.le_of_ble_eq_true rfl) ?_
  intro p e s m args below meth c H locs Q ls C hX hl hr hlocks hnm hQ
  have hO : kOff [h] f f := kOff.rf
  have hl : lv_has ls 1 [(0, .ref h)] := hl
  refine lv_aload_n C.x C.b dJxa1e45_init_da8c8_0 rfl (lv_at hl 0 rfl) ?_
  refine W.objInit C.x C.b C.ow (C.ts _ lk_Jxa1e45_init_da8c8_m1) (C.ts _ lk_Jxa1e45_init_da8c8_oi) (C.ts _ lk_Jxa1e45_init_da8c8_oc) rfl (by rw [C.ml]; exact hl.1) rfl dJxa1e45_init_da8c8_1 (Nat.le_of_ble_eq_true rfl) (Nat.le_of_ble_eq_true rfl) ?_
  refine W.eq (g2 := F0 m 4 ls []) rfl ?_
  exact k_vret C hX hr hlocks hQ (by omega) (by omega) (⟨hM, hO⟩) dJxa1e45_init_da8c8_4

theorem hdJxc12de_init_da8c8_Jxa1e45_init_da8c8 : yJxa1e45_init_da8c8.cls ≠ "java/lang/invoke/MethodHandle" ∧ yJxa1e45_init_da8c8.cls ≠ "java/lang/invoke/VarHandle" ∧ (parseMethodDescriptor yJxa1e45_init_da8c8.desc).map (fun d => d.parameters.length) = some 0 := by decide +kernel
theorem lk_Jxc12de_init_da8c8_ml1 : Cond.methodLink RJxc12de 1 yJxa1e45_init_da8c8 ∈ wsJxc12de_init_da8c8 := by decide +kernel
theorem lk_Jxc12de_init_da8c8_in_RJxa1e45 : Cond.initialized RJxa1e45 ∈ wsJxc12de_init_da8c8 := by decide +kernel
theorem lk_Jxc12de_init_da8c8_im_Jxa1e45_init_da8c8 : Cond.instanceMethod yJxa1e45_init_da8c8 ∈ wsJxc12de_init_da8c8 := by decide +kernel
theorem lk_Jxc12de_init_da8c8_f7 : Cond.fieldLink RJxc12de 7 "java/util/AbstractList" "modCount" "I" ∈ wsJxc12de_init_da8c8 := by decide +kernel
theorem hin_Jxc12de_init_da8c8_RJx4a65c : ∀ w ∈ u_ws RJx4a65c TJx4a65c 3, w ∈ wsJxc12de_init_da8c8 := by decide +kernel
abbrev rmJxc12de_init_da8c8 : Room := { frames := 2, cells := 0, slots := 0, locals := 32 }
set_option maxHeartbeats 4000000 in
set_option maxRecDepth 100000 in
/-- Jxc12de_init_da8c8 -/
theorem kJxc12de_init_da8c8 (l : Launch) (G : kG) (B0 : Nat) (f : kH) (h : Nat) (hM : kCs f [(h, .inr (0, [.int 0, .null, .int 0]))]) : Met l yJxc12de_init_da8c8 wsJxc12de_init_da8c8 (rmJxc12de_init_da8c8) (kP G B0 f [.ref h]) (kQv G B0 (fun f1 => kCs f1 [(h, .inr (0, [.int (nI 0), .null, .int 0]))] ∧ kOff [h] f f1)) 0 0 (kAb B0) := by
  refine kMet (cc := cJxc12de_init_da8c8) (maxL := 1) (ret := none) (by decide) rfl (Nat.le_of_ble_eq_true rfl) ?_
  intro p e s m args below meth c H locs Q ls C hX hl hr hlocks hnm hQ
  have hO : kOff [h] f f := kOff.rf
  have hl : lv_has ls 1 [(0, .ref h)] := hl
  refine lv_aload_n C.x C.b dJxc12de_init_da8c8_0 rfl (lv_at hl 0 rfl) ?_
  refine k_callv (va_runI (As := []) (rest := []) C.1 (kJxa1e45_init_da8c8 l G B0 f h hM) (cwI 0 C.ts gJxc12de_init_da8c8_Jxa1e45_init_da8c8 rfl rfl rfl (C.ts _ lk_Jxc12de_init_da8c8_in_RJxa1e45) (C.ts _ lk_Jxc12de_init_da8c8_ml1) (C.ts _ lk_Jxc12de_init_da8c8_im_Jxa1e45_init_da8c8) rfl (hdJxc12de_init_da8c8_Jxa1e45_init_da8c8) ⟨Nat.le_of_ble_eq_true rfl, Nat.le_of_ble_eq_true rfl⟩) (k_preS C hX) rfl rfl hl.1 rfl (lv_room (Nat.le_of_ble_eq_true rfl)) dJxc12de_init_da8c8_1 ⟨Nat.le_of_ble_eq_true rfl, Nat.le_of_ble_eq_true rfl⟩) hX (fun f1 H locs hp1 hX => ?_)
  obtain ⟨hM, hO1⟩ := hp1
  have hO := hO.trans hO1
  have hM : kCs f1 ([(h, .inr (0, [.int 0, .null, .int 0]))]) := hM
  refine lv_aload_n C.x C.b dJxc12de_init_da8c8_4 rfl (lv_at hl 0 rfl) ?_
  refine lv_iconst (v := nI 0) C.x C.b dJxc12de_init_da8c8_5 (by decide) ?_
  refine k_put (X := RJx4a65c) (T := TJx4a65c) (N := 3) (ty := .int) (v := .int (nI 0)) C hX (hM.at 0 rfl) rfl hin_Jxc12de_init_da8c8_RJx4a65c tyJx4a65c_ok nmJx4a65c 0 (by decide) lk_Jxc12de_init_da8c8_f7 (fun _ h9 => h9) rfl (by decide +kernel) rfl rfl (Nat.le_of_ble_eq_true rfl) dJxc12de_init_da8c8_6 (fun H locs hX => ?_)
  obtain ⟨g1, hX, hM, hO⟩ := kX.wr hX hM hO 0 rfl (List.mem_of_getElem? (i := 0) rfl)
  have hM : kCs g1 ([(h, .inr (0, [.int (nI 0), .null, .int 0]))]) := hM
  exact k_vret C hX hr hlocks hQ (by omega) (by omega) (⟨hM, hO⟩) dJxc12de_init_da8c8_9

theorem hdJx4a65c_init_da8c8_Jxc12de_init_da8c8 : yJxc12de_init_da8c8.cls ≠ "java/lang/invoke/MethodHandle" ∧ yJxc12de_init_da8c8.cls ≠ "java/lang/invoke/VarHandle" ∧ (parseMethodDescriptor yJxc12de_init_da8c8.desc).map (fun d => d.parameters.length) = some 0 := by decide +kernel
theorem lk_Jx4a65c_init_da8c8_ml1 : Cond.methodLink RJx4a65c 1 yJxc12de_init_da8c8 ∈ wsJx4a65c_init_da8c8 := by decide +kernel
theorem lk_Jx4a65c_init_da8c8_in_RJxc12de : Cond.initialized RJxc12de ∈ wsJx4a65c_init_da8c8 := by decide +kernel
theorem lk_Jx4a65c_init_da8c8_im_Jxc12de_init_da8c8 : Cond.instanceMethod yJxc12de_init_da8c8 ∈ wsJx4a65c_init_da8c8 := by decide +kernel
theorem lk_Jx4a65c_init_da8c8_f39 : Cond.fieldLink RJx4a65c 39 "java/util/ArrayList" "DEFAULTCAPACITY_EMPTY_ELEMENTDATA" "[Ljava/lang/Object;" ∈ wsJx4a65c_init_da8c8 := by decide +kernel
theorem lk_Jx4a65c_init_da8c8_f9 : Cond.fieldLink RJx4a65c 9 "java/util/ArrayList" "elementData" "[Ljava/lang/Object;" ∈ wsJx4a65c_init_da8c8 := by decide +kernel
theorem hin_Jx4a65c_init_da8c8_RJx4a65c : ∀ w ∈ u_ws RJx4a65c TJx4a65c 3, w ∈ wsJx4a65c_init_da8c8 := by decide +kernel
abbrev rmJx4a65c_init_da8c8 : Room := { frames := 3, cells := 0, slots := 0, locals := 52 }
set_option maxHeartbeats 4000000 in
set_option maxRecDepth 100000 in
/-- Jx4a65c_init_da8c8 -/
theorem kJx4a65c_init_da8c8 (l : Launch) (G : kG) (B0 : Nat) (f : kH) (h : Nat) (hM : kCs f [(h, .inr (0, [.int 0, .null, .int 0]))]) : Met l yJx4a65c_init_da8c8 wsJx4a65c_init_da8c8 (rmJx4a65c_init_da8c8) (kP G B0 f [.ref h]) (kQv G B0 (fun f1 => kCs f1 [(h, .inr (0, [.int (nI 0), .ref (G.2.2 1), .int 0]))] ∧ kOff [h] f f1)) 0 0 (kAb B0) := by
  refine kMet (cc := cJx4a65c_init_da8c8) (maxL := 1) (ret := none) (by decide) rfl (Nat.le_of_ble_eq_true rfl) ?_
  intro p e s m args below meth c H locs Q ls C hX hl hr hlocks hnm hQ
  have hO : kOff [h] f f := kOff.rf
  have hl : lv_has ls 1 [(0, .ref h)] := hl
  refine lv_aload_n C.x C.b dJx4a65c_init_da8c8_0 rfl (lv_at hl 0 rfl) ?_
  refine k_callv (va_runI (As := []) (rest := []) C.1 (kJxc12de_init_da8c8 l G B0 f h hM) (cwI 0 C.ts gJx4a65c_init_da8c8_Jxc12de_init_da8c8 rfl rfl rfl (C.ts _ lk_Jx4a65c_init_da8c8_in_RJxc12de) (C.ts _ lk_Jx4a65c_init_da8c8_ml1) (C.ts _ lk_Jx4a65c_init_da8c8_im_Jxc12de_init_da8c8) rfl (hdJx4a65c_init_da8c8_Jxc12de_init_da8c8) ⟨Nat.le_of_ble_eq_true rfl, Nat.le_of_ble_eq_true rfl⟩) (k_preS C hX) rfl rfl hl.1 rfl (lv_room (Nat.le_of_ble_eq_true rfl)) dJx4a65c_init_da8c8_1 ⟨Nat.le_of_ble_eq_true rfl, Nat.le_of_ble_eq_true rfl⟩) hX (fun f1 H locs hp1 hX => ?_)
  obtain ⟨hM, hO1⟩ := hp1
  have hO := hO.trans hO1
  have hM : kCs f1 ([(h, .inr (0, [.int (nI 0), .null, .int 0]))]) := hM
  refine lv_aload_n C.x C.b dJx4a65c_init_da8c8_4 rfl (lv_at hl 0 rfl) ?_
  refine k_getsD C hX (C.ts _ lk_Jx4a65c_init_da8c8_f39) (fun _ h9 => h9) dJx4a65c_init_da8c8_5 ?_
  refine k_put (X := RJx4a65c) (T := TJx4a65c) (N := 3) (ty := .array (.object "java/lang/Object")) (v := .ref (G.2.2 1)) C hX (hM.at 0 rfl) rfl hin_Jx4a65c_init_da8c8_RJx4a65c tyJx4a65c_ok nmJx4a65c 1 (by decide) lk_Jx4a65c_init_da8c8_f9 (fun _ h9 => h9) rfl (by decide +kernel) rfl rfl (Nat.le_of_ble_eq_true rfl) dJx4a65c_init_da8c8_8 (fun H locs hX => ?_)
  obtain ⟨g1, hX, hM, hO⟩ := kX.wr hX hM hO 0 rfl (List.mem_of_getElem? (i := 0) rfl)
  have hM : kCs g1 ([(h, .inr (0, [.int (nI 0), .ref (G.2.2 1), .int 0]))]) := hM
  exact k_vret C hX hr hlocks hQ (by omega) (by omega) (⟨hM, hO⟩) dJx4a65c_init_da8c8_11

theorem lk_X2_areOfGasket_c35 : Cond.constantLong RX2 35 (2) ∈ wsX2_areOfGasket := by decide +kernel
abbrev rmX2_areOfGasket : Room := { frames := 0, cells := 0, slots := 0, locals := 0 }
set_option maxHeartbeats 4000000 in
set_option maxRecDepth 100000 in
/-- X2_areOfGasket -/
theorem kX2_areOfGasket (l : Launch) (G : kG) (B0 : Nat) (f : kH) (x1 x2 x3 x4 : Int64) : Met l yX2_areOfGasket wsX2_areOfGasket (rmX2_areOfGasket) (kP G B0 f [.long x1, .long x2, .long x3, .long x4]) (kQi G B0 (fun r f1 => r = kbI (xOf x1 x2 x3 x4) ∧ f1 = f)) 0 0 (kAb B0) := by
  refine kMet (cc := cX2_areOfGasket) (maxL := 10) (ret := (some .boolean)) (by decide) rfl (Nat.le_of_ble_eq_true rfl) ?_
  intro p e s m args below meth c H locs Q ls C hX hl hr hlocks hnm hQ
  have hl : lv_has ls 10 [(0, .long x1), (2, .long x2), (4, .long x3), (6, .long x4)] := hl
  refine lv_lload_n C.x C.b dX2_areOfGasket_0 rfl (lv_at hl 0 rfl) ?_
  refine lv_lload_n C.x C.b dX2_areOfGasket_1 rfl (lv_at hl 1 rfl) ?_
  refine lv_ladd C.x C.b dX2_areOfGasket_2 ?_
  refine lv_lload C.x C.b dX2_areOfGasket_3 (lv_at hl 2 rfl) ?_
  refine lv_ladd C.x C.b dX2_areOfGasket_5 ?_
  refine lv_lload C.x C.b dX2_areOfGasket_6 (lv_at hl 3 rfl) ?_
  refine lv_ladd C.x C.b dX2_areOfGasket_8 ?_
  refine lv_lstore (lv' := [(8, .long (((x1 + x2) + x3) + x4)), (0, .long x1), (2, .long x2), (4, .long x3), (6, .long x4)]) C.x C.b dX2_areOfGasket_9 hl (by decide) rfl (fun ls hl => ?_)
  refine lv_lload C.x C.b dX2_areOfGasket_11 (lv_at hl 0 rfl) ?_
  refine lv_lconst (v := 0) C.x C.b dX2_areOfGasket_13 (by decide) ?_
  refine k_lcmp_le (tgt := 54) C.x C.b dX2_areOfGasket_14 dX2_areOfGasket_15 (by decide) (fun c_15 => ?_) (fun c_15 => ?_)
  · skip
    refine lv_iconst (v := nI 0) C.x C.b dX2_areOfGasket_54 (by decide) ?_
    exact k_zret C hX hr hlocks hQ (by omega) (by omega) (by first | exact kbI_01 _ | exact Or.inl rfl | exact Or.inr rfl) (by refine ⟨?_, rfl⟩; first | exact kbI_tN ⟨c_15, c_47⟩ | exact kbI_fN (fun h9 => c_15 h9.1) | exact kbI_fN (fun h9 => c_47 h9.2)) dX2_areOfGasket_55
  · skip
    refine lv_lload C.x C.b dX2_areOfGasket_18 (lv_at hl 0 rfl) ?_
    refine lv_lload C.x C.b dX2_areOfGasket_20 (lv_at hl 0 rfl) ?_
    refine lv_lmul C.x C.b dX2_areOfGasket_22 ?_
    refine lv_ldc2 (v := 2) C.x C.b C.ow (C.ts _ lk_X2_areOfGasket_c35) dX2_areOfGasket_23 ?_
    refine lv_lload_n C.x C.b dX2_areOfGasket_26 rfl (lv_at hl 1 rfl) ?_
    refine lv_lload_n C.x C.b dX2_areOfGasket_27 rfl (lv_at hl 1 rfl) ?_
    refine lv_lmul C.x C.b dX2_areOfGasket_28 ?_
    refine lv_lload_n C.x C.b dX2_areOfGasket_29 rfl (lv_at hl 2 rfl) ?_
    refine lv_lload_n C.x C.b dX2_areOfGasket_30 rfl (lv_at hl 2 rfl) ?_
    refine lv_lmul C.x C.b dX2_areOfGasket_31 ?_
    refine lv_ladd C.x C.b dX2_areOfGasket_32 ?_
    refine lv_lload C.x C.b dX2_areOfGasket_33 (lv_at hl 3 rfl) ?_
    refine lv_lload C.x C.b dX2_areOfGasket_35 (lv_at hl 3 rfl) ?_
    refine lv_lmul C.x C.b dX2_areOfGasket_37 ?_
    refine lv_ladd C.x C.b dX2_areOfGasket_38 ?_
    refine lv_lload C.x C.b dX2_areOfGasket_39 (lv_at hl 4 rfl) ?_
    refine lv_lload C.x C.b dX2_areOfGasket_41 (lv_at hl 4 rfl) ?_
    refine lv_lmul C.x C.b dX2_areOfGasket_43 ?_
    refine lv_ladd C.x C.b dX2_areOfGasket_44 ?_
    refine lv_lmul C.x C.b dX2_areOfGasket_45 ?_
    refine k_lcmp_ne (tgt := 54) C.x C.b dX2_areOfGasket_46 dX2_areOfGasket_47 (by decide) (fun c_47 => ?_) (fun c_47 => ?_)
    · skip
      refine lv_iconst (v := nI 0) C.x C.b dX2_areOfGasket_54 (by decide) ?_
      exact k_zret C hX hr hlocks hQ (by omega) (by omega) (by first | exact kbI_01 _ | exact Or.inl rfl | exact Or.inr rfl) (by refine ⟨?_, rfl⟩; first | exact kbI_tN ⟨c_15, c_47⟩ | exact kbI_fN (fun h9 => c_15 h9.1) | exact kbI_fN (fun h9 => c_47 h9.2)) dX2_areOfGasket_55
    · skip
      refine lv_iconst (v := nI 1) C.x C.b dX2_areOfGasket_50 (by decide) ?_
      refine lv_goto (tgt := 55) C.x C.b dX2_areOfGasket_51 (by decide) ?_
      exact k_zret C hX hr hlocks hQ (by omega) (by omega) (by first | exact kbI_01 _ | exact Or.inl rfl | exact Or.inr rfl) (by refine ⟨?_, rfl⟩; first | exact kbI_tN ⟨c_15, c_47⟩ | exact kbI_fN (fun h9 => c_15 h9.1) | exact kbI_fN (fun h9 => c_47 h9.2)) dX2_areOfGasket_55

theorem lk_X2_turnedAt_c35 : Cond.constantLong RX2 35 (2) ∈ wsX2_turnedAt := by decide +kernel
abbrev rmX2_turnedAt : Room := { frames := 0, cells := 0, slots := 0, locals := 0 }
set_option maxHeartbeats 4000000 in
set_option maxRecDepth 100000 in
/-- X2_turnedAt -/
theorem kX2_turnedAt (l : Launch) (G : kG) (B0 : Nat) (f : kH) (q9 : Nat) (g : Nat → Int64) (pl : Nat) (hM : kCs f [(q9, kaJ G 4 g)]) (hp4 : pl < 4) : Met l yX2_turnedAt wsX2_turnedAt (rmX2_turnedAt) (kP G B0 f [.ref q9, .int (nI pl)]) (kQl G B0 (fun r f1 => r = xTurn g pl ∧ f1 = f)) 0 0 (kAb B0) := by
  refine kMet (cc := cX2_turnedAt) (maxL := 4) (ret := (some .long)) (by decide) rfl (Nat.le_of_ble_eq_true rfl) ?_
  intro p e s m args below meth c H locs Q ls C hX hl hr hlocks hnm hQ
  have hl : lv_has ls 4 [(0, .ref q9), (1, .int (nI pl))] := hl
  refine lv_aload_n C.x C.b dX2_turnedAt_0 rfl (lv_at hl 0 rfl) ?_
  refine lv_iconst (v := nI 0) C.x C.b dX2_turnedAt_1 (by decide) ?_
  refine k_lald C hX (hM.at 0 rfl) (vp_in_nI (by omega) (by omega)) dX2_turnedAt_2 ?_
  refine k_topl (y := g 0) (by rw [nI_clamp (by omega)]) ?_
  refine lv_aload_n C.x C.b dX2_turnedAt_3 rfl (lv_at hl 0 rfl) ?_
  refine lv_iconst (v := nI 1) C.x C.b dX2_turnedAt_4 (by decide) ?_
  refine k_lald C hX (hM.at 0 rfl) (vp_in_nI (by omega) (by omega)) dX2_turnedAt_5 ?_
  refine k_topl (y := g 1) (by rw [nI_clamp (by omega)]) ?_
  refine lv_ladd C.x C.b dX2_turnedAt_6 ?_
  refine lv_aload_n C.x C.b dX2_turnedAt_7 rfl (lv_at hl 0 rfl) ?_
  refine lv_iconst (v := nI 2) C.x C.b dX2_turnedAt_8 (by decide) ?_
  refine k_lald C hX (hM.at 0 rfl) (vp_in_nI (by omega) (by omega)) dX2_turnedAt_9 ?_
  refine k_topl (y := g 2) (by rw [nI_clamp (by omega)]) ?_
  refine lv_ladd C.x C.b dX2_turnedAt_10 ?_
  refine lv_aload_n C.x C.b dX2_turnedAt_11 rfl (lv_at hl 0 rfl) ?_
  refine lv_iconst (v := nI 3) C.x C.b dX2_turnedAt_12 (by decide) ?_
  refine k_lald C hX (hM.at 0 rfl) (vp_in_nI (by omega) (by omega)) dX2_turnedAt_13 ?_
  refine k_topl (y := g 3) (by rw [nI_clamp (by omega)]) ?_
  refine lv_ladd C.x C.b dX2_turnedAt_14 ?_
  refine lv_aload_n C.x C.b dX2_turnedAt_15 rfl (lv_at hl 0 rfl) ?_
  refine lv_iload_n C.x C.b dX2_turnedAt_16 rfl (lv_at hl 1 rfl) ?_
  refine k_lald C hX (hM.at 0 rfl) (vp_in_nI (by omega) (by omega)) dX2_turnedAt_17 ?_
  refine k_topl (y := g pl) (by rw [nI_clamp (by omega)]) ?_
  refine lv_lsub C.x C.b dX2_turnedAt_18 ?_
  refine lv_lstore_n (lv' := [(2, .long (((((g 0) + (g 1)) + (g 2)) + (g 3)) - (g pl))), (0, .ref q9), (1, .int (nI pl))]) C.x C.b dX2_turnedAt_19 rfl hl (by decide) rfl (fun ls hl => ?_)
  refine lv_ldc2 (v := 2) C.x C.b C.ow (C.ts _ lk_X2_turnedAt_c35) dX2_turnedAt_20 ?_
  refine lv_lload_n C.x C.b dX2_turnedAt_23 rfl (lv_at hl 0 rfl) ?_
  refine lv_lmul C.x C.b dX2_turnedAt_24 ?_
  refine lv_aload_n C.x C.b dX2_turnedAt_25 rfl (lv_at hl 1 rfl) ?_
  refine lv_iload_n C.x C.b dX2_turnedAt_26 rfl (lv_at hl 2 rfl) ?_
  refine k_lald C hX (hM.at 0 rfl) (vp_in_nI (by omega) (by omega)) dX2_turnedAt_27 ?_
  refine k_topl (y := g pl) (by rw [nI_clamp (by omega)]) ?_
  refine lv_lsub C.x C.b dX2_turnedAt_28 ?_
  exact k_lret C hX hr hlocks hQ (by omega) (by omega) (⟨rfl, rfl⟩) dX2_turnedAt_29

abbrev rmX2_greatestPlace : Room := { frames := 0, cells := 0, slots := 0, locals := 0 }
set_option maxHeartbeats 4000000 in
set_option maxRecDepth 100000 in
/-- X2_greatestPlace -/
theorem kX2_greatestPlace (l : Launch) (G : kG) (B0 : Nat) (f : kH) (q9 : Nat) (g : Nat → Int64) (hM : kCs f [(q9, kaJ G 4 g)]) : Met l yX2_greatestPlace wsX2_greatestPlace (rmX2_greatestPlace) (kP G B0 f [.ref q9]) (kQi G B0 (fun r f1 => r = nI (xGr g 3) ∧ f1 = f)) 0 0 (kAb B0) := by
  refine kMet (cc := cX2_greatestPlace) (maxL := 3) (ret := (some .int)) (by decide) rfl (Nat.le_of_ble_eq_true rfl) ?_
  intro p e s m args below meth c H locs Q ls C hX hl hr hlocks hnm hQ
  have hl : lv_has ls 3 [(0, .ref q9)] := hl
  refine lv_iconst (v := nI 0) C.x C.b dX2_greatestPlace_0 (by decide) ?_
  refine lv_istore_n (lv' := [(1, .int (nI 0)), (0, .ref q9)]) C.x C.b dX2_greatestPlace_1 rfl hl (by decide) rfl (fun ls hl => ?_)
  refine lv_iconst (v := nI 1) C.x C.b dX2_greatestPlace_2 (by decide) ?_
  refine lv_istore_n (lv' := [(2, .int (nI 1)), (1, .int (nI 0)), (0, .ref q9)]) C.x C.b dX2_greatestPlace_3 rfl hl (by decide) rfl (fun ls hl => ?_)
  have LOOP4 : ∀ (n : Nat) (k : Nat), (k ≤ 3) → (3 - k) < n → ∀ (ls : Array Slot), lv_has ls 3 [(1, .int (nI (xGr g k))), (2, .int (nI (k + 1))), (0, .ref q9)] → ∀ (H : Heap) (locs : List Loc), kX G B0 s f H locs → W p l e (rmX2_greatestPlace) s m args below meth c H locs 0 0 Q (F0 m 4 ls []) := by
    intro n4
    induction n4 with
    | zero => intro k hk hn; exact absurd hn (Nat.not_lt_zero _)
    | succ n4 ih4 =>
      intro k hk hn ls hl H locs hX
      refine lv_iload_n C.x C.b dX2_greatestPlace_4 rfl (lv_at hl 1 rfl) ?_
      refine lv_iconst (v := nI 4) C.x C.b dX2_greatestPlace_5 (by decide) ?_
      refine lv_icmp_ge (tgt := 27) C.x C.b dX2_greatestPlace_6 (by decide) (fun c_6 => ?_) (fun c_6 => ?_)
      · skip
        have c_6 : 4 ≤ k + 1 := (nI_leI (by omega) (by omega)).mp c_6
        refine lv_iload_n C.x C.b dX2_greatestPlace_27 rfl (lv_at hl 0 rfl) ?_
        exact k_iret C hX hr hlocks hQ (by omega) (by omega) (⟨congrArg (fun z => nI (xGr g z)) (by omega), rfl⟩) dX2_greatestPlace_28
      · skip
        have c_6 : ¬ (4 ≤ k + 1) := fun h9 => c_6 ((nI_leI (by omega) (by omega)).mpr h9)
        have hgr := xGr_le g k
        refine lv_aload_n C.x C.b dX2_greatestPlace_9 rfl (lv_at hl 2 rfl) ?_
        refine lv_iload_n C.x C.b dX2_greatestPlace_10 rfl (lv_at hl 1 rfl) ?_
        refine k_lald C hX (hM.at 0 rfl) (vp_in_nI (by omega) (by omega)) dX2_greatestPlace_11 ?_
        refine k_topl (y := g (k + 1)) (by rw [nI_clamp (by omega)]) ?_
        refine lv_aload_n C.x C.b dX2_greatestPlace_12 rfl (lv_at hl 2 rfl) ?_
        refine lv_iload_n C.x C.b dX2_greatestPlace_13 rfl (lv_at hl 0 rfl) ?_
        refine k_lald C hX (hM.at 0 rfl) (vp_in_nI (by omega) (by omega)) dX2_greatestPlace_14 ?_
        refine k_topl (y := g (xGr g k)) (by rw [nI_clamp (by omega)]) ?_
        refine k_lcmp_le (tgt := 21) C.x C.b dX2_greatestPlace_15 dX2_greatestPlace_16 (by decide) (fun c_16 => ?_) (fun c_16 => ?_)
        · skip
          refine lv_iinc (v := (nI (k + 1 + 1))) (lv' := [(2, .int (nI (k + 1 + 1))), (1, .int (nI (xGr g k))), (0, .ref q9)]) C.x C.b dX2_greatestPlace_21 hl (k := 1) rfl (nI_1 _) (by decide) rfl (fun ls hl => ?_)
          refine lv_goto (tgt := 4) C.x C.b dX2_greatestPlace_24 (by decide) ?_
          rw [show (nI (xGr g k)) = (nI (xGr g (k + 1))) from congrArg nI (by rw [xGr]; first | exact (if_pos c_16).symm | exact (if_neg c_16).symm)] at hl
          exact ih4 (k + 1) (by omega) (by omega) ls (lv_sub hl [1, 0, 2] rfl) _ _ hX
        · skip
          refine lv_iload_n C.x C.b dX2_greatestPlace_19 rfl (lv_at hl 1 rfl) ?_
          refine lv_istore_n (lv' := [(1, .int (nI (k + 1))), (2, .int (nI (k + 1))), (0, .ref q9)]) C.x C.b dX2_greatestPlace_20 rfl hl (by decide) rfl (fun ls hl => ?_)
          refine lv_iinc (v := (nI (k + 1 + 1))) (lv' := [(2, .int (nI (k + 1 + 1))), (1, .int (nI (k + 1))), (0, .ref q9)]) C.x C.b dX2_greatestPlace_21 hl (k := 1) rfl (nI_1 _) (by decide) rfl (fun ls hl => ?_)
          refine lv_goto (tgt := 4) C.x C.b dX2_greatestPlace_24 (by decide) ?_
          rw [show (nI (k + 1)) = (nI (xGr g (k + 1))) from congrArg nI (by rw [xGr]; first | exact (if_pos c_16).symm | exact (if_neg c_16).symm)] at hl
          exact ih4 (k + 1) (by omega) (by omega) ls (lv_sub hl [1, 0, 2] rfl) _ _ hX
  exact LOOP4 _ 0 (by omega) (Nat.lt_succ_self _) ls (lv_sub hl [1, 0, 2] rfl) _ _ hX

theorem lk_X2_bringToRoot_c37 : Cond.constant RX2 37 (1000000) ∈ wsX2_bringToRoot := by decide +kernel
theorem hdX2_bringToRoot_X2_greatestPlace : yX2_greatestPlace.cls ≠ "java/lang/invoke/MethodHandle" ∧ yX2_greatestPlace.cls ≠ "java/lang/invoke/VarHandle" ∧ (parseMethodDescriptor yX2_greatestPlace.desc).map (fun d => d.parameters.length) = some 1 := by decide +kernel
theorem hdX2_bringToRoot_X2_turnedAt : yX2_turnedAt.cls ≠ "java/lang/invoke/MethodHandle" ∧ yX2_turnedAt.cls ≠ "java/lang/invoke/VarHandle" ∧ (parseMethodDescriptor yX2_turnedAt.desc).map (fun d => d.parameters.length) = some 2 := by decide +kernel
abbrev rmX2_bringToRoot : Room := { frames := 1, cells := 0, slots := 0, locals := 23 }
set_option maxHeartbeats 4000000 in
set_option maxRecDepth 100000 in
/-- X2_bringToRoot -/
theorem kX2_bringToRoot (l : Launch) (G : kG) (B0 : Nat) (f : kH) (q9 : Nat) (g : Nat → Int64) (hM : kCs f [(q9, kaJ G 4 g)]) : Met l yX2_bringToRoot wsX2_bringToRoot (rmX2_bringToRoot) (kP G B0 f [.ref q9]) (kQv G B0 (fun f1 => kCs f1 [(q9, kaJ G 4 (xRoot 1000000 g))] ∧ kOff [q9] f f1)) 0 0 (kAb B0) := by
  refine kMet (cc := cX2_bringToRoot) (maxL := 5) (ret := none) (by decide) rfl (Nat.le_of_ble_eq_true rfl) ?_
  intro p e s m args below meth c H locs Q ls C hX hl hr hlocks hnm hQ
  have hO : kOff [q9] f f := kOff.rf
  have hl : lv_has ls 5 [(0, .ref q9)] := hl
  refine lv_iconst (v := nI 0) C.x C.b dX2_bringToRoot_0 (by decide) ?_
  refine lv_istore_n (lv' := [(1, .int (nI 0)), (0, .ref q9)]) C.x C.b dX2_bringToRoot_1 rfl hl (by decide) rfl (fun ls hl => ?_)
  have LOOP2 : ∀ (n : Nat) (k : Nat) (gw : Nat → Int64), (k ≤ 1000000) → (xRoot (1000000 - k) gw = xRoot 1000000 g) → (1000000 - k) < n → ∀ (ls : Array Slot), lv_has ls 5 [(1, .int (nI k)), (0, .ref q9)] → ∀ (fL : kH), kCs fL ([(q9, kaJ G 4 gw)]) → kOff [q9] f fL → ∀ (H : Heap) (locs : List Loc), kX G B0 s fL H locs → W p l e (rmX2_bringToRoot) s m args below meth c H locs 0 0 Q (F0 m 2 ls []) := by
    intro n2
    induction n2 with
    | zero => intro k gw hk hv hn; exact absurd hn (Nat.not_lt_zero _)
    | succ n2 ih2 =>
      intro k gw hk hv hn ls hl fL hM hO H locs hX
      refine lv_iload_n C.x C.b dX2_bringToRoot_2 rfl (lv_at hl 0 rfl) ?_
      refine lv_ldc (v := nI 1000000) C.x C.b C.ow (C.ts _ lk_X2_bringToRoot_c37) dX2_bringToRoot_3 ?_
      refine lv_icmp_ge (tgt := 38) C.x C.b dX2_bringToRoot_5 (by decide) (fun c_5 => ?_) (fun c_5 => ?_)
      · skip
        have c_5 : 1000000 ≤ k := (nI_leI (by omega) (by omega)).mp c_5
        exact k_vret C hX hr hlocks hQ (by omega) (by omega) (by rw [show xRoot 1000000 g = gw from (by rw [← hv]; first | (rw [show 1000000 - k = 0 by omega, xRoot]; done) | (rw [show 1000000 - k = (1000000 - (k + 1)) + 1 by omega, xRoot, if_neg c_24]; done))]; exact ⟨hM, hO⟩) dX2_bringToRoot_38
      · skip
        have c_5 : ¬ (1000000 ≤ k) := fun h9 => c_5 ((nI_leI (by omega) (by omega)).mpr h9)
        refine lv_aload_n C.x C.b dX2_bringToRoot_8 rfl (lv_at hl 1 rfl) ?_
        refine k_calli (va_runS (As := [.ref q9]) (rest := []) C.1 (kX2_greatestPlace l G B0 fL q9 gw hM) (va_cwS 1 C.ts gX2_bringToRoot_X2_greatestPlace rfl rfl rfl (hdX2_bringToRoot_X2_greatestPlace) ⟨Nat.le_of_ble_eq_true rfl, Nat.le_of_ble_eq_true rfl⟩) (k_preS C hX) rfl rfl hl.1 rfl (lv_room (Nat.le_of_ble_eq_true rfl)) dX2_bringToRoot_9 ⟨Nat.le_of_ble_eq_true rfl, Nat.le_of_ble_eq_true rfl⟩) hX (fun r9 f9 H locs hp9 hX => ?_)
        obtain ⟨hr9, hf9⟩ := hp9
        rw [hf9] at hX
        refine k_topi (y := (nI (xGr gw 3))) hr9 ?_
        have hgr := xGr_le gw 3
        refine lv_istore_n (lv' := [(2, .int (nI (xGr gw 3))), (1, .int (nI k)), (0, .ref q9)]) C.x C.b dX2_bringToRoot_12 rfl hl (by decide) rfl (fun ls hl => ?_)
        refine lv_aload_n C.x C.b dX2_bringToRoot_13 rfl (lv_at hl 2 rfl) ?_
        refine lv_iload_n C.x C.b dX2_bringToRoot_14 rfl (lv_at hl 0 rfl) ?_
        refine k_calll (va_runS (As := [.ref q9, .int (nI (xGr gw 3))]) (rest := []) C.1 (kX2_turnedAt l G B0 fL q9 gw (xGr gw 3) hM (by omega)) (va_cwS 2 C.ts gX2_bringToRoot_X2_turnedAt rfl rfl rfl (hdX2_bringToRoot_X2_turnedAt) ⟨Nat.le_of_ble_eq_true rfl, Nat.le_of_ble_eq_true rfl⟩) (k_preS C hX) rfl rfl hl.1 rfl (lv_room (Nat.le_of_ble_eq_true rfl)) dX2_bringToRoot_15 ⟨Nat.le_of_ble_eq_true rfl, Nat.le_of_ble_eq_true rfl⟩) hX (fun r15 f15 H locs hp15 hX => ?_)
        obtain ⟨hr15, hf15⟩ := hp15
        rw [hf15] at hX
        refine k_topl (y := (xTurn gw (xGr gw 3))) hr15 ?_
        refine lv_lstore_n (lv' := [(3, .long (xTurn gw (xGr gw 3))), (2, .int (nI (xGr gw 3))), (1, .int (nI k)), (0, .ref q9)]) C.x C.b dX2_bringToRoot_18 rfl hl (by decide) rfl (fun ls hl => ?_)
        refine lv_lload_n C.x C.b dX2_bringToRoot_19 rfl (lv_at hl 0 rfl) ?_
        refine lv_aload_n C.x C.b dX2_bringToRoot_20 rfl (lv_at hl 3 rfl) ?_
        refine lv_iload_n C.x C.b dX2_bringToRoot_21 rfl (lv_at hl 1 rfl) ?_
        refine k_lald C hX (hM.at 0 rfl) (vp_in_nI (by omega) (by omega)) dX2_bringToRoot_22 ?_
        refine k_topl (y := gw (xGr gw 3)) (by rw [nI_clamp (by omega)]) ?_
        refine k_lcmp_lt (tgt := 28) C.x C.b dX2_bringToRoot_23 dX2_bringToRoot_24 (by decide) (fun c_24 => ?_) (fun c_24 => ?_)
        · skip
          refine lv_aload_n C.x C.b dX2_bringToRoot_28 rfl (lv_at hl 3 rfl) ?_
          refine lv_iload_n C.x C.b dX2_bringToRoot_29 rfl (lv_at hl 1 rfl) ?_
          refine lv_lload_n C.x C.b dX2_bringToRoot_30 rfl (lv_at hl 0 rfl) ?_
          refine k_last C hX (hM.at 0 rfl) (vp_in_nI (by omega) (by omega)) dX2_bringToRoot_31 (fun H locs hX => ?_)
          rw [nI_clamp (by omega)] at hX
          obtain ⟨g2, hX, hM, hO⟩ := kX.wr hX hM hO 0 rfl (List.mem_of_getElem? (i := 0) rfl)
          have hM : kCs g2 ([(q9, kaJ G 4 (vp_updL gw (xGr gw 3) (xTurn gw (xGr gw 3))))]) := hM
          refine lv_iinc (v := (nI (k + 1))) (lv' := [(1, .int (nI (k + 1))), (3, .long (xTurn gw (xGr gw 3))), (2, .int (nI (xGr gw 3))), (0, .ref q9)]) C.x C.b dX2_bringToRoot_32 hl (k := 2) rfl (nI_1 _) (by decide) rfl (fun ls hl => ?_)
          refine lv_goto (tgt := 2) C.x C.b dX2_bringToRoot_35 (by decide) ?_
          exact ih2 (k + 1) (vp_updL gw (xGr gw 3) (xTurn gw (xGr gw 3))) (by omega) (by rw [← hv, show 1000000 - k = (1000000 - (k + 1)) + 1 by omega, xRoot, if_pos c_24]) (by omega) ls (lv_sub hl [0, 3] rfl) _ hM hO _ _ hX
        · skip
          exact k_vret C hX hr hlocks hQ (by omega) (by omega) (by rw [show xRoot 1000000 g = gw from (by rw [← hv]; first | (rw [show 1000000 - k = 0 by omega, xRoot]; done) | (rw [show 1000000 - k = (1000000 - (k + 1)) + 1 by omega, xRoot, if_neg c_24]; done))]; exact ⟨hM, hO⟩) dX2_bringToRoot_27
  exact LOOP2 _ 0 g (by omega) rfl (Nat.lt_succ_self _) ls (lv_sub hl [0, 1] rfl) _ hM hO _ _ hX

abbrev rmX2_putInOrder : Room := { frames := 0, cells := 0, slots := 0, locals := 0 }
set_option maxHeartbeats 4000000 in
set_option maxRecDepth 100000 in
/-- X2_putInOrder -/
theorem kX2_putInOrder (l : Launch) (G : kG) (B0 : Nat) (f : kH) (q9 : Nat) (g : Nat → Int64) (hM : kCs f [(q9, kaJ G 4 g)]) : Met l yX2_putInOrder wsX2_putInOrder (rmX2_putInOrder) (kP G B0 f [.ref q9]) (kQv G B0 (fun f1 => kCs f1 [(q9, kaJ G 4 (xDown 3 g))] ∧ kOff [q9] f f1)) 0 0 (kAb B0) := by
  refine kMet (cc := cX2_putInOrder) (maxL := 5) (ret := none) (by decide) rfl (Nat.le_of_ble_eq_true rfl) ?_
  intro p e s m args below meth c H locs Q ls C hX hl hr hlocks hnm hQ
  have hO : kOff [q9] f f := kOff.rf
  have hl : lv_has ls 5 [(0, .ref q9)] := hl
  refine lv_iconst (v := nI 3) C.x C.b dX2_putInOrder_0 (by decide) ?_
  refine lv_istore_n (lv' := [(1, .int (nI 3)), (0, .ref q9)]) C.x C.b dX2_putInOrder_1 rfl hl (by decide) rfl (fun ls hl => ?_)
  have LOOP2 : ∀ (n : Nat) (en : Nat) (gw : Nat → Int64), (en ≤ 3) → (xDown en gw = xDown 3 g) → en < n → ∀ (ls : Array Slot), lv_has ls 5 [(1, .int (nI en)), (0, .ref q9)] → ∀ (fL : kH), kCs fL ([(q9, kaJ G 4 gw)]) → kOff [q9] f fL → ∀ (H : Heap) (locs : List Loc), kX G B0 s fL H locs → W p l e (rmX2_putInOrder) s m args below meth c H locs 0 0 Q (F0 m 2 ls []) := by
    intro n2
    induction n2 with
    | zero => intro en gw hen hv hn; exact absurd hn (Nat.not_lt_zero _)
    | succ n2 ih2 =>
      intro en gw hen hv hn ls hl fL hM hO H locs hX
      refine lv_iload_n C.x C.b dX2_putInOrder_2 rfl (lv_at hl 0 rfl) ?_
      refine lv_if_le (tgt := 55) C.x C.b dX2_putInOrder_3 (by decide) (fun c_3 => ?_) (fun c_3 => ?_)
      · skip
        have c_3 : en = 0 := Nat.le_zero.mp ((nI_leI (b := 0) (by omega) (by omega)).mp c_3)
        exact k_vret C hX hr hlocks hQ (by omega) (by omega) (by rw [← hv, show en = 0 by omega, xDown]; exact ⟨hM, hO⟩) dX2_putInOrder_55
      · skip
        have c_3 : 0 < en := Nat.not_le.mp (fun h9 => c_3 ((nI_leI (b := 0) (by omega) (by omega)).mpr h9))
        refine lv_iconst (v := nI 0) C.x C.b dX2_putInOrder_6 (by decide) ?_
        refine lv_istore_n (lv' := [(2, .int (nI 0)), (1, .int (nI en)), (0, .ref q9)]) C.x C.b dX2_putInOrder_7 rfl hl (by decide) rfl (fun ls hl => ?_)
        have LOOP8 : ∀ (n : Nat) (pl : Nat) (gi : Nat → Int64), (pl ≤ en) → (gi = xPass gw pl) → (en - pl) < n → ∀ (ls : Array Slot), lv_has ls 5 [(2, .int (nI pl)), (1, .int (nI en)), (0, .ref q9)] → ∀ (fL : kH), kCs fL ([(q9, kaJ G 4 gi)]) → kOff [q9] f fL → ∀ (H : Heap) (locs : List Loc), kX G B0 s fL H locs → W p l e (rmX2_putInOrder) s m args below meth c H locs 0 0 Q (F0 m 8 ls []) := by
          intro n8
          induction n8 with
          | zero => intro pl gi hpl hgi hn; exact absurd hn (Nat.not_lt_zero _)
          | succ n8 ih8 =>
            intro pl gi hpl hgi hn ls hl fL hM hO H locs hX
            refine lv_iload_n C.x C.b dX2_putInOrder_8 rfl (lv_at hl 0 rfl) ?_
            refine lv_iload_n C.x C.b dX2_putInOrder_9 rfl (lv_at hl 1 rfl) ?_
            refine lv_icmp_ge (tgt := 49) C.x C.b dX2_putInOrder_10 (by decide) (fun c_10 => ?_) (fun c_10 => ?_)
            · skip
              have c_10 : en ≤ pl := (nI_leI (by omega) (by omega)).mp c_10
              refine lv_iinc (v := (nI (en - 1))) (lv' := [(1, .int (nI (en - 1))), (2, .int (nI pl)), (0, .ref q9)]) C.x C.b dX2_putInOrder_49 hl (k := 1) rfl (nI_dec (by omega)) (by decide) rfl (fun ls hl => ?_)
              refine lv_goto (tgt := 2) C.x C.b dX2_putInOrder_52 (by decide) ?_
              exact ih2 (en - 1) gi (by omega) (by rw [← hv, hgi, show pl = en by omega]; obtain ⟨e1, rfl⟩ : ∃ e1, en = e1 + 1 := ⟨en - 1, by omega⟩; rfl) (by omega) ls (lv_sub hl [0, 2] rfl) _ hM hO _ _ hX
            · skip
              have c_10 : ¬ (en ≤ pl) := fun h9 => c_10 ((nI_leI (by omega) (by omega)).mpr h9)
              refine lv_aload_n C.x C.b dX2_putInOrder_13 rfl (lv_at hl 2 rfl) ?_
              refine lv_iload_n C.x C.b dX2_putInOrder_14 rfl (lv_at hl 0 rfl) ?_
              refine k_lald C hX (hM.at 0 rfl) (vp_in_nI (by omega) (by omega)) dX2_putInOrder_15 ?_
              refine k_topl (y := gi pl) (by rw [nI_clamp (by omega)]) ?_
              refine lv_aload_n C.x C.b dX2_putInOrder_16 rfl (lv_at hl 2 rfl) ?_
              refine lv_iload_n C.x C.b dX2_putInOrder_17 rfl (lv_at hl 0 rfl) ?_
              refine lv_iconst (v := nI 1) C.x C.b dX2_putInOrder_18 (by decide) ?_
              refine lv_iadd C.x C.b dX2_putInOrder_19 ?_
              refine k_topi (y := nI (pl + 1)) (nI_add _ _) ?_
              refine k_lald C hX (hM.at 0 rfl) (vp_in_nI (by omega) (by omega)) dX2_putInOrder_20 ?_
              refine k_topl (y := gi (pl + 1)) (by rw [nI_clamp (by omega)]) ?_
              refine k_lcmp_le (tgt := 43) C.x C.b dX2_putInOrder_21 dX2_putInOrder_22 (by decide) (fun c_22 => ?_) (fun c_22 => ?_)
              · skip
                refine lv_iinc (v := (nI (pl + 1))) (lv' := [(2, .int (nI (pl + 1))), (1, .int (nI en)), (0, .ref q9)]) C.x C.b dX2_putInOrder_43 hl (k := 0) rfl (nI_1 _) (by decide) rfl (fun ls hl => ?_)
                refine lv_goto (tgt := 8) C.x C.b dX2_putInOrder_46 (by decide) ?_
                exact ih8 (pl + 1) (gi) (by omega) (by rw [xPass, ← hgi, xSw]; first | exact (if_pos c_22).symm | exact (if_neg c_22).symm) (by omega) ls (lv_sub hl [0, 1, 2] rfl) _ hM hO _ _ hX
              · skip
                refine lv_aload_n C.x C.b dX2_putInOrder_25 rfl (lv_at hl 2 rfl) ?_
                refine lv_iload_n C.x C.b dX2_putInOrder_26 rfl (lv_at hl 0 rfl) ?_
                refine k_lald C hX (hM.at 0 rfl) (vp_in_nI (by omega) (by omega)) dX2_putInOrder_27 ?_
                refine k_topl (y := gi pl) (by rw [nI_clamp (by omega)]) ?_
                refine lv_lstore_n (lv' := [(3, .long (gi pl)), (2, .int (nI pl)), (1, .int (nI en)), (0, .ref q9)]) C.x C.b dX2_putInOrder_28 rfl hl (by decide) rfl (fun ls hl => ?_)
                refine lv_aload_n C.x C.b dX2_putInOrder_29 rfl (lv_at hl 3 rfl) ?_
                refine lv_iload_n C.x C.b dX2_putInOrder_30 rfl (lv_at hl 1 rfl) ?_
                refine lv_aload_n C.x C.b dX2_putInOrder_31 rfl (lv_at hl 3 rfl) ?_
                refine lv_iload_n C.x C.b dX2_putInOrder_32 rfl (lv_at hl 1 rfl) ?_
                refine lv_iconst (v := nI 1) C.x C.b dX2_putInOrder_33 (by decide) ?_
                refine lv_iadd C.x C.b dX2_putInOrder_34 ?_
                refine k_topi (y := nI (pl + 1)) (nI_add _ _) ?_
                refine k_lald C hX (hM.at 0 rfl) (vp_in_nI (by omega) (by omega)) dX2_putInOrder_35 ?_
                refine k_topl (y := gi (pl + 1)) (by rw [nI_clamp (by omega)]) ?_
                refine k_last C hX (hM.at 0 rfl) (vp_in_nI (by omega) (by omega)) dX2_putInOrder_36 (fun H locs hX => ?_)
                rw [nI_clamp (by omega)] at hX
                obtain ⟨g3, hX, hM, hO⟩ := kX.wr hX hM hO 0 rfl (List.mem_of_getElem? (i := 0) rfl)
                have hM : kCs g3 ([(q9, kaJ G 4 (vp_updL gi pl (gi (pl + 1))))]) := hM
                refine lv_aload_n C.x C.b dX2_putInOrder_37 rfl (lv_at hl 3 rfl) ?_
                refine lv_iload_n C.x C.b dX2_putInOrder_38 rfl (lv_at hl 1 rfl) ?_
                refine lv_iconst (v := nI 1) C.x C.b dX2_putInOrder_39 (by decide) ?_
                refine lv_iadd C.x C.b dX2_putInOrder_40 ?_
                refine k_topi (y := nI (pl + 1)) (nI_add _ _) ?_
                refine lv_lload_n C.x C.b dX2_putInOrder_41 rfl (lv_at hl 0 rfl) ?_
                refine k_last C hX (hM.at 0 rfl) (vp_in_nI (by omega) (by omega)) dX2_putInOrder_42 (fun H locs hX => ?_)
                rw [nI_clamp (by omega)] at hX
                obtain ⟨g4, hX, hM, hO⟩ := kX.wr hX hM hO 0 rfl (List.mem_of_getElem? (i := 0) rfl)
                have hM : kCs g4 ([(q9, kaJ G 4 (vp_updL (vp_updL gi pl (gi (pl + 1))) (pl + 1) (gi pl)))]) := hM
                refine lv_iinc (v := (nI (pl + 1))) (lv' := [(2, .int (nI (pl + 1))), (3, .long (gi pl)), (1, .int (nI en)), (0, .ref q9)]) C.x C.b dX2_putInOrder_43 hl (k := 1) rfl (nI_1 _) (by decide) rfl (fun ls hl => ?_)
                refine lv_goto (tgt := 8) C.x C.b dX2_putInOrder_46 (by decide) ?_
                exact ih8 (pl + 1) (vp_updL (vp_updL gi pl (gi (pl + 1))) (pl + 1) (gi pl)) (by omega) (by rw [xPass, ← hgi, xSw]; first | exact (if_pos c_22).symm | exact (if_neg c_22).symm) (by omega) ls (lv_sub hl [0, 2, 3] rfl) _ hM hO _ _ hX
        exact LOOP8 _ 0 gw (by omega) rfl (Nat.lt_succ_self _) ls (lv_sub hl [0, 1, 2] rfl) _ hM hO _ _ hX
  exact LOOP2 _ 3 g (by omega) rfl (Nat.lt_succ_self _) ls (lv_sub hl [0, 1] rfl) _ hM hO _ _ hX

theorem lk_X2_rowOf_aclong : Cond.arrayClass .long ∈ wsX2_rowOf := by decide +kernel
abbrev rmX2_rowOf : Room := { frames := 0, cells := 1, slots := 4, locals := 0 }
set_option maxHeartbeats 4000000 in
set_option maxRecDepth 100000 in
/-- X2_rowOf -/
theorem kX2_rowOf (l : Launch) (G : kG) (B0 : Nat) (f : kH) (x1 x2 x3 x4 : Int64) : Met l yX2_rowOf wsX2_rowOf (rmX2_rowOf) (kP G B0 f [.long x1, .long x2, .long x3, .long x4]) (kQq G B0 (fun r f1 => ∃ q : Nat, r = some q ∧ f q = none ∧ f1 q = some (kaJ G 4 (xRow x1 x2 x3 x4)) ∧ kKp [] f f1)) 1 4 (kAb B0) := by
  refine kMet (cc := cX2_rowOf) (maxL := 9) (ret := (some (.array .long))) (by decide) rfl (Nat.le_of_ble_eq_true rfl) ?_
  intro p e s m args below meth c H locs Q ls C hX hl hr hlocks hnm hQ
  have hO : kKp [] f f := kKp.rf
  have hS : ∀ a ∈ ([] : List Nat), (f a).isSome := by intro a h9; cases h9
  have hl : lv_has ls 9 [(0, .long x1), (2, .long x2), (4, .long x3), (6, .long x4)] := hl
  have hM : kCs f [] := ⟨fun q hq => absurd hq (by simp), List.nodup_nil⟩
  refine lv_iconst (v := nI 4) C.x C.b dX2_rowOf_0 (by decide) ?_
  refine k_newaJ (atype := .long) (R9 := 4) C hX (C.ts _ lk_X2_rowOf_aclong) rfl (by decide) (by decide) (by decide) (by decide) (by decide) dX2_rowOf_1 (fun n1 H hn hX => ?_)
  obtain ⟨g2, hX, hM, hO, fr_n1, hS⟩ := kX.nwP hX hM hO hn hS
  have hM : kCs g2 ([(n1, kaJ G 4 (fun _ => 0))]) := hM
  refine lv_astore (lv' := [(8, .ref n1), (0, .long x1), (2, .long x2), (4, .long x3), (6, .long x4)]) C.x C.b dX2_rowOf_3 hl (by decide) rfl (fun ls hl => ?_)
  refine lv_aload C.x C.b dX2_rowOf_5 (lv_at hl 0 rfl) ?_
  refine lv_iconst (v := nI 0) C.x C.b dX2_rowOf_7 (by decide) ?_
  refine lv_lload_n C.x C.b dX2_rowOf_8 rfl (lv_at hl 1 rfl) ?_
  refine k_last C hX (hM.at 0 rfl) (vp_in_nI (by omega) (by omega)) dX2_rowOf_9 (fun H locs hX => ?_)
  rw [nI_clamp (by omega)] at hX
  obtain ⟨g3, hX, hM, hO, hS⟩ := kX.wrP hX hM hO hS 0 rfl (Or.inr fr_n1)
  have hM : kCs g3 ([(n1, kaJ G 4 (vp_updL (fun _ => 0) 0 x1))]) := hM
  refine lv_aload C.x C.b dX2_rowOf_10 (lv_at hl 0 rfl) ?_
  refine lv_iconst (v := nI 1) C.x C.b dX2_rowOf_12 (by decide) ?_
  refine lv_lload_n C.x C.b dX2_rowOf_13 rfl (lv_at hl 2 rfl) ?_
  refine k_last C hX (hM.at 0 rfl) (vp_in_nI (by omega) (by omega)) dX2_rowOf_14 (fun H locs hX => ?_)
  rw [nI_clamp (by omega)] at hX
  obtain ⟨g4, hX, hM, hO, hS⟩ := kX.wrP hX hM hO hS 0 rfl (Or.inr fr_n1)
  have hM : kCs g4 ([(n1, kaJ G 4 (vp_updL (vp_updL (fun _ => 0) 0 x1) 1 x2))]) := hM
  refine lv_aload C.x C.b dX2_rowOf_15 (lv_at hl 0 rfl) ?_
  refine lv_iconst (v := nI 2) C.x C.b dX2_rowOf_17 (by decide) ?_
  refine lv_lload C.x C.b dX2_rowOf_18 (lv_at hl 3 rfl) ?_
  refine k_last C hX (hM.at 0 rfl) (vp_in_nI (by omega) (by omega)) dX2_rowOf_20 (fun H locs hX => ?_)
  rw [nI_clamp (by omega)] at hX
  obtain ⟨g5, hX, hM, hO, hS⟩ := kX.wrP hX hM hO hS 0 rfl (Or.inr fr_n1)
  have hM : kCs g5 ([(n1, kaJ G 4 (vp_updL (vp_updL (vp_updL (fun _ => 0) 0 x1) 1 x2) 2 x3))]) := hM
  refine lv_aload C.x C.b dX2_rowOf_21 (lv_at hl 0 rfl) ?_
  refine lv_iconst (v := nI 3) C.x C.b dX2_rowOf_23 (by decide) ?_
  refine lv_lload C.x C.b dX2_rowOf_24 (lv_at hl 4 rfl) ?_
  refine k_last C hX (hM.at 0 rfl) (vp_in_nI (by omega) (by omega)) dX2_rowOf_26 (fun H locs hX => ?_)
  rw [nI_clamp (by omega)] at hX
  obtain ⟨g6, hX, hM, hO, hS⟩ := kX.wrP hX hM hO hS 0 rfl (Or.inr fr_n1)
  have hM : kCs g6 ([(n1, kaJ G 4 (vp_updL (vp_updL (vp_updL (vp_updL (fun _ => 0) 0 x1) 1 x2) 2 x3) 3 x4))]) := hM
  refine lv_aload C.x C.b dX2_rowOf_27 (lv_at hl 0 rfl) ?_
  exact k_aret (v := some n1) C hX hr (Or.inr ⟨_, rfl⟩) hlocks hQ (by omega) (by omega) (⟨n1, rfl, fr_n1, hM.at 0 rfl, hO⟩) dX2_rowOf_29

theorem hdX2_rootOf_X2_rowOf : yX2_rowOf.cls ≠ "java/lang/invoke/MethodHandle" ∧ yX2_rowOf.cls ≠ "java/lang/invoke/VarHandle" ∧ (parseMethodDescriptor yX2_rowOf.desc).map (fun d => d.parameters.length) = some 4 := by decide +kernel
theorem hdX2_rootOf_X2_bringToRoot : yX2_bringToRoot.cls ≠ "java/lang/invoke/MethodHandle" ∧ yX2_bringToRoot.cls ≠ "java/lang/invoke/VarHandle" ∧ (parseMethodDescriptor yX2_bringToRoot.desc).map (fun d => d.parameters.length) = some 1 := by decide +kernel
theorem hdX2_rootOf_X2_putInOrder : yX2_putInOrder.cls ≠ "java/lang/invoke/MethodHandle" ∧ yX2_putInOrder.cls ≠ "java/lang/invoke/VarHandle" ∧ (parseMethodDescriptor yX2_putInOrder.desc).map (fun d => d.parameters.length) = some 1 := by decide +kernel
abbrev rmX2_rootOf : Room := { frames := 2, cells := 1, slots := 4, locals := 47 }
set_option maxHeartbeats 4000000 in
set_option maxRecDepth 100000 in
/-- X2_rootOf -/
theorem kX2_rootOf (l : Launch) (G : kG) (B0 : Nat) (f : kH) (x1 x2 x3 x4 : Int64) : Met l yX2_rootOf wsX2_rootOf (rmX2_rootOf) (kP G B0 f [.long x1, .long x2, .long x3, .long x4]) (kQq G B0 (fun r f1 => ∃ q : Nat, r = some q ∧ f q = none ∧ f1 q = some (kaJ G 4 (xLeast x1 x2 x3 x4)) ∧ kKp [] f f1)) 1 4 (kAb B0) := by
  refine kMet (cc := cX2_rootOf) (maxL := 9) (ret := (some (.array .long))) (by decide) rfl (Nat.le_of_ble_eq_true rfl) ?_
  intro p e s m args below meth c H locs Q ls C hX hl hr hlocks hnm hQ
  have hO : kKp [] f f := kKp.rf
  have hS : ∀ a ∈ ([] : List Nat), (f a).isSome := by intro a h9; cases h9
  have hl : lv_has ls 9 [(0, .long x1), (2, .long x2), (4, .long x3), (6, .long x4)] := hl
  have hM : kCs f [] := ⟨fun q hq => absurd hq (by simp), List.nodup_nil⟩
  refine lv_lload_n C.x C.b dX2_rootOf_0 rfl (lv_at hl 0 rfl) ?_
  refine lv_lload_n C.x C.b dX2_rootOf_1 rfl (lv_at hl 1 rfl) ?_
  refine lv_lload C.x C.b dX2_rootOf_2 (lv_at hl 2 rfl) ?_
  refine lv_lload C.x C.b dX2_rootOf_4 (lv_at hl 3 rfl) ?_
  refine k_callq (va_runS (As := [.long x1, .long x2, .long x3, .long x4]) (rest := []) C.1 (kX2_rowOf l G B0 f x1 x2 x3 x4) (va_cwS 4 C.ts gX2_rootOf_X2_rowOf rfl rfl rfl (hdX2_rootOf_X2_rowOf) ⟨Nat.le_of_ble_eq_true rfl, Nat.le_of_ble_eq_true rfl⟩) (k_preS C hX) rfl rfl hl.1 rfl (lv_room (Nat.le_of_ble_eq_true rfl)) dX2_rootOf_6 ⟨Nat.le_of_ble_eq_true rfl, Nat.le_of_ble_eq_true rfl⟩) hX (fun r6 f6 H locs hp6 hX => ?_)
  obtain ⟨q6, hr6, hn6, hM9, hO9⟩ := hp6
  have fr_q6 : f q6 = none := hO.fr hS hn6
  have hM9 : kCs f6 ([] ++ [(q6, kaJ G 4 (xRow x1 x2 x3 x4))]) := kCs.one hM9
  have hM : kCs f6 ([(q6, kaJ G 4 (xRow x1 x2 x3 x4))]) := hM.subg hM9 hO9 hn6 [] (by simp) trivial
  have hO := hO.then (hO9) (by intro a h9; cases h9)
  have hS : ∀ a ∈ ([] : List Nat), (f6 a).isSome := by intro a h9; cases h9
  refine k_topq (v := q6) hr6 ?_
  refine lv_astore (lv' := [(8, .ref q6), (0, .long x1), (2, .long x2), (4, .long x3), (6, .long x4)]) C.x C.b dX2_rootOf_9 hl (by decide) rfl (fun ls hl => ?_)
  refine lv_aload C.x C.b dX2_rootOf_11 (lv_at hl 0 rfl) ?_
  have hM9 : kCs f6 ([(q6, kaJ G 4 (xRow x1 x2 x3 x4))]) := hM.pick [0] (by decide) ⟨rfl, trivial⟩
  refine k_callv (va_runS (As := [.ref q6]) (rest := []) C.1 (kX2_bringToRoot l G B0 f6 q6 (xRow x1 x2 x3 x4) hM9) (va_cwS 1 C.ts gX2_rootOf_X2_bringToRoot rfl rfl rfl (hdX2_rootOf_X2_bringToRoot) ⟨Nat.le_of_ble_eq_true rfl, Nat.le_of_ble_eq_true rfl⟩) (k_preS C hX) rfl rfl hl.1 rfl (lv_room (Nat.le_of_ble_eq_true rfl)) dX2_rootOf_13 ⟨Nat.le_of_ble_eq_true rfl, Nat.le_of_ble_eq_true rfl⟩) hX (fun f13 H locs hp13 hX => ?_)
  obtain ⟨hM9, hO9⟩ := hp13
  have hM : kCs f13 ([(q6, kaJ G 4 (xRoot 1000000 (xRow x1 x2 x3 x4)))]) := hM.sub hM9 (kKp.of hO9) [0] (by simp) ⟨rfl, trivial⟩
  have hO := hO.then (kKp.of hO9) (by
      intro a h9
      simp only [List.mem_cons, List.not_mem_nil, or_false] at h9
      rcases h9 with rfl
      · exact Or.inr fr_q6)
  have hS : ∀ a ∈ ([] : List Nat), (f13 a).isSome := by intro a h9; cases h9
  refine lv_aload C.x C.b dX2_rootOf_16 (lv_at hl 0 rfl) ?_
  have hM9 : kCs f13 ([(q6, kaJ G 4 (xRoot 1000000 (xRow x1 x2 x3 x4)))]) := hM.pick [0] (by decide) ⟨rfl, trivial⟩
  refine k_callv (va_runS (As := [.ref q6]) (rest := []) C.1 (kX2_putInOrder l G B0 f13 q6 (xRoot 1000000 (xRow x1 x2 x3 x4)) hM9) (va_cwS 1 C.ts gX2_rootOf_X2_putInOrder rfl rfl rfl (hdX2_rootOf_X2_putInOrder) ⟨Nat.le_of_ble_eq_true rfl, Nat.le_of_ble_eq_true rfl⟩) (k_preS C hX) rfl rfl hl.1 rfl (lv_room (Nat.le_of_ble_eq_true rfl)) dX2_rootOf_18 ⟨Nat.le_of_ble_eq_true rfl, Nat.le_of_ble_eq_true rfl⟩) hX (fun f18 H locs hp18 hX => ?_)
  obtain ⟨hM9, hO9⟩ := hp18
  have hM : kCs f18 ([(q6, kaJ G 4 (xDown 3 (xRoot 1000000 (xRow x1 x2 x3 x4))))]) := hM.sub hM9 (kKp.of hO9) [0] (by simp) ⟨rfl, trivial⟩
  have hO := hO.then (kKp.of hO9) (by
      intro a h9
      simp only [List.mem_cons, List.not_mem_nil, or_false] at h9
      rcases h9 with rfl
      · exact Or.inr fr_q6)
  have hS : ∀ a ∈ ([] : List Nat), (f18 a).isSome := by intro a h9; cases h9
  refine lv_aload C.x C.b dX2_rootOf_21 (lv_at hl 0 rfl) ?_
  exact k_aret (v := some q6) C hX hr (Or.inr ⟨_, rfl⟩) hlocks hQ (by omega) (by omega) (⟨q6, rfl, fr_q6, hM.at 0 rfl, hO⟩) dX2_rootOf_23

theorem lk_X2_init_m3 : Cond.methodLink RX2 3 objectInit ∈ wsX2_init := by decide +kernel
theorem lk_X2_init_oi : Cond.instanceMethod objectInit ∈ wsX2_init := by decide +kernel
theorem lk_X2_init_oc : Cond.code objectInit ⟨#[0xb1]⟩ 1 none ∈ wsX2_init := by decide +kernel
theorem hdX2_init_X2_rowOf : yX2_rowOf.cls ≠ "java/lang/invoke/MethodHandle" ∧ yX2_rowOf.cls ≠ "java/lang/invoke/VarHandle" ∧ (parseMethodDescriptor yX2_rowOf.desc).map (fun d => d.parameters.length) = some 4 := by decide +kernel
theorem lk_X2_init_f15 : Cond.fieldLink RX2 15 "Koebehall$Gasket" "four" "[J" ∈ wsX2_init := by decide +kernel
theorem hin_X2_init_RX2 : ∀ w ∈ u_ws RX2 TX2 3, w ∈ wsX2_init := by decide +kernel
theorem hdX2_init_X2_rootOf : yX2_rootOf.cls ≠ "java/lang/invoke/MethodHandle" ∧ yX2_rootOf.cls ≠ "java/lang/invoke/VarHandle" ∧ (parseMethodDescriptor yX2_rootOf.desc).map (fun d => d.parameters.length) = some 4 := by decide +kernel
theorem lk_X2_init_f22 : Cond.fieldLink RX2 22 "Koebehall$Gasket" "least" "[J" ∈ wsX2_init := by decide +kernel
theorem lk_X2_init_aclong : Cond.arrayClass .long ∈ wsX2_init := by decide +kernel
theorem lk_X2_init_f25 : Cond.fieldLink RX2 25 "Koebehall$Gasket" "walked" "[J" ∈ wsX2_init := by decide +kernel
abbrev rmX2_init : Room := { frames := 3, cells := 3, slots := 12, locals := 75 }
set_option maxHeartbeats 4000000 in
set_option maxRecDepth 100000 in
/-- X2_init -/
theorem kX2_init (l : Launch) (G : kG) (B0 : Nat) (f : kH) (h : Nat) (x1 x2 x3 x4 : Int64) (hM : kCs f [(h, .inr (2, [.null, .null, .null]))]) : Met l yX2_init wsX2_init (rmX2_init) (kP G B0 f [.ref h, .long x1, .long x2, .long x3, .long x4]) (kQv G B0 (fun f1 => ∃ q1 q2 q3 : Nat, kCs f1 [(h, .inr (2, [.ref q1, .ref q2, .ref q3])), (q1, kaJ G 4 (xRow x1 x2 x3 x4)), (q2, kaJ G 4 (xLeast x1 x2 x3 x4)), (q3, kaJ G 4 (fun _ => 0))] ∧ kKp [h] f f1 ∧ f q1 = none ∧ f q2 = none ∧ f q3 = none)) 3 12 (kAb B0) := by
  refine kMet (cc := cX2_init) (maxL := 9) (ret := none) (by decide) rfl (Nat.le_of_ble_eq_true rfl) ?_
  intro p e s m args below meth c H locs Q ls C hX hl hr hlocks hnm hQ
  have hO : kKp [h] f f := kKp.rf
  have hS : ∀ a ∈ [h], (f a).isSome := by
    intro a h9
    simp only [List.mem_cons, List.not_mem_nil, or_false] at h9
    rcases h9 with rfl
    · rw [hM.at 0 rfl]; rfl
  have hl : lv_has ls 9 [(0, .ref h), (1, .long x1), (3, .long x2), (5, .long x3), (7, .long x4)] := hl
  refine lv_aload_n C.x C.b dX2_init_0 rfl (lv_at hl 0 rfl) ?_
  refine W.objInit C.x C.b C.ow (C.ts _ lk_X2_init_m3) (C.ts _ lk_X2_init_oi) (C.ts _ lk_X2_init_oc) rfl (by rw [C.ml]; exact hl.1) rfl dX2_init_1 (Nat.le_of_ble_eq_true rfl) (Nat.le_of_ble_eq_true rfl) ?_
  refine W.eq (g2 := F0 m 4 ls []) rfl ?_
  refine lv_aload_n C.x C.b dX2_init_4 rfl (lv_at hl 0 rfl) ?_
  refine lv_lload_n C.x C.b dX2_init_5 rfl (lv_at hl 1 rfl) ?_
  refine lv_lload_n C.x C.b dX2_init_6 rfl (lv_at hl 2 rfl) ?_
  refine lv_lload C.x C.b dX2_init_7 (lv_at hl 3 rfl) ?_
  refine lv_lload C.x C.b dX2_init_9 (lv_at hl 4 rfl) ?_
  refine k_callq (va_runS (As := [.long x1, .long x2, .long x3, .long x4]) (rest := [.ref h]) C.1 (kX2_rowOf l G B0 f x1 x2 x3 x4) (va_cwS 4 C.ts gX2_init_X2_rowOf rfl rfl rfl (hdX2_init_X2_rowOf) ⟨Nat.le_of_ble_eq_true rfl, Nat.le_of_ble_eq_true rfl⟩) (k_preS C hX) rfl rfl hl.1 rfl (lv_room (Nat.le_of_ble_eq_true rfl)) dX2_init_11 ⟨Nat.le_of_ble_eq_true rfl, Nat.le_of_ble_eq_true rfl⟩) hX (fun r11 f11 H locs hp11 hX => ?_)
  obtain ⟨q11, hr11, hn11, hM9, hO9⟩ := hp11
  have fr_q11 : f q11 = none := hO.fr hS hn11
  have hM9 : kCs f11 ([] ++ [(q11, kaJ G 4 (xRow x1 x2 x3 x4))]) := kCs.one hM9
  have hM : kCs f11 ([(h, .inr (2, [.null, .null, .null])), (q11, kaJ G 4 (xRow x1 x2 x3 x4))]) := hM.subg hM9 hO9 hn11 [] (by simp) trivial
  have hO := hO.then (hO9) (by intro a h9; cases h9)
  have hS : ∀ a ∈ [h], (f11 a).isSome := by
    intro a h9
    simp only [List.mem_cons, List.not_mem_nil, or_false] at h9
    rcases h9 with rfl
    · rw [hM.at 0 rfl]; rfl
  refine k_topq (v := q11) hr11 ?_
  refine k_putF (X := RX2) (T := TX2) (N := 3) (ty := .array .long) (v := .ref q11) C hX (hM.at 0 rfl) rfl hin_X2_init_RX2 tyX2_ok nmX2 0 (by decide) lk_X2_init_f15 (fun _ h9 => h9) rfl hnm rfl rfl (by decide +kernel) rfl rfl (Nat.le_of_ble_eq_true rfl) dX2_init_14 (fun H locs hX => ?_)
  obtain ⟨g1, hX, hM, hO, hS⟩ := kX.wrP hX hM hO hS 0 rfl (Or.inl (by simp))
  have hM : kCs g1 ([(h, .inr (2, [.ref q11, .null, .null])), (q11, kaJ G 4 (xRow x1 x2 x3 x4))]) := hM
  refine lv_aload_n C.x C.b dX2_init_17 rfl (lv_at hl 0 rfl) ?_
  refine lv_lload_n C.x C.b dX2_init_18 rfl (lv_at hl 1 rfl) ?_
  refine lv_lload_n C.x C.b dX2_init_19 rfl (lv_at hl 2 rfl) ?_
  refine lv_lload C.x C.b dX2_init_20 (lv_at hl 3 rfl) ?_
  refine lv_lload C.x C.b dX2_init_22 (lv_at hl 4 rfl) ?_
  refine k_callq (va_runS (As := [.long x1, .long x2, .long x3, .long x4]) (rest := [.ref h]) C.1 (kX2_rootOf l G B0 g1 x1 x2 x3 x4) (va_cwS 4 C.ts gX2_init_X2_rootOf rfl rfl rfl (hdX2_init_X2_rootOf) ⟨Nat.le_of_ble_eq_true rfl, Nat.le_of_ble_eq_true rfl⟩) (k_preS C hX) rfl rfl hl.1 rfl (lv_room (Nat.le_of_ble_eq_true rfl)) dX2_init_24 ⟨Nat.le_of_ble_eq_true rfl, Nat.le_of_ble_eq_true rfl⟩) hX (fun r24 f24 H locs hp24 hX => ?_)
  obtain ⟨q24, hr24, hn24, hM9, hO9⟩ := hp24
  have fr_q24 : f q24 = none := hO.fr hS hn24
  have hM9 : kCs f24 ([] ++ [(q24, kaJ G 4 (xLeast x1 x2 x3 x4))]) := kCs.one hM9
  have hM : kCs f24 ([(h, .inr (2, [.ref q11, .null, .null])), (q11, kaJ G 4 (xRow x1 x2 x3 x4)), (q24, kaJ G 4 (xLeast x1 x2 x3 x4))]) := hM.subg hM9 hO9 hn24 [] (by simp) trivial
  have hO := hO.then (hO9) (by intro a h9; cases h9)
  have hS : ∀ a ∈ [h], (f24 a).isSome := by
    intro a h9
    simp only [List.mem_cons, List.not_mem_nil, or_false] at h9
    rcases h9 with rfl
    · rw [hM.at 0 rfl]; rfl
  refine k_topq (v := q24) hr24 ?_
  refine k_putF (X := RX2) (T := TX2) (N := 3) (ty := .array .long) (v := .ref q24) C hX (hM.at 0 rfl) rfl hin_X2_init_RX2 tyX2_ok nmX2 1 (by decide) lk_X2_init_f22 (fun _ h9 => h9) rfl hnm rfl rfl (by decide +kernel) rfl rfl (Nat.le_of_ble_eq_true rfl) dX2_init_27 (fun H locs hX => ?_)
  obtain ⟨g2, hX, hM, hO, hS⟩ := kX.wrP hX hM hO hS 0 rfl (Or.inl (by simp))
  have hM : kCs g2 ([(h, .inr (2, [.ref q11, .ref q24, .null])), (q11, kaJ G 4 (xRow x1 x2 x3 x4)), (q24, kaJ G 4 (xLeast x1 x2 x3 x4))]) := hM
  refine lv_aload_n C.x C.b dX2_init_30 rfl (lv_at hl 0 rfl) ?_
  refine lv_iconst (v := nI 4) C.x C.b dX2_init_31 (by decide) ?_
  refine k_newaJ (atype := .long) (R9 := 4) C hX (C.ts _ lk_X2_init_aclong) rfl (by decide) (by decide) (by decide) (by decide) (by decide) dX2_init_32 (fun n3 H hn hX => ?_)
  obtain ⟨g4, hX, hM, hO, fr_n3, hS⟩ := kX.nwP hX hM hO hn hS
  have hM : kCs g4 ([(h, .inr (2, [.ref q11, .ref q24, .null])), (q11, kaJ G 4 (xRow x1 x2 x3 x4)), (q24, kaJ G 4 (xLeast x1 x2 x3 x4)), (n3, kaJ G 4 (fun _ => 0))]) := hM
  refine k_putF (X := RX2) (T := TX2) (N := 3) (ty := .array .long) (v := .ref n3) C hX (hM.at 0 rfl) rfl hin_X2_init_RX2 tyX2_ok nmX2 2 (by decide) lk_X2_init_f25 (fun _ h9 => h9) rfl hnm rfl rfl (by decide +kernel) rfl rfl (Nat.le_of_ble_eq_true rfl) dX2_init_34 (fun H locs hX => ?_)
  obtain ⟨g5, hX, hM, hO, hS⟩ := kX.wrP hX hM hO hS 0 rfl (Or.inl (by simp))
  have hM : kCs g5 ([(h, .inr (2, [.ref q11, .ref q24, .ref n3])), (q11, kaJ G 4 (xRow x1 x2 x3 x4)), (q24, kaJ G 4 (xLeast x1 x2 x3 x4)), (n3, kaJ G 4 (fun _ => 0))]) := hM
  exact k_vret C hX hr hlocks hQ (by omega) (by omega) (⟨q11, q24, n3, hM, hO, fr_q11, fr_q24, fr_n3⟩) dX2_init_37

theorem lk_X2_circlesOfRoot_f22 : Cond.fieldLink RX2 22 "Koebehall$Gasket" "least" "[J" ∈ wsX2_circlesOfRoot := by decide +kernel
theorem hin_X2_circlesOfRoot_RX2 : ∀ w ∈ u_ws RX2 TX2 3, w ∈ wsX2_circlesOfRoot := by decide +kernel
abbrev rmX2_circlesOfRoot : Room := { frames := 0, cells := 0, slots := 0, locals := 0 }
set_option maxHeartbeats 4000000 in
set_option maxRecDepth 100000 in
/-- X2_circlesOfRoot -/
theorem kX2_circlesOfRoot (l : Launch) (G : kG) (B0 : Nat) (f : kH) (h q1 q2 q3 : Nat) (g : Nat → Int64) (b : Int32) (hM : kCs f [(h, .inr (2, [.ref q1, .ref q2, .ref q3])), (q2, kaJ G 4 g)]) : Met l yX2_circlesOfRoot wsX2_circlesOfRoot (rmX2_circlesOfRoot) (kP G B0 f [.ref h, .int b]) (kQi G B0 (fun r f1 => r = nI (kCnt (fun k => g k ≤ b.toInt64) 4) ∧ f1 = f)) 0 0 (kAb B0) := by
  refine kMet (cc := cX2_circlesOfRoot) (maxL := 4) (ret := (some .int)) (by decide) rfl (Nat.le_of_ble_eq_true rfl) ?_
  intro p e s m args below meth c H locs Q ls C hX hl hr hlocks hnm hQ
  have hl : lv_has ls 4 [(0, .ref h), (1, .int b)] := hl
  refine lv_iconst (v := nI 0) C.x C.b dX2_circlesOfRoot_0 (by decide) ?_
  refine lv_istore_n (lv' := [(2, .int (nI 0)), (0, .ref h), (1, .int b)]) C.x C.b dX2_circlesOfRoot_1 rfl hl (by decide) rfl (fun ls hl => ?_)
  refine lv_iconst (v := nI 0) C.x C.b dX2_circlesOfRoot_2 (by decide) ?_
  refine lv_istore_n (lv' := [(3, .int (nI 0)), (2, .int (nI 0)), (0, .ref h), (1, .int b)]) C.x C.b dX2_circlesOfRoot_3 rfl hl (by decide) rfl (fun ls hl => ?_)
  have LOOP4 : ∀ (n : Nat) (k : Nat), (k ≤ 4) → (4 - k) < n → ∀ (ls : Array Slot), lv_has ls 4 [(2, .int (nI (kCnt (fun k => g k ≤ b.toInt64) k))), (3, .int (nI k)), (0, .ref h), (1, .int b)] → ∀ (H : Heap) (locs : List Loc), kX G B0 s f H locs → W p l e (rmX2_circlesOfRoot) s m args below meth c H locs 0 0 Q (F0 m 4 ls []) := by
    intro n4
    induction n4 with
    | zero => intro k hk hn; exact absurd hn (Nat.not_lt_zero _)
    | succ n4 ih4 =>
      intro k hk hn ls hl H locs hX
      refine lv_iload_n C.x C.b dX2_circlesOfRoot_4 rfl (lv_at hl 1 rfl) ?_
      refine lv_iconst (v := nI 4) C.x C.b dX2_circlesOfRoot_5 (by decide) ?_
      refine lv_icmp_ge (tgt := 30) C.x C.b dX2_circlesOfRoot_6 (by decide) (fun c_6 => ?_) (fun c_6 => ?_)
      · skip
        have c_6 : 4 ≤ k := (nI_leI (by omega) (by omega)).mp c_6
        refine lv_iload_n C.x C.b dX2_circlesOfRoot_30 rfl (lv_at hl 0 rfl) ?_
        exact k_iret C hX hr hlocks hQ (by omega) (by omega) (⟨congrArg (fun z => nI (kCnt (fun k => g k ≤ b.toInt64) z)) (by omega), rfl⟩) dX2_circlesOfRoot_31
      · skip
        have c_6 : ¬ (4 ≤ k) := fun h9 => c_6 ((nI_leI (by omega) (by omega)).mpr h9)
        refine lv_aload_n C.x C.b dX2_circlesOfRoot_9 rfl (lv_at hl 2 rfl) ?_
        refine k_get (X := RX2) (T := TX2) (N := 3) (v := .ref q2) C hX (hM.at 0 rfl) rfl hin_X2_circlesOfRoot_RX2 1 (by decide) lk_X2_circlesOfRoot_f22 (fun _ h9 => h9) rfl dX2_circlesOfRoot_10 ?_
        refine lv_iload_n C.x C.b dX2_circlesOfRoot_13 rfl (lv_at hl 1 rfl) ?_
        refine k_lald C hX (hM.at 1 rfl) (vp_in_nI (by omega) (by omega)) dX2_circlesOfRoot_14 ?_
        refine k_topl (y := g k) (by rw [nI_clamp (by omega)]) ?_
        refine lv_iload_n C.x C.b dX2_circlesOfRoot_15 rfl (lv_at hl 3 rfl) ?_
        refine lv_i2l (v := b.toInt64) C.x C.b dX2_circlesOfRoot_16 rfl ?_
        refine k_lcmp_gt (tgt := 24) C.x C.b dX2_circlesOfRoot_17 dX2_circlesOfRoot_18 (by decide) (fun c_18 => ?_) (fun c_18 => ?_)
        · skip
          refine lv_iinc (v := (nI (k + 1))) (lv' := [(3, .int (nI (k + 1))), (2, .int (nI (kCnt (fun k => g k ≤ b.toInt64) k))), (0, .ref h), (1, .int b)]) C.x C.b dX2_circlesOfRoot_24 hl (k := 1) rfl (nI_1 _) (by decide) rfl (fun ls hl => ?_)
          refine lv_goto (tgt := 4) C.x C.b dX2_circlesOfRoot_27 (by decide) ?_
          rw [show (nI (kCnt (fun k => g k ≤ b.toInt64) k)) = (nI (kCnt (fun k => g k ≤ b.toInt64) (k + 1))) from by first | exact kCnt_p (fun k => g k ≤ b.toInt64) (Int64.not_lt.mp c_18) | exact kCnt_n (fun k => g k ≤ b.toInt64) (Int64.not_le.mpr c_18)] at hl
          exact ih4 (k + 1) (by omega) (by omega) ls (lv_sub hl [1, 0, 2, 3] rfl) _ _ hX
        · skip
          refine lv_iinc (v := (nI (kCnt (fun k => g k ≤ b.toInt64) k + 1))) (lv' := [(2, .int (nI (kCnt (fun k => g k ≤ b.toInt64) k + 1))), (3, .int (nI k)), (0, .ref h), (1, .int b)]) C.x C.b dX2_circlesOfRoot_21 hl (k := 0) rfl (nI_1 _) (by decide) rfl (fun ls hl => ?_)
          refine lv_iinc (v := (nI (k + 1))) (lv' := [(3, .int (nI (k + 1))), (2, .int (nI (kCnt (fun k => g k ≤ b.toInt64) k + 1))), (0, .ref h), (1, .int b)]) C.x C.b dX2_circlesOfRoot_24 hl (k := 1) rfl (nI_1 _) (by decide) rfl (fun ls hl => ?_)
          refine lv_goto (tgt := 4) C.x C.b dX2_circlesOfRoot_27 (by decide) ?_
          rw [show (nI (kCnt (fun k => g k ≤ b.toInt64) k + 1)) = (nI (kCnt (fun k => g k ≤ b.toInt64) (k + 1))) from by first | exact kCnt_p (fun k => g k ≤ b.toInt64) (Int64.not_lt.mp c_18) | exact kCnt_n (fun k => g k ≤ b.toInt64) (Int64.not_le.mpr c_18)] at hl
          exact ih4 (k + 1) (by omega) (by omega) ls (lv_sub hl [1, 0, 2, 3] rfl) _ _ hX
  exact LOOP4 _ 0 (by omega) (Nat.lt_succ_self _) ls (lv_sub hl [1, 0, 2, 3] rfl) _ _ hX
