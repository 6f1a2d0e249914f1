abbrev cFra (x1 x2 : Int32) : Prop := cIn x1.toInt64 1000000000 ∧ ¬ x2 < nI 1 ∧ x2 ≤ nI 1000000000 ∧ cEu 1000 (jAbs x1.toInt64) x2.toInt64 = 1
abbrev cSide (z9 x1 x2 x3 x4 : Int32) : Int64 := if z9 = 0 then (cSim 1000 x1.toInt64 x2.toInt64 x3.toInt64 x4.toInt64 1 0 0 1).2 else (cSim 1000 x1.toInt64 x2.toInt64 x3.toInt64 x4.toInt64 1 0 0 1).1

theorem lk_X8_split_f10 : Cond.fieldLink RX8 10 "Koebehall" "sphere" "LKoebehall$Net;" ∈ wsX8_split := by decide +kernel
theorem hin_X8_split_RX8 : ∀ w ∈ u_ws RX8 TX8 7, w ∈ wsX8_split := by decide +kernel
theorem hdX8_split_X3_hasFace : yX3_hasFace.cls ≠ "java/lang/invoke/MethodHandle" ∧ yX3_hasFace.cls ≠ "java/lang/invoke/VarHandle" ∧ (parseMethodDescriptor yX3_hasFace.desc).map (fun d => d.parameters.length) = some 1 := by decide +kernel
theorem lk_X8_split_in_RX3 : Cond.initialized RX3 ∈ wsX8_split := by decide +kernel
theorem lk_X8_split_im_X3_hasFace : Cond.instanceMethod yX3_hasFace ∈ wsX8_split := by decide +kernel
theorem lk_X8_split_se_X3_hasFace : Cond.selects RX3 yX3_hasFace yX3_hasFace ∈ wsX8_split := by decide +kernel
theorem hdX8_split_X3_isFull : yX3_isFull.cls ≠ "java/lang/invoke/MethodHandle" ∧ yX3_isFull.cls ≠ "java/lang/invoke/VarHandle" ∧ (parseMethodDescriptor yX3_isFull.desc).map (fun d => d.parameters.length) = some 0 := by decide +kernel
theorem lk_X8_split_im_X3_isFull : Cond.instanceMethod yX3_isFull ∈ wsX8_split := by decide +kernel
theorem lk_X8_split_se_X3_isFull : Cond.selects RX3 yX3_isFull yX3_isFull ∈ wsX8_split := by decide +kernel
theorem hdX8_split_X3_splitFace : yX3_splitFace.cls ≠ "java/lang/invoke/MethodHandle" ∧ yX3_splitFace.cls ≠ "java/lang/invoke/VarHandle" ∧ (parseMethodDescriptor yX3_splitFace.desc).map (fun d => d.parameters.length) = some 1 := by decide +kernel
theorem lk_X8_split_im_X3_splitFace : Cond.instanceMethod yX3_splitFace ∈ wsX8_split := by decide +kernel
theorem lk_X8_split_se_X3_splitFace : Cond.selects RX3 yX3_splitFace yX3_splitFace ∈ wsX8_split := by decide +kernel
abbrev rmX8_split : Room := { frames := 4, cells := 0, slots := 0, locals := 96 }
set_option maxHeartbeats 4000000 in
set_option maxRecDepth 100000 in
/-- X8_split -/
theorem kX8_split (l : Launch) (G : kG) (B0 : Nat) (f : kH) (h sp nA tA : Nat) (vd vg vw vm vp vn : Value) (aN aT : Nat → Int32) (cc fc : Nat) (t x y z : Nat) (hM : kCs f [(h, .inr (8, [.ref sp, vd, vg, vw, vm, vp, vn])), (sp, .inr (3, [.ref nA, .ref tA, .int (nI cc), .int (nI fc)])), (nA, kaI G 84 aN), (tA, kaI G 256 aT)]) (hc9 : cc ≤ 16) (hF9 : fc ≤ 28) (ht : t < fc) (hf2 : fc ≤ 26) (hc2 : cc < 16) (hx : aN (3 * t + 0) = nI x) (hy : aN (3 * t + 1) = nI y) (hz : aN (3 * t + 2) = nI z) (hx9 : x < 16) (hy9 : y < 16) (hz9 : z < 16) : Met l yX8_split wsX8_split (rmX8_split) (kP G B0 f [.ref h, .int (nI t)]) (kQi G B0 (fun r f1 => r = nI cc ∧ kCs f1 [(h, .inr (8, [.ref sp, vd, vg, vw, vm, vp, vn])), (sp, .inr (3, [.ref nA, .ref tA, .int (nI (cc + 1)), .int (nI (fc + 2))])), (nA, kaI G 84 (nPutN (nPutN (nPutN aN t x y cc) fc y z cc) (fc + 1) z x cc)), (tA, kaI G 256 (nPutT (nPutT (nPutT aT x y cc) y z cc) z x cc))] ∧ kKp [sp, nA, tA] f f1)) 0 0 (kAb B0) := by
  refine kMet (cc := cX8_split) (maxL := 2) (ret := (some .int)) (by decide) rfl (Nat.le_of_ble_eq_true rfl) ?_
  intro p e s m args below meth c H locs Q ls C hX hl hr hlocks hnm hQ
  have hO : kKp [sp, nA, tA] f f := kKp.rf
  have hS : ∀ a ∈ [sp, nA, tA], (f a).isSome := by
    intro a h9
    simp only [List.mem_cons, List.not_mem_nil, or_false] at h9
    rcases h9 with rfl | rfl | rfl
    · rw [hM.at 1 rfl]; rfl
    · rw [hM.at 2 rfl]; rfl
    · rw [hM.at 3 rfl]; rfl
  have hl : lv_has ls 2 [(0, .ref h), (1, .int (nI t))] := hl
  refine lv_aload_n C.x C.b dX8_split_0 rfl (lv_at hl 0 rfl) ?_
  refine k_get (X := RX8) (T := TX8) (N := 7) (v := .ref sp) C hX (hM.at 0 rfl) rfl hin_X8_split_RX8 0 (by decide) lk_X8_split_f10 (fun _ h9 => h9) rfl dX8_split_1 ?_
  refine lv_iload_n C.x C.b dX8_split_4 rfl (lv_at hl 1 rfl) ?_
  have hM9 : kCs f (nW G sp nA tA aN aT cc fc) := hM.pick [1, 2, 3] (by decide) ⟨rfl, rfl, rfl, trivial⟩
  refine k_calli (va_runVN (As := [.int (nI t)]) (rest := []) C.1 (kX3_hasFace l G B0 f sp nA tA aN aT cc fc (nI t) hM9 hc9 hF9) ⟨va_cnB 1 C.ts gX8_split_X3_hasFace_n52 rfl rfl rfl (C.2.1.2.2.1 _ (show ((RX8, 52, yX3_hasFace, "Koebehall") : String × Nat × MethodName × String) ∈ kNestM by decide +kernel)) (C.ts _ lk_X8_split_in_RX3) hdX8_split_X3_hasFace ⟨Nat.le_of_ble_eq_true rfl, Nat.le_of_ble_eq_true rfl⟩, C.ts _ lk_X8_split_im_X3_hasFace, C.ts _ lk_X8_split_se_X3_hasFace⟩ (k_preV C hX (hM.at 1 rfl) rfl) rfl rfl hl.1 rfl (lv_room (Nat.le_of_ble_eq_true rfl)) dX8_split_5 ⟨Nat.le_of_ble_eq_true rfl, Nat.le_of_ble_eq_true rfl⟩) hX (fun r5 f5 H locs hp5 hX => ?_)
  obtain ⟨hr5, hf5⟩ := hp5
  rw [hf5] at hX
  refine k_topi (y := (kbI (mIn (nI t) fc))) hr5 ?_
  refine lv_if_ne (tgt := 21) C.x C.b dX8_split_8 (by decide) (fun c_8 => ?_) (fun c_8 => ?_)
  rotate_left
  · exact absurd ((mIn_nI (by omega)).mpr ht) (kbI_0 c_8)
  refine lv_aload_n C.x C.b dX8_split_21 rfl (lv_at hl 0 rfl) ?_
  refine k_get (X := RX8) (T := TX8) (N := 7) (v := .ref sp) C hX (hM.at 0 rfl) rfl hin_X8_split_RX8 0 (by decide) lk_X8_split_f10 (fun _ h9 => h9) rfl dX8_split_22 ?_
  have hM9 : kCs f (nW G sp nA tA aN aT cc fc) := hM.pick [1, 2, 3] (by decide) ⟨rfl, rfl, rfl, trivial⟩
  refine k_calli (va_runVN (As := []) (rest := []) C.1 (kX3_isFull l G B0 f sp nA tA aN aT cc fc  hM9 hc9 hF9) ⟨va_cnB 0 C.ts gX8_split_X3_isFull_n63 rfl rfl rfl (C.2.1.2.2.1 _ (show ((RX8, 63, yX3_isFull, "Koebehall") : String × Nat × MethodName × String) ∈ kNestM by decide +kernel)) (C.ts _ lk_X8_split_in_RX3) hdX8_split_X3_isFull ⟨Nat.le_of_ble_eq_true rfl, Nat.le_of_ble_eq_true rfl⟩, C.ts _ lk_X8_split_im_X3_isFull, C.ts _ lk_X8_split_se_X3_isFull⟩ (k_preV C hX (hM.at 1 rfl) rfl) rfl rfl hl.1 rfl (lv_room (Nat.le_of_ble_eq_true rfl)) dX8_split_25 ⟨Nat.le_of_ble_eq_true rfl, Nat.le_of_ble_eq_true rfl⟩) hX (fun r25 f25 H locs hp25 hX => ?_)
  obtain ⟨hr25, hf25⟩ := hp25
  rw [hf25] at hX
  refine k_topi (y := (kbI (16 ≤ cc))) hr25 ?_
  refine lv_if_eq (tgt := 41) C.x C.b dX8_split_28 (by decide) (fun c_28 => ?_) (fun c_28 => ?_)
  rotate_left
  · exact absurd (kbI_1 c_28) ((show ¬ 16 ≤ cc by omega))
  refine lv_aload_n C.x C.b dX8_split_41 rfl (lv_at hl 0 rfl) ?_
  refine k_get (X := RX8) (T := TX8) (N := 7) (v := .ref sp) C hX (hM.at 0 rfl) rfl hin_X8_split_RX8 0 (by decide) lk_X8_split_f10 (fun _ h9 => h9) rfl dX8_split_42 ?_
  refine lv_iload_n C.x C.b dX8_split_45 rfl (lv_at hl 1 rfl) ?_
  have hM9 : kCs f (nW G sp nA tA aN aT cc fc) := hM.pick [1, 2, 3] (by decide) ⟨rfl, rfl, rfl, trivial⟩
  refine k_calli (va_runVN (As := [.int (nI t)]) (rest := []) C.1 (kX3_splitFace l G B0 f sp nA tA aN aT cc fc t x y z hM9 hc9 hF9 ht hf2 hc2 hx hy hz hx9 hy9 hz9) ⟨va_cnB 1 C.ts gX8_split_X3_splitFace_n72 rfl rfl rfl (C.2.1.2.2.1 _ (show ((RX8, 72, yX3_splitFace, "Koebehall") : String × Nat × MethodName × String) ∈ kNestM by decide +kernel)) (C.ts _ lk_X8_split_in_RX3) hdX8_split_X3_splitFace ⟨Nat.le_of_ble_eq_true rfl, Nat.le_of_ble_eq_true rfl⟩, C.ts _ lk_X8_split_im_X3_splitFace, C.ts _ lk_X8_split_se_X3_splitFace⟩ (k_preV C hX (hM.at 1 rfl) rfl) rfl rfl hl.1 rfl (lv_room (Nat.le_of_ble_eq_true rfl)) dX8_split_46 ⟨Nat.le_of_ble_eq_true rfl, Nat.le_of_ble_eq_true rfl⟩) hX (fun r46 f46 H locs hp46 hX => ?_)
  obtain ⟨hr46, hM9, hO9⟩ := hp46
  have hM : kCs f46 ([(h, .inr (8, [.ref sp, vd, vg, vw, vm, vp, vn])), (sp, .inr (3, [.ref nA, .ref tA, .int (nI (cc + 1)), .int (nI (fc + 2))])), (nA, kaI G 84 (nPutN (nPutN (nPutN aN t x y cc) fc y z cc) (fc + 1) z x cc)), (tA, kaI G 256 (nPutT (nPutT (nPutT aT x y cc) y z cc) z x cc))]) := hM.sub hM9 (kKp.of hO9) [1, 2, 3] (by simp [nW]) ⟨rfl, rfl, rfl, trivial⟩
  have hO := hO.then (kKp.of hO9) (by
      intro a h9
      simp only [List.mem_cons, List.not_mem_nil, or_false] at h9
      rcases h9 with rfl | rfl | rfl
      · exact Or.inl (by simp)
      · exact Or.inl (by simp)
      · exact Or.inl (by simp))
  have hS : ∀ a ∈ [sp, nA, tA], (f46 a).isSome := by
    intro a h9
    simp only [List.mem_cons, List.not_mem_nil, or_false] at h9
    rcases h9 with rfl | rfl | rfl
    · rw [hM.at 1 rfl]; rfl
    · rw [hM.at 2 rfl]; rfl
    · rw [hM.at 3 rfl]; rfl
  refine k_topi (y := (nI cc)) hr46 ?_
  exact k_iret C hX hr hlocks hQ (by omega) (by omega) (⟨rfl, hM, hO⟩) dX8_split_49

theorem lk_X8_flip_f10 : Cond.fieldLink RX8 10 "Koebehall" "sphere" "LKoebehall$Net;" ∈ wsX8_flip := by decide +kernel
theorem hin_X8_flip_RX8 : ∀ w ∈ u_ws RX8 TX8 7, w ∈ wsX8_flip := by decide +kernel
theorem hdX8_flip_X3_hasCorner : yX3_hasCorner.cls ≠ "java/lang/invoke/MethodHandle" ∧ yX3_hasCorner.cls ≠ "java/lang/invoke/VarHandle" ∧ (parseMethodDescriptor yX3_hasCorner.desc).map (fun d => d.parameters.length) = some 1 := by decide +kernel
theorem lk_X8_flip_in_RX3 : Cond.initialized RX3 ∈ wsX8_flip := by decide +kernel
theorem lk_X8_flip_im_X3_hasCorner : Cond.instanceMethod yX3_hasCorner ∈ wsX8_flip := by decide +kernel
theorem lk_X8_flip_se_X3_hasCorner : Cond.selects RX3 yX3_hasCorner yX3_hasCorner ∈ wsX8_flip := by decide +kernel
theorem hdX8_flip_X3_canFlip : yX3_canFlip.cls ≠ "java/lang/invoke/MethodHandle" ∧ yX3_canFlip.cls ≠ "java/lang/invoke/VarHandle" ∧ (parseMethodDescriptor yX3_canFlip.desc).map (fun d => d.parameters.length) = some 2 := by decide +kernel
theorem lk_X8_flip_im_X3_canFlip : Cond.instanceMethod yX3_canFlip ∈ wsX8_flip := by decide +kernel
theorem lk_X8_flip_se_X3_canFlip : Cond.selects RX3 yX3_canFlip yX3_canFlip ∈ wsX8_flip := by decide +kernel
theorem hdX8_flip_X3_flipEdge : yX3_flipEdge.cls ≠ "java/lang/invoke/MethodHandle" ∧ yX3_flipEdge.cls ≠ "java/lang/invoke/VarHandle" ∧ (parseMethodDescriptor yX3_flipEdge.desc).map (fun d => d.parameters.length) = some 2 := by decide +kernel
theorem lk_X8_flip_im_X3_flipEdge : Cond.instanceMethod yX3_flipEdge ∈ wsX8_flip := by decide +kernel
theorem lk_X8_flip_se_X3_flipEdge : Cond.selects RX3 yX3_flipEdge yX3_flipEdge ∈ wsX8_flip := by decide +kernel
abbrev rmX8_flip : Room := { frames := 4, cells := 0, slots := 0, locals := 97 }
set_option maxHeartbeats 4000000 in
set_option maxRecDepth 100000 in
/-- X8_flip -/
theorem kX8_flip (l : Launch) (G : kG) (B0 : Nat) (f : kH) (h sp nA tA : Nat) (vd vg vw vm vp vn : Value) (aN aT : Nat → Int32) (cc fc : Nat) (x y u v t1 t2 : Nat) (hM : kCs f [(h, .inr (8, [.ref sp, vd, vg, vw, vm, vp, vn])), (sp, .inr (3, [.ref nA, .ref tA, .int (nI cc), .int (nI fc)])), (nA, kaI G 84 aN), (tA, kaI G 256 aT)]) (hc9 : cc ≤ 16) (hF9 : fc ≤ 28) (hxc : x < cc) (hyc : y < cc) (hcf : nCanFlip aT cc (nI x) (nI y)) (hx9 : x < 16) (hy9 : y < 16) (hu9 : u < 16) (hv9 : v < 16) (ht1 : t1 < fc) (ht2 : t2 < fc) (h1 : nThird aT cc (nI x) (nI y) = nI u) (h2 : nThird aT cc (nI y) (nI x) = nI v) (e1 : nFace aN (nI x) (nI y) (3 * fc) 0 = nI t1) (e2 : nFace aN (nI y) (nI x) (3 * fc) 0 = nI t2) : Met l yX8_flip wsX8_flip (rmX8_flip) (kP G B0 f [.ref h, .int (nI x), .int (nI y)]) (kQi G B0 (fun r f1 => r = nI (100 * (if u < v then u else v) + (if u < v then v else u)) ∧ kCs f1 [(h, .inr (8, [.ref sp, vd, vg, vw, vm, vp, vn])), (sp, .inr (3, [.ref nA, .ref tA, .int (nI cc), .int (nI fc)])), (nA, kaI G 84 (nPutN (nPutN aN t1 x v u) t2 v y u)), (tA, kaI G 256 (nPutT (nPutT (upd (upd aT (16 * x + y) (-1)) (16 * y + x) (-1)) x v u) v y u))] ∧ kKp [sp, nA, tA] f f1)) 0 0 (kAb B0) := by
  refine kMet (cc := cX8_flip) (maxL := 3) (ret := (some .int)) (by decide) rfl (Nat.le_of_ble_eq_true rfl) ?_
  intro p e s m args below meth c H locs Q ls C hX hl hr hlocks hnm hQ
  have hO : kKp [sp, nA, tA] f f := kKp.rf
  have hS : ∀ a ∈ [sp, nA, tA], (f a).isSome := by
    intro a h9
    simp only [List.mem_cons, List.not_mem_nil, or_false] at h9
    rcases h9 with rfl | rfl | rfl
    · rw [hM.at 1 rfl]; rfl
    · rw [hM.at 2 rfl]; rfl
    · rw [hM.at 3 rfl]; rfl
  have hl : lv_has ls 3 [(0, .ref h), (1, .int (nI x)), (2, .int (nI y))] := hl
  refine lv_aload_n C.x C.b dX8_flip_0 rfl (lv_at hl 0 rfl) ?_
  refine k_get (X := RX8) (T := TX8) (N := 7) (v := .ref sp) C hX (hM.at 0 rfl) rfl hin_X8_flip_RX8 0 (by decide) lk_X8_flip_f10 (fun _ h9 => h9) rfl dX8_flip_1 ?_
  refine lv_iload_n C.x C.b dX8_flip_4 rfl (lv_at hl 1 rfl) ?_
  have hM9 : kCs f (nW G sp nA tA aN aT cc fc) := hM.pick [1, 2, 3] (by decide) ⟨rfl, rfl, rfl, trivial⟩
  refine k_calli (va_runVN (As := [.int (nI x)]) (rest := []) C.1 (kX3_hasCorner l G B0 f sp nA tA aN aT cc fc (nI x) hM9 hc9 hF9) ⟨va_cnB 1 C.ts gX8_flip_X3_hasCorner_n76 rfl rfl rfl (C.2.1.2.2.1 _ (show ((RX8, 76, yX3_hasCorner, "Koebehall") : String × Nat × MethodName × String) ∈ kNestM by decide +kernel)) (C.ts _ lk_X8_flip_in_RX3) hdX8_flip_X3_hasCorner ⟨Nat.le_of_ble_eq_true rfl, Nat.le_of_ble_eq_true rfl⟩, C.ts _ lk_X8_flip_im_X3_hasCorner, C.ts _ lk_X8_flip_se_X3_hasCorner⟩ (k_preV C hX (hM.at 1 rfl) rfl) rfl rfl hl.1 rfl (lv_room (Nat.le_of_ble_eq_true rfl)) dX8_flip_5 ⟨Nat.le_of_ble_eq_true rfl, Nat.le_of_ble_eq_true rfl⟩) hX (fun r5 f5 H locs hp5 hX => ?_)
  obtain ⟨hr5, hf5⟩ := hp5
  rw [hf5] at hX
  refine k_topi (y := (kbI (mIn (nI x) cc))) hr5 ?_
  refine lv_if_eq (tgt := 22) C.x C.b dX8_flip_8 (by decide) (fun c_8 => ?_) (fun c_8 => ?_)
  · exact absurd ((mIn_nI (by omega)).mpr hxc) (kbI_0 c_8)
  refine lv_aload_n C.x C.b dX8_flip_11 rfl (lv_at hl 0 rfl) ?_
  refine k_get (X := RX8) (T := TX8) (N := 7) (v := .ref sp) C hX (hM.at 0 rfl) rfl hin_X8_flip_RX8 0 (by decide) lk_X8_flip_f10 (fun _ h9 => h9) rfl dX8_flip_12 ?_
  refine lv_iload_n C.x C.b dX8_flip_15 rfl (lv_at hl 2 rfl) ?_
  have hM9 : kCs f (nW G sp nA tA aN aT cc fc) := hM.pick [1, 2, 3] (by decide) ⟨rfl, rfl, rfl, trivial⟩
  refine k_calli (va_runVN (As := [.int (nI y)]) (rest := []) C.1 (kX3_hasCorner l G B0 f sp nA tA aN aT cc fc (nI y) hM9 hc9 hF9) ⟨va_cnB 1 C.ts gX8_flip_X3_hasCorner_n76 rfl rfl rfl (C.2.1.2.2.1 _ (show ((RX8, 76, yX3_hasCorner, "Koebehall") : String × Nat × MethodName × String) ∈ kNestM by decide +kernel)) (C.ts _ lk_X8_flip_in_RX3) hdX8_flip_X3_hasCorner ⟨Nat.le_of_ble_eq_true rfl, Nat.le_of_ble_eq_true rfl⟩, C.ts _ lk_X8_flip_im_X3_hasCorner, C.ts _ lk_X8_flip_se_X3_hasCorner⟩ (k_preV C hX (hM.at 1 rfl) rfl) rfl rfl hl.1 rfl (lv_room (Nat.le_of_ble_eq_true rfl)) dX8_flip_16 ⟨Nat.le_of_ble_eq_true rfl, Nat.le_of_ble_eq_true rfl⟩) hX (fun r16 f16 H locs hp16 hX => ?_)
  obtain ⟨hr16, hf16⟩ := hp16
  rw [hf16] at hX
  refine k_topi (y := (kbI (mIn (nI y) cc))) hr16 ?_
  refine lv_if_ne (tgt := 32) C.x C.b dX8_flip_19 (by decide) (fun c_19 => ?_) (fun c_19 => ?_)
  rotate_left
  · exact absurd ((mIn_nI (by omega)).mpr hyc) (kbI_0 c_19)
  refine lv_aload_n C.x C.b dX8_flip_32 rfl (lv_at hl 0 rfl) ?_
  refine k_get (X := RX8) (T := TX8) (N := 7) (v := .ref sp) C hX (hM.at 0 rfl) rfl hin_X8_flip_RX8 0 (by decide) lk_X8_flip_f10 (fun _ h9 => h9) rfl dX8_flip_33 ?_
  refine lv_iload_n C.x C.b dX8_flip_36 rfl (lv_at hl 1 rfl) ?_
  refine lv_iload_n C.x C.b dX8_flip_37 rfl (lv_at hl 2 rfl) ?_
  have hM9 : kCs f (nW G sp nA tA aN aT cc fc) := hM.pick [1, 2, 3] (by decide) ⟨rfl, rfl, rfl, trivial⟩
  refine k_calli (va_runVN (As := [.int (nI x), .int (nI y)]) (rest := []) C.1 (kX3_canFlip l G B0 f sp nA tA aN aT cc fc (nI x) (nI y) hM9 hc9 hF9) ⟨va_cnB 2 C.ts gX8_flip_X3_canFlip_n81 rfl rfl rfl (C.2.1.2.2.1 _ (show ((RX8, 81, yX3_canFlip, "Koebehall") : String × Nat × MethodName × String) ∈ kNestM by decide +kernel)) (C.ts _ lk_X8_flip_in_RX3) hdX8_flip_X3_canFlip ⟨Nat.le_of_ble_eq_true rfl, Nat.le_of_ble_eq_true rfl⟩, C.ts _ lk_X8_flip_im_X3_canFlip, C.ts _ lk_X8_flip_se_X3_canFlip⟩ (k_preV C hX (hM.at 1 rfl) rfl) rfl rfl hl.1 rfl (lv_room (Nat.le_of_ble_eq_true rfl)) dX8_flip_38 ⟨Nat.le_of_ble_eq_true rfl, Nat.le_of_ble_eq_true rfl⟩) hX (fun r38 f38 H locs hp38 hX => ?_)
  obtain ⟨hr38, hf38⟩ := hp38
  rw [hf38] at hX
  refine k_topi (y := (kbI (nCanFlip aT cc (nI x) (nI y)))) hr38 ?_
  refine lv_if_ne (tgt := 54) C.x C.b dX8_flip_41 (by decide) (fun c_41 => ?_) (fun c_41 => ?_)
  rotate_left
  · exact absurd (hcf) (kbI_0 c_41)
  refine lv_aload_n C.x C.b dX8_flip_54 rfl (lv_at hl 0 rfl) ?_
  refine k_get (X := RX8) (T := TX8) (N := 7) (v := .ref sp) C hX (hM.at 0 rfl) rfl hin_X8_flip_RX8 0 (by decide) lk_X8_flip_f10 (fun _ h9 => h9) rfl dX8_flip_55 ?_
  refine lv_iload_n C.x C.b dX8_flip_58 rfl (lv_at hl 1 rfl) ?_
  refine lv_iload_n C.x C.b dX8_flip_59 rfl (lv_at hl 2 rfl) ?_
  have hM9 : kCs f (nW G sp nA tA aN aT cc fc) := hM.pick [1, 2, 3] (by decide) ⟨rfl, rfl, rfl, trivial⟩
  refine k_calli (va_runVN (As := [.int (nI x), .int (nI y)]) (rest := []) C.1 (kX3_flipEdge l G B0 f sp nA tA aN aT cc fc x y u v t1 t2 hM9 hc9 hF9 hx9 hy9 hu9 hv9 ht1 ht2 h1 h2 e1 e2) ⟨va_cnB 2 C.ts gX8_flip_X3_flipEdge_n87 rfl rfl rfl (C.2.1.2.2.1 _ (show ((RX8, 87, yX3_flipEdge, "Koebehall") : String × Nat × MethodName × String) ∈ kNestM by decide +kernel)) (C.ts _ lk_X8_flip_in_RX3) hdX8_flip_X3_flipEdge ⟨Nat.le_of_ble_eq_true rfl, Nat.le_of_ble_eq_true rfl⟩, C.ts _ lk_X8_flip_im_X3_flipEdge, C.ts _ lk_X8_flip_se_X3_flipEdge⟩ (k_preV C hX (hM.at 1 rfl) rfl) rfl rfl hl.1 rfl (lv_room (Nat.le_of_ble_eq_true rfl)) dX8_flip_60 ⟨Nat.le_of_ble_eq_true rfl, Nat.le_of_ble_eq_true rfl⟩) hX (fun r60 f60 H locs hp60 hX => ?_)
  obtain ⟨hr60, hM9, hO9⟩ := hp60
  have hM : kCs f60 ([(h, .inr (8, [.ref sp, vd, vg, vw, vm, vp, vn])), (sp, .inr (3, [.ref nA, .ref tA, .int (nI cc), .int (nI fc)])), (nA, kaI G 84 (nPutN (nPutN aN t1 x v u) t2 v y u)), (tA, kaI G 256 (nPutT (nPutT (upd (upd aT (16 * x + y) (-1)) (16 * y + x) (-1)) x v u) v y u))]) := hM.sub hM9 (kKp.of hO9) [1, 2, 3] (by simp [nW]) ⟨rfl, rfl, rfl, trivial⟩
  have hO := hO.then (kKp.of hO9) (by
      intro a h9
      simp only [List.mem_cons, List.not_mem_nil, or_false] at h9
      rcases h9 with rfl | rfl | rfl
      · exact Or.inl (by simp)
      · exact Or.inl (by simp)
      · exact Or.inl (by simp))
  have hS : ∀ a ∈ [sp, nA, tA], (f60 a).isSome := by
    intro a h9
    simp only [List.mem_cons, List.not_mem_nil, or_false] at h9
    rcases h9 with rfl | rfl | rfl
    · rw [hM.at 1 rfl]; rfl
    · rw [hM.at 2 rfl]; rfl
    · rw [hM.at 3 rfl]; rfl
  refine k_topi (y := (nI (100 * (if u < v then u else v) + (if u < v then v else u)))) hr60 ?_
  exact k_iret C hX hr hlocks hQ (by omega) (by omega) (⟨rfl, hM, hO⟩) dX8_flip_63

theorem lk_X8_corner_f10 : Cond.fieldLink RX8 10 "Koebehall" "sphere" "LKoebehall$Net;" ∈ wsX8_corner := by decide +kernel
theorem hin_X8_corner_RX8 : ∀ w ∈ u_ws RX8 TX8 7, w ∈ wsX8_corner := by decide +kernel
theorem hdX8_corner_X3_hasFace : yX3_hasFace.cls ≠ "java/lang/invoke/MethodHandle" ∧ yX3_hasFace.cls ≠ "java/lang/invoke/VarHandle" ∧ (parseMethodDescriptor yX3_hasFace.desc).map (fun d => d.parameters.length) = some 1 := by decide +kernel
theorem lk_X8_corner_in_RX3 : Cond.initialized RX3 ∈ wsX8_corner := by decide +kernel
theorem lk_X8_corner_im_X3_hasFace : Cond.instanceMethod yX3_hasFace ∈ wsX8_corner := by decide +kernel
theorem lk_X8_corner_se_X3_hasFace : Cond.selects RX3 yX3_hasFace yX3_hasFace ∈ wsX8_corner := by decide +kernel
theorem hdX8_corner_X3_cornerOf : yX3_cornerOf.cls ≠ "java/lang/invoke/MethodHandle" ∧ yX3_cornerOf.cls ≠ "java/lang/invoke/VarHandle" ∧ (parseMethodDescriptor yX3_cornerOf.desc).map (fun d => d.parameters.length) = some 2 := by decide +kernel
theorem lk_X8_corner_im_X3_cornerOf : Cond.instanceMethod yX3_cornerOf ∈ wsX8_corner := by decide +kernel
theorem lk_X8_corner_se_X3_cornerOf : Cond.selects RX3 yX3_cornerOf yX3_cornerOf ∈ wsX8_corner := by decide +kernel
abbrev rmX8_corner : Room := { frames := 1, cells := 0, slots := 0, locals := 22 }
set_option maxHeartbeats 4000000 in
set_option maxRecDepth 100000 in
/-- X8_corner -/
theorem kX8_corner (l : Launch) (G : kG) (B0 : Nat) (f : kH) (h sp nA tA : Nat) (vd vg vw vm vp vn : Value) (aN aT : Nat → Int32) (cc fc : Nat) (t k : Nat) (hM : kCs f [(h, .inr (8, [.ref sp, vd, vg, vw, vm, vp, vn])), (sp, .inr (3, [.ref nA, .ref tA, .int (nI cc), .int (nI fc)])), (nA, kaI G 84 aN), (tA, kaI G 256 aT)]) (hc9 : cc ≤ 16) (hF9 : fc ≤ 28) (ht : t < fc) (hk : k < 3) : Met l yX8_corner wsX8_corner (rmX8_corner) (kP G B0 f [.ref h, .int (nI t), .int (nI k)]) (kQi G B0 (fun r f1 => r = aN (3 * t + k) ∧ f1 = f)) 0 0 (kAb B0) := by
  refine kMet (cc := cX8_corner) (maxL := 3) (ret := (some .int)) (by decide) rfl (Nat.le_of_ble_eq_true rfl) ?_
  intro p e s m args below meth c H locs Q ls C hX hl hr hlocks hnm hQ
  have hl : lv_has ls 3 [(0, .ref h), (1, .int (nI t)), (2, .int (nI k))] := hl
  refine lv_aload_n C.x C.b dX8_corner_0 rfl (lv_at hl 0 rfl) ?_
  refine k_get (X := RX8) (T := TX8) (N := 7) (v := .ref sp) C hX (hM.at 0 rfl) rfl hin_X8_corner_RX8 0 (by decide) lk_X8_corner_f10 (fun _ h9 => h9) rfl dX8_corner_1 ?_
  refine lv_iload_n C.x C.b dX8_corner_4 rfl (lv_at hl 1 rfl) ?_
  have hM9 : kCs f (nW G sp nA tA aN aT cc fc) := hM.pick [1, 2, 3] (by decide) ⟨rfl, rfl, rfl, trivial⟩
  refine k_calli (va_runVN (As := [.int (nI t)]) (rest := []) C.1 (kX3_hasFace l G B0 f sp nA tA aN aT cc fc (nI t) hM9 hc9 hF9) ⟨va_cnB 1 C.ts gX8_corner_X3_hasFace_n52 rfl rfl rfl (C.2.1.2.2.1 _ (show ((RX8, 52, yX3_hasFace, "Koebehall") : String × Nat × MethodName × String) ∈ kNestM by decide +kernel)) (C.ts _ lk_X8_corner_in_RX3) hdX8_corner_X3_hasFace ⟨Nat.le_of_ble_eq_true rfl, Nat.le_of_ble_eq_true rfl⟩, C.ts _ lk_X8_corner_im_X3_hasFace, C.ts _ lk_X8_corner_se_X3_hasFace⟩ (k_preV C hX (hM.at 1 rfl) rfl) rfl rfl hl.1 rfl (lv_room (Nat.le_of_ble_eq_true rfl)) dX8_corner_5 ⟨Nat.le_of_ble_eq_true rfl, Nat.le_of_ble_eq_true rfl⟩) hX (fun r5 f5 H locs hp5 hX => ?_)
  obtain ⟨hr5, hf5⟩ := hp5
  rw [hf5] at hX
  refine k_topi (y := (kbI (mIn (nI t) fc))) hr5 ?_
  refine lv_if_eq (tgt := 20) C.x C.b dX8_corner_8 (by decide) (fun c_8 => ?_) (fun c_8 => ?_)
  · exact absurd ((mIn_nI (by omega)).mpr ht) (kbI_0 c_8)
  refine lv_iload_n C.x C.b dX8_corner_11 rfl (lv_at hl 2 rfl) ?_
  refine lv_if_lt (tgt := 20) C.x C.b dX8_corner_12 (by decide) (fun c_12 => ?_) (fun c_12 => ?_)
  · skip
    exact absurd c_12 (nI_pos (by omega))
  · skip
    refine lv_iload_n C.x C.b dX8_corner_15 rfl (lv_at hl 2 rfl) ?_
    refine lv_iconst (v := nI 2) C.x C.b dX8_corner_16 (by decide) ?_
    refine lv_icmp_le (tgt := 30) C.x C.b dX8_corner_17 (by decide) (fun c_17 => ?_) (fun c_17 => ?_)
    rotate_left
    · skip
      have c_17 : ¬ (k ≤ 2) := fun h9 => c_17 ((nI_leI (by omega) (by omega)).mpr h9)
      omega
    have c_17 : k ≤ 2 := (nI_leI (by omega) (by omega)).mp c_17
    refine lv_aload_n C.x C.b dX8_corner_30 rfl (lv_at hl 0 rfl) ?_
    refine k_get (X := RX8) (T := TX8) (N := 7) (v := .ref sp) C hX (hM.at 0 rfl) rfl hin_X8_corner_RX8 0 (by decide) lk_X8_corner_f10 (fun _ h9 => h9) rfl dX8_corner_31 ?_
    refine lv_iload_n C.x C.b dX8_corner_34 rfl (lv_at hl 1 rfl) ?_
    refine lv_iload_n C.x C.b dX8_corner_35 rfl (lv_at hl 2 rfl) ?_
    have hM9 : kCs f (nW G sp nA tA aN aT cc fc) := hM.pick [1, 2, 3] (by decide) ⟨rfl, rfl, rfl, trivial⟩
    refine k_calli (va_runVN (As := [.int (nI t), .int (nI k)]) (rest := []) C.1 (kX3_cornerOf l G B0 f sp nA tA aN aT cc fc t k hM9 hc9 hF9 (by omega) hk) ⟨va_cnB 2 C.ts gX8_corner_X3_cornerOf_n93 rfl rfl rfl (C.2.1.2.2.1 _ (show ((RX8, 93, yX3_cornerOf, "Koebehall") : String × Nat × MethodName × String) ∈ kNestM by decide +kernel)) (C.ts _ lk_X8_corner_in_RX3) hdX8_corner_X3_cornerOf ⟨Nat.le_of_ble_eq_true rfl, Nat.le_of_ble_eq_true rfl⟩, C.ts _ lk_X8_corner_im_X3_cornerOf, C.ts _ lk_X8_corner_se_X3_cornerOf⟩ (k_preV C hX (hM.at 1 rfl) rfl) rfl rfl hl.1 rfl (lv_room (Nat.le_of_ble_eq_true rfl)) dX8_corner_36 ⟨Nat.le_of_ble_eq_true rfl, Nat.le_of_ble_eq_true rfl⟩) hX (fun r36 f36 H locs hp36 hX => ?_)
    obtain ⟨hr36, hf36⟩ := hp36
    rw [hf36] at hX
    refine k_topi (y := (aN (3 * t + k))) hr36 ?_
    exact k_iret C hX hr hlocks hQ (by omega) (by omega) (⟨rfl, rfl⟩) dX8_corner_39

theorem lk_X8_around_f10 : Cond.fieldLink RX8 10 "Koebehall" "sphere" "LKoebehall$Net;" ∈ wsX8_around := by decide +kernel
theorem hin_X8_around_RX8 : ∀ w ∈ u_ws RX8 TX8 7, w ∈ wsX8_around := by decide +kernel
theorem hdX8_around_X3_hasCorner : yX3_hasCorner.cls ≠ "java/lang/invoke/MethodHandle" ∧ yX3_hasCorner.cls ≠ "java/lang/invoke/VarHandle" ∧ (parseMethodDescriptor yX3_hasCorner.desc).map (fun d => d.parameters.length) = some 1 := by decide +kernel
theorem lk_X8_around_in_RX3 : Cond.initialized RX3 ∈ wsX8_around := by decide +kernel
theorem lk_X8_around_im_X3_hasCorner : Cond.instanceMethod yX3_hasCorner ∈ wsX8_around := by decide +kernel
theorem lk_X8_around_se_X3_hasCorner : Cond.selects RX3 yX3_hasCorner yX3_hasCorner ∈ wsX8_around := by decide +kernel
theorem hdX8_around_X3_neighbourAt : yX3_neighbourAt.cls ≠ "java/lang/invoke/MethodHandle" ∧ yX3_neighbourAt.cls ≠ "java/lang/invoke/VarHandle" ∧ (parseMethodDescriptor yX3_neighbourAt.desc).map (fun d => d.parameters.length) = some 2 := by decide +kernel
theorem lk_X8_around_im_X3_neighbourAt : Cond.instanceMethod yX3_neighbourAt ∈ wsX8_around := by decide +kernel
theorem lk_X8_around_se_X3_neighbourAt : Cond.selects RX3 yX3_neighbourAt yX3_neighbourAt ∈ wsX8_around := by decide +kernel
abbrev rmX8_around : Room := { frames := 5, cells := 0, slots := 0, locals := 112 }
set_option maxHeartbeats 4000000 in
set_option maxRecDepth 100000 in
/-- X8_around -/
theorem kX8_around (l : Launch) (G : kG) (B0 : Nat) (f : kH) (h sp nA tA : Nat) (vd vg vw vm vp vn : Value) (aN aT : Nat → Int32) (cc fc : Nat) (a : Int32) (b : Nat) (hM : kCs f [(h, .inr (8, [.ref sp, vd, vg, vw, vm, vp, vn])), (sp, .inr (3, [.ref nA, .ref tA, .int (nI cc), .int (nI fc)])), (nA, kaI G 84 aN), (tA, kaI G 256 aT)]) (hc9 : cc ≤ 16) (hF9 : fc ≤ 28) (hv : mIn a cc) (hb : b < 2 ^ 31) : Met l yX8_around wsX8_around (rmX8_around) (kP G B0 f [.ref h, .int a, .int (nI b)]) (kQi G B0 (fun r f1 => r = nAro aT cc a b ∧ f1 = f)) 0 0 (kAb B0) := by
  refine kMet (cc := cX8_around) (maxL := 3) (ret := (some .int)) (by decide) rfl (Nat.le_of_ble_eq_true rfl) ?_
  intro p e s m args below meth c H locs Q ls C hX hl hr hlocks hnm hQ
  have hl : lv_has ls 3 [(0, .ref h), (1, .int a), (2, .int (nI b))] := hl
  refine lv_aload_n C.x C.b dX8_around_0 rfl (lv_at hl 0 rfl) ?_
  refine k_get (X := RX8) (T := TX8) (N := 7) (v := .ref sp) C hX (hM.at 0 rfl) rfl hin_X8_around_RX8 0 (by decide) lk_X8_around_f10 (fun _ h9 => h9) rfl dX8_around_1 ?_
  refine lv_iload_n C.x C.b dX8_around_4 rfl (lv_at hl 1 rfl) ?_
  have hM9 : kCs f (nW G sp nA tA aN aT cc fc) := hM.pick [1, 2, 3] (by decide) ⟨rfl, rfl, rfl, trivial⟩
  refine k_calli (va_runVN (As := [.int a]) (rest := []) C.1 (kX3_hasCorner l G B0 f sp nA tA aN aT cc fc a hM9 hc9 hF9) ⟨va_cnB 1 C.ts gX8_around_X3_hasCorner_n76 rfl rfl rfl (C.2.1.2.2.1 _ (show ((RX8, 76, yX3_hasCorner, "Koebehall") : String × Nat × MethodName × String) ∈ kNestM by decide +kernel)) (C.ts _ lk_X8_around_in_RX3) hdX8_around_X3_hasCorner ⟨Nat.le_of_ble_eq_true rfl, Nat.le_of_ble_eq_true rfl⟩, C.ts _ lk_X8_around_im_X3_hasCorner, C.ts _ lk_X8_around_se_X3_hasCorner⟩ (k_preV C hX (hM.at 1 rfl) rfl) rfl rfl hl.1 rfl (lv_room (Nat.le_of_ble_eq_true rfl)) dX8_around_5 ⟨Nat.le_of_ble_eq_true rfl, Nat.le_of_ble_eq_true rfl⟩) hX (fun r5 f5 H locs hp5 hX => ?_)
  obtain ⟨hr5, hf5⟩ := hp5
  rw [hf5] at hX
  refine k_topi (y := (kbI (mIn a cc))) hr5 ?_
  refine lv_if_eq (tgt := 15) C.x C.b dX8_around_8 (by decide) (fun c_8 => ?_) (fun c_8 => ?_)
  · exact absurd (hv) (kbI_0 c_8)
  refine lv_iload_n C.x C.b dX8_around_11 rfl (lv_at hl 2 rfl) ?_
  refine lv_if_ge (tgt := 25) C.x C.b dX8_around_12 (by decide) (fun c_12 => ?_) (fun c_12 => ?_)
  · skip
    refine lv_aload_n C.x C.b dX8_around_25 rfl (lv_at hl 0 rfl) ?_
    refine k_get (X := RX8) (T := TX8) (N := 7) (v := .ref sp) C hX (hM.at 0 rfl) rfl hin_X8_around_RX8 0 (by decide) lk_X8_around_f10 (fun _ h9 => h9) rfl dX8_around_26 ?_
    refine lv_iload_n C.x C.b dX8_around_29 rfl (lv_at hl 1 rfl) ?_
    refine lv_iload_n C.x C.b dX8_around_30 rfl (lv_at hl 2 rfl) ?_
    have hM9 : kCs f (nW G sp nA tA aN aT cc fc) := hM.pick [1, 2, 3] (by decide) ⟨rfl, rfl, rfl, trivial⟩
    refine k_calli (va_runVN (As := [.int a, .int (nI b)]) (rest := []) C.1 (kX3_neighbourAt l G B0 f sp nA tA aN aT cc fc a b hM9 hc9 hF9 hb) ⟨va_cnB 2 C.ts gX8_around_X3_neighbourAt_n98 rfl rfl rfl (C.2.1.2.2.1 _ (show ((RX8, 98, yX3_neighbourAt, "Koebehall") : String × Nat × MethodName × String) ∈ kNestM by decide +kernel)) (C.ts _ lk_X8_around_in_RX3) hdX8_around_X3_neighbourAt ⟨Nat.le_of_ble_eq_true rfl, Nat.le_of_ble_eq_true rfl⟩, C.ts _ lk_X8_around_im_X3_neighbourAt, C.ts _ lk_X8_around_se_X3_neighbourAt⟩ (k_preV C hX (hM.at 1 rfl) rfl) rfl rfl hl.1 rfl (lv_room (Nat.le_of_ble_eq_true rfl)) dX8_around_31 ⟨Nat.le_of_ble_eq_true rfl, Nat.le_of_ble_eq_true rfl⟩) hX (fun r31 f31 H locs hp31 hX => ?_)
    obtain ⟨hr31, hf31⟩ := hp31
    rw [hf31] at hX
    refine k_topi (y := (nAro aT cc a b)) hr31 ?_
    exact k_iret C hX hr hlocks hQ (by omega) (by omega) (⟨rfl, rfl⟩) dX8_around_34
  · skip
    exact absurd (nI_pos' (by omega)) c_12

theorem lk_X8_net_f10 : Cond.fieldLink RX8 10 "Koebehall" "sphere" "LKoebehall$Net;" ∈ wsX8_net := by decide +kernel
theorem hin_X8_net_RX8 : ∀ w ∈ u_ws RX8 TX8 7, w ∈ wsX8_net := by decide +kernel
theorem hin_X8_net_RX3 : ∀ w ∈ u_ws RX3 TX3 4, w ∈ wsX8_net := by decide +kernel
abbrev rmX8_net_0 : Room := { frames := 0, cells := 0, slots := 0, locals := 0 }
set_option maxHeartbeats 4000000 in
set_option maxRecDepth 100000 in
/-- X8_net_0 -/
theorem kX8_net_0 (l : Launch) (G : kG) (B0 : Nat) (f : kH) (h sp nA tA : Nat) (vd vg vw vm vp vn : Value) (aN aT : Nat → Int32) (cc fc : Nat) (hM : kCs f [(h, .inr (8, [.ref sp, vd, vg, vw, vm, vp, vn])), (sp, .inr (3, [.ref nA, .ref tA, .int (nI cc), .int (nI fc)])), (nA, kaI G 84 aN), (tA, kaI G 256 aT)]) (hc9 : cc ≤ 16) (hF9 : fc ≤ 28) (hc4 : 4 ≤ cc) : Met l yX8_net wsX8_net (rmX8_net_0) (kP G B0 f [.ref h, .int (nI 0)]) (kQi G B0 (fun r f1 => r = nI (cc) ∧ f1 = f)) 0 0 (kAb B0) := by
  refine kMet (cc := cX8_net) (maxL := 2) (ret := (some .int)) (by decide) rfl (Nat.le_of_ble_eq_true rfl) ?_
  intro p e s m args below meth c H locs Q ls C hX hl hr hlocks hnm hQ
  have hl : lv_has ls 2 [(0, .ref h), (1, .int (nI 0))] := hl
  refine lv_iload_n C.x C.b dX8_net_0 rfl (lv_at hl 1 rfl) ?_
  refine lv_tableIn (off := 35) (tgt := 36) C.x C.b dX8_net_1 (by decide) (by decide) (by decide) (by decide) ?_
  refine lv_aload_n C.x C.b dX8_net_36 rfl (lv_at hl 0 rfl) ?_
  refine k_get (X := RX8) (T := TX8) (N := 7) (v := .ref sp) C hX (hM.at 0 rfl) rfl hin_X8_net_RX8 0 (by decide) lk_X8_net_f10 (fun _ h9 => h9) rfl dX8_net_37 ?_
  refine k_getN (host := "Koebehall") (X := RX3) (T := TX3) (N := 4) (v := .int (nI cc)) C hX (hM.at 1 rfl) rfl hin_X8_net_RX3 2 (by decide) (by decide +kernel) (fun _ h9 => h9) rfl dX8_net_40 ?_
  exact k_iret C hX hr hlocks hQ (by omega) (by omega) (⟨rfl, rfl⟩) dX8_net_43

theorem hdX8_net_X3_edgeCount : yX3_edgeCount.cls ≠ "java/lang/invoke/MethodHandle" ∧ yX3_edgeCount.cls ≠ "java/lang/invoke/VarHandle" ∧ (parseMethodDescriptor yX3_edgeCount.desc).map (fun d => d.parameters.length) = some 0 := by decide +kernel
theorem lk_X8_net_in_RX3 : Cond.initialized RX3 ∈ wsX8_net := by decide +kernel
theorem lk_X8_net_im_X3_edgeCount : Cond.instanceMethod yX3_edgeCount ∈ wsX8_net := by decide +kernel
theorem lk_X8_net_se_X3_edgeCount : Cond.selects RX3 yX3_edgeCount yX3_edgeCount ∈ wsX8_net := by decide +kernel
abbrev rmX8_net_1 : Room := { frames := 1, cells := 0, slots := 0, locals := 20 }
set_option maxHeartbeats 4000000 in
set_option maxRecDepth 100000 in
/-- X8_net_1 -/
theorem kX8_net_1 (l : Launch) (G : kG) (B0 : Nat) (f : kH) (h sp nA tA : Nat) (vd vg vw vm vp vn : Value) (aN aT : Nat → Int32) (cc fc : Nat) (hM : kCs f [(h, .inr (8, [.ref sp, vd, vg, vw, vm, vp, vn])), (sp, .inr (3, [.ref nA, .ref tA, .int (nI cc), .int (nI fc)])), (nA, kaI G 84 aN), (tA, kaI G 256 aT)]) (hc9 : cc ≤ 16) (hF9 : fc ≤ 28) (hc4 : 4 ≤ cc) : Met l yX8_net wsX8_net (rmX8_net_1) (kP G B0 f [.ref h, .int (nI 1)]) (kQi G B0 (fun r f1 => r = nI (3 * fc / 2) ∧ f1 = f)) 0 0 (kAb B0) := by
  refine kMet (cc := cX8_net) (maxL := 2) (ret := (some .int)) (by decide) rfl (Nat.le_of_ble_eq_true rfl) ?_
  intro p e s m args below meth c H locs Q ls C hX hl hr hlocks hnm hQ
  have hl : lv_has ls 2 [(0, .ref h), (1, .int (nI 1))] := hl
  refine lv_iload_n C.x C.b dX8_net_0 rfl (lv_at hl 1 rfl) ?_
  refine lv_tableIn (off := 43) (tgt := 44) C.x C.b dX8_net_1 (by decide) (by decide) (by decide) (by decide) ?_
  refine lv_aload_n C.x C.b dX8_net_44 rfl (lv_at hl 0 rfl) ?_
  refine k_get (X := RX8) (T := TX8) (N := 7) (v := .ref sp) C hX (hM.at 0 rfl) rfl hin_X8_net_RX8 0 (by decide) lk_X8_net_f10 (fun _ h9 => h9) rfl dX8_net_45 ?_
  have hM9 : kCs f (nW G sp nA tA aN aT cc fc) := hM.pick [1, 2, 3] (by decide) ⟨rfl, rfl, rfl, trivial⟩
  refine k_calli (va_runVN (As := []) (rest := []) C.1 (kX3_edgeCount l G B0 f sp nA tA aN aT cc fc  hM9 hc9 hF9) ⟨va_cnB 0 C.ts gX8_net_X3_edgeCount_n105 rfl rfl rfl (C.2.1.2.2.1 _ (show ((RX8, 105, yX3_edgeCount, "Koebehall") : String × Nat × MethodName × String) ∈ kNestM by decide +kernel)) (C.ts _ lk_X8_net_in_RX3) hdX8_net_X3_edgeCount ⟨Nat.le_of_ble_eq_true rfl, Nat.le_of_ble_eq_true rfl⟩, C.ts _ lk_X8_net_im_X3_edgeCount, C.ts _ lk_X8_net_se_X3_edgeCount⟩ (k_preV C hX (hM.at 1 rfl) rfl) rfl rfl hl.1 rfl (lv_room (Nat.le_of_ble_eq_true rfl)) dX8_net_48 ⟨Nat.le_of_ble_eq_true rfl, Nat.le_of_ble_eq_true rfl⟩) hX (fun r48 f48 H locs hp48 hX => ?_)
  obtain ⟨hr48, hf48⟩ := hp48
  rw [hf48] at hX
  refine k_topi (y := (nI (3 * fc / 2))) hr48 ?_
  exact k_iret C hX hr hlocks hQ (by omega) (by omega) (⟨rfl, rfl⟩) dX8_net_51

abbrev rmX8_net_2 : Room := { frames := 0, cells := 0, slots := 0, locals := 0 }
set_option maxHeartbeats 4000000 in
set_option maxRecDepth 100000 in
/-- X8_net_2 -/
theorem kX8_net_2 (l : Launch) (G : kG) (B0 : Nat) (f : kH) (h sp nA tA : Nat) (vd vg vw vm vp vn : Value) (aN aT : Nat → Int32) (cc fc : Nat) (hM : kCs f [(h, .inr (8, [.ref sp, vd, vg, vw, vm, vp, vn])), (sp, .inr (3, [.ref nA, .ref tA, .int (nI cc), .int (nI fc)])), (nA, kaI G 84 aN), (tA, kaI G 256 aT)]) (hc9 : cc ≤ 16) (hF9 : fc ≤ 28) (hc4 : 4 ≤ cc) : Met l yX8_net wsX8_net (rmX8_net_2) (kP G B0 f [.ref h, .int (nI 2)]) (kQi G B0 (fun r f1 => r = nI (fc) ∧ f1 = f)) 0 0 (kAb B0) := by
  refine kMet (cc := cX8_net) (maxL := 2) (ret := (some .int)) (by decide) rfl (Nat.le_of_ble_eq_true rfl) ?_
  intro p e s m args below meth c H locs Q ls C hX hl hr hlocks hnm hQ
  have hl : lv_has ls 2 [(0, .ref h), (1, .int (nI 2))] := hl
  refine lv_iload_n C.x C.b dX8_net_0 rfl (lv_at hl 1 rfl) ?_
  refine lv_tableIn (off := 51) (tgt := 52) C.x C.b dX8_net_1 (by decide) (by decide) (by decide) (by decide) ?_
  refine lv_aload_n C.x C.b dX8_net_52 rfl (lv_at hl 0 rfl) ?_
  refine k_get (X := RX8) (T := TX8) (N := 7) (v := .ref sp) C hX (hM.at 0 rfl) rfl hin_X8_net_RX8 0 (by decide) lk_X8_net_f10 (fun _ h9 => h9) rfl dX8_net_53 ?_
  refine k_getN (host := "Koebehall") (X := RX3) (T := TX3) (N := 4) (v := .int (nI fc)) C hX (hM.at 1 rfl) rfl hin_X8_net_RX3 3 (by decide) (by decide +kernel) (fun _ h9 => h9) rfl dX8_net_56 ?_
  exact k_iret C hX hr hlocks hQ (by omega) (by omega) (⟨rfl, rfl⟩) dX8_net_59

theorem hdX8_net_X3_flippableCount : yX3_flippableCount.cls ≠ "java/lang/invoke/MethodHandle" ∧ yX3_flippableCount.cls ≠ "java/lang/invoke/VarHandle" ∧ (parseMethodDescriptor yX3_flippableCount.desc).map (fun d => d.parameters.length) = some 0 := by decide +kernel
theorem lk_X8_net_im_X3_flippableCount : Cond.instanceMethod yX3_flippableCount ∈ wsX8_net := by decide +kernel
theorem lk_X8_net_se_X3_flippableCount : Cond.selects RX3 yX3_flippableCount yX3_flippableCount ∈ wsX8_net := by decide +kernel
abbrev rmX8_net_3 : Room := { frames := 5, cells := 0, slots := 0, locals := 110 }
set_option maxHeartbeats 4000000 in
set_option maxRecDepth 100000 in
/-- X8_net_3 -/
theorem kX8_net_3 (l : Launch) (G : kG) (B0 : Nat) (f : kH) (h sp nA tA : Nat) (vd vg vw vm vp vn : Value) (aN aT : Nat → Int32) (cc fc : Nat) (hM : kCs f [(h, .inr (8, [.ref sp, vd, vg, vw, vm, vp, vn])), (sp, .inr (3, [.ref nA, .ref tA, .int (nI cc), .int (nI fc)])), (nA, kaI G 84 aN), (tA, kaI G 256 aT)]) (hc9 : cc ≤ 16) (hF9 : fc ≤ 28) (hc4 : 4 ≤ cc) : Met l yX8_net wsX8_net (rmX8_net_3) (kP G B0 f [.ref h, .int (nI 3)]) (kQi G B0 (fun r f1 => r = nI (kCnt2 (fun x9 y9 => nCanFlip aT cc (nI y9) (nI x9)) cc) ∧ f1 = f)) 0 0 (kAb B0) := by
  refine kMet (cc := cX8_net) (maxL := 2) (ret := (some .int)) (by decide) rfl (Nat.le_of_ble_eq_true rfl) ?_
  intro p e s m args below meth c H locs Q ls C hX hl hr hlocks hnm hQ
  have hl : lv_has ls 2 [(0, .ref h), (1, .int (nI 3))] := hl
  refine lv_iload_n C.x C.b dX8_net_0 rfl (lv_at hl 1 rfl) ?_
  refine lv_tableIn (off := 59) (tgt := 60) C.x C.b dX8_net_1 (by decide) (by decide) (by decide) (by decide) ?_
  refine lv_aload_n C.x C.b dX8_net_60 rfl (lv_at hl 0 rfl) ?_
  refine k_get (X := RX8) (T := TX8) (N := 7) (v := .ref sp) C hX (hM.at 0 rfl) rfl hin_X8_net_RX8 0 (by decide) lk_X8_net_f10 (fun _ h9 => h9) rfl dX8_net_61 ?_
  have hM9 : kCs f (nW G sp nA tA aN aT cc fc) := hM.pick [1, 2, 3] (by decide) ⟨rfl, rfl, rfl, trivial⟩
  refine k_calli (va_runVN (As := []) (rest := []) C.1 (kX3_flippableCount l G B0 f sp nA tA aN aT cc fc  hM9 hc9 hF9 hc4) ⟨va_cnB 0 C.ts gX8_net_X3_flippableCount_n112 rfl rfl rfl (C.2.1.2.2.1 _ (show ((RX8, 112, yX3_flippableCount, "Koebehall") : String × Nat × MethodName × String) ∈ kNestM by decide +kernel)) (C.ts _ lk_X8_net_in_RX3) hdX8_net_X3_flippableCount ⟨Nat.le_of_ble_eq_true rfl, Nat.le_of_ble_eq_true rfl⟩, C.ts _ lk_X8_net_im_X3_flippableCount, C.ts _ lk_X8_net_se_X3_flippableCount⟩ (k_preV C hX (hM.at 1 rfl) rfl) rfl rfl hl.1 rfl (lv_room (Nat.le_of_ble_eq_true rfl)) dX8_net_64 ⟨Nat.le_of_ble_eq_true rfl, Nat.le_of_ble_eq_true rfl⟩) hX (fun r64 f64 H locs hp64 hX => ?_)
  obtain ⟨hr64, hf64⟩ := hp64
  rw [hf64] at hX
  refine k_topi (y := (nI (kCnt2 (fun x9 y9 => nCanFlip aT cc (nI y9) (nI x9)) cc))) hr64 ?_
  exact k_iret C hX hr hlocks hQ (by omega) (by omega) (⟨rfl, rfl⟩) dX8_net_67

theorem hdX8_net_X3_mostNeighbours : yX3_mostNeighbours.cls ≠ "java/lang/invoke/MethodHandle" ∧ yX3_mostNeighbours.cls ≠ "java/lang/invoke/VarHandle" ∧ (parseMethodDescriptor yX3_mostNeighbours.desc).map (fun d => d.parameters.length) = some 0 := by decide +kernel
theorem lk_X8_net_im_X3_mostNeighbours : Cond.instanceMethod yX3_mostNeighbours ∈ wsX8_net := by decide +kernel
theorem lk_X8_net_se_X3_mostNeighbours : Cond.selects RX3 yX3_mostNeighbours yX3_mostNeighbours ∈ wsX8_net := by decide +kernel
abbrev rmX8_net_4 : Room := { frames := 2, cells := 0, slots := 0, locals := 45 }
set_option maxHeartbeats 4000000 in
set_option maxRecDepth 100000 in
/-- X8_net_4 -/
theorem kX8_net_4 (l : Launch) (G : kG) (B0 : Nat) (f : kH) (h sp nA tA : Nat) (vd vg vw vm vp vn : Value) (aN aT : Nat → Int32) (cc fc : Nat) (hM : kCs f [(h, .inr (8, [.ref sp, vd, vg, vw, vm, vp, vn])), (sp, .inr (3, [.ref nA, .ref tA, .int (nI cc), .int (nI fc)])), (nA, kaI G 84 aN), (tA, kaI G 256 aT)]) (hc9 : cc ≤ 16) (hF9 : fc ≤ 28) (hc4 : 4 ≤ cc) : Met l yX8_net wsX8_net (rmX8_net_4) (kP G B0 f [.ref h, .int (nI 4)]) (kQi G B0 (fun r f1 => r = nI (nMost aN fc cc) ∧ f1 = f)) 0 0 (kAb B0) := by
  refine kMet (cc := cX8_net) (maxL := 2) (ret := (some .int)) (by decide) rfl (Nat.le_of_ble_eq_true rfl) ?_
  intro p e s m args below meth c H locs Q ls C hX hl hr hlocks hnm hQ
  have hl : lv_has ls 2 [(0, .ref h), (1, .int (nI 4))] := hl
  refine lv_iload_n C.x C.b dX8_net_0 rfl (lv_at hl 1 rfl) ?_
  refine lv_tableIn (off := 67) (tgt := 68) C.x C.b dX8_net_1 (by decide) (by decide) (by decide) (by decide) ?_
  refine lv_aload_n C.x C.b dX8_net_68 rfl (lv_at hl 0 rfl) ?_
  refine k_get (X := RX8) (T := TX8) (N := 7) (v := .ref sp) C hX (hM.at 0 rfl) rfl hin_X8_net_RX8 0 (by decide) lk_X8_net_f10 (fun _ h9 => h9) rfl dX8_net_69 ?_
  have hM9 : kCs f (nW G sp nA tA aN aT cc fc) := hM.pick [1, 2, 3] (by decide) ⟨rfl, rfl, rfl, trivial⟩
  refine k_calli (va_runVN (As := []) (rest := []) C.1 (kX3_mostNeighbours l G B0 f sp nA tA aN aT cc fc  hM9 hc9 hF9) ⟨va_cnB 0 C.ts gX8_net_X3_mostNeighbours_n115 rfl rfl rfl (C.2.1.2.2.1 _ (show ((RX8, 115, yX3_mostNeighbours, "Koebehall") : String × Nat × MethodName × String) ∈ kNestM by decide +kernel)) (C.ts _ lk_X8_net_in_RX3) hdX8_net_X3_mostNeighbours ⟨Nat.le_of_ble_eq_true rfl, Nat.le_of_ble_eq_true rfl⟩, C.ts _ lk_X8_net_im_X3_mostNeighbours, C.ts _ lk_X8_net_se_X3_mostNeighbours⟩ (k_preV C hX (hM.at 1 rfl) rfl) rfl rfl hl.1 rfl (lv_room (Nat.le_of_ble_eq_true rfl)) dX8_net_72 ⟨Nat.le_of_ble_eq_true rfl, Nat.le_of_ble_eq_true rfl⟩) hX (fun r72 f72 H locs hp72 hX => ?_)
  obtain ⟨hr72, hf72⟩ := hp72
  rw [hf72] at hX
  refine k_topi (y := (nI (nMost aN fc cc))) hr72 ?_
  exact k_iret C hX hr hlocks hQ (by omega) (by omega) (⟨rfl, rfl⟩) dX8_net_75

theorem lk_X8_isDisk_c170 : Cond.constantLong RX8 170 (1000000000) ∈ wsX8_isDisk := by decide +kernel
theorem hdX8_isDisk_X8_isWithin : yX8_isWithin.cls ≠ "java/lang/invoke/MethodHandle" ∧ yX8_isWithin.cls ≠ "java/lang/invoke/VarHandle" ∧ (parseMethodDescriptor yX8_isWithin.desc).map (fun d => d.parameters.length) = some 2 := by decide +kernel
theorem lk_X8_isDisk_c176 : Cond.constant RX8 176 (1000000000) ∈ wsX8_isDisk := by decide +kernel
abbrev rmX8_isDisk : Room := { frames := 1, cells := 0, slots := 0, locals := 23 }
set_option maxHeartbeats 4000000 in
set_option maxRecDepth 100000 in
/-- X8_isDisk -/
theorem kX8_isDisk (l : Launch) (G : kG) (B0 : Nat) (f : kH) (x1 x2 x3 : Int32) : Met l yX8_isDisk wsX8_isDisk (rmX8_isDisk) (kP G B0 f [.int x1, .int x2, .int x3]) (kQi G B0 (fun r f1 => r = kbI (cIn x1.toInt64 1000000000 ∧ cIn x2.toInt64 1000000000 ∧ ¬ x3 < nI 1 ∧ ¬ nI 1000000000 < x3) ∧ f1 = f)) 0 0 (kAb B0) := by
  refine kMet (cc := cX8_isDisk) (maxL := 3) (ret := (some .boolean)) (by decide) rfl (Nat.le_of_ble_eq_true rfl) ?_
  intro p e s m args below meth c H locs Q ls C hX hl hr hlocks hnm hQ
  have hl : lv_has ls 3 [(0, .int x1), (1, .int x2), (2, .int x3)] := hl
  refine lv_iload_n C.x C.b dX8_isDisk_0 rfl (lv_at hl 0 rfl) ?_
  refine lv_i2l (v := x1.toInt64) C.x C.b dX8_isDisk_1 rfl ?_
  refine lv_ldc2 (v := 1000000000) C.x C.b C.ow (C.ts _ lk_X8_isDisk_c170) dX8_isDisk_2 ?_
  refine k_calli (va_runS (As := [.long x1.toInt64, .long 1000000000]) (rest := []) C.1 (kX8_isWithin l G B0 f x1.toInt64 1000000000) (va_cwS 2 C.ts gX8_isDisk_X8_isWithin rfl rfl rfl (hdX8_isDisk_X8_isWithin) ⟨Nat.le_of_ble_eq_true rfl, Nat.le_of_ble_eq_true rfl⟩) (k_preS C hX) rfl rfl hl.1 rfl (lv_room (Nat.le_of_ble_eq_true rfl)) dX8_isDisk_5 ⟨Nat.le_of_ble_eq_true rfl, Nat.le_of_ble_eq_true rfl⟩) hX (fun r5 f5 H locs hp5 hX => ?_)
  obtain ⟨hr5, hf5⟩ := hp5
  rw [hf5] at hX
  refine k_topi (y := (kbI (cIn x1.toInt64 1000000000))) hr5 ?_
  refine lv_if_eq (tgt := 37) C.x C.b dX8_isDisk_8 (by decide) (fun c_8 => ?_) (fun c_8 => ?_)
  · skip
    have c_8 := kbI_0 c_8
    refine lv_iconst (v := nI 0) C.x C.b dX8_isDisk_37 (by decide) ?_
    exact k_zret C hX hr hlocks hQ (by omega) (by omega) (by first | exact kbI_01 _ | exact Or.inl rfl | exact Or.inr rfl) (by refine ⟨?_, rfl⟩; first | exact kbI_tN ⟨c_8, c_19, c_24, c_30⟩ | exact kbI_fN (fun h9 => c_8 h9.1) | exact kbI_fN (fun h9 => c_19 h9.2.1) | exact kbI_fN (fun h9 => h9.2.2.1 c_24) | exact kbI_fN (fun h9 => h9.2.2.2 c_30)) dX8_isDisk_38
  · skip
    have c_8 := kbI_1 c_8
    refine lv_iload_n C.x C.b dX8_isDisk_11 rfl (lv_at hl 1 rfl) ?_
    refine lv_i2l (v := x2.toInt64) C.x C.b dX8_isDisk_12 rfl ?_
    refine lv_ldc2 (v := 1000000000) C.x C.b C.ow (C.ts _ lk_X8_isDisk_c170) dX8_isDisk_13 ?_
    refine k_calli (va_runS (As := [.long x2.toInt64, .long 1000000000]) (rest := []) C.1 (kX8_isWithin l G B0 f x2.toInt64 1000000000) (va_cwS 2 C.ts gX8_isDisk_X8_isWithin rfl rfl rfl (hdX8_isDisk_X8_isWithin) ⟨Nat.le_of_ble_eq_true rfl, Nat.le_of_ble_eq_true rfl⟩) (k_preS C hX) rfl rfl hl.1 rfl (lv_room (Nat.le_of_ble_eq_true rfl)) dX8_isDisk_16 ⟨Nat.le_of_ble_eq_true rfl, Nat.le_of_ble_eq_true rfl⟩) hX (fun r16 f16 H locs hp16 hX => ?_)
    obtain ⟨hr16, hf16⟩ := hp16
    rw [hf16] at hX
    refine k_topi (y := (kbI (cIn x2.toInt64 1000000000))) hr16 ?_
    refine lv_if_eq (tgt := 37) C.x C.b dX8_isDisk_19 (by decide) (fun c_19 => ?_) (fun c_19 => ?_)
    · skip
      have c_19 := kbI_0 c_19
      refine lv_iconst (v := nI 0) C.x C.b dX8_isDisk_37 (by decide) ?_
      exact k_zret C hX hr hlocks hQ (by omega) (by omega) (by first | exact kbI_01 _ | exact Or.inl rfl | exact Or.inr rfl) (by refine ⟨?_, rfl⟩; first | exact kbI_tN ⟨c_8, c_19, c_24, c_30⟩ | exact kbI_fN (fun h9 => c_8 h9.1) | exact kbI_fN (fun h9 => c_19 h9.2.1) | exact kbI_fN (fun h9 => h9.2.2.1 c_24) | exact kbI_fN (fun h9 => h9.2.2.2 c_30)) dX8_isDisk_38
    · skip
      have c_19 := kbI_1 c_19
      refine lv_iload_n C.x C.b dX8_isDisk_22 rfl (lv_at hl 2 rfl) ?_
      refine lv_iconst (v := nI 1) C.x C.b dX8_isDisk_23 (by decide) ?_
      refine lv_icmp_lt (tgt := 37) C.x C.b dX8_isDisk_24 (by decide) (fun c_24 => ?_) (fun c_24 => ?_)
      · skip
        refine lv_iconst (v := nI 0) C.x C.b dX8_isDisk_37 (by decide) ?_
        exact k_zret C hX hr hlocks hQ (by omega) (by omega) (by first | exact kbI_01 _ | exact Or.inl rfl | exact Or.inr rfl) (by refine ⟨?_, rfl⟩; first | exact kbI_tN ⟨c_8, c_19, c_24, c_30⟩ | exact kbI_fN (fun h9 => c_8 h9.1) | exact kbI_fN (fun h9 => c_19 h9.2.1) | exact kbI_fN (fun h9 => h9.2.2.1 c_24) | exact kbI_fN (fun h9 => h9.2.2.2 c_30)) dX8_isDisk_38
      · skip
        refine lv_iload_n C.x C.b dX8_isDisk_27 rfl (lv_at hl 2 rfl) ?_
        refine lv_ldc (v := nI 1000000000) C.x C.b C.ow (C.ts _ lk_X8_isDisk_c176) dX8_isDisk_28 ?_
        refine lv_icmp_gt (tgt := 37) C.x C.b dX8_isDisk_30 (by decide) (fun c_30 => ?_) (fun c_30 => ?_)
        · skip
          refine lv_iconst (v := nI 0) C.x C.b dX8_isDisk_37 (by decide) ?_
          exact k_zret C hX hr hlocks hQ (by omega) (by omega) (by first | exact kbI_01 _ | exact Or.inl rfl | exact Or.inr rfl) (by refine ⟨?_, rfl⟩; first | exact kbI_tN ⟨c_8, c_19, c_24, c_30⟩ | exact kbI_fN (fun h9 => c_8 h9.1) | exact kbI_fN (fun h9 => c_19 h9.2.1) | exact kbI_fN (fun h9 => h9.2.2.1 c_24) | exact kbI_fN (fun h9 => h9.2.2.2 c_30)) dX8_isDisk_38
        · skip
          refine lv_iconst (v := nI 1) C.x C.b dX8_isDisk_33 (by decide) ?_
          refine lv_goto (tgt := 38) C.x C.b dX8_isDisk_34 (by decide) ?_
          exact k_zret C hX hr hlocks hQ (by omega) (by omega) (by first | exact kbI_01 _ | exact Or.inl rfl | exact Or.inr rfl) (by refine ⟨?_, rfl⟩; first | exact kbI_tN ⟨c_8, c_19, c_24, c_30⟩ | exact kbI_fN (fun h9 => c_8 h9.1) | exact kbI_fN (fun h9 => c_19 h9.2.1) | exact kbI_fN (fun h9 => h9.2.2.1 c_24) | exact kbI_fN (fun h9 => h9.2.2.2 c_30)) dX8_isDisk_38

theorem hdX8_areFourWithin_X8_isWithin : yX8_isWithin.cls ≠ "java/lang/invoke/MethodHandle" ∧ yX8_isWithin.cls ≠ "java/lang/invoke/VarHandle" ∧ (parseMethodDescriptor yX8_isWithin.desc).map (fun d => d.parameters.length) = some 2 := by decide +kernel
abbrev rmX8_areFourWithin : Room := { frames := 1, cells := 0, slots := 0, locals := 23 }
set_option maxHeartbeats 4000000 in
set_option maxRecDepth 100000 in
/-- X8_areFourWithin -/
theorem kX8_areFourWithin (l : Launch) (G : kG) (B0 : Nat) (f : kH) (x1 x2 x3 x4 w9 : Int32) : Met l yX8_areFourWithin wsX8_areFourWithin (rmX8_areFourWithin) (kP G B0 f [.int x1, .int x2, .int x3, .int x4, .int w9]) (kQi G B0 (fun r f1 => r = kbI (cIn x1.toInt64 w9.toInt64 ∧ cIn x2.toInt64 w9.toInt64 ∧ cIn x3.toInt64 w9.toInt64 ∧ cIn x4.toInt64 w9.toInt64) ∧ f1 = f)) 0 0 (kAb B0) := by
  refine kMet (cc := cX8_areFourWithin) (maxL := 5) (ret := (some .boolean)) (by decide) rfl (Nat.le_of_ble_eq_true rfl) ?_
  intro p e s m args below meth c H locs Q ls C hX hl hr hlocks hnm hQ
  have hl : lv_has ls 5 [(0, .int x1), (1, .int x2), (2, .int x3), (3, .int x4), (4, .int w9)] := hl
  refine lv_iload_n C.x C.b dX8_areFourWithin_0 rfl (lv_at hl 0 rfl) ?_
  refine lv_i2l (v := x1.toInt64) C.x C.b dX8_areFourWithin_1 rfl ?_
  refine lv_iload C.x C.b dX8_areFourWithin_2 (lv_at hl 4 rfl) ?_
  refine lv_i2l (v := w9.toInt64) C.x C.b dX8_areFourWithin_4 rfl ?_
  refine k_calli (va_runS (As := [.long x1.toInt64, .long w9.toInt64]) (rest := []) C.1 (kX8_isWithin l G B0 f x1.toInt64 w9.toInt64) (va_cwS 2 C.ts gX8_areFourWithin_X8_isWithin rfl rfl rfl (hdX8_areFourWithin_X8_isWithin) ⟨Nat.le_of_ble_eq_true rfl, Nat.le_of_ble_eq_true rfl⟩) (k_preS C hX) rfl rfl hl.1 rfl (lv_room (Nat.le_of_ble_eq_true rfl)) dX8_areFourWithin_5 ⟨Nat.le_of_ble_eq_true rfl, Nat.le_of_ble_eq_true rfl⟩) hX (fun r5 f5 H locs hp5 hX => ?_)
  obtain ⟨hr5, hf5⟩ := hp5
  rw [hf5] at hX
  refine k_topi (y := (kbI (cIn x1.toInt64 w9.toInt64))) hr5 ?_
  refine lv_if_eq (tgt := 48) C.x C.b dX8_areFourWithin_8 (by decide) (fun c_8 => ?_) (fun c_8 => ?_)
  · skip
    have c_8 := kbI_0 c_8
    refine lv_iconst (v := nI 0) C.x C.b dX8_areFourWithin_48 (by decide) ?_
    exact k_zret C hX hr hlocks hQ (by omega) (by omega) (by first | exact kbI_01 _ | exact Or.inl rfl | exact Or.inr rfl) (by refine ⟨?_, rfl⟩; first | exact kbI_tN ⟨c_8, c_19, c_30, c_41⟩ | exact kbI_fN (fun h9 => c_8 h9.1) | exact kbI_fN (fun h9 => c_19 h9.2.1) | exact kbI_fN (fun h9 => c_30 h9.2.2.1) | exact kbI_fN (fun h9 => c_41 h9.2.2.2)) dX8_areFourWithin_49
  · skip
    have c_8 := kbI_1 c_8
    refine lv_iload_n C.x C.b dX8_areFourWithin_11 rfl (lv_at hl 1 rfl) ?_
    refine lv_i2l (v := x2.toInt64) C.x C.b dX8_areFourWithin_12 rfl ?_
    refine lv_iload C.x C.b dX8_areFourWithin_13 (lv_at hl 4 rfl) ?_
    refine lv_i2l (v := w9.toInt64) C.x C.b dX8_areFourWithin_15 rfl ?_
    refine k_calli (va_runS (As := [.long x2.toInt64, .long w9.toInt64]) (rest := []) C.1 (kX8_isWithin l G B0 f x2.toInt64 w9.toInt64) (va_cwS 2 C.ts gX8_areFourWithin_X8_isWithin rfl rfl rfl (hdX8_areFourWithin_X8_isWithin) ⟨Nat.le_of_ble_eq_true rfl, Nat.le_of_ble_eq_true rfl⟩) (k_preS C hX) rfl rfl hl.1 rfl (lv_room (Nat.le_of_ble_eq_true rfl)) dX8_areFourWithin_16 ⟨Nat.le_of_ble_eq_true rfl, Nat.le_of_ble_eq_true rfl⟩) hX (fun r16 f16 H locs hp16 hX => ?_)
    obtain ⟨hr16, hf16⟩ := hp16
    rw [hf16] at hX
    refine k_topi (y := (kbI (cIn x2.toInt64 w9.toInt64))) hr16 ?_
    refine lv_if_eq (tgt := 48) C.x C.b dX8_areFourWithin_19 (by decide) (fun c_19 => ?_) (fun c_19 => ?_)
    · skip
      have c_19 := kbI_0 c_19
      refine lv_iconst (v := nI 0) C.x C.b dX8_areFourWithin_48 (by decide) ?_
      exact k_zret C hX hr hlocks hQ (by omega) (by omega) (by first | exact kbI_01 _ | exact Or.inl rfl | exact Or.inr rfl) (by refine ⟨?_, rfl⟩; first | exact kbI_tN ⟨c_8, c_19, c_30, c_41⟩ | exact kbI_fN (fun h9 => c_8 h9.1) | exact kbI_fN (fun h9 => c_19 h9.2.1) | exact kbI_fN (fun h9 => c_30 h9.2.2.1) | exact kbI_fN (fun h9 => c_41 h9.2.2.2)) dX8_areFourWithin_49
    · skip
      have c_19 := kbI_1 c_19
      refine lv_iload_n C.x C.b dX8_areFourWithin_22 rfl (lv_at hl 2 rfl) ?_
      refine lv_i2l (v := x3.toInt64) C.x C.b dX8_areFourWithin_23 rfl ?_
      refine lv_iload C.x C.b dX8_areFourWithin_24 (lv_at hl 4 rfl) ?_
      refine lv_i2l (v := w9.toInt64) C.x C.b dX8_areFourWithin_26 rfl ?_
      refine k_calli (va_runS (As := [.long x3.toInt64, .long w9.toInt64]) (rest := []) C.1 (kX8_isWithin l G B0 f x3.toInt64 w9.toInt64) (va_cwS 2 C.ts gX8_areFourWithin_X8_isWithin rfl rfl rfl (hdX8_areFourWithin_X8_isWithin) ⟨Nat.le_of_ble_eq_true rfl, Nat.le_of_ble_eq_true rfl⟩) (k_preS C hX) rfl rfl hl.1 rfl (lv_room (Nat.le_of_ble_eq_true rfl)) dX8_areFourWithin_27 ⟨Nat.le_of_ble_eq_true rfl, Nat.le_of_ble_eq_true rfl⟩) hX (fun r27 f27 H locs hp27 hX => ?_)
      obtain ⟨hr27, hf27⟩ := hp27
      rw [hf27] at hX
      refine k_topi (y := (kbI (cIn x3.toInt64 w9.toInt64))) hr27 ?_
      refine lv_if_eq (tgt := 48) C.x C.b dX8_areFourWithin_30 (by decide) (fun c_30 => ?_) (fun c_30 => ?_)
      · skip
        have c_30 := kbI_0 c_30
        refine lv_iconst (v := nI 0) C.x C.b dX8_areFourWithin_48 (by decide) ?_
        exact k_zret C hX hr hlocks hQ (by omega) (by omega) (by first | exact kbI_01 _ | exact Or.inl rfl | exact Or.inr rfl) (by refine ⟨?_, rfl⟩; first | exact kbI_tN ⟨c_8, c_19, c_30, c_41⟩ | exact kbI_fN (fun h9 => c_8 h9.1) | exact kbI_fN (fun h9 => c_19 h9.2.1) | exact kbI_fN (fun h9 => c_30 h9.2.2.1) | exact kbI_fN (fun h9 => c_41 h9.2.2.2)) dX8_areFourWithin_49
      · skip
        have c_30 := kbI_1 c_30
        refine lv_iload_n C.x C.b dX8_areFourWithin_33 rfl (lv_at hl 3 rfl) ?_
        refine lv_i2l (v := x4.toInt64) C.x C.b dX8_areFourWithin_34 rfl ?_
        refine lv_iload C.x C.b dX8_areFourWithin_35 (lv_at hl 4 rfl) ?_
        refine lv_i2l (v := w9.toInt64) C.x C.b dX8_areFourWithin_37 rfl ?_
        refine k_calli (va_runS (As := [.long x4.toInt64, .long w9.toInt64]) (rest := []) C.1 (kX8_isWithin l G B0 f x4.toInt64 w9.toInt64) (va_cwS 2 C.ts gX8_areFourWithin_X8_isWithin rfl rfl rfl (hdX8_areFourWithin_X8_isWithin) ⟨Nat.le_of_ble_eq_true rfl, Nat.le_of_ble_eq_true rfl⟩) (k_preS C hX) rfl rfl hl.1 rfl (lv_room (Nat.le_of_ble_eq_true rfl)) dX8_areFourWithin_38 ⟨Nat.le_of_ble_eq_true rfl, Nat.le_of_ble_eq_true rfl⟩) hX (fun r38 f38 H locs hp38 hX => ?_)
        obtain ⟨hr38, hf38⟩ := hp38
        rw [hf38] at hX
        refine k_topi (y := (kbI (cIn x4.toInt64 w9.toInt64))) hr38 ?_
        refine lv_if_eq (tgt := 48) C.x C.b dX8_areFourWithin_41 (by decide) (fun c_41 => ?_) (fun c_41 => ?_)
        · skip
          have c_41 := kbI_0 c_41
          refine lv_iconst (v := nI 0) C.x C.b dX8_areFourWithin_48 (by decide) ?_
          exact k_zret C hX hr hlocks hQ (by omega) (by omega) (by first | exact kbI_01 _ | exact Or.inl rfl | exact Or.inr rfl) (by refine ⟨?_, rfl⟩; first | exact kbI_tN ⟨c_8, c_19, c_30, c_41⟩ | exact kbI_fN (fun h9 => c_8 h9.1) | exact kbI_fN (fun h9 => c_19 h9.2.1) | exact kbI_fN (fun h9 => c_30 h9.2.2.1) | exact kbI_fN (fun h9 => c_41 h9.2.2.2)) dX8_areFourWithin_49
        · skip
          have c_41 := kbI_1 c_41
          refine lv_iconst (v := nI 1) C.x C.b dX8_areFourWithin_44 (by decide) ?_
          refine lv_goto (tgt := 49) C.x C.b dX8_areFourWithin_45 (by decide) ?_
          exact k_zret C hX hr hlocks hQ (by omega) (by omega) (by first | exact kbI_01 _ | exact Or.inl rfl | exact Or.inr rfl) (by refine ⟨?_, rfl⟩; first | exact kbI_tN ⟨c_8, c_19, c_30, c_41⟩ | exact kbI_fN (fun h9 => c_8 h9.1) | exact kbI_fN (fun h9 => c_19 h9.2.1) | exact kbI_fN (fun h9 => c_30 h9.2.2.1) | exact kbI_fN (fun h9 => c_41 h9.2.2.2)) dX8_areFourWithin_49

theorem lk_X8_refuseNoFraction_c170 : Cond.constantLong RX8 170 (1000000000) ∈ wsX8_refuseNoFraction := by decide +kernel
theorem hdX8_refuseNoFraction_X8_isWithin : yX8_isWithin.cls ≠ "java/lang/invoke/MethodHandle" ∧ yX8_isWithin.cls ≠ "java/lang/invoke/VarHandle" ∧ (parseMethodDescriptor yX8_isWithin.desc).map (fun d => d.parameters.length) = some 2 := by decide +kernel
theorem lk_X8_refuseNoFraction_c176 : Cond.constant RX8 176 (1000000000) ∈ wsX8_refuseNoFraction := by decide +kernel
theorem hdX8_refuseNoFraction_X1_isLowest : yX1_isLowest.cls ≠ "java/lang/invoke/MethodHandle" ∧ yX1_isLowest.cls ≠ "java/lang/invoke/VarHandle" ∧ (parseMethodDescriptor yX1_isLowest.desc).map (fun d => d.parameters.length) = some 2 := by decide +kernel
theorem lk_X8_refuseNoFraction_in_RX1 : Cond.initialized RX1 ∈ wsX8_refuseNoFraction := by decide +kernel
theorem lk_X8_refuseNoFraction_st_X1_isLowest : Cond.static yX1_isLowest ∈ wsX8_refuseNoFraction := by decide +kernel
abbrev rmX8_refuseNoFraction : Room := { frames := 2, cells := 0, slots := 0, locals := 43 }
set_option maxHeartbeats 4000000 in
set_option maxRecDepth 100000 in
/-- X8_refuseNoFraction -/
theorem kX8_refuseNoFraction (l : Launch) (G : kG) (B0 : Nat) (f : kH) (x1 x2 : Int32) (hv : cFra x1 x2) : Met l yX8_refuseNoFraction wsX8_refuseNoFraction (rmX8_refuseNoFraction) (kP G B0 f [.int x1, .int x2]) (kQv G B0 (fun f1 => f1 = f)) 0 0 (kAb B0) := by
  refine kMet (cc := cX8_refuseNoFraction) (maxL := 2) (ret := none) (by decide) rfl (Nat.le_of_ble_eq_true rfl) ?_
  intro p e s m args below meth c H locs Q ls C hX hl hr hlocks hnm hQ
  have hl : lv_has ls 2 [(0, .int x1), (1, .int x2)] := hl
  refine lv_iload_n C.x C.b dX8_refuseNoFraction_0 rfl (lv_at hl 0 rfl) ?_
  refine lv_i2l (v := x1.toInt64) C.x C.b dX8_refuseNoFraction_1 rfl ?_
  refine lv_ldc2 (v := 1000000000) C.x C.b C.ow (C.ts _ lk_X8_refuseNoFraction_c170) dX8_refuseNoFraction_2 ?_
  refine k_calli (va_runS (As := [.long x1.toInt64, .long 1000000000]) (rest := []) C.1 (kX8_isWithin l G B0 f x1.toInt64 1000000000) (va_cwS 2 C.ts gX8_refuseNoFraction_X8_isWithin rfl rfl rfl (hdX8_refuseNoFraction_X8_isWithin) ⟨Nat.le_of_ble_eq_true rfl, Nat.le_of_ble_eq_true rfl⟩) (k_preS C hX) rfl rfl hl.1 rfl (lv_room (Nat.le_of_ble_eq_true rfl)) dX8_refuseNoFraction_5 ⟨Nat.le_of_ble_eq_true rfl, Nat.le_of_ble_eq_true rfl⟩) hX (fun r5 f5 H locs hp5 hX => ?_)
  obtain ⟨hr5, hf5⟩ := hp5
  rw [hf5] at hX
  refine k_topi (y := (kbI (cIn x1.toInt64 1000000000))) hr5 ?_
  refine lv_if_eq (tgt := 22) C.x C.b dX8_refuseNoFraction_8 (by decide) (fun c_8 => ?_) (fun c_8 => ?_)
  · exact absurd (hv.1) (kbI_0 c_8)
  refine lv_iload_n C.x C.b dX8_refuseNoFraction_11 rfl (lv_at hl 1 rfl) ?_
  refine lv_iconst (v := nI 1) C.x C.b dX8_refuseNoFraction_12 (by decide) ?_
  refine lv_icmp_lt (tgt := 22) C.x C.b dX8_refuseNoFraction_13 (by decide) (fun c_13 => ?_) (fun c_13 => ?_)
  · skip
    exact absurd c_13 hv.2.1
  refine lv_iload_n C.x C.b dX8_refuseNoFraction_16 rfl (lv_at hl 1 rfl) ?_
  refine lv_ldc (v := nI 1000000000) C.x C.b C.ow (C.ts _ lk_X8_refuseNoFraction_c176) dX8_refuseNoFraction_17 ?_
  refine lv_icmp_le (tgt := 32) C.x C.b dX8_refuseNoFraction_19 (by decide) (fun c_19 => ?_) (fun c_19 => ?_)
  rotate_left
  · skip
    exact absurd hv.2.2.1 c_19
  refine lv_iload_n C.x C.b dX8_refuseNoFraction_32 rfl (lv_at hl 0 rfl) ?_
  refine lv_i2l (v := x1.toInt64) C.x C.b dX8_refuseNoFraction_33 rfl ?_
  refine lv_iload_n C.x C.b dX8_refuseNoFraction_34 rfl (lv_at hl 1 rfl) ?_
  refine lv_i2l (v := x2.toInt64) C.x C.b dX8_refuseNoFraction_35 rfl ?_
  refine k_calli (va_runSN (As := [.long x1.toInt64, .long x2.toInt64]) (rest := []) C.1 (kX1_isLowest l G B0 f x1.toInt64 x2.toInt64) ⟨va_cnB 2 C.ts gX8_refuseNoFraction_X1_isLowest_n262 rfl rfl rfl (C.2.1.2.2.1 _ (show ((RX8, 262, yX1_isLowest, "Koebehall") : String × Nat × MethodName × String) ∈ kNestM by decide +kernel)) (C.ts _ lk_X8_refuseNoFraction_in_RX1) hdX8_refuseNoFraction_X1_isLowest ⟨Nat.le_of_ble_eq_true rfl, Nat.le_of_ble_eq_true rfl⟩, C.ts _ lk_X8_refuseNoFraction_st_X1_isLowest, trivial⟩ (k_preS C hX) rfl rfl hl.1 rfl (lv_room (Nat.le_of_ble_eq_true rfl)) dX8_refuseNoFraction_36 ⟨Nat.le_of_ble_eq_true rfl, Nat.le_of_ble_eq_true rfl⟩) hX (fun r36 f36 H locs hp36 hX => ?_)
  obtain ⟨hr36, hf36⟩ := hp36
  rw [hf36] at hX
  refine k_topi (y := (kbI (cEu 1000 (jAbs x1.toInt64) x2.toInt64 = 1))) hr36 ?_
  refine lv_if_ne (tgt := 53) C.x C.b dX8_refuseNoFraction_39 (by decide) (fun c_39 => ?_) (fun c_39 => ?_)
  rotate_left
  · exact absurd (hv.2.2.2) (kbI_0 c_39)
  exact k_vret C hX hr hlocks hQ (by omega) (by omega) (rfl) dX8_refuseNoFraction_53

theorem hdX8_ford_X8_refuseNoFraction : yX8_refuseNoFraction.cls ≠ "java/lang/invoke/MethodHandle" ∧ yX8_refuseNoFraction.cls ≠ "java/lang/invoke/VarHandle" ∧ (parseMethodDescriptor yX8_refuseNoFraction.desc).map (fun d => d.parameters.length) = some 2 := by decide +kernel
theorem hdX8_ford_X1_crossed : yX1_crossed.cls ≠ "java/lang/invoke/MethodHandle" ∧ yX1_crossed.cls ≠ "java/lang/invoke/VarHandle" ∧ (parseMethodDescriptor yX1_crossed.desc).map (fun d => d.parameters.length) = some 4 := by decide +kernel
theorem lk_X8_ford_in_RX1 : Cond.initialized RX1 ∈ wsX8_ford := by decide +kernel
theorem lk_X8_ford_st_X1_crossed : Cond.static yX1_crossed ∈ wsX8_ford := by decide +kernel
theorem lk_X8_ford_c256 : Cond.constantLong RX8 256 (-1) ∈ wsX8_ford := by decide +kernel
abbrev rmX8_ford : Room := { frames := 3, cells := 0, slots := 0, locals := 64 }
set_option maxHeartbeats 4000000 in
set_option maxRecDepth 100000 in
/-- X8_ford -/
theorem kX8_ford (l : Launch) (G : kG) (B0 : Nat) (f : kH) (h : Nat) (x1 x2 x3 x4 : Int32) (ha : cFra x1 x2) (hb : cFra x3 x4) : Met l yX8_ford wsX8_ford (rmX8_ford) (kP G B0 f [.ref h, .int x1, .int x2, .int x3, .int x4]) (kQi G B0 (fun r f1 => r = (if x1.toInt64 * x4.toInt64 - x3.toInt64 * x2.toInt64 = 0 then nI 2 else if x1.toInt64 * x4.toInt64 - x3.toInt64 * x2.toInt64 = 1 ∨ x1.toInt64 * x4.toInt64 - x3.toInt64 * x2.toInt64 = -1 then nI 1 else nI 0) ∧ f1 = f)) 0 0 (kAb B0) := by
  refine kMet (cc := cX8_ford) (maxL := 7) (ret := (some .int)) (by decide) rfl (Nat.le_of_ble_eq_true rfl) ?_
  intro p e s m args below meth c H locs Q ls C hX hl hr hlocks hnm hQ
  have hl : lv_has ls 7 [(0, .ref h), (1, .int x1), (2, .int x2), (3, .int x3), (4, .int x4)] := hl
  refine lv_iload_n C.x C.b dX8_ford_0 rfl (lv_at hl 1 rfl) ?_
  refine lv_iload_n C.x C.b dX8_ford_1 rfl (lv_at hl 2 rfl) ?_
  refine k_callv (va_runS (As := [.int x1, .int x2]) (rest := []) C.1 (kX8_refuseNoFraction l G B0 f x1 x2 ha) (va_cwS 2 C.ts gX8_ford_X8_refuseNoFraction rfl rfl rfl (hdX8_ford_X8_refuseNoFraction) ⟨Nat.le_of_ble_eq_true rfl, Nat.le_of_ble_eq_true rfl⟩) (k_preS C hX) rfl rfl hl.1 rfl (lv_room (Nat.le_of_ble_eq_true rfl)) dX8_ford_2 ⟨Nat.le_of_ble_eq_true rfl, Nat.le_of_ble_eq_true rfl⟩) hX (fun f2 H locs hp2 hX => ?_)
  rw [hp2] at hX
  refine lv_iload_n C.x C.b dX8_ford_5 rfl (lv_at hl 3 rfl) ?_
  refine lv_iload C.x C.b dX8_ford_6 (lv_at hl 4 rfl) ?_
  refine k_callv (va_runS (As := [.int x3, .int x4]) (rest := []) C.1 (kX8_refuseNoFraction l G B0 f x3 x4 hb) (va_cwS 2 C.ts gX8_ford_X8_refuseNoFraction rfl rfl rfl (hdX8_ford_X8_refuseNoFraction) ⟨Nat.le_of_ble_eq_true rfl, Nat.le_of_ble_eq_true rfl⟩) (k_preS C hX) rfl rfl hl.1 rfl (lv_room (Nat.le_of_ble_eq_true rfl)) dX8_ford_8 ⟨Nat.le_of_ble_eq_true rfl, Nat.le_of_ble_eq_true rfl⟩) hX (fun f8 H locs hp8 hX => ?_)
  rw [hp8] at hX
  refine lv_iload_n C.x C.b dX8_ford_11 rfl (lv_at hl 1 rfl) ?_
  refine lv_i2l (v := x1.toInt64) C.x C.b dX8_ford_12 rfl ?_
  refine lv_iload_n C.x C.b dX8_ford_13 rfl (lv_at hl 2 rfl) ?_
  refine lv_i2l (v := x2.toInt64) C.x C.b dX8_ford_14 rfl ?_
  refine lv_iload_n C.x C.b dX8_ford_15 rfl (lv_at hl 3 rfl) ?_
  refine lv_i2l (v := x3.toInt64) C.x C.b dX8_ford_16 rfl ?_
  refine lv_iload C.x C.b dX8_ford_17 (lv_at hl 4 rfl) ?_
  refine lv_i2l (v := x4.toInt64) C.x C.b dX8_ford_19 rfl ?_
  refine k_calll (va_runSN (As := [.long x1.toInt64, .long x2.toInt64, .long x3.toInt64, .long x4.toInt64]) (rest := []) C.1 (kX1_crossed l G B0 f x1.toInt64 x2.toInt64 x3.toInt64 x4.toInt64) ⟨va_cnB 4 C.ts gX8_ford_X1_crossed_n250 rfl rfl rfl (C.2.1.2.2.1 _ (show ((RX8, 250, yX1_crossed, "Koebehall") : String × Nat × MethodName × String) ∈ kNestM by decide +kernel)) (C.ts _ lk_X8_ford_in_RX1) hdX8_ford_X1_crossed ⟨Nat.le_of_ble_eq_true rfl, Nat.le_of_ble_eq_true rfl⟩, C.ts _ lk_X8_ford_st_X1_crossed, trivial⟩ (k_preS C hX) rfl rfl hl.1 rfl (lv_room (Nat.le_of_ble_eq_true rfl)) dX8_ford_20 ⟨Nat.le_of_ble_eq_true rfl, Nat.le_of_ble_eq_true rfl⟩) hX (fun r20 f20 H locs hp20 hX => ?_)
  obtain ⟨hr20, hf20⟩ := hp20
  rw [hf20] at hX
  refine k_topl (y := (x1.toInt64 * x4.toInt64 - x3.toInt64 * x2.toInt64)) hr20 ?_
  refine lv_lstore (lv' := [(5, .long (x1.toInt64 * x4.toInt64 - x3.toInt64 * x2.toInt64)), (0, .ref h), (1, .int x1), (2, .int x2), (3, .int x3), (4, .int x4)]) C.x C.b dX8_ford_23 hl (by decide) rfl (fun ls hl => ?_)
  refine lv_lload C.x C.b dX8_ford_25 (lv_at hl 0 rfl) ?_
  refine lv_lconst (v := 0) C.x C.b dX8_ford_27 (by decide) ?_
  refine k_lcmp_ne (tgt := 34) C.x C.b dX8_ford_28 dX8_ford_29 (by decide) (fun c_29 => ?_) (fun c_29 => ?_)
  · skip
    refine lv_lload C.x C.b dX8_ford_34 (lv_at hl 0 rfl) ?_
    refine lv_lconst (v := 1) C.x C.b dX8_ford_36 (by decide) ?_
    refine k_lcmp_eq (tgt := 50) C.x C.b dX8_ford_37 dX8_ford_38 (by decide) (fun c_38 => ?_) (fun c_38 => ?_)
    · skip
      refine lv_iconst (v := nI 1) C.x C.b dX8_ford_50 (by decide) ?_
      refine lv_goto (tgt := 55) C.x C.b dX8_ford_51 (by decide) ?_
      exact k_iret C hX hr hlocks hQ (by omega) (by omega) (by refine ⟨?_, rfl⟩; first | (rw [if_pos c_29]; done) | (rw [if_neg c_29, if_pos (Or.inl c_38)]; done) | (rw [if_neg c_29, if_pos (Or.inr c_47)]; done) | (rw [if_neg c_29, if_neg (fun h9 => h9.elim c_38 c_47)]; done)) dX8_ford_55
    · skip
      refine lv_lload C.x C.b dX8_ford_41 (lv_at hl 0 rfl) ?_
      refine lv_ldc2 (v := -1) C.x C.b C.ow (C.ts _ lk_X8_ford_c256) dX8_ford_43 ?_
      refine k_lcmp_ne (tgt := 54) C.x C.b dX8_ford_46 dX8_ford_47 (by decide) (fun c_47 => ?_) (fun c_47 => ?_)
      · skip
        refine lv_iconst (v := nI 0) C.x C.b dX8_ford_54 (by decide) ?_
        exact k_iret C hX hr hlocks hQ (by omega) (by omega) (by refine ⟨?_, rfl⟩; first | (rw [if_pos c_29]; done) | (rw [if_neg c_29, if_pos (Or.inl c_38)]; done) | (rw [if_neg c_29, if_pos (Or.inr c_47)]; done) | (rw [if_neg c_29, if_neg (fun h9 => h9.elim c_38 c_47)]; done)) dX8_ford_55
      · skip
        refine lv_iconst (v := nI 1) C.x C.b dX8_ford_50 (by decide) ?_
        refine lv_goto (tgt := 55) C.x C.b dX8_ford_51 (by decide) ?_
        exact k_iret C hX hr hlocks hQ (by omega) (by omega) (by refine ⟨?_, rfl⟩; first | (rw [if_pos c_29]; done) | (rw [if_neg c_29, if_pos (Or.inl c_38)]; done) | (rw [if_neg c_29, if_pos (Or.inr c_47)]; done) | (rw [if_neg c_29, if_neg (fun h9 => h9.elim c_38 c_47)]; done)) dX8_ford_55
  · skip
    refine lv_iconst (v := nI 2) C.x C.b dX8_ford_32 (by decide) ?_
    exact k_iret C hX hr hlocks hQ (by omega) (by omega) (by refine ⟨?_, rfl⟩; first | (rw [if_pos c_29]; done) | (rw [if_neg c_29, if_pos (Or.inl c_38)]; done) | (rw [if_neg c_29, if_pos (Or.inr c_47)]; done) | (rw [if_neg c_29, if_neg (fun h9 => h9.elim c_38 c_47)]; done)) dX8_ford_33

theorem hdX8_between_X8_refuseNoFraction : yX8_refuseNoFraction.cls ≠ "java/lang/invoke/MethodHandle" ∧ yX8_refuseNoFraction.cls ≠ "java/lang/invoke/VarHandle" ∧ (parseMethodDescriptor yX8_refuseNoFraction.desc).map (fun d => d.parameters.length) = some 2 := by decide +kernel
theorem hdX8_between_X1_crossed : yX1_crossed.cls ≠ "java/lang/invoke/MethodHandle" ∧ yX1_crossed.cls ≠ "java/lang/invoke/VarHandle" ∧ (parseMethodDescriptor yX1_crossed.desc).map (fun d => d.parameters.length) = some 4 := by decide +kernel
theorem lk_X8_between_in_RX1 : Cond.initialized RX1 ∈ wsX8_between := by decide +kernel
theorem lk_X8_between_st_X1_crossed : Cond.static yX1_crossed ∈ wsX8_between := by decide +kernel
theorem hdX8_between_X1_simplest : yX1_simplest.cls ≠ "java/lang/invoke/MethodHandle" ∧ yX1_simplest.cls ≠ "java/lang/invoke/VarHandle" ∧ (parseMethodDescriptor yX1_simplest.desc).map (fun d => d.parameters.length) = some 5 := by decide +kernel
theorem lk_X8_between_st_X1_simplest : Cond.static yX1_simplest ∈ wsX8_between := by decide +kernel
abbrev rmX8_between : Room := { frames := 3, cells := 0, slots := 0, locals := 83 }
set_option maxHeartbeats 4000000 in
set_option maxRecDepth 100000 in
/-- X8_between -/
theorem kX8_between (l : Launch) (G : kG) (B0 : Nat) (f : kH) (h : Nat) (x1 x2 x3 x4 : Int32) (ha : cFra x1 x2) (hb : cFra x3 x4) (z9 : Int32) (hne : ¬ x1.toInt64 * x4.toInt64 - x3.toInt64 * x2.toInt64 = 0) : Met l yX8_between wsX8_between (rmX8_between) (kP G B0 f [.ref h, .int x1, .int x2, .int x3, .int x4, .int z9]) (kQl G B0 (fun r f1 => r = (if x1.toInt64 * x4.toInt64 - x3.toInt64 * x2.toInt64 < 0 then cSide z9 x1 x2 x3 x4 else cSide z9 x3 x4 x1 x2) ∧ f1 = f)) 0 0 (kAb B0) := by
  refine kMet (cc := cX8_between) (maxL := 8) (ret := (some .long)) (by decide) rfl (Nat.le_of_ble_eq_true rfl) ?_
  intro p e s m args below meth c H locs Q ls C hX hl hr hlocks hnm hQ
  have hl : lv_has ls 8 [(0, .ref h), (1, .int x1), (2, .int x2), (3, .int x3), (4, .int x4), (5, .int z9)] := hl
  refine lv_iload_n C.x C.b dX8_between_0 rfl (lv_at hl 1 rfl) ?_
  refine lv_iload_n C.x C.b dX8_between_1 rfl (lv_at hl 2 rfl) ?_
  refine k_callv (va_runS (As := [.int x1, .int x2]) (rest := []) C.1 (kX8_refuseNoFraction l G B0 f x1 x2 ha) (va_cwS 2 C.ts gX8_between_X8_refuseNoFraction rfl rfl rfl (hdX8_between_X8_refuseNoFraction) ⟨Nat.le_of_ble_eq_true rfl, Nat.le_of_ble_eq_true rfl⟩) (k_preS C hX) rfl rfl hl.1 rfl (lv_room (Nat.le_of_ble_eq_true rfl)) dX8_between_2 ⟨Nat.le_of_ble_eq_true rfl, Nat.le_of_ble_eq_true rfl⟩) hX (fun f2 H locs hp2 hX => ?_)
  rw [hp2] at hX
  refine lv_iload_n C.x C.b dX8_between_5 rfl (lv_at hl 3 rfl) ?_
  refine lv_iload C.x C.b dX8_between_6 (lv_at hl 4 rfl) ?_
  refine k_callv (va_runS (As := [.int x3, .int x4]) (rest := []) C.1 (kX8_refuseNoFraction l G B0 f x3 x4 hb) (va_cwS 2 C.ts gX8_between_X8_refuseNoFraction rfl rfl rfl (hdX8_between_X8_refuseNoFraction) ⟨Nat.le_of_ble_eq_true rfl, Nat.le_of_ble_eq_true rfl⟩) (k_preS C hX) rfl rfl hl.1 rfl (lv_room (Nat.le_of_ble_eq_true rfl)) dX8_between_8 ⟨Nat.le_of_ble_eq_true rfl, Nat.le_of_ble_eq_true rfl⟩) hX (fun f8 H locs hp8 hX => ?_)
  rw [hp8] at hX
  refine lv_iload_n C.x C.b dX8_between_11 rfl (lv_at hl 1 rfl) ?_
  refine lv_i2l (v := x1.toInt64) C.x C.b dX8_between_12 rfl ?_
  refine lv_iload_n C.x C.b dX8_between_13 rfl (lv_at hl 2 rfl) ?_
  refine lv_i2l (v := x2.toInt64) C.x C.b dX8_between_14 rfl ?_
  refine lv_iload_n C.x C.b dX8_between_15 rfl (lv_at hl 3 rfl) ?_
  refine lv_i2l (v := x3.toInt64) C.x C.b dX8_between_16 rfl ?_
  refine lv_iload C.x C.b dX8_between_17 (lv_at hl 4 rfl) ?_
  refine lv_i2l (v := x4.toInt64) C.x C.b dX8_between_19 rfl ?_
  refine k_calll (va_runSN (As := [.long x1.toInt64, .long x2.toInt64, .long x3.toInt64, .long x4.toInt64]) (rest := []) C.1 (kX1_crossed l G B0 f x1.toInt64 x2.toInt64 x3.toInt64 x4.toInt64) ⟨va_cnB 4 C.ts gX8_between_X1_crossed_n250 rfl rfl rfl (C.2.1.2.2.1 _ (show ((RX8, 250, yX1_crossed, "Koebehall") : String × Nat × MethodName × String) ∈ kNestM by decide +kernel)) (C.ts _ lk_X8_between_in_RX1) hdX8_between_X1_crossed ⟨Nat.le_of_ble_eq_true rfl, Nat.le_of_ble_eq_true rfl⟩, C.ts _ lk_X8_between_st_X1_crossed, trivial⟩ (k_preS C hX) rfl rfl hl.1 rfl (lv_room (Nat.le_of_ble_eq_true rfl)) dX8_between_20 ⟨Nat.le_of_ble_eq_true rfl, Nat.le_of_ble_eq_true rfl⟩) hX (fun r20 f20 H locs hp20 hX => ?_)
  obtain ⟨hr20, hf20⟩ := hp20
  rw [hf20] at hX
  refine k_topl (y := (x1.toInt64 * x4.toInt64 - x3.toInt64 * x2.toInt64)) hr20 ?_
  refine lv_lstore (lv' := [(6, .long (x1.toInt64 * x4.toInt64 - x3.toInt64 * x2.toInt64)), (0, .ref h), (1, .int x1), (2, .int x2), (3, .int x3), (4, .int x4), (5, .int z9)]) C.x C.b dX8_between_23 hl (by decide) rfl (fun ls hl => ?_)
  refine lv_lload C.x C.b dX8_between_25 (lv_at hl 0 rfl) ?_
  refine lv_lconst (v := 0) C.x C.b dX8_between_27 (by decide) ?_
  refine k_lcmp_ne (tgt := 42) C.x C.b dX8_between_28 dX8_between_29 (by decide) (fun c_29 => ?_) (fun c_29 => ?_)
  · skip
    refine lv_lload C.x C.b dX8_between_42 (lv_at hl 0 rfl) ?_
    refine lv_lconst (v := 0) C.x C.b dX8_between_44 (by decide) ?_
    refine k_lcmp_ge (tgt := 66) C.x C.b dX8_between_45 dX8_between_46 (by decide) (fun c_46 => ?_) (fun c_46 => ?_)
    · skip
      refine lv_iload_n C.x C.b dX8_between_66 rfl (lv_at hl 4 rfl) ?_
      refine lv_i2l (v := x3.toInt64) C.x C.b dX8_between_67 rfl ?_
      refine lv_iload C.x C.b dX8_between_68 (lv_at hl 5 rfl) ?_
      refine lv_i2l (v := x4.toInt64) C.x C.b dX8_between_70 rfl ?_
      refine lv_iload_n C.x C.b dX8_between_71 rfl (lv_at hl 2 rfl) ?_
      refine lv_i2l (v := x1.toInt64) C.x C.b dX8_between_72 rfl ?_
      refine lv_iload_n C.x C.b dX8_between_73 rfl (lv_at hl 3 rfl) ?_
      refine lv_i2l (v := x2.toInt64) C.x C.b dX8_between_74 rfl ?_
      refine lv_iload C.x C.b dX8_between_75 (lv_at hl 6 rfl) ?_
      refine k_calll (va_runSN (As := [.long x3.toInt64, .long x4.toInt64, .long x1.toInt64, .long x2.toInt64, .int z9]) (rest := []) C.1 (kX1_simplest l G B0 f x3.toInt64 x4.toInt64 x1.toInt64 x2.toInt64 z9) ⟨va_cnB 5 C.ts gX8_between_X1_simplest_n258 rfl rfl rfl (C.2.1.2.2.1 _ (show ((RX8, 258, yX1_simplest, "Koebehall") : String × Nat × MethodName × String) ∈ kNestM by decide +kernel)) (C.ts _ lk_X8_between_in_RX1) hdX8_between_X1_simplest ⟨Nat.le_of_ble_eq_true rfl, Nat.le_of_ble_eq_true rfl⟩, C.ts _ lk_X8_between_st_X1_simplest, trivial⟩ (k_preS C hX) rfl rfl hl.1 rfl (lv_room (Nat.le_of_ble_eq_true rfl)) dX8_between_77 ⟨Nat.le_of_ble_eq_true rfl, Nat.le_of_ble_eq_true rfl⟩) hX (fun r77 f77 H locs hp77 hX => ?_)
      obtain ⟨hr77, hf77⟩ := hp77
      rw [hf77] at hX
      refine k_topl (y := (cSide z9 x3 x4 x1 x2)) hr77 ?_
      exact k_lret C hX hr hlocks hQ (by omega) (by omega) (by refine ⟨?_, rfl⟩; first | (rw [if_pos c_46]; done) | (rw [if_neg c_46]; done)) dX8_between_80
    · skip
      refine lv_iload_n C.x C.b dX8_between_49 rfl (lv_at hl 2 rfl) ?_
      refine lv_i2l (v := x1.toInt64) C.x C.b dX8_between_50 rfl ?_
      refine lv_iload_n C.x C.b dX8_between_51 rfl (lv_at hl 3 rfl) ?_
      refine lv_i2l (v := x2.toInt64) C.x C.b dX8_between_52 rfl ?_
      refine lv_iload_n C.x C.b dX8_between_53 rfl (lv_at hl 4 rfl) ?_
      refine lv_i2l (v := x3.toInt64) C.x C.b dX8_between_54 rfl ?_
      refine lv_iload C.x C.b dX8_between_55 (lv_at hl 5 rfl) ?_
      refine lv_i2l (v := x4.toInt64) C.x C.b dX8_between_57 rfl ?_
      refine lv_iload C.x C.b dX8_between_58 (lv_at hl 6 rfl) ?_
      refine k_calll (va_runSN (As := [.long x1.toInt64, .long x2.toInt64, .long x3.toInt64, .long x4.toInt64, .int z9]) (rest := []) C.1 (kX1_simplest l G B0 f x1.toInt64 x2.toInt64 x3.toInt64 x4.toInt64 z9) ⟨va_cnB 5 C.ts gX8_between_X1_simplest_n258 rfl rfl rfl (C.2.1.2.2.1 _ (show ((RX8, 258, yX1_simplest, "Koebehall") : String × Nat × MethodName × String) ∈ kNestM by decide +kernel)) (C.ts _ lk_X8_between_in_RX1) hdX8_between_X1_simplest ⟨Nat.le_of_ble_eq_true rfl, Nat.le_of_ble_eq_true rfl⟩, C.ts _ lk_X8_between_st_X1_simplest, trivial⟩ (k_preS C hX) rfl rfl hl.1 rfl (lv_room (Nat.le_of_ble_eq_true rfl)) dX8_between_60 ⟨Nat.le_of_ble_eq_true rfl, Nat.le_of_ble_eq_true rfl⟩) hX (fun r60 f60 H locs hp60 hX => ?_)
      obtain ⟨hr60, hf60⟩ := hp60
      rw [hf60] at hX
      refine k_topl (y := (cSide z9 x1 x2 x3 x4)) hr60 ?_
      refine lv_goto (tgt := 80) C.x C.b dX8_between_63 (by decide) ?_
      exact k_lret C hX hr hlocks hQ (by omega) (by omega) (by refine ⟨?_, rfl⟩; first | (rw [if_pos c_46]; done) | (rw [if_neg c_46]; done)) dX8_between_80
  · skip
    exact absurd c_29 hne
