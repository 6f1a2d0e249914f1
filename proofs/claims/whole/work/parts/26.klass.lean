
theorem lk_X8_split_f10 : Cond.fieldLink RX8 10 "Koebehall" "sphere" "LKoebehall$Net;" ∈ wsX8_split := by decide +kernel
theorem hin_X8_split_RX8 : ∀ w ∈ u_ws RX8 TX8 7, w ∈ wsX8_split := by decide +kernel
theorem hdX8_split_X3_hasFace : yX3_hasFace.cls ≠ "java/lang/invoke/MethodHandle" ∧ yX3_hasFace.cls ≠ "java/lang/invoke/VarHandle" ∧ (parseMethodDescriptor yX3_hasFace.desc).map (fun d => d.parameters.length) = some 1 := by decide +kernel
theorem lk_X8_split_in_RX3 : Cond.initialized RX3 ∈ wsX8_split := by decide +kernel
theorem lk_X8_split_im_X3_hasFace : Cond.instanceMethod yX3_hasFace ∈ wsX8_split := by decide +kernel
theorem lk_X8_split_se_X3_hasFace : Cond.selects RX3 yX3_hasFace yX3_hasFace ∈ wsX8_split := by decide +kernel
theorem hdX8_split_X3_isFull : yX3_isFull.cls ≠ "java/lang/invoke/MethodHandle" ∧ yX3_isFull.cls ≠ "java/lang/invoke/VarHandle" ∧ (parseMethodDescriptor yX3_isFull.desc).map (fun d => d.parameters.length) = some 0 := by decide +kernel
theorem lk_X8_split_im_X3_isFull : Cond.instanceMethod yX3_isFull ∈ wsX8_split := by decide +kernel
theorem lk_X8_split_se_X3_isFull : Cond.selects RX3 yX3_isFull yX3_isFull ∈ wsX8_split := by decide +kernel
theorem hdX8_split_X3_splitFace : yX3_splitFace.cls ≠ "java/lang/invoke/MethodHandle" ∧ yX3_splitFace.cls ≠ "java/lang/invoke/VarHandle" ∧ (parseMethodDescriptor yX3_splitFace.desc).map (fun d => d.parameters.length) = some 1 := by decide +kernel
theorem lk_X8_split_im_X3_splitFace : Cond.instanceMethod yX3_splitFace ∈ wsX8_split := by decide +kernel
theorem lk_X8_split_se_X3_splitFace : Cond.selects RX3 yX3_splitFace yX3_splitFace ∈ wsX8_split := by decide +kernel
abbrev rmX8_split : Room := { frames := 4, cells := 0, slots := 0, locals := 96 }
set_option maxHeartbeats 4000000 in
set_option maxRecDepth 100000 in
/-- X8_split -/
theorem kX8_split (l : Launch) (G : kG) (B0 : Nat) (f : kH) (h sp nA tA : Nat) (vd vg vw vm vp vn : Value) (aN aT : Nat → Int32) (cc fc : Nat) (t x y z : Nat) (hM : kCs f [(h, .inr (8, [.ref sp, vd, vg, vw, vm, vp, vn])), (sp, .inr (3, [.ref nA, .ref tA, .int (nI cc), .int (nI fc)])), (nA, kaI G 84 aN), (tA, kaI G 256 aT)]) (hc9 : cc ≤ 16) (hF9 : fc ≤ 28) (ht : t < fc) (hf2 : fc ≤ 26) (hc2 : cc < 16) (hx : aN (3 * t + 0) = nI x) (hy : aN (3 * t + 1) = nI y) (hz : aN (3 * t + 2) = nI z) (hx9 : x < 16) (hy9 : y < 16) (hz9 : z < 16) : Met l yX8_split wsX8_split (rmX8_split) (kP G B0 f [.ref h, .int (nI t)]) (kQi G B0 (fun r f1 => r = nI cc ∧ kCs f1 [(h, .inr (8, [.ref sp, vd, vg, vw, vm, vp, vn])), (sp, .inr (3, [.ref nA, .ref tA, .int (nI (cc + 1)), .int (nI (fc + 2))])), (nA, kaI G 84 (nPutN (nPutN (nPutN aN t x y cc) fc y z cc) (fc + 1) z x cc)), (tA, kaI G 256 (nPutT (nPutT (nPutT aT x y cc) y z cc) z x cc))] ∧ kKp [sp, nA, tA] f f1)) 0 0 (kAb B0) := by
  refine kMet (cc := cX8_split) (maxL := 2) (ret := (some .int)) (by decide) rfl (Nat.le_of_ble_eq_true rfl) ?_
  intro p e s m args below meth c H locs Q ls C hX hl hr hlocks hnm hQ
  have hO : kKp [sp, nA, tA] f f := kKp.rf
  have hS : ∀ a ∈ [sp, nA, tA], (f a).isSome := by
    intro a h9
    simp only [List.mem_cons, List.not_mem_nil, or_false] at h9
    rcases h9 with rfl | rfl | rfl
    · rw [hM.at 1 rfl]; rfl
    · rw [hM.at 2 rfl]; rfl
    · rw [hM.at 3 rfl]; rfl
  have hl : lv_has ls 2 [(0, .ref h), (1, .int (nI t))] := hl
  refine lv_aload_n C.x C.b dX8_split_0 rfl (lv_at hl 0 rfl) ?_
  refine k_get (X := RX8) (T := TX8) (N := 7) (v := .ref sp) C hX (hM.at 0 rfl) rfl hin_X8_split_RX8 0 (by decide) lk_X8_split_f10 (fun _ h9 => h9) rfl dX8_split_1 ?_
  refine lv_iload_n C.x C.b dX8_split_4 rfl (lv_at hl 1 rfl) ?_
  have hM9 : kCs f (nW G sp nA tA aN aT cc fc) := hM.pick [1, 2, 3] (by decide) ⟨rfl, rfl, rfl, trivial⟩
  refine k_calli (va_runVN (As := [.int (nI t)]) (rest := []) C.1 (kX3_hasFace l G B0 f sp nA tA aN aT cc fc (nI t) hM9 hc9 hF9) ⟨va_cnB 1 C.ts gX8_split_X3_hasFace_n52 rfl rfl rfl (C.2.1.2.2.1 _ (show ((RX8, 52, yX3_hasFace, "Koebehall") : String × Nat × MethodName × String) ∈ kNestM by decide +kernel)) (C.ts _ lk_X8_split_in_RX3) hdX8_split_X3_hasFace ⟨Nat.le_of_ble_eq_true rfl, Nat.le_of_ble_eq_true rfl⟩, C.ts _ lk_X8_split_im_X3_hasFace, C.ts _ lk_X8_split_se_X3_hasFace⟩ (k_preV C hX (hM.at 1 rfl) rfl) rfl rfl hl.1 rfl (lv_room (Nat.le_of_ble_eq_true rfl)) dX8_split_5 ⟨Nat.le_of_ble_eq_true rfl, Nat.le_of_ble_eq_true rfl⟩) hX (fun r5 f5 H locs hp5 hX => ?_)
  obtain ⟨hr5, hf5⟩ := hp5
  rw [hf5] at hX
  refine k_topi (y := (kbI (mIn (nI t) fc))) hr5 ?_
  refine lv_if_ne (tgt := 21) C.x C.b dX8_split_8 (by decide) (fun c_8 => ?_) (fun c_8 => ?_)
  rotate_left
  · exact absurd ((mIn_nI (by omega)).mpr ht) (kbI_0 c_8)
  refine lv_aload_n C.x C.b dX8_split_21 rfl (lv_at hl 0 rfl) ?_
  refine k_get (X := RX8) (T := TX8) (N := 7) (v := .ref sp) C hX (hM.at 0 rfl) rfl hin_X8_split_RX8 0 (by decide) lk_X8_split_f10 (fun _ h9 => h9) rfl dX8_split_22 ?_
  have hM9 : kCs f (nW G sp nA tA aN aT cc fc) := hM.pick [1, 2, 3] (by decide) ⟨rfl, rfl, rfl, trivial⟩
  refine k_calli (va_runVN (As := []) (rest := []) C.1 (kX3_isFull l G B0 f sp nA tA aN aT cc fc  hM9 hc9 hF9) ⟨va_cnB 0 C.ts gX8_split_X3_isFull_n63 rfl rfl rfl (C.2.1.2.2.1 _ (show ((RX8, 63, yX3_isFull, "Koebehall") : String × Nat × MethodName × String) ∈ kNestM by decide +kernel)) (C.ts _ lk_X8_split_in_RX3) hdX8_split_X3_isFull ⟨Nat.le_of_ble_eq_true rfl, Nat.le_of_ble_eq_true rfl⟩, C.ts _ lk_X8_split_im_X3_isFull, C.ts _ lk_X8_split_se_X3_isFull⟩ (k_preV C hX (hM.at 1 rfl) rfl) rfl rfl hl.1 rfl (lv_room (Nat.le_of_ble_eq_true rfl)) dX8_split_25 ⟨Nat.le_of_ble_eq_true rfl, Nat.le_of_ble_eq_true rfl⟩) hX (fun r25 f25 H locs hp25 hX => ?_)
  obtain ⟨hr25, hf25⟩ := hp25
  rw [hf25] at hX
  refine k_topi (y := (kbI (16 ≤ cc))) hr25 ?_
  refine lv_if_eq (tgt := 41) C.x C.b dX8_split_28 (by decide) (fun c_28 => ?_) (fun c_28 => ?_)
  rotate_left
  · exact absurd (kbI_1 c_28) ((show ¬ 16 ≤ cc by omega))
  refine lv_aload_n C.x C.b dX8_split_41 rfl (lv_at hl 0 rfl) ?_
  refine k_get (X := RX8) (T := TX8) (N := 7) (v := .ref sp) C hX (hM.at 0 rfl) rfl hin_X8_split_RX8 0 (by decide) lk_X8_split_f10 (fun _ h9 => h9) rfl dX8_split_42 ?_
  refine lv_iload_n C.x C.b dX8_split_45 rfl (lv_at hl 1 rfl) ?_
  have hM9 : kCs f (nW G sp nA tA aN aT cc fc) := hM.pick [1, 2, 3] (by decide) ⟨rfl, rfl, rfl, trivial⟩
  refine k_calli (va_runVN (As := [.int (nI t)]) (rest := []) C.1 (kX3_splitFace l G B0 f sp nA tA aN aT cc fc t x y z hM9 hc9 hF9 ht hf2 hc2 hx hy hz hx9 hy9 hz9) ⟨va_cnB 1 C.ts gX8_split_X3_splitFace_n72 rfl rfl rfl (C.2.1.2.2.1 _ (show ((RX8, 72, yX3_splitFace, "Koebehall") : String × Nat × MethodName × String) ∈ kNestM by decide +kernel)) (C.ts _ lk_X8_split_in_RX3) hdX8_split_X3_splitFace ⟨Nat.le_of_ble_eq_true rfl, Nat.le_of_ble_eq_true rfl⟩, C.ts _ lk_X8_split_im_X3_splitFace, C.ts _ lk_X8_split_se_X3_splitFace⟩ (k_preV C hX (hM.at 1 rfl) rfl) rfl rfl hl.1 rfl (lv_room (Nat.le_of_ble_eq_true rfl)) dX8_split_46 ⟨Nat.le_of_ble_eq_true rfl, Nat.le_of_ble_eq_true rfl⟩) hX (fun r46 f46 H locs hp46 hX => ?_)
  obtain ⟨hr46, hM9, hO9⟩ := hp46
  have hM : kCs f46 ([(h, .inr (8, [.ref sp, vd, vg, vw, vm, vp, vn])), (sp, .inr (3, [.ref nA, .ref tA, .int (nI (cc + 1)), .int (nI (fc + 2))])), (nA, kaI G 84 (nPutN (nPutN (nPutN aN t x y cc) fc y z cc) (fc + 1) z x cc)), (tA, kaI G 256 (nPutT (nPutT (nPutT aT x y cc) y z cc) z x cc))]) := hM.sub hM9 (kKp.of hO9) [1, 2, 3] (by simp [nW]) ⟨rfl, rfl, rfl, trivial⟩
  have hO := hO.then (kKp.of hO9) (by
      intro a h9
      simp only [List.mem_cons, List.not_mem_nil, or_false] at h9
      rcases h9 with rfl | rfl | rfl
      · exact Or.inl (by simp)
      · exact Or.inl (by simp)
      · exact Or.inl (by simp))
  have hS : ∀ a ∈ [sp, nA, tA], (f46 a).isSome := by
    intro a h9
    simp only [List.mem_cons, List.not_mem_nil, or_false] at h9
    rcases h9 with rfl | rfl | rfl
    · rw [hM.at 1 rfl]; rfl
    · rw [hM.at 2 rfl]; rfl
    · rw [hM.at 3 rfl]; rfl
  refine k_topi (y := (nI cc)) hr46 ?_
  exact k_iret C hX hr hlocks hQ (by omega) (by omega) (⟨rfl, hM, hO⟩) dX8_split_49

theorem lk_X8_flip_f10 : Cond.fieldLink RX8 10 "Koebehall" "sphere" "LKoebehall$Net;" ∈ wsX8_flip := by decide +kernel
theorem hin_X8_flip_RX8 : ∀ w ∈ u_ws RX8 TX8 7, w ∈ wsX8_flip := by decide +kernel
theorem hdX8_flip_X3_hasCorner : yX3_hasCorner.cls ≠ "java/lang/invoke/MethodHandle" ∧ yX3_hasCorner.cls ≠ "java/lang/invoke/VarHandle" ∧ (parseMethodDescriptor yX3_hasCorner.desc).map (fun d => d.parameters.length) = some 1 := by decide +kernel
theorem lk_X8_flip_in_RX3 : Cond.initialized RX3 ∈ wsX8_flip := by decide +kernel
theorem lk_X8_flip_im_X3_hasCorner : Cond.instanceMethod yX3_hasCorner ∈ wsX8_flip := by decide +kernel
theorem lk_X8_flip_se_X3_hasCorner : Cond.selects RX3 yX3_hasCorner yX3_hasCorner ∈ wsX8_flip := by decide +kernel
theorem hdX8_flip_X3_canFlip : yX3_canFlip.cls ≠ "java/lang/invoke/MethodHandle" ∧ yX3_canFlip.cls ≠ "java/lang/invoke/VarHandle" ∧ (parseMethodDescriptor yX3_canFlip.desc).map (fun d => d.parameters.length) = some 2 := by decide +kernel
theorem lk_X8_flip_im_X3_canFlip : Cond.instanceMethod yX3_canFlip ∈ wsX8_flip := by decide +kernel
theorem lk_X8_flip_se_X3_canFlip : Cond.selects RX3 yX3_canFlip yX3_canFlip ∈ wsX8_flip := by decide +kernel
theorem hdX8_flip_X3_flipEdge : yX3_flipEdge.cls ≠ "java/lang/invoke/MethodHandle" ∧ yX3_flipEdge.cls ≠ "java/lang/invoke/VarHandle" ∧ (parseMethodDescriptor yX3_flipEdge.desc).map (fun d => d.parameters.length) = some 2 := by decide +kernel
theorem lk_X8_flip_im_X3_flipEdge : Cond.instanceMethod yX3_flipEdge ∈ wsX8_flip := by decide +kernel
theorem lk_X8_flip_se_X3_flipEdge : Cond.selects RX3 yX3_flipEdge yX3_flipEdge ∈ wsX8_flip := by decide +kernel
abbrev rmX8_flip : Room := { frames := 4, cells := 0, slots := 0, locals := 97 }
set_option maxHeartbeats 4000000 in
set_option maxRecDepth 100000 in
/-- X8_flip -/
theorem kX8_flip (l : Launch) (G : kG) (B0 : Nat) (f : kH) (h sp nA tA : Nat) (vd vg vw vm vp vn : Value) (aN aT : Nat → Int32) (cc fc : Nat) (x y u v t1 t2 : Nat) (hM : kCs f [(h, .inr (8, [.ref sp, vd, vg, vw, vm, vp, vn])), (sp, .inr (3, [.ref nA, .ref tA, .int (nI cc), .int (nI fc)])), (nA, kaI G 84 aN), (tA, kaI G 256 aT)]) (hc9 : cc ≤ 16) (hF9 : fc ≤ 28) (hxc : x < cc) (hyc : y < cc) (hcf : nCanFlip aT cc (nI x) (nI y)) (hx9 : x < 16) (hy9 : y < 16) (hu9 : u < 16) (hv9 : v < 16) (ht1 : t1 < fc) (ht2 : t2 < fc) (h1 : nThird aT cc (nI x) (nI y) = nI u) (h2 : nThird aT cc (nI y) (nI x) = nI v) (e1 : nFace aN (nI x) (nI y) (3 * fc) 0 = nI t1) (e2 : nFace aN (nI y) (nI x) (3 * fc) 0 = nI t2) : Met l yX8_flip wsX8_flip (rmX8_flip) (kP G B0 f [.ref h, .int (nI x), .int (nI y)]) (kQi G B0 (fun r f1 => r = nI (100 * (if u < v then u else v) + (if u < v then v else u)) ∧ kCs f1 [(h, .inr (8, [.ref sp, vd, vg, vw, vm, vp, vn])), (sp, .inr (3, [.ref nA, .ref tA, .int (nI cc), .int (nI fc)])), (nA, kaI G 84 (nPutN (nPutN aN t1 x v u) t2 v y u)), (tA, kaI G 256 (nPutT (nPutT (upd (upd aT (16 * x + y) (-1)) (16 * y + x) (-1)) x v u) v y u))] ∧ kKp [sp, nA, tA] f f1)) 0 0 (kAb B0) := by
  refine kMet (cc := cX8_flip) (maxL := 3) (ret := (some .int)) (by decide) rfl (Nat.le_of_ble_eq_true rfl) ?_
  intro p e s m args below meth c H locs Q ls C hX hl hr hlocks hnm hQ
  have hO : kKp [sp, nA, tA] f f := kKp.rf
  have hS : ∀ a ∈ [sp, nA, tA], (f a).isSome := by
    intro a h9
    simp only [List.mem_cons, List.not_mem_nil, or_false] at h9
    rcases h9 with rfl | rfl | rfl
    · rw [hM.at 1 rfl]; rfl
    · rw [hM.at 2 rfl]; rfl
    · rw [hM.at 3 rfl]; rfl
  have hl : lv_has ls 3 [(0, .ref h), (1, .int (nI x)), (2, .int (nI y))] := hl
  refine lv_aload_n C.x C.b dX8_flip_0 rfl (lv_at hl 0 rfl) ?_
  refine k_get (X := RX8) (T := TX8) (N := 7) (v := .ref sp) C hX (hM.at 0 rfl) rfl hin_X8_flip_RX8 0 (by decide) lk_X8_flip_f10 (fun _ h9 => h9) rfl dX8_flip_1 ?_
  refine lv_iload_n C.x C.b dX8_flip_4 rfl (lv_at hl 1 rfl) ?_
  have hM9 : kCs f (nW G sp nA tA aN aT cc fc) := hM.pick [1, 2, 3] (by decide) ⟨rfl, rfl, rfl, trivial⟩
  refine k_calli (va_runVN (As := [.int (nI x)]) (rest := []) C.1 (kX3_hasCorner l G B0 f sp nA tA aN aT cc fc (nI x) hM9 hc9 hF9) ⟨va_cnB 1 C.ts gX8_flip_X3_hasCorner_n76 rfl rfl rfl (C.2.1.2.2.1 _ (show ((RX8, 76, yX3_hasCorner, "Koebehall") : String × Nat × MethodName × String) ∈ kNestM by decide +kernel)) (C.ts _ lk_X8_flip_in_RX3) hdX8_flip_X3_hasCorner ⟨Nat.le_of_ble_eq_true rfl, Nat.le_of_ble_eq_true rfl⟩, C.ts _ lk_X8_flip_im_X3_hasCorner, C.ts _ lk_X8_flip_se_X3_hasCorner⟩ (k_preV C hX (hM.at 1 rfl) rfl) rfl rfl hl.1 rfl (lv_room (Nat.le_of_ble_eq_true rfl)) dX8_flip_5 ⟨Nat.le_of_ble_eq_true rfl, Nat.le_of_ble_eq_true rfl⟩) hX (fun r5 f5 H locs hp5 hX => ?_)
  obtain ⟨hr5, hf5⟩ := hp5
  rw [hf5] at hX
  refine k_topi (y := (kbI (mIn (nI x) cc))) hr5 ?_
  refine lv_if_eq (tgt := 22) C.x C.b dX8_flip_8 (by decide) (fun c_8 => ?_) (fun c_8 => ?_)
  · exact absurd ((mIn_nI (by omega)).mpr hxc) (kbI_0 c_8)
  refine lv_aload_n C.x C.b dX8_flip_11 rfl (lv_at hl 0 rfl) ?_
  refine k_get (X := RX8) (T := TX8) (N := 7) (v := .ref sp) C hX (hM.at 0 rfl) rfl hin_X8_flip_RX8 0 (by decide) lk_X8_flip_f10 (fun _ h9 => h9) rfl dX8_flip_12 ?_
  refine lv_iload_n C.x C.b dX8_flip_15 rfl (lv_at hl 2 rfl) ?_
  have hM9 : kCs f (nW G sp nA tA aN aT cc fc) := hM.pick [1, 2, 3] (by decide) ⟨rfl, rfl, rfl, trivial⟩
  refine k_calli (va_runVN (As := [.int (nI y)]) (rest := []) C.1 (kX3_hasCorner l G B0 f sp nA tA aN aT cc fc (nI y) hM9 hc9 hF9) ⟨va_cnB 1 C.ts gX8_flip_X3_hasCorner_n76 rfl rfl rfl (C.2.1.2.2.1 _ (show ((RX8, 76, yX3_hasCorner, "Koebehall") : String × Nat × MethodName × String) ∈ kNestM by decide +kernel)) (C.ts _ lk_X8_flip_in_RX3) hdX8_flip_X3_hasCorner ⟨Nat.le_of_ble_eq_true rfl, Nat.le_of_ble_eq_true rfl⟩, C.ts _ lk_X8_flip_im_X3_hasCorner, C.ts _ lk_X8_flip_se_X3_hasCorner⟩ (k_preV C hX (hM.at 1 rfl) rfl) rfl rfl hl.1 rfl (lv_room (Nat.le_of_ble_eq_true rfl)) dX8_flip_16 ⟨Nat.le_of_ble_eq_true rfl, Nat.le_of_ble_eq_true rfl⟩) hX (fun r16 f16 H locs hp16 hX => ?_)
  obtain ⟨hr16, hf16⟩ := hp16
  rw [hf16] at hX
  refine k_topi (y := (kbI (mIn (nI y) cc))) hr16 ?_
  refine lv_if_ne (tgt := 32) C.x C.b dX8_flip_19 (by decide) (fun c_19 => ?_) (fun c_19 => ?_)
  rotate_left
  · exact absurd ((mIn_nI (by omega)).mpr hyc) (kbI_0 c_19)
  refine lv_aload_n C.x C.b dX8_flip_32 rfl (lv_at hl 0 rfl) ?_
  refine k_get (X := RX8) (T := TX8) (N := 7) (v := .ref sp) C hX (hM.at 0 rfl) rfl hin_X8_flip_RX8 0 (by decide) lk_X8_flip_f10 (fun _ h9 => h9) rfl dX8_flip_33 ?_
  refine lv_iload_n C.x C.b dX8_flip_36 rfl (lv_at hl 1 rfl) ?_
  refine lv_iload_n C.x C.b dX8_flip_37 rfl (lv_at hl 2 rfl) ?_
  have hM9 : kCs f (nW G sp nA tA aN aT cc fc) := hM.pick [1, 2, 3] (by decide) ⟨rfl, rfl, rfl, trivial⟩
  refine k_calli (va_runVN (As := [.int (nI x), .int (nI y)]) (rest := []) C.1 (kX3_canFlip l G B0 f sp nA tA aN aT cc fc (nI x) (nI y) hM9 hc9 hF9) ⟨va_cnB 2 C.ts gX8_flip_X3_canFlip_n81 rfl rfl rfl (C.2.1.2.2.1 _ (show ((RX8, 81, yX3_canFlip, "Koebehall") : String × Nat × MethodName × String) ∈ kNestM by decide +kernel)) (C.ts _ lk_X8_flip_in_RX3) hdX8_flip_X3_canFlip ⟨Nat.le_of_ble_eq_true rfl, Nat.le_of_ble_eq_true rfl⟩, C.ts _ lk_X8_flip_im_X3_canFlip, C.ts _ lk_X8_flip_se_X3_canFlip⟩ (k_preV C hX (hM.at 1 rfl) rfl) rfl rfl hl.1 rfl (lv_room (Nat.le_of_ble_eq_true rfl)) dX8_flip_38 ⟨Nat.le_of_ble_eq_true rfl, Nat.le_of_ble_eq_true rfl⟩) hX (fun r38 f38 H locs hp38 hX => ?_)
  obtain ⟨hr38, hf38⟩ := hp38
  rw [hf38] at hX
  refine k_topi (y := (kbI (nCanFlip aT cc (nI x) (nI y)))) hr38 ?_
  refine lv_if_ne (tgt := 54) C.x C.b dX8_flip_41 (by decide) (fun c_41 => ?_) (fun c_41 => ?_)
  rotate_left
  · exact absurd (hcf) (kbI_0 c_41)
  refine lv_aload_n C.x C.b dX8_flip_54 rfl (lv_at hl 0 rfl) ?_
  refine k_get (X := RX8) (T := TX8) (N := 7) (v := .ref sp) C hX (hM.at 0 rfl) rfl hin_X8_flip_RX8 0 (by decide) lk_X8_flip_f10 (fun _ h9 => h9) rfl dX8_flip_55 ?_
  refine lv_iload_n C.x C.b dX8_flip_58 rfl (lv_at hl 1 rfl) ?_
  refine lv_iload_n C.x C.b dX8_flip_59 rfl (lv_at hl 2 rfl) ?_
  have hM9 : kCs f (nW G sp nA tA aN aT cc fc) := hM.pick [1, 2, 3] (by decide) ⟨rfl, rfl, rfl, trivial⟩
  refine k_calli (va_runVN (As := [.int (nI x), .int (nI y)]) (rest := []) C.1 (kX3_flipEdge l G B0 f sp nA tA aN aT cc fc x y u v t1 t2 hM9 hc9 hF9 hx9 hy9 hu9 hv9 ht1 ht2 h1 h2 e1 e2) ⟨va_cnB 2 C.ts gX8_flip_X3_flipEdge_n87 rfl rfl rfl (C.2.1.2.2.1 _ (show ((RX8, 87, yX3_flipEdge, "Koebehall") : String × Nat × MethodName × String) ∈ kNestM by decide +kernel)) (C.ts _ lk_X8_flip_in_RX3) hdX8_flip_X3_flipEdge ⟨Nat.le_of_ble_eq_true rfl, Nat.le_of_ble_eq_true rfl⟩, C.ts _ lk_X8_flip_im_X3_flipEdge, C.ts _ lk_X8_flip_se_X3_flipEdge⟩ (k_preV C hX (hM.at 1 rfl) rfl) rfl rfl hl.1 rfl (lv_room (Nat.le_of_ble_eq_true rfl)) dX8_flip_60 ⟨Nat.le_of_ble_eq_true rfl, Nat.le_of_ble_eq_true rfl⟩) hX (fun r60 f60 H locs hp60 hX => ?_)
  obtain ⟨hr60, hM9, hO9⟩ := hp60
  have hM : kCs f60 ([(h, .inr (8, [.ref sp, vd, vg, vw, vm, vp, vn])), (sp, .inr (3, [.ref nA, .ref tA, .int (nI cc), .int (nI fc)])), (nA, kaI G 84 (nPutN (nPutN aN t1 x v u) t2 v y u)), (tA, kaI G 256 (nPutT (nPutT (upd (upd aT (16 * x + y) (-1)) (16 * y + x) (-1)) x v u) v y u))]) := hM.sub hM9 (kKp.of hO9) [1, 2, 3] (by simp [nW]) ⟨rfl, rfl, rfl, trivial⟩
  have hO := hO.then (kKp.of hO9) (by
      intro a h9
      simp only [List.mem_cons, List.not_mem_nil, or_false] at h9
      rcases h9 with rfl | rfl | rfl
      · exact Or.inl (by simp)
      · exact Or.inl (by simp)
      · exact Or.inl (by simp))
  have hS : ∀ a ∈ [sp, nA, tA], (f60 a).isSome := by
    intro a h9
    simp only [List.mem_cons, List.not_mem_nil, or_false] at h9
    rcases h9 with rfl | rfl | rfl
    · rw [hM.at 1 rfl]; rfl
    · rw [hM.at 2 rfl]; rfl
    · rw [hM.at 3 rfl]; rfl
  refine k_topi (y := (nI (100 * (if u < v then u else v) + (if u < v then v else u)))) hr60 ?_
  exact k_iret C hX hr hlocks hQ (by omega) (by omega) (⟨rfl, hM, hO⟩) dX8_flip_63

theorem lk_X8_corner_f10 : Cond.fieldLink RX8 10 "Koebehall" "sphere" "LKoebehall$Net;" ∈ wsX8_corner := by decide +kernel
theorem hin_X8_corner_RX8 : ∀ w ∈ u_ws RX8 TX8 7, w ∈ wsX8_corner := by decide +kernel
theorem hdX8_corner_X3_hasFace : yX3_hasFace.cls ≠ "java/lang/invoke/MethodHandle" ∧ yX3_hasFace.cls ≠ "java/lang/invoke/VarHandle" ∧ (parseMethodDescriptor yX3_hasFace.desc).map (fun d => d.parameters.length) = some 1 := by decide +kernel
theorem lk_X8_corner_in_RX3 : Cond.initialized RX3 ∈ wsX8_corner := by decide +kernel
theorem lk_X8_corner_im_X3_hasFace : Cond.instanceMethod yX3_hasFace ∈ wsX8_corner := by decide +kernel
theorem lk_X8_corner_se_X3_hasFace : Cond.selects RX3 yX3_hasFace yX3_hasFace ∈ wsX8_corner := by decide +kernel
theorem hdX8_corner_X3_cornerOf : yX3_cornerOf.cls ≠ "java/lang/invoke/MethodHandle" ∧ yX3_cornerOf.cls ≠ "java/lang/invoke/VarHandle" ∧ (parseMethodDescriptor yX3_cornerOf.desc).map (fun d => d.parameters.length) = some 2 := by decide +kernel
theorem lk_X8_corner_im_X3_cornerOf : Cond.instanceMethod yX3_cornerOf ∈ wsX8_corner := by decide +kernel
theorem lk_X8_corner_se_X3_cornerOf : Cond.selects RX3 yX3_cornerOf yX3_cornerOf ∈ wsX8_corner := by decide +kernel
abbrev rmX8_corner : Room := { frames := 1, cells := 0, slots := 0, locals := 22 }
set_option maxHeartbeats 4000000 in
set_option maxRecDepth 100000 in
/-- X8_corner -/
theorem kX8_corner (l : Launch) (G : kG) (B0 : Nat) (f : kH) (h sp nA tA : Nat) (vd vg vw vm vp vn : Value) (aN aT : Nat → Int32) (cc fc : Nat) (t k : Nat) (hM : kCs f [(h, .inr (8, [.ref sp, vd, vg, vw, vm, vp, vn])), (sp, .inr (3, [.ref nA, .ref tA, .int (nI cc), .int (nI fc)])), (nA, kaI G 84 aN), (tA, kaI G 256 aT)]) (hc9 : cc ≤ 16) (hF9 : fc ≤ 28) (ht : t < fc) (hk : k < 3) : Met l yX8_corner wsX8_corner (rmX8_corner) (kP G B0 f [.ref h, .int (nI t), .int (nI k)]) (kQi G B0 (fun r f1 => r = aN (3 * t + k) ∧ f1 = f)) 0 0 (kAb B0) := by
  refine kMet (cc := cX8_corner) (maxL := 3) (ret := (some .int)) (by decide) rfl (Nat.le_of_ble_eq_true rfl) ?_
  intro p e s m args below meth c H locs Q ls C hX hl hr hlocks hnm hQ
  have hl : lv_has ls 3 [(0, .ref h), (1, .int (nI t)), (2, .int (nI k))] := hl
  refine lv_aload_n C.x C.b dX8_corner_0 rfl (lv_at hl 0 rfl) ?_
  refine k_get (X := RX8) (T := TX8) (N := 7) (v := .ref sp) C hX (hM.at 0 rfl) rfl hin_X8_corner_RX8 0 (by decide) lk_X8_corner_f10 (fun _ h9 => h9) rfl dX8_corner_1 ?_
  refine lv_iload_n C.x C.b dX8_corner_4 rfl (lv_at hl 1 rfl) ?_
  have hM9 : kCs f (nW G sp nA tA aN aT cc fc) := hM.pick [1, 2, 3] (by decide) ⟨rfl, rfl, rfl, trivial⟩
  refine k_calli (va_runVN (As := [.int (nI t)]) (rest := []) C.1 (kX3_hasFace l G B0 f sp nA tA aN aT cc fc (nI t) hM9 hc9 hF9) ⟨va_cnB 1 C.ts gX8_corner_X3_hasFace_n52 rfl rfl rfl (C.2.1.2.2.1 _ (show ((RX8, 52, yX3_hasFace, "Koebehall") : String × Nat × MethodName × String) ∈ kNestM by decide +kernel)) (C.ts _ lk_X8_corner_in_RX3) hdX8_corner_X3_hasFace ⟨Nat.le_of_ble_eq_true rfl, Nat.le_of_ble_eq_true rfl⟩, C.ts _ lk_X8_corner_im_X3_hasFace, C.ts _ lk_X8_corner_se_X3_hasFace⟩ (k_preV C hX (hM.at 1 rfl) rfl) rfl rfl hl.1 rfl (lv_room (Nat.le_of_ble_eq_true rfl)) dX8_corner_5 ⟨Nat.le_of_ble_eq_true rfl, Nat.le_of_ble_eq_true rfl⟩) hX (fun r5 f5 H locs hp5 hX => ?_)
  obtain ⟨hr5, hf5⟩ := hp5
  rw [hf5] at hX
  refine k_topi (y := (kbI (mIn (nI t) fc))) hr5 ?_
  refine lv_if_eq (tgt := 20) C.x C.b dX8_corner_8 (by decide) (fun c_8 => ?_) (fun c_8 => ?_)
  · exact absurd ((mIn_nI (by omega)).mpr ht) (kbI_0 c_8)
  refine lv_iload_n C.x C.b dX8_corner_11 rfl (lv_at hl 2 rfl) ?_
  refine lv_if_lt (tgt := 20) C.x C.b dX8_corner_12 (by decide) (fun c_12 => ?_) (fun c_12 => ?_)
  · skip
    exact absurd c_12 (nI_pos (by omega))
  · skip
    refine lv_iload_n C.x C.b dX8_corner_15 rfl (lv_at hl 2 rfl) ?_
    refine lv_iconst (v := nI 2) C.x C.b dX8_corner_16 (by decide) ?_
    refine lv_icmp_le (tgt := 30) C.x C.b dX8_corner_17 (by decide) (fun c_17 => ?_) (fun c_17 => ?_)
    rotate_left
    · skip
      have c_17 : ¬ (k ≤ 2) := fun h9 => c_17 ((nI_leI (by omega) (by omega)).mpr h9)
      omega
    have c_17 : k ≤ 2 := (nI_leI (by omega) (by omega)).mp c_17
    refine lv_aload_n C.x C.b dX8_corner_30 rfl (lv_at hl 0 rfl) ?_
    refine k_get (X := RX8) (T := TX8) (N := 7) (v := .ref sp) C hX (hM.at 0 rfl) rfl hin_X8_corner_RX8 0 (by decide) lk_X8_corner_f10 (fun _ h9 => h9) rfl dX8_corner_31 ?_
    refine lv_iload_n C.x C.b dX8_corner_34 rfl (lv_at hl 1 rfl) ?_
    refine lv_iload_n C.x C.b dX8_corner_35 rfl (lv_at hl 2 rfl) ?_
    have hM9 : kCs f (nW G sp nA tA aN aT cc fc) := hM.pick [1, 2, 3] (by decide) ⟨rfl, rfl, rfl, trivial⟩
    refine k_calli (va_runVN (As := [.int (nI t), .int (nI k)]) (rest := []) C.1 (kX3_cornerOf l G B0 f sp nA tA aN aT cc fc t k hM9 hc9 hF9 (by omega) hk) ⟨va_cnB 2 C.ts gX8_corner_X3_cornerOf_n93 rfl rfl rfl (C.2.1.2.2.1 _ (show ((RX8, 93, yX3_cornerOf, "Koebehall") : String × Nat × MethodName × String) ∈ kNestM by decide +kernel)) (C.ts _ lk_X8_corner_in_RX3) hdX8_corner_X3_cornerOf ⟨Nat.le_of_ble_eq_true rfl, Nat.le_of_ble_eq_true rfl⟩, C.ts _ lk_X8_corner_im_X3_cornerOf, C.ts _ lk_X8_corner_se_X3_cornerOf⟩ (k_preV C hX (hM.at 1 rfl) rfl) rfl rfl hl.1 rfl (lv_room (Nat.le_of_ble_eq_true rfl)) dX8_corner_36 ⟨Nat.le_of_ble_eq_true rfl, Nat.le_of_ble_eq_true rfl⟩) hX (fun r36 f36 H locs hp36 hX => ?_)
    obtain ⟨hr36, hf36⟩ := hp36
    rw [hf36] at hX
    refine k_topi (y := (aN (3 * t + k))) hr36 ?_
    exact k_iret C hX hr hlocks hQ (by omega) (by omega) (⟨rfl, rfl⟩) dX8_corner_39

theorem lk_X8_around_f10 : Cond.fieldLink RX8 10 "Koebehall" "sphere" "LKoebehall$Net;" ∈ wsX8_around := by decide +kernel
theorem hin_X8_around_RX8 : ∀ w ∈ u_ws RX8 TX8 7, w ∈ wsX8_around := by decide +kernel
theorem hdX8_around_X3_hasCorner : yX3_hasCorner.cls ≠ "java/lang/invoke/MethodHandle" ∧ yX3_hasCorner.cls ≠ "java/lang/invoke/VarHandle" ∧ (parseMethodDescriptor yX3_hasCorner.desc).map (fun d => d.parameters.length) = some 1 := by decide +kernel
theorem lk_X8_around_in_RX3 : Cond.initialized RX3 ∈ wsX8_around := by decide +kernel
theorem lk_X8_around_im_X3_hasCorner : Cond.instanceMethod yX3_hasCorner ∈ wsX8_around := by decide +kernel
theorem lk_X8_around_se_X3_hasCorner : Cond.selects RX3 yX3_hasCorner yX3_hasCorner ∈ wsX8_around := by decide +kernel
theorem hdX8_around_X3_neighbourAt : yX3_neighbourAt.cls ≠ "java/lang/invoke/MethodHandle" ∧ yX3_neighbourAt.cls ≠ "java/lang/invoke/VarHandle" ∧ (parseMethodDescriptor yX3_neighbourAt.desc).map (fun d => d.parameters.length) = some 2 := by decide +kernel
theorem lk_X8_around_im_X3_neighbourAt : Cond.instanceMethod yX3_neighbourAt ∈ wsX8_around := by decide +kernel
theorem lk_X8_around_se_X3_neighbourAt : Cond.selects RX3 yX3_neighbourAt yX3_neighbourAt ∈ wsX8_around := by decide +kernel
abbrev rmX8_around : Room := { frames := 5, cells := 0, slots := 0, locals := 112 }
set_option maxHeartbeats 4000000 in
set_option maxRecDepth 100000 in
/-- X8_around -/
theorem kX8_around (l : Launch) (G : kG) (B0 : Nat) (f : kH) (h sp nA tA : Nat) (vd vg vw vm vp vn : Value) (aN aT : Nat → Int32) (cc fc : Nat) (a : Int32) (b : Nat) (hM : kCs f [(h, .inr (8, [.ref sp, vd, vg, vw, vm, vp, vn])), (sp, .inr (3, [.ref nA, .ref tA, .int (nI cc), .int (nI fc)])), (nA, kaI G 84 aN), (tA, kaI G 256 aT)]) (hc9 : cc ≤ 16) (hF9 : fc ≤ 28) (hv : mIn a cc) (hb : b < 2 ^ 31) : Met l yX8_around wsX8_around (rmX8_around) (kP G B0 f [.ref h, .int a, .int (nI b)]) (kQi G B0 (fun r f1 => r = nNb aT cc a (nLow aT cc a cc 0) b (nLow aT cc a cc 0) ∧ f1 = f)) 0 0 (kAb B0) := by
  refine kMet (cc := cX8_around) (maxL := 3) (ret := (some .int)) (by decide) rfl (Nat.le_of_ble_eq_true rfl) ?_
  intro p e s m args below meth c H locs Q ls C hX hl hr hlocks hnm hQ
  have hl : lv_has ls 3 [(0, .ref h), (1, .int a), (2, .int (nI b))] := hl
  refine lv_aload_n C.x C.b dX8_around_0 rfl (lv_at hl 0 rfl) ?_
  refine k_get (X := RX8) (T := TX8) (N := 7) (v := .ref sp) C hX (hM.at 0 rfl) rfl hin_X8_around_RX8 0 (by decide) lk_X8_around_f10 (fun _ h9 => h9) rfl dX8_around_1 ?_
  refine lv_iload_n C.x C.b dX8_around_4 rfl (lv_at hl 1 rfl) ?_
  have hM9 : kCs f (nW G sp nA tA aN aT cc fc) := hM.pick [1, 2, 3] (by decide) ⟨rfl, rfl, rfl, trivial⟩
  refine k_calli (va_runVN (As := [.int a]) (rest := []) C.1 (kX3_hasCorner l G B0 f sp nA tA aN aT cc fc a hM9 hc9 hF9) ⟨va_cnB 1 C.ts gX8_around_X3_hasCorner_n76 rfl rfl rfl (C.2.1.2.2.1 _ (show ((RX8, 76, yX3_hasCorner, "Koebehall") : String × Nat × MethodName × String) ∈ kNestM by decide +kernel)) (C.ts _ lk_X8_around_in_RX3) hdX8_around_X3_hasCorner ⟨Nat.le_of_ble_eq_true rfl, Nat.le_of_ble_eq_true rfl⟩, C.ts _ lk_X8_around_im_X3_hasCorner, C.ts _ lk_X8_around_se_X3_hasCorner⟩ (k_preV C hX (hM.at 1 rfl) rfl) rfl rfl hl.1 rfl (lv_room (Nat.le_of_ble_eq_true rfl)) dX8_around_5 ⟨Nat.le_of_ble_eq_true rfl, Nat.le_of_ble_eq_true rfl⟩) hX (fun r5 f5 H locs hp5 hX => ?_)
  obtain ⟨hr5, hf5⟩ := hp5
  rw [hf5] at hX
  refine k_topi (y := (kbI (mIn a cc))) hr5 ?_
  refine lv_if_eq (tgt := 15) C.x C.b dX8_around_8 (by decide) (fun c_8 => ?_) (fun c_8 => ?_)
  · exact absurd (hv) (kbI_0 c_8)
  refine lv_iload_n C.x C.b dX8_around_11 rfl (lv_at hl 2 rfl) ?_
  refine lv_if_ge (tgt := 25) C.x C.b dX8_around_12 (by decide) (fun c_12 => ?_) (fun c_12 => ?_)
  · skip
    refine lv_aload_n C.x C.b dX8_around_25 rfl (lv_at hl 0 rfl) ?_
    refine k_get (X := RX8) (T := TX8) (N := 7) (v := .ref sp) C hX (hM.at 0 rfl) rfl hin_X8_around_RX8 0 (by decide) lk_X8_around_f10 (fun _ h9 => h9) rfl dX8_around_26 ?_
    refine lv_iload_n C.x C.b dX8_around_29 rfl (lv_at hl 1 rfl) ?_
    refine lv_iload_n C.x C.b dX8_around_30 rfl (lv_at hl 2 rfl) ?_
    have hM9 : kCs f (nW G sp nA tA aN aT cc fc) := hM.pick [1, 2, 3] (by decide) ⟨rfl, rfl, rfl, trivial⟩
    refine k_calli (va_runVN (As := [.int a, .int (nI b)]) (rest := []) C.1 (kX3_neighbourAt l G B0 f sp nA tA aN aT cc fc a b hM9 hc9 hF9 hb) ⟨va_cnB 2 C.ts gX8_around_X3_neighbourAt_n98 rfl rfl rfl (C.2.1.2.2.1 _ (show ((RX8, 98, yX3_neighbourAt, "Koebehall") : String × Nat × MethodName × String) ∈ kNestM by decide +kernel)) (C.ts _ lk_X8_around_in_RX3) hdX8_around_X3_neighbourAt ⟨Nat.le_of_ble_eq_true rfl, Nat.le_of_ble_eq_true rfl⟩, C.ts _ lk_X8_around_im_X3_neighbourAt, C.ts _ lk_X8_around_se_X3_neighbourAt⟩ (k_preV C hX (hM.at 1 rfl) rfl) rfl rfl hl.1 rfl (lv_room (Nat.le_of_ble_eq_true rfl)) dX8_around_31 ⟨Nat.le_of_ble_eq_true rfl, Nat.le_of_ble_eq_true rfl⟩) hX (fun r31 f31 H locs hp31 hX => ?_)
    obtain ⟨hr31, hf31⟩ := hp31
    rw [hf31] at hX
    refine k_topi (y := (nNb aT cc a (nLow aT cc a cc 0) b (nLow aT cc a cc 0))) hr31 ?_
    exact k_iret C hX hr hlocks hQ (by omega) (by omega) (⟨rfl, rfl⟩) dX8_around_34
  · skip
    exact absurd (nI_pos' (by omega)) c_12
