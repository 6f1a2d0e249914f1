def ffN (j : Nat) : Nat := [0, 1, 2, 0, 3, 1, 1, 3, 2, 0, 2, 3].getD j 0
theorem ffN_at : ∀ j : Nat, j < 12 → kFF.getD (nI j).toNatClampNeg 0 = nI (ffN j) := by decide
theorem ffN_lt : ∀ j : Nat, j < 12 → ffN j < 16 := by decide
def iNN : Nat → (Nat → Int32)
  | 0 => fun _ => 0
  | k + 1 => nPutN (iNN k) k (ffN (3 * k)) (ffN (3 * k + 1)) (ffN (3 * k + 2))
def iTT : Nat → (Nat → Int32)
  | 0 => fun j => if j < 256 then -1 else 0
  | k + 1 => nPutT (iTT k) (ffN (3 * k)) (ffN (3 * k + 1)) (ffN (3 * k + 2))
theorem kClr (k : Nat) (g9 : Nat → Option Nat) : va_up (fun j => if j < k then none else g9 j) k none = (fun j => if j < k + 1 then none else g9 j) := by
  funext j
  simp only [va_up]
  by_cases h1 : j = k
  · subst h1; simp
  · by_cases h2 : j < k
    · simp [h1, h2, Nat.lt_succ_of_lt h2]
    · rw [if_neg h1, if_neg h2, if_neg (by omega)]
theorem kClr0 (g9 : Nat → Option Nat) : (fun j => if j < 0 then none else g9 j) = g9 := by funext j; simp

theorem lk_X3_init_m5 : Cond.methodLink RX3 5 objectInit ∈ wsX3_init := by decide +kernel
theorem lk_X3_init_oi : Cond.instanceMethod objectInit ∈ wsX3_init := by decide +kernel
theorem lk_X3_init_oc : Cond.code objectInit ⟨#[0xb1]⟩ 1 none ∈ wsX3_init := by decide +kernel
theorem lk_X3_init_acint : Cond.arrayClass .int ∈ wsX3_init := by decide +kernel
theorem lk_X3_init_f11 : Cond.fieldLink RX3 11 "Koebehall$Net" "named" "[I" ∈ wsX3_init := by decide +kernel
theorem hin_X3_init_RX3 : ∀ w ∈ u_ws RX3 TX3 4, w ∈ wsX3_init := by decide +kernel
theorem lk_X3_init_f15 : Cond.fieldLink RX3 15 "Koebehall$Net" "thirds" "[I" ∈ wsX3_init := by decide +kernel
theorem hdX3_init_J7_fill_53178 : yJ7_fill_53178.cls ≠ "java/lang/invoke/MethodHandle" ∧ yJ7_fill_53178.cls ≠ "java/lang/invoke/VarHandle" ∧ (parseMethodDescriptor yJ7_fill_53178.desc).map (fun d => d.parameters.length) = some 2 := by decide +kernel
theorem lk_X3_init_f24 : Cond.fieldLink RX3 24 "Koebehall$Net" "cornerCount" "I" ∈ wsX3_init := by decide +kernel
theorem lk_X3_init_f28 : Cond.fieldLink RX3 28 "Koebehall$Net" "faceCount" "I" ∈ wsX3_init := by decide +kernel
theorem lk_X3_init_f31 : Cond.fieldLink RX3 31 "Koebehall$Net" "FIRST_FACES" "[I" ∈ wsX3_init := by decide +kernel
theorem hdX3_init_X3_putFace : yX3_putFace.cls ≠ "java/lang/invoke/MethodHandle" ∧ yX3_putFace.cls ≠ "java/lang/invoke/VarHandle" ∧ (parseMethodDescriptor yX3_putFace.desc).map (fun d => d.parameters.length) = some 4 := by decide +kernel
abbrev rmX3_init : Room := { frames := 3, cells := 2, slots := 340, locals := 71 }
set_option maxHeartbeats 4000000 in
set_option maxRecDepth 100000 in
/-- X3_init -/
theorem kX3_init (l : Launch) (G : kG) (B0 : Nat) (f : kH) (h : Nat) (hM : kCs f [(h, .inr (3, [.null, .null, .int 0, .int 0]))]) : Met l yX3_init wsX3_init (rmX3_init) (kP G B0 f [.ref h]) (kQv G B0 (fun f1 => ∃ q1 q2 : Nat, kCs f1 (nW G h q1 q2 (iNN 4) (iTT 4) 4 4) ∧ kKp [h] f f1 ∧ f q1 = none ∧ f q2 = none)) 2 340 (kAb B0) := by
  refine kMet (cc := cX3_init) (maxL := 2) (ret := none) (by decide) rfl (Nat.le_of_ble_eq_true rfl) ?_
  intro p e s m args below meth c H locs Q ls C hX hl hr hlocks hnm hQ
  have hO : kKp [h] f f := kKp.rf
  have hS : ∀ a ∈ [h], (f a).isSome := by
    intro a h9
    simp only [List.mem_cons, List.not_mem_nil, or_false] at h9
    rcases h9 with rfl
    · rw [hM.at 0 rfl]; rfl
  have hl : lv_has ls 2 [(0, .ref h)] := hl
  refine lv_aload_n C.x C.b dX3_init_0 rfl (lv_at hl 0 rfl) ?_
  refine W.objInit C.x C.b C.ow (C.ts _ lk_X3_init_m5) (C.ts _ lk_X3_init_oi) (C.ts _ lk_X3_init_oc) rfl (by rw [C.ml]; exact hl.1) rfl dX3_init_1 (Nat.le_of_ble_eq_true rfl) (Nat.le_of_ble_eq_true rfl) ?_
  refine W.eq (g2 := F0 m 4 ls []) rfl ?_
  refine lv_aload_n C.x C.b dX3_init_4 rfl (lv_at hl 0 rfl) ?_
  refine lv_bipush (v := nI 84) C.x C.b dX3_init_5 (by decide) ?_
  refine k_newaI (atype := .int) (R9 := 84) C hX (C.ts _ lk_X3_init_acint) rfl (by decide) (by decide) (by decide) (by decide) (by decide) dX3_init_7 (fun n1 H hn hX => ?_)
  obtain ⟨g2, hX, hM, hO, fr_n1, hS⟩ := kX.nwP hX hM hO hn hS
  have hM : kCs g2 ([(h, .inr (3, [.null, .null, .int 0, .int 0])), (n1, kaI G 84 (fun _ => 0))]) := hM
  refine k_putF (X := RX3) (T := TX3) (N := 4) (ty := .array .int) (v := .ref n1) C hX (hM.at 0 rfl) rfl hin_X3_init_RX3 tyX3_ok nmX3 0 (by decide) lk_X3_init_f11 (fun _ h9 => h9) rfl hnm rfl rfl (by decide +kernel) rfl rfl (Nat.le_of_ble_eq_true rfl) dX3_init_9 (fun H locs hX => ?_)
  obtain ⟨g3, hX, hM, hO, hS⟩ := kX.wrP hX hM hO hS 0 rfl (Or.inl (by simp))
  have hM : kCs g3 ([(h, .inr (3, [.ref n1, .null, .int 0, .int 0])), (n1, kaI G 84 (fun _ => 0))]) := hM
  refine lv_aload_n C.x C.b dX3_init_12 rfl (lv_at hl 0 rfl) ?_
  refine lv_sipush (v := nI 256) C.x C.b dX3_init_13 (by decide) ?_
  refine k_newaI (atype := .int) (R9 := 256) C hX (C.ts _ lk_X3_init_acint) rfl (by decide) (by decide) (by decide) (by decide) (by decide) dX3_init_16 (fun n4 H hn hX => ?_)
  obtain ⟨g5, hX, hM, hO, fr_n4, hS⟩ := kX.nwP hX hM hO hn hS
  have hM : kCs g5 ([(h, .inr (3, [.ref n1, .null, .int 0, .int 0])), (n1, kaI G 84 (fun _ => 0)), (n4, kaI G 256 (fun _ => 0))]) := hM
  refine k_putF (X := RX3) (T := TX3) (N := 4) (ty := .array .int) (v := .ref n4) C hX (hM.at 0 rfl) rfl hin_X3_init_RX3 tyX3_ok nmX3 1 (by decide) lk_X3_init_f15 (fun _ h9 => h9) rfl hnm rfl rfl (by decide +kernel) rfl rfl (Nat.le_of_ble_eq_true rfl) dX3_init_18 (fun H locs hX => ?_)
  obtain ⟨g6, hX, hM, hO, hS⟩ := kX.wrP hX hM hO hS 0 rfl (Or.inl (by simp))
  have hM : kCs g6 ([(h, .inr (3, [.ref n1, .ref n4, .int 0, .int 0])), (n1, kaI G 84 (fun _ => 0)), (n4, kaI G 256 (fun _ => 0))]) := hM
  refine lv_aload_n C.x C.b dX3_init_21 rfl (lv_at hl 0 rfl) ?_
  refine k_get (X := RX3) (T := TX3) (N := 4) (v := .ref n4) C hX (hM.at 0 rfl) rfl hin_X3_init_RX3 1 (by decide) lk_X3_init_f15 (fun _ h9 => h9) rfl dX3_init_22 ?_
  refine lv_iconst (v := -1) C.x C.b dX3_init_25 (by decide) ?_
  have hM9 : kCs g6 ([(n4, kaI G 256 (fun _ => 0))]) := hM.pick [2] (by decide) ⟨rfl, trivial⟩
  refine k_callv (va_runS (As := [.ref n4, .int (-1)]) (rest := []) C.1 (kJ7_fill_53178 l G B0 g6 n4 256 (fun _ => 0) (-1) hM9 (by decide)) (va_cwS 2 C.ts gX3_init_J7_fill_53178 rfl rfl rfl (hdX3_init_J7_fill_53178) ⟨Nat.le_of_ble_eq_true rfl, Nat.le_of_ble_eq_true rfl⟩) (k_preS C hX) rfl rfl hl.1 rfl (lv_room (Nat.le_of_ble_eq_true rfl)) dX3_init_26 ⟨Nat.le_of_ble_eq_true rfl, Nat.le_of_ble_eq_true rfl⟩) hX (fun f26 H locs hp26 hX => ?_)
  obtain ⟨hM9, hO9⟩ := hp26
  have hM : kCs f26 ([(h, .inr (3, [.ref n1, .ref n4, .int 0, .int 0])), (n1, kaI G 84 (fun _ => 0)), (n4, kaI G 256 (fun j => if j < 256 then -1 else (fun _ => 0) j))]) := hM.sub hM9 (kKp.of hO9) [2] (by simp) ⟨rfl, trivial⟩
  have hO := hO.then (kKp.of hO9) (by
      intro a h9
      simp only [List.mem_cons, List.not_mem_nil, or_false] at h9
      rcases h9 with rfl
      · exact Or.inr fr_n4)
  have hS : ∀ a ∈ [h], (f26 a).isSome := by
    intro a h9
    simp only [List.mem_cons, List.not_mem_nil, or_false] at h9
    rcases h9 with rfl
    · rw [hM.at 0 rfl]; rfl
  refine lv_aload_n C.x C.b dX3_init_29 rfl (lv_at hl 0 rfl) ?_
  refine lv_iconst (v := nI 4) C.x C.b dX3_init_30 (by decide) ?_
  refine k_put (X := RX3) (T := TX3) (N := 4) (ty := .int) (v := .int (nI 4)) C hX (hM.at 0 rfl) rfl hin_X3_init_RX3 tyX3_ok nmX3 2 (by decide) lk_X3_init_f24 (fun _ h9 => h9) rfl (by decide +kernel) rfl rfl (Nat.le_of_ble_eq_true rfl) dX3_init_31 (fun H locs hX => ?_)
  obtain ⟨g7, hX, hM, hO, hS⟩ := kX.wrP hX hM hO hS 0 rfl (Or.inl (by simp))
  have hM : kCs g7 ([(h, .inr (3, [.ref n1, .ref n4, .int (nI 4), .int 0])), (n1, kaI G 84 (fun _ => 0)), (n4, kaI G 256 (fun j => if j < 256 then -1 else (fun _ => 0) j))]) := hM
  refine lv_aload_n C.x C.b dX3_init_34 rfl (lv_at hl 0 rfl) ?_
  refine lv_iconst (v := nI 4) C.x C.b dX3_init_35 (by decide) ?_
  refine k_put (X := RX3) (T := TX3) (N := 4) (ty := .int) (v := .int (nI 4)) C hX (hM.at 0 rfl) rfl hin_X3_init_RX3 tyX3_ok nmX3 3 (by decide) lk_X3_init_f28 (fun _ h9 => h9) rfl (by decide +kernel) rfl rfl (Nat.le_of_ble_eq_true rfl) dX3_init_36 (fun H locs hX => ?_)
  obtain ⟨g8, hX, hM, hO, hS⟩ := kX.wrP hX hM hO hS 0 rfl (Or.inl (by simp))
  have hM : kCs g8 ([(h, .inr (3, [.ref n1, .ref n4, .int (nI 4), .int (nI 4)])), (n1, kaI G 84 (fun _ => 0)), (n4, kaI G 256 (fun j => if j < 256 then -1 else (fun _ => 0) j))]) := hM
  refine lv_iconst (v := nI 0) C.x C.b dX3_init_39 (by decide) ?_
  refine lv_istore_n (lv' := [(1, .int (nI 0)), (0, .ref h)]) C.x C.b dX3_init_40 rfl hl (by decide) rfl (fun ls hl => ?_)
  have LOOP41 : ∀ (n : Nat) (k : Nat), (k ≤ 4) → (4 - k) < n → ∀ (ls : Array Slot), lv_has ls 2 [(1, .int (nI k)), (0, .ref h)] → ∀ (fL : kH), kCs fL ([(h, .inr (3, [.ref n1, .ref n4, .int (nI 4), .int (nI 4)])), (n1, kaI G 84 (iNN k)), (n4, kaI G 256 (iTT k))]) → kKp [h] f fL → (∀ a ∈ [h], (fL a).isSome) → ∀ (H : Heap) (locs : List Loc), kX G B0 s fL H locs → W p l e (rmX3_init) s m args below meth c H locs 2 340 Q (F0 m 41 ls []) := by
    intro n41
    induction n41 with
    | zero => intro k hk hn; exact absurd hn (Nat.not_lt_zero _)
    | succ n41 ih41 =>
      intro k hk hn ls hl fL hM hO hS H locs hX
      refine lv_iload_n C.x C.b dX3_init_41 rfl (lv_at hl 0 rfl) ?_
      refine lv_aload_n C.x C.b dX3_init_42 rfl (lv_at hl 1 rfl) ?_
      refine k_get (X := RX3) (T := TX3) (N := 4) (v := .int (nI 4)) C hX (hM.at 0 rfl) rfl hin_X3_init_RX3 3 (by decide) lk_X3_init_f28 (fun _ h9 => h9) rfl dX3_init_43 ?_
      refine lv_icmp_ge (tgt := 85) C.x C.b dX3_init_46 (by decide) (fun c_46 => ?_) (fun c_46 => ?_)
      · skip
        have c_46 : 4 ≤ k := (nI_leI (by omega) (by omega)).mp c_46
        exact k_vret C hX hr hlocks hQ (by omega) (by omega) (by obtain rfl : k = 4 := (by omega); exact ⟨n1, n4, hM, hO, fr_n1, fr_n4⟩) dX3_init_85
      · skip
        have c_46 : ¬ (4 ≤ k) := fun h9 => c_46 ((nI_leI (by omega) (by omega)).mpr h9)
        refine lv_aload_n C.x C.b dX3_init_49 rfl (lv_at hl 1 rfl) ?_
        refine lv_iload_n C.x C.b dX3_init_50 rfl (lv_at hl 0 rfl) ?_
        refine k_getsF C hX (C.ts _ lk_X3_init_f31) (fun _ h9 => h9) dX3_init_51 ?_
        refine lv_iconst (v := nI 3) C.x C.b dX3_init_54 (by decide) ?_
        refine lv_iload_n C.x C.b dX3_init_55 rfl (lv_at hl 0 rfl) ?_
        refine lv_imul C.x C.b dX3_init_56 ?_
        refine k_topi (y := nI (3 * k)) (pk_mul _ _) ?_
        refine k_iaF C hX (vp_in_nI (by omega) (by omega)) dX3_init_57 ?_
        refine k_topi (y := (nI (ffN (3 * k)))) (ffN_at _ (by omega)) ?_
        refine k_getsF C hX (C.ts _ lk_X3_init_f31) (fun _ h9 => h9) dX3_init_58 ?_
        refine lv_iconst (v := nI 3) C.x C.b dX3_init_61 (by decide) ?_
        refine lv_iload_n C.x C.b dX3_init_62 rfl (lv_at hl 0 rfl) ?_
        refine lv_imul C.x C.b dX3_init_63 ?_
        refine k_topi (y := nI (3 * k)) (pk_mul _ _) ?_
        refine lv_iconst (v := nI 1) C.x C.b dX3_init_64 (by decide) ?_
        refine lv_iadd C.x C.b dX3_init_65 ?_
        refine k_topi (y := nI ((3 * k) + 1)) (nI_add _ _) ?_
        refine k_iaF C hX (vp_in_nI (by omega) (by omega)) dX3_init_66 ?_
        refine k_topi (y := (nI (ffN (3 * k + 1)))) (ffN_at _ (by omega)) ?_
        refine k_getsF C hX (C.ts _ lk_X3_init_f31) (fun _ h9 => h9) dX3_init_67 ?_
        refine lv_iconst (v := nI 3) C.x C.b dX3_init_70 (by decide) ?_
        refine lv_iload_n C.x C.b dX3_init_71 rfl (lv_at hl 0 rfl) ?_
        refine lv_imul C.x C.b dX3_init_72 ?_
        refine k_topi (y := nI (3 * k)) (pk_mul _ _) ?_
        refine lv_iconst (v := nI 2) C.x C.b dX3_init_73 (by decide) ?_
        refine lv_iadd C.x C.b dX3_init_74 ?_
        refine k_topi (y := nI ((3 * k) + 2)) (nI_add _ _) ?_
        refine k_iaF C hX (vp_in_nI (by omega) (by omega)) dX3_init_75 ?_
        refine k_topi (y := (nI (ffN (3 * k + 2)))) (ffN_at _ (by omega)) ?_
        have hM9 : kCs fL ([(h, .inr (3, [.ref n1, .ref n4, .int (nI 4), .int (nI 4)])), (n1, kaI G 84 (iNN k)), (n4, kaI G 256 (iTT k))]) := hM.pick [0, 1, 2] (by decide) ⟨rfl, rfl, rfl, trivial⟩
        refine k_callv (va_runV (As := [.int (nI k), .int (nI (ffN (3 * k))), .int (nI (ffN (3 * k + 1))), .int (nI (ffN (3 * k + 2)))]) (rest := []) C.1 (kX3_putFace l G B0 fL h n1 n4 (iNN k) (iTT k) 4 4 k (ffN (3 * k)) (ffN (3 * k + 1)) (ffN (3 * k + 2)) hM9 (by omega) (by omega) (by omega) (ffN_lt _ (by omega)) (ffN_lt _ (by omega)) (ffN_lt _ (by omega))) (cwV 4 C.ts gX3_init_X3_putFace rfl rfl rfl ⟨rfl, hdX3_init_X3_putFace⟩ ⟨Nat.le_of_ble_eq_true rfl, Nat.le_of_ble_eq_true rfl⟩) (k_preV C hX (hM.at 0 rfl) rfl) rfl rfl hl.1 rfl (lv_room (Nat.le_of_ble_eq_true rfl)) dX3_init_76 ⟨Nat.le_of_ble_eq_true rfl, Nat.le_of_ble_eq_true rfl⟩) hX (fun f76 H locs hp76 hX => ?_)
        obtain ⟨hM9, hO9⟩ := hp76
        have hM : kCs f76 ([(h, .inr (3, [.ref n1, .ref n4, .int (nI 4), .int (nI 4)])), (n1, kaI G 84 (nPutN (iNN k) k (ffN (3 * k)) (ffN (3 * k + 1)) (ffN (3 * k + 2)))), (n4, kaI G 256 (nPutT (iTT k) (ffN (3 * k)) (ffN (3 * k + 1)) (ffN (3 * k + 2))))]) := hM.sub hM9 (kKp.of hO9) [0, 1, 2] (by simp [nW]) ⟨rfl, rfl, rfl, trivial⟩
        have hO := hO.then (kKp.of hO9) (by
            intro a h9
            simp only [List.mem_cons, List.not_mem_nil, or_false] at h9
            rcases h9 with rfl | rfl | rfl
            · exact Or.inl (by simp)
            · exact Or.inr fr_n1
            · exact Or.inr fr_n4)
        have hS : ∀ a ∈ [h], (f76 a).isSome := by
          intro a h9
          simp only [List.mem_cons, List.not_mem_nil, or_false] at h9
          rcases h9 with rfl
          · rw [hM.at 0 rfl]; rfl
        refine lv_iinc (v := (nI (k + 1))) (lv' := [(1, .int (nI (k + 1))), (0, .ref h)]) C.x C.b dX3_init_79 hl (k := 0) rfl (nI_1 _) (by decide) rfl (fun ls hl => ?_)
        refine lv_goto (tgt := 41) C.x C.b dX3_init_82 (by decide) ?_
        exact ih41 (k + 1) (by omega) (by omega) ls (lv_sub hl [0, 1] rfl) _ hM hO hS _ _ hX
  exact LOOP41 _ 0 (by omega) (Nat.lt_succ_self _) ls (lv_sub hl [0, 1] rfl) _ hM hO hS _ _ hX

abbrev rmJx4a65c_clear_da8c8_n : Room := { frames := 0, cells := 0, slots := 0, locals := 0 }
set_option maxHeartbeats 4000000 in
set_option maxRecDepth 100000 in
/-- Jx4a65c_clear_da8c8_n -/
theorem kJx4a65c_clear_da8c8_n (l : Launch) (G : kG) (B0 : Nat) (f : kH) (h q : Nat) (mc : Int32) (sz cap : Nat) (g0 : Nat → Option Nat) (hi : sz ≤ cap) (hcap : cap < 2 ^ 31) (hM : kCs f [(h, .inr (0, [.int mc, .ref q, .int (nI sz)])), (q, kaO G cap g0)]) : Met l yJx4a65c_clear_da8c8 wsJx4a65c_clear_da8c8 (rmJx4a65c_clear_da8c8_n) (kP G B0 f [.ref h]) (kQv G B0 (fun f1 => kCs f1 [(h, .inr (0, [.int (mc + nI 1), .ref q, .int (nI 0)])), (q, kaO G cap (fun j => if j < sz then none else g0 j))] ∧ kOff [h, q] f f1)) 0 0 (kAb B0) := by
  refine kMet (cc := cJx4a65c_clear_da8c8) (maxL := 4) (ret := none) (by decide) rfl (Nat.le_of_ble_eq_true rfl) ?_
  intro p e s m args below meth c H locs Q ls C hX hl hr hlocks hnm hQ
  have hO : kOff [h, q] f f := kOff.rf
  have hl : lv_has ls 4 [(0, .ref h)] := hl
  refine lv_aload_n C.x C.b dJx4a65c_clear_da8c8_0 rfl (lv_at hl 0 rfl) ?_
  refine lv_dup C.x C.b dJx4a65c_clear_da8c8_1 rfl ?_
  refine k_get (X := RJx4a65c) (T := TJx4a65c) (N := 3) (v := .int mc) C hX (hM.at 0 rfl) rfl hin_Jx4a65c_clear_da8c8_RJx4a65c 0 (by decide) lk_Jx4a65c_clear_da8c8_f63 (u_same (C.ts _ lk_Jx4a65c_clear_da8c8_sfmodCount)) rfl dJx4a65c_clear_da8c8_2 ?_
  refine lv_iconst (v := nI 1) C.x C.b dJx4a65c_clear_da8c8_5 (by decide) ?_
  refine lv_iadd C.x C.b dJx4a65c_clear_da8c8_6 ?_
  refine k_put (X := RJx4a65c) (T := TJx4a65c) (N := 3) (ty := .int) (v := .int (mc + (nI 1))) C hX (hM.at 0 rfl) rfl hin_Jx4a65c_clear_da8c8_RJx4a65c tyJx4a65c_ok nmJx4a65c 0 (by decide) lk_Jx4a65c_clear_da8c8_f63 (u_same (C.ts _ lk_Jx4a65c_clear_da8c8_sfmodCount)) rfl (by decide +kernel) rfl rfl (Nat.le_of_ble_eq_true rfl) dJx4a65c_clear_da8c8_7 (fun H locs hX => ?_)
  obtain ⟨g1, hX, hM, hO⟩ := kX.wr hX hM hO 0 rfl (List.mem_of_getElem? (i := 0) rfl)
  have hM : kCs g1 ([(h, .inr (0, [.int (mc + (nI 1)), .ref q, .int (nI sz)])), (q, kaO G cap g0)]) := hM
  refine lv_aload_n C.x C.b dJx4a65c_clear_da8c8_10 rfl (lv_at hl 0 rfl) ?_
  refine k_get (X := RJx4a65c) (T := TJx4a65c) (N := 3) (v := .ref q) C hX (hM.at 0 rfl) rfl hin_Jx4a65c_clear_da8c8_RJx4a65c 1 (by decide) lk_Jx4a65c_clear_da8c8_f9 (fun _ h9 => h9) rfl dJx4a65c_clear_da8c8_11 ?_
  refine lv_astore_n (lv' := [(1, .ref q), (0, .ref h)]) C.x C.b dJx4a65c_clear_da8c8_14 rfl hl (by decide) rfl (fun ls hl => ?_)
  refine lv_aload_n C.x C.b dJx4a65c_clear_da8c8_15 rfl (lv_at hl 1 rfl) ?_
  refine k_get (X := RJx4a65c) (T := TJx4a65c) (N := 3) (v := .int (nI sz)) C hX (hM.at 0 rfl) rfl hin_Jx4a65c_clear_da8c8_RJx4a65c 2 (by decide) lk_Jx4a65c_clear_da8c8_f48 (fun _ h9 => h9) rfl dJx4a65c_clear_da8c8_16 ?_
  refine lv_istore_n (lv' := [(2, .int (nI sz)), (1, .ref q), (0, .ref h)]) C.x C.b dJx4a65c_clear_da8c8_19 rfl hl (by decide) rfl (fun ls hl => ?_)
  refine lv_aload_n C.x C.b dJx4a65c_clear_da8c8_20 rfl (lv_at hl 2 rfl) ?_
  refine lv_iconst (v := nI 0) C.x C.b dJx4a65c_clear_da8c8_21 (by decide) ?_
  refine lv_dup_x1 C.x C.b dJx4a65c_clear_da8c8_22 rfl rfl ?_
  refine k_put (X := RJx4a65c) (T := TJx4a65c) (N := 3) (ty := .int) (v := .int (nI 0)) C hX (hM.at 0 rfl) rfl hin_Jx4a65c_clear_da8c8_RJx4a65c tyJx4a65c_ok nmJx4a65c 2 (by decide) lk_Jx4a65c_clear_da8c8_f48 (fun _ h9 => h9) rfl (by decide +kernel) rfl rfl (Nat.le_of_ble_eq_true rfl) dJx4a65c_clear_da8c8_23 (fun H locs hX => ?_)
  obtain ⟨g2, hX, hM, hO⟩ := kX.wr hX hM hO 0 rfl (List.mem_of_getElem? (i := 0) rfl)
  have hM : kCs g2 ([(h, .inr (0, [.int (mc + (nI 1)), .ref q, .int (nI 0)])), (q, kaO G cap g0)]) := hM
  rw [← kClr0 g0] at hM
  refine lv_istore_n (lv' := [(3, .int (nI 0)), (2, .int (nI sz)), (1, .ref q), (0, .ref h)]) C.x C.b dJx4a65c_clear_da8c8_26 rfl hl (by decide) rfl (fun ls hl => ?_)
  have LOOP27 : ∀ (n : Nat) (k : Nat), (k ≤ sz) → (sz - k) < n → ∀ (ls : Array Slot), lv_has ls 4 [(3, .int (nI k)), (2, .int (nI sz)), (1, .ref q), (0, .ref h)] → ∀ (fL : kH), kCs fL ([(h, .inr (0, [.int (mc + nI 1), .ref q, .int (nI 0)])), (q, kaO G cap (fun j => if j < k then none else g0 j))]) → kOff [h, q] f fL → ∀ (H : Heap) (locs : List Loc), kX G B0 s fL H locs → W p l e (rmJx4a65c_clear_da8c8_n) s m args below meth c H locs 0 0 Q (F0 m 27 ls []) := by
    intro n27
    induction n27 with
    | zero => intro k hk hn; exact absurd hn (Nat.not_lt_zero _)
    | succ n27 ih27 =>
      intro k hk hn ls hl fL hM hO H locs hX
      refine lv_iload_n C.x C.b dJx4a65c_clear_da8c8_27 rfl (lv_at hl 0 rfl) ?_
      refine lv_iload_n C.x C.b dJx4a65c_clear_da8c8_28 rfl (lv_at hl 1 rfl) ?_
      refine lv_icmp_ge (tgt := 42) C.x C.b dJx4a65c_clear_da8c8_29 (by decide) (fun c_29 => ?_) (fun c_29 => ?_)
      · skip
        have c_29 : sz ≤ k := (nI_leI (by omega) (by omega)).mp c_29
        exact k_vret C hX hr hlocks hQ (by omega) (by omega) (by rw [show sz = k from (by omega)]; exact ⟨hM, hO⟩) dJx4a65c_clear_da8c8_42
      · skip
        have c_29 : ¬ (sz ≤ k) := fun h9 => c_29 ((nI_leI (by omega) (by omega)).mpr h9)
        refine lv_aload_n C.x C.b dJx4a65c_clear_da8c8_32 rfl (lv_at hl 2 rfl) ?_
        refine lv_iload_n C.x C.b dJx4a65c_clear_da8c8_33 rfl (lv_at hl 0 rfl) ?_
        refine lv_null C.x C.b dJx4a65c_clear_da8c8_34 ?_
        refine k_aastN C hX (hM.at 1 rfl) (vp_in_nI (by omega) (by omega)) dJx4a65c_clear_da8c8_35 (fun H locs hX => ?_)
        rw [nI_clamp (by omega)] at hX
        obtain ⟨g4, hX, hM, hO⟩ := kX.wr hX hM hO 1 rfl (List.mem_of_getElem? (i := 1) rfl)
        have hM : kCs g4 ([(h, .inr (0, [.int (mc + nI 1), .ref q, .int (nI 0)])), (q, kaO G cap (va_up (fun j => if j < k then none else g0 j) k none))]) := hM
        rw [show (va_up (fun j => if j < k then none else g0 j) k none) = (fun j => if j < k + 1 then none else g0 j) from kClr _ _] at hM
        have hM : kCs g4 ([(h, .inr (0, [.int (mc + nI 1), .ref q, .int (nI 0)])), (q, kaO G cap (fun j => if j < k + 1 then none else g0 j))]) := hM
        refine lv_iinc (v := (nI (k + 1))) (lv' := [(3, .int (nI (k + 1))), (2, .int (nI sz)), (1, .ref q), (0, .ref h)]) C.x C.b dJx4a65c_clear_da8c8_36 hl (k := 0) rfl (nI_1 _) (by decide) rfl (fun ls hl => ?_)
        refine lv_goto (tgt := 27) C.x C.b dJx4a65c_clear_da8c8_39 (by decide) ?_
        exact ih27 (k + 1) (by omega) (by omega) ls (lv_sub hl [0, 1, 2, 3] rfl) _ hM hO _ _ hX
  exact LOOP27 _ 0 (by omega) (Nat.lt_succ_self _) ls (lv_sub hl [0, 1, 2, 3] rfl) _ hM hO _ _ hX

abbrev rmX4_lineOf : Room := { frames := 0, cells := 0, slots := 0, locals := 0 }
set_option maxHeartbeats 4000000 in
set_option maxRecDepth 100000 in
/-- X4_lineOf -/
theorem kX4_lineOf (l : Launch) (G : kG) (B0 : Nat) (f : kH) (a b : Nat) (ha : a < 16) (hb : b < 16) : Met l yX4_lineOf wsX4_lineOf (rmX4_lineOf) (kP G B0 f [.int (nI a), .int (nI b)]) (kQi G B0 (fun r f1 => r = (if a = b then -1 else if a < b then nI a else nI (a - 1)) ∧ f1 = f)) 0 0 (kAb B0) := by
  refine kMet (cc := cX4_lineOf) (maxL := 2) (ret := (some .int)) (by decide) rfl (Nat.le_of_ble_eq_true rfl) ?_
  intro p e s m args below meth c H locs Q ls C hX hl hr hlocks hnm hQ
  have hl : lv_has ls 2 [(0, .int (nI a)), (1, .int (nI b))] := hl
  refine lv_iload_n C.x C.b dX4_lineOf_0 rfl (lv_at hl 0 rfl) ?_
  refine lv_iload_n C.x C.b dX4_lineOf_1 rfl (lv_at hl 1 rfl) ?_
  refine lv_icmp_ne (tgt := 7) C.x C.b dX4_lineOf_2 (by decide) (fun c_2 => ?_) (fun c_2 => ?_)
  · skip
    have c_2 : ¬ (a = b) := fun h9 => c_2 ((nI_eq (by omega) (by omega)).mpr h9)
    refine lv_iload_n C.x C.b dX4_lineOf_7 rfl (lv_at hl 0 rfl) ?_
    refine lv_iload_n C.x C.b dX4_lineOf_8 rfl (lv_at hl 1 rfl) ?_
    refine lv_icmp_ge (tgt := 16) C.x C.b dX4_lineOf_9 (by decide) (fun c_9 => ?_) (fun c_9 => ?_)
    · skip
      have c_9 : b ≤ a := (nI_leI (by omega) (by omega)).mp c_9
      refine lv_iload_n C.x C.b dX4_lineOf_16 rfl (lv_at hl 0 rfl) ?_
      refine lv_iconst (v := nI 1) C.x C.b dX4_lineOf_17 (by decide) ?_
      refine lv_isub C.x C.b dX4_lineOf_18 ?_
      refine k_topi (y := (nI (a - 1))) (pk_sub (by omega)) ?_
      exact k_iret C hX hr hlocks hQ (by omega) (by omega) (by refine ⟨?_, rfl⟩; first | (rw [if_pos c_2]; done) | (rw [if_neg c_2, if_pos (show a < b by omega)]; done) | (rw [if_neg c_2, if_neg (show ¬ a < b by omega)]; done)) dX4_lineOf_19
    · skip
      have c_9 : ¬ (b ≤ a) := fun h9 => c_9 ((nI_leI (by omega) (by omega)).mpr h9)
      refine lv_iload_n C.x C.b dX4_lineOf_12 rfl (lv_at hl 0 rfl) ?_
      refine lv_goto (tgt := 19) C.x C.b dX4_lineOf_13 (by decide) ?_
      exact k_iret C hX hr hlocks hQ (by omega) (by omega) (by refine ⟨?_, rfl⟩; first | (rw [if_pos c_2]; done) | (rw [if_neg c_2, if_pos (show a < b by omega)]; done) | (rw [if_neg c_2, if_neg (show ¬ a < b by omega)]; done)) dX4_lineOf_19
  · skip
    have c_2 : a = b := (nI_eq (by omega) (by omega)).mp c_2
    refine lv_iconst (v := -1) C.x C.b dX4_lineOf_5 (by decide) ?_
    exact k_iret C hX hr hlocks hQ (by omega) (by omega) (by refine ⟨?_, rfl⟩; first | (rw [if_pos c_2]; done) | (rw [if_neg c_2, if_pos (show a < b by omega)]; done) | (rw [if_neg c_2, if_neg (show ¬ a < b by omega)]; done)) dX4_lineOf_6
