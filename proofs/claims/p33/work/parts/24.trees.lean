theorem mxD_z (sz : Nat) (hsz : sz ≤ 5) : ∀ (n k : Nat) (z : Nat → Nat) (M : Nat → Nat → Int64) (pb sg : Int64), k + n ≤ sz → mxZ z → mxZ (mxD sz n k z M pb sg).2.1
  | 0, _, _, _, _, _, _, hz => hz
  | n + 1, k, z, M, pb, sg, hk, hz => by
    by_cases h1 : mxPv (mxN z M) k (sz - k) k = -1
    · rw [mxD_0 h1]; exact hz
    · obtain ⟨t, ht1, ht2, et⟩ := mxPv_in (mxN z M) k (sz - k) k h1
      by_cases h2 : t = k
      · rw [mxD_e h1 (by rw [et, h2])]
        exact mxD_z sz hsz n (k + 1) _ _ _ _ (by omega) hz
      · rw [mxD_s h1 et h2 (by omega) (by omega)]
        exact mxD_z sz hsz n (k + 1) _ _ _ _ (by omega) (mxZ_swap hz (by omega) (by omega))
abbrev mxDet (n : Nat) (z : Nat → Nat) (M : Nat → Nat → Int64) : Int64 × (Nat → Nat) × (Nat → Nat → Int64) := mxD n n 0 z M 1 1
def mxCol (z : Nat → Nat) (cl : Nat) (ln : Int32) : Nat → (Nat → Nat → Int64) → (Nat → Nat → Int64)
  | 0, M => M
  | k + 1, M => mxSet (mxCol z cl ln k M) (z k) (vp_updL (mxCol z cl ln k M (z k)) cl (if nI k = ln then 1 else 0))
def mxH (z e1 e2 : Nat → Nat) (nc sz : Nat) (M : Nat → Nat → Int64) (a b t : Nat) : Int64 × (Nat → Nat) × (Nat → Nat → Int64) := if lnOf a t = -1 then (0, z, M) else mxDet (nc - 1) z (mxCol z (lnOf a t).toNatClampNeg (lnOf b t) (nc - 1) (mxFill z e1 e2 nc sz t M))
theorem mxH_z {z e1 e2 : Nat → Nat} {nc sz : Nat} {M : Nat → Nat → Int64} {a b t : Nat} (hz : mxZ z) (hn : nc ≤ 6) : mxZ (mxH z e1 e2 nc sz M a b t).2.1 := by
  unfold mxH
  split
  · exact hz
  · exact mxD_z (nc - 1) (by omega) _ _ _ _ _ _ (by omega) hz
abbrev hgE (e1 e2 : Nat → Nat) (k : Nat) : Int32 := (nI 1 <<< (nI (e1 k) &&& 31)) ||| (nI 1 <<< (nI (e2 k) &&& 31))
def hgI (set : Int32) (e1 e2 : Nat → Nat) : Nat → Int32 → Int32
  | 0, x => x
  | k + 1, x => if (set >>> (nI k &&& 31)) &&& nI 1 = nI 1 ∧ ¬ hgI set e1 e2 k x &&& hgE e1 e2 k = 0 then hgI set e1 e2 k x ||| hgE e1 e2 k else hgI set e1 e2 k x
def hgO (set : Int32) (e1 e2 : Nat → Nat) (sz : Nat) : Nat → Int32
  | 0 => nI 1
  | j + 1 => hgI set e1 e2 sz (hgO set e1 e2 sz j)
abbrev hgP (set : Int32) (e1 e2 : Nat → Nat) (nc sz : Nat) : Prop := hgO set e1 e2 sz (nc - 1) = (nI 1 <<< (nI nc &&& 31)) - nI 1

theorem hdX4_treesByTable_X4_fillTable : yX4_fillTable.cls ≠ "java/lang/invoke/MethodHandle" ∧ yX4_fillTable.cls ≠ "java/lang/invoke/VarHandle" ∧ (parseMethodDescriptor yX4_fillTable.desc).map (fun d => d.parameters.length) = some 1 := by decide +kernel
theorem lk_X4_treesByTable_f23 : Cond.fieldLink RX4 23 "Koebehall$Network" "nodeCount" "I" ∈ wsX4_treesByTable := by decide +kernel
theorem hin_X4_treesByTable_RX4 : ∀ w ∈ u_ws RX4 TX4 3, w ∈ wsX4_treesByTable := by decide +kernel
theorem hdX4_treesByTable_X4_determinant : yX4_determinant.cls ≠ "java/lang/invoke/MethodHandle" ∧ yX4_determinant.cls ≠ "java/lang/invoke/VarHandle" ∧ (parseMethodDescriptor yX4_determinant.desc).map (fun d => d.parameters.length) = some 1 := by decide +kernel
abbrev rmX4_treesByTable : Room := { frames := 4, cells := 0, slots := 0, locals := 88 }
set_option maxHeartbeats 4000000 in
set_option maxRecDepth 100000 in
/-- X4_treesByTable -/
theorem kX4_treesByTable (l : Launch) (G : kG) (B0 : Nat) (f : kH) (h wL tA nc : Nat) (r z : Nat → Nat) (M : Nat → Nat → Int64) (sz : Nat) (w e1 e2 : Nat → Nat) (hM : kCs f (mxW G h wL tA nc r z M)) (hz : mxZ z) (hwl : kWl G f (mxAs h tA r) wL sz w e1 e2) (hnc : nc ≤ 6) (hnc1 : 1 ≤ nc) (hsz : sz ≤ 10) (he : ∀ k : Nat, k < sz → e1 k < nc ∧ e2 k < nc) : Met l yX4_treesByTable wsX4_treesByTable (rmX4_treesByTable) (kP G B0 f [.ref h]) (kQl G B0 (fun r9 f1 => r9 = (mxDet (nc - 1) z (mxFill z e1 e2 nc sz 0 M)).1 ∧ kCs f1 (mxW G h wL tA nc r ((mxDet (nc - 1) z (mxFill z e1 e2 nc sz 0 M)).2.1) ((mxDet (nc - 1) z (mxFill z e1 e2 nc sz 0 M)).2.2)) ∧ kOff (mxAs h tA r) f f1)) 0 0 (kAb B0) := by
  refine kMet (cc := cX4_treesByTable) (maxL := 1) (ret := (some .long)) (by decide) rfl (Nat.le_of_ble_eq_true rfl) ?_
  intro p e s m args below meth c H locs Q ls C hX hl hr hlocks hnm hQ
  have hO : kOff (mxAs h tA r) f f := kOff.rf
  have hl : lv_has ls 1 [(0, .ref h)] := hl
  have hwl0 := hwl
  have hO : kOff (mxAs h tA r) f f := kOff.rf
  refine lv_aload_n C.x C.b dX4_treesByTable_0 rfl (lv_at hl 0 rfl) ?_
  refine lv_iconst (v := nI 0) C.x C.b dX4_treesByTable_1 (by decide) ?_
  refine k_callv (va_runV (As := [.int (nI 0)]) (rest := []) C.1 (kX4_fillTable l G B0 f h wL tA nc r z M sz w e1 e2 0 hM hz hwl hnc hnc1 hsz he (by omega)) (cwV 1 C.ts gX4_treesByTable_X4_fillTable rfl rfl rfl ⟨rfl, hdX4_treesByTable_X4_fillTable⟩ ⟨Nat.le_of_ble_eq_true rfl, Nat.le_of_ble_eq_true rfl⟩) (k_preV C hX (hM.at 0 rfl) rfl) rfl rfl hl.1 rfl (lv_room (Nat.le_of_ble_eq_true rfl)) dX4_treesByTable_2 ⟨Nat.le_of_ble_eq_true rfl, Nat.le_of_ble_eq_true rfl⟩) hX (fun f2 H locs hp2 hX => ?_)
  obtain ⟨hM, hO2⟩ := hp2
  have hO := hO.trans hO2
  have hM : kCs f2 (mxW G h wL tA nc r z (mxFill z e1 e2 nc sz 0 M)) := hM
  refine lv_aload_n C.x C.b dX4_treesByTable_5 rfl (lv_at hl 0 rfl) ?_
  refine lv_aload_n C.x C.b dX4_treesByTable_6 rfl (lv_at hl 0 rfl) ?_
  refine k_get (X := RX4) (T := TX4) (N := 3) (v := .int (nI nc)) C hX (hM.at 0 rfl) rfl hin_X4_treesByTable_RX4 2 (by decide) lk_X4_treesByTable_f23 (fun _ h9 => h9) rfl dX4_treesByTable_7 ?_
  refine lv_iconst (v := nI 1) C.x C.b dX4_treesByTable_10 (by decide) ?_
  refine lv_isub C.x C.b dX4_treesByTable_11 ?_
  refine k_topi (y := (nI (nc - 1))) (pk_sub (by omega)) ?_
  refine k_calll (va_runV (As := [.int (nI (nc - 1))]) (rest := []) C.1 (kX4_determinant l G B0 f2 h wL tA nc r z (mxFill z e1 e2 nc sz 0 M) (nc - 1) hM hz (by omega)) (cwV 1 C.ts gX4_treesByTable_X4_determinant rfl rfl rfl ⟨rfl, hdX4_treesByTable_X4_determinant⟩ ⟨Nat.le_of_ble_eq_true rfl, Nat.le_of_ble_eq_true rfl⟩) (k_preV C hX (hM.at 0 rfl) rfl) rfl rfl hl.1 rfl (lv_room (Nat.le_of_ble_eq_true rfl)) dX4_treesByTable_12 ⟨Nat.le_of_ble_eq_true rfl, Nat.le_of_ble_eq_true rfl⟩) hX (fun r12 f12 H locs hp12 hX => ?_)
  obtain ⟨hr12, hM, hO12⟩ := hp12
  have hO := hO.trans hO12
  have hM : kCs f12 (mxW G h wL tA nc r ((mxDet (nc - 1) z (mxFill z e1 e2 nc sz 0 M)).2.1) ((mxDet (nc - 1) z (mxFill z e1 e2 nc sz 0 M)).2.2)) := hM
  refine k_topl (y := ((mxDet (nc - 1) z (mxFill z e1 e2 nc sz 0 M)).1)) hr12 ?_
  exact k_lret C hX hr hlocks hQ (by omega) (by omega) (⟨rfl, hM, hO⟩) dX4_treesByTable_15

theorem hdX4_heightOf_X4_lineOf : yX4_lineOf.cls ≠ "java/lang/invoke/MethodHandle" ∧ yX4_lineOf.cls ≠ "java/lang/invoke/VarHandle" ∧ (parseMethodDescriptor yX4_lineOf.desc).map (fun d => d.parameters.length) = some 2 := by decide +kernel
theorem hdX4_heightOf_X4_fillTable : yX4_fillTable.cls ≠ "java/lang/invoke/MethodHandle" ∧ yX4_fillTable.cls ≠ "java/lang/invoke/VarHandle" ∧ (parseMethodDescriptor yX4_fillTable.desc).map (fun d => d.parameters.length) = some 1 := by decide +kernel
theorem lk_X4_heightOf_f23 : Cond.fieldLink RX4 23 "Koebehall$Network" "nodeCount" "I" ∈ wsX4_heightOf := by decide +kernel
theorem hin_X4_heightOf_RX4 : ∀ w ∈ u_ws RX4 TX4 3, w ∈ wsX4_heightOf := by decide +kernel
theorem hdX4_heightOf_X4_determinant : yX4_determinant.cls ≠ "java/lang/invoke/MethodHandle" ∧ yX4_determinant.cls ≠ "java/lang/invoke/VarHandle" ∧ (parseMethodDescriptor yX4_determinant.desc).map (fun d => d.parameters.length) = some 1 := by decide +kernel
theorem lk_X4_heightOf_f20 : Cond.fieldLink RX4 20 "Koebehall$Network" "rows" "[[J" ∈ wsX4_heightOf := by decide +kernel
abbrev rmX4_heightOf : Room := { frames := 4, cells := 0, slots := 0, locals := 88 }
set_option maxHeartbeats 4000000 in
set_option maxRecDepth 100000 in
/-- X4_heightOf -/
theorem kX4_heightOf (l : Launch) (G : kG) (B0 : Nat) (f : kH) (h wL tA nc : Nat) (r z : Nat → Nat) (M : Nat → Nat → Int64) (sz : Nat) (w e1 e2 : Nat → Nat) (x y t : Nat) (hM : kCs f (mxW G h wL tA nc r z M)) (hz : mxZ z) (hwl : kWl G f (mxAs h tA r) wL sz w e1 e2) (hnc : nc ≤ 6) (hnc1 : 1 ≤ nc) (hsz : sz ≤ 10) (he : ∀ k : Nat, k < sz → e1 k < nc ∧ e2 k < nc) (hx9 : x < nc) (hy9 : y < nc) (ht9 : t < nc) : Met l yX4_heightOf wsX4_heightOf (rmX4_heightOf) (kP G B0 f [.ref h, .int (nI x), .int (nI y), .int (nI t)]) (kQl G B0 (fun r9 f1 => r9 = (mxH z e1 e2 nc sz M x y t).1 ∧ kCs f1 (mxW G h wL tA nc r ((mxH z e1 e2 nc sz M x y t).2.1) ((mxH z e1 e2 nc sz M x y t).2.2)) ∧ kOff (mxAs h tA r) f f1)) 0 0 (kAb B0) := by
  refine kMet (cc := cX4_heightOf) (maxL := 6) (ret := (some .long)) (by decide) rfl (Nat.le_of_ble_eq_true rfl) ?_
  intro p e s m args below meth c H locs Q ls C hX hl hr hlocks hnm hQ
  have hO : kOff (mxAs h tA r) f f := kOff.rf
  have hl : lv_has ls 6 [(0, .ref h), (1, .int (nI x)), (2, .int (nI y)), (3, .int (nI t))] := hl
  have hwl0 := hwl
  have hO : kOff (mxAs h tA r) f f := kOff.rf
  refine lv_iload_n C.x C.b dX4_heightOf_0 rfl (lv_at hl 1 rfl) ?_
  refine lv_iload_n C.x C.b dX4_heightOf_1 rfl (lv_at hl 3 rfl) ?_
  refine k_calli (va_runS (As := [.int (nI x), .int (nI t)]) (rest := []) C.1 (kX4_lineOf l G B0 f x t (by omega) (by omega)) (va_cwS 2 C.ts gX4_heightOf_X4_lineOf rfl rfl rfl (hdX4_heightOf_X4_lineOf) ⟨Nat.le_of_ble_eq_true rfl, Nat.le_of_ble_eq_true rfl⟩) (k_preS C hX) rfl rfl hl.1 rfl (lv_room (Nat.le_of_ble_eq_true rfl)) dX4_heightOf_2 ⟨Nat.le_of_ble_eq_true rfl, Nat.le_of_ble_eq_true rfl⟩) hX (fun r2 f2 H locs hp2 hX => ?_)
  obtain ⟨hr2, hf2⟩ := hp2
  rw [hf2] at hX
  refine k_topi (y := (lnOf x t)) hr2 ?_
  refine lv_istore (lv' := [(4, .int (lnOf x t)), (0, .ref h), (1, .int (nI x)), (2, .int (nI y)), (3, .int (nI t))]) C.x C.b dX4_heightOf_5 hl (by decide) rfl (fun ls hl => ?_)
  refine lv_iload C.x C.b dX4_heightOf_7 (lv_at hl 0 rfl) ?_
  refine lv_iconst (v := -1) C.x C.b dX4_heightOf_9 (by decide) ?_
  refine lv_icmp_ne (tgt := 15) C.x C.b dX4_heightOf_10 (by decide) (fun c_10 => ?_) (fun c_10 => ?_)
  · skip
    obtain ⟨cl, hcl, ecl⟩ := mIn_of ((lnOf_ok (show x < 6 by omega) (show t < 6 by omega)).resolve_left c_10) (by decide)
    rw [show (lnOf x t) = (nI cl) from ecl] at hl
    refine lv_aload_n C.x C.b dX4_heightOf_15 rfl (lv_at hl 1 rfl) ?_
    refine lv_iload_n C.x C.b dX4_heightOf_16 rfl (lv_at hl 4 rfl) ?_
    refine k_callv (va_runV (As := [.int (nI t)]) (rest := []) C.1 (kX4_fillTable l G B0 f h wL tA nc r z M sz w e1 e2 t hM hz hwl hnc hnc1 hsz he (by omega)) (cwV 1 C.ts gX4_heightOf_X4_fillTable rfl rfl rfl ⟨rfl, hdX4_heightOf_X4_fillTable⟩ ⟨Nat.le_of_ble_eq_true rfl, Nat.le_of_ble_eq_true rfl⟩) (k_preV C hX (hM.at 0 rfl) rfl) rfl rfl hl.1 rfl (lv_room (Nat.le_of_ble_eq_true rfl)) dX4_heightOf_17 ⟨Nat.le_of_ble_eq_true rfl, Nat.le_of_ble_eq_true rfl⟩) hX (fun f17 H locs hp17 hX => ?_)
    obtain ⟨hM, hO17⟩ := hp17
    have hO := hO.trans hO17
    have hM : kCs f17 (mxW G h wL tA nc r z (mxFill z e1 e2 nc sz t M)) := hM
    refine lv_iconst (v := nI 0) C.x C.b dX4_heightOf_20 (by decide) ?_
    refine lv_istore (lv' := [(5, .int (nI 0)), (4, .int (nI cl)), (0, .ref h), (1, .int (nI x)), (2, .int (nI y)), (3, .int (nI t))]) C.x C.b dX4_heightOf_21 hl (by decide) rfl (fun ls hl => ?_)
    have LOOP23 : ∀ (n : Nat) (k : Nat) (Mo : Nat → Nat → Int64), (k ≤ nc - 1) → (Mo = mxCol z cl (lnOf y t) k (mxFill z e1 e2 nc sz t M)) → (nc - k) < n → ∀ (ls : Array Slot), lv_has ls 6 [(5, .int (nI k)), (4, .int (nI cl)), (0, .ref h), (1, .int (nI x)), (2, .int (nI y)), (3, .int (nI t))] → ∀ (fL : kH), kCs fL (mxW G h wL tA nc r z Mo) → kOff (mxAs h tA r) f fL → ∀ (H : Heap) (locs : List Loc), kX G B0 s fL H locs → W p l e (rmX4_heightOf) s m args below meth c H locs 0 0 Q (F0 m 23 ls []) := by
      intro n23
      induction n23 with
      | zero => intro k Mo hk hMo hn; exact absurd hn (Nat.not_lt_zero _)
      | succ n23 ih23 =>
        intro k Mo hk hMo hn ls hl fL hM hO H locs hX
        refine lv_iload C.x C.b dX4_heightOf_23 (lv_at hl 0 rfl) ?_
        refine lv_aload_n C.x C.b dX4_heightOf_25 rfl (lv_at hl 2 rfl) ?_
        refine k_get (X := RX4) (T := TX4) (N := 3) (v := .int (nI nc)) C hX (hM.at 0 rfl) rfl hin_X4_heightOf_RX4 2 (by decide) lk_X4_heightOf_f23 (fun _ h9 => h9) rfl dX4_heightOf_26 ?_
        refine lv_iconst (v := nI 1) C.x C.b dX4_heightOf_29 (by decide) ?_
        refine lv_isub C.x C.b dX4_heightOf_30 ?_
        refine k_topi (y := (nI (nc - 1))) (pk_sub (by omega)) ?_
        refine lv_icmp_ge (tgt := 65) C.x C.b dX4_heightOf_31 (by decide) (fun c_31 => ?_) (fun c_31 => ?_)
        · skip
          have c_31 : nc - 1 ≤ k := (nI_leI (by omega) (by omega)).mp c_31
          refine lv_aload_n C.x C.b dX4_heightOf_65 rfl (lv_at hl 2 rfl) ?_
          refine lv_aload_n C.x C.b dX4_heightOf_66 rfl (lv_at hl 2 rfl) ?_
          refine k_get (X := RX4) (T := TX4) (N := 3) (v := .int (nI nc)) C hX (hM.at 0 rfl) rfl hin_X4_heightOf_RX4 2 (by decide) lk_X4_heightOf_f23 (fun _ h9 => h9) rfl dX4_heightOf_67 ?_
          refine lv_iconst (v := nI 1) C.x C.b dX4_heightOf_70 (by decide) ?_
          refine lv_isub C.x C.b dX4_heightOf_71 ?_
          refine k_topi (y := (nI (nc - 1))) (pk_sub (by omega)) ?_
          refine k_calll (va_runV (As := [.int (nI (nc - 1))]) (rest := []) C.1 (kX4_determinant l G B0 fL h wL tA nc r z Mo (nc - 1) hM hz (by omega)) (cwV 1 C.ts gX4_heightOf_X4_determinant rfl rfl rfl ⟨rfl, hdX4_heightOf_X4_determinant⟩ ⟨Nat.le_of_ble_eq_true rfl, Nat.le_of_ble_eq_true rfl⟩) (k_preV C hX (hM.at 0 rfl) rfl) rfl rfl hl.1 rfl (lv_room (Nat.le_of_ble_eq_true rfl)) dX4_heightOf_72 ⟨Nat.le_of_ble_eq_true rfl, Nat.le_of_ble_eq_true rfl⟩) hX (fun r72 f72 H locs hp72 hX => ?_)
          obtain ⟨hr72, hM, hO72⟩ := hp72
          have hO := hO.trans hO72
          have hM : kCs f72 (mxW G h wL tA nc r ((mxDet (nc - 1) z Mo).2.1) ((mxDet (nc - 1) z Mo).2.2)) := hM
          refine k_topl (y := ((mxDet (nc - 1) z Mo).1)) hr72 ?_
          exact k_lret C hX hr hlocks hQ (by omega) (by omega) (by first | (rw [show mxH z e1 e2 nc sz M x y t = (0, z, M) from if_pos c_10]; exact ⟨rfl, hM, hO⟩) | (rw [show mxH z e1 e2 nc sz M x y t = mxDet (nc - 1) z Mo from (by rw [hMo, show k = nc - 1 from (by omega), mxH, if_neg c_10, ecl, nI_clamp (by omega)])]; exact ⟨rfl, hM, hO⟩)) dX4_heightOf_75
        · skip
          have c_31 : ¬ (nc - 1 ≤ k) := fun h9 => c_31 ((nI_leI (by omega) (by omega)).mpr h9)
          refine lv_aload_n C.x C.b dX4_heightOf_34 rfl (lv_at hl 2 rfl) ?_
          refine k_get (X := RX4) (T := TX4) (N := 3) (v := .ref tA) C hX (hM.at 0 rfl) rfl hin_X4_heightOf_RX4 1 (by decide) lk_X4_heightOf_f20 (fun _ h9 => h9) rfl dX4_heightOf_35 ?_
          refine lv_iload C.x C.b dX4_heightOf_38 (lv_at hl 0 rfl) ?_
          refine k_rald C hX (hM.at 1 rfl) (vp_in_nI (by omega) (by omega)) dX4_heightOf_40 ?_
          rw [nI_clamp (by omega)]
          refine k_topq (v := r (z k)) (if_pos (by omega)) ?_
          refine lv_iload C.x C.b dX4_heightOf_41 (lv_at hl 1 rfl) ?_
          refine lv_iload C.x C.b dX4_heightOf_43 (lv_at hl 0 rfl) ?_
          refine lv_iload_n C.x C.b dX4_heightOf_45 rfl (lv_at hl 4 rfl) ?_
          refine lv_iload_n C.x C.b dX4_heightOf_46 rfl (lv_at hl 5 rfl) ?_
          refine k_calli (va_runS (As := [.int (nI y), .int (nI t)]) (rest := [.int (nI k), .int (nI cl), .ref (r (z k))]) C.1 (kX4_lineOf l G B0 fL y t (by omega) (by omega)) (va_cwS 2 C.ts gX4_heightOf_X4_lineOf rfl rfl rfl (hdX4_heightOf_X4_lineOf) ⟨Nat.le_of_ble_eq_true rfl, Nat.le_of_ble_eq_true rfl⟩) (k_preS C hX) rfl rfl hl.1 rfl (lv_room (Nat.le_of_ble_eq_true rfl)) dX4_heightOf_47 ⟨Nat.le_of_ble_eq_true rfl, Nat.le_of_ble_eq_true rfl⟩) hX (fun r47 f47 H locs hp47 hX => ?_)
          obtain ⟨hr47, hf47⟩ := hp47
          rw [hf47] at hX
          refine k_topi (y := (lnOf y t)) hr47 ?_
          have J58 : ∀ (ls : Array Slot), lv_has ls 6 [(5, .int (nI k)), (4, .int (nI cl)), (0, .ref h), (1, .int (nI x)), (2, .int (nI y)), (3, .int (nI t))] → ∀ (H : Heap) (locs : List Loc), kX G B0 s fL H locs → W p l e (rmX4_heightOf) s m args below meth c H locs 0 0 Q (F0 m 58 ls [.long (if nI k = lnOf y t then 1 else 0), .int (nI cl), .ref (r (z k))]) := by
            intro ls hl H locs hX
            refine k_last C hX (mx_row hM (hz _ (by omega))) (vp_in_nI (by omega) (by omega)) dX4_heightOf_58 (fun H locs hX => ?_)
            rw [nI_clamp (by omega)] at hX
            obtain ⟨g2, hX, hM, hO⟩ := mx_wr hX hM hO (hz _ (by omega))
            have hM : kCs g2 (mxW G h wL tA nc r z (mxSet Mo (z k) (vp_updL (Mo (z k)) cl (if nI k = lnOf y t then 1 else 0)))) := hM
            refine lv_iinc (v := (nI (k + 1))) (lv' := [(5, .int (nI (k + 1))), (4, .int (nI cl)), (0, .ref h), (1, .int (nI x)), (2, .int (nI y)), (3, .int (nI t))]) C.x C.b dX4_heightOf_59 hl (k := 0) rfl (nI_1 _) (by decide) rfl (fun ls hl => ?_)
            refine lv_goto (tgt := 23) C.x C.b dX4_heightOf_62 (by decide) ?_
            exact ih23 (k + 1) (mxSet Mo (z k) (vp_updL (Mo (z k)) cl (if nI k = lnOf y t then 1 else 0))) (by omega) (by rw [mxCol, ← hMo]) (by omega) ls (lv_sub hl [0, 1, 2, 3, 4, 5] rfl) _ hM hO _ _ hX
          refine lv_icmp_ne (tgt := 57) C.x C.b dX4_heightOf_50 (by decide) (fun c_50 => ?_) (fun c_50 => ?_)
          · skip
            refine lv_lconst (v := 0) C.x C.b dX4_heightOf_57 (by decide) ?_
            refine k_topl (y := (if nI k = lnOf y t then 1 else 0)) (by first | rw [if_pos c_50] | rw [if_neg c_50]) ?_
            exact J58 ls (lv_sub hl [0, 1, 2, 3, 4, 5] rfl) _ _ hX
          · skip
            refine lv_lconst (v := 1) C.x C.b dX4_heightOf_53 (by decide) ?_
            refine lv_goto (tgt := 58) C.x C.b dX4_heightOf_54 (by decide) ?_
            refine k_topl (y := (if nI k = lnOf y t then 1 else 0)) (by first | rw [if_pos c_50] | rw [if_neg c_50]) ?_
            exact J58 ls (lv_sub hl [0, 1, 2, 3, 4, 5] rfl) _ _ hX
    exact LOOP23 _ 0 (mxFill z e1 e2 nc sz t M) (by omega) rfl (Nat.lt_succ_self _) ls (lv_sub hl [0, 1, 2, 3, 4, 5] rfl) _ hM hO _ _ hX
  · skip
    refine lv_lconst (v := 0) C.x C.b dX4_heightOf_13 (by decide) ?_
    exact k_lret C hX hr hlocks hQ (by omega) (by omega) (by first | (rw [show mxH z e1 e2 nc sz M x y t = (0, z, M) from if_pos c_10]; exact ⟨rfl, hM, hO⟩) | (rw [show mxH z e1 e2 nc sz M x y t = mxDet (nc - 1) z Mo from (by rw [hMo, show k = nc - 1 from (by omega), mxH, if_neg c_10, ecl, nI_clamp (by omega)])]; exact ⟨rfl, hM, hO⟩)) dX4_heightOf_14

theorem hdX4_fallAlong_X4_hasWire : yX4_hasWire.cls ≠ "java/lang/invoke/MethodHandle" ∧ yX4_hasWire.cls ≠ "java/lang/invoke/VarHandle" ∧ (parseMethodDescriptor yX4_hasWire.desc).map (fun d => d.parameters.length) = some 1 := by decide +kernel
abbrev rmX4_fallAlong_no : Room := { frames := 2, cells := 0, slots := 0, locals := 41 }
set_option maxHeartbeats 4000000 in
set_option maxRecDepth 100000 in
/-- X4_fallAlong_no -/
theorem kX4_fallAlong_no (l : Launch) (G : kG) (B0 : Nat) (f : kH) (h wL tA nc : Nat) (r z : Nat → Nat) (M : Nat → Nat → Int64) (sz : Nat) (w e1 e2 : Nat → Nat) (a b d9 : Int32) (hM : kCs f (mxW G h wL tA nc r z M)) (hz : mxZ z) (hwl : kWl G f (mxAs h tA r) wL sz w e1 e2) (hnc : nc ≤ 6) (hnc1 : 1 ≤ nc) (hsz : sz ≤ 10) (he : ∀ k : Nat, k < sz → e1 k < nc ∧ e2 k < nc) (hv : ¬ mIn a sz) : Met l yX4_fallAlong wsX4_fallAlong (rmX4_fallAlong_no) (kP G B0 f [.ref h, .int a, .int b, .int d9]) (kQl G B0 (fun r9 f1 => r9 = 0 ∧ f1 = f)) 0 0 (kAb B0) := by
  refine kMet (cc := cX4_fallAlong) (maxL := 5) (ret := (some .long)) (by decide) rfl (Nat.le_of_ble_eq_true rfl) ?_
  intro p e s m args below meth c H locs Q ls C hX hl hr hlocks hnm hQ
  have hl : lv_has ls 5 [(0, .ref h), (1, .int a), (2, .int b), (3, .int d9)] := hl
  have hwl0 := hwl
  have hO : kOff (mxAs h tA r) f f := kOff.rf
  refine lv_aload_n C.x C.b dX4_fallAlong_0 rfl (lv_at hl 0 rfl) ?_
  refine lv_iload_n C.x C.b dX4_fallAlong_1 rfl (lv_at hl 1 rfl) ?_
  refine k_calli (va_runV (As := [.int a]) (rest := []) C.1 (kX4_hasWire l G B0 f h wL tA nc r z M sz w e1 e2 a hM hz hwl hnc hnc1 hsz he) (cwV 1 C.ts gX4_fallAlong_X4_hasWire rfl rfl rfl ⟨rfl, hdX4_fallAlong_X4_hasWire⟩ ⟨Nat.le_of_ble_eq_true rfl, Nat.le_of_ble_eq_true rfl⟩) (k_preV C hX (hM.at 0 rfl) rfl) rfl rfl hl.1 rfl (lv_room (Nat.le_of_ble_eq_true rfl)) dX4_fallAlong_2 ⟨Nat.le_of_ble_eq_true rfl, Nat.le_of_ble_eq_true rfl⟩) hX (fun r2 f2 H locs hp2 hX => ?_)
  obtain ⟨hr2, hf2⟩ := hp2
  rw [hf2] at hX
  refine k_topi (y := (kbI (mIn a sz))) hr2 ?_
  refine lv_if_ne (tgt := 10) C.x C.b dX4_fallAlong_5 (by decide) (fun c_5 => ?_) (fun c_5 => ?_)
  · exact absurd (kbI_1 c_5) (hv)
  refine lv_lconst (v := 0) C.x C.b dX4_fallAlong_8 (by decide) ?_
  exact k_lret C hX hr hlocks hQ (by omega) (by omega) (⟨rfl, rfl⟩) dX4_fallAlong_9

theorem lk_X4_fallAlong_f12 : Cond.fieldLink RX4 12 "Koebehall$Network" "wires" "Ljava/util/ArrayList;" ∈ wsX4_fallAlong := by decide +kernel
theorem hin_X4_fallAlong_RX4 : ∀ w ∈ u_ws RX4 TX4 3, w ∈ wsX4_fallAlong := by decide +kernel
theorem hdX4_fallAlong_Jx4a65c_get_915e3 : yJx4a65c_get_915e3.cls ≠ "java/lang/invoke/MethodHandle" ∧ yJx4a65c_get_915e3.cls ≠ "java/lang/invoke/VarHandle" ∧ (parseMethodDescriptor yJx4a65c_get_915e3.desc).map (fun d => d.parameters.length) = some 1 := by decide +kernel
theorem lk_X4_fallAlong_cl52 : Cond.classLink RX4 52 "Koebehall$Wire" ∈ wsX4_fallAlong := by decide +kernel
theorem hin_X4_fallAlong_RX7 : ∀ w ∈ u_ws RX7 TX7 2, w ∈ wsX4_fallAlong := by decide +kernel
theorem hdX4_fallAlong_X4_heightOf : yX4_heightOf.cls ≠ "java/lang/invoke/MethodHandle" ∧ yX4_heightOf.cls ≠ "java/lang/invoke/VarHandle" ∧ (parseMethodDescriptor yX4_heightOf.desc).map (fun d => d.parameters.length) = some 3 := by decide +kernel
abbrev rmX4_fallAlong : Room := { frames := 5, cells := 0, slots := 0, locals := 113 }
set_option maxHeartbeats 4000000 in
set_option maxRecDepth 100000 in
/-- X4_fallAlong -/
theorem kX4_fallAlong (l : Launch) (G : kG) (B0 : Nat) (f : kH) (h wL tA nc : Nat) (r z : Nat → Nat) (M : Nat → Nat → Int64) (sz : Nat) (w e1 e2 : Nat → Nat) (k y t : Nat) (hM : kCs f (mxW G h wL tA nc r z M)) (hz : mxZ z) (hwl : kWl G f (mxAs h tA r) wL sz w e1 e2) (hnc : nc ≤ 6) (hnc1 : 1 ≤ nc) (hsz : sz ≤ 10) (he : ∀ k : Nat, k < sz → e1 k < nc ∧ e2 k < nc) (hk : k < sz) (hy9 : y < nc) (ht9 : t < nc) : Met l yX4_fallAlong wsX4_fallAlong (rmX4_fallAlong) (kP G B0 f [.ref h, .int (nI k), .int (nI y), .int (nI t)]) (kQl G B0 (fun r9 f1 => r9 = (mxH z e1 e2 nc sz M (e1 k) y t).1 - (mxH (mxH z e1 e2 nc sz M (e1 k) y t).2.1 e1 e2 nc sz (mxH z e1 e2 nc sz M (e1 k) y t).2.2 (e2 k) y t).1 ∧ kCs f1 (mxW G h wL tA nc r ((mxH (mxH z e1 e2 nc sz M (e1 k) y t).2.1 e1 e2 nc sz (mxH z e1 e2 nc sz M (e1 k) y t).2.2 (e2 k) y t).2.1) ((mxH (mxH z e1 e2 nc sz M (e1 k) y t).2.1 e1 e2 nc sz (mxH z e1 e2 nc sz M (e1 k) y t).2.2 (e2 k) y t).2.2)) ∧ kOff (mxAs h tA r) f f1)) 0 0 (kAb B0) := by
  refine kMet (cc := cX4_fallAlong) (maxL := 5) (ret := (some .long)) (by decide) rfl (Nat.le_of_ble_eq_true rfl) ?_
  intro p e s m args below meth c H locs Q ls C hX hl hr hlocks hnm hQ
  have hO : kOff (mxAs h tA r) f f := kOff.rf
  have hl : lv_has ls 5 [(0, .ref h), (1, .int (nI k)), (2, .int (nI y)), (3, .int (nI t))] := hl
  have hwl0 := hwl
  have hO : kOff (mxAs h tA r) f f := kOff.rf
  refine lv_aload_n C.x C.b dX4_fallAlong_0 rfl (lv_at hl 0 rfl) ?_
  refine lv_iload_n C.x C.b dX4_fallAlong_1 rfl (lv_at hl 1 rfl) ?_
  refine k_calli (va_runV (As := [.int (nI k)]) (rest := []) C.1 (kX4_hasWire l G B0 f h wL tA nc r z M sz w e1 e2 (nI k) hM hz hwl hnc hnc1 hsz he) (cwV 1 C.ts gX4_fallAlong_X4_hasWire rfl rfl rfl ⟨rfl, hdX4_fallAlong_X4_hasWire⟩ ⟨Nat.le_of_ble_eq_true rfl, Nat.le_of_ble_eq_true rfl⟩) (k_preV C hX (hM.at 0 rfl) rfl) rfl rfl hl.1 rfl (lv_room (Nat.le_of_ble_eq_true rfl)) dX4_fallAlong_2 ⟨Nat.le_of_ble_eq_true rfl, Nat.le_of_ble_eq_true rfl⟩) hX (fun r2 f2 H locs hp2 hX => ?_)
  obtain ⟨hr2, hf2⟩ := hp2
  rw [hf2] at hX
  refine k_topi (y := (kbI (mIn (nI k) sz))) hr2 ?_
  refine lv_if_ne (tgt := 10) C.x C.b dX4_fallAlong_5 (by decide) (fun c_5 => ?_) (fun c_5 => ?_)
  rotate_left
  · exact absurd ((mIn_nI (by omega)).mpr hk) (kbI_0 c_5)
  refine lv_aload_n C.x C.b dX4_fallAlong_10 rfl (lv_at hl 0 rfl) ?_
  refine k_get (X := RX4) (T := TX4) (N := 3) (v := .ref wL) C hX (hM.at 0 rfl) rfl hin_X4_fallAlong_RX4 0 (by decide) lk_X4_fallAlong_f12 (fun _ h9 => h9) rfl dX4_fallAlong_11 ?_
  refine lv_iload_n C.x C.b dX4_fallAlong_14 rfl (lv_at hl 1 rfl) ?_
  refine k_callq (va_runV (As := [.int (nI k)]) (rest := []) C.1 (kGetW l G B0 f k (by omega) (hwl0.keep hO)) (cwV 1 C.ts gX4_fallAlong_Jx4a65c_get_915e3 rfl rfl rfl ⟨rfl, hdX4_fallAlong_Jx4a65c_get_915e3⟩ ⟨Nat.le_of_ble_eq_true rfl, Nat.le_of_ble_eq_true rfl⟩) (k_preV C hX ((hwl0.keep hO).list.choose_spec) rfl) rfl rfl hl.1 rfl (lv_room (Nat.le_of_ble_eq_true rfl)) dX4_fallAlong_15 ⟨Nat.le_of_ble_eq_true rfl, Nat.le_of_ble_eq_true rfl⟩) hX (fun r15 f15 H locs hp15 hX => ?_)
  obtain ⟨hr15, hf15⟩ := hp15
  rw [hf15] at hX
  refine k_topq (v := w k) hr15 ?_
  refine k_cast C hX ((hwl0.keep hO).wire (by omega)) rfl (C.ts _ lk_X4_fallAlong_cl52) dX4_fallAlong_18 ?_
  refine lv_astore (lv' := [(4, .ref (w k)), (0, .ref h), (1, .int (nI k)), (2, .int (nI y)), (3, .int (nI t))]) C.x C.b dX4_fallAlong_21 hl (by decide) rfl (fun ls hl => ?_)
  refine lv_aload_n C.x C.b dX4_fallAlong_23 rfl (lv_at hl 1 rfl) ?_
  refine lv_aload C.x C.b dX4_fallAlong_24 (lv_at hl 0 rfl) ?_
  refine k_getN (host := "Koebehall") (X := RX7) (T := TX7) (N := 2) (v := .int (nI (e1 k))) C hX ((hwl0.keep hO).wire (by omega)) rfl hin_X4_fallAlong_RX7 0 (by decide) (by decide +kernel) (fun _ h9 => h9) rfl dX4_fallAlong_26 ?_
  refine lv_iload_n C.x C.b dX4_fallAlong_29 rfl (lv_at hl 3 rfl) ?_
  refine lv_iload_n C.x C.b dX4_fallAlong_30 rfl (lv_at hl 4 rfl) ?_
  refine k_calll (va_runV (As := [.int (nI (e1 k)), .int (nI y), .int (nI t)]) (rest := []) C.1 (kX4_heightOf l G B0 f h wL tA nc r z M sz w e1 e2 (e1 k) y t hM hz hwl hnc hnc1 hsz he (by have := he k (by omega); omega) hy9 ht9) (cwV 3 C.ts gX4_fallAlong_X4_heightOf rfl rfl rfl ⟨rfl, hdX4_fallAlong_X4_heightOf⟩ ⟨Nat.le_of_ble_eq_true rfl, Nat.le_of_ble_eq_true rfl⟩) (k_preV C hX (hM.at 0 rfl) rfl) rfl rfl hl.1 rfl (lv_room (Nat.le_of_ble_eq_true rfl)) dX4_fallAlong_31 ⟨Nat.le_of_ble_eq_true rfl, Nat.le_of_ble_eq_true rfl⟩) hX (fun r31 f31 H locs hp31 hX => ?_)
  obtain ⟨hr31, hM, hO31⟩ := hp31
  have hO := hO.trans hO31
  have hM : kCs f31 (mxW G h wL tA nc r ((mxH z e1 e2 nc sz M (e1 k) y t).2.1) ((mxH z e1 e2 nc sz M (e1 k) y t).2.2)) := hM
  refine k_topl (y := ((mxH z e1 e2 nc sz M (e1 k) y t).1)) hr31 ?_
  refine lv_aload_n C.x C.b dX4_fallAlong_34 rfl (lv_at hl 1 rfl) ?_
  refine lv_aload C.x C.b dX4_fallAlong_35 (lv_at hl 0 rfl) ?_
  refine k_getN (host := "Koebehall") (X := RX7) (T := TX7) (N := 2) (v := .int (nI (e2 k))) C hX ((hwl0.keep hO).wire (by omega)) rfl hin_X4_fallAlong_RX7 1 (by decide) (by decide +kernel) (fun _ h9 => h9) rfl dX4_fallAlong_37 ?_
  refine lv_iload_n C.x C.b dX4_fallAlong_40 rfl (lv_at hl 3 rfl) ?_
  refine lv_iload_n C.x C.b dX4_fallAlong_41 rfl (lv_at hl 4 rfl) ?_
  refine k_calll (va_runV (As := [.int (nI (e2 k)), .int (nI y), .int (nI t)]) (rest := [.long ((mxH z e1 e2 nc sz M (e1 k) y t).1)]) C.1 (kX4_heightOf l G B0 f31 h wL tA nc r (mxH z e1 e2 nc sz M (e1 k) y t).2.1 (mxH z e1 e2 nc sz M (e1 k) y t).2.2 sz w e1 e2 (e2 k) y t hM (mxH_z hz hnc) (hwl0.keep hO) hnc hnc1 hsz he (by have := he k (by omega); omega) hy9 ht9) (cwV 3 C.ts gX4_fallAlong_X4_heightOf rfl rfl rfl ⟨rfl, hdX4_fallAlong_X4_heightOf⟩ ⟨Nat.le_of_ble_eq_true rfl, Nat.le_of_ble_eq_true rfl⟩) (k_preV C hX (hM.at 0 rfl) rfl) rfl rfl hl.1 rfl (lv_room (Nat.le_of_ble_eq_true rfl)) dX4_fallAlong_42 ⟨Nat.le_of_ble_eq_true rfl, Nat.le_of_ble_eq_true rfl⟩) hX (fun r42 f42 H locs hp42 hX => ?_)
  obtain ⟨hr42, hM, hO42⟩ := hp42
  have hO := hO.trans hO42
  have hM : kCs f42 (mxW G h wL tA nc r ((mxH (mxH z e1 e2 nc sz M (e1 k) y t).2.1 e1 e2 nc sz (mxH z e1 e2 nc sz M (e1 k) y t).2.2 (e2 k) y t).2.1) ((mxH (mxH z e1 e2 nc sz M (e1 k) y t).2.1 e1 e2 nc sz (mxH z e1 e2 nc sz M (e1 k) y t).2.2 (e2 k) y t).2.2)) := hM
  refine k_topl (y := ((mxH (mxH z e1 e2 nc sz M (e1 k) y t).2.1 e1 e2 nc sz (mxH z e1 e2 nc sz M (e1 k) y t).2.2 (e2 k) y t).1)) hr42 ?_
  refine lv_lsub C.x C.b dX4_fallAlong_45 ?_
  exact k_lret C hX hr hlocks hQ (by omega) (by omega) (⟨rfl, hM, hO⟩) dX4_fallAlong_46

theorem lk_X4_hangsTogether_f23 : Cond.fieldLink RX4 23 "Koebehall$Network" "nodeCount" "I" ∈ wsX4_hangsTogether := by decide +kernel
theorem hin_X4_hangsTogether_RX4 : ∀ w ∈ u_ws RX4 TX4 3, w ∈ wsX4_hangsTogether := by decide +kernel
theorem lk_X4_hangsTogether_f12 : Cond.fieldLink RX4 12 "Koebehall$Network" "wires" "Ljava/util/ArrayList;" ∈ wsX4_hangsTogether := by decide +kernel
theorem hdX4_hangsTogether_Jx4a65c_size_8abf5 : yJx4a65c_size_8abf5.cls ≠ "java/lang/invoke/MethodHandle" ∧ yJx4a65c_size_8abf5.cls ≠ "java/lang/invoke/VarHandle" ∧ (parseMethodDescriptor yJx4a65c_size_8abf5.desc).map (fun d => d.parameters.length) = some 0 := by decide +kernel
theorem hdX4_hangsTogether_Jx4a65c_get_915e3 : yJx4a65c_get_915e3.cls ≠ "java/lang/invoke/MethodHandle" ∧ yJx4a65c_get_915e3.cls ≠ "java/lang/invoke/VarHandle" ∧ (parseMethodDescriptor yJx4a65c_get_915e3.desc).map (fun d => d.parameters.length) = some 1 := by decide +kernel
theorem lk_X4_hangsTogether_cl52 : Cond.classLink RX4 52 "Koebehall$Wire" ∈ wsX4_hangsTogether := by decide +kernel
theorem hin_X4_hangsTogether_RX7 : ∀ w ∈ u_ws RX7 TX7 2, w ∈ wsX4_hangsTogether := by decide +kernel
abbrev rmX4_hangsTogether : Room := { frames := 3, cells := 0, slots := 0, locals := 64 }
set_option maxHeartbeats 4000000 in
set_option maxRecDepth 100000 in
/-- X4_hangsTogether -/
theorem kX4_hangsTogether (l : Launch) (G : kG) (B0 : Nat) (f : kH) (h wL tA nc : Nat) (r z : Nat → Nat) (M : Nat → Nat → Int64) (sz : Nat) (w e1 e2 : Nat → Nat) (set : Int32) (hM : kCs f (mxW G h wL tA nc r z M)) (hz : mxZ z) (hwl : kWl G f (mxAs h tA r) wL sz w e1 e2) (hnc : nc ≤ 6) (hnc1 : 1 ≤ nc) (hsz : sz ≤ 10) (he : ∀ k : Nat, k < sz → e1 k < nc ∧ e2 k < nc) : Met l yX4_hangsTogether wsX4_hangsTogether (rmX4_hangsTogether) (kP G B0 f [.ref h, .int set]) (kQi G B0 (fun r9 f1 => r9 = kbI (hgP set e1 e2 nc sz) ∧ f1 = f)) 0 0 (kAb B0) := by
  refine kMet (cc := cX4_hangsTogether) (maxL := 6) (ret := (some .boolean)) (by decide) rfl (Nat.le_of_ble_eq_true rfl) ?_
  intro p e s m args below meth c H locs Q ls C hX hl hr hlocks hnm hQ
  have hl : lv_has ls 6 [(0, .ref h), (1, .int set)] := hl
  have hwl0 := hwl
  have hO : kOff (mxAs h tA r) f f := kOff.rf
  refine lv_iconst (v := nI 1) C.x C.b dX4_hangsTogether_0 (by decide) ?_
  refine lv_istore_n (lv' := [(2, .int (nI 1)), (0, .ref h), (1, .int set)]) C.x C.b dX4_hangsTogether_1 rfl hl (by decide) rfl (fun ls hl => ?_)
  refine lv_iconst (v := nI 1) C.x C.b dX4_hangsTogether_2 (by decide) ?_
  refine lv_istore_n (lv' := [(3, .int (nI 1)), (2, .int (nI 1)), (0, .ref h), (1, .int set)]) C.x C.b dX4_hangsTogether_3 rfl hl (by decide) rfl (fun ls hl => ?_)
  rw [show (nI 1) = (hgO set e1 e2 sz 0) from rfl] at hl
  have LOOP4 : ∀ (n : Nat) (j : Nat), (j ≤ nc - 1) → (nc - j) < n → ∀ (ls : Array Slot), lv_has ls 6 [(2, .int (hgO set e1 e2 sz j)), (3, .int (nI (j + 1))), (0, .ref h), (1, .int set)] → ∀ (H : Heap) (locs : List Loc), kX G B0 s f H locs → W p l e (rmX4_hangsTogether) s m args below meth c H locs 0 0 Q (F0 m 4 ls []) := by
    intro n4
    induction n4 with
    | zero => intro j hj hn; exact absurd hn (Nat.not_lt_zero _)
    | succ n4 ih4 =>
      intro j hj hn ls hl H locs hX
      refine lv_iload_n C.x C.b dX4_hangsTogether_4 rfl (lv_at hl 1 rfl) ?_
      refine lv_aload_n C.x C.b dX4_hangsTogether_5 rfl (lv_at hl 2 rfl) ?_
      refine k_get (X := RX4) (T := TX4) (N := 3) (v := .int (nI nc)) C hX (hM.at 0 rfl) rfl hin_X4_hangsTogether_RX4 2 (by decide) lk_X4_hangsTogether_f23 (fun _ h9 => h9) rfl dX4_hangsTogether_6 ?_
      refine lv_icmp_ge (tgt := 98) C.x C.b dX4_hangsTogether_9 (by decide) (fun c_9 => ?_) (fun c_9 => ?_)
      · skip
        have c_9 : nc ≤ j + 1 := (nI_leI (by omega) (by omega)).mp c_9
        rw [show (hgO set e1 e2 sz j) = (hgO set e1 e2 sz (nc - 1)) from congrArg (hgO set e1 e2 sz) (by omega)] at hl
        refine lv_iload_n C.x C.b dX4_hangsTogether_98 rfl (lv_at hl 0 rfl) ?_
        refine lv_iconst (v := nI 1) C.x C.b dX4_hangsTogether_99 (by decide) ?_
        refine lv_aload_n C.x C.b dX4_hangsTogether_100 rfl (lv_at hl 2 rfl) ?_
        refine k_get (X := RX4) (T := TX4) (N := 3) (v := .int (nI nc)) C hX (hM.at 0 rfl) rfl hin_X4_hangsTogether_RX4 2 (by decide) lk_X4_hangsTogether_f23 (fun _ h9 => h9) rfl dX4_hangsTogether_101 ?_
        refine lv_ishl C.x C.b dX4_hangsTogether_104 ?_
        refine lv_iconst (v := nI 1) C.x C.b dX4_hangsTogether_105 (by decide) ?_
        refine lv_isub C.x C.b dX4_hangsTogether_106 ?_
        refine lv_icmp_ne (tgt := 114) C.x C.b dX4_hangsTogether_107 (by decide) (fun c_107 => ?_) (fun c_107 => ?_)
        · skip
          refine lv_iconst (v := nI 0) C.x C.b dX4_hangsTogether_114 (by decide) ?_
          exact k_zret C hX hr hlocks hQ (by omega) (by omega) (by first | exact kbI_01 _ | exact Or.inl rfl | exact Or.inr rfl) (by refine ⟨?_, rfl⟩; first | exact kbI_tN c_107 | exact kbI_fN c_107) dX4_hangsTogether_115
        · skip
          refine lv_iconst (v := nI 1) C.x C.b dX4_hangsTogether_110 (by decide) ?_
          refine lv_goto (tgt := 115) C.x C.b dX4_hangsTogether_111 (by decide) ?_
          exact k_zret C hX hr hlocks hQ (by omega) (by omega) (by first | exact kbI_01 _ | exact Or.inl rfl | exact Or.inr rfl) (by refine ⟨?_, rfl⟩; first | exact kbI_tN c_107 | exact kbI_fN c_107) dX4_hangsTogether_115
      · skip
        have c_9 : ¬ (nc ≤ j + 1) := fun h9 => c_9 ((nI_leI (by omega) (by omega)).mpr h9)
        refine lv_iconst (v := nI 0) C.x C.b dX4_hangsTogether_12 (by decide) ?_
        refine lv_istore (lv' := [(4, .int (nI 0)), (2, .int (hgO set e1 e2 sz j)), (3, .int (nI (j + 1))), (0, .ref h), (1, .int set)]) C.x C.b dX4_hangsTogether_13 hl (by decide) rfl (fun ls hl => ?_)
        rw [show (hgO set e1 e2 sz j) = (hgI set e1 e2 0 (hgO set e1 e2 sz j)) from rfl] at hl
        have LOOP15 : ∀ (n : Nat) (k : Nat), (k ≤ sz) → (sz - k) < n → ∀ (ls : Array Slot), lv_has ls 6 [(2, .int (hgI set e1 e2 k (hgO set e1 e2 sz j))), (4, .int (nI k)), (3, .int (nI (j + 1))), (0, .ref h), (1, .int set)] → ∀ (H : Heap) (locs : List Loc), kX G B0 s f H locs → W p l e (rmX4_hangsTogether) s m args below meth c H locs 0 0 Q (F0 m 15 ls []) := by
          intro n15
          induction n15 with
          | zero => intro k hk hn; exact absurd hn (Nat.not_lt_zero _)
          | succ n15 ih15 =>
            intro k hk hn ls hl H locs hX
            refine lv_iload C.x C.b dX4_hangsTogether_15 (lv_at hl 1 rfl) ?_
            refine lv_aload_n C.x C.b dX4_hangsTogether_17 rfl (lv_at hl 3 rfl) ?_
            refine k_get (X := RX4) (T := TX4) (N := 3) (v := .ref wL) C hX (hM.at 0 rfl) rfl hin_X4_hangsTogether_RX4 0 (by decide) lk_X4_hangsTogether_f12 (fun _ h9 => h9) rfl dX4_hangsTogether_18 ?_
            refine k_calli (va_runV (As := []) (rest := [.int (nI k)]) C.1 (kSizeW l G B0 f (hwl0.keep hO)) (cwV 0 C.ts gX4_hangsTogether_Jx4a65c_size_8abf5 rfl rfl rfl ⟨rfl, hdX4_hangsTogether_Jx4a65c_size_8abf5⟩ ⟨Nat.le_of_ble_eq_true rfl, Nat.le_of_ble_eq_true rfl⟩) (k_preV C hX ((hwl0.keep hO).list.choose_spec) rfl) rfl rfl hl.1 rfl (lv_room (Nat.le_of_ble_eq_true rfl)) dX4_hangsTogether_21 ⟨Nat.le_of_ble_eq_true rfl, Nat.le_of_ble_eq_true rfl⟩) hX (fun r21 f21 H locs hp21 hX => ?_)
            obtain ⟨hr21, hf21⟩ := hp21
            rw [hf21] at hX
            refine k_topi (y := (nI sz)) hr21 ?_
            refine lv_icmp_ge (tgt := 92) C.x C.b dX4_hangsTogether_24 (by decide) (fun c_24 => ?_) (fun c_24 => ?_)
            · skip
              have c_24 : sz ≤ k := (nI_leI (by omega) (by omega)).mp c_24
              refine lv_iinc (v := (nI (j + 1 + 1))) (lv' := [(3, .int (nI (j + 1 + 1))), (2, .int (hgI set e1 e2 k (hgO set e1 e2 sz j))), (4, .int (nI k)), (0, .ref h), (1, .int set)]) C.x C.b dX4_hangsTogether_92 hl (k := 2) rfl (nI_1 _) (by decide) rfl (fun ls hl => ?_)
              refine lv_goto (tgt := 4) C.x C.b dX4_hangsTogether_95 (by decide) ?_
              rw [show (hgI set e1 e2 k (hgO set e1 e2 sz j)) = (hgO set e1 e2 sz (j + 1)) from by rw [hgO, show k = sz from (by omega)]] at hl
              exact ih4 (j + 1) (by omega) (by omega) ls (lv_sub hl [1, 0, 3, 4] rfl) _ _ hX
            · skip
              have c_24 : ¬ (sz ≤ k) := fun h9 => c_24 ((nI_leI (by omega) (by omega)).mpr h9)
              refine lv_iconst (v := nI 1) C.x C.b dX4_hangsTogether_27 (by decide) ?_
              refine lv_aload_n C.x C.b dX4_hangsTogether_28 rfl (lv_at hl 3 rfl) ?_
              refine k_get (X := RX4) (T := TX4) (N := 3) (v := .ref wL) C hX (hM.at 0 rfl) rfl hin_X4_hangsTogether_RX4 0 (by decide) lk_X4_hangsTogether_f12 (fun _ h9 => h9) rfl dX4_hangsTogether_29 ?_
              refine lv_iload C.x C.b dX4_hangsTogether_32 (lv_at hl 1 rfl) ?_
              refine k_callq (va_runV (As := [.int (nI k)]) (rest := [.int (nI 1)]) C.1 (kGetW l G B0 f k (by omega) (hwl0.keep hO)) (cwV 1 C.ts gX4_hangsTogether_Jx4a65c_get_915e3 rfl rfl rfl ⟨rfl, hdX4_hangsTogether_Jx4a65c_get_915e3⟩ ⟨Nat.le_of_ble_eq_true rfl, Nat.le_of_ble_eq_true rfl⟩) (k_preV C hX ((hwl0.keep hO).list.choose_spec) rfl) rfl rfl hl.1 rfl (lv_room (Nat.le_of_ble_eq_true rfl)) dX4_hangsTogether_34 ⟨Nat.le_of_ble_eq_true rfl, Nat.le_of_ble_eq_true rfl⟩) hX (fun r34 f34 H locs hp34 hX => ?_)
              obtain ⟨hr34, hf34⟩ := hp34
              rw [hf34] at hX
              refine k_topq (v := w k) hr34 ?_
              refine k_cast C hX ((hwl0.keep hO).wire (by omega)) rfl (C.ts _ lk_X4_hangsTogether_cl52) dX4_hangsTogether_37 ?_
              refine k_getN (host := "Koebehall") (X := RX7) (T := TX7) (N := 2) (v := .int (nI (e1 k))) C hX ((hwl0.keep hO).wire (by omega)) rfl hin_X4_hangsTogether_RX7 0 (by decide) (by decide +kernel) (fun _ h9 => h9) rfl dX4_hangsTogether_40 ?_
              refine lv_ishl C.x C.b dX4_hangsTogether_43 ?_
              refine lv_iconst (v := nI 1) C.x C.b dX4_hangsTogether_44 (by decide) ?_
              refine lv_aload_n C.x C.b dX4_hangsTogether_45 rfl (lv_at hl 3 rfl) ?_
              refine k_get (X := RX4) (T := TX4) (N := 3) (v := .ref wL) C hX (hM.at 0 rfl) rfl hin_X4_hangsTogether_RX4 0 (by decide) lk_X4_hangsTogether_f12 (fun _ h9 => h9) rfl dX4_hangsTogether_46 ?_
              refine lv_iload C.x C.b dX4_hangsTogether_49 (lv_at hl 1 rfl) ?_
              refine k_callq (va_runV (As := [.int (nI k)]) (rest := [.int (nI 1), .int ((nI 1) <<< ((nI (e1 k)) &&& 31))]) C.1 (kGetW l G B0 f k (by omega) (hwl0.keep hO)) (cwV 1 C.ts gX4_hangsTogether_Jx4a65c_get_915e3 rfl rfl rfl ⟨rfl, hdX4_hangsTogether_Jx4a65c_get_915e3⟩ ⟨Nat.le_of_ble_eq_true rfl, Nat.le_of_ble_eq_true rfl⟩) (k_preV C hX ((hwl0.keep hO).list.choose_spec) rfl) rfl rfl hl.1 rfl (lv_room (Nat.le_of_ble_eq_true rfl)) dX4_hangsTogether_51 ⟨Nat.le_of_ble_eq_true rfl, Nat.le_of_ble_eq_true rfl⟩) hX (fun r51 f51 H locs hp51 hX => ?_)
              obtain ⟨hr51, hf51⟩ := hp51
              rw [hf51] at hX
              refine k_topq (v := w k) hr51 ?_
              refine k_cast C hX ((hwl0.keep hO).wire (by omega)) rfl (C.ts _ lk_X4_hangsTogether_cl52) dX4_hangsTogether_54 ?_
              refine k_getN (host := "Koebehall") (X := RX7) (T := TX7) (N := 2) (v := .int (nI (e2 k))) C hX ((hwl0.keep hO).wire (by omega)) rfl hin_X4_hangsTogether_RX7 1 (by decide) (by decide +kernel) (fun _ h9 => h9) rfl dX4_hangsTogether_57 ?_
              refine lv_ishl C.x C.b dX4_hangsTogether_60 ?_
              refine lv_ior C.x C.b dX4_hangsTogether_61 ?_
              refine k_topi (y := (hgE e1 e2 k)) (by rfl) ?_
              refine lv_istore (lv' := [(5, .int (hgE e1 e2 k)), (2, .int (hgI set e1 e2 k (hgO set e1 e2 sz j))), (4, .int (nI k)), (3, .int (nI (j + 1))), (0, .ref h), (1, .int set)]) C.x C.b dX4_hangsTogether_62 hl (by decide) rfl (fun ls hl => ?_)
              refine lv_iload_n C.x C.b dX4_hangsTogether_64 rfl (lv_at hl 5 rfl) ?_
              refine lv_iload C.x C.b dX4_hangsTogether_65 (lv_at hl 2 rfl) ?_
              refine lv_ishr C.x C.b dX4_hangsTogether_67 ?_
              refine lv_iconst (v := nI 1) C.x C.b dX4_hangsTogether_68 (by decide) ?_
              refine lv_iand C.x C.b dX4_hangsTogether_69 ?_
              refine lv_iconst (v := nI 1) C.x C.b dX4_hangsTogether_70 (by decide) ?_
              refine lv_icmp_ne (tgt := 86) C.x C.b dX4_hangsTogether_71 (by decide) (fun c_71 => ?_) (fun c_71 => ?_)
              · skip
                refine lv_iinc (v := (nI (k + 1))) (lv' := [(4, .int (nI (k + 1))), (5, .int (hgE e1 e2 k)), (2, .int (hgI set e1 e2 k (hgO set e1 e2 sz j))), (3, .int (nI (j + 1))), (0, .ref h), (1, .int set)]) C.x C.b dX4_hangsTogether_86 hl (k := 2) rfl (nI_1 _) (by decide) rfl (fun ls hl => ?_)
                refine lv_goto (tgt := 15) C.x C.b dX4_hangsTogether_89 (by decide) ?_
                rw [show (hgI set e1 e2 k (hgO set e1 e2 sz j)) = (hgI set e1 e2 (k + 1) (hgO set e1 e2 sz j)) from by rw [hgI]; first | (rw [if_pos ⟨c_71, c_78⟩]; done) | (rw [if_neg (fun h9 => c_71 h9.1)]; done) | (rw [if_neg (fun h9 => h9.2 c_78)]; done)] at hl
                exact ih15 (k + 1) (by omega) (by omega) ls (lv_sub hl [2, 0, 3, 4, 5] rfl) _ _ hX
              · skip
                refine lv_iload_n C.x C.b dX4_hangsTogether_74 rfl (lv_at hl 1 rfl) ?_
                refine lv_iload C.x C.b dX4_hangsTogether_75 (lv_at hl 0 rfl) ?_
                refine lv_iand C.x C.b dX4_hangsTogether_77 ?_
                refine lv_if_eq (tgt := 86) C.x C.b dX4_hangsTogether_78 (by decide) (fun c_78 => ?_) (fun c_78 => ?_)
                · skip
                  refine lv_iinc (v := (nI (k + 1))) (lv' := [(4, .int (nI (k + 1))), (5, .int (hgE e1 e2 k)), (2, .int (hgI set e1 e2 k (hgO set e1 e2 sz j))), (3, .int (nI (j + 1))), (0, .ref h), (1, .int set)]) C.x C.b dX4_hangsTogether_86 hl (k := 2) rfl (nI_1 _) (by decide) rfl (fun ls hl => ?_)
                  refine lv_goto (tgt := 15) C.x C.b dX4_hangsTogether_89 (by decide) ?_
                  rw [show (hgI set e1 e2 k (hgO set e1 e2 sz j)) = (hgI set e1 e2 (k + 1) (hgO set e1 e2 sz j)) from by rw [hgI]; first | (rw [if_pos ⟨c_71, c_78⟩]; done) | (rw [if_neg (fun h9 => c_71 h9.1)]; done) | (rw [if_neg (fun h9 => h9.2 c_78)]; done)] at hl
                  exact ih15 (k + 1) (by omega) (by omega) ls (lv_sub hl [2, 0, 3, 4, 5] rfl) _ _ hX
                · skip
                  refine lv_iload_n C.x C.b dX4_hangsTogether_81 rfl (lv_at hl 1 rfl) ?_
                  refine lv_iload C.x C.b dX4_hangsTogether_82 (lv_at hl 0 rfl) ?_
                  refine lv_ior C.x C.b dX4_hangsTogether_84 ?_
                  refine lv_istore_n (lv' := [(2, .int ((hgI set e1 e2 k (hgO set e1 e2 sz j)) ||| (hgE e1 e2 k))), (5, .int (hgE e1 e2 k)), (4, .int (nI k)), (3, .int (nI (j + 1))), (0, .ref h), (1, .int set)]) C.x C.b dX4_hangsTogether_85 rfl hl (by decide) rfl (fun ls hl => ?_)
                  refine lv_iinc (v := (nI (k + 1))) (lv' := [(4, .int (nI (k + 1))), (2, .int ((hgI set e1 e2 k (hgO set e1 e2 sz j)) ||| (hgE e1 e2 k))), (5, .int (hgE e1 e2 k)), (3, .int (nI (j + 1))), (0, .ref h), (1, .int set)]) C.x C.b dX4_hangsTogether_86 hl (k := 2) rfl (nI_1 _) (by decide) rfl (fun ls hl => ?_)
                  refine lv_goto (tgt := 15) C.x C.b dX4_hangsTogether_89 (by decide) ?_
                  rw [show ((hgI set e1 e2 k (hgO set e1 e2 sz j)) ||| (hgE e1 e2 k)) = (hgI set e1 e2 (k + 1) (hgO set e1 e2 sz j)) from by rw [hgI]; first | (rw [if_pos ⟨c_71, c_78⟩]; done) | (rw [if_neg (fun h9 => c_71 h9.1)]; done) | (rw [if_neg (fun h9 => h9.2 c_78)]; done)] at hl
                  exact ih15 (k + 1) (by omega) (by omega) ls (lv_sub hl [1, 0, 3, 4, 5] rfl) _ _ hX
        exact LOOP15 _ 0 (by omega) (Nat.lt_succ_self _) ls (lv_sub hl [1, 0, 2, 3, 4] rfl) _ _ hX
  exact LOOP4 _ 0 (by omega) (Nat.lt_succ_self _) ls (lv_sub hl [1, 0, 2, 3] rfl) _ _ hX

theorem lk_X4_treesBySets_f12 : Cond.fieldLink RX4 12 "Koebehall$Network" "wires" "Ljava/util/ArrayList;" ∈ wsX4_treesBySets := by decide +kernel
theorem hin_X4_treesBySets_RX4 : ∀ w ∈ u_ws RX4 TX4 3, w ∈ wsX4_treesBySets := by decide +kernel
theorem hdX4_treesBySets_Jx4a65c_size_8abf5 : yJx4a65c_size_8abf5.cls ≠ "java/lang/invoke/MethodHandle" ∧ yJx4a65c_size_8abf5.cls ≠ "java/lang/invoke/VarHandle" ∧ (parseMethodDescriptor yJx4a65c_size_8abf5.desc).map (fun d => d.parameters.length) = some 0 := by decide +kernel
theorem hdX4_treesBySets_J6_bitCount_0f7a4 : yJ6_bitCount_0f7a4.cls ≠ "java/lang/invoke/MethodHandle" ∧ yJ6_bitCount_0f7a4.cls ≠ "java/lang/invoke/VarHandle" ∧ (parseMethodDescriptor yJ6_bitCount_0f7a4.desc).map (fun d => d.parameters.length) = some 1 := by decide +kernel
theorem lk_X4_treesBySets_f23 : Cond.fieldLink RX4 23 "Koebehall$Network" "nodeCount" "I" ∈ wsX4_treesBySets := by decide +kernel
theorem hdX4_treesBySets_X4_hangsTogether : yX4_hangsTogether.cls ≠ "java/lang/invoke/MethodHandle" ∧ yX4_hangsTogether.cls ≠ "java/lang/invoke/VarHandle" ∧ (parseMethodDescriptor yX4_hangsTogether.desc).map (fun d => d.parameters.length) = some 1 := by decide +kernel
abbrev rmX4_treesBySets : Room := { frames := 4, cells := 0, slots := 0, locals := 89 }
set_option maxHeartbeats 4000000 in
set_option maxRecDepth 100000 in
/-- X4_treesBySets -/
theorem kX4_treesBySets (l : Launch) (G : kG) (B0 : Nat) (f : kH) (h wL tA nc : Nat) (r z : Nat → Nat) (M : Nat → Nat → Int64) (sz : Nat) (w e1 e2 : Nat → Nat) (hM : kCs f (mxW G h wL tA nc r z M)) (hz : mxZ z) (hwl : kWl G f (mxAs h tA r) wL sz w e1 e2) (hnc : nc ≤ 6) (hnc1 : 1 ≤ nc) (hsz : sz ≤ 10) (he : ∀ k : Nat, k < sz → e1 k < nc ∧ e2 k < nc) : Met l yX4_treesBySets wsX4_treesBySets (rmX4_treesBySets) (kP G B0 f [.ref h]) (kQi G B0 (fun r9 f1 => r9 = nI (kCnt (fun k9 => jBc (nI k9) = nI (nc - 1) ∧ hgP (nI k9) e1 e2 nc sz) (2 ^ sz)) ∧ f1 = f)) 0 0 (kAb B0) := by
  refine kMet (cc := cX4_treesBySets) (maxL := 3) (ret := (some .int)) (by decide) rfl (Nat.le_of_ble_eq_true rfl) ?_
  intro p e s m args below meth c H locs Q ls C hX hl hr hlocks hnm hQ
  have hl : lv_has ls 3 [(0, .ref h)] := hl
  have hwl0 := hwl
  have hO : kOff (mxAs h tA r) f f := kOff.rf
  have h2 : 2 ^ sz ≤ 1024 := Nat.pow_le_pow_right (by decide) hsz
  refine lv_iconst (v := nI 0) C.x C.b dX4_treesBySets_0 (by decide) ?_
  refine lv_istore_n (lv' := [(1, .int (nI 0)), (0, .ref h)]) C.x C.b dX4_treesBySets_1 rfl hl (by decide) rfl (fun ls hl => ?_)
  refine lv_iconst (v := nI 0) C.x C.b dX4_treesBySets_2 (by decide) ?_
  refine lv_istore_n (lv' := [(2, .int (nI 0)), (1, .int (nI 0)), (0, .ref h)]) C.x C.b dX4_treesBySets_3 rfl hl (by decide) rfl (fun ls hl => ?_)
  have LOOP4 : ∀ (n : Nat) (k : Nat), (k ≤ 2 ^ sz) → (2 ^ sz - k) < n → ∀ (ls : Array Slot), lv_has ls 3 [(1, .int (nI (kCnt (fun k9 => jBc (nI k9) = nI (nc - 1) ∧ hgP (nI k9) e1 e2 nc sz) k))), (2, .int (nI k)), (0, .ref h)] → ∀ (H : Heap) (locs : List Loc), kX G B0 s f H locs → W p l e (rmX4_treesBySets) s m args below meth c H locs 0 0 Q (F0 m 4 ls []) := by
    intro n4
    induction n4 with
    | zero => intro k hk hn; exact absurd hn (Nat.not_lt_zero _)
    | succ n4 ih4 =>
      intro k hk hn ls hl H locs hX
      refine lv_iload_n C.x C.b dX4_treesBySets_4 rfl (lv_at hl 1 rfl) ?_
      refine lv_iconst (v := nI 1) C.x C.b dX4_treesBySets_5 (by decide) ?_
      refine lv_aload_n C.x C.b dX4_treesBySets_6 rfl (lv_at hl 2 rfl) ?_
      refine k_get (X := RX4) (T := TX4) (N := 3) (v := .ref wL) C hX (hM.at 0 rfl) rfl hin_X4_treesBySets_RX4 0 (by decide) lk_X4_treesBySets_f12 (fun _ h9 => h9) rfl dX4_treesBySets_7 ?_
      refine k_calli (va_runV (As := []) (rest := [.int (nI 1), .int (nI k)]) C.1 (kSizeW l G B0 f (hwl0.keep hO)) (cwV 0 C.ts gX4_treesBySets_Jx4a65c_size_8abf5 rfl rfl rfl ⟨rfl, hdX4_treesBySets_Jx4a65c_size_8abf5⟩ ⟨Nat.le_of_ble_eq_true rfl, Nat.le_of_ble_eq_true rfl⟩) (k_preV C hX ((hwl0.keep hO).list.choose_spec) rfl) rfl rfl hl.1 rfl (lv_room (Nat.le_of_ble_eq_true rfl)) dX4_treesBySets_10 ⟨Nat.le_of_ble_eq_true rfl, Nat.le_of_ble_eq_true rfl⟩) hX (fun r10 f10 H locs hp10 hX => ?_)
      obtain ⟨hr10, hf10⟩ := hp10
      rw [hf10] at hX
      refine k_topi (y := (nI sz)) hr10 ?_
      refine lv_ishl C.x C.b dX4_treesBySets_13 ?_
      refine k_topi (y := (nI (2 ^ sz))) (k_shl1 sz (by omega)) ?_
      refine lv_icmp_ge (tgt := 47) C.x C.b dX4_treesBySets_14 (by decide) (fun c_14 => ?_) (fun c_14 => ?_)
      · skip
        have c_14 : 2 ^ sz ≤ k := (nI_leI (by omega) (by omega)).mp c_14
        refine lv_iload_n C.x C.b dX4_treesBySets_47 rfl (lv_at hl 0 rfl) ?_
        exact k_iret C hX hr hlocks hQ (by omega) (by omega) (⟨congrArg (fun z9 => nI (kCnt (fun k9 => jBc (nI k9) = nI (nc - 1) ∧ hgP (nI k9) e1 e2 nc sz) z9)) (by omega), rfl⟩) dX4_treesBySets_48
      · skip
        have c_14 : ¬ (2 ^ sz ≤ k) := fun h9 => c_14 ((nI_leI (by omega) (by omega)).mpr h9)
        refine lv_iload_n C.x C.b dX4_treesBySets_17 rfl (lv_at hl 1 rfl) ?_
        refine k_calli (va_runS (As := [.int (nI k)]) (rest := []) C.1 (kJ6_bitCount_0f7a4 l G B0 f (nI k)) (va_cwS 1 C.ts gX4_treesBySets_J6_bitCount_0f7a4 rfl rfl rfl (hdX4_treesBySets_J6_bitCount_0f7a4) ⟨Nat.le_of_ble_eq_true rfl, Nat.le_of_ble_eq_true rfl⟩) (k_preS C hX) rfl rfl hl.1 rfl (lv_room (Nat.le_of_ble_eq_true rfl)) dX4_treesBySets_18 ⟨Nat.le_of_ble_eq_true rfl, Nat.le_of_ble_eq_true rfl⟩) hX (fun r18 f18 H locs hp18 hX => ?_)
        obtain ⟨hr18, hf18⟩ := hp18
        rw [hf18] at hX
        refine k_topi (y := (jBc (nI k))) hr18 ?_
        refine lv_aload_n C.x C.b dX4_treesBySets_21 rfl (lv_at hl 2 rfl) ?_
        refine k_get (X := RX4) (T := TX4) (N := 3) (v := .int (nI nc)) C hX (hM.at 0 rfl) rfl hin_X4_treesBySets_RX4 2 (by decide) lk_X4_treesBySets_f23 (fun _ h9 => h9) rfl dX4_treesBySets_22 ?_
        refine lv_iconst (v := nI 1) C.x C.b dX4_treesBySets_25 (by decide) ?_
        refine lv_isub C.x C.b dX4_treesBySets_26 ?_
        refine k_topi (y := (nI (nc - 1))) (pk_sub (by omega)) ?_
        refine lv_icmp_ne (tgt := 41) C.x C.b dX4_treesBySets_27 (by decide) (fun c_27 => ?_) (fun c_27 => ?_)
        · skip
          refine lv_iinc (v := (nI (k + 1))) (lv' := [(2, .int (nI (k + 1))), (1, .int (nI (kCnt (fun k9 => jBc (nI k9) = nI (nc - 1) ∧ hgP (nI k9) e1 e2 nc sz) k))), (0, .ref h)]) C.x C.b dX4_treesBySets_41 hl (k := 1) rfl (nI_1 _) (by decide) rfl (fun ls hl => ?_)
          refine lv_goto (tgt := 4) C.x C.b dX4_treesBySets_44 (by decide) ?_
          rw [show (nI (kCnt (fun k9 => jBc (nI k9) = nI (nc - 1) ∧ hgP (nI k9) e1 e2 nc sz) k)) = (nI (kCnt (fun k9 => jBc (nI k9) = nI (nc - 1) ∧ hgP (nI k9) e1 e2 nc sz) (k + 1))) from by first | exact kCnt_p (fun k9 => jBc (nI k9) = nI (nc - 1) ∧ hgP (nI k9) e1 e2 nc sz) ⟨c_27, c_35⟩ | exact kCnt_n (fun k9 => jBc (nI k9) = nI (nc - 1) ∧ hgP (nI k9) e1 e2 nc sz) (fun h9 => c_27 h9.1) | exact kCnt_n (fun k9 => jBc (nI k9) = nI (nc - 1) ∧ hgP (nI k9) e1 e2 nc sz) (fun h9 => c_35 h9.2)] at hl
          exact ih4 (k + 1) (by omega) (by omega) ls (lv_sub hl [1, 0, 2] rfl) _ _ hX
        · skip
          refine lv_aload_n C.x C.b dX4_treesBySets_30 rfl (lv_at hl 2 rfl) ?_
          refine lv_iload_n C.x C.b dX4_treesBySets_31 rfl (lv_at hl 1 rfl) ?_
          refine k_calli (va_runV (As := [.int (nI k)]) (rest := []) C.1 (kX4_hangsTogether l G B0 f h wL tA nc r z M sz w e1 e2 (nI k) hM hz hwl hnc hnc1 hsz he) (cwV 1 C.ts gX4_treesBySets_X4_hangsTogether rfl rfl rfl ⟨rfl, hdX4_treesBySets_X4_hangsTogether⟩ ⟨Nat.le_of_ble_eq_true rfl, Nat.le_of_ble_eq_true rfl⟩) (k_preV C hX (hM.at 0 rfl) rfl) rfl rfl hl.1 rfl (lv_room (Nat.le_of_ble_eq_true rfl)) dX4_treesBySets_32 ⟨Nat.le_of_ble_eq_true rfl, Nat.le_of_ble_eq_true rfl⟩) hX (fun r32 f32 H locs hp32 hX => ?_)
          obtain ⟨hr32, hf32⟩ := hp32
          rw [hf32] at hX
          refine k_topi (y := (kbI (hgP (nI k) e1 e2 nc sz))) hr32 ?_
          refine lv_if_eq (tgt := 41) C.x C.b dX4_treesBySets_35 (by decide) (fun c_35 => ?_) (fun c_35 => ?_)
          · skip
            have c_35 := kbI_0 c_35
            refine lv_iinc (v := (nI (k + 1))) (lv' := [(2, .int (nI (k + 1))), (1, .int (nI (kCnt (fun k9 => jBc (nI k9) = nI (nc - 1) ∧ hgP (nI k9) e1 e2 nc sz) k))), (0, .ref h)]) C.x C.b dX4_treesBySets_41 hl (k := 1) rfl (nI_1 _) (by decide) rfl (fun ls hl => ?_)
            refine lv_goto (tgt := 4) C.x C.b dX4_treesBySets_44 (by decide) ?_
            rw [show (nI (kCnt (fun k9 => jBc (nI k9) = nI (nc - 1) ∧ hgP (nI k9) e1 e2 nc sz) k)) = (nI (kCnt (fun k9 => jBc (nI k9) = nI (nc - 1) ∧ hgP (nI k9) e1 e2 nc sz) (k + 1))) from by first | exact kCnt_p (fun k9 => jBc (nI k9) = nI (nc - 1) ∧ hgP (nI k9) e1 e2 nc sz) ⟨c_27, c_35⟩ | exact kCnt_n (fun k9 => jBc (nI k9) = nI (nc - 1) ∧ hgP (nI k9) e1 e2 nc sz) (fun h9 => c_27 h9.1) | exact kCnt_n (fun k9 => jBc (nI k9) = nI (nc - 1) ∧ hgP (nI k9) e1 e2 nc sz) (fun h9 => c_35 h9.2)] at hl
            exact ih4 (k + 1) (by omega) (by omega) ls (lv_sub hl [1, 0, 2] rfl) _ _ hX
          · skip
            have c_35 := kbI_1 c_35
            refine lv_iinc (v := (nI (kCnt (fun k9 => jBc (nI k9) = nI (nc - 1) ∧ hgP (nI k9) e1 e2 nc sz) k + 1))) (lv' := [(1, .int (nI (kCnt (fun k9 => jBc (nI k9) = nI (nc - 1) ∧ hgP (nI k9) e1 e2 nc sz) k + 1))), (2, .int (nI k)), (0, .ref h)]) C.x C.b dX4_treesBySets_38 hl (k := 0) rfl (nI_1 _) (by decide) rfl (fun ls hl => ?_)
            refine lv_iinc (v := (nI (k + 1))) (lv' := [(2, .int (nI (k + 1))), (1, .int (nI (kCnt (fun k9 => jBc (nI k9) = nI (nc - 1) ∧ hgP (nI k9) e1 e2 nc sz) k + 1))), (0, .ref h)]) C.x C.b dX4_treesBySets_41 hl (k := 1) rfl (nI_1 _) (by decide) rfl (fun ls hl => ?_)
            refine lv_goto (tgt := 4) C.x C.b dX4_treesBySets_44 (by decide) ?_
            rw [show (nI (kCnt (fun k9 => jBc (nI k9) = nI (nc - 1) ∧ hgP (nI k9) e1 e2 nc sz) k + 1)) = (nI (kCnt (fun k9 => jBc (nI k9) = nI (nc - 1) ∧ hgP (nI k9) e1 e2 nc sz) (k + 1))) from by first | exact kCnt_p (fun k9 => jBc (nI k9) = nI (nc - 1) ∧ hgP (nI k9) e1 e2 nc sz) ⟨c_27, c_35⟩ | exact kCnt_n (fun k9 => jBc (nI k9) = nI (nc - 1) ∧ hgP (nI k9) e1 e2 nc sz) (fun h9 => c_27 h9.1) | exact kCnt_n (fun k9 => jBc (nI k9) = nI (nc - 1) ∧ hgP (nI k9) e1 e2 nc sz) (fun h9 => c_35 h9.2)] at hl
            exact ih4 (k + 1) (by omega) (by omega) ls (lv_sub hl [1, 0, 2] rfl) _ _ hX
  exact LOOP4 _ 0 (Nat.zero_le _) (Nat.lt_succ_self _) ls (lv_sub hl [1, 0, 2] rfl) _ _ hX
