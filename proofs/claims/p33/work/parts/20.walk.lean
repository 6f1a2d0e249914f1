def wCode (g : Nat → Int64) (by9 : Int32) : Nat → Int32
  | 0 => nI 0
  | k + 1 => wCode g by9 k ||| ((jFm (g k) by9.toInt64).toInt32 <<< ((nI (3 * k)) &&& 31))
def rAt (code : Int32) (pl : Nat) : Int32 := (code >>> ((nI (3 * pl)) &&& 31)) &&& (nI 7)
def rOth (code : Int32) (pl : Nat) : Nat → Int32
  | 0 => nI 0
  | k + 1 => rOth code pl k + if k = pl then nI 0 else rAt code k
def rTc (code : Int32) (pl : Nat) (by9 : Int32) : Int32 := (code &&& (((nI 7) <<< ((nI (3 * pl)) &&& 31)) ^^^ (-1))) ||| (jFmI ((nI 2) * rOth code pl 4 - rAt code pl) by9 <<< ((nI (3 * pl)) &&& 31))
def rBit (cd : Nat) : Int64 := (1 : Int64) <<< ((((nI cd) &&& (nI 63))).toInt64 &&& 63)
def rNs (gs : Nat → Int64) (cd : Nat) : Nat → Int64 := if gs (cd / 64) &&& rBit cd = 0 then vp_updL gs (cd / 64) (gs (cd / 64) ||| rBit cd) else gs
def rNw (gs gw : Nat → Int64) (cd : Nat) : Nat → Int64 := if gs (cd / 64) &&& rBit cd = 0 then vp_updL gw (cd / 64) (gw (cd / 64) ||| rBit cd) else gw
def rFst (gw : Nat → Int64) : Nat → Nat → Nat
  | 0, k => k
  | n + 1, k => if gw k = 0 then rFst gw n (k + 1) else k
def rTkC (gw : Nat → Int64) : Int32 := if rFst gw 64 0 < 64 then nI (64 * rFst gw 64 0) + jTz (gw (rFst gw 64 0)) else -1
def rTkW (gw : Nat → Int64) : Nat → Int64 := if rFst gw 64 0 < 64 then vp_updL gw (rFst gw 64 0) (gw (rFst gw 64 0) &&& (gw (rFst gw 64 0) - 1)) else gw
/-- k turns of one code: what was found, the codes seen, those that wait -/
def rIn (by9 : Int32) (cd : Nat) : Nat → Int32 × (Nat → Int64) × (Nat → Int64) → Int32 × (Nat → Int64) × (Nat → Int64)
  | 0, t => t
  | k + 1, t => ((rIn by9 cd k t).1 ||| ((nI 1) <<< (rAt (nI cd) k &&& 31)), rNs (rIn by9 cd k t).2.1 (rTc (nI cd) k by9).toNatClampNeg, rNw (rIn by9 cd k t).2.1 (rIn by9 cd k t).2.2 (rTc (nI cd) k by9).toNatClampNeg)
def rGo (by9 : Int32) : Nat → Int32 × (Nat → Int64) × (Nat → Int64) → Int32 × (Nat → Int64) × (Nat → Int64)
  | 0, t => t
  | n + 1, t => if rTkC t.2.2 = -1 then t else rGo by9 n (rIn by9 (rTkC t.2.2).toNatClampNeg 4 (t.1, t.2.1, rTkW t.2.2))
/-- codes stay codes -/
def cdOk (by9 : Int32) : Prop := (∀ cd : Nat, cd < 4096 → ∀ pl : Nat, pl < 4 → mIn (rTc (nI cd) pl by9) 4096) ∧ ∀ gw : Nat → Int64, rFst gw 64 0 < 64 → mIn (rTkC gw) 4096
theorem rTk_yes {b : Int32} {gw : Nat → Int64} (h : cdOk b) (hc : ¬ rTkC gw = -1) : mIn (rTkC gw) 4096 := h.2 gw (Decidable.byContradiction fun q => hc (if_neg q))
theorem rTk_no {b : Int32} {gw : Nat → Int64} (h : cdOk b) (hc : rTkC gw = -1) : rTkW gw = gw := by
  refine if_neg fun q => ?_
  have h1 := (h.2 gw q).1
  rw [hc] at h1
  exact absurd h1 (by decide)
theorem rGo_n {b : Int32} {n : Nat} {fd : Int32} {g1 g2 : Nat → Int64} (h : ¬ rTkC g2 = -1) : rGo b (n + 1) (fd, g1, g2) = rGo b n (rIn b (rTkC g2).toNatClampNeg 4 (fd, g1, rTkW g2)) := if_neg h
theorem rGo_t {b : Int32} {n : Nat} {fd : Int32} {g1 g2 : Nat → Int64} (h : rTkC g2 = -1) : rGo b (n + 1) (fd, g1, g2) = (fd, g1, g2) := if_pos h
theorem mIn_cl {x : Int32} {n : Nat} (h : mIn x n) (hn : n < 2 ^ 31) : x = nI x.toNatClampNeg ∧ x.toNatClampNeg < n := by
  obtain ⟨t, ht, rfl⟩ := mIn_of h hn
  rw [nI_clamp (by omega)]
  exact ⟨rfl, ht⟩

theorem lk_X5_init_m3 : Cond.methodLink RX5 3 objectInit ∈ wsX5_init := by decide +kernel
theorem lk_X5_init_oi : Cond.instanceMethod objectInit ∈ wsX5_init := by decide +kernel
theorem lk_X5_init_oc : Cond.code objectInit ⟨#[0xb1]⟩ 1 none ∈ wsX5_init := by decide +kernel
theorem lk_X5_init_aclong : Cond.arrayClass .long ∈ wsX5_init := by decide +kernel
theorem lk_X5_init_f11 : Cond.fieldLink RX5 11 "Koebehall$RemainderWalk" "seen" "[J" ∈ wsX5_init := by decide +kernel
theorem hin_X5_init_RX5 : ∀ w ∈ u_ws RX5 TX5 2, w ∈ wsX5_init := by decide +kernel
theorem lk_X5_init_f15 : Cond.fieldLink RX5 15 "Koebehall$RemainderWalk" "waiting" "[J" ∈ wsX5_init := by decide +kernel
abbrev rmX5_init : Room := { frames := 1, cells := 2, slots := 128, locals := 12 }
set_option maxHeartbeats 4000000 in
set_option maxRecDepth 100000 in
/-- X5_init -/
theorem kX5_init (l : Launch) (G : kG) (B0 : Nat) (f : kH) (h : Nat) (hM : kCs f [(h, .inr (5, [.null, .null]))]) : Met l yX5_init wsX5_init (rmX5_init) (kP G B0 f [.ref h]) (kQv G B0 (fun f1 => ∃ q1 q2 : Nat, kCs f1 [(h, .inr (5, [.ref q1, .ref q2])), (q1, kaJ G 64 (fun _ => 0)), (q2, kaJ G 64 (fun _ => 0))] ∧ kKp [h] f f1 ∧ f q1 = none ∧ f q2 = none)) 2 128 (kAb B0) := by
  refine kMet (cc := cX5_init) (maxL := 1) (ret := none) (by decide) rfl (Nat.le_of_ble_eq_true rfl) ?_
  intro p e s m args below meth c H locs Q ls C hX hl hr hlocks hnm hQ
  have hO : kKp [h] f f := kKp.rf
  have hS : ∀ a ∈ [h], (f a).isSome := by
    intro a h9
    simp only [List.mem_cons, List.not_mem_nil, or_false] at h9
    rcases h9 with rfl
    · rw [hM.at 0 rfl]; rfl
  have hl : lv_has ls 1 [(0, .ref h)] := hl
  refine lv_aload_n C.x C.b dX5_init_0 rfl (lv_at hl 0 rfl) ?_
  refine W.objInit C.x C.b C.ow (C.ts _ lk_X5_init_m3) (C.ts _ lk_X5_init_oi) (C.ts _ lk_X5_init_oc) rfl (by rw [C.ml]; exact hl.1) rfl dX5_init_1 (Nat.le_of_ble_eq_true rfl) (Nat.le_of_ble_eq_true rfl) ?_
  refine W.eq (g2 := F0 m 4 ls []) rfl ?_
  refine lv_aload_n C.x C.b dX5_init_4 rfl (lv_at hl 0 rfl) ?_
  refine lv_bipush (v := nI 64) C.x C.b dX5_init_5 (by decide) ?_
  refine k_newaJ (atype := .long) (R9 := 64) C hX (C.ts _ lk_X5_init_aclong) rfl (by decide) (by decide) (by decide) (by decide) (by decide) dX5_init_7 (fun n1 H hn hX => ?_)
  obtain ⟨g2, hX, hM, hO, fr_n1, hS⟩ := kX.nwP hX hM hO hn hS
  have hM : kCs g2 ([(h, .inr (5, [.null, .null])), (n1, kaJ G 64 (fun _ => 0))]) := hM
  refine k_putF (X := RX5) (T := TX5) (N := 2) (ty := .array .long) (v := .ref n1) C hX (hM.at 0 rfl) rfl hin_X5_init_RX5 tyX5_ok nmX5 0 (by decide) lk_X5_init_f11 (fun _ h9 => h9) rfl hnm rfl rfl (by decide +kernel) rfl rfl (Nat.le_of_ble_eq_true rfl) dX5_init_9 (fun H locs hX => ?_)
  obtain ⟨g3, hX, hM, hO, hS⟩ := kX.wrP hX hM hO hS 0 rfl (Or.inl (by simp))
  have hM : kCs g3 ([(h, .inr (5, [.ref n1, .null])), (n1, kaJ G 64 (fun _ => 0))]) := hM
  refine lv_aload_n C.x C.b dX5_init_12 rfl (lv_at hl 0 rfl) ?_
  refine lv_bipush (v := nI 64) C.x C.b dX5_init_13 (by decide) ?_
  refine k_newaJ (atype := .long) (R9 := 64) C hX (C.ts _ lk_X5_init_aclong) rfl (by decide) (by decide) (by decide) (by decide) (by decide) dX5_init_15 (fun n4 H hn hX => ?_)
  obtain ⟨g5, hX, hM, hO, fr_n4, hS⟩ := kX.nwP hX hM hO hn hS
  have hM : kCs g5 ([(h, .inr (5, [.ref n1, .null])), (n1, kaJ G 64 (fun _ => 0)), (n4, kaJ G 64 (fun _ => 0))]) := hM
  refine k_putF (X := RX5) (T := TX5) (N := 2) (ty := .array .long) (v := .ref n4) C hX (hM.at 0 rfl) rfl hin_X5_init_RX5 tyX5_ok nmX5 1 (by decide) lk_X5_init_f15 (fun _ h9 => h9) rfl hnm rfl rfl (by decide +kernel) rfl rfl (Nat.le_of_ble_eq_true rfl) dX5_init_17 (fun H locs hX => ?_)
  obtain ⟨g6, hX, hM, hO, hS⟩ := kX.wrP hX hM hO hS 0 rfl (Or.inl (by simp))
  have hM : kCs g6 ([(h, .inr (5, [.ref n1, .ref n4])), (n1, kaJ G 64 (fun _ => 0)), (n4, kaJ G 64 (fun _ => 0))]) := hM
  exact k_vret C hX hr hlocks hQ (by omega) (by omega) (⟨n1, n4, hM, hO, fr_n1, fr_n4⟩) dX5_init_20

theorem hdX5_codeOf_J9_floorMod_f86c9 : yJ9_floorMod_f86c9.cls ≠ "java/lang/invoke/MethodHandle" ∧ yJ9_floorMod_f86c9.cls ≠ "java/lang/invoke/VarHandle" ∧ (parseMethodDescriptor yJ9_floorMod_f86c9.desc).map (fun d => d.parameters.length) = some 2 := by decide +kernel
abbrev rmX5_codeOf : Room := { frames := 1, cells := 0, slots := 0, locals := 25 }
set_option maxHeartbeats 4000000 in
set_option maxRecDepth 100000 in
/-- X5_codeOf -/
theorem kX5_codeOf (l : Launch) (G : kG) (B0 : Nat) (f : kH) (q9 : Nat) (g : Nat → Int64) (b : Int32) (hM : kCs f [(q9, kaJ G 4 g)]) (hb : b.toInt64 ≠ 0) : Met l yX5_codeOf wsX5_codeOf (rmX5_codeOf) (kP G B0 f [.ref q9, .int b]) (kQi G B0 (fun r f1 => r = wCode g b 4 ∧ f1 = f)) 0 0 (kAb B0) := by
  refine kMet (cc := cX5_codeOf) (maxL := 4) (ret := (some .int)) (by decide) rfl (Nat.le_of_ble_eq_true rfl) ?_
  intro p e s m args below meth c H locs Q ls C hX hl hr hlocks hnm hQ
  have hl : lv_has ls 4 [(0, .ref q9), (1, .int b)] := hl
  refine lv_iconst (v := nI 0) C.x C.b dX5_codeOf_0 (by decide) ?_
  refine lv_istore_n (lv' := [(2, .int (nI 0)), (0, .ref q9), (1, .int b)]) C.x C.b dX5_codeOf_1 rfl hl (by decide) rfl (fun ls hl => ?_)
  refine lv_iconst (v := nI 0) C.x C.b dX5_codeOf_2 (by decide) ?_
  refine lv_istore_n (lv' := [(3, .int (nI 0)), (2, .int (nI 0)), (0, .ref q9), (1, .int b)]) C.x C.b dX5_codeOf_3 rfl hl (by decide) rfl (fun ls hl => ?_)
  rw [show (nI 0) = (wCode g b 0) from rfl] at hl
  have LOOP4 : ∀ (n : Nat) (k : Nat), (k ≤ 4) → (4 - k) < n → ∀ (ls : Array Slot), lv_has ls 4 [(2, .int (wCode g b k)), (3, .int (nI k)), (0, .ref q9), (1, .int b)] → ∀ (H : Heap) (locs : List Loc), kX G B0 s f H locs → W p l e (rmX5_codeOf) s m args below meth c H locs 0 0 Q (F0 m 4 ls []) := by
    intro n4
    induction n4 with
    | zero => intro k hk hn; exact absurd hn (Nat.not_lt_zero _)
    | succ n4 ih4 =>
      intro k hk hn ls hl H locs hX
      refine lv_iload_n C.x C.b dX5_codeOf_4 rfl (lv_at hl 1 rfl) ?_
      refine lv_iconst (v := nI 4) C.x C.b dX5_codeOf_5 (by decide) ?_
      refine lv_icmp_ge (tgt := 31) C.x C.b dX5_codeOf_6 (by decide) (fun c_6 => ?_) (fun c_6 => ?_)
      · skip
        have c_6 : 4 ≤ k := (nI_leI (by omega) (by omega)).mp c_6
        refine lv_iload_n C.x C.b dX5_codeOf_31 rfl (lv_at hl 0 rfl) ?_
        exact k_iret C hX hr hlocks hQ (by omega) (by omega) (⟨congrArg (wCode g b) (by omega), rfl⟩) dX5_codeOf_32
      · skip
        have c_6 : ¬ (4 ≤ k) := fun h9 => c_6 ((nI_leI (by omega) (by omega)).mpr h9)
        refine lv_iload_n C.x C.b dX5_codeOf_9 rfl (lv_at hl 0 rfl) ?_
        refine lv_aload_n C.x C.b dX5_codeOf_10 rfl (lv_at hl 2 rfl) ?_
        refine lv_iload_n C.x C.b dX5_codeOf_11 rfl (lv_at hl 1 rfl) ?_
        refine k_lald C hX (hM.at 0 rfl) (vp_in_nI (by omega) (by omega)) dX5_codeOf_12 ?_
        refine k_topl (y := g k) (by rw [nI_clamp (by omega)]) ?_
        refine lv_iload_n C.x C.b dX5_codeOf_13 rfl (lv_at hl 3 rfl) ?_
        refine lv_i2l (v := b.toInt64) C.x C.b dX5_codeOf_14 rfl ?_
        refine k_calll (va_runS (As := [.long (g k), .long b.toInt64]) (rest := [.int (wCode g b k)]) C.1 (kJ9_floorMod_f86c9 l G B0 f (g k) b.toInt64 hb) (va_cwS 2 C.ts gX5_codeOf_J9_floorMod_f86c9 rfl rfl rfl (hdX5_codeOf_J9_floorMod_f86c9) ⟨Nat.le_of_ble_eq_true rfl, Nat.le_of_ble_eq_true rfl⟩) (k_preS C hX) rfl rfl hl.1 rfl (lv_room (Nat.le_of_ble_eq_true rfl)) dX5_codeOf_15 ⟨Nat.le_of_ble_eq_true rfl, Nat.le_of_ble_eq_true rfl⟩) hX (fun r15 f15 H locs hp15 hX => ?_)
        obtain ⟨hr15, hf15⟩ := hp15
        rw [hf15] at hX
        refine k_topl (y := (jFm (g k) b.toInt64)) hr15 ?_
        refine lv_l2i (v := (jFm (g k) b.toInt64).toInt32) C.x C.b dX5_codeOf_18 rfl ?_
        refine lv_iconst (v := nI 3) C.x C.b dX5_codeOf_19 (by decide) ?_
        refine lv_iload_n C.x C.b dX5_codeOf_20 rfl (lv_at hl 1 rfl) ?_
        refine lv_imul C.x C.b dX5_codeOf_21 ?_
        refine k_topi (y := nI (3 * k)) (pk_mul _ _) ?_
        refine lv_ishl C.x C.b dX5_codeOf_22 ?_
        refine lv_ior C.x C.b dX5_codeOf_23 ?_
        refine k_topi (y := (wCode g b (k + 1))) (by rfl) ?_
        refine lv_istore_n (lv' := [(2, .int (wCode g b (k + 1))), (3, .int (nI k)), (0, .ref q9), (1, .int b)]) C.x C.b dX5_codeOf_24 rfl hl (by decide) rfl (fun ls hl => ?_)
        refine lv_iinc (v := (nI (k + 1))) (lv' := [(3, .int (nI (k + 1))), (2, .int (wCode g b (k + 1))), (0, .ref q9), (1, .int b)]) C.x C.b dX5_codeOf_25 hl (k := 1) rfl (nI_1 _) (by decide) rfl (fun ls hl => ?_)
        refine lv_goto (tgt := 4) C.x C.b dX5_codeOf_28 (by decide) ?_
        exact ih4 (k + 1) (by omega) (by omega) ls (lv_sub hl [1, 0, 2, 3] rfl) _ _ hX
  exact LOOP4 _ 0 (by omega) (Nat.lt_succ_self _) ls (lv_sub hl [1, 0, 2, 3] rfl) _ _ hX

abbrev rmX5_remainderAt : Room := { frames := 0, cells := 0, slots := 0, locals := 0 }
set_option maxHeartbeats 4000000 in
set_option maxRecDepth 100000 in
/-- X5_remainderAt -/
theorem kX5_remainderAt (l : Launch) (G : kG) (B0 : Nat) (f : kH) (cd : Int32) (pl : Nat) (hp4 : pl < 4) : Met l yX5_remainderAt wsX5_remainderAt (rmX5_remainderAt) (kP G B0 f [.int cd, .int (nI pl)]) (kQi G B0 (fun r f1 => r = rAt cd pl ∧ f1 = f)) 0 0 (kAb B0) := by
  refine kMet (cc := cX5_remainderAt) (maxL := 2) (ret := (some .int)) (by decide) rfl (Nat.le_of_ble_eq_true rfl) ?_
  intro p e s m args below meth c H locs Q ls C hX hl hr hlocks hnm hQ
  have hl : lv_has ls 2 [(0, .int cd), (1, .int (nI pl))] := hl
  refine lv_iload_n C.x C.b dX5_remainderAt_0 rfl (lv_at hl 0 rfl) ?_
  refine lv_iconst (v := nI 3) C.x C.b dX5_remainderAt_1 (by decide) ?_
  refine lv_iload_n C.x C.b dX5_remainderAt_2 rfl (lv_at hl 1 rfl) ?_
  refine lv_imul C.x C.b dX5_remainderAt_3 ?_
  refine k_topi (y := nI (3 * pl)) (pk_mul _ _) ?_
  refine lv_ishr C.x C.b dX5_remainderAt_4 ?_
  refine lv_bipush (v := nI 7) C.x C.b dX5_remainderAt_5 (by decide) ?_
  refine lv_iand C.x C.b dX5_remainderAt_7 ?_
  exact k_iret C hX hr hlocks hQ (by omega) (by omega) (⟨rfl, rfl⟩) dX5_remainderAt_8

theorem hdX5_turnedCode_X5_remainderAt : yX5_remainderAt.cls ≠ "java/lang/invoke/MethodHandle" ∧ yX5_remainderAt.cls ≠ "java/lang/invoke/VarHandle" ∧ (parseMethodDescriptor yX5_remainderAt.desc).map (fun d => d.parameters.length) = some 2 := by decide +kernel
theorem hdX5_turnedCode_J9_floorMod_7cf53 : yJ9_floorMod_7cf53.cls ≠ "java/lang/invoke/MethodHandle" ∧ yJ9_floorMod_7cf53.cls ≠ "java/lang/invoke/VarHandle" ∧ (parseMethodDescriptor yJ9_floorMod_7cf53.desc).map (fun d => d.parameters.length) = some 2 := by decide +kernel
abbrev rmX5_turnedCode : Room := { frames := 1, cells := 0, slots := 0, locals := 22 }
set_option maxHeartbeats 4000000 in
set_option maxRecDepth 100000 in
/-- X5_turnedCode -/
theorem kX5_turnedCode (l : Launch) (G : kG) (B0 : Nat) (f : kH) (cd : Int32) (pl : Nat) (b : Int32) (hp4 : pl < 4) (hb : b ≠ 0) : Met l yX5_turnedCode wsX5_turnedCode (rmX5_turnedCode) (kP G B0 f [.int cd, .int (nI pl), .int b]) (kQi G B0 (fun r f1 => r = rTc cd pl b ∧ f1 = f)) 0 0 (kAb B0) := by
  refine kMet (cc := cX5_turnedCode) (maxL := 5) (ret := (some .int)) (by decide) rfl (Nat.le_of_ble_eq_true rfl) ?_
  intro p e s m args below meth c H locs Q ls C hX hl hr hlocks hnm hQ
  have hl : lv_has ls 5 [(0, .int cd), (1, .int (nI pl)), (2, .int b)] := hl
  refine lv_iconst (v := nI 0) C.x C.b dX5_turnedCode_0 (by decide) ?_
  refine lv_istore_n (lv' := [(3, .int (nI 0)), (0, .int cd), (1, .int (nI pl)), (2, .int b)]) C.x C.b dX5_turnedCode_1 rfl hl (by decide) rfl (fun ls hl => ?_)
  refine lv_iconst (v := nI 0) C.x C.b dX5_turnedCode_2 (by decide) ?_
  refine lv_istore (lv' := [(4, .int (nI 0)), (3, .int (nI 0)), (0, .int cd), (1, .int (nI pl)), (2, .int b)]) C.x C.b dX5_turnedCode_3 hl (by decide) rfl (fun ls hl => ?_)
  rw [show (nI 0) = (rOth cd pl 0) from rfl] at hl
  have LOOP5 : ∀ (n : Nat) (k : Nat), (k ≤ 4) → (4 - k) < n → ∀ (ls : Array Slot), lv_has ls 5 [(3, .int (rOth cd pl k)), (4, .int (nI k)), (0, .int cd), (1, .int (nI pl)), (2, .int b)] → ∀ (H : Heap) (locs : List Loc), kX G B0 s f H locs → W p l e (rmX5_turnedCode) s m args below meth c H locs 0 0 Q (F0 m 5 ls []) := by
    intro n5
    induction n5 with
    | zero => intro k hk hn; exact absurd hn (Nat.not_lt_zero _)
    | succ n5 ih5 =>
      intro k hk hn ls hl H locs hX
      refine lv_iload C.x C.b dX5_turnedCode_5 (lv_at hl 1 rfl) ?_
      refine lv_iconst (v := nI 4) C.x C.b dX5_turnedCode_7 (by decide) ?_
      refine lv_icmp_ge (tgt := 36) C.x C.b dX5_turnedCode_8 (by decide) (fun c_8 => ?_) (fun c_8 => ?_)
      · skip
        have c_8 : 4 ≤ k := (nI_leI (by omega) (by omega)).mp c_8
        rw [show (rOth cd pl k) = (rOth cd pl 4) from congrArg (rOth cd pl) (by omega)] at hl
        refine lv_iconst (v := nI 2) C.x C.b dX5_turnedCode_36 (by decide) ?_
        refine lv_iload_n C.x C.b dX5_turnedCode_37 rfl (lv_at hl 0 rfl) ?_
        refine lv_imul C.x C.b dX5_turnedCode_38 ?_
        refine lv_iload_n C.x C.b dX5_turnedCode_39 rfl (lv_at hl 2 rfl) ?_
        refine lv_iload_n C.x C.b dX5_turnedCode_40 rfl (lv_at hl 3 rfl) ?_
        refine k_calli (va_runS (As := [.int cd, .int (nI pl)]) (rest := [.int ((nI 2) * (rOth cd pl 4))]) C.1 (kX5_remainderAt l G B0 f cd pl (by omega)) (va_cwS 2 C.ts gX5_turnedCode_X5_remainderAt rfl rfl rfl (hdX5_turnedCode_X5_remainderAt) ⟨Nat.le_of_ble_eq_true rfl, Nat.le_of_ble_eq_true rfl⟩) (k_preS C hX) rfl rfl hl.1 rfl (lv_room (Nat.le_of_ble_eq_true rfl)) dX5_turnedCode_41 ⟨Nat.le_of_ble_eq_true rfl, Nat.le_of_ble_eq_true rfl⟩) hX (fun r41 f41 H locs hp41 hX => ?_)
        obtain ⟨hr41, hf41⟩ := hp41
        rw [hf41] at hX
        refine k_topi (y := (rAt cd pl)) hr41 ?_
        refine lv_isub C.x C.b dX5_turnedCode_44 ?_
        refine lv_iload_n C.x C.b dX5_turnedCode_45 rfl (lv_at hl 4 rfl) ?_
        refine k_calli (va_runS (As := [.int (((nI 2) * (rOth cd pl 4)) - (rAt cd pl)), .int b]) (rest := []) C.1 (kJ9_floorMod_7cf53 l G B0 f (nI 2 * rOth cd pl 4 - rAt cd pl) b hb) (va_cwS 2 C.ts gX5_turnedCode_J9_floorMod_7cf53 rfl rfl rfl (hdX5_turnedCode_J9_floorMod_7cf53) ⟨Nat.le_of_ble_eq_true rfl, Nat.le_of_ble_eq_true rfl⟩) (k_preS C hX) rfl rfl hl.1 rfl (lv_room (Nat.le_of_ble_eq_true rfl)) dX5_turnedCode_46 ⟨Nat.le_of_ble_eq_true rfl, Nat.le_of_ble_eq_true rfl⟩) hX (fun r46 f46 H locs hp46 hX => ?_)
        obtain ⟨hr46, hf46⟩ := hp46
        rw [hf46] at hX
        refine k_topi (y := (jFmI (nI 2 * rOth cd pl 4 - rAt cd pl) b)) hr46 ?_
        refine lv_istore (lv' := [(4, .int (jFmI (nI 2 * rOth cd pl 4 - rAt cd pl) b)), (3, .int (rOth cd pl 4)), (0, .int cd), (1, .int (nI pl)), (2, .int b)]) C.x C.b dX5_turnedCode_49 hl (by decide) rfl (fun ls hl => ?_)
        refine lv_iload_n C.x C.b dX5_turnedCode_51 rfl (lv_at hl 2 rfl) ?_
        refine lv_bipush (v := nI 7) C.x C.b dX5_turnedCode_52 (by decide) ?_
        refine lv_iconst (v := nI 3) C.x C.b dX5_turnedCode_54 (by decide) ?_
        refine lv_iload_n C.x C.b dX5_turnedCode_55 rfl (lv_at hl 3 rfl) ?_
        refine lv_imul C.x C.b dX5_turnedCode_56 ?_
        refine k_topi (y := nI (3 * pl)) (pk_mul _ _) ?_
        refine lv_ishl C.x C.b dX5_turnedCode_57 ?_
        refine lv_iconst (v := -1) C.x C.b dX5_turnedCode_58 (by decide) ?_
        refine lv_ixor C.x C.b dX5_turnedCode_59 ?_
        refine lv_iand C.x C.b dX5_turnedCode_60 ?_
        refine lv_iload C.x C.b dX5_turnedCode_61 (lv_at hl 0 rfl) ?_
        refine lv_iconst (v := nI 3) C.x C.b dX5_turnedCode_63 (by decide) ?_
        refine lv_iload_n C.x C.b dX5_turnedCode_64 rfl (lv_at hl 3 rfl) ?_
        refine lv_imul C.x C.b dX5_turnedCode_65 ?_
        refine k_topi (y := nI (3 * pl)) (pk_mul _ _) ?_
        refine lv_ishl C.x C.b dX5_turnedCode_66 ?_
        refine lv_ior C.x C.b dX5_turnedCode_67 ?_
        exact k_iret C hX hr hlocks hQ (by omega) (by omega) (⟨rfl, rfl⟩) dX5_turnedCode_68
      · skip
        have c_8 : ¬ (4 ≤ k) := fun h9 => c_8 ((nI_leI (by omega) (by omega)).mpr h9)
        refine lv_iload_n C.x C.b dX5_turnedCode_11 rfl (lv_at hl 0 rfl) ?_
        refine lv_iload C.x C.b dX5_turnedCode_12 (lv_at hl 1 rfl) ?_
        refine lv_iload_n C.x C.b dX5_turnedCode_14 rfl (lv_at hl 3 rfl) ?_
        have J28 : ∀ (ls : Array Slot), lv_has ls 5 [(3, .int (rOth cd pl k)), (4, .int (nI k)), (0, .int cd), (1, .int (nI pl)), (2, .int b)] → ∀ (H : Heap) (locs : List Loc), kX G B0 s f H locs → W p l e (rmX5_turnedCode) s m args below meth c H locs 0 0 Q (F0 m 28 ls [.int (if k = pl then nI 0 else rAt cd k), .int (rOth cd pl k)]) := by
          intro ls hl H locs hX
          refine lv_iadd C.x C.b dX5_turnedCode_28 ?_
          refine k_topi (y := (rOth cd pl (k + 1))) (by rfl) ?_
          refine lv_istore_n (lv' := [(3, .int (rOth cd pl (k + 1))), (4, .int (nI k)), (0, .int cd), (1, .int (nI pl)), (2, .int b)]) C.x C.b dX5_turnedCode_29 rfl hl (by decide) rfl (fun ls hl => ?_)
          refine lv_iinc (v := (nI (k + 1))) (lv' := [(4, .int (nI (k + 1))), (3, .int (rOth cd pl (k + 1))), (0, .int cd), (1, .int (nI pl)), (2, .int b)]) C.x C.b dX5_turnedCode_30 hl (k := 1) rfl (nI_1 _) (by decide) rfl (fun ls hl => ?_)
          refine lv_goto (tgt := 5) C.x C.b dX5_turnedCode_33 (by decide) ?_
          exact ih5 (k + 1) (by omega) (by omega) ls (lv_sub hl [1, 0, 2, 3, 4] rfl) _ _ hX
        refine lv_icmp_ne (tgt := 22) C.x C.b dX5_turnedCode_15 (by decide) (fun c_15 => ?_) (fun c_15 => ?_)
        · skip
          have c_15 : ¬ (k = pl) := fun h9 => c_15 ((nI_eq (by omega) (by omega)).mpr h9)
          refine lv_iload_n C.x C.b dX5_turnedCode_22 rfl (lv_at hl 2 rfl) ?_
          refine lv_iload C.x C.b dX5_turnedCode_23 (lv_at hl 1 rfl) ?_
          refine k_calli (va_runS (As := [.int cd, .int (nI k)]) (rest := [.int (rOth cd pl k)]) C.1 (kX5_remainderAt l G B0 f cd k (by omega)) (va_cwS 2 C.ts gX5_turnedCode_X5_remainderAt rfl rfl rfl (hdX5_turnedCode_X5_remainderAt) ⟨Nat.le_of_ble_eq_true rfl, Nat.le_of_ble_eq_true rfl⟩) (k_preS C hX) rfl rfl hl.1 rfl (lv_room (Nat.le_of_ble_eq_true rfl)) dX5_turnedCode_25 ⟨Nat.le_of_ble_eq_true rfl, Nat.le_of_ble_eq_true rfl⟩) hX (fun r25 f25 H locs hp25 hX => ?_)
          obtain ⟨hr25, hf25⟩ := hp25
          rw [hf25] at hX
          refine k_topi (y := (rAt cd k)) hr25 ?_
          refine k_topi (y := (if k = pl then nI 0 else rAt cd k)) (by first | rw [if_pos c_15] | rw [if_neg c_15]) ?_
          exact J28 ls (lv_sub hl [0, 1, 2, 3, 4] rfl) _ _ hX
        · skip
          have c_15 : k = pl := (nI_eq (by omega) (by omega)).mp c_15
          refine lv_iconst (v := nI 0) C.x C.b dX5_turnedCode_18 (by decide) ?_
          refine lv_goto (tgt := 28) C.x C.b dX5_turnedCode_19 (by decide) ?_
          refine k_topi (y := (if k = pl then nI 0 else rAt cd k)) (by first | rw [if_pos c_15] | rw [if_neg c_15]) ?_
          exact J28 ls (lv_sub hl [0, 1, 2, 3, 4] rfl) _ _ hX
  exact LOOP5 _ 0 (by omega) (Nat.lt_succ_self _) ls (lv_sub hl [1, 0, 2, 3, 4] rfl) _ _ hX

theorem lk_X5_noteCode_f11 : Cond.fieldLink RX5 11 "Koebehall$RemainderWalk" "seen" "[J" ∈ wsX5_noteCode := by decide +kernel
theorem hin_X5_noteCode_RX5 : ∀ w ∈ u_ws RX5 TX5 2, w ∈ wsX5_noteCode := by decide +kernel
theorem lk_X5_noteCode_f15 : Cond.fieldLink RX5 15 "Koebehall$RemainderWalk" "waiting" "[J" ∈ wsX5_noteCode := by decide +kernel
abbrev rmX5_noteCode : Room := { frames := 0, cells := 0, slots := 0, locals := 0 }
set_option maxHeartbeats 4000000 in
set_option maxRecDepth 100000 in
/-- X5_noteCode -/
theorem kX5_noteCode (l : Launch) (G : kG) (B0 : Nat) (f : kH) (h sA wA : Nat) (gs gw : Nat → Int64) (cd : Nat) (hM : kCs f [(h, .inr (5, [.ref sA, .ref wA])), (sA, kaJ G 64 gs), (wA, kaJ G 64 gw)]) (hc : cd < 4096) : Met l yX5_noteCode wsX5_noteCode (rmX5_noteCode) (kP G B0 f [.ref h, .int (nI cd)]) (kQv G B0 (fun f1 => kCs f1 [(h, .inr (5, [.ref sA, .ref wA])), (sA, kaJ G 64 (rNs gs cd)), (wA, kaJ G 64 (rNw gs gw cd))] ∧ kOff [h, sA, wA] f f1)) 0 0 (kAb B0) := by
  refine kMet (cc := cX5_noteCode) (maxL := 4) (ret := none) (by decide) rfl (Nat.le_of_ble_eq_true rfl) ?_
  intro p e s m args below meth c H locs Q ls C hX hl hr hlocks hnm hQ
  have hO : kOff [h, sA, wA] f f := kOff.rf
  have hl : lv_has ls 4 [(0, .ref h), (1, .int (nI cd))] := hl
  refine lv_lconst (v := 1) C.x C.b dX5_noteCode_0 (by decide) ?_
  refine lv_iload_n C.x C.b dX5_noteCode_1 rfl (lv_at hl 1 rfl) ?_
  refine lv_bipush (v := nI 63) C.x C.b dX5_noteCode_2 (by decide) ?_
  refine lv_iand C.x C.b dX5_noteCode_4 ?_
  refine lv_lshl (v := 1 <<< (((nI cd) &&& (nI 63)).toInt64 &&& 63)) C.x C.b dX5_noteCode_5 rfl ?_
  refine k_topl (y := (rBit cd)) (by rfl) ?_
  refine lv_lstore_n (lv' := [(2, .long (rBit cd)), (0, .ref h), (1, .int (nI cd))]) C.x C.b dX5_noteCode_6 rfl hl (by decide) rfl (fun ls hl => ?_)
  refine lv_aload_n C.x C.b dX5_noteCode_7 rfl (lv_at hl 1 rfl) ?_
  refine k_get (X := RX5) (T := TX5) (N := 2) (v := .ref sA) C hX (hM.at 0 rfl) rfl hin_X5_noteCode_RX5 0 (by decide) lk_X5_noteCode_f11 (fun _ h9 => h9) rfl dX5_noteCode_8 ?_
  refine lv_iload_n C.x C.b dX5_noteCode_11 rfl (lv_at hl 2 rfl) ?_
  refine lv_bipush (v := nI 6) C.x C.b dX5_noteCode_12 (by decide) ?_
  refine lv_ishr C.x C.b dX5_noteCode_14 ?_
  refine k_topi (y := (nI (cd / 64))) (pk_shrN (by omega) _ 6 (by decide)) ?_
  refine k_lald C hX (hM.at 1 rfl) (vp_in_nI (by omega) (by omega)) dX5_noteCode_15 ?_
  refine k_topl (y := gs (cd / 64)) (by rw [nI_clamp (by omega)]) ?_
  refine lv_lload_n C.x C.b dX5_noteCode_16 rfl (lv_at hl 0 rfl) ?_
  refine lv_land C.x C.b dX5_noteCode_17 ?_
  refine lv_lconst (v := 0) C.x C.b dX5_noteCode_18 (by decide) ?_
  refine k_lcmp_ne (tgt := 49) C.x C.b dX5_noteCode_19 dX5_noteCode_20 (by decide) (fun c_20 => ?_) (fun c_20 => ?_)
  · skip
    exact k_vret C hX hr hlocks hQ (by omega) (by omega) (by refine ⟨?_, hO⟩; rw [rNs, rNw]; first | (rw [if_pos c_20, if_pos c_20]; exact hM) | (rw [if_neg c_20, if_neg c_20]; exact hM)) dX5_noteCode_49
  · skip
    refine lv_aload_n C.x C.b dX5_noteCode_23 rfl (lv_at hl 1 rfl) ?_
    refine k_get (X := RX5) (T := TX5) (N := 2) (v := .ref sA) C hX (hM.at 0 rfl) rfl hin_X5_noteCode_RX5 0 (by decide) lk_X5_noteCode_f11 (fun _ h9 => h9) rfl dX5_noteCode_24 ?_
    refine lv_iload_n C.x C.b dX5_noteCode_27 rfl (lv_at hl 2 rfl) ?_
    refine lv_bipush (v := nI 6) C.x C.b dX5_noteCode_28 (by decide) ?_
    refine lv_ishr C.x C.b dX5_noteCode_30 ?_
    refine k_topi (y := (nI (cd / 64))) (pk_shrN (by omega) _ 6 (by decide)) ?_
    refine lv_dup2_11 C.x C.b dX5_noteCode_31 rfl rfl ?_
    refine k_lald C hX (hM.at 1 rfl) (vp_in_nI (by omega) (by omega)) dX5_noteCode_32 ?_
    refine k_topl (y := gs (cd / 64)) (by rw [nI_clamp (by omega)]) ?_
    refine lv_lload_n C.x C.b dX5_noteCode_33 rfl (lv_at hl 0 rfl) ?_
    refine lv_lor C.x C.b dX5_noteCode_34 ?_
    refine k_last C hX (hM.at 1 rfl) (vp_in_nI (by omega) (by omega)) dX5_noteCode_35 (fun H locs hX => ?_)
    rw [nI_clamp (by omega)] at hX
    obtain ⟨g1, hX, hM, hO⟩ := kX.wr hX hM hO 1 rfl (List.mem_of_getElem? (i := 1) rfl)
    have hM : kCs g1 ([(h, .inr (5, [.ref sA, .ref wA])), (sA, kaJ G 64 (vp_updL gs (cd / 64) ((gs (cd / 64)) ||| (rBit cd)))), (wA, kaJ G 64 gw)]) := hM
    refine lv_aload_n C.x C.b dX5_noteCode_36 rfl (lv_at hl 1 rfl) ?_
    refine k_get (X := RX5) (T := TX5) (N := 2) (v := .ref wA) C hX (hM.at 0 rfl) rfl hin_X5_noteCode_RX5 1 (by decide) lk_X5_noteCode_f15 (fun _ h9 => h9) rfl dX5_noteCode_37 ?_
    refine lv_iload_n C.x C.b dX5_noteCode_40 rfl (lv_at hl 2 rfl) ?_
    refine lv_bipush (v := nI 6) C.x C.b dX5_noteCode_41 (by decide) ?_
    refine lv_ishr C.x C.b dX5_noteCode_43 ?_
    refine k_topi (y := (nI (cd / 64))) (pk_shrN (by omega) _ 6 (by decide)) ?_
    refine lv_dup2_11 C.x C.b dX5_noteCode_44 rfl rfl ?_
    refine k_lald C hX (hM.at 2 rfl) (vp_in_nI (by omega) (by omega)) dX5_noteCode_45 ?_
    refine k_topl (y := gw (cd / 64)) (by rw [nI_clamp (by omega)]) ?_
    refine lv_lload_n C.x C.b dX5_noteCode_46 rfl (lv_at hl 0 rfl) ?_
    refine lv_lor C.x C.b dX5_noteCode_47 ?_
    refine k_last C hX (hM.at 2 rfl) (vp_in_nI (by omega) (by omega)) dX5_noteCode_48 (fun H locs hX => ?_)
    rw [nI_clamp (by omega)] at hX
    obtain ⟨g2, hX, hM, hO⟩ := kX.wr hX hM hO 2 rfl (List.mem_of_getElem? (i := 2) rfl)
    have hM : kCs g2 ([(h, .inr (5, [.ref sA, .ref wA])), (sA, kaJ G 64 (vp_updL gs (cd / 64) ((gs (cd / 64)) ||| (rBit cd)))), (wA, kaJ G 64 (vp_updL gw (cd / 64) ((gw (cd / 64)) ||| (rBit cd))))]) := hM
    exact k_vret C hX hr hlocks hQ (by omega) (by omega) (by refine ⟨?_, hO⟩; rw [rNs, rNw]; first | (rw [if_pos c_20, if_pos c_20]; exact hM) | (rw [if_neg c_20, if_neg c_20]; exact hM)) dX5_noteCode_49

theorem lk_X5_takeWaiting_f15 : Cond.fieldLink RX5 15 "Koebehall$RemainderWalk" "waiting" "[J" ∈ wsX5_takeWaiting := by decide +kernel
theorem hin_X5_takeWaiting_RX5 : ∀ w ∈ u_ws RX5 TX5 2, w ∈ wsX5_takeWaiting := by decide +kernel
theorem hdX5_takeWaiting_J13_numberOfTrailingZeros_95d88 : yJ13_numberOfTrailingZeros_95d88.cls ≠ "java/lang/invoke/MethodHandle" ∧ yJ13_numberOfTrailingZeros_95d88.cls ≠ "java/lang/invoke/VarHandle" ∧ (parseMethodDescriptor yJ13_numberOfTrailingZeros_95d88.desc).map (fun d => d.parameters.length) = some 1 := by decide +kernel
abbrev rmX5_takeWaiting : Room := { frames := 2, cells := 0, slots := 0, locals := 43 }
set_option maxHeartbeats 4000000 in
set_option maxRecDepth 100000 in
/-- X5_takeWaiting -/
theorem kX5_takeWaiting (l : Launch) (G : kG) (B0 : Nat) (f : kH) (h sA wA : Nat) (gs gw : Nat → Int64) (hM : kCs f [(h, .inr (5, [.ref sA, .ref wA])), (sA, kaJ G 64 gs), (wA, kaJ G 64 gw)]) : Met l yX5_takeWaiting wsX5_takeWaiting (rmX5_takeWaiting) (kP G B0 f [.ref h]) (kQi G B0 (fun r f1 => r = rTkC gw ∧ kCs f1 [(h, .inr (5, [.ref sA, .ref wA])), (sA, kaJ G 64 gs), (wA, kaJ G 64 (rTkW gw))] ∧ kOff [h, sA, wA] f f1)) 0 0 (kAb B0) := by
  refine kMet (cc := cX5_takeWaiting) (maxL := 3) (ret := (some .int)) (by decide) rfl (Nat.le_of_ble_eq_true rfl) ?_
  intro p e s m args below meth c H locs Q ls C hX hl hr hlocks hnm hQ
  have hO : kOff [h, sA, wA] f f := kOff.rf
  have hl : lv_has ls 3 [(0, .ref h)] := hl
  refine lv_iconst (v := nI 0) C.x C.b dX5_takeWaiting_0 (by decide) ?_
  refine lv_istore_n (lv' := [(1, .int (nI 0)), (0, .ref h)]) C.x C.b dX5_takeWaiting_1 rfl hl (by decide) rfl (fun ls hl => ?_)
  have LOOP2 : ∀ (n : Nat) (k : Nat), (k ≤ 64) → (rFst gw (64 - k) k = rFst gw 64 0) → (64 - k) < n → ∀ (ls : Array Slot), lv_has ls 3 [(1, .int (nI k)), (0, .ref h)] → ∀ (H : Heap) (locs : List Loc), kX G B0 s f H locs → W p l e (rmX5_takeWaiting) s m args below meth c H locs 0 0 Q (F0 m 2 ls []) := by
    intro n2
    induction n2 with
    | zero => intro k hk hv hn; exact absurd hn (Nat.not_lt_zero _)
    | succ n2 ih2 =>
      intro k hk hv hn ls hl H locs hX
      refine lv_iload_n C.x C.b dX5_takeWaiting_2 rfl (lv_at hl 0 rfl) ?_
      refine lv_aload_n C.x C.b dX5_takeWaiting_3 rfl (lv_at hl 1 rfl) ?_
      refine k_get (X := RX5) (T := TX5) (N := 2) (v := .ref wA) C hX (hM.at 0 rfl) rfl hin_X5_takeWaiting_RX5 1 (by decide) lk_X5_takeWaiting_f15 (fun _ h9 => h9) rfl dX5_takeWaiting_4 ?_
      refine k_alenJ C hX (hM.at 2 rfl) dX5_takeWaiting_7 ?_
      refine lv_icmp_ge (tgt := 62) C.x C.b dX5_takeWaiting_8 (by decide) (fun c_8 => ?_) (fun c_8 => ?_)
      · skip
        have c_8 : 64 ≤ k := (nI_leI (by omega) (by omega)).mp c_8
        have hf9 : ¬ rFst gw 64 0 < 64 := by rw [← hv, show 64 - k = 0 by omega, rFst]; omega
        refine lv_iconst (v := -1) C.x C.b dX5_takeWaiting_62 (by decide) ?_
        exact k_iret C hX hr hlocks hQ (by omega) (by omega) (by rw [rTkC, rTkW]; first | (rw [hf9, if_pos (show k < 64 by omega), if_pos (show k < 64 by omega)]; exact ⟨rfl, hM, hO⟩) | (rw [if_neg hf9, if_neg hf9]; exact ⟨rfl, hM, hO⟩)) dX5_takeWaiting_63
      · skip
        have c_8 : ¬ (64 ≤ k) := fun h9 => c_8 ((nI_leI (by omega) (by omega)).mpr h9)
        refine lv_aload_n C.x C.b dX5_takeWaiting_11 rfl (lv_at hl 1 rfl) ?_
        refine k_get (X := RX5) (T := TX5) (N := 2) (v := .ref wA) C hX (hM.at 0 rfl) rfl hin_X5_takeWaiting_RX5 1 (by decide) lk_X5_takeWaiting_f15 (fun _ h9 => h9) rfl dX5_takeWaiting_12 ?_
        refine lv_iload_n C.x C.b dX5_takeWaiting_15 rfl (lv_at hl 0 rfl) ?_
        refine k_lald C hX (hM.at 2 rfl) (vp_in_nI (by omega) (by omega)) dX5_takeWaiting_16 ?_
        refine k_topl (y := gw k) (by rw [nI_clamp (by omega)]) ?_
        refine lv_lconst (v := 0) C.x C.b dX5_takeWaiting_17 (by decide) ?_
        refine k_lcmp_eq (tgt := 56) C.x C.b dX5_takeWaiting_18 dX5_takeWaiting_19 (by decide) (fun c_19 => ?_) (fun c_19 => ?_)
        · skip
          refine lv_iinc (v := (nI (k + 1))) (lv' := [(1, .int (nI (k + 1))), (0, .ref h)]) C.x C.b dX5_takeWaiting_56 hl (k := 0) rfl (nI_1 _) (by decide) rfl (fun ls hl => ?_)
          refine lv_goto (tgt := 2) C.x C.b dX5_takeWaiting_59 (by decide) ?_
          exact ih2 (k + 1) (by omega) (by rw [← hv, show 64 - k = (64 - (k + 1)) + 1 by omega, rFst, if_pos c_19]) (by omega) ls (lv_sub hl [0, 1] rfl) _ _ hX
        · skip
          have hf9 : rFst gw 64 0 = k := by rw [← hv, show 64 - k = (64 - (k + 1)) + 1 by omega, rFst, if_neg c_19]
          refine lv_bipush (v := nI 64) C.x C.b dX5_takeWaiting_22 (by decide) ?_
          refine lv_iload_n C.x C.b dX5_takeWaiting_24 rfl (lv_at hl 0 rfl) ?_
          refine lv_imul C.x C.b dX5_takeWaiting_25 ?_
          refine k_topi (y := nI (64 * k)) (pk_mul _ _) ?_
          refine lv_aload_n C.x C.b dX5_takeWaiting_26 rfl (lv_at hl 1 rfl) ?_
          refine k_get (X := RX5) (T := TX5) (N := 2) (v := .ref wA) C hX (hM.at 0 rfl) rfl hin_X5_takeWaiting_RX5 1 (by decide) lk_X5_takeWaiting_f15 (fun _ h9 => h9) rfl dX5_takeWaiting_27 ?_
          refine lv_iload_n C.x C.b dX5_takeWaiting_30 rfl (lv_at hl 0 rfl) ?_
          refine k_lald C hX (hM.at 2 rfl) (vp_in_nI (by omega) (by omega)) dX5_takeWaiting_31 ?_
          refine k_topl (y := gw k) (by rw [nI_clamp (by omega)]) ?_
          refine k_calli (va_runS (As := [.long (gw k)]) (rest := [.int (nI (64 * k))]) C.1 (kJ13_numberOfTrailingZeros_95d88 l G B0 f (gw k)) (va_cwS 1 C.ts gX5_takeWaiting_J13_numberOfTrailingZeros_95d88 rfl rfl rfl (hdX5_takeWaiting_J13_numberOfTrailingZeros_95d88) ⟨Nat.le_of_ble_eq_true rfl, Nat.le_of_ble_eq_true rfl⟩) (k_preS C hX) rfl rfl hl.1 rfl (lv_room (Nat.le_of_ble_eq_true rfl)) dX5_takeWaiting_32 ⟨Nat.le_of_ble_eq_true rfl, Nat.le_of_ble_eq_true rfl⟩) hX (fun r32 f32 H locs hp32 hX => ?_)
          obtain ⟨hr32, hf32⟩ := hp32
          rw [hf32] at hX
          refine k_topi (y := (jTz (gw k))) hr32 ?_
          refine lv_iadd C.x C.b dX5_takeWaiting_35 ?_
          refine lv_istore_n (lv' := [(2, .int ((nI (64 * k)) + (jTz (gw k)))), (1, .int (nI k)), (0, .ref h)]) C.x C.b dX5_takeWaiting_36 rfl hl (by decide) rfl (fun ls hl => ?_)
          refine lv_aload_n C.x C.b dX5_takeWaiting_37 rfl (lv_at hl 2 rfl) ?_
          refine k_get (X := RX5) (T := TX5) (N := 2) (v := .ref wA) C hX (hM.at 0 rfl) rfl hin_X5_takeWaiting_RX5 1 (by decide) lk_X5_takeWaiting_f15 (fun _ h9 => h9) rfl dX5_takeWaiting_38 ?_
          refine lv_iload_n C.x C.b dX5_takeWaiting_41 rfl (lv_at hl 1 rfl) ?_
          refine lv_dup2_11 C.x C.b dX5_takeWaiting_42 rfl rfl ?_
          refine k_lald C hX (hM.at 2 rfl) (vp_in_nI (by omega) (by omega)) dX5_takeWaiting_43 ?_
          refine k_topl (y := gw k) (by rw [nI_clamp (by omega)]) ?_
          refine lv_aload_n C.x C.b dX5_takeWaiting_44 rfl (lv_at hl 2 rfl) ?_
          refine k_get (X := RX5) (T := TX5) (N := 2) (v := .ref wA) C hX (hM.at 0 rfl) rfl hin_X5_takeWaiting_RX5 1 (by decide) lk_X5_takeWaiting_f15 (fun _ h9 => h9) rfl dX5_takeWaiting_45 ?_
          refine lv_iload_n C.x C.b dX5_takeWaiting_48 rfl (lv_at hl 1 rfl) ?_
          refine k_lald C hX (hM.at 2 rfl) (vp_in_nI (by omega) (by omega)) dX5_takeWaiting_49 ?_
          refine k_topl (y := gw k) (by rw [nI_clamp (by omega)]) ?_
          refine lv_lconst (v := 1) C.x C.b dX5_takeWaiting_50 (by decide) ?_
          refine lv_lsub C.x C.b dX5_takeWaiting_51 ?_
          refine lv_land C.x C.b dX5_takeWaiting_52 ?_
          refine k_last C hX (hM.at 2 rfl) (vp_in_nI (by omega) (by omega)) dX5_takeWaiting_53 (fun H locs hX => ?_)
          rw [nI_clamp (by omega)] at hX
          obtain ⟨g2, hX, hM, hO⟩ := kX.wr hX hM hO 2 rfl (List.mem_of_getElem? (i := 2) rfl)
          have hM : kCs g2 ([(h, .inr (5, [.ref sA, .ref wA])), (sA, kaJ G 64 gs), (wA, kaJ G 64 (vp_updL gw k ((gw k) &&& ((gw k) - 1))))]) := hM
          refine lv_iload_n C.x C.b dX5_takeWaiting_54 rfl (lv_at hl 0 rfl) ?_
          exact k_iret C hX hr hlocks hQ (by omega) (by omega) (by rw [rTkC, rTkW]; first | (rw [hf9, if_pos (show k < 64 by omega), if_pos (show k < 64 by omega)]; exact ⟨rfl, hM, hO⟩) | (rw [if_neg hf9, if_neg hf9]; exact ⟨rfl, hM, hO⟩)) dX5_takeWaiting_55
  exact LOOP2 _ 0 (by omega) rfl (Nat.lt_succ_self _) ls (lv_sub hl [0, 1] rfl) _ _ hX

theorem lk_X5_allReached_f11 : Cond.fieldLink RX5 11 "Koebehall$RemainderWalk" "seen" "[J" ∈ wsX5_allReached := by decide +kernel
theorem hin_X5_allReached_RX5 : ∀ w ∈ u_ws RX5 TX5 2, w ∈ wsX5_allReached := by decide +kernel
theorem hdX5_allReached_J7_fill_d0a16 : yJ7_fill_d0a16.cls ≠ "java/lang/invoke/MethodHandle" ∧ yJ7_fill_d0a16.cls ≠ "java/lang/invoke/VarHandle" ∧ (parseMethodDescriptor yJ7_fill_d0a16.desc).map (fun d => d.parameters.length) = some 2 := by decide +kernel
theorem lk_X5_allReached_f15 : Cond.fieldLink RX5 15 "Koebehall$RemainderWalk" "waiting" "[J" ∈ wsX5_allReached := by decide +kernel
theorem hdX5_allReached_X5_codeOf : yX5_codeOf.cls ≠ "java/lang/invoke/MethodHandle" ∧ yX5_codeOf.cls ≠ "java/lang/invoke/VarHandle" ∧ (parseMethodDescriptor yX5_codeOf.desc).map (fun d => d.parameters.length) = some 2 := by decide +kernel
theorem hdX5_allReached_X5_noteCode : yX5_noteCode.cls ≠ "java/lang/invoke/MethodHandle" ∧ yX5_noteCode.cls ≠ "java/lang/invoke/VarHandle" ∧ (parseMethodDescriptor yX5_noteCode.desc).map (fun d => d.parameters.length) = some 1 := by decide +kernel
theorem hdX5_allReached_X5_takeWaiting : yX5_takeWaiting.cls ≠ "java/lang/invoke/MethodHandle" ∧ yX5_takeWaiting.cls ≠ "java/lang/invoke/VarHandle" ∧ (parseMethodDescriptor yX5_takeWaiting.desc).map (fun d => d.parameters.length) = some 0 := by decide +kernel
theorem hdX5_allReached_X5_remainderAt : yX5_remainderAt.cls ≠ "java/lang/invoke/MethodHandle" ∧ yX5_remainderAt.cls ≠ "java/lang/invoke/VarHandle" ∧ (parseMethodDescriptor yX5_remainderAt.desc).map (fun d => d.parameters.length) = some 2 := by decide +kernel
theorem hdX5_allReached_X5_turnedCode : yX5_turnedCode.cls ≠ "java/lang/invoke/MethodHandle" ∧ yX5_turnedCode.cls ≠ "java/lang/invoke/VarHandle" ∧ (parseMethodDescriptor yX5_turnedCode.desc).map (fun d => d.parameters.length) = some 3 := by decide +kernel
abbrev rmX5_allReached : Room := { frames := 3, cells := 0, slots := 0, locals := 65 }
set_option maxHeartbeats 4000000 in
set_option maxRecDepth 100000 in
/-- X5_allReached -/
theorem kX5_allReached (l : Launch) (G : kG) (B0 : Nat) (f : kH) (h sA wA : Nat) (gs gw : Nat → Int64) (q9 : Nat) (g : Nat → Int64) (b : Int32) (hM : kCs f [(h, .inr (5, [.ref sA, .ref wA])), (sA, kaJ G 64 gs), (wA, kaJ G 64 gw), (q9, kaJ G 4 g)]) (hb : b ≠ 0) (hb6 : b.toInt64 ≠ 0) (hok : cdOk b) (hc9 : mIn (wCode g b 4) 4096) : Met l yX5_allReached wsX5_allReached (rmX5_allReached) (kP G B0 f [.ref h, .ref q9, .int b]) (kQi G B0 (fun r f1 => r = (rGo b 4096 (nI 0, rNs (fun j => if j < 64 then 0 else gs j) (wCode g b 4).toNatClampNeg, rNw (fun j => if j < 64 then 0 else gs j) (fun j => if j < 64 then 0 else gw j) (wCode g b 4).toNatClampNeg)).1 ∧ kCs f1 [(h, .inr (5, [.ref sA, .ref wA])), (sA, kaJ G 64 ((rGo b 4096 (nI 0, rNs (fun j => if j < 64 then 0 else gs j) (wCode g b 4).toNatClampNeg, rNw (fun j => if j < 64 then 0 else gs j) (fun j => if j < 64 then 0 else gw j) (wCode g b 4).toNatClampNeg)).2.1)), (wA, kaJ G 64 ((rGo b 4096 (nI 0, rNs (fun j => if j < 64 then 0 else gs j) (wCode g b 4).toNatClampNeg, rNw (fun j => if j < 64 then 0 else gs j) (fun j => if j < 64 then 0 else gw j) (wCode g b 4).toNatClampNeg)).2.2)), (q9, kaJ G 4 g)] ∧ kKp [h, sA, wA] f f1)) 0 0 (kAb B0) := by
  refine kMet (cc := cX5_allReached) (maxL := 7) (ret := (some .int)) (by decide) rfl (Nat.le_of_ble_eq_true rfl) ?_
  intro p e s m args below meth c H locs Q ls C hX hl hr hlocks hnm hQ
  have hO : kKp [h, sA, wA] f f := kKp.rf
  have hS : ∀ a ∈ [h, sA, wA], (f a).isSome := by
    intro a h9
    simp only [List.mem_cons, List.not_mem_nil, or_false] at h9
    rcases h9 with rfl | rfl | rfl
    · rw [hM.at 0 rfl]; rfl
    · rw [hM.at 1 rfl]; rfl
    · rw [hM.at 2 rfl]; rfl
  have hl : lv_has ls 7 [(0, .ref h), (1, .ref q9), (2, .int b)] := hl
  refine lv_aload_n C.x C.b dX5_allReached_0 rfl (lv_at hl 0 rfl) ?_
  refine k_get (X := RX5) (T := TX5) (N := 2) (v := .ref sA) C hX (hM.at 0 rfl) rfl hin_X5_allReached_RX5 0 (by decide) lk_X5_allReached_f11 (fun _ h9 => h9) rfl dX5_allReached_1 ?_
  refine lv_lconst (v := 0) C.x C.b dX5_allReached_4 (by decide) ?_
  have hM9 : kCs f ([(sA, kaJ G 64 gs)]) := hM.pick [1] (by decide) ⟨rfl, trivial⟩
  refine k_callv (va_runS (As := [.ref sA, .long 0]) (rest := []) C.1 (kJ7_fill_d0a16 l G B0 f sA 64 gs 0 hM9 (by decide)) (va_cwS 2 C.ts gX5_allReached_J7_fill_d0a16 rfl rfl rfl (hdX5_allReached_J7_fill_d0a16) ⟨Nat.le_of_ble_eq_true rfl, Nat.le_of_ble_eq_true rfl⟩) (k_preS C hX) rfl rfl hl.1 rfl (lv_room (Nat.le_of_ble_eq_true rfl)) dX5_allReached_5 ⟨Nat.le_of_ble_eq_true rfl, Nat.le_of_ble_eq_true rfl⟩) hX (fun f5 H locs hp5 hX => ?_)
  obtain ⟨hM9, hO9⟩ := hp5
  have hM : kCs f5 ([(h, .inr (5, [.ref sA, .ref wA])), (sA, kaJ G 64 (fun j => if j < 64 then 0 else gs j)), (wA, kaJ G 64 gw), (q9, kaJ G 4 g)]) := hM.sub hM9 (kKp.of hO9) [1] (by simp) ⟨rfl, trivial⟩
  have hO := hO.then (kKp.of hO9) (by
      intro a h9
      simp only [List.mem_cons, List.not_mem_nil, or_false] at h9
      rcases h9 with rfl
      · exact Or.inl (by simp))
  have hS : ∀ a ∈ [h, sA, wA], (f5 a).isSome := by
    intro a h9
    simp only [List.mem_cons, List.not_mem_nil, or_false] at h9
    rcases h9 with rfl | rfl | rfl
    · rw [hM.at 0 rfl]; rfl
    · rw [hM.at 1 rfl]; rfl
    · rw [hM.at 2 rfl]; rfl
  refine lv_aload_n C.x C.b dX5_allReached_8 rfl (lv_at hl 0 rfl) ?_
  refine k_get (X := RX5) (T := TX5) (N := 2) (v := .ref wA) C hX (hM.at 0 rfl) rfl hin_X5_allReached_RX5 1 (by decide) lk_X5_allReached_f15 (fun _ h9 => h9) rfl dX5_allReached_9 ?_
  refine lv_lconst (v := 0) C.x C.b dX5_allReached_12 (by decide) ?_
  have hM9 : kCs f5 ([(wA, kaJ G 64 gw)]) := hM.pick [2] (by decide) ⟨rfl, trivial⟩
  refine k_callv (va_runS (As := [.ref wA, .long 0]) (rest := []) C.1 (kJ7_fill_d0a16 l G B0 f5 wA 64 gw 0 hM9 (by decide)) (va_cwS 2 C.ts gX5_allReached_J7_fill_d0a16 rfl rfl rfl (hdX5_allReached_J7_fill_d0a16) ⟨Nat.le_of_ble_eq_true rfl, Nat.le_of_ble_eq_true rfl⟩) (k_preS C hX) rfl rfl hl.1 rfl (lv_room (Nat.le_of_ble_eq_true rfl)) dX5_allReached_13 ⟨Nat.le_of_ble_eq_true rfl, Nat.le_of_ble_eq_true rfl⟩) hX (fun f13 H locs hp13 hX => ?_)
  obtain ⟨hM9, hO9⟩ := hp13
  have hM : kCs f13 ([(h, .inr (5, [.ref sA, .ref wA])), (sA, kaJ G 64 (fun j => if j < 64 then 0 else gs j)), (wA, kaJ G 64 (fun j => if j < 64 then 0 else gw j)), (q9, kaJ G 4 g)]) := hM.sub hM9 (kKp.of hO9) [2] (by simp) ⟨rfl, trivial⟩
  have hO := hO.then (kKp.of hO9) (by
      intro a h9
      simp only [List.mem_cons, List.not_mem_nil, or_false] at h9
      rcases h9 with rfl
      · exact Or.inl (by simp))
  have hS : ∀ a ∈ [h, sA, wA], (f13 a).isSome := by
    intro a h9
    simp only [List.mem_cons, List.not_mem_nil, or_false] at h9
    rcases h9 with rfl | rfl | rfl
    · rw [hM.at 0 rfl]; rfl
    · rw [hM.at 1 rfl]; rfl
    · rw [hM.at 2 rfl]; rfl
  refine lv_aload_n C.x C.b dX5_allReached_16 rfl (lv_at hl 0 rfl) ?_
  refine lv_aload_n C.x C.b dX5_allReached_17 rfl (lv_at hl 1 rfl) ?_
  refine lv_iload_n C.x C.b dX5_allReached_18 rfl (lv_at hl 2 rfl) ?_
  have hM9 : kCs f13 ([(q9, kaJ G 4 g)]) := hM.pick [3] (by decide) ⟨rfl, trivial⟩
  refine k_calli (va_runS (As := [.ref q9, .int b]) (rest := [.ref h]) C.1 (kX5_codeOf l G B0 f13 q9 g b hM9 hb6) (va_cwS 2 C.ts gX5_allReached_X5_codeOf rfl rfl rfl (hdX5_allReached_X5_codeOf) ⟨Nat.le_of_ble_eq_true rfl, Nat.le_of_ble_eq_true rfl⟩) (k_preS C hX) rfl rfl hl.1 rfl (lv_room (Nat.le_of_ble_eq_true rfl)) dX5_allReached_19 ⟨Nat.le_of_ble_eq_true rfl, Nat.le_of_ble_eq_true rfl⟩) hX (fun r19 f19 H locs hp19 hX => ?_)
  obtain ⟨hr19, hf19⟩ := hp19
  rw [hf19] at hX
  refine k_topi (y := (wCode g b 4)) hr19 ?_
  refine k_topi (y := (nI ((wCode g b 4).toNatClampNeg))) ((mIn_cl hc9 (by decide)).1) ?_
  have hM9 : kCs f13 ([(h, .inr (5, [.ref sA, .ref wA])), (sA, kaJ G 64 (fun j => if j < 64 then 0 else gs j)), (wA, kaJ G 64 (fun j => if j < 64 then 0 else gw j))]) := hM.pick [0, 1, 2] (by decide) ⟨rfl, rfl, rfl, trivial⟩
  refine k_callv (va_runV (As := [.int (nI ((wCode g b 4).toNatClampNeg))]) (rest := []) C.1 (kX5_noteCode l G B0 f13 h sA wA (fun j => if j < 64 then 0 else gs j) (fun j => if j < 64 then 0 else gw j) (wCode g b 4).toNatClampNeg hM9 (mIn_cl hc9 (by decide)).2) (cwV 1 C.ts gX5_allReached_X5_noteCode rfl rfl rfl ⟨rfl, hdX5_allReached_X5_noteCode⟩ ⟨Nat.le_of_ble_eq_true rfl, Nat.le_of_ble_eq_true rfl⟩) (k_preV C hX (hM.at 0 rfl) rfl) rfl rfl hl.1 rfl (lv_room (Nat.le_of_ble_eq_true rfl)) dX5_allReached_22 ⟨Nat.le_of_ble_eq_true rfl, Nat.le_of_ble_eq_true rfl⟩) hX (fun f22 H locs hp22 hX => ?_)
  obtain ⟨hM9, hO9⟩ := hp22
  have hM : kCs f22 ([(h, .inr (5, [.ref sA, .ref wA])), (sA, kaJ G 64 (rNs (fun j => if j < 64 then 0 else gs j) (wCode g b 4).toNatClampNeg)), (wA, kaJ G 64 (rNw (fun j => if j < 64 then 0 else gs j) (fun j => if j < 64 then 0 else gw j) (wCode g b 4).toNatClampNeg)), (q9, kaJ G 4 g)]) := hM.sub hM9 (kKp.of hO9) [0, 1, 2] (by simp) ⟨rfl, rfl, rfl, trivial⟩
  have hO := hO.then (kKp.of hO9) (by
      intro a h9
      simp only [List.mem_cons, List.not_mem_nil, or_false] at h9
      rcases h9 with rfl | rfl | rfl
      · exact Or.inl (by simp)
      · exact Or.inl (by simp)
      · exact Or.inl (by simp))
  have hS : ∀ a ∈ [h, sA, wA], (f22 a).isSome := by
    intro a h9
    simp only [List.mem_cons, List.not_mem_nil, or_false] at h9
    rcases h9 with rfl | rfl | rfl
    · rw [hM.at 0 rfl]; rfl
    · rw [hM.at 1 rfl]; rfl
    · rw [hM.at 2 rfl]; rfl
  refine lv_iconst (v := nI 0) C.x C.b dX5_allReached_25 (by decide) ?_
  refine lv_istore_n (lv' := [(3, .int (nI 0)), (0, .ref h), (1, .ref q9), (2, .int b)]) C.x C.b dX5_allReached_26 rfl hl (by decide) rfl (fun ls hl => ?_)
  refine lv_iconst (v := nI 0) C.x C.b dX5_allReached_27 (by decide) ?_
  refine lv_istore (lv' := [(4, .int (nI 0)), (3, .int (nI 0)), (0, .ref h), (1, .ref q9), (2, .int b)]) C.x C.b dX5_allReached_28 hl (by decide) rfl (fun ls hl => ?_)
  rw [show (nI 0) = (nI 0) from rfl] at hl
  have LOOP30 : ∀ (n : Nat) (k : Nat) (fd : Int32) (g1 g2 : Nat → Int64), (k ≤ 4096) → (rGo b (4096 - k) (fd, g1, g2) = rGo b 4096 (nI 0, rNs (fun j => if j < 64 then 0 else gs j) (wCode g b 4).toNatClampNeg, rNw (fun j => if j < 64 then 0 else gs j) (fun j => if j < 64 then 0 else gw j) (wCode g b 4).toNatClampNeg)) → (4096 - k) < n → ∀ (ls : Array Slot), lv_has ls 7 [(3, .int fd), (4, .int (nI k)), (0, .ref h), (1, .ref q9), (2, .int b)] → ∀ (fL : kH), kCs fL ([(h, .inr (5, [.ref sA, .ref wA])), (sA, kaJ G 64 g1), (wA, kaJ G 64 g2), (q9, kaJ G 4 g)]) → kKp [h, sA, wA] f fL → (∀ a ∈ [h, sA, wA], (fL a).isSome) → ∀ (H : Heap) (locs : List Loc), kX G B0 s fL H locs → W p l e (rmX5_allReached) s m args below meth c H locs 0 0 Q (F0 m 30 ls []) := by
    intro n30
    induction n30 with
    | zero => intro k fd g1 g2 hk hv hn; exact absurd hn (Nat.not_lt_zero _)
    | succ n30 ih30 =>
      intro k fd g1 g2 hk hv hn ls hl fL hM hO hS H locs hX
      refine lv_iload C.x C.b dX5_allReached_30 (lv_at hl 1 rfl) ?_
      refine lv_sipush (v := nI 4096) C.x C.b dX5_allReached_32 (by decide) ?_
      refine lv_icmp_ge (tgt := 97) C.x C.b dX5_allReached_35 (by decide) (fun c_35 => ?_) (fun c_35 => ?_)
      · skip
        have c_35 : 4096 ≤ k := (nI_leI (by omega) (by omega)).mp c_35
        refine lv_iload_n C.x C.b dX5_allReached_97 rfl (lv_at hl 0 rfl) ?_
        exact k_iret C hX hr hlocks hQ (by omega) (by omega) (by first | (rw [← hv, show 4096 - k = 0 by omega, rGo]; exact ⟨rfl, hM, hO⟩) | (rw [rTk_no hok c_47] at hM; rw [← hv, show 4096 - k = (4096 - (k + 1)) + 1 by omega, rGo_t c_47]; exact ⟨rfl, hM, hO⟩)) dX5_allReached_98
      · skip
        have c_35 : ¬ (4096 ≤ k) := fun h9 => c_35 ((nI_leI (by omega) (by omega)).mpr h9)
        refine lv_aload_n C.x C.b dX5_allReached_38 rfl (lv_at hl 2 rfl) ?_
        have hM9 : kCs fL ([(h, .inr (5, [.ref sA, .ref wA])), (sA, kaJ G 64 g1), (wA, kaJ G 64 g2)]) := hM.pick [0, 1, 2] (by decide) ⟨rfl, rfl, rfl, trivial⟩
        refine k_calli (va_runV (As := []) (rest := []) C.1 (kX5_takeWaiting l G B0 fL h sA wA g1 g2 hM9) (cwV 0 C.ts gX5_allReached_X5_takeWaiting rfl rfl rfl ⟨rfl, hdX5_allReached_X5_takeWaiting⟩ ⟨Nat.le_of_ble_eq_true rfl, Nat.le_of_ble_eq_true rfl⟩) (k_preV C hX (hM.at 0 rfl) rfl) rfl rfl hl.1 rfl (lv_room (Nat.le_of_ble_eq_true rfl)) dX5_allReached_39 ⟨Nat.le_of_ble_eq_true rfl, Nat.le_of_ble_eq_true rfl⟩) hX (fun r39 f39 H locs hp39 hX => ?_)
        obtain ⟨hr39, hM9, hO9⟩ := hp39
        have hM : kCs f39 ([(h, .inr (5, [.ref sA, .ref wA])), (sA, kaJ G 64 g1), (wA, kaJ G 64 (rTkW g2)), (q9, kaJ G 4 g)]) := hM.sub hM9 (kKp.of hO9) [0, 1, 2] (by simp) ⟨rfl, rfl, rfl, trivial⟩
        have hO := hO.then (kKp.of hO9) (by
            intro a h9
            simp only [List.mem_cons, List.not_mem_nil, or_false] at h9
            rcases h9 with rfl | rfl | rfl
            · exact Or.inl (by simp)
            · exact Or.inl (by simp)
            · exact Or.inl (by simp))
        have hS : ∀ a ∈ [h, sA, wA], (f39 a).isSome := by
          intro a h9
          simp only [List.mem_cons, List.not_mem_nil, or_false] at h9
          rcases h9 with rfl | rfl | rfl
          · rw [hM.at 0 rfl]; rfl
          · rw [hM.at 1 rfl]; rfl
          · rw [hM.at 2 rfl]; rfl
        refine k_topi (y := (rTkC g2)) hr39 ?_
        refine lv_istore (lv' := [(5, .int (rTkC g2)), (3, .int fd), (4, .int (nI k)), (0, .ref h), (1, .ref q9), (2, .int b)]) C.x C.b dX5_allReached_42 hl (by decide) rfl (fun ls hl => ?_)
        refine lv_iload C.x C.b dX5_allReached_44 (lv_at hl 0 rfl) ?_
        refine lv_iconst (v := -1) C.x C.b dX5_allReached_46 (by decide) ?_
        refine lv_icmp_ne (tgt := 52) C.x C.b dX5_allReached_47 (by decide) (fun c_47 => ?_) (fun c_47 => ?_)
        · skip
          obtain ⟨cd, hcd, ecd⟩ := mIn_of (rTk_yes hok c_47) (by decide)
          rw [show (rTkC g2) = (nI cd) from ecd] at hl
          refine lv_iconst (v := nI 0) C.x C.b dX5_allReached_52 (by decide) ?_
          refine lv_istore (lv' := [(6, .int (nI 0)), (5, .int (nI cd)), (3, .int fd), (4, .int (nI k)), (0, .ref h), (1, .ref q9), (2, .int b)]) C.x C.b dX5_allReached_53 hl (by decide) rfl (fun ls hl => ?_)
          rw [show fd = ((rIn b cd 0 (fd, g1, rTkW g2)).1) from rfl] at hl
          have LOOP55 : ∀ (n : Nat) (pl : Nat), (pl ≤ 4) → (4 - pl) < n → ∀ (ls : Array Slot), lv_has ls 7 [(3, .int ((rIn b cd pl (fd, g1, rTkW g2)).1)), (6, .int (nI pl)), (5, .int (nI cd)), (4, .int (nI k)), (0, .ref h), (1, .ref q9), (2, .int b)] → ∀ (fL : kH), kCs fL ([(h, .inr (5, [.ref sA, .ref wA])), (sA, kaJ G 64 ((rIn b cd pl (fd, g1, rTkW g2)).2.1)), (wA, kaJ G 64 ((rIn b cd pl (fd, g1, rTkW g2)).2.2)), (q9, kaJ G 4 g)]) → kKp [h, sA, wA] f fL → (∀ a ∈ [h, sA, wA], (fL a).isSome) → ∀ (H : Heap) (locs : List Loc), kX G B0 s fL H locs → W p l e (rmX5_allReached) s m args below meth c H locs 0 0 Q (F0 m 55 ls []) := by
            intro n55
            induction n55 with
            | zero => intro pl hpl hn; exact absurd hn (Nat.not_lt_zero _)
            | succ n55 ih55 =>
              intro pl hpl hn ls hl fL hM hO hS H locs hX
              refine lv_iload C.x C.b dX5_allReached_55 (lv_at hl 1 rfl) ?_
              refine lv_iconst (v := nI 4) C.x C.b dX5_allReached_57 (by decide) ?_
              refine lv_icmp_ge (tgt := 91) C.x C.b dX5_allReached_58 (by decide) (fun c_58 => ?_) (fun c_58 => ?_)
              · skip
                have c_58 : 4 ≤ pl := (nI_leI (by omega) (by omega)).mp c_58
                have hp4 : 4 = pl := by omega
                subst hp4
                refine lv_iinc (v := (nI (k + 1))) (lv' := [(4, .int (nI (k + 1))), (3, .int ((rIn b cd 4 (fd, g1, rTkW g2)).1)), (6, .int (nI 4)), (5, .int (nI cd)), (0, .ref h), (1, .ref q9), (2, .int b)]) C.x C.b dX5_allReached_91 hl (k := 3) rfl (nI_1 _) (by decide) rfl (fun ls hl => ?_)
                refine lv_goto (tgt := 30) C.x C.b dX5_allReached_94 (by decide) ?_
                exact ih30 (k + 1) (rIn b cd 4 (fd, g1, rTkW g2)).1 (rIn b cd 4 (fd, g1, rTkW g2)).2.1 (rIn b cd 4 (fd, g1, rTkW g2)).2.2 (by omega) (by rw [← hv, show 4096 - k = (4096 - (k + 1)) + 1 by omega, rGo_n c_47, ecd, nI_clamp (by omega)]) (by omega) ls (lv_sub hl [1, 0, 4, 5, 6] rfl) _ hM hO hS _ _ hX
              · skip
                have c_58 : ¬ (4 ≤ pl) := fun h9 => c_58 ((nI_leI (by omega) (by omega)).mpr h9)
                refine lv_iload_n C.x C.b dX5_allReached_61 rfl (lv_at hl 0 rfl) ?_
                refine lv_iconst (v := nI 1) C.x C.b dX5_allReached_62 (by decide) ?_
                refine lv_iload C.x C.b dX5_allReached_63 (lv_at hl 2 rfl) ?_
                refine lv_iload C.x C.b dX5_allReached_65 (lv_at hl 1 rfl) ?_
                refine k_calli (va_runS (As := [.int (nI cd), .int (nI pl)]) (rest := [.int (nI 1), .int ((rIn b cd pl (fd, g1, rTkW g2)).1)]) C.1 (kX5_remainderAt l G B0 fL (nI cd) pl (by omega)) (va_cwS 2 C.ts gX5_allReached_X5_remainderAt rfl rfl rfl (hdX5_allReached_X5_remainderAt) ⟨Nat.le_of_ble_eq_true rfl, Nat.le_of_ble_eq_true rfl⟩) (k_preS C hX) rfl rfl hl.1 rfl (lv_room (Nat.le_of_ble_eq_true rfl)) dX5_allReached_67 ⟨Nat.le_of_ble_eq_true rfl, Nat.le_of_ble_eq_true rfl⟩) hX (fun r67 f67 H locs hp67 hX => ?_)
                obtain ⟨hr67, hf67⟩ := hp67
                rw [hf67] at hX
                refine k_topi (y := (rAt (nI cd) pl)) hr67 ?_
                refine lv_ishl C.x C.b dX5_allReached_70 ?_
                refine lv_ior C.x C.b dX5_allReached_71 ?_
                refine lv_istore_n (lv' := [(3, .int (((rIn b cd pl (fd, g1, rTkW g2)).1) ||| ((nI 1) <<< ((rAt (nI cd) pl) &&& 31)))), (6, .int (nI pl)), (5, .int (nI cd)), (4, .int (nI k)), (0, .ref h), (1, .ref q9), (2, .int b)]) C.x C.b dX5_allReached_72 rfl hl (by decide) rfl (fun ls hl => ?_)
                refine lv_aload_n C.x C.b dX5_allReached_73 rfl (lv_at hl 4 rfl) ?_
                refine lv_iload C.x C.b dX5_allReached_74 (lv_at hl 2 rfl) ?_
                refine lv_iload C.x C.b dX5_allReached_76 (lv_at hl 1 rfl) ?_
                refine lv_iload_n C.x C.b dX5_allReached_78 rfl (lv_at hl 6 rfl) ?_
                refine k_calli (va_runS (As := [.int (nI cd), .int (nI pl), .int b]) (rest := [.ref h]) C.1 (kX5_turnedCode l G B0 fL (nI cd) pl b (by omega) hb) (va_cwS 3 C.ts gX5_allReached_X5_turnedCode rfl rfl rfl (hdX5_allReached_X5_turnedCode) ⟨Nat.le_of_ble_eq_true rfl, Nat.le_of_ble_eq_true rfl⟩) (k_preS C hX) rfl rfl hl.1 rfl (lv_room (Nat.le_of_ble_eq_true rfl)) dX5_allReached_79 ⟨Nat.le_of_ble_eq_true rfl, Nat.le_of_ble_eq_true rfl⟩) hX (fun r79 f79 H locs hp79 hX => ?_)
                obtain ⟨hr79, hf79⟩ := hp79
                rw [hf79] at hX
                refine k_topi (y := (rTc (nI cd) pl b)) hr79 ?_
                refine k_topi (y := (nI ((rTc (nI cd) pl b).toNatClampNeg))) ((mIn_cl (hok.1 cd hcd pl (by omega)) (by decide)).1) ?_
                have hM9 : kCs fL ([(h, .inr (5, [.ref sA, .ref wA])), (sA, kaJ G 64 ((rIn b cd pl (fd, g1, rTkW g2)).2.1)), (wA, kaJ G 64 ((rIn b cd pl (fd, g1, rTkW g2)).2.2))]) := hM.pick [0, 1, 2] (by decide) ⟨rfl, rfl, rfl, trivial⟩
                refine k_callv (va_runV (As := [.int (nI ((rTc (nI cd) pl b).toNatClampNeg))]) (rest := []) C.1 (kX5_noteCode l G B0 fL h sA wA (rIn b cd pl (fd, g1, rTkW g2)).2.1 (rIn b cd pl (fd, g1, rTkW g2)).2.2 (rTc (nI cd) pl b).toNatClampNeg hM9 (mIn_cl (hok.1 cd hcd pl (by omega)) (by decide)).2) (cwV 1 C.ts gX5_allReached_X5_noteCode rfl rfl rfl ⟨rfl, hdX5_allReached_X5_noteCode⟩ ⟨Nat.le_of_ble_eq_true rfl, Nat.le_of_ble_eq_true rfl⟩) (k_preV C hX (hM.at 0 rfl) rfl) rfl rfl hl.1 rfl (lv_room (Nat.le_of_ble_eq_true rfl)) dX5_allReached_82 ⟨Nat.le_of_ble_eq_true rfl, Nat.le_of_ble_eq_true rfl⟩) hX (fun f82 H locs hp82 hX => ?_)
                obtain ⟨hM9, hO9⟩ := hp82
                have hM : kCs f82 ([(h, .inr (5, [.ref sA, .ref wA])), (sA, kaJ G 64 (rNs (rIn b cd pl (fd, g1, rTkW g2)).2.1 (rTc (nI cd) pl b).toNatClampNeg)), (wA, kaJ G 64 (rNw (rIn b cd pl (fd, g1, rTkW g2)).2.1 (rIn b cd pl (fd, g1, rTkW g2)).2.2 (rTc (nI cd) pl b).toNatClampNeg)), (q9, kaJ G 4 g)]) := hM.sub hM9 (kKp.of hO9) [0, 1, 2] (by simp) ⟨rfl, rfl, rfl, trivial⟩
                have hO := hO.then (kKp.of hO9) (by
                    intro a h9
                    simp only [List.mem_cons, List.not_mem_nil, or_false] at h9
                    rcases h9 with rfl | rfl | rfl
                    · exact Or.inl (by simp)
                    · exact Or.inl (by simp)
                    · exact Or.inl (by simp))
                have hS : ∀ a ∈ [h, sA, wA], (f82 a).isSome := by
                  intro a h9
                  simp only [List.mem_cons, List.not_mem_nil, or_false] at h9
                  rcases h9 with rfl | rfl | rfl
                  · rw [hM.at 0 rfl]; rfl
                  · rw [hM.at 1 rfl]; rfl
                  · rw [hM.at 2 rfl]; rfl
                refine lv_iinc (v := (nI (pl + 1))) (lv' := [(6, .int (nI (pl + 1))), (3, .int (((rIn b cd pl (fd, g1, rTkW g2)).1) ||| ((nI 1) <<< ((rAt (nI cd) pl) &&& 31)))), (5, .int (nI cd)), (4, .int (nI k)), (0, .ref h), (1, .ref q9), (2, .int b)]) C.x C.b dX5_allReached_85 hl (k := 1) rfl (nI_1 _) (by decide) rfl (fun ls hl => ?_)
                refine lv_goto (tgt := 55) C.x C.b dX5_allReached_88 (by decide) ?_
                rw [show (((rIn b cd pl (fd, g1, rTkW g2)).1) ||| ((nI 1) <<< ((rAt (nI cd) pl) &&& 31))) = ((rIn b cd (pl + 1) (fd, g1, rTkW g2)).1) from rfl] at hl
                exact ih55 (pl + 1) (by omega) (by omega) ls (lv_sub hl [1, 0, 2, 3, 4, 5, 6] rfl) _ hM hO hS _ _ hX
          exact LOOP55 _ 0 (by omega) (Nat.lt_succ_self _) ls (lv_sub hl [2, 0, 1, 3, 4, 5, 6] rfl) _ hM hO hS _ _ hX
        · skip
          refine lv_iload_n C.x C.b dX5_allReached_50 rfl (lv_at hl 1 rfl) ?_
          exact k_iret C hX hr hlocks hQ (by omega) (by omega) (by first | (rw [← hv, show 4096 - k = 0 by omega, rGo]; exact ⟨rfl, hM, hO⟩) | (rw [rTk_no hok c_47] at hM; rw [← hv, show 4096 - k = (4096 - (k + 1)) + 1 by omega, rGo_t c_47]; exact ⟨rfl, hM, hO⟩)) dX5_allReached_51
  exact LOOP30 _ 0 (nI 0) (rNs (fun j => if j < 64 then 0 else gs j) (wCode g b 4).toNatClampNeg) (rNw (fun j => if j < 64 then 0 else gs j) (fun j => if j < 64 then 0 else gw j) (wCode g b 4).toNatClampNeg) (by omega) rfl (Nat.lt_succ_self _) ls (lv_sub hl [1, 0, 2, 3, 4] rfl) _ hM hO hS _ _ hX
