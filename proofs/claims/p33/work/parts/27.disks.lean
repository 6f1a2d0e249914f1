/-- a list at dl of sz objects: at w 0, w 1 .., the cells e 0, e 1 .. -/
def kLs (G : kG) (f : kH) (dl sz : Nat) (w : Nat → Nat) (e : Nat → va_E) : Prop := ∃ (mc : Int32) (v : Value), f dl = some (.inr (0, [.int mc, v, .int (nI sz)])) ∧ (∀ k : Nat, k < sz → ∃ (q cap : Nat) (g0 : Nat → Option Nat), v = .ref q ∧ q ≠ dl ∧ f q = some (kaO G cap g0) ∧ sz ≤ cap ∧ cap < 2 ^ 31 ∧ g0 k = some (w k)) ∧ (∀ k : Nat, k < sz → f (w k) = some (e k)) ∧ ∀ i j : Nat, i < sz → j < sz → ¬ i = j → w j ≠ w i
theorem kLs.elt {G : kG} {f : kH} {dl sz : Nat} {w : Nat → Nat} {e : Nat → va_E} (h : kLs G f dl sz w e) {k : Nat} (hk : k < sz) : f (w k) = some (e k) := by
  obtain ⟨mc, v, h1, h2, h3, h4⟩ := h
  exact h3 k hk
theorem kLs.inj {G : kG} {f : kH} {dl sz : Nat} {w : Nat → Nat} {e : Nat → va_E} (h : kLs G f dl sz w e) {i j : Nat} (hi : i < sz) (hj : j < sz) (hij : ¬ i = j) : w j ≠ w i := by
  obtain ⟨mc, v, h1, h2, h3, h4⟩ := h
  exact h4 i j hi hj hij
theorem kLs.list {G : kG} {f : kH} {dl sz : Nat} {w : Nat → Nat} {e : Nat → va_E} (h : kLs G f dl sz w e) : ∃ fs : List Value, f dl = some (.inr (0, fs)) := by
  obtain ⟨mc, v, h1, h2, h3, h4⟩ := h
  exact ⟨_, h1⟩
theorem kGetL (l : Launch) (G : kG) (B0 : Nat) (f : kH) {dl sz : Nat} {w : Nat → Nat} {e : Nat → va_E} (k : Nat) (hk : k < sz) (h : kLs G f dl sz w e) : Met l yJx4a65c_get_915e3 wsJx4a65c_get_915e3 rmJx4a65c_get_915e3 (kP G B0 f [.ref dl, .int (nI k)]) (kQq G B0 (fun r f1 => r = some (w k) ∧ f1 = f)) 0 0 (kAb B0) := by
  obtain ⟨mc, v, h1, h2, h3, h4⟩ := h
  obtain ⟨q, cap, g0, rfl, a2, a3, a4, a5, a6⟩ := h2 k hk
  exact kJx4a65c_get_915e3 l G B0 f dl q mc sz cap g0 k (w k) hk a4 a5 a6 (kCs.two h1 a3 a2)
theorem kSizeL (l : Launch) (G : kG) (B0 : Nat) (f : kH) {dl sz : Nat} {w : Nat → Nat} {e : Nat → va_E} (h : kLs G f dl sz w e) : Met l yJx4a65c_size_8abf5 wsJx4a65c_size_8abf5 rmJx4a65c_size_8abf5 (kP G B0 f [.ref dl]) (kQi G B0 (fun r f1 => r = nI sz ∧ f1 = f)) 0 0 (kAb B0) := by
  obtain ⟨mc, v, h1, h2, h3, h4⟩ := h
  exact kJx4a65c_size_8abf5 l G B0 f dl mc v sz (kCs.one h1)
abbrev dsE (dx dy dr : Nat → Int64) (k : Nat) : va_E := .inr (1, [.long (dx k), .long (dy k), .long (dr k)])
abbrev dsL (dx dy dr : Nat → Int64) (i j : Nat) : Int32 := kLie (kFar (dx i) (dx j) (dy i) (dy j)) (kBB (dr i) (dr j))

theorem lk_X8_hasDisk_f19 : Cond.fieldLink RX8 19 "Koebehall" "disks" "Ljava/util/ArrayList;" ∈ wsX8_hasDisk := by decide +kernel
theorem hin_X8_hasDisk_RX8 : ∀ w ∈ u_ws RX8 TX8 7, w ∈ wsX8_hasDisk := by decide +kernel
theorem hdX8_hasDisk_Jx4a65c_size_8abf5 : yJx4a65c_size_8abf5.cls ≠ "java/lang/invoke/MethodHandle" ∧ yJx4a65c_size_8abf5.cls ≠ "java/lang/invoke/VarHandle" ∧ (parseMethodDescriptor yJx4a65c_size_8abf5.desc).map (fun d => d.parameters.length) = some 0 := by decide +kernel
abbrev rmX8_hasDisk : Room := { frames := 1, cells := 0, slots := 0, locals := 20 }
set_option maxHeartbeats 4000000 in
set_option maxRecDepth 100000 in
/-- X8_hasDisk -/
theorem kX8_hasDisk (l : Launch) (G : kG) (B0 : Nat) (f : kH) (h dl sz : Nat) (vs vg vw vm vp vn : Value) (w : Nat → Nat) (dx dy dr : Nat → Int64) (a : Int32) (hM : kCs f [(h, .inr (8, [vs, .ref dl, vg, vw, vm, vp, vn]))]) (hdl : kLs G f dl sz w (dsE dx dy dr)) (hsz : sz ≤ 16) : Met l yX8_hasDisk wsX8_hasDisk (rmX8_hasDisk) (kP G B0 f [.ref h, .int a]) (kQi G B0 (fun r f1 => r = kbI (mIn a sz) ∧ f1 = f)) 0 0 (kAb B0) := by
  refine kMet (cc := cX8_hasDisk) (maxL := 2) (ret := (some .boolean)) (by decide) rfl (Nat.le_of_ble_eq_true rfl) ?_
  intro p e s m args below meth c H locs Q ls C hX hl hr hlocks hnm hQ
  have hl : lv_has ls 2 [(0, .ref h), (1, .int a)] := hl
  refine lv_iload_n C.x C.b dX8_hasDisk_0 rfl (lv_at hl 1 rfl) ?_
  refine lv_if_lt (tgt := 19) C.x C.b dX8_hasDisk_1 (by decide) (fun c_1 => ?_) (fun c_1 => ?_)
  · skip
    refine lv_iconst (v := nI 0) C.x C.b dX8_hasDisk_19 (by decide) ?_
    exact k_zret C hX hr hlocks hQ (by omega) (by omega) (by first | exact kbI_01 _ | exact Or.inl rfl | exact Or.inr rfl) (by refine ⟨?_, rfl⟩; first | exact kbI_tN (nIn_t c_1 c_12) | exact kbI_fN (fun h9 => absurd c_1 (nIn_f1 h9)) | exact kbI_fN (fun h9 => absurd c_12 (nIn_f2 h9 (by omega)))) dX8_hasDisk_20
  · skip
    refine lv_iload_n C.x C.b dX8_hasDisk_4 rfl (lv_at hl 1 rfl) ?_
    refine lv_aload_n C.x C.b dX8_hasDisk_5 rfl (lv_at hl 0 rfl) ?_
    refine k_get (X := RX8) (T := TX8) (N := 7) (v := .ref dl) C hX (hM.at 0 rfl) rfl hin_X8_hasDisk_RX8 1 (by decide) lk_X8_hasDisk_f19 (fun _ h9 => h9) rfl dX8_hasDisk_6 ?_
    refine k_calli (va_runV (As := []) (rest := [.int a]) C.1 (kSizeL l G B0 f hdl) (cwV 0 C.ts gX8_hasDisk_Jx4a65c_size_8abf5 rfl rfl rfl ⟨rfl, hdX8_hasDisk_Jx4a65c_size_8abf5⟩ ⟨Nat.le_of_ble_eq_true rfl, Nat.le_of_ble_eq_true rfl⟩) (k_preV C hX (hdl.list.choose_spec) rfl) rfl rfl hl.1 rfl (lv_room (Nat.le_of_ble_eq_true rfl)) dX8_hasDisk_9 ⟨Nat.le_of_ble_eq_true rfl, Nat.le_of_ble_eq_true rfl⟩) hX (fun r9 f9 H locs hp9 hX => ?_)
    obtain ⟨hr9, hf9⟩ := hp9
    rw [hf9] at hX
    refine k_topi (y := (nI sz)) hr9 ?_
    refine lv_icmp_ge (tgt := 19) C.x C.b dX8_hasDisk_12 (by decide) (fun c_12 => ?_) (fun c_12 => ?_)
    · skip
      refine lv_iconst (v := nI 0) C.x C.b dX8_hasDisk_19 (by decide) ?_
      exact k_zret C hX hr hlocks hQ (by omega) (by omega) (by first | exact kbI_01 _ | exact Or.inl rfl | exact Or.inr rfl) (by refine ⟨?_, rfl⟩; first | exact kbI_tN (nIn_t c_1 c_12) | exact kbI_fN (fun h9 => absurd c_1 (nIn_f1 h9)) | exact kbI_fN (fun h9 => absurd c_12 (nIn_f2 h9 (by omega)))) dX8_hasDisk_20
    · skip
      refine lv_iconst (v := nI 1) C.x C.b dX8_hasDisk_15 (by decide) ?_
      refine lv_goto (tgt := 20) C.x C.b dX8_hasDisk_16 (by decide) ?_
      exact k_zret C hX hr hlocks hQ (by omega) (by omega) (by first | exact kbI_01 _ | exact Or.inl rfl | exact Or.inr rfl) (by refine ⟨?_, rfl⟩; first | exact kbI_tN (nIn_t c_1 c_12) | exact kbI_fN (fun h9 => absurd c_1 (nIn_f1 h9)) | exact kbI_fN (fun h9 => absurd c_12 (nIn_f2 h9 (by omega)))) dX8_hasDisk_20

theorem hdX8_howDisksLie_X8_hasDisk : yX8_hasDisk.cls ≠ "java/lang/invoke/MethodHandle" ∧ yX8_hasDisk.cls ≠ "java/lang/invoke/VarHandle" ∧ (parseMethodDescriptor yX8_hasDisk.desc).map (fun d => d.parameters.length) = some 1 := by decide +kernel
theorem lk_X8_howDisksLie_f19 : Cond.fieldLink RX8 19 "Koebehall" "disks" "Ljava/util/ArrayList;" ∈ wsX8_howDisksLie := by decide +kernel
theorem hin_X8_howDisksLie_RX8 : ∀ w ∈ u_ws RX8 TX8 7, w ∈ wsX8_howDisksLie := by decide +kernel
theorem hdX8_howDisksLie_Jx4a65c_get_915e3 : yJx4a65c_get_915e3.cls ≠ "java/lang/invoke/MethodHandle" ∧ yJx4a65c_get_915e3.cls ≠ "java/lang/invoke/VarHandle" ∧ (parseMethodDescriptor yJx4a65c_get_915e3.desc).map (fun d => d.parameters.length) = some 1 := by decide +kernel
theorem lk_X8_howDisksLie_cl134 : Cond.classLink RX8 134 RX0 ∈ wsX8_howDisksLie := by decide +kernel
theorem hdX8_howDisksLie_X0_howItLies : yX0_howItLies.cls ≠ "java/lang/invoke/MethodHandle" ∧ yX0_howItLies.cls ≠ "java/lang/invoke/VarHandle" ∧ (parseMethodDescriptor yX0_howItLies.desc).map (fun d => d.parameters.length) = some 1 := by decide +kernel
theorem lk_X8_howDisksLie_in_RX0 : Cond.initialized RX0 ∈ wsX8_howDisksLie := by decide +kernel
theorem lk_X8_howDisksLie_im_X0_howItLies : Cond.instanceMethod yX0_howItLies ∈ wsX8_howDisksLie := by decide +kernel
theorem lk_X8_howDisksLie_se_X0_howItLies : Cond.selects RX0 yX0_howItLies yX0_howItLies ∈ wsX8_howDisksLie := by decide +kernel
abbrev rmX8_howDisksLie : Room := { frames := 3, cells := 0, slots := 0, locals := 64 }
set_option maxHeartbeats 4000000 in
set_option maxRecDepth 100000 in
/-- X8_howDisksLie -/
theorem kX8_howDisksLie (l : Launch) (G : kG) (B0 : Nat) (f : kH) (h dl sz : Nat) (vs vg vw vm vp vn : Value) (w : Nat → Nat) (dx dy dr : Nat → Int64) (i j : Nat) (hM : kCs f [(h, .inr (8, [vs, .ref dl, vg, vw, vm, vp, vn]))]) (hdl : kLs G f dl sz w (dsE dx dy dr)) (hsz : sz ≤ 16) (hi : i < sz) (hj : j < sz) (hij : ¬ i = j) : Met l yX8_howDisksLie wsX8_howDisksLie (rmX8_howDisksLie) (kP G B0 f [.ref h, .int (nI i), .int (nI j)]) (kQi G B0 (fun r f1 => r = dsL dx dy dr i j ∧ f1 = f)) 0 0 (kAb B0) := by
  refine kMet (cc := cX8_howDisksLie) (maxL := 3) (ret := (some .int)) (by decide) rfl (Nat.le_of_ble_eq_true rfl) ?_
  intro p e s m args below meth c H locs Q ls C hX hl hr hlocks hnm hQ
  have hl : lv_has ls 3 [(0, .ref h), (1, .int (nI i)), (2, .int (nI j))] := hl
  refine lv_aload_n C.x C.b dX8_howDisksLie_0 rfl (lv_at hl 0 rfl) ?_
  refine lv_iload_n C.x C.b dX8_howDisksLie_1 rfl (lv_at hl 1 rfl) ?_
  refine k_calli (va_runV (As := [.int (nI i)]) (rest := []) C.1 (kX8_hasDisk l G B0 f h dl sz vs vg vw vm vp vn w dx dy dr (nI i) hM hdl hsz) (cwV 1 C.ts gX8_howDisksLie_X8_hasDisk rfl rfl rfl ⟨rfl, hdX8_howDisksLie_X8_hasDisk⟩ ⟨Nat.le_of_ble_eq_true rfl, Nat.le_of_ble_eq_true rfl⟩) (k_preV C hX (hM.at 0 rfl) rfl) rfl rfl hl.1 rfl (lv_room (Nat.le_of_ble_eq_true rfl)) dX8_howDisksLie_2 ⟨Nat.le_of_ble_eq_true rfl, Nat.le_of_ble_eq_true rfl⟩) hX (fun r2 f2 H locs hp2 hX => ?_)
  obtain ⟨hr2, hf2⟩ := hp2
  rw [hf2] at hX
  refine k_topi (y := (kbI (mIn (nI i) sz))) hr2 ?_
  refine lv_if_eq (tgt := 44) C.x C.b dX8_howDisksLie_5 (by decide) (fun c_5 => ?_) (fun c_5 => ?_)
  · exact absurd ((mIn_nI (by omega)).mpr hi) (kbI_0 c_5)
  refine lv_aload_n C.x C.b dX8_howDisksLie_8 rfl (lv_at hl 0 rfl) ?_
  refine lv_iload_n C.x C.b dX8_howDisksLie_9 rfl (lv_at hl 2 rfl) ?_
  refine k_calli (va_runV (As := [.int (nI j)]) (rest := []) C.1 (kX8_hasDisk l G B0 f h dl sz vs vg vw vm vp vn w dx dy dr (nI j) hM hdl hsz) (cwV 1 C.ts gX8_howDisksLie_X8_hasDisk rfl rfl rfl ⟨rfl, hdX8_howDisksLie_X8_hasDisk⟩ ⟨Nat.le_of_ble_eq_true rfl, Nat.le_of_ble_eq_true rfl⟩) (k_preV C hX (hM.at 0 rfl) rfl) rfl rfl hl.1 rfl (lv_room (Nat.le_of_ble_eq_true rfl)) dX8_howDisksLie_10 ⟨Nat.le_of_ble_eq_true rfl, Nat.le_of_ble_eq_true rfl⟩) hX (fun r10 f10 H locs hp10 hX => ?_)
  obtain ⟨hr10, hf10⟩ := hp10
  rw [hf10] at hX
  refine k_topi (y := (kbI (mIn (nI j) sz))) hr10 ?_
  refine lv_if_eq (tgt := 44) C.x C.b dX8_howDisksLie_13 (by decide) (fun c_13 => ?_) (fun c_13 => ?_)
  · exact absurd ((mIn_nI (by omega)).mpr hj) (kbI_0 c_13)
  refine lv_aload_n C.x C.b dX8_howDisksLie_16 rfl (lv_at hl 0 rfl) ?_
  refine k_get (X := RX8) (T := TX8) (N := 7) (v := .ref dl) C hX (hM.at 0 rfl) rfl hin_X8_howDisksLie_RX8 1 (by decide) lk_X8_howDisksLie_f19 (fun _ h9 => h9) rfl dX8_howDisksLie_17 ?_
  refine lv_iload_n C.x C.b dX8_howDisksLie_20 rfl (lv_at hl 1 rfl) ?_
  refine k_callq (va_runV (As := [.int (nI i)]) (rest := []) C.1 (kGetL l G B0 f i (by omega) hdl) (cwV 1 C.ts gX8_howDisksLie_Jx4a65c_get_915e3 rfl rfl rfl ⟨rfl, hdX8_howDisksLie_Jx4a65c_get_915e3⟩ ⟨Nat.le_of_ble_eq_true rfl, Nat.le_of_ble_eq_true rfl⟩) (k_preV C hX (hdl.list.choose_spec) rfl) rfl rfl hl.1 rfl (lv_room (Nat.le_of_ble_eq_true rfl)) dX8_howDisksLie_21 ⟨Nat.le_of_ble_eq_true rfl, Nat.le_of_ble_eq_true rfl⟩) hX (fun r21 f21 H locs hp21 hX => ?_)
  obtain ⟨hr21, hf21⟩ := hp21
  rw [hf21] at hX
  refine k_topq (v := w i) hr21 ?_
  refine k_cast C hX (hdl.elt (by omega)) rfl (C.ts _ lk_X8_howDisksLie_cl134) dX8_howDisksLie_24 ?_
  refine lv_aload_n C.x C.b dX8_howDisksLie_27 rfl (lv_at hl 0 rfl) ?_
  refine k_get (X := RX8) (T := TX8) (N := 7) (v := .ref dl) C hX (hM.at 0 rfl) rfl hin_X8_howDisksLie_RX8 1 (by decide) lk_X8_howDisksLie_f19 (fun _ h9 => h9) rfl dX8_howDisksLie_28 ?_
  refine lv_iload_n C.x C.b dX8_howDisksLie_31 rfl (lv_at hl 2 rfl) ?_
  refine k_callq (va_runV (As := [.int (nI j)]) (rest := [.ref (w i)]) C.1 (kGetL l G B0 f j (by omega) hdl) (cwV 1 C.ts gX8_howDisksLie_Jx4a65c_get_915e3 rfl rfl rfl ⟨rfl, hdX8_howDisksLie_Jx4a65c_get_915e3⟩ ⟨Nat.le_of_ble_eq_true rfl, Nat.le_of_ble_eq_true rfl⟩) (k_preV C hX (hdl.list.choose_spec) rfl) rfl rfl hl.1 rfl (lv_room (Nat.le_of_ble_eq_true rfl)) dX8_howDisksLie_32 ⟨Nat.le_of_ble_eq_true rfl, Nat.le_of_ble_eq_true rfl⟩) hX (fun r32 f32 H locs hp32 hX => ?_)
  obtain ⟨hr32, hf32⟩ := hp32
  rw [hf32] at hX
  refine k_topq (v := w j) hr32 ?_
  refine k_cast C hX (hdl.elt (by omega)) rfl (C.ts _ lk_X8_howDisksLie_cl134) dX8_howDisksLie_35 ?_
  refine k_calli (va_runVN (As := [.ref (w j)]) (rest := []) C.1 (kX0_howItLies l G B0 f (w i) (w j) (dx i) (dy i) (dr i) (dx j) (dy j) (dr j) (kCs.two (hdl.elt hi) (hdl.elt hj) (hdl.inj hi hj hij))) ⟨va_cnB 1 C.ts gX8_howDisksLie_X0_howItLies_n177 rfl rfl rfl (C.2.1.2.2.1 _ (show ((RX8, 177, yX0_howItLies, "Koebehall") : String × Nat × MethodName × String) ∈ kNestM by decide +kernel)) (C.ts _ lk_X8_howDisksLie_in_RX0) hdX8_howDisksLie_X0_howItLies ⟨Nat.le_of_ble_eq_true rfl, Nat.le_of_ble_eq_true rfl⟩, C.ts _ lk_X8_howDisksLie_im_X0_howItLies, C.ts _ lk_X8_howDisksLie_se_X0_howItLies⟩ (k_preV C hX (hdl.elt (by omega)) rfl) rfl rfl hl.1 rfl (lv_room (Nat.le_of_ble_eq_true rfl)) dX8_howDisksLie_38 ⟨Nat.le_of_ble_eq_true rfl, Nat.le_of_ble_eq_true rfl⟩) hX (fun r38 f38 H locs hp38 hX => ?_)
  obtain ⟨hr38, hf38⟩ := hp38
  rw [hf38] at hX
  refine k_topi (y := (dsL dx dy dr i j)) hr38 ?_
  refine lv_goto (tgt := 45) C.x C.b dX8_howDisksLie_41 (by decide) ?_
  exact k_iret C hX hr hlocks hQ (by omega) (by omega) (⟨rfl, rfl⟩) dX8_howDisksLie_45

theorem hdX8_lie_X8_hasDisk : yX8_hasDisk.cls ≠ "java/lang/invoke/MethodHandle" ∧ yX8_hasDisk.cls ≠ "java/lang/invoke/VarHandle" ∧ (parseMethodDescriptor yX8_hasDisk.desc).map (fun d => d.parameters.length) = some 1 := by decide +kernel
theorem hdX8_lie_X8_howDisksLie : yX8_howDisksLie.cls ≠ "java/lang/invoke/MethodHandle" ∧ yX8_howDisksLie.cls ≠ "java/lang/invoke/VarHandle" ∧ (parseMethodDescriptor yX8_howDisksLie.desc).map (fun d => d.parameters.length) = some 2 := by decide +kernel
abbrev rmX8_lie : Room := { frames := 4, cells := 0, slots := 0, locals := 86 }
set_option maxHeartbeats 4000000 in
set_option maxRecDepth 100000 in
/-- X8_lie -/
theorem kX8_lie (l : Launch) (G : kG) (B0 : Nat) (f : kH) (h dl sz : Nat) (vs vg vw vm vp vn : Value) (w : Nat → Nat) (dx dy dr : Nat → Int64) (i j : Nat) (hM : kCs f [(h, .inr (8, [vs, .ref dl, vg, vw, vm, vp, vn]))]) (hdl : kLs G f dl sz w (dsE dx dy dr)) (hsz : sz ≤ 16) (hi : i < sz) (hj : j < sz) (hij : ¬ i = j) : Met l yX8_lie wsX8_lie (rmX8_lie) (kP G B0 f [.ref h, .int (nI i), .int (nI j)]) (kQi G B0 (fun r f1 => r = dsL dx dy dr i j ∧ f1 = f)) 0 0 (kAb B0) := by
  refine kMet (cc := cX8_lie) (maxL := 3) (ret := (some .int)) (by decide) rfl (Nat.le_of_ble_eq_true rfl) ?_
  intro p e s m args below meth c H locs Q ls C hX hl hr hlocks hnm hQ
  have hl : lv_has ls 3 [(0, .ref h), (1, .int (nI i)), (2, .int (nI j))] := hl
  refine lv_aload_n C.x C.b dX8_lie_0 rfl (lv_at hl 0 rfl) ?_
  refine lv_iload_n C.x C.b dX8_lie_1 rfl (lv_at hl 1 rfl) ?_
  refine k_calli (va_runV (As := [.int (nI i)]) (rest := []) C.1 (kX8_hasDisk l G B0 f h dl sz vs vg vw vm vp vn w dx dy dr (nI i) hM hdl hsz) (cwV 1 C.ts gX8_lie_X8_hasDisk rfl rfl rfl ⟨rfl, hdX8_lie_X8_hasDisk⟩ ⟨Nat.le_of_ble_eq_true rfl, Nat.le_of_ble_eq_true rfl⟩) (k_preV C hX (hM.at 0 rfl) rfl) rfl rfl hl.1 rfl (lv_room (Nat.le_of_ble_eq_true rfl)) dX8_lie_2 ⟨Nat.le_of_ble_eq_true rfl, Nat.le_of_ble_eq_true rfl⟩) hX (fun r2 f2 H locs hp2 hX => ?_)
  obtain ⟨hr2, hf2⟩ := hp2
  rw [hf2] at hX
  refine k_topi (y := (kbI (mIn (nI i) sz))) hr2 ?_
  refine lv_if_eq (tgt := 16) C.x C.b dX8_lie_5 (by decide) (fun c_5 => ?_) (fun c_5 => ?_)
  · exact absurd ((mIn_nI (by omega)).mpr hi) (kbI_0 c_5)
  refine lv_aload_n C.x C.b dX8_lie_8 rfl (lv_at hl 0 rfl) ?_
  refine lv_iload_n C.x C.b dX8_lie_9 rfl (lv_at hl 2 rfl) ?_
  refine k_calli (va_runV (As := [.int (nI j)]) (rest := []) C.1 (kX8_hasDisk l G B0 f h dl sz vs vg vw vm vp vn w dx dy dr (nI j) hM hdl hsz) (cwV 1 C.ts gX8_lie_X8_hasDisk rfl rfl rfl ⟨rfl, hdX8_lie_X8_hasDisk⟩ ⟨Nat.le_of_ble_eq_true rfl, Nat.le_of_ble_eq_true rfl⟩) (k_preV C hX (hM.at 0 rfl) rfl) rfl rfl hl.1 rfl (lv_room (Nat.le_of_ble_eq_true rfl)) dX8_lie_10 ⟨Nat.le_of_ble_eq_true rfl, Nat.le_of_ble_eq_true rfl⟩) hX (fun r10 f10 H locs hp10 hX => ?_)
  obtain ⟨hr10, hf10⟩ := hp10
  rw [hf10] at hX
  refine k_topi (y := (kbI (mIn (nI j) sz))) hr10 ?_
  refine lv_if_ne (tgt := 26) C.x C.b dX8_lie_13 (by decide) (fun c_13 => ?_) (fun c_13 => ?_)
  rotate_left
  · exact absurd ((mIn_nI (by omega)).mpr hj) (kbI_0 c_13)
  refine lv_iload_n C.x C.b dX8_lie_26 rfl (lv_at hl 1 rfl) ?_
  refine lv_iload_n C.x C.b dX8_lie_27 rfl (lv_at hl 2 rfl) ?_
  refine lv_icmp_ne (tgt := 41) C.x C.b dX8_lie_28 (by decide) (fun c_28 => ?_) (fun c_28 => ?_)
  rotate_left
  · skip
    have c_28 : i = j := (nI_eq (by omega) (by omega)).mp c_28
    omega
  have c_28 : ¬ (i = j) := fun h9 => c_28 ((nI_eq (by omega) (by omega)).mpr h9)
  refine lv_aload_n C.x C.b dX8_lie_41 rfl (lv_at hl 0 rfl) ?_
  refine lv_iload_n C.x C.b dX8_lie_42 rfl (lv_at hl 1 rfl) ?_
  refine lv_iload_n C.x C.b dX8_lie_43 rfl (lv_at hl 2 rfl) ?_
  refine k_calli (va_runV (As := [.int (nI i), .int (nI j)]) (rest := []) C.1 (kX8_howDisksLie l G B0 f h dl sz vs vg vw vm vp vn w dx dy dr i j hM hdl hsz (by omega) (by omega) (by omega)) (cwV 2 C.ts gX8_lie_X8_howDisksLie rfl rfl rfl ⟨rfl, hdX8_lie_X8_howDisksLie⟩ ⟨Nat.le_of_ble_eq_true rfl, Nat.le_of_ble_eq_true rfl⟩) (k_preV C hX (hM.at 0 rfl) rfl) rfl rfl hl.1 rfl (lv_room (Nat.le_of_ble_eq_true rfl)) dX8_lie_44 ⟨Nat.le_of_ble_eq_true rfl, Nat.le_of_ble_eq_true rfl⟩) hX (fun r44 f44 H locs hp44 hX => ?_)
  obtain ⟨hr44, hf44⟩ := hp44
  rw [hf44] at hX
  refine k_topi (y := (dsL dx dy dr i j)) hr44 ?_
  exact k_iret C hX hr hlocks hQ (by omega) (by omega) (⟨rfl, rfl⟩) dX8_lie_47

theorem lk_X8_pairs_f19 : Cond.fieldLink RX8 19 "Koebehall" "disks" "Ljava/util/ArrayList;" ∈ wsX8_pairs := by decide +kernel
theorem hin_X8_pairs_RX8 : ∀ w ∈ u_ws RX8 TX8 7, w ∈ wsX8_pairs := by decide +kernel
theorem hdX8_pairs_Jx4a65c_size_8abf5 : yJx4a65c_size_8abf5.cls ≠ "java/lang/invoke/MethodHandle" ∧ yJx4a65c_size_8abf5.cls ≠ "java/lang/invoke/VarHandle" ∧ (parseMethodDescriptor yJx4a65c_size_8abf5.desc).map (fun d => d.parameters.length) = some 0 := by decide +kernel
theorem hdX8_pairs_X8_howDisksLie : yX8_howDisksLie.cls ≠ "java/lang/invoke/MethodHandle" ∧ yX8_howDisksLie.cls ≠ "java/lang/invoke/VarHandle" ∧ (parseMethodDescriptor yX8_howDisksLie.desc).map (fun d => d.parameters.length) = some 2 := by decide +kernel
abbrev rmX8_pairs : Room := { frames := 4, cells := 0, slots := 0, locals := 86 }
set_option maxHeartbeats 4000000 in
set_option maxRecDepth 100000 in
/-- X8_pairs -/
theorem kX8_pairs (l : Launch) (G : kG) (B0 : Nat) (f : kH) (h dl sz : Nat) (vs vg vw vm vp vn : Value) (w : Nat → Nat) (dx dy dr : Nat → Int64) (t9 : Nat) (hM : kCs f [(h, .inr (8, [vs, .ref dl, vg, vw, vm, vp, vn]))]) (hdl : kLs G f dl sz w (dsE dx dy dr)) (hsz : sz ≤ 16) (ht : t9 ≤ 2) : Met l yX8_pairs wsX8_pairs (rmX8_pairs) (kP G B0 f [.ref h, .int (nI t9)]) (kQi G B0 (fun r f1 => r = nI (kCnt2 (fun x9 y9 => dsL dx dy dr y9 x9 = nI t9) (if sz = 0 then 1 else sz)) ∧ f1 = f)) 0 0 (kAb B0) := by
  refine kMet (cc := cX8_pairs) (maxL := 5) (ret := (some .int)) (by decide) rfl (Nat.le_of_ble_eq_true rfl) ?_
  intro p e s m args below meth c H locs Q ls C hX hl hr hlocks hnm hQ
  have hl : lv_has ls 5 [(0, .ref h), (1, .int (nI t9))] := hl
  refine lv_iload_n C.x C.b dX8_pairs_0 rfl (lv_at hl 1 rfl) ?_
  refine lv_if_lt (tgt := 9) C.x C.b dX8_pairs_1 (by decide) (fun c_1 => ?_) (fun c_1 => ?_)
  · skip
    exact absurd c_1 (nI_pos (by omega))
  · skip
    refine lv_iload_n C.x C.b dX8_pairs_4 rfl (lv_at hl 1 rfl) ?_
    refine lv_iconst (v := nI 2) C.x C.b dX8_pairs_5 (by decide) ?_
    refine lv_icmp_le (tgt := 19) C.x C.b dX8_pairs_6 (by decide) (fun c_6 => ?_) (fun c_6 => ?_)
    rotate_left
    · skip
      have c_6 : ¬ (t9 ≤ 2) := fun h9 => c_6 ((nI_leI (by omega) (by omega)).mpr h9)
      omega
    have c_6 : t9 ≤ 2 := (nI_leI (by omega) (by omega)).mp c_6
    refine lv_iconst (v := nI 0) C.x C.b dX8_pairs_19 (by decide) ?_
    refine lv_istore_n (lv' := [(2, .int (nI 0)), (0, .ref h), (1, .int (nI t9))]) C.x C.b dX8_pairs_20 rfl hl (by decide) rfl (fun ls hl => ?_)
    refine lv_iconst (v := nI 1) C.x C.b dX8_pairs_21 (by decide) ?_
    refine lv_istore_n (lv' := [(3, .int (nI 1)), (2, .int (nI 0)), (0, .ref h), (1, .int (nI t9))]) C.x C.b dX8_pairs_22 rfl hl (by decide) rfl (fun ls hl => ?_)
    rw [show (nI 0) = (nI (kCnt2 (fun x9 y9 => dsL dx dy dr y9 x9 = nI t9) 1)) from rfl] at hl
    have LOOP23 : ∀ (n : Nat) (u : Nat), (u ≤ sz ∨ u = 1) → (1 ≤ u) → (sz - u) < n → ∀ (ls : Array Slot), lv_has ls 5 [(2, .int (nI (kCnt2 (fun x9 y9 => dsL dx dy dr y9 x9 = nI t9) u))), (3, .int (nI u)), (0, .ref h), (1, .int (nI t9))] → ∀ (H : Heap) (locs : List Loc), kX G B0 s f H locs → W p l e (rmX8_pairs) s m args below meth c H locs 0 0 Q (F0 m 23 ls []) := by
      intro n23
      induction n23 with
      | zero => intro u hu hu1 hn; exact absurd hn (Nat.not_lt_zero _)
      | succ n23 ih23 =>
        intro u hu hu1 hn ls hl H locs hX
        refine lv_iload_n C.x C.b dX8_pairs_23 rfl (lv_at hl 1 rfl) ?_
        refine lv_aload_n C.x C.b dX8_pairs_24 rfl (lv_at hl 2 rfl) ?_
        refine k_get (X := RX8) (T := TX8) (N := 7) (v := .ref dl) C hX (hM.at 0 rfl) rfl hin_X8_pairs_RX8 1 (by decide) lk_X8_pairs_f19 (fun _ h9 => h9) rfl dX8_pairs_25 ?_
        refine k_calli (va_runV (As := []) (rest := [.int (nI u)]) C.1 (kSizeL l G B0 f hdl) (cwV 0 C.ts gX8_pairs_Jx4a65c_size_8abf5 rfl rfl rfl ⟨rfl, hdX8_pairs_Jx4a65c_size_8abf5⟩ ⟨Nat.le_of_ble_eq_true rfl, Nat.le_of_ble_eq_true rfl⟩) (k_preV C hX (hdl.list.choose_spec) rfl) rfl rfl hl.1 rfl (lv_room (Nat.le_of_ble_eq_true rfl)) dX8_pairs_28 ⟨Nat.le_of_ble_eq_true rfl, Nat.le_of_ble_eq_true rfl⟩) hX (fun r28 f28 H locs hp28 hX => ?_)
        obtain ⟨hr28, hf28⟩ := hp28
        rw [hf28] at hX
        refine k_topi (y := (nI sz)) hr28 ?_
        refine lv_icmp_ge (tgt := 69) C.x C.b dX8_pairs_31 (by decide) (fun c_31 => ?_) (fun c_31 => ?_)
        · skip
          have c_31 : sz ≤ u := (nI_leI (by omega) (by omega)).mp c_31
          refine lv_iload_n C.x C.b dX8_pairs_69 rfl (lv_at hl 0 rfl) ?_
          exact k_iret C hX hr hlocks hQ (by omega) (by omega) (⟨congrArg (fun z => nI (kCnt2 (fun x9 y9 => dsL dx dy dr y9 x9 = nI t9) z)) (by split <;> omega), rfl⟩) dX8_pairs_70
        · skip
          have c_31 : ¬ (sz ≤ u) := fun h9 => c_31 ((nI_leI (by omega) (by omega)).mpr h9)
          refine lv_iconst (v := nI 0) C.x C.b dX8_pairs_34 (by decide) ?_
          refine lv_istore (lv' := [(4, .int (nI 0)), (2, .int (nI (kCnt2 (fun x9 y9 => dsL dx dy dr y9 x9 = nI t9) u))), (3, .int (nI u)), (0, .ref h), (1, .int (nI t9))]) C.x C.b dX8_pairs_35 hl (by decide) rfl (fun ls hl => ?_)
          have LOOP37 : ∀ (n : Nat) (v : Nat), (v ≤ u) → (u - v) < n → ∀ (ls : Array Slot), lv_has ls 5 [(2, .int (nI (kCnt2 (fun x9 y9 => dsL dx dy dr y9 x9 = nI t9) u + kCnt ((fun x9 y9 => dsL dx dy dr y9 x9 = nI t9) u) v))), (4, .int (nI v)), (3, .int (nI u)), (0, .ref h), (1, .int (nI t9))] → ∀ (H : Heap) (locs : List Loc), kX G B0 s f H locs → W p l e (rmX8_pairs) s m args below meth c H locs 0 0 Q (F0 m 37 ls []) := by
            intro n37
            induction n37 with
            | zero => intro v hv hn; exact absurd hn (Nat.not_lt_zero _)
            | succ n37 ih37 =>
              intro v hv hn ls hl H locs hX
              refine lv_iload C.x C.b dX8_pairs_37 (lv_at hl 1 rfl) ?_
              refine lv_iload_n C.x C.b dX8_pairs_39 rfl (lv_at hl 2 rfl) ?_
              refine lv_icmp_ge (tgt := 63) C.x C.b dX8_pairs_40 (by decide) (fun c_40 => ?_) (fun c_40 => ?_)
              · skip
                have c_40 : u ≤ v := (nI_leI (by omega) (by omega)).mp c_40
                refine lv_iinc (v := (nI (u + 1))) (lv' := [(3, .int (nI (u + 1))), (2, .int (nI (kCnt2 (fun x9 y9 => dsL dx dy dr y9 x9 = nI t9) u + kCnt ((fun x9 y9 => dsL dx dy dr y9 x9 = nI t9) u) v))), (4, .int (nI v)), (0, .ref h), (1, .int (nI t9))]) C.x C.b dX8_pairs_63 hl (k := 2) rfl (nI_1 _) (by decide) rfl (fun ls hl => ?_)
                refine lv_goto (tgt := 23) C.x C.b dX8_pairs_66 (by decide) ?_
                rw [show (nI (kCnt2 (fun x9 y9 => dsL dx dy dr y9 x9 = nI t9) u + kCnt ((fun x9 y9 => dsL dx dy dr y9 x9 = nI t9) u) v)) = (nI (kCnt2 (fun x9 y9 => dsL dx dy dr y9 x9 = nI t9) (u + 1))) from by rw [show v = u by omega]; rfl] at hl
                exact ih23 (u + 1) (by omega) (by omega) (by omega) ls (lv_sub hl [1, 0, 3, 4] rfl) _ _ hX
              · skip
                have c_40 : ¬ (u ≤ v) := fun h9 => c_40 ((nI_leI (by omega) (by omega)).mpr h9)
                refine lv_aload_n C.x C.b dX8_pairs_43 rfl (lv_at hl 3 rfl) ?_
                refine lv_iload C.x C.b dX8_pairs_44 (lv_at hl 1 rfl) ?_
                refine lv_iload_n C.x C.b dX8_pairs_46 rfl (lv_at hl 2 rfl) ?_
                refine k_calli (va_runV (As := [.int (nI v), .int (nI u)]) (rest := []) C.1 (kX8_howDisksLie l G B0 f h dl sz vs vg vw vm vp vn w dx dy dr v u hM hdl hsz (by omega) (by omega) (by omega)) (cwV 2 C.ts gX8_pairs_X8_howDisksLie rfl rfl rfl ⟨rfl, hdX8_pairs_X8_howDisksLie⟩ ⟨Nat.le_of_ble_eq_true rfl, Nat.le_of_ble_eq_true rfl⟩) (k_preV C hX (hM.at 0 rfl) rfl) rfl rfl hl.1 rfl (lv_room (Nat.le_of_ble_eq_true rfl)) dX8_pairs_47 ⟨Nat.le_of_ble_eq_true rfl, Nat.le_of_ble_eq_true rfl⟩) hX (fun r47 f47 H locs hp47 hX => ?_)
                obtain ⟨hr47, hf47⟩ := hp47
                rw [hf47] at hX
                refine k_topi (y := (dsL dx dy dr v u)) hr47 ?_
                refine lv_iload_n C.x C.b dX8_pairs_50 rfl (lv_at hl 4 rfl) ?_
                refine lv_icmp_ne (tgt := 57) C.x C.b dX8_pairs_51 (by decide) (fun c_51 => ?_) (fun c_51 => ?_)
                · skip
                  refine lv_iinc (v := (nI (v + 1))) (lv' := [(4, .int (nI (v + 1))), (2, .int (nI (kCnt2 (fun x9 y9 => dsL dx dy dr y9 x9 = nI t9) u + kCnt ((fun x9 y9 => dsL dx dy dr y9 x9 = nI t9) u) v))), (3, .int (nI u)), (0, .ref h), (1, .int (nI t9))]) C.x C.b dX8_pairs_57 hl (k := 1) rfl (nI_1 _) (by decide) rfl (fun ls hl => ?_)
                  refine lv_goto (tgt := 37) C.x C.b dX8_pairs_60 (by decide) ?_
                  rw [show (nI (kCnt2 (fun x9 y9 => dsL dx dy dr y9 x9 = nI t9) u + kCnt ((fun x9 y9 => dsL dx dy dr y9 x9 = nI t9) u) v)) = (nI (kCnt2 (fun x9 y9 => dsL dx dy dr y9 x9 = nI t9) u + kCnt ((fun x9 y9 => dsL dx dy dr y9 x9 = nI t9) u) (v + 1))) from by first | exact kCnt_p2 _ _ c_51 | exact kCnt_n2 _ _ c_51] at hl
                  exact ih37 (v + 1) (by omega) (by omega) ls (lv_sub hl [1, 0, 2, 3, 4] rfl) _ _ hX
                · skip
                  refine lv_iinc (v := (nI (kCnt2 (fun x9 y9 => dsL dx dy dr y9 x9 = nI t9) u + kCnt ((fun x9 y9 => dsL dx dy dr y9 x9 = nI t9) u) v + 1))) (lv' := [(2, .int (nI (kCnt2 (fun x9 y9 => dsL dx dy dr y9 x9 = nI t9) u + kCnt ((fun x9 y9 => dsL dx dy dr y9 x9 = nI t9) u) v + 1))), (4, .int (nI v)), (3, .int (nI u)), (0, .ref h), (1, .int (nI t9))]) C.x C.b dX8_pairs_54 hl (k := 0) rfl (nI_1 _) (by decide) rfl (fun ls hl => ?_)
                  refine lv_iinc (v := (nI (v + 1))) (lv' := [(4, .int (nI (v + 1))), (2, .int (nI (kCnt2 (fun x9 y9 => dsL dx dy dr y9 x9 = nI t9) u + kCnt ((fun x9 y9 => dsL dx dy dr y9 x9 = nI t9) u) v + 1))), (3, .int (nI u)), (0, .ref h), (1, .int (nI t9))]) C.x C.b dX8_pairs_57 hl (k := 1) rfl (nI_1 _) (by decide) rfl (fun ls hl => ?_)
                  refine lv_goto (tgt := 37) C.x C.b dX8_pairs_60 (by decide) ?_
                  rw [show (nI (kCnt2 (fun x9 y9 => dsL dx dy dr y9 x9 = nI t9) u + kCnt ((fun x9 y9 => dsL dx dy dr y9 x9 = nI t9) u) v + 1)) = (nI (kCnt2 (fun x9 y9 => dsL dx dy dr y9 x9 = nI t9) u + kCnt ((fun x9 y9 => dsL dx dy dr y9 x9 = nI t9) u) (v + 1))) from by first | exact kCnt_p2 _ _ c_51 | exact kCnt_n2 _ _ c_51] at hl
                  exact ih37 (v + 1) (by omega) (by omega) ls (lv_sub hl [1, 0, 2, 3, 4] rfl) _ _ hX
          exact LOOP37 _ 0 (by omega) (Nat.lt_succ_self _) ls (lv_sub hl [1, 0, 2, 3, 4] rfl) _ _ hX
    exact LOOP23 _ 1 (by omega) (by omega) (Nat.lt_succ_self _) ls (lv_sub hl [1, 0, 2, 3] rfl) _ _ hX
