/-- what lay elsewhere still lies there -/
def kKeep (h : Nat) (f f1 : kH) : Prop := ∀ a e, a ≠ h → f a = some e → f1 a = some e
theorem kX.nw {G : kG} {B0 : Nat} {s : State} {f0 f : kH} {H : Heap} {locs : List Loc} {h q : Nat} {e eh : va_E} {ws : va_W} (hX : kX G B0 s (kst f q e) H locs) (hM : kCs f ws) (hO : kKeep h f0 f) (hn : f q = none) (hh : f h = some eh) : ∃ f1, kX G B0 s f1 H locs ∧ kCs f1 (ws ++ [(q, e)]) ∧ kKeep h f0 f1 ∧ f0 q = none := by
  have hq : ∀ b e', f b = some e' → b ≠ q := fun b e' hb z => by subst z; rw [hn] at hb; cases hb
  refine ⟨_, hX, ⟨fun x hx => ?_, ?_⟩, fun a e' ha h0 => ?_, ?_⟩
  · rcases List.mem_append.mp hx with z | z
    · rw [kst_n _ _ (hq _ _ (hM.1 x z))]; exact hM.1 x z
    · rw [List.mem_singleton.mp z]; exact kst_s _ _ _
  · rw [List.map_append]
    refine List.nodup_append.mpr ⟨hM.2, by simp, fun a ha b hb => ?_⟩
    obtain ⟨x, hx, rfl⟩ := List.mem_map.mp ha
    have : b = q := by simpa using hb
    subst this
    exact hq _ _ (hM.1 x hx)
  · have h1 := hO a e' ha h0
    rw [kst_n _ _ (hq _ _ h1)]; exact h1
  · cases h0 : f0 q with
    | none => rfl
    | some e' =>
      by_cases z : q = h
      · subst z; rw [hn] at hh; cases hh
      · have := hO q e' z h0
        rw [hn] at this; cases this
theorem kX.wrK {G : kG} {B0 : Nat} {s : State} {f0 f : kH} {H : Heap} {locs : List Loc} {h a : Nat} {e e1 : va_E} {ws : va_W} (hX : kX G B0 s (kst f a e1) H locs) (hM : kCs f ws) (hO : kKeep h f0 f) (i : Nat) (hi : ws[i]? = some (a, e)) (ha : a = h ∨ f0 a = none) : ∃ f1, kX G B0 s f1 H locs ∧ kCs f1 (ws.set i (a, e1)) ∧ kKeep h f0 f1 := by
  refine ⟨_, hX, hM.put i hi, fun b e' hb h0 => ?_⟩
  have hba : b ≠ a := fun z => by
    subst z
    rcases ha with q | q
    · exact hb q
    · rw [q] at h0; cases h0
  rw [kst_n _ _ hba]
  exact hO b e' hb h0
theorem kKeep.off {h : Nat} {as : List Nat} {f0 f f1 : kH} (hO : kKeep h f0 f) (h1 : kOff as f f1) (ha : ∀ a ∈ as, a = h ∨ f0 a = none) : kKeep h f0 f1 := fun b e hb h0 => by
  have hba : b ∉ as := fun z => by
    rcases ha b z with q | q
    · exact hb q
    · rw [q] at h0; cases h0
  rw [h1 b hba]
  exact hO b e hb h0
/-- the first faces -/
def mF0 : Nat → Int32 := mPut (mPut (mPut (mPut (fun _ => 0) 0 (nI 0) (nI 1) (nI 2)) 1 (nI 0) (nI 3) (nI 1)) 2 (nI 1) (nI 3) (nI 2)) 3 (nI 0) (nI 2) (nI 3)
def mW0 : Nat → Int64 := vp_updL (vp_updL (fun _ => 0) 0 1) 3 1

theorem lk_X9_init_m1 : Cond.methodLink RX9 1 objectInit ∈ wsX9_init := by decide +kernel
theorem lk_X9_init_oi : Cond.instanceMethod objectInit ∈ wsX9_init := by decide +kernel
theorem lk_X9_init_oc : Cond.code objectInit ⟨#[0xb1]⟩ 1 none ∈ wsX9_init := by decide +kernel
theorem lk_X9_init_f7 : Cond.fieldLink RX9 7 "KoebehallModel" "corners" "I" ∈ wsX9_init := by decide +kernel
theorem hin_X9_init_RX9 : ∀ w ∈ u_ws RX9 TX9 28, w ∈ wsX9_init := by decide +kernel
theorem lk_X9_init_f13 : Cond.fieldLink RX9 13 "KoebehallModel" "faces" "I" ∈ wsX9_init := by decide +kernel
theorem lk_X9_init_acint : Cond.arrayClass .int ∈ wsX9_init := by decide +kernel
theorem lk_X9_init_f16 : Cond.fieldLink RX9 16 "KoebehallModel" "face" "[I" ∈ wsX9_init := by decide +kernel
theorem lk_X9_init_f20 : Cond.fieldLink RX9 20 "KoebehallModel" "middleX" "[I" ∈ wsX9_init := by decide +kernel
theorem lk_X9_init_f23 : Cond.fieldLink RX9 23 "KoebehallModel" "middleY" "[I" ∈ wsX9_init := by decide +kernel
theorem lk_X9_init_f26 : Cond.fieldLink RX9 26 "KoebehallModel" "radii" "[I" ∈ wsX9_init := by decide +kernel
theorem lk_X9_init_aclong : Cond.arrayClass .long ∈ wsX9_init := by decide +kernel
theorem lk_X9_init_f29 : Cond.fieldLink RX9 29 "KoebehallModel" "curves" "[J" ∈ wsX9_init := by decide +kernel
theorem lk_X9_init_f33 : Cond.fieldLink RX9 33 "KoebehallModel" "roots" "[J" ∈ wsX9_init := by decide +kernel
theorem lk_X9_init_f36 : Cond.fieldLink RX9 36 "KoebehallModel" "steps" "[J" ∈ wsX9_init := by decide +kernel
theorem lk_X9_init_f39 : Cond.fieldLink RX9 39 "KoebehallModel" "nextTurn" "[I" ∈ wsX9_init := by decide +kernel
theorem lk_X9_init_f42 : Cond.fieldLink RX9 42 "KoebehallModel" "lastTurn" "[I" ∈ wsX9_init := by decide +kernel
theorem lk_X9_init_acboolean : Cond.arrayClass .boolean ∈ wsX9_init := by decide +kernel
theorem lk_X9_init_f45 : Cond.fieldLink RX9 45 "KoebehallModel" "seen" "[Z" ∈ wsX9_init := by decide +kernel
theorem lk_X9_init_f49 : Cond.fieldLink RX9 49 "KoebehallModel" "queue" "[I" ∈ wsX9_init := by decide +kernel
theorem lk_X9_init_f52 : Cond.fieldLink RX9 52 "KoebehallModel" "quotients" "[J" ∈ wsX9_init := by decide +kernel
theorem lk_X9_init_f55 : Cond.fieldLink RX9 55 "KoebehallModel" "tables" "[J" ∈ wsX9_init := by decide +kernel
theorem lk_X9_init_f58 : Cond.fieldLink RX9 58 "KoebehallModel" "word" "[J" ∈ wsX9_init := by decide +kernel
theorem lk_X9_init_f61 : Cond.fieldLink RX9 61 "KoebehallModel" "product" "[J" ∈ wsX9_init := by decide +kernel
theorem lk_X9_init_f64 : Cond.fieldLink RX9 64 "KoebehallModel" "nodes" "I" ∈ wsX9_init := by decide +kernel
theorem lk_X9_init_f67 : Cond.fieldLink RX9 67 "KoebehallModel" "ends" "[I" ∈ wsX9_init := by decide +kernel
theorem lk_X9_init_f70 : Cond.fieldLink RX9 70 "KoebehallModel" "others" "[I" ∈ wsX9_init := by decide +kernel
theorem lk_X9_init_f73 : Cond.fieldLink RX9 73 "KoebehallModel" "part" "[I" ∈ wsX9_init := by decide +kernel
theorem hdX9_init_X9_puts : yX9_puts.cls ≠ "java/lang/invoke/MethodHandle" ∧ yX9_puts.cls ≠ "java/lang/invoke/VarHandle" ∧ (parseMethodDescriptor yX9_puts.desc).map (fun d => d.parameters.length) = some 4 := by decide +kernel
abbrev rmX9_init : Room := { frames := 1, cells := 18, slots := 10074, locals := 26 }
set_option maxHeartbeats 4000000 in
set_option maxRecDepth 100000 in
/-- X9_init -/
theorem kX9_init (l : Launch) (G : kG) (B0 : Nat) (f : kH) (h : Nat) (hM : kCs f ([(h, .inr (9, [.int 0, .int 0, .null, .int 0, .null, .null, .null, .int 0, .null, .null, .null, .null, .null, .null, .null, .null, .long 0, .long 0, .int 0, .null, .null, .null, .int 0, .int 0, .null, .null, .null, .int 0]))])) : Met l yX9_init wsX9_init (rmX9_init) (kP G B0 f [.ref h]) (kQv G B0 (fun f1 => ∃ q : Nat → Nat, kCs f1 (mC G h q (nI 4) (nI 4) 0 0 0 (nI 2) 0 0 0 0 mF0 (fun _ => 0) (fun _ => 0) (fun _ => 0) (fun _ => 0) (fun _ => 0) (fun _ => 0) (fun _ => 0) (fun _ => 0) (fun _ => 0) (fun _ => 0) (fun _ => 0) (fun _ => 0) mW0 (fun _ => 0) (fun _ => 0) (fun _ => 0) (fun _ => 0)) ∧ kKeep h f f1 ∧ ∀ a ∈ mAs h q, a = h ∨ f a = none)) 18 10074 (kAb B0) := by
  refine kMet (cc := cX9_init) (maxL := 1) (ret := none) (by decide) rfl (Nat.le_of_ble_eq_true rfl) ?_
  intro p e s m args below meth c H locs Q ls C hX hl hr hlocks hnm hQ
  have hO : kKeep h f f := fun _ _ _ z => z
  have hl : lv_has ls 1 [(0, .ref h)] := hl
  refine lv_aload_n C.x C.b dX9_init_0 rfl (lv_at hl 0 rfl) ?_
  refine W.objInit C.x C.b C.ow (C.ts _ lk_X9_init_m1) (C.ts _ lk_X9_init_oi) (C.ts _ lk_X9_init_oc) rfl (by rw [C.ml]; exact hl.1) rfl dX9_init_1 (Nat.le_of_ble_eq_true rfl) (Nat.le_of_ble_eq_true rfl) ?_
  refine W.eq (g2 := F0 m 4 ls []) rfl ?_
  refine lv_aload_n C.x C.b dX9_init_4 rfl (lv_at hl 0 rfl) ?_
  refine lv_iconst (v := nI 4) C.x C.b dX9_init_5 (by decide) ?_
  refine k_put (X := RX9) (T := TX9) (N := 28) (ty := .int) (v := .int (nI 4)) C hX (hM.at 0 rfl) rfl hin_X9_init_RX9 tyX9_ok nmX9 0 (by decide) lk_X9_init_f7 (fun _ h9 => h9) rfl (by decide +kernel) rfl rfl (Nat.le_of_ble_eq_true rfl) dX9_init_6 (fun H locs hX => ?_)
  obtain ⟨g1, hX, hM, hO⟩ := kX.wrK hX hM hO 0 rfl (Or.inl rfl)
  have hM : kCs g1 ([(h, .inr (9, [.int (nI 4), .int 0, .null, .int 0, .null, .null, .null, .int 0, .null, .null, .null, .null, .null, .null, .null, .null, .long 0, .long 0, .int 0, .null, .null, .null, .int 0, .int 0, .null, .null, .null, .int 0]))]) := hM
  refine lv_aload_n C.x C.b dX9_init_9 rfl (lv_at hl 0 rfl) ?_
  refine lv_iconst (v := nI 4) C.x C.b dX9_init_10 (by decide) ?_
  refine k_put (X := RX9) (T := TX9) (N := 28) (ty := .int) (v := .int (nI 4)) C hX (hM.at 0 rfl) rfl hin_X9_init_RX9 tyX9_ok nmX9 1 (by decide) lk_X9_init_f13 (fun _ h9 => h9) rfl (by decide +kernel) rfl rfl (Nat.le_of_ble_eq_true rfl) dX9_init_11 (fun H locs hX => ?_)
  obtain ⟨g2, hX, hM, hO⟩ := kX.wrK hX hM hO 0 rfl (Or.inl rfl)
  have hM : kCs g2 ([(h, .inr (9, [.int (nI 4), .int (nI 4), .null, .int 0, .null, .null, .null, .int 0, .null, .null, .null, .null, .null, .null, .null, .null, .long 0, .long 0, .int 0, .null, .null, .null, .int 0, .int 0, .null, .null, .null, .int 0]))]) := hM
  refine lv_aload_n C.x C.b dX9_init_14 rfl (lv_at hl 0 rfl) ?_
  refine lv_bipush (v := nI 84) C.x C.b dX9_init_15 (by decide) ?_
  refine k_newaI (atype := .int) (R9 := 84) C hX (C.ts _ lk_X9_init_acint) rfl (by decide) (by decide) (by decide) (by decide) (by decide) dX9_init_17 (fun n3 H hn hX => ?_)
  obtain ⟨g4, hX, hM, hO, fr_n3⟩ := kX.nw hX hM hO hn (hM.at 0 rfl)
  have hM : kCs g4 ([(h, .inr (9, [.int (nI 4), .int (nI 4), .null, .int 0, .null, .null, .null, .int 0, .null, .null, .null, .null, .null, .null, .null, .null, .long 0, .long 0, .int 0, .null, .null, .null, .int 0, .int 0, .null, .null, .null, .int 0])), (n3, kaI G 84 (fun _ => 0))]) := hM
  refine k_putF (X := RX9) (T := TX9) (N := 28) (ty := .array .int) (v := .ref n3) C hX (hM.at 0 rfl) rfl hin_X9_init_RX9 tyX9_ok nmX9 2 (by decide) lk_X9_init_f16 (fun _ h9 => h9) rfl hnm rfl rfl (by decide +kernel) rfl rfl (Nat.le_of_ble_eq_true rfl) dX9_init_19 (fun H locs hX => ?_)
  obtain ⟨g5, hX, hM, hO⟩ := kX.wrK hX hM hO 0 rfl (Or.inl rfl)
  have hM : kCs g5 ([(h, .inr (9, [.int (nI 4), .int (nI 4), .ref n3, .int 0, .null, .null, .null, .int 0, .null, .null, .null, .null, .null, .null, .null, .null, .long 0, .long 0, .int 0, .null, .null, .null, .int 0, .int 0, .null, .null, .null, .int 0])), (n3, kaI G 84 (fun _ => 0))]) := hM
  refine lv_aload_n C.x C.b dX9_init_22 rfl (lv_at hl 0 rfl) ?_
  refine lv_bipush (v := nI 16) C.x C.b dX9_init_23 (by decide) ?_
  refine k_newaI (atype := .int) (R9 := 16) C hX (C.ts _ lk_X9_init_acint) rfl (by decide) (by decide) (by decide) (by decide) (by decide) dX9_init_25 (fun n6 H hn hX => ?_)
  obtain ⟨g7, hX, hM, hO, fr_n6⟩ := kX.nw hX hM hO hn (hM.at 0 rfl)
  have hM : kCs g7 ([(h, .inr (9, [.int (nI 4), .int (nI 4), .ref n3, .int 0, .null, .null, .null, .int 0, .null, .null, .null, .null, .null, .null, .null, .null, .long 0, .long 0, .int 0, .null, .null, .null, .int 0, .int 0, .null, .null, .null, .int 0])), (n3, kaI G 84 (fun _ => 0)), (n6, kaI G 16 (fun _ => 0))]) := hM
  refine k_putF (X := RX9) (T := TX9) (N := 28) (ty := .array .int) (v := .ref n6) C hX (hM.at 0 rfl) rfl hin_X9_init_RX9 tyX9_ok nmX9 4 (by decide) lk_X9_init_f20 (fun _ h9 => h9) rfl hnm rfl rfl (by decide +kernel) rfl rfl (Nat.le_of_ble_eq_true rfl) dX9_init_27 (fun H locs hX => ?_)
  obtain ⟨g8, hX, hM, hO⟩ := kX.wrK hX hM hO 0 rfl (Or.inl rfl)
  have hM : kCs g8 ([(h, .inr (9, [.int (nI 4), .int (nI 4), .ref n3, .int 0, .ref n6, .null, .null, .int 0, .null, .null, .null, .null, .null, .null, .null, .null, .long 0, .long 0, .int 0, .null, .null, .null, .int 0, .int 0, .null, .null, .null, .int 0])), (n3, kaI G 84 (fun _ => 0)), (n6, kaI G 16 (fun _ => 0))]) := hM
  refine lv_aload_n C.x C.b dX9_init_30 rfl (lv_at hl 0 rfl) ?_
  refine lv_bipush (v := nI 16) C.x C.b dX9_init_31 (by decide) ?_
  refine k_newaI (atype := .int) (R9 := 16) C hX (C.ts _ lk_X9_init_acint) rfl (by decide) (by decide) (by decide) (by decide) (by decide) dX9_init_33 (fun n9 H hn hX => ?_)
  obtain ⟨g10, hX, hM, hO, fr_n9⟩ := kX.nw hX hM hO hn (hM.at 0 rfl)
  have hM : kCs g10 ([(h, .inr (9, [.int (nI 4), .int (nI 4), .ref n3, .int 0, .ref n6, .null, .null, .int 0, .null, .null, .null, .null, .null, .null, .null, .null, .long 0, .long 0, .int 0, .null, .null, .null, .int 0, .int 0, .null, .null, .null, .int 0])), (n3, kaI G 84 (fun _ => 0)), (n6, kaI G 16 (fun _ => 0)), (n9, kaI G 16 (fun _ => 0))]) := hM
  refine k_putF (X := RX9) (T := TX9) (N := 28) (ty := .array .int) (v := .ref n9) C hX (hM.at 0 rfl) rfl hin_X9_init_RX9 tyX9_ok nmX9 5 (by decide) lk_X9_init_f23 (fun _ h9 => h9) rfl hnm rfl rfl (by decide +kernel) rfl rfl (Nat.le_of_ble_eq_true rfl) dX9_init_35 (fun H locs hX => ?_)
  obtain ⟨g11, hX, hM, hO⟩ := kX.wrK hX hM hO 0 rfl (Or.inl rfl)
  have hM : kCs g11 ([(h, .inr (9, [.int (nI 4), .int (nI 4), .ref n3, .int 0, .ref n6, .ref n9, .null, .int 0, .null, .null, .null, .null, .null, .null, .null, .null, .long 0, .long 0, .int 0, .null, .null, .null, .int 0, .int 0, .null, .null, .null, .int 0])), (n3, kaI G 84 (fun _ => 0)), (n6, kaI G 16 (fun _ => 0)), (n9, kaI G 16 (fun _ => 0))]) := hM
  refine lv_aload_n C.x C.b dX9_init_38 rfl (lv_at hl 0 rfl) ?_
  refine lv_bipush (v := nI 16) C.x C.b dX9_init_39 (by decide) ?_
  refine k_newaI (atype := .int) (R9 := 16) C hX (C.ts _ lk_X9_init_acint) rfl (by decide) (by decide) (by decide) (by decide) (by decide) dX9_init_41 (fun n12 H hn hX => ?_)
  obtain ⟨g13, hX, hM, hO, fr_n12⟩ := kX.nw hX hM hO hn (hM.at 0 rfl)
  have hM : kCs g13 ([(h, .inr (9, [.int (nI 4), .int (nI 4), .ref n3, .int 0, .ref n6, .ref n9, .null, .int 0, .null, .null, .null, .null, .null, .null, .null, .null, .long 0, .long 0, .int 0, .null, .null, .null, .int 0, .int 0, .null, .null, .null, .int 0])), (n3, kaI G 84 (fun _ => 0)), (n6, kaI G 16 (fun _ => 0)), (n9, kaI G 16 (fun _ => 0)), (n12, kaI G 16 (fun _ => 0))]) := hM
  refine k_putF (X := RX9) (T := TX9) (N := 28) (ty := .array .int) (v := .ref n12) C hX (hM.at 0 rfl) rfl hin_X9_init_RX9 tyX9_ok nmX9 6 (by decide) lk_X9_init_f26 (fun _ h9 => h9) rfl hnm rfl rfl (by decide +kernel) rfl rfl (Nat.le_of_ble_eq_true rfl) dX9_init_43 (fun H locs hX => ?_)
  obtain ⟨g14, hX, hM, hO⟩ := kX.wrK hX hM hO 0 rfl (Or.inl rfl)
  have hM : kCs g14 ([(h, .inr (9, [.int (nI 4), .int (nI 4), .ref n3, .int 0, .ref n6, .ref n9, .ref n12, .int 0, .null, .null, .null, .null, .null, .null, .null, .null, .long 0, .long 0, .int 0, .null, .null, .null, .int 0, .int 0, .null, .null, .null, .int 0])), (n3, kaI G 84 (fun _ => 0)), (n6, kaI G 16 (fun _ => 0)), (n9, kaI G 16 (fun _ => 0)), (n12, kaI G 16 (fun _ => 0))]) := hM
  refine lv_aload_n C.x C.b dX9_init_46 rfl (lv_at hl 0 rfl) ?_
  refine lv_bipush (v := nI 32) C.x C.b dX9_init_47 (by decide) ?_
  refine k_newaJ (atype := .long) (R9 := 32) C hX (C.ts _ lk_X9_init_aclong) rfl (by decide) (by decide) (by decide) (by decide) (by decide) dX9_init_49 (fun n15 H hn hX => ?_)
  obtain ⟨g16, hX, hM, hO, fr_n15⟩ := kX.nw hX hM hO hn (hM.at 0 rfl)
  have hM : kCs g16 ([(h, .inr (9, [.int (nI 4), .int (nI 4), .ref n3, .int 0, .ref n6, .ref n9, .ref n12, .int 0, .null, .null, .null, .null, .null, .null, .null, .null, .long 0, .long 0, .int 0, .null, .null, .null, .int 0, .int 0, .null, .null, .null, .int 0])), (n3, kaI G 84 (fun _ => 0)), (n6, kaI G 16 (fun _ => 0)), (n9, kaI G 16 (fun _ => 0)), (n12, kaI G 16 (fun _ => 0)), (n15, kaJ G 32 (fun _ => 0))]) := hM
  refine k_putF (X := RX9) (T := TX9) (N := 28) (ty := .array .long) (v := .ref n15) C hX (hM.at 0 rfl) rfl hin_X9_init_RX9 tyX9_ok nmX9 8 (by decide) lk_X9_init_f29 (fun _ h9 => h9) rfl hnm rfl rfl (by decide +kernel) rfl rfl (Nat.le_of_ble_eq_true rfl) dX9_init_51 (fun H locs hX => ?_)
  obtain ⟨g17, hX, hM, hO⟩ := kX.wrK hX hM hO 0 rfl (Or.inl rfl)
  have hM : kCs g17 ([(h, .inr (9, [.int (nI 4), .int (nI 4), .ref n3, .int 0, .ref n6, .ref n9, .ref n12, .int 0, .ref n15, .null, .null, .null, .null, .null, .null, .null, .long 0, .long 0, .int 0, .null, .null, .null, .int 0, .int 0, .null, .null, .null, .int 0])), (n3, kaI G 84 (fun _ => 0)), (n6, kaI G 16 (fun _ => 0)), (n9, kaI G 16 (fun _ => 0)), (n12, kaI G 16 (fun _ => 0)), (n15, kaJ G 32 (fun _ => 0))]) := hM
  refine lv_aload_n C.x C.b dX9_init_54 rfl (lv_at hl 0 rfl) ?_
  refine lv_iconst (v := nI 4) C.x C.b dX9_init_55 (by decide) ?_
  refine k_newaJ (atype := .long) (R9 := 4) C hX (C.ts _ lk_X9_init_aclong) rfl (by decide) (by decide) (by decide) (by decide) (by decide) dX9_init_56 (fun n18 H hn hX => ?_)
  obtain ⟨g19, hX, hM, hO, fr_n18⟩ := kX.nw hX hM hO hn (hM.at 0 rfl)
  have hM : kCs g19 ([(h, .inr (9, [.int (nI 4), .int (nI 4), .ref n3, .int 0, .ref n6, .ref n9, .ref n12, .int 0, .ref n15, .null, .null, .null, .null, .null, .null, .null, .long 0, .long 0, .int 0, .null, .null, .null, .int 0, .int 0, .null, .null, .null, .int 0])), (n3, kaI G 84 (fun _ => 0)), (n6, kaI G 16 (fun _ => 0)), (n9, kaI G 16 (fun _ => 0)), (n12, kaI G 16 (fun _ => 0)), (n15, kaJ G 32 (fun _ => 0)), (n18, kaJ G 4 (fun _ => 0))]) := hM
  refine k_putF (X := RX9) (T := TX9) (N := 28) (ty := .array .long) (v := .ref n18) C hX (hM.at 0 rfl) rfl hin_X9_init_RX9 tyX9_ok nmX9 9 (by decide) lk_X9_init_f33 (fun _ h9 => h9) rfl hnm rfl rfl (by decide +kernel) rfl rfl (Nat.le_of_ble_eq_true rfl) dX9_init_58 (fun H locs hX => ?_)
  obtain ⟨g20, hX, hM, hO⟩ := kX.wrK hX hM hO 0 rfl (Or.inl rfl)
  have hM : kCs g20 ([(h, .inr (9, [.int (nI 4), .int (nI 4), .ref n3, .int 0, .ref n6, .ref n9, .ref n12, .int 0, .ref n15, .ref n18, .null, .null, .null, .null, .null, .null, .long 0, .long 0, .int 0, .null, .null, .null, .int 0, .int 0, .null, .null, .null, .int 0])), (n3, kaI G 84 (fun _ => 0)), (n6, kaI G 16 (fun _ => 0)), (n9, kaI G 16 (fun _ => 0)), (n12, kaI G 16 (fun _ => 0)), (n15, kaJ G 32 (fun _ => 0)), (n18, kaJ G 4 (fun _ => 0))]) := hM
  refine lv_aload_n C.x C.b dX9_init_61 rfl (lv_at hl 0 rfl) ?_
  refine lv_sipush (v := nI 1024) C.x C.b dX9_init_62 (by decide) ?_
  refine k_newaJ (atype := .long) (R9 := 1024) C hX (C.ts _ lk_X9_init_aclong) rfl (by decide) (by decide) (by decide) (by decide) (by decide) dX9_init_65 (fun n21 H hn hX => ?_)
  obtain ⟨g22, hX, hM, hO, fr_n21⟩ := kX.nw hX hM hO hn (hM.at 0 rfl)
  have hM : kCs g22 ([(h, .inr (9, [.int (nI 4), .int (nI 4), .ref n3, .int 0, .ref n6, .ref n9, .ref n12, .int 0, .ref n15, .ref n18, .null, .null, .null, .null, .null, .null, .long 0, .long 0, .int 0, .null, .null, .null, .int 0, .int 0, .null, .null, .null, .int 0])), (n3, kaI G 84 (fun _ => 0)), (n6, kaI G 16 (fun _ => 0)), (n9, kaI G 16 (fun _ => 0)), (n12, kaI G 16 (fun _ => 0)), (n15, kaJ G 32 (fun _ => 0)), (n18, kaJ G 4 (fun _ => 0)), (n21, kaJ G 1024 (fun _ => 0))]) := hM
  refine k_putF (X := RX9) (T := TX9) (N := 28) (ty := .array .long) (v := .ref n21) C hX (hM.at 0 rfl) rfl hin_X9_init_RX9 tyX9_ok nmX9 10 (by decide) lk_X9_init_f36 (fun _ h9 => h9) rfl hnm rfl rfl (by decide +kernel) rfl rfl (Nat.le_of_ble_eq_true rfl) dX9_init_67 (fun H locs hX => ?_)
  obtain ⟨g23, hX, hM, hO⟩ := kX.wrK hX hM hO 0 rfl (Or.inl rfl)
  have hM : kCs g23 ([(h, .inr (9, [.int (nI 4), .int (nI 4), .ref n3, .int 0, .ref n6, .ref n9, .ref n12, .int 0, .ref n15, .ref n18, .ref n21, .null, .null, .null, .null, .null, .long 0, .long 0, .int 0, .null, .null, .null, .int 0, .int 0, .null, .null, .null, .int 0])), (n3, kaI G 84 (fun _ => 0)), (n6, kaI G 16 (fun _ => 0)), (n9, kaI G 16 (fun _ => 0)), (n12, kaI G 16 (fun _ => 0)), (n15, kaJ G 32 (fun _ => 0)), (n18, kaJ G 4 (fun _ => 0)), (n21, kaJ G 1024 (fun _ => 0))]) := hM
  refine lv_aload_n C.x C.b dX9_init_70 rfl (lv_at hl 0 rfl) ?_
  refine lv_sipush (v := nI 256) C.x C.b dX9_init_71 (by decide) ?_
  refine k_newaI (atype := .int) (R9 := 256) C hX (C.ts _ lk_X9_init_acint) rfl (by decide) (by decide) (by decide) (by decide) (by decide) dX9_init_74 (fun n24 H hn hX => ?_)
  obtain ⟨g25, hX, hM, hO, fr_n24⟩ := kX.nw hX hM hO hn (hM.at 0 rfl)
  have hM : kCs g25 ([(h, .inr (9, [.int (nI 4), .int (nI 4), .ref n3, .int 0, .ref n6, .ref n9, .ref n12, .int 0, .ref n15, .ref n18, .ref n21, .null, .null, .null, .null, .null, .long 0, .long 0, .int 0, .null, .null, .null, .int 0, .int 0, .null, .null, .null, .int 0])), (n3, kaI G 84 (fun _ => 0)), (n6, kaI G 16 (fun _ => 0)), (n9, kaI G 16 (fun _ => 0)), (n12, kaI G 16 (fun _ => 0)), (n15, kaJ G 32 (fun _ => 0)), (n18, kaJ G 4 (fun _ => 0)), (n21, kaJ G 1024 (fun _ => 0)), (n24, kaI G 256 (fun _ => 0))]) := hM
  refine k_putF (X := RX9) (T := TX9) (N := 28) (ty := .array .int) (v := .ref n24) C hX (hM.at 0 rfl) rfl hin_X9_init_RX9 tyX9_ok nmX9 11 (by decide) lk_X9_init_f39 (fun _ h9 => h9) rfl hnm rfl rfl (by decide +kernel) rfl rfl (Nat.le_of_ble_eq_true rfl) dX9_init_76 (fun H locs hX => ?_)
  obtain ⟨g26, hX, hM, hO⟩ := kX.wrK hX hM hO 0 rfl (Or.inl rfl)
  have hM : kCs g26 ([(h, .inr (9, [.int (nI 4), .int (nI 4), .ref n3, .int 0, .ref n6, .ref n9, .ref n12, .int 0, .ref n15, .ref n18, .ref n21, .ref n24, .null, .null, .null, .null, .long 0, .long 0, .int 0, .null, .null, .null, .int 0, .int 0, .null, .null, .null, .int 0])), (n3, kaI G 84 (fun _ => 0)), (n6, kaI G 16 (fun _ => 0)), (n9, kaI G 16 (fun _ => 0)), (n12, kaI G 16 (fun _ => 0)), (n15, kaJ G 32 (fun _ => 0)), (n18, kaJ G 4 (fun _ => 0)), (n21, kaJ G 1024 (fun _ => 0)), (n24, kaI G 256 (fun _ => 0))]) := hM
  refine lv_aload_n C.x C.b dX9_init_79 rfl (lv_at hl 0 rfl) ?_
  refine lv_sipush (v := nI 256) C.x C.b dX9_init_80 (by decide) ?_
  refine k_newaI (atype := .int) (R9 := 256) C hX (C.ts _ lk_X9_init_acint) rfl (by decide) (by decide) (by decide) (by decide) (by decide) dX9_init_83 (fun n27 H hn hX => ?_)
  obtain ⟨g28, hX, hM, hO, fr_n27⟩ := kX.nw hX hM hO hn (hM.at 0 rfl)
  have hM : kCs g28 ([(h, .inr (9, [.int (nI 4), .int (nI 4), .ref n3, .int 0, .ref n6, .ref n9, .ref n12, .int 0, .ref n15, .ref n18, .ref n21, .ref n24, .null, .null, .null, .null, .long 0, .long 0, .int 0, .null, .null, .null, .int 0, .int 0, .null, .null, .null, .int 0])), (n3, kaI G 84 (fun _ => 0)), (n6, kaI G 16 (fun _ => 0)), (n9, kaI G 16 (fun _ => 0)), (n12, kaI G 16 (fun _ => 0)), (n15, kaJ G 32 (fun _ => 0)), (n18, kaJ G 4 (fun _ => 0)), (n21, kaJ G 1024 (fun _ => 0)), (n24, kaI G 256 (fun _ => 0)), (n27, kaI G 256 (fun _ => 0))]) := hM
  refine k_putF (X := RX9) (T := TX9) (N := 28) (ty := .array .int) (v := .ref n27) C hX (hM.at 0 rfl) rfl hin_X9_init_RX9 tyX9_ok nmX9 12 (by decide) lk_X9_init_f42 (fun _ h9 => h9) rfl hnm rfl rfl (by decide +kernel) rfl rfl (Nat.le_of_ble_eq_true rfl) dX9_init_85 (fun H locs hX => ?_)
  obtain ⟨g29, hX, hM, hO⟩ := kX.wrK hX hM hO 0 rfl (Or.inl rfl)
  have hM : kCs g29 ([(h, .inr (9, [.int (nI 4), .int (nI 4), .ref n3, .int 0, .ref n6, .ref n9, .ref n12, .int 0, .ref n15, .ref n18, .ref n21, .ref n24, .ref n27, .null, .null, .null, .long 0, .long 0, .int 0, .null, .null, .null, .int 0, .int 0, .null, .null, .null, .int 0])), (n3, kaI G 84 (fun _ => 0)), (n6, kaI G 16 (fun _ => 0)), (n9, kaI G 16 (fun _ => 0)), (n12, kaI G 16 (fun _ => 0)), (n15, kaJ G 32 (fun _ => 0)), (n18, kaJ G 4 (fun _ => 0)), (n21, kaJ G 1024 (fun _ => 0)), (n24, kaI G 256 (fun _ => 0)), (n27, kaI G 256 (fun _ => 0))]) := hM
  refine lv_aload_n C.x C.b dX9_init_88 rfl (lv_at hl 0 rfl) ?_
  refine lv_sipush (v := nI 4096) C.x C.b dX9_init_89 (by decide) ?_
  refine k_newaZ (atype := .boolean) (R9 := 4096) C hX (C.ts _ lk_X9_init_acboolean) rfl (by decide) (by decide) (by decide) (by decide) (by decide) dX9_init_92 (fun n30 H hn hX => ?_)
  obtain ⟨g31, hX, hM, hO, fr_n30⟩ := kX.nw hX hM hO hn (hM.at 0 rfl)
  have hM : kCs g31 ([(h, .inr (9, [.int (nI 4), .int (nI 4), .ref n3, .int 0, .ref n6, .ref n9, .ref n12, .int 0, .ref n15, .ref n18, .ref n21, .ref n24, .ref n27, .null, .null, .null, .long 0, .long 0, .int 0, .null, .null, .null, .int 0, .int 0, .null, .null, .null, .int 0])), (n3, kaI G 84 (fun _ => 0)), (n6, kaI G 16 (fun _ => 0)), (n9, kaI G 16 (fun _ => 0)), (n12, kaI G 16 (fun _ => 0)), (n15, kaJ G 32 (fun _ => 0)), (n18, kaJ G 4 (fun _ => 0)), (n21, kaJ G 1024 (fun _ => 0)), (n24, kaI G 256 (fun _ => 0)), (n27, kaI G 256 (fun _ => 0)), (n30, kaZ G 4096 (fun _ => 0))]) := hM
  refine k_putF (X := RX9) (T := TX9) (N := 28) (ty := .array .boolean) (v := .ref n30) C hX (hM.at 0 rfl) rfl hin_X9_init_RX9 tyX9_ok nmX9 13 (by decide) lk_X9_init_f45 (fun _ h9 => h9) rfl hnm rfl rfl (by decide +kernel) rfl rfl (Nat.le_of_ble_eq_true rfl) dX9_init_94 (fun H locs hX => ?_)
  obtain ⟨g32, hX, hM, hO⟩ := kX.wrK hX hM hO 0 rfl (Or.inl rfl)
  have hM : kCs g32 ([(h, .inr (9, [.int (nI 4), .int (nI 4), .ref n3, .int 0, .ref n6, .ref n9, .ref n12, .int 0, .ref n15, .ref n18, .ref n21, .ref n24, .ref n27, .ref n30, .null, .null, .long 0, .long 0, .int 0, .null, .null, .null, .int 0, .int 0, .null, .null, .null, .int 0])), (n3, kaI G 84 (fun _ => 0)), (n6, kaI G 16 (fun _ => 0)), (n9, kaI G 16 (fun _ => 0)), (n12, kaI G 16 (fun _ => 0)), (n15, kaJ G 32 (fun _ => 0)), (n18, kaJ G 4 (fun _ => 0)), (n21, kaJ G 1024 (fun _ => 0)), (n24, kaI G 256 (fun _ => 0)), (n27, kaI G 256 (fun _ => 0)), (n30, kaZ G 4096 (fun _ => 0))]) := hM
  refine lv_aload_n C.x C.b dX9_init_97 rfl (lv_at hl 0 rfl) ?_
  refine lv_sipush (v := nI 4096) C.x C.b dX9_init_98 (by decide) ?_
  refine k_newaI (atype := .int) (R9 := 4096) C hX (C.ts _ lk_X9_init_acint) rfl (by decide) (by decide) (by decide) (by decide) (by decide) dX9_init_101 (fun n33 H hn hX => ?_)
  obtain ⟨g34, hX, hM, hO, fr_n33⟩ := kX.nw hX hM hO hn (hM.at 0 rfl)
  have hM : kCs g34 ([(h, .inr (9, [.int (nI 4), .int (nI 4), .ref n3, .int 0, .ref n6, .ref n9, .ref n12, .int 0, .ref n15, .ref n18, .ref n21, .ref n24, .ref n27, .ref n30, .null, .null, .long 0, .long 0, .int 0, .null, .null, .null, .int 0, .int 0, .null, .null, .null, .int 0])), (n3, kaI G 84 (fun _ => 0)), (n6, kaI G 16 (fun _ => 0)), (n9, kaI G 16 (fun _ => 0)), (n12, kaI G 16 (fun _ => 0)), (n15, kaJ G 32 (fun _ => 0)), (n18, kaJ G 4 (fun _ => 0)), (n21, kaJ G 1024 (fun _ => 0)), (n24, kaI G 256 (fun _ => 0)), (n27, kaI G 256 (fun _ => 0)), (n30, kaZ G 4096 (fun _ => 0)), (n33, kaI G 4096 (fun _ => 0))]) := hM
  refine k_putF (X := RX9) (T := TX9) (N := 28) (ty := .array .int) (v := .ref n33) C hX (hM.at 0 rfl) rfl hin_X9_init_RX9 tyX9_ok nmX9 14 (by decide) lk_X9_init_f49 (fun _ h9 => h9) rfl hnm rfl rfl (by decide +kernel) rfl rfl (Nat.le_of_ble_eq_true rfl) dX9_init_103 (fun H locs hX => ?_)
  obtain ⟨g35, hX, hM, hO⟩ := kX.wrK hX hM hO 0 rfl (Or.inl rfl)
  have hM : kCs g35 ([(h, .inr (9, [.int (nI 4), .int (nI 4), .ref n3, .int 0, .ref n6, .ref n9, .ref n12, .int 0, .ref n15, .ref n18, .ref n21, .ref n24, .ref n27, .ref n30, .ref n33, .null, .long 0, .long 0, .int 0, .null, .null, .null, .int 0, .int 0, .null, .null, .null, .int 0])), (n3, kaI G 84 (fun _ => 0)), (n6, kaI G 16 (fun _ => 0)), (n9, kaI G 16 (fun _ => 0)), (n12, kaI G 16 (fun _ => 0)), (n15, kaJ G 32 (fun _ => 0)), (n18, kaJ G 4 (fun _ => 0)), (n21, kaJ G 1024 (fun _ => 0)), (n24, kaI G 256 (fun _ => 0)), (n27, kaI G 256 (fun _ => 0)), (n30, kaZ G 4096 (fun _ => 0)), (n33, kaI G 4096 (fun _ => 0))]) := hM
  refine lv_aload_n C.x C.b dX9_init_106 rfl (lv_at hl 0 rfl) ?_
  refine lv_sipush (v := nI 128) C.x C.b dX9_init_107 (by decide) ?_
  refine k_newaJ (atype := .long) (R9 := 128) C hX (C.ts _ lk_X9_init_aclong) rfl (by decide) (by decide) (by decide) (by decide) (by decide) dX9_init_110 (fun n36 H hn hX => ?_)
  obtain ⟨g37, hX, hM, hO, fr_n36⟩ := kX.nw hX hM hO hn (hM.at 0 rfl)
  have hM : kCs g37 ([(h, .inr (9, [.int (nI 4), .int (nI 4), .ref n3, .int 0, .ref n6, .ref n9, .ref n12, .int 0, .ref n15, .ref n18, .ref n21, .ref n24, .ref n27, .ref n30, .ref n33, .null, .long 0, .long 0, .int 0, .null, .null, .null, .int 0, .int 0, .null, .null, .null, .int 0])), (n3, kaI G 84 (fun _ => 0)), (n6, kaI G 16 (fun _ => 0)), (n9, kaI G 16 (fun _ => 0)), (n12, kaI G 16 (fun _ => 0)), (n15, kaJ G 32 (fun _ => 0)), (n18, kaJ G 4 (fun _ => 0)), (n21, kaJ G 1024 (fun _ => 0)), (n24, kaI G 256 (fun _ => 0)), (n27, kaI G 256 (fun _ => 0)), (n30, kaZ G 4096 (fun _ => 0)), (n33, kaI G 4096 (fun _ => 0)), (n36, kaJ G 128 (fun _ => 0))]) := hM
  refine k_putF (X := RX9) (T := TX9) (N := 28) (ty := .array .long) (v := .ref n36) C hX (hM.at 0 rfl) rfl hin_X9_init_RX9 tyX9_ok nmX9 15 (by decide) lk_X9_init_f52 (fun _ h9 => h9) rfl hnm rfl rfl (by decide +kernel) rfl rfl (Nat.le_of_ble_eq_true rfl) dX9_init_112 (fun H locs hX => ?_)
  obtain ⟨g38, hX, hM, hO⟩ := kX.wrK hX hM hO 0 rfl (Or.inl rfl)
  have hM : kCs g38 ([(h, .inr (9, [.int (nI 4), .int (nI 4), .ref n3, .int 0, .ref n6, .ref n9, .ref n12, .int 0, .ref n15, .ref n18, .ref n21, .ref n24, .ref n27, .ref n30, .ref n33, .ref n36, .long 0, .long 0, .int 0, .null, .null, .null, .int 0, .int 0, .null, .null, .null, .int 0])), (n3, kaI G 84 (fun _ => 0)), (n6, kaI G 16 (fun _ => 0)), (n9, kaI G 16 (fun _ => 0)), (n12, kaI G 16 (fun _ => 0)), (n15, kaJ G 32 (fun _ => 0)), (n18, kaJ G 4 (fun _ => 0)), (n21, kaJ G 1024 (fun _ => 0)), (n24, kaI G 256 (fun _ => 0)), (n27, kaI G 256 (fun _ => 0)), (n30, kaZ G 4096 (fun _ => 0)), (n33, kaI G 4096 (fun _ => 0)), (n36, kaJ G 128 (fun _ => 0))]) := hM
  refine lv_aload_n C.x C.b dX9_init_115 rfl (lv_at hl 0 rfl) ?_
  refine lv_bipush (v := nI 16) C.x C.b dX9_init_116 (by decide) ?_
  refine k_newaJ (atype := .long) (R9 := 16) C hX (C.ts _ lk_X9_init_aclong) rfl (by decide) (by decide) (by decide) (by decide) (by decide) dX9_init_118 (fun n39 H hn hX => ?_)
  obtain ⟨g40, hX, hM, hO, fr_n39⟩ := kX.nw hX hM hO hn (hM.at 0 rfl)
  have hM : kCs g40 ([(h, .inr (9, [.int (nI 4), .int (nI 4), .ref n3, .int 0, .ref n6, .ref n9, .ref n12, .int 0, .ref n15, .ref n18, .ref n21, .ref n24, .ref n27, .ref n30, .ref n33, .ref n36, .long 0, .long 0, .int 0, .null, .null, .null, .int 0, .int 0, .null, .null, .null, .int 0])), (n3, kaI G 84 (fun _ => 0)), (n6, kaI G 16 (fun _ => 0)), (n9, kaI G 16 (fun _ => 0)), (n12, kaI G 16 (fun _ => 0)), (n15, kaJ G 32 (fun _ => 0)), (n18, kaJ G 4 (fun _ => 0)), (n21, kaJ G 1024 (fun _ => 0)), (n24, kaI G 256 (fun _ => 0)), (n27, kaI G 256 (fun _ => 0)), (n30, kaZ G 4096 (fun _ => 0)), (n33, kaI G 4096 (fun _ => 0)), (n36, kaJ G 128 (fun _ => 0)), (n39, kaJ G 16 (fun _ => 0))]) := hM
  refine k_putF (X := RX9) (T := TX9) (N := 28) (ty := .array .long) (v := .ref n39) C hX (hM.at 0 rfl) rfl hin_X9_init_RX9 tyX9_ok nmX9 19 (by decide) lk_X9_init_f55 (fun _ h9 => h9) rfl hnm rfl rfl (by decide +kernel) rfl rfl (Nat.le_of_ble_eq_true rfl) dX9_init_120 (fun H locs hX => ?_)
  obtain ⟨g41, hX, hM, hO⟩ := kX.wrK hX hM hO 0 rfl (Or.inl rfl)
  have hM : kCs g41 ([(h, .inr (9, [.int (nI 4), .int (nI 4), .ref n3, .int 0, .ref n6, .ref n9, .ref n12, .int 0, .ref n15, .ref n18, .ref n21, .ref n24, .ref n27, .ref n30, .ref n33, .ref n36, .long 0, .long 0, .int 0, .ref n39, .null, .null, .int 0, .int 0, .null, .null, .null, .int 0])), (n3, kaI G 84 (fun _ => 0)), (n6, kaI G 16 (fun _ => 0)), (n9, kaI G 16 (fun _ => 0)), (n12, kaI G 16 (fun _ => 0)), (n15, kaJ G 32 (fun _ => 0)), (n18, kaJ G 4 (fun _ => 0)), (n21, kaJ G 1024 (fun _ => 0)), (n24, kaI G 256 (fun _ => 0)), (n27, kaI G 256 (fun _ => 0)), (n30, kaZ G 4096 (fun _ => 0)), (n33, kaI G 4096 (fun _ => 0)), (n36, kaJ G 128 (fun _ => 0)), (n39, kaJ G 16 (fun _ => 0))]) := hM
  refine lv_aload_n C.x C.b dX9_init_123 rfl (lv_at hl 0 rfl) ?_
  refine lv_iconst (v := nI 4) C.x C.b dX9_init_124 (by decide) ?_
  refine k_newaJ (atype := .long) (R9 := 4) C hX (C.ts _ lk_X9_init_aclong) rfl (by decide) (by decide) (by decide) (by decide) (by decide) dX9_init_125 (fun n42 H hn hX => ?_)
  obtain ⟨g43, hX, hM, hO, fr_n42⟩ := kX.nw hX hM hO hn (hM.at 0 rfl)
  have hM : kCs g43 ([(h, .inr (9, [.int (nI 4), .int (nI 4), .ref n3, .int 0, .ref n6, .ref n9, .ref n12, .int 0, .ref n15, .ref n18, .ref n21, .ref n24, .ref n27, .ref n30, .ref n33, .ref n36, .long 0, .long 0, .int 0, .ref n39, .null, .null, .int 0, .int 0, .null, .null, .null, .int 0])), (n3, kaI G 84 (fun _ => 0)), (n6, kaI G 16 (fun _ => 0)), (n9, kaI G 16 (fun _ => 0)), (n12, kaI G 16 (fun _ => 0)), (n15, kaJ G 32 (fun _ => 0)), (n18, kaJ G 4 (fun _ => 0)), (n21, kaJ G 1024 (fun _ => 0)), (n24, kaI G 256 (fun _ => 0)), (n27, kaI G 256 (fun _ => 0)), (n30, kaZ G 4096 (fun _ => 0)), (n33, kaI G 4096 (fun _ => 0)), (n36, kaJ G 128 (fun _ => 0)), (n39, kaJ G 16 (fun _ => 0)), (n42, kaJ G 4 (fun _ => 0))]) := hM
  refine k_putF (X := RX9) (T := TX9) (N := 28) (ty := .array .long) (v := .ref n42) C hX (hM.at 0 rfl) rfl hin_X9_init_RX9 tyX9_ok nmX9 20 (by decide) lk_X9_init_f58 (fun _ h9 => h9) rfl hnm rfl rfl (by decide +kernel) rfl rfl (Nat.le_of_ble_eq_true rfl) dX9_init_127 (fun H locs hX => ?_)
  obtain ⟨g44, hX, hM, hO⟩ := kX.wrK hX hM hO 0 rfl (Or.inl rfl)
  have hM : kCs g44 ([(h, .inr (9, [.int (nI 4), .int (nI 4), .ref n3, .int 0, .ref n6, .ref n9, .ref n12, .int 0, .ref n15, .ref n18, .ref n21, .ref n24, .ref n27, .ref n30, .ref n33, .ref n36, .long 0, .long 0, .int 0, .ref n39, .ref n42, .null, .int 0, .int 0, .null, .null, .null, .int 0])), (n3, kaI G 84 (fun _ => 0)), (n6, kaI G 16 (fun _ => 0)), (n9, kaI G 16 (fun _ => 0)), (n12, kaI G 16 (fun _ => 0)), (n15, kaJ G 32 (fun _ => 0)), (n18, kaJ G 4 (fun _ => 0)), (n21, kaJ G 1024 (fun _ => 0)), (n24, kaI G 256 (fun _ => 0)), (n27, kaI G 256 (fun _ => 0)), (n30, kaZ G 4096 (fun _ => 0)), (n33, kaI G 4096 (fun _ => 0)), (n36, kaJ G 128 (fun _ => 0)), (n39, kaJ G 16 (fun _ => 0)), (n42, kaJ G 4 (fun _ => 0))]) := hM
  refine lv_aload_n C.x C.b dX9_init_130 rfl (lv_at hl 0 rfl) ?_
  refine lv_iconst (v := nI 4) C.x C.b dX9_init_131 (by decide) ?_
  refine k_newaJ (atype := .long) (R9 := 4) C hX (C.ts _ lk_X9_init_aclong) rfl (by decide) (by decide) (by decide) (by decide) (by decide) dX9_init_132 (fun n45 H hn hX => ?_)
  obtain ⟨g46, hX, hM, hO, fr_n45⟩ := kX.nw hX hM hO hn (hM.at 0 rfl)
  have hM : kCs g46 ([(h, .inr (9, [.int (nI 4), .int (nI 4), .ref n3, .int 0, .ref n6, .ref n9, .ref n12, .int 0, .ref n15, .ref n18, .ref n21, .ref n24, .ref n27, .ref n30, .ref n33, .ref n36, .long 0, .long 0, .int 0, .ref n39, .ref n42, .null, .int 0, .int 0, .null, .null, .null, .int 0])), (n3, kaI G 84 (fun _ => 0)), (n6, kaI G 16 (fun _ => 0)), (n9, kaI G 16 (fun _ => 0)), (n12, kaI G 16 (fun _ => 0)), (n15, kaJ G 32 (fun _ => 0)), (n18, kaJ G 4 (fun _ => 0)), (n21, kaJ G 1024 (fun _ => 0)), (n24, kaI G 256 (fun _ => 0)), (n27, kaI G 256 (fun _ => 0)), (n30, kaZ G 4096 (fun _ => 0)), (n33, kaI G 4096 (fun _ => 0)), (n36, kaJ G 128 (fun _ => 0)), (n39, kaJ G 16 (fun _ => 0)), (n42, kaJ G 4 (fun _ => 0)), (n45, kaJ G 4 (fun _ => 0))]) := hM
  refine k_putF (X := RX9) (T := TX9) (N := 28) (ty := .array .long) (v := .ref n45) C hX (hM.at 0 rfl) rfl hin_X9_init_RX9 tyX9_ok nmX9 21 (by decide) lk_X9_init_f61 (fun _ h9 => h9) rfl hnm rfl rfl (by decide +kernel) rfl rfl (Nat.le_of_ble_eq_true rfl) dX9_init_134 (fun H locs hX => ?_)
  obtain ⟨g47, hX, hM, hO⟩ := kX.wrK hX hM hO 0 rfl (Or.inl rfl)
  have hM : kCs g47 ([(h, .inr (9, [.int (nI 4), .int (nI 4), .ref n3, .int 0, .ref n6, .ref n9, .ref n12, .int 0, .ref n15, .ref n18, .ref n21, .ref n24, .ref n27, .ref n30, .ref n33, .ref n36, .long 0, .long 0, .int 0, .ref n39, .ref n42, .ref n45, .int 0, .int 0, .null, .null, .null, .int 0])), (n3, kaI G 84 (fun _ => 0)), (n6, kaI G 16 (fun _ => 0)), (n9, kaI G 16 (fun _ => 0)), (n12, kaI G 16 (fun _ => 0)), (n15, kaJ G 32 (fun _ => 0)), (n18, kaJ G 4 (fun _ => 0)), (n21, kaJ G 1024 (fun _ => 0)), (n24, kaI G 256 (fun _ => 0)), (n27, kaI G 256 (fun _ => 0)), (n30, kaZ G 4096 (fun _ => 0)), (n33, kaI G 4096 (fun _ => 0)), (n36, kaJ G 128 (fun _ => 0)), (n39, kaJ G 16 (fun _ => 0)), (n42, kaJ G 4 (fun _ => 0)), (n45, kaJ G 4 (fun _ => 0))]) := hM
  refine lv_aload_n C.x C.b dX9_init_137 rfl (lv_at hl 0 rfl) ?_
  refine lv_iconst (v := nI 2) C.x C.b dX9_init_138 (by decide) ?_
  refine k_put (X := RX9) (T := TX9) (N := 28) (ty := .int) (v := .int (nI 2)) C hX (hM.at 0 rfl) rfl hin_X9_init_RX9 tyX9_ok nmX9 22 (by decide) lk_X9_init_f64 (fun _ h9 => h9) rfl (by decide +kernel) rfl rfl (Nat.le_of_ble_eq_true rfl) dX9_init_139 (fun H locs hX => ?_)
  obtain ⟨g48, hX, hM, hO⟩ := kX.wrK hX hM hO 0 rfl (Or.inl rfl)
  have hM : kCs g48 ([(h, .inr (9, [.int (nI 4), .int (nI 4), .ref n3, .int 0, .ref n6, .ref n9, .ref n12, .int 0, .ref n15, .ref n18, .ref n21, .ref n24, .ref n27, .ref n30, .ref n33, .ref n36, .long 0, .long 0, .int 0, .ref n39, .ref n42, .ref n45, .int (nI 2), .int 0, .null, .null, .null, .int 0])), (n3, kaI G 84 (fun _ => 0)), (n6, kaI G 16 (fun _ => 0)), (n9, kaI G 16 (fun _ => 0)), (n12, kaI G 16 (fun _ => 0)), (n15, kaJ G 32 (fun _ => 0)), (n18, kaJ G 4 (fun _ => 0)), (n21, kaJ G 1024 (fun _ => 0)), (n24, kaI G 256 (fun _ => 0)), (n27, kaI G 256 (fun _ => 0)), (n30, kaZ G 4096 (fun _ => 0)), (n33, kaI G 4096 (fun _ => 0)), (n36, kaJ G 128 (fun _ => 0)), (n39, kaJ G 16 (fun _ => 0)), (n42, kaJ G 4 (fun _ => 0)), (n45, kaJ G 4 (fun _ => 0))]) := hM
  refine lv_aload_n C.x C.b dX9_init_142 rfl (lv_at hl 0 rfl) ?_
  refine lv_bipush (v := nI 10) C.x C.b dX9_init_143 (by decide) ?_
  refine k_newaI (atype := .int) (R9 := 10) C hX (C.ts _ lk_X9_init_acint) rfl (by decide) (by decide) (by decide) (by decide) (by decide) dX9_init_145 (fun n49 H hn hX => ?_)
  obtain ⟨g50, hX, hM, hO, fr_n49⟩ := kX.nw hX hM hO hn (hM.at 0 rfl)
  have hM : kCs g50 ([(h, .inr (9, [.int (nI 4), .int (nI 4), .ref n3, .int 0, .ref n6, .ref n9, .ref n12, .int 0, .ref n15, .ref n18, .ref n21, .ref n24, .ref n27, .ref n30, .ref n33, .ref n36, .long 0, .long 0, .int 0, .ref n39, .ref n42, .ref n45, .int (nI 2), .int 0, .null, .null, .null, .int 0])), (n3, kaI G 84 (fun _ => 0)), (n6, kaI G 16 (fun _ => 0)), (n9, kaI G 16 (fun _ => 0)), (n12, kaI G 16 (fun _ => 0)), (n15, kaJ G 32 (fun _ => 0)), (n18, kaJ G 4 (fun _ => 0)), (n21, kaJ G 1024 (fun _ => 0)), (n24, kaI G 256 (fun _ => 0)), (n27, kaI G 256 (fun _ => 0)), (n30, kaZ G 4096 (fun _ => 0)), (n33, kaI G 4096 (fun _ => 0)), (n36, kaJ G 128 (fun _ => 0)), (n39, kaJ G 16 (fun _ => 0)), (n42, kaJ G 4 (fun _ => 0)), (n45, kaJ G 4 (fun _ => 0)), (n49, kaI G 10 (fun _ => 0))]) := hM
  refine k_putF (X := RX9) (T := TX9) (N := 28) (ty := .array .int) (v := .ref n49) C hX (hM.at 0 rfl) rfl hin_X9_init_RX9 tyX9_ok nmX9 24 (by decide) lk_X9_init_f67 (fun _ h9 => h9) rfl hnm rfl rfl (by decide +kernel) rfl rfl (Nat.le_of_ble_eq_true rfl) dX9_init_147 (fun H locs hX => ?_)
  obtain ⟨g51, hX, hM, hO⟩ := kX.wrK hX hM hO 0 rfl (Or.inl rfl)
  have hM : kCs g51 ([(h, .inr (9, [.int (nI 4), .int (nI 4), .ref n3, .int 0, .ref n6, .ref n9, .ref n12, .int 0, .ref n15, .ref n18, .ref n21, .ref n24, .ref n27, .ref n30, .ref n33, .ref n36, .long 0, .long 0, .int 0, .ref n39, .ref n42, .ref n45, .int (nI 2), .int 0, .ref n49, .null, .null, .int 0])), (n3, kaI G 84 (fun _ => 0)), (n6, kaI G 16 (fun _ => 0)), (n9, kaI G 16 (fun _ => 0)), (n12, kaI G 16 (fun _ => 0)), (n15, kaJ G 32 (fun _ => 0)), (n18, kaJ G 4 (fun _ => 0)), (n21, kaJ G 1024 (fun _ => 0)), (n24, kaI G 256 (fun _ => 0)), (n27, kaI G 256 (fun _ => 0)), (n30, kaZ G 4096 (fun _ => 0)), (n33, kaI G 4096 (fun _ => 0)), (n36, kaJ G 128 (fun _ => 0)), (n39, kaJ G 16 (fun _ => 0)), (n42, kaJ G 4 (fun _ => 0)), (n45, kaJ G 4 (fun _ => 0)), (n49, kaI G 10 (fun _ => 0))]) := hM
  refine lv_aload_n C.x C.b dX9_init_150 rfl (lv_at hl 0 rfl) ?_
  refine lv_bipush (v := nI 10) C.x C.b dX9_init_151 (by decide) ?_
  refine k_newaI (atype := .int) (R9 := 10) C hX (C.ts _ lk_X9_init_acint) rfl (by decide) (by decide) (by decide) (by decide) (by decide) dX9_init_153 (fun n52 H hn hX => ?_)
  obtain ⟨g53, hX, hM, hO, fr_n52⟩ := kX.nw hX hM hO hn (hM.at 0 rfl)
  have hM : kCs g53 ([(h, .inr (9, [.int (nI 4), .int (nI 4), .ref n3, .int 0, .ref n6, .ref n9, .ref n12, .int 0, .ref n15, .ref n18, .ref n21, .ref n24, .ref n27, .ref n30, .ref n33, .ref n36, .long 0, .long 0, .int 0, .ref n39, .ref n42, .ref n45, .int (nI 2), .int 0, .ref n49, .null, .null, .int 0])), (n3, kaI G 84 (fun _ => 0)), (n6, kaI G 16 (fun _ => 0)), (n9, kaI G 16 (fun _ => 0)), (n12, kaI G 16 (fun _ => 0)), (n15, kaJ G 32 (fun _ => 0)), (n18, kaJ G 4 (fun _ => 0)), (n21, kaJ G 1024 (fun _ => 0)), (n24, kaI G 256 (fun _ => 0)), (n27, kaI G 256 (fun _ => 0)), (n30, kaZ G 4096 (fun _ => 0)), (n33, kaI G 4096 (fun _ => 0)), (n36, kaJ G 128 (fun _ => 0)), (n39, kaJ G 16 (fun _ => 0)), (n42, kaJ G 4 (fun _ => 0)), (n45, kaJ G 4 (fun _ => 0)), (n49, kaI G 10 (fun _ => 0)), (n52, kaI G 10 (fun _ => 0))]) := hM
  refine k_putF (X := RX9) (T := TX9) (N := 28) (ty := .array .int) (v := .ref n52) C hX (hM.at 0 rfl) rfl hin_X9_init_RX9 tyX9_ok nmX9 25 (by decide) lk_X9_init_f70 (fun _ h9 => h9) rfl hnm rfl rfl (by decide +kernel) rfl rfl (Nat.le_of_ble_eq_true rfl) dX9_init_155 (fun H locs hX => ?_)
  obtain ⟨g54, hX, hM, hO⟩ := kX.wrK hX hM hO 0 rfl (Or.inl rfl)
  have hM : kCs g54 ([(h, .inr (9, [.int (nI 4), .int (nI 4), .ref n3, .int 0, .ref n6, .ref n9, .ref n12, .int 0, .ref n15, .ref n18, .ref n21, .ref n24, .ref n27, .ref n30, .ref n33, .ref n36, .long 0, .long 0, .int 0, .ref n39, .ref n42, .ref n45, .int (nI 2), .int 0, .ref n49, .ref n52, .null, .int 0])), (n3, kaI G 84 (fun _ => 0)), (n6, kaI G 16 (fun _ => 0)), (n9, kaI G 16 (fun _ => 0)), (n12, kaI G 16 (fun _ => 0)), (n15, kaJ G 32 (fun _ => 0)), (n18, kaJ G 4 (fun _ => 0)), (n21, kaJ G 1024 (fun _ => 0)), (n24, kaI G 256 (fun _ => 0)), (n27, kaI G 256 (fun _ => 0)), (n30, kaZ G 4096 (fun _ => 0)), (n33, kaI G 4096 (fun _ => 0)), (n36, kaJ G 128 (fun _ => 0)), (n39, kaJ G 16 (fun _ => 0)), (n42, kaJ G 4 (fun _ => 0)), (n45, kaJ G 4 (fun _ => 0)), (n49, kaI G 10 (fun _ => 0)), (n52, kaI G 10 (fun _ => 0))]) := hM
  refine lv_aload_n C.x C.b dX9_init_158 rfl (lv_at hl 0 rfl) ?_
  refine lv_bipush (v := nI 6) C.x C.b dX9_init_159 (by decide) ?_
  refine k_newaI (atype := .int) (R9 := 6) C hX (C.ts _ lk_X9_init_acint) rfl (by decide) (by decide) (by decide) (by decide) (by decide) dX9_init_161 (fun n55 H hn hX => ?_)
  obtain ⟨g56, hX, hM, hO, fr_n55⟩ := kX.nw hX hM hO hn (hM.at 0 rfl)
  have hM : kCs g56 ([(h, .inr (9, [.int (nI 4), .int (nI 4), .ref n3, .int 0, .ref n6, .ref n9, .ref n12, .int 0, .ref n15, .ref n18, .ref n21, .ref n24, .ref n27, .ref n30, .ref n33, .ref n36, .long 0, .long 0, .int 0, .ref n39, .ref n42, .ref n45, .int (nI 2), .int 0, .ref n49, .ref n52, .null, .int 0])), (n3, kaI G 84 (fun _ => 0)), (n6, kaI G 16 (fun _ => 0)), (n9, kaI G 16 (fun _ => 0)), (n12, kaI G 16 (fun _ => 0)), (n15, kaJ G 32 (fun _ => 0)), (n18, kaJ G 4 (fun _ => 0)), (n21, kaJ G 1024 (fun _ => 0)), (n24, kaI G 256 (fun _ => 0)), (n27, kaI G 256 (fun _ => 0)), (n30, kaZ G 4096 (fun _ => 0)), (n33, kaI G 4096 (fun _ => 0)), (n36, kaJ G 128 (fun _ => 0)), (n39, kaJ G 16 (fun _ => 0)), (n42, kaJ G 4 (fun _ => 0)), (n45, kaJ G 4 (fun _ => 0)), (n49, kaI G 10 (fun _ => 0)), (n52, kaI G 10 (fun _ => 0)), (n55, kaI G 6 (fun _ => 0))]) := hM
  refine k_putF (X := RX9) (T := TX9) (N := 28) (ty := .array .int) (v := .ref n55) C hX (hM.at 0 rfl) rfl hin_X9_init_RX9 tyX9_ok nmX9 26 (by decide) lk_X9_init_f73 (fun _ h9 => h9) rfl hnm rfl rfl (by decide +kernel) rfl rfl (Nat.le_of_ble_eq_true rfl) dX9_init_163 (fun H locs hX => ?_)
  obtain ⟨g57, hX, hM, hO⟩ := kX.wrK hX hM hO 0 rfl (Or.inl rfl)
  have hM : kCs g57 ([(h, .inr (9, [.int (nI 4), .int (nI 4), .ref n3, .int 0, .ref n6, .ref n9, .ref n12, .int 0, .ref n15, .ref n18, .ref n21, .ref n24, .ref n27, .ref n30, .ref n33, .ref n36, .long 0, .long 0, .int 0, .ref n39, .ref n42, .ref n45, .int (nI 2), .int 0, .ref n49, .ref n52, .ref n55, .int 0])), (n3, kaI G 84 (fun _ => 0)), (n6, kaI G 16 (fun _ => 0)), (n9, kaI G 16 (fun _ => 0)), (n12, kaI G 16 (fun _ => 0)), (n15, kaJ G 32 (fun _ => 0)), (n18, kaJ G 4 (fun _ => 0)), (n21, kaJ G 1024 (fun _ => 0)), (n24, kaI G 256 (fun _ => 0)), (n27, kaI G 256 (fun _ => 0)), (n30, kaZ G 4096 (fun _ => 0)), (n33, kaI G 4096 (fun _ => 0)), (n36, kaJ G 128 (fun _ => 0)), (n39, kaJ G 16 (fun _ => 0)), (n42, kaJ G 4 (fun _ => 0)), (n45, kaJ G 4 (fun _ => 0)), (n49, kaI G 10 (fun _ => 0)), (n52, kaI G 10 (fun _ => 0)), (n55, kaI G 6 (fun _ => 0))]) := hM
  obtain ⟨q, hq⟩ : ∃ q : Nat → Nat, q = fun k => if k = 2 then n3 else if k = 4 then n6 else if k = 5 then n9 else if k = 6 then n12 else if k = 8 then n15 else if k = 9 then n18 else if k = 10 then n21 else if k = 11 then n24 else if k = 12 then n27 else if k = 13 then n30 else if k = 14 then n33 else if k = 15 then n36 else if k = 19 then n39 else if k = 20 then n42 else if k = 21 then n45 else if k = 24 then n49 else if k = 25 then n52 else if k = 26 then n55 else 0 := ⟨_, rfl⟩
  have hfr : ∀ a ∈ mAs h q, a = h ∨ f a = none := by
    subst hq
    intro a ha
    simp only [mAs, List.mem_cons, List.not_mem_nil, or_false] at ha
    rcases ha with rfl | rfl | rfl | rfl | rfl | rfl | rfl | rfl | rfl | rfl | rfl | rfl | rfl | rfl | rfl | rfl | rfl | rfl | rfl
    · exact Or.inl rfl
    · exact Or.inr fr_n3
    · exact Or.inr fr_n6
    · exact Or.inr fr_n9
    · exact Or.inr fr_n12
    · exact Or.inr fr_n15
    · exact Or.inr fr_n18
    · exact Or.inr fr_n21
    · exact Or.inr fr_n24
    · exact Or.inr fr_n27
    · exact Or.inr fr_n30
    · exact Or.inr fr_n33
    · exact Or.inr fr_n36
    · exact Or.inr fr_n39
    · exact Or.inr fr_n42
    · exact Or.inr fr_n45
    · exact Or.inr fr_n49
    · exact Or.inr fr_n52
    · exact Or.inr fr_n55
  have hM : kCs g57 (mC G h q (nI 4) (nI 4) 0 0 0 (nI 2) 0 0 0 0 (fun _ => 0) (fun _ => 0) (fun _ => 0) (fun _ => 0) (fun _ => 0) (fun _ => 0) (fun _ => 0) (fun _ => 0) (fun _ => 0) (fun _ => 0) (fun _ => 0) (fun _ => 0) (fun _ => 0) (fun _ => 0) (fun _ => 0) (fun _ => 0) (fun _ => 0) (fun _ => 0)) := by subst hq; exact hM
  have hK := hO
  have hO : kOff (mAs h q) g57 g57 := kOff.rf
  refine lv_aload_n C.x C.b dX9_init_166 rfl (lv_at hl 0 rfl) ?_
  refine lv_iconst (v := nI 0) C.x C.b dX9_init_167 (by decide) ?_
  refine lv_iconst (v := nI 0) C.x C.b dX9_init_168 (by decide) ?_
  refine lv_iconst (v := nI 1) C.x C.b dX9_init_169 (by decide) ?_
  refine lv_iconst (v := nI 2) C.x C.b dX9_init_170 (by decide) ?_
  refine k_callv (va_runV (As := [.int (nI 0), .int (nI 0), .int (nI 1), .int (nI 2)]) (rest := []) C.1 (kX9_puts l G B0 g57 h q (nI 4) (nI 4) 0 0 0 (nI 2) 0 0 0 0 (fun _ => 0) (fun _ => 0) (fun _ => 0) (fun _ => 0) (fun _ => 0) (fun _ => 0) (fun _ => 0) (fun _ => 0) (fun _ => 0) (fun _ => 0) (fun _ => 0) (fun _ => 0) (fun _ => 0) (fun _ => 0) (fun _ => 0) (fun _ => 0) (fun _ => 0) (fun _ => 0) 0 (nI 0) (nI 1) (nI 2) hM (by omega)) (cwV 4 C.ts gX9_init_X9_puts rfl rfl rfl ⟨rfl, hdX9_init_X9_puts⟩ ⟨Nat.le_of_ble_eq_true rfl, Nat.le_of_ble_eq_true rfl⟩) (k_preV C hX (hM.at 0 rfl) rfl) rfl rfl hl.1 rfl (lv_room (Nat.le_of_ble_eq_true rfl)) dX9_init_171 ⟨Nat.le_of_ble_eq_true rfl, Nat.le_of_ble_eq_true rfl⟩) hX (fun f171 H locs hp171 hX => ?_)
  obtain ⟨hM, hO171⟩ := hp171
  have hO := hO.trans hO171
  have hM : kCs f171 (mC G h q (nI 4) (nI 4) 0 0 0 (nI 2) 0 0 0 0 (mPut (fun _ => 0) 0 (nI 0) (nI 1) (nI 2)) (fun _ => 0) (fun _ => 0) (fun _ => 0) (fun _ => 0) (fun _ => 0) (fun _ => 0) (fun _ => 0) (fun _ => 0) (fun _ => 0) (fun _ => 0) (fun _ => 0) (fun _ => 0) (fun _ => 0) (fun _ => 0) (fun _ => 0) (fun _ => 0) (fun _ => 0)) := hM
  refine lv_aload_n C.x C.b dX9_init_174 rfl (lv_at hl 0 rfl) ?_
  refine lv_iconst (v := nI 1) C.x C.b dX9_init_175 (by decide) ?_
  refine lv_iconst (v := nI 0) C.x C.b dX9_init_176 (by decide) ?_
  refine lv_iconst (v := nI 3) C.x C.b dX9_init_177 (by decide) ?_
  refine lv_iconst (v := nI 1) C.x C.b dX9_init_178 (by decide) ?_
  refine k_callv (va_runV (As := [.int (nI 1), .int (nI 0), .int (nI 3), .int (nI 1)]) (rest := []) C.1 (kX9_puts l G B0 f171 h q (nI 4) (nI 4) 0 0 0 (nI 2) 0 0 0 0 (mPut (fun _ => 0) 0 (nI 0) (nI 1) (nI 2)) (fun _ => 0) (fun _ => 0) (fun _ => 0) (fun _ => 0) (fun _ => 0) (fun _ => 0) (fun _ => 0) (fun _ => 0) (fun _ => 0) (fun _ => 0) (fun _ => 0) (fun _ => 0) (fun _ => 0) (fun _ => 0) (fun _ => 0) (fun _ => 0) (fun _ => 0) 1 (nI 0) (nI 3) (nI 1) hM (by omega)) (cwV 4 C.ts gX9_init_X9_puts rfl rfl rfl ⟨rfl, hdX9_init_X9_puts⟩ ⟨Nat.le_of_ble_eq_true rfl, Nat.le_of_ble_eq_true rfl⟩) (k_preV C hX (hM.at 0 rfl) rfl) rfl rfl hl.1 rfl (lv_room (Nat.le_of_ble_eq_true rfl)) dX9_init_179 ⟨Nat.le_of_ble_eq_true rfl, Nat.le_of_ble_eq_true rfl⟩) hX (fun f179 H locs hp179 hX => ?_)
  obtain ⟨hM, hO179⟩ := hp179
  have hO := hO.trans hO179
  have hM : kCs f179 (mC G h q (nI 4) (nI 4) 0 0 0 (nI 2) 0 0 0 0 (mPut (mPut (fun _ => 0) 0 (nI 0) (nI 1) (nI 2)) 1 (nI 0) (nI 3) (nI 1)) (fun _ => 0) (fun _ => 0) (fun _ => 0) (fun _ => 0) (fun _ => 0) (fun _ => 0) (fun _ => 0) (fun _ => 0) (fun _ => 0) (fun _ => 0) (fun _ => 0) (fun _ => 0) (fun _ => 0) (fun _ => 0) (fun _ => 0) (fun _ => 0) (fun _ => 0)) := hM
  refine lv_aload_n C.x C.b dX9_init_182 rfl (lv_at hl 0 rfl) ?_
  refine lv_iconst (v := nI 2) C.x C.b dX9_init_183 (by decide) ?_
  refine lv_iconst (v := nI 1) C.x C.b dX9_init_184 (by decide) ?_
  refine lv_iconst (v := nI 3) C.x C.b dX9_init_185 (by decide) ?_
  refine lv_iconst (v := nI 2) C.x C.b dX9_init_186 (by decide) ?_
  refine k_callv (va_runV (As := [.int (nI 2), .int (nI 1), .int (nI 3), .int (nI 2)]) (rest := []) C.1 (kX9_puts l G B0 f179 h q (nI 4) (nI 4) 0 0 0 (nI 2) 0 0 0 0 (mPut (mPut (fun _ => 0) 0 (nI 0) (nI 1) (nI 2)) 1 (nI 0) (nI 3) (nI 1)) (fun _ => 0) (fun _ => 0) (fun _ => 0) (fun _ => 0) (fun _ => 0) (fun _ => 0) (fun _ => 0) (fun _ => 0) (fun _ => 0) (fun _ => 0) (fun _ => 0) (fun _ => 0) (fun _ => 0) (fun _ => 0) (fun _ => 0) (fun _ => 0) (fun _ => 0) 2 (nI 1) (nI 3) (nI 2) hM (by omega)) (cwV 4 C.ts gX9_init_X9_puts rfl rfl rfl ⟨rfl, hdX9_init_X9_puts⟩ ⟨Nat.le_of_ble_eq_true rfl, Nat.le_of_ble_eq_true rfl⟩) (k_preV C hX (hM.at 0 rfl) rfl) rfl rfl hl.1 rfl (lv_room (Nat.le_of_ble_eq_true rfl)) dX9_init_187 ⟨Nat.le_of_ble_eq_true rfl, Nat.le_of_ble_eq_true rfl⟩) hX (fun f187 H locs hp187 hX => ?_)
  obtain ⟨hM, hO187⟩ := hp187
  have hO := hO.trans hO187
  have hM : kCs f187 (mC G h q (nI 4) (nI 4) 0 0 0 (nI 2) 0 0 0 0 (mPut (mPut (mPut (fun _ => 0) 0 (nI 0) (nI 1) (nI 2)) 1 (nI 0) (nI 3) (nI 1)) 2 (nI 1) (nI 3) (nI 2)) (fun _ => 0) (fun _ => 0) (fun _ => 0) (fun _ => 0) (fun _ => 0) (fun _ => 0) (fun _ => 0) (fun _ => 0) (fun _ => 0) (fun _ => 0) (fun _ => 0) (fun _ => 0) (fun _ => 0) (fun _ => 0) (fun _ => 0) (fun _ => 0) (fun _ => 0)) := hM
  refine lv_aload_n C.x C.b dX9_init_190 rfl (lv_at hl 0 rfl) ?_
  refine lv_iconst (v := nI 3) C.x C.b dX9_init_191 (by decide) ?_
  refine lv_iconst (v := nI 0) C.x C.b dX9_init_192 (by decide) ?_
  refine lv_iconst (v := nI 2) C.x C.b dX9_init_193 (by decide) ?_
  refine lv_iconst (v := nI 3) C.x C.b dX9_init_194 (by decide) ?_
  refine k_callv (va_runV (As := [.int (nI 3), .int (nI 0), .int (nI 2), .int (nI 3)]) (rest := []) C.1 (kX9_puts l G B0 f187 h q (nI 4) (nI 4) 0 0 0 (nI 2) 0 0 0 0 (mPut (mPut (mPut (fun _ => 0) 0 (nI 0) (nI 1) (nI 2)) 1 (nI 0) (nI 3) (nI 1)) 2 (nI 1) (nI 3) (nI 2)) (fun _ => 0) (fun _ => 0) (fun _ => 0) (fun _ => 0) (fun _ => 0) (fun _ => 0) (fun _ => 0) (fun _ => 0) (fun _ => 0) (fun _ => 0) (fun _ => 0) (fun _ => 0) (fun _ => 0) (fun _ => 0) (fun _ => 0) (fun _ => 0) (fun _ => 0) 3 (nI 0) (nI 2) (nI 3) hM (by omega)) (cwV 4 C.ts gX9_init_X9_puts rfl rfl rfl ⟨rfl, hdX9_init_X9_puts⟩ ⟨Nat.le_of_ble_eq_true rfl, Nat.le_of_ble_eq_true rfl⟩) (k_preV C hX (hM.at 0 rfl) rfl) rfl rfl hl.1 rfl (lv_room (Nat.le_of_ble_eq_true rfl)) dX9_init_195 ⟨Nat.le_of_ble_eq_true rfl, Nat.le_of_ble_eq_true rfl⟩) hX (fun f195 H locs hp195 hX => ?_)
  obtain ⟨hM, hO195⟩ := hp195
  have hO := hO.trans hO195
  have hM : kCs f195 (mC G h q (nI 4) (nI 4) 0 0 0 (nI 2) 0 0 0 0 (mPut (mPut (mPut (mPut (fun _ => 0) 0 (nI 0) (nI 1) (nI 2)) 1 (nI 0) (nI 3) (nI 1)) 2 (nI 1) (nI 3) (nI 2)) 3 (nI 0) (nI 2) (nI 3)) (fun _ => 0) (fun _ => 0) (fun _ => 0) (fun _ => 0) (fun _ => 0) (fun _ => 0) (fun _ => 0) (fun _ => 0) (fun _ => 0) (fun _ => 0) (fun _ => 0) (fun _ => 0) (fun _ => 0) (fun _ => 0) (fun _ => 0) (fun _ => 0) (fun _ => 0)) := hM
  refine lv_aload_n C.x C.b dX9_init_198 rfl (lv_at hl 0 rfl) ?_
  refine k_get (X := RX9) (T := TX9) (N := 28) (v := .ref (q 20)) C hX (hM.at 0 rfl) rfl hin_X9_init_RX9 20 (by decide) lk_X9_init_f58 (fun _ h9 => h9) rfl dX9_init_199 ?_
  refine lv_iconst (v := nI 0) C.x C.b dX9_init_202 (by decide) ?_
  refine lv_lconst (v := 1) C.x C.b dX9_init_203 (by decide) ?_
  refine k_last C hX (hM.at 14 rfl) (vp_in_nI (by omega) (by omega)) dX9_init_204 (fun H locs hX => ?_)
  rw [nI_clamp (by omega)] at hX
  obtain ⟨g58, hX, hM, hO⟩ := kX.wr hX hM hO 14 rfl (List.mem_of_getElem? (i := 14) rfl)
  have hM : kCs g58 (mC G h q (nI 4) (nI 4) 0 0 0 (nI 2) 0 0 0 0 (mPut (mPut (mPut (mPut (fun _ => 0) 0 (nI 0) (nI 1) (nI 2)) 1 (nI 0) (nI 3) (nI 1)) 2 (nI 1) (nI 3) (nI 2)) 3 (nI 0) (nI 2) (nI 3)) (fun _ => 0) (fun _ => 0) (fun _ => 0) (fun _ => 0) (fun _ => 0) (fun _ => 0) (fun _ => 0) (fun _ => 0) (fun _ => 0) (fun _ => 0) (fun _ => 0) (fun _ => 0) (vp_updL (fun _ => 0) 0 1) (fun _ => 0) (fun _ => 0) (fun _ => 0) (fun _ => 0)) := hM
  refine lv_aload_n C.x C.b dX9_init_205 rfl (lv_at hl 0 rfl) ?_
  refine k_get (X := RX9) (T := TX9) (N := 28) (v := .ref (q 20)) C hX (hM.at 0 rfl) rfl hin_X9_init_RX9 20 (by decide) lk_X9_init_f58 (fun _ h9 => h9) rfl dX9_init_206 ?_
  refine lv_iconst (v := nI 3) C.x C.b dX9_init_209 (by decide) ?_
  refine lv_lconst (v := 1) C.x C.b dX9_init_210 (by decide) ?_
  refine k_last C hX (hM.at 14 rfl) (vp_in_nI (by omega) (by omega)) dX9_init_211 (fun H locs hX => ?_)
  rw [nI_clamp (by omega)] at hX
  obtain ⟨g59, hX, hM, hO⟩ := kX.wr hX hM hO 14 rfl (List.mem_of_getElem? (i := 14) rfl)
  have hM : kCs g59 (mC G h q (nI 4) (nI 4) 0 0 0 (nI 2) 0 0 0 0 (mPut (mPut (mPut (mPut (fun _ => 0) 0 (nI 0) (nI 1) (nI 2)) 1 (nI 0) (nI 3) (nI 1)) 2 (nI 1) (nI 3) (nI 2)) 3 (nI 0) (nI 2) (nI 3)) (fun _ => 0) (fun _ => 0) (fun _ => 0) (fun _ => 0) (fun _ => 0) (fun _ => 0) (fun _ => 0) (fun _ => 0) (fun _ => 0) (fun _ => 0) (fun _ => 0) (fun _ => 0) (vp_updL (vp_updL (fun _ => 0) 0 1) 3 1) (fun _ => 0) (fun _ => 0) (fun _ => 0) (fun _ => 0)) := hM
  exact k_vret C hX hr hlocks hQ (by omega) (by omega) (⟨q, hM, hK.off hO hfr, hfr⟩) dX9_init_212
