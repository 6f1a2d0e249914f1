section KR7
variable {p : Program} {l : Launch} {e : Env} {R : Room} {s : State} {m : MethodId} {args : Array Value} {below : List Frame} {meth : Method} {c : Code} {H : Heap} {locs : List Loc} {cells slots : Nat} {Q : State → Prop}
variable {cc : ByteArray} {pc : Nat} {ls : Array Slot} {rest : List Value} {G : kG} {B0 nL : Nat} {f : kH} {Ts : List Cond} {own : String} {a : Nat} {mc ms : Nat}
def k_mf (G : kG) (f : kH) (q : Nat) (r : Nat → Nat) : kH := fun a => if a = q then some (kaR G 5 (fun i9 => if i9 < 5 then some (r i9) else none)) else if a ∈ (List.range 5).map r then some (kaJ G 5 (fun _ => 0)) else f a
theorem k_mna (C : kC G B0 p m c cc nL s args Ts own) (hX : kX G B0 s f H locs) {index : Nat} (hlink : (Cond.classLink own index "[[J").before args s = true) (harr : (Cond.arrayClass .long).before args s = true) (hcells : cells + (1 + 5) ≤ R.cells) (hslots : slots + (5 + 5 * 5) ≤ R.slots) (hdg : decode cc pc = .ok (.multianewarray index 2, 4))
    (kk : ∀ (q : Nat) (r : Nat → Nat) (H1 : Heap), kX G B0 s (k_mf G f q r) H1 locs → (∀ i j : Nat, i < 5 → j < 5 → r i = r j → i = j) → (∀ i : Nat, i < 5 → r i ≠ q ∧ f (r i) = none) → f q = none → W p l e R s m args below meth c H1 locs (cells + 1 + 5) (slots + 5 + 5 * 5) Q (F0 m (pc + 4) ls (.ref q :: rest))) : W p l e R s m args below meth c H locs cells slots Q (F0 m pc ls (.int (nI 5) :: .int (nI 5) :: rest)) := by
  obtain ⟨L, hL, hP, hD⟩ := hX.P
  refine va_mna (D := G.1) (cl := vwCl) (X := []) (L := L) (f := kd f) (ty := .long) (cy := G.2.1 1) (z := (5, .inr (.inl (fun _ => 0)))) (N' := 5) (K' := 5) C.x C.b C.ow hlink C.2.1.2.2.2.2.2.2.2.2.2 harr (C.K.2 1 (G.2.1 1, .long) rfl).2 C.K hP hD hX.2 C.ge (by decide) (by decide) (by decide) (by decide) (by decide) (by decide) (by decide) rfl rfl hcells hslots (fun c9 => ?_) hdg fun q r cA H1 hr hrL hK1 hP1 hD1 hS1 => ?_
  · first | rfl | exact arrV_new _ _ _ | exact (arrV_new _ _ _).symm
  · have e1 : cA = G.2.1 4 := k_cls hK1 rfl (fun C h => nomatch h)
    subst e1
    have hq : q ∉ L ++ (List.range 5).map r := by
      intro hm
      obtain ⟨j, hj, hj1⟩ := List.getElem_of_mem hm
      have hk2 : ([] ++ [(q, kaR G 5 (fun i9 => if i9 < 5 then some (r i9) else none))] ++ va_pl (L ++ (List.range 5).map r) (vr_up (kd f) ((List.range 5).map r) (kaJ G 5 (fun _ => 0))))[j + 1]? = some (q, vr_up (kd f) ((List.range 5).map r) (kaJ G 5 (fun _ => 0)) q) := by
        show (va_pl _ _)[j]? = _
        rw [va_pl, List.getElem?_map, List.getElem?_eq_getElem hj, hj1]
        rfl
      exact absurd (hD1.1 0 (j + 1) _ _ rfl hk2 rfl) (by omega)
    have hc : ([] ++ [(q, kaR G 5 (fun i9 => if i9 < 5 then some (r i9) else none))]) ++ va_pl (L ++ (List.range 5).map r) (vr_up (kd f) ((List.range 5).map r) (kaJ G 5 (fun _ => 0))) = [] ++ va_pl (q :: (L ++ (List.range 5).map r)) (kd (k_mf G f q r)) := by
      show (q, _) :: va_pl _ _ = (q, _) :: va_pl _ _
      rw [show kd (k_mf G f q r) q = kaR G 5 (fun i9 => if i9 < 5 then some (r i9) else none) from by simp [kd, k_mf]]
      congr 1
      refine List.map_congr_left fun b hb => ?_
      have hbq : b ≠ q := fun z => hq (z ▸ hb)
      by_cases hbr : b ∈ (List.range 5).map r
      · rw [vr_up_in hbr]
        simp only [kd, k_mf, if_neg hbq, if_pos hbr, Option.getD_some]
      · rw [vr_up_ne hbr]
        simp only [kd, k_mf, if_neg hbq, if_neg hbr]
    rw [hc] at hP1 hD1
    have hn : ∀ a, a ∉ L → f a = none := fun a ha => by
      cases hf : f a with
      | none => rfl
      | some z => exact absurd ((hL a).mpr (by rw [hf]; rfl)) ha
    refine kk q r H1 ⟨⟨q :: (L ++ (List.range 5).map r), fun b => ?_, hP1, hD1⟩, hS1⟩ hr (fun i hi => ⟨fun z => hq (List.mem_append_right _ (List.mem_map.mpr ⟨i, List.mem_range.mpr hi, z⟩)), hn _ (hrL i hi)⟩) (hn q (fun z => hq (List.mem_append_left _ z)))
    by_cases hb : b = q
    · subst hb; simp [k_mf]
    · by_cases hbr : b ∈ (List.range 5).map r
      · simp only [k_mf, if_neg hb, if_pos hbr, Option.isSome_some, iff_true]
        exact List.mem_cons_of_mem _ (List.mem_append_right _ hbr)
      · simp only [k_mf, if_neg hb, if_neg hbr]
        rw [← hL b, List.mem_cons, List.mem_append]
        exact ⟨fun z => z.elim (fun y => absurd y hb) (fun y => y.elim id (fun x => absurd x hbr)), fun z => Or.inr (Or.inl z)⟩
end KR7
/-- the network that was made: its table -/
theorem k_mfX {G : kG} {f f0 : kH} {q h wL : Nat} {r : Nat → Nat} {e1 e2 : va_E} (hM : kCs f [(h, e1), (wL, e2)]) (hO : kKp [h] f0 f) (hS : ∀ a ∈ [h], (f a).isSome) (hr : ∀ i j : Nat, i < 5 → j < 5 → r i = r j → i = j) (h1 : ∀ i : Nat, i < 5 → r i ≠ q ∧ f (r i) = none) (hq : f q = none) : kCs (k_mf G f q r) [(h, e1), (wL, e2), (q, kaR G 5 (fun i9 => if i9 < 5 then some (r i9) else none)), (r 0, kaJ G 5 (fun _ => 0)), (r 1, kaJ G 5 (fun _ => 0)), (r 2, kaJ G 5 (fun _ => 0)), (r 3, kaJ G 5 (fun _ => 0)), (r 4, kaJ G 5 (fun _ => 0))] ∧ kKp [h] f0 (k_mf G f q r) ∧ (∀ a ∈ [h], (k_mf G f q r a).isSome) ∧ f0 q = none ∧ ∀ i : Nat, i < 5 → f0 (r i) = none := by
  have ho : ∀ a e, f a = some e → k_mf G f q r a = some e := fun a e ha => by
    have a1 : a ≠ q := fun z => by rw [z, hq] at ha; cases ha
    have a2 : a ∉ (List.range 5).map r := fun z => by
      obtain ⟨i, hi, hi1⟩ := List.mem_map.mp z
      rw [← hi1, (h1 i (List.mem_range.mp hi)).2] at ha; cases ha
    simp only [k_mf, if_neg a1, if_neg a2]; exact ha
  have hw : ∀ i, i < 5 → k_mf G f q r (r i) = some (kaJ G 5 (fun _ => 0)) := fun i hi => by
    simp only [k_mf, if_neg (h1 i hi).1, if_pos (List.mem_map.mpr ⟨i, List.mem_range.mpr hi, rfl⟩)]
  have hqq : k_mf G f q r q = some (kaR G 5 (fun i9 => if i9 < 5 then some (r i9) else none)) := by simp [k_mf]
  have hne : ∀ a e, f a = some e → a ≠ q ∧ ∀ i, i < 5 → a ≠ r i := fun a e ha => ⟨fun z => (by rw [z, hq] at ha; cases ha), fun i hi z => (by rw [z, (h1 i hi).2] at ha; cases ha)⟩
  have b1 := hM.at 0 rfl
  have b2 := hM.at 1 rfl
  have n1 := hne _ _ b1
  have n2 := hne _ _ b2
  have n3 : h ≠ wL := by have := hM.2; simp at this; exact this
  refine ⟨⟨fun x hx => ?_, ?_⟩, fun a e ha h0 => ho a e (hO a e ha h0), fun a ha => ?_, hO.fr hS hq, fun i hi => hO.fr hS (h1 i hi).2⟩
  · simp only [List.mem_cons, List.not_mem_nil, or_false] at hx
    rcases hx with rfl | rfl | rfl | rfl | rfl | rfl | rfl | rfl
    · exact ho _ _ b1
    · exact ho _ _ b2
    · exact hqq
    · exact hw 0 (by decide)
    · exact hw 1 (by decide)
    · exact hw 2 (by decide)
    · exact hw 3 (by decide)
    · exact hw 4 (by decide)
  · have rr : ∀ i j, i < 5 → j < 5 → i ≠ j → r i ≠ r j := fun i j hi hj hij z => hij (hr i j hi hj z)
    have rq : ∀ i, i < 5 → ¬ q = r i := fun i hi z => (h1 i hi).1 z.symm
    simp only [List.map_cons, List.map_nil, List.nodup_cons, List.mem_cons, List.not_mem_nil, or_false, not_or, not_false_eq_true, List.nodup_nil, and_true]
    exact ⟨⟨n3, n1.1, n1.2 0 (by decide), n1.2 1 (by decide), n1.2 2 (by decide), n1.2 3 (by decide), n1.2 4 (by decide)⟩, ⟨n2.1, n2.2 0 (by decide), n2.2 1 (by decide), n2.2 2 (by decide), n2.2 3 (by decide), n2.2 4 (by decide)⟩, ⟨rq 0 (by decide), rq 1 (by decide), rq 2 (by decide), rq 3 (by decide), rq 4 (by decide)⟩, ⟨rr 0 1 (by decide) (by decide) (by decide), rr 0 2 (by decide) (by decide) (by decide), rr 0 3 (by decide) (by decide) (by decide), rr 0 4 (by decide) (by decide) (by decide)⟩, ⟨rr 1 2 (by decide) (by decide) (by decide), rr 1 3 (by decide) (by decide) (by decide), rr 1 4 (by decide) (by decide) (by decide)⟩, ⟨rr 2 3 (by decide) (by decide) (by decide), rr 2 4 (by decide) (by decide) (by decide)⟩, rr 3 4 (by decide) (by decide) (by decide)⟩
  · rw [List.mem_singleton.mp ha]
    rw [ho _ _ b1]; rfl

theorem lk_X4_init_m3 : Cond.methodLink RX4 3 objectInit ∈ wsX4_init := by decide +kernel
theorem lk_X4_init_oi : Cond.instanceMethod objectInit ∈ wsX4_init := by decide +kernel
theorem lk_X4_init_oc : Cond.code objectInit ⟨#[0xb1]⟩ 1 none ∈ wsX4_init := by decide +kernel
theorem lk_X4_init_new9 : ∀ w ∈ [Cond.classLink RX4 9 RJx4a65c, Cond.instantiable RJx4a65c 3, Cond.initialized RJx4a65c], w ∈ wsX4_init := by decide +kernel
theorem hin_X4_init_RJx4a65c : ∀ w ∈ u_ws RJx4a65c TJx4a65c 3, w ∈ wsX4_init := by decide +kernel
theorem hdX4_init_Jx4a65c_init_da8c8 : yJx4a65c_init_da8c8.cls ≠ "java/lang/invoke/MethodHandle" ∧ yJx4a65c_init_da8c8.cls ≠ "java/lang/invoke/VarHandle" ∧ (parseMethodDescriptor yJx4a65c_init_da8c8.desc).map (fun d => d.parameters.length) = some 0 := by decide +kernel
theorem lk_X4_init_ml11 : Cond.methodLink RX4 11 yJx4a65c_init_da8c8 ∈ wsX4_init := by decide +kernel
theorem lk_X4_init_in_RJx4a65c : Cond.initialized RJx4a65c ∈ wsX4_init := by decide +kernel
theorem lk_X4_init_im_Jx4a65c_init_da8c8 : Cond.instanceMethod yJx4a65c_init_da8c8 ∈ wsX4_init := by decide +kernel
theorem lk_X4_init_f12 : Cond.fieldLink RX4 12 "Koebehall$Network" "wires" "Ljava/util/ArrayList;" ∈ wsX4_init := by decide +kernel
theorem hin_X4_init_RX4 : ∀ w ∈ u_ws RX4 TX4 3, w ∈ wsX4_init := by decide +kernel
theorem lk_X4_init_cl18 : Cond.classLink RX4 18 "[[J" ∈ wsX4_init := by decide +kernel
theorem lk_X4_init_aclong : Cond.arrayClass .long ∈ wsX4_init := by decide +kernel
theorem lk_X4_init_f20 : Cond.fieldLink RX4 20 "Koebehall$Network" "rows" "[[J" ∈ wsX4_init := by decide +kernel
theorem lk_X4_init_f23 : Cond.fieldLink RX4 23 "Koebehall$Network" "nodeCount" "I" ∈ wsX4_init := by decide +kernel
abbrev rmX4_init : Room := { frames := 4, cells := 7, slots := 33, locals := 72 }
set_option maxHeartbeats 4000000 in
set_option maxRecDepth 100000 in
/-- X4_init -/
theorem kX4_init (l : Launch) (G : kG) (B0 : Nat) (f : kH) (h : Nat) (hM : kCs f [(h, .inr (4, [.null, .null, .int 0]))]) : Met l yX4_init wsX4_init (rmX4_init) (kP G B0 f [.ref h]) (kQv G B0 (fun f1 => ∃ (wL q : Nat) (r : Nat → Nat), kCs f1 [(h, .inr (4, [.ref wL, .ref q, .int (nI 2)])), (wL, .inr (0, [.int (nI 0), .ref (G.2.2 1), .int 0])), (q, kaR G 5 (fun i9 => if i9 < 5 then some (r i9) else none)), (r 0, kaJ G 5 (fun _ => 0)), (r 1, kaJ G 5 (fun _ => 0)), (r 2, kaJ G 5 (fun _ => 0)), (r 3, kaJ G 5 (fun _ => 0)), (r 4, kaJ G 5 (fun _ => 0))] ∧ kKp [h] f f1 ∧ f wL = none ∧ f q = none ∧ ∀ i : Nat, i < 5 → f (r i) = none)) 7 33 (kAb B0) := by
  refine kMet (cc := cX4_init) (maxL := 1) (ret := none) (by decide) rfl (Nat.le_of_ble_eq_true rfl) ?_
  intro p e s m args below meth c H locs Q ls C hX hl hr hlocks hnm hQ
  have hO : kKp [h] f f := kKp.rf
  have hS : ∀ a ∈ [h], (f a).isSome := by
    intro a h9
    simp only [List.mem_cons, List.not_mem_nil, or_false] at h9
    rcases h9 with rfl
    · rw [hM.at 0 rfl]; rfl
  have hl : lv_has ls 1 [(0, .ref h)] := hl
  refine lv_aload_n C.x C.b dX4_init_0 rfl (lv_at hl 0 rfl) ?_
  refine W.objInit C.x C.b C.ow (C.ts _ lk_X4_init_m3) (C.ts _ lk_X4_init_oi) (C.ts _ lk_X4_init_oc) rfl (by rw [C.ml]; exact hl.1) rfl dX4_init_1 (Nat.le_of_ble_eq_true rfl) (Nat.le_of_ble_eq_true rfl) ?_
  refine W.eq (g2 := F0 m 4 ls []) rfl ?_
  refine lv_aload_n C.x C.b dX4_init_4 rfl (lv_at hl 0 rfl) ?_
  refine k_new (X := RJx4a65c) (T := TJx4a65c) (N := 3) (ci := 0) (fs := [.int 0, .null, .int 0]) C hX hin_X4_init_RJx4a65c tyJx4a65c_ok lk_X4_init_new9 rfl (by decide) (by decide) (by decide) dX4_init_5 (fun n1 H hn hX => ?_)
  obtain ⟨g2, hX, hM, hO, fr_n1, hS⟩ := kX.nwP hX hM hO hn hS
  have hM : kCs g2 ([(h, .inr (4, [.null, .null, .int 0])), (n1, .inr (0, [.int 0, .null, .int 0]))]) := hM
  refine lv_dup C.x C.b dX4_init_8 rfl ?_
  have hM9 : kCs g2 ([(n1, .inr (0, [.int 0, .null, .int 0]))]) := hM.pick [1] (by decide) ⟨rfl, trivial⟩
  refine k_callv (va_runI (As := []) (rest := [.ref n1, .ref h]) C.1 (kJx4a65c_init_da8c8 l G B0 g2 n1 hM9) (cwI 0 C.ts gX4_init_Jx4a65c_init_da8c8 rfl rfl rfl (C.ts _ lk_X4_init_in_RJx4a65c) (C.ts _ lk_X4_init_ml11) (C.ts _ lk_X4_init_im_Jx4a65c_init_da8c8) rfl (hdX4_init_Jx4a65c_init_da8c8) ⟨Nat.le_of_ble_eq_true rfl, Nat.le_of_ble_eq_true rfl⟩) (k_preS C hX) rfl rfl hl.1 rfl (lv_room (Nat.le_of_ble_eq_true rfl)) dX4_init_9 ⟨Nat.le_of_ble_eq_true rfl, Nat.le_of_ble_eq_true rfl⟩) hX (fun f9 H locs hp9 hX => ?_)
  obtain ⟨hM9, hO9⟩ := hp9
  have hM : kCs f9 ([(h, .inr (4, [.null, .null, .int 0])), (n1, .inr (0, [.int (nI 0), .ref (G.2.2 1), .int 0]))]) := hM.sub hM9 (kKp.of hO9) [1] (by simp) ⟨rfl, trivial⟩
  have hO := hO.then (kKp.of hO9) (by
      intro a h9
      simp only [List.mem_cons, List.not_mem_nil, or_false] at h9
      rcases h9 with rfl
      · exact Or.inr fr_n1)
  have hS : ∀ a ∈ [h], (f9 a).isSome := by
    intro a h9
    simp only [List.mem_cons, List.not_mem_nil, or_false] at h9
    rcases h9 with rfl
    · rw [hM.at 0 rfl]; rfl
  refine k_putF (X := RX4) (T := TX4) (N := 3) (ty := .object "java/util/ArrayList") (v := .ref n1) C hX (hM.at 0 rfl) rfl hin_X4_init_RX4 tyX4_ok nmX4 0 (by decide) lk_X4_init_f12 (fun _ h9 => h9) rfl hnm rfl rfl (by decide +kernel) rfl rfl (Nat.le_of_ble_eq_true rfl) dX4_init_12 (fun H locs hX => ?_)
  obtain ⟨g3, hX, hM, hO, hS⟩ := kX.wrP hX hM hO hS 0 rfl (Or.inl (by simp))
  have hM : kCs g3 ([(h, .inr (4, [.ref n1, .null, .int 0])), (n1, .inr (0, [.int (nI 0), .ref (G.2.2 1), .int 0]))]) := hM
  refine lv_aload_n C.x C.b dX4_init_15 rfl (lv_at hl 0 rfl) ?_
  refine lv_iconst (v := nI 5) C.x C.b dX4_init_16 (by decide) ?_
  refine lv_iconst (v := nI 5) C.x C.b dX4_init_17 (by decide) ?_
  refine k_mna C hX (C.ts _ lk_X4_init_cl18) (C.ts _ lk_X4_init_aclong) (by have h9 : rmX4_init.cells = 7 := rfl; omega) (by have h9 : rmX4_init.slots = 33 := rfl; omega) dX4_init_18 (fun qm rm9 H hX hr9 h19 hq9 => ?_)
  obtain ⟨hM, hO, hS, fr_qm, fr_rm⟩ := k_mfX hM hO hS hr9 h19 hq9
  refine k_putF (X := RX4) (T := TX4) (N := 3) (ty := .array (.array .long)) (v := .ref qm) C hX (hM.at 0 rfl) rfl hin_X4_init_RX4 tyX4_ok nmX4 1 (by decide) lk_X4_init_f20 (fun _ h9 => h9) rfl hnm rfl rfl (by decide +kernel) rfl rfl (Nat.le_of_ble_eq_true rfl) dX4_init_22 (fun H locs hX => ?_)
  obtain ⟨g4, hX, hM, hO, hS⟩ := kX.wrP hX hM hO hS 0 rfl (Or.inl (by simp))
  have hM : kCs g4 ([(h, .inr (4, [.ref n1, .ref qm, .int 0])), (n1, .inr (0, [.int (nI 0), .ref (G.2.2 1), .int 0])), (qm, kaR G 5 (fun i9 => if i9 < 5 then some (rm9 i9) else none)), (rm9 0, kaJ G 5 (fun _ => 0)), (rm9 1, kaJ G 5 (fun _ => 0)), (rm9 2, kaJ G 5 (fun _ => 0)), (rm9 3, kaJ G 5 (fun _ => 0)), (rm9 4, kaJ G 5 (fun _ => 0))]) := hM
  refine lv_aload_n C.x C.b dX4_init_25 rfl (lv_at hl 0 rfl) ?_
  refine lv_iconst (v := nI 2) C.x C.b dX4_init_26 (by decide) ?_
  refine k_put (X := RX4) (T := TX4) (N := 3) (ty := .int) (v := .int (nI 2)) C hX (hM.at 0 rfl) rfl hin_X4_init_RX4 tyX4_ok nmX4 2 (by decide) lk_X4_init_f23 (fun _ h9 => h9) rfl (by decide +kernel) rfl rfl (Nat.le_of_ble_eq_true rfl) dX4_init_27 (fun H locs hX => ?_)
  obtain ⟨g5, hX, hM, hO, hS⟩ := kX.wrP hX hM hO hS 0 rfl (Or.inl (by simp))
  have hM : kCs g5 ([(h, .inr (4, [.ref n1, .ref qm, .int (nI 2)])), (n1, .inr (0, [.int (nI 0), .ref (G.2.2 1), .int 0])), (qm, kaR G 5 (fun i9 => if i9 < 5 then some (rm9 i9) else none)), (rm9 0, kaJ G 5 (fun _ => 0)), (rm9 1, kaJ G 5 (fun _ => 0)), (rm9 2, kaJ G 5 (fun _ => 0)), (rm9 3, kaJ G 5 (fun _ => 0)), (rm9 4, kaJ G 5 (fun _ => 0))]) := hM
  exact k_vret C hX hr hlocks hQ (by omega) (by omega) (⟨n1, qm, rm9, hM, hO, fr_n1, fr_qm, fr_rm⟩) dX4_init_30
