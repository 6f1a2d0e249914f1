/-- the wires' list at wL, which lies apart from as: sz wires at w 0, w 1 .., with the ends e1, e2 -/
def kWl (G : kG) (f : kH) (as : List Nat) (wL sz : Nat) (w e1 e2 : Nat → Nat) : Prop := ∃ (mc : Int32) (v : Value), (wL ∉ as ∧ f wL = some (.inr (0, [.int mc, v, .int (nI sz)]))) ∧ (∀ k : Nat, k < sz → ∃ (q cap : Nat) (g0 : Nat → Option Nat), v = .ref q ∧ q ∉ as ∧ q ≠ wL ∧ f q = some (kaO G cap g0) ∧ sz ≤ cap ∧ cap < 2 ^ 31 ∧ g0 k = some (w k)) ∧ ∀ k : Nat, k < sz → w k ∉ as ∧ f (w k) = some (.inr (7, [.int (nI (e1 k)), .int (nI (e2 k))]))
theorem kWl.keep {G : kG} {f f1 : kH} {as : List Nat} {wL sz : Nat} {w e1 e2 : Nat → Nat} (h : kWl G f as wL sz w e1 e2) (hO : kOff as f f1) : kWl G f1 as wL sz w e1 e2 := by
  obtain ⟨mc, v, ⟨h1, h2⟩, h3, h4⟩ := h
  refine ⟨mc, v, ⟨h1, by rw [hO _ h1]; exact h2⟩, fun k hk => ?_, fun k hk => ⟨(h4 k hk).1, by rw [hO _ (h4 k hk).1]; exact (h4 k hk).2⟩⟩
  obtain ⟨q, cap, g0, a1, a2, a3, a4, a5⟩ := h3 k hk
  exact ⟨q, cap, g0, a1, a2, a3, by rw [hO _ a2]; exact a4, a5⟩
theorem kWl.wire {G : kG} {f : kH} {as : List Nat} {wL sz : Nat} {w e1 e2 : Nat → Nat} (h : kWl G f as wL sz w e1 e2) {k : Nat} (hk : k < sz) : f (w k) = some (.inr (7, [.int (nI (e1 k)), .int (nI (e2 k))])) := by
  obtain ⟨mc, v, h1, h3, h4⟩ := h
  exact (h4 k hk).2
theorem kCs.two {f : kH} {a b : Nat} {x y : va_E} (ha : f a = some x) (hb : f b = some y) (hab : b ≠ a) : kCs f [(a, x), (b, y)] := ⟨fun q hq => by
  rcases List.mem_cons.mp hq with z | z
  · rw [z]; exact ha
  · rw [List.mem_singleton.mp z]; exact hb, by
  simp only [List.map_cons, List.map_nil, List.nodup_cons, List.mem_singleton, List.not_mem_nil, not_false_eq_true, List.nodup_nil, and_true]
  exact fun z => hab z.symm⟩
theorem kGetW (l : Launch) (G : kG) (B0 : Nat) (f : kH) {as : List Nat} {wL sz : Nat} {w e1 e2 : Nat → Nat} (k : Nat) (hk : k < sz) (h : kWl G f as wL sz w e1 e2) : Met l yJx4a65c_get_915e3 wsJx4a65c_get_915e3 rmJx4a65c_get_915e3 (kP G B0 f [.ref wL, .int (nI k)]) (kQq G B0 (fun r f1 => r = some (w k) ∧ f1 = f)) 0 0 (kAb B0) := by
  obtain ⟨mc, v, ⟨h1, h2⟩, h3, h4⟩ := h
  obtain ⟨q, cap, g0, rfl, a2, a3, a4, a5, a6, a7⟩ := h3 k hk
  exact kJx4a65c_get_915e3 l G B0 f wL q mc sz cap g0 k (w k) hk a5 a6 a7 (kCs.two h2 a4 a3)
theorem kSizeW (l : Launch) (G : kG) (B0 : Nat) (f : kH) {as : List Nat} {wL sz : Nat} {w e1 e2 : Nat → Nat} (h : kWl G f as wL sz w e1 e2) : Met l yJx4a65c_size_8abf5 wsJx4a65c_size_8abf5 rmJx4a65c_size_8abf5 (kP G B0 f [.ref wL]) (kQi G B0 (fun r f1 => r = nI sz ∧ f1 = f)) 0 0 (kAb B0) := by
  obtain ⟨mc, v, ⟨h1, h2⟩, h3, h4⟩ := h
  exact kJx4a65c_size_8abf5 l G B0 f wL mc v sz (kCs.one h2)
theorem kWl.list {G : kG} {f : kH} {as : List Nat} {wL sz : Nat} {w e1 e2 : Nat → Nat} (h : kWl G f as wL sz w e1 e2) : ∃ fs : List Value, f wL = some (.inr (0, fs)) := by
  obtain ⟨mc, v, ⟨h1, h2⟩, h3, h4⟩ := h
  exact ⟨_, h2⟩
def lnOf (a b : Nat) : Int32 := if a = b then -1 else if a < b then nI a else nI (a - 1)
theorem lnOf_ok {a b : Nat} (ha : a < 6) (hb : b < 6) : lnOf a b = -1 ∨ mIn (lnOf a b) 5 := by
  unfold lnOf
  split
  · exact Or.inl rfl
  · split
    · exact Or.inr ((mIn_nI (by omega)).mpr (by omega))
    · exact Or.inr ((mIn_nI (by omega)).mpr (by omega))
def mxClr (z : Nat → Nat) : Nat → (Nat → Nat → Int64) → (Nat → Nat → Int64)
  | 0, M => M
  | k + 1, M => mxSet (mxClr z k M) (z k) (fun j => if j < 5 then 0 else mxClr z k M (z k) j)
abbrev mxWire (z : Nat → Nat) (gd a b : Nat) (M : Nat → Nat → Int64) : Nat → Nat → Int64 := mxAdd z (mxAdd z (mxAdd z (mxAdd z M (lnOf a gd) (lnOf a gd) 1) (lnOf b gd) (lnOf b gd) 1) (lnOf a gd) (lnOf b gd) (-1)) (lnOf b gd) (lnOf a gd) (-1)
def mxWires (z e1 e2 : Nat → Nat) (gd : Nat) : Nat → (Nat → Nat → Int64) → (Nat → Nat → Int64)
  | 0, M => M
  | k + 1, M => mxWire z gd (e1 k) (e2 k) (mxWires z e1 e2 gd k M)
abbrev mxFill (z e1 e2 : Nat → Nat) (nc sz gd : Nat) (M : Nat → Nat → Int64) : Nat → Nat → Int64 := mxWires z e1 e2 gd sz (mxClr z (nc - 1) M)
theorem mx_sub {G : kG} {f0 f f1 : kH} {h wL tA nc : Nat} {r z : Nat → Nat} {M : Nat → Nat → Int64} {k : Nat} {g : Nat → Int64} (hM : kCs f (mxW G h wL tA nc r z M)) (hO : kOff (mxAs h tA r) f0 f) (hk : k < 5) (h1 : kCs f1 [(r k, kaJ G 5 g)]) (hO1 : kOff [r k] f f1) : kCs f1 (mxW G h wL tA nc r z (mxSet M k g)) ∧ kOff (mxAs h tA r) f0 f1 := by
  rcases mx_lt5 hk with rfl | rfl | rfl | rfl | rfl
  · exact ⟨hM.sub h1 (kKp.of hO1) [2] (by simp) ⟨rfl, trivial⟩, hO.trans (hO1.mono (by simp))⟩
  · exact ⟨hM.sub h1 (kKp.of hO1) [3] (by simp) ⟨rfl, trivial⟩, hO.trans (hO1.mono (by simp))⟩
  · exact ⟨hM.sub h1 (kKp.of hO1) [4] (by simp) ⟨rfl, trivial⟩, hO.trans (hO1.mono (by simp))⟩
  · exact ⟨hM.sub h1 (kKp.of hO1) [5] (by simp) ⟨rfl, trivial⟩, hO.trans (hO1.mono (by simp))⟩
  · exact ⟨hM.sub h1 (kKp.of hO1) [6] (by simp) ⟨rfl, trivial⟩, hO.trans (hO1.mono (by simp))⟩

theorem lk_X4_hasNode_f23 : Cond.fieldLink RX4 23 "Koebehall$Network" "nodeCount" "I" ∈ wsX4_hasNode := by decide +kernel
theorem hin_X4_hasNode_RX4 : ∀ w ∈ u_ws RX4 TX4 3, w ∈ wsX4_hasNode := by decide +kernel
abbrev rmX4_hasNode : Room := { frames := 0, cells := 0, slots := 0, locals := 0 }
set_option maxHeartbeats 4000000 in
set_option maxRecDepth 100000 in
/-- X4_hasNode -/
theorem kX4_hasNode (l : Launch) (G : kG) (B0 : Nat) (f : kH) (h wL tA nc : Nat) (r z : Nat → Nat) (M : Nat → Nat → Int64) (a : Int32) (hM : kCs f (mxW G h wL tA nc r z M)) (hz : mxZ z) (hnc : nc ≤ 6) : Met l yX4_hasNode wsX4_hasNode (rmX4_hasNode) (kP G B0 f [.ref h, .int a]) (kQi G B0 (fun r9 f1 => r9 = kbI (mIn a nc) ∧ f1 = f)) 0 0 (kAb B0) := by
  refine kMet (cc := cX4_hasNode) (maxL := 2) (ret := (some .boolean)) (by decide) rfl (Nat.le_of_ble_eq_true rfl) ?_
  intro p e s m args below meth c H locs Q ls C hX hl hr hlocks hnm hQ
  have hl : lv_has ls 2 [(0, .ref h), (1, .int a)] := hl
  refine lv_iload_n C.x C.b dX4_hasNode_0 rfl (lv_at hl 1 rfl) ?_
  refine lv_if_lt (tgt := 16) C.x C.b dX4_hasNode_1 (by decide) (fun c_1 => ?_) (fun c_1 => ?_)
  · skip
    refine lv_iconst (v := nI 0) C.x C.b dX4_hasNode_16 (by decide) ?_
    exact k_zret C hX hr hlocks hQ (by omega) (by omega) (by first | exact kbI_01 _ | exact Or.inl rfl | exact Or.inr rfl) (by refine ⟨?_, rfl⟩; first | exact kbI_tN (nIn_t c_1 c_9) | exact kbI_fN (fun h9 => absurd c_1 (nIn_f1 h9)) | exact kbI_fN (fun h9 => absurd c_9 (nIn_f2 h9 (by omega)))) dX4_hasNode_17
  · skip
    refine lv_iload_n C.x C.b dX4_hasNode_4 rfl (lv_at hl 1 rfl) ?_
    refine lv_aload_n C.x C.b dX4_hasNode_5 rfl (lv_at hl 0 rfl) ?_
    refine k_get (X := RX4) (T := TX4) (N := 3) (v := .int (nI nc)) C hX (hM.at 0 rfl) rfl hin_X4_hasNode_RX4 2 (by decide) lk_X4_hasNode_f23 (fun _ h9 => h9) rfl dX4_hasNode_6 ?_
    refine lv_icmp_ge (tgt := 16) C.x C.b dX4_hasNode_9 (by decide) (fun c_9 => ?_) (fun c_9 => ?_)
    · skip
      refine lv_iconst (v := nI 0) C.x C.b dX4_hasNode_16 (by decide) ?_
      exact k_zret C hX hr hlocks hQ (by omega) (by omega) (by first | exact kbI_01 _ | exact Or.inl rfl | exact Or.inr rfl) (by refine ⟨?_, rfl⟩; first | exact kbI_tN (nIn_t c_1 c_9) | exact kbI_fN (fun h9 => absurd c_1 (nIn_f1 h9)) | exact kbI_fN (fun h9 => absurd c_9 (nIn_f2 h9 (by omega)))) dX4_hasNode_17
    · skip
      refine lv_iconst (v := nI 1) C.x C.b dX4_hasNode_12 (by decide) ?_
      refine lv_goto (tgt := 17) C.x C.b dX4_hasNode_13 (by decide) ?_
      exact k_zret C hX hr hlocks hQ (by omega) (by omega) (by first | exact kbI_01 _ | exact Or.inl rfl | exact Or.inr rfl) (by refine ⟨?_, rfl⟩; first | exact kbI_tN (nIn_t c_1 c_9) | exact kbI_fN (fun h9 => absurd c_1 (nIn_f1 h9)) | exact kbI_fN (fun h9 => absurd c_9 (nIn_f2 h9 (by omega)))) dX4_hasNode_17

theorem lk_X4_hasWire_f12 : Cond.fieldLink RX4 12 "Koebehall$Network" "wires" "Ljava/util/ArrayList;" ∈ wsX4_hasWire := by decide +kernel
theorem hin_X4_hasWire_RX4 : ∀ w ∈ u_ws RX4 TX4 3, w ∈ wsX4_hasWire := by decide +kernel
theorem hdX4_hasWire_Jx4a65c_size_8abf5 : yJx4a65c_size_8abf5.cls ≠ "java/lang/invoke/MethodHandle" ∧ yJx4a65c_size_8abf5.cls ≠ "java/lang/invoke/VarHandle" ∧ (parseMethodDescriptor yJx4a65c_size_8abf5.desc).map (fun d => d.parameters.length) = some 0 := by decide +kernel
abbrev rmX4_hasWire : Room := { frames := 1, cells := 0, slots := 0, locals := 20 }
set_option maxHeartbeats 4000000 in
set_option maxRecDepth 100000 in
/-- X4_hasWire -/
theorem kX4_hasWire (l : Launch) (G : kG) (B0 : Nat) (f : kH) (h wL tA nc : Nat) (r z : Nat → Nat) (M : Nat → Nat → Int64) (sz : Nat) (w e1 e2 : Nat → Nat) (a : Int32) (hM : kCs f (mxW G h wL tA nc r z M)) (hz : mxZ z) (hwl : kWl G f (mxAs h tA r) wL sz w e1 e2) (hnc : nc ≤ 6) (hnc1 : 1 ≤ nc) (hsz : sz ≤ 10) (he : ∀ k : Nat, k < sz → e1 k < nc ∧ e2 k < nc) : Met l yX4_hasWire wsX4_hasWire (rmX4_hasWire) (kP G B0 f [.ref h, .int a]) (kQi G B0 (fun r9 f1 => r9 = kbI (mIn a sz) ∧ f1 = f)) 0 0 (kAb B0) := by
  refine kMet (cc := cX4_hasWire) (maxL := 2) (ret := (some .boolean)) (by decide) rfl (Nat.le_of_ble_eq_true rfl) ?_
  intro p e s m args below meth c H locs Q ls C hX hl hr hlocks hnm hQ
  have hl : lv_has ls 2 [(0, .ref h), (1, .int a)] := hl
  have hwl0 := hwl
  have hO : kOff (mxAs h tA r) f f := kOff.rf
  refine lv_iload_n C.x C.b dX4_hasWire_0 rfl (lv_at hl 1 rfl) ?_
  refine lv_if_lt (tgt := 19) C.x C.b dX4_hasWire_1 (by decide) (fun c_1 => ?_) (fun c_1 => ?_)
  · skip
    refine lv_iconst (v := nI 0) C.x C.b dX4_hasWire_19 (by decide) ?_
    exact k_zret C hX hr hlocks hQ (by omega) (by omega) (by first | exact kbI_01 _ | exact Or.inl rfl | exact Or.inr rfl) (by refine ⟨?_, rfl⟩; first | exact kbI_tN (nIn_t c_1 c_12) | exact kbI_fN (fun h9 => absurd c_1 (nIn_f1 h9)) | exact kbI_fN (fun h9 => absurd c_12 (nIn_f2 h9 (by omega)))) dX4_hasWire_20
  · skip
    refine lv_iload_n C.x C.b dX4_hasWire_4 rfl (lv_at hl 1 rfl) ?_
    refine lv_aload_n C.x C.b dX4_hasWire_5 rfl (lv_at hl 0 rfl) ?_
    refine k_get (X := RX4) (T := TX4) (N := 3) (v := .ref wL) C hX (hM.at 0 rfl) rfl hin_X4_hasWire_RX4 0 (by decide) lk_X4_hasWire_f12 (fun _ h9 => h9) rfl dX4_hasWire_6 ?_
    refine k_calli (va_runV (As := []) (rest := [.int a]) C.1 (kSizeW l G B0 f (hwl0.keep hO)) (cwV 0 C.ts gX4_hasWire_Jx4a65c_size_8abf5 rfl rfl rfl ⟨rfl, hdX4_hasWire_Jx4a65c_size_8abf5⟩ ⟨Nat.le_of_ble_eq_true rfl, Nat.le_of_ble_eq_true rfl⟩) (k_preV C hX ((hwl0.keep hO).list.choose_spec) rfl) rfl rfl hl.1 rfl (lv_room (Nat.le_of_ble_eq_true rfl)) dX4_hasWire_9 ⟨Nat.le_of_ble_eq_true rfl, Nat.le_of_ble_eq_true rfl⟩) hX (fun r9 f9 H locs hp9 hX => ?_)
    obtain ⟨hr9, hf9⟩ := hp9
    rw [hf9] at hX
    refine k_topi (y := (nI sz)) hr9 ?_
    refine lv_icmp_ge (tgt := 19) C.x C.b dX4_hasWire_12 (by decide) (fun c_12 => ?_) (fun c_12 => ?_)
    · skip
      refine lv_iconst (v := nI 0) C.x C.b dX4_hasWire_19 (by decide) ?_
      exact k_zret C hX hr hlocks hQ (by omega) (by omega) (by first | exact kbI_01 _ | exact Or.inl rfl | exact Or.inr rfl) (by refine ⟨?_, rfl⟩; first | exact kbI_tN (nIn_t c_1 c_12) | exact kbI_fN (fun h9 => absurd c_1 (nIn_f1 h9)) | exact kbI_fN (fun h9 => absurd c_12 (nIn_f2 h9 (by omega)))) dX4_hasWire_20
    · skip
      refine lv_iconst (v := nI 1) C.x C.b dX4_hasWire_15 (by decide) ?_
      refine lv_goto (tgt := 20) C.x C.b dX4_hasWire_16 (by decide) ?_
      exact k_zret C hX hr hlocks hQ (by omega) (by omega) (by first | exact kbI_01 _ | exact Or.inl rfl | exact Or.inr rfl) (by refine ⟨?_, rfl⟩; first | exact kbI_tN (nIn_t c_1 c_12) | exact kbI_fN (fun h9 => absurd c_1 (nIn_f1 h9)) | exact kbI_fN (fun h9 => absurd c_12 (nIn_f2 h9 (by omega)))) dX4_hasWire_20

theorem lk_X4_fillTable_f23 : Cond.fieldLink RX4 23 "Koebehall$Network" "nodeCount" "I" ∈ wsX4_fillTable := by decide +kernel
theorem hin_X4_fillTable_RX4 : ∀ w ∈ u_ws RX4 TX4 3, w ∈ wsX4_fillTable := by decide +kernel
theorem lk_X4_fillTable_f12 : Cond.fieldLink RX4 12 "Koebehall$Network" "wires" "Ljava/util/ArrayList;" ∈ wsX4_fillTable := by decide +kernel
theorem hdX4_fillTable_Jx4a65c_size_8abf5 : yJx4a65c_size_8abf5.cls ≠ "java/lang/invoke/MethodHandle" ∧ yJx4a65c_size_8abf5.cls ≠ "java/lang/invoke/VarHandle" ∧ (parseMethodDescriptor yJx4a65c_size_8abf5.desc).map (fun d => d.parameters.length) = some 0 := by decide +kernel
theorem hdX4_fillTable_Jx4a65c_get_915e3 : yJx4a65c_get_915e3.cls ≠ "java/lang/invoke/MethodHandle" ∧ yJx4a65c_get_915e3.cls ≠ "java/lang/invoke/VarHandle" ∧ (parseMethodDescriptor yJx4a65c_get_915e3.desc).map (fun d => d.parameters.length) = some 1 := by decide +kernel
theorem lk_X4_fillTable_cl52 : Cond.classLink RX4 52 "Koebehall$Wire" ∈ wsX4_fillTable := by decide +kernel
theorem hin_X4_fillTable_RX7 : ∀ w ∈ u_ws RX7 TX7 2, w ∈ wsX4_fillTable := by decide +kernel
theorem hdX4_fillTable_X4_lineOf : yX4_lineOf.cls ≠ "java/lang/invoke/MethodHandle" ∧ yX4_lineOf.cls ≠ "java/lang/invoke/VarHandle" ∧ (parseMethodDescriptor yX4_lineOf.desc).map (fun d => d.parameters.length) = some 2 := by decide +kernel
theorem hdX4_fillTable_X4_addToTable : yX4_addToTable.cls ≠ "java/lang/invoke/MethodHandle" ∧ yX4_addToTable.cls ≠ "java/lang/invoke/VarHandle" ∧ (parseMethodDescriptor yX4_addToTable.desc).map (fun d => d.parameters.length) = some 3 := by decide +kernel
theorem lk_X4_fillTable_c68 : Cond.constantLong RX4 68 (-1) ∈ wsX4_fillTable := by decide +kernel
theorem lk_X4_fillTable_f20 : Cond.fieldLink RX4 20 "Koebehall$Network" "rows" "[[J" ∈ wsX4_fillTable := by decide +kernel
theorem hdX4_fillTable_J7_fill_d0a16 : yJ7_fill_d0a16.cls ≠ "java/lang/invoke/MethodHandle" ∧ yJ7_fill_d0a16.cls ≠ "java/lang/invoke/VarHandle" ∧ (parseMethodDescriptor yJ7_fill_d0a16.desc).map (fun d => d.parameters.length) = some 2 := by decide +kernel
abbrev rmX4_fillTable : Room := { frames := 3, cells := 0, slots := 0, locals := 64 }
set_option maxHeartbeats 4000000 in
set_option maxRecDepth 100000 in
/-- X4_fillTable -/
theorem kX4_fillTable (l : Launch) (G : kG) (B0 : Nat) (f : kH) (h wL tA nc : Nat) (r z : Nat → Nat) (M : Nat → Nat → Int64) (sz : Nat) (w e1 e2 : Nat → Nat) (gd : Nat) (hM : kCs f (mxW G h wL tA nc r z M)) (hz : mxZ z) (hwl : kWl G f (mxAs h tA r) wL sz w e1 e2) (hnc : nc ≤ 6) (hnc1 : 1 ≤ nc) (hsz : sz ≤ 10) (he : ∀ k : Nat, k < sz → e1 k < nc ∧ e2 k < nc) (hgd : gd < nc) : Met l yX4_fillTable wsX4_fillTable (rmX4_fillTable) (kP G B0 f [.ref h, .int (nI gd)]) (kQv G B0 (fun f1 => kCs f1 (mxW G h wL tA nc r z (mxFill z e1 e2 nc sz gd M)) ∧ kOff (mxAs h tA r) f f1)) 0 0 (kAb B0) := by
  refine kMet (cc := cX4_fillTable) (maxL := 5) (ret := none) (by decide) rfl (Nat.le_of_ble_eq_true rfl) ?_
  intro p e s m args below meth c H locs Q ls C hX hl hr hlocks hnm hQ
  have hO : kOff (mxAs h tA r) f f := kOff.rf
  have hl : lv_has ls 5 [(0, .ref h), (1, .int (nI gd))] := hl
  have hwl0 := hwl
  have hO : kOff (mxAs h tA r) f f := kOff.rf
  refine lv_iconst (v := nI 0) C.x C.b dX4_fillTable_0 (by decide) ?_
  refine lv_istore_n (lv' := [(2, .int (nI 0)), (0, .ref h), (1, .int (nI gd))]) C.x C.b dX4_fillTable_1 rfl hl (by decide) rfl (fun ls hl => ?_)
  have LOOP2 : ∀ (n : Nat) (k : Nat) (Mo : Nat → Nat → Int64), (k ≤ nc - 1) → (Mo = mxClr z k M) → (nc - k) < n → ∀ (ls : Array Slot), lv_has ls 5 [(2, .int (nI k)), (0, .ref h), (1, .int (nI gd))] → ∀ (fL : kH), kCs fL (mxW G h wL tA nc r z Mo) → kOff (mxAs h tA r) f fL → ∀ (H : Heap) (locs : List Loc), kX G B0 s fL H locs → W p l e (rmX4_fillTable) s m args below meth c H locs 0 0 Q (F0 m 2 ls []) := by
    intro n2
    induction n2 with
    | zero => intro k Mo hk hMo hn; exact absurd hn (Nat.not_lt_zero _)
    | succ n2 ih2 =>
      intro k Mo hk hMo hn ls hl fL hM hO H locs hX
      refine lv_iload_n C.x C.b dX4_fillTable_2 rfl (lv_at hl 0 rfl) ?_
      refine lv_aload_n C.x C.b dX4_fillTable_3 rfl (lv_at hl 1 rfl) ?_
      refine k_get (X := RX4) (T := TX4) (N := 3) (v := .int (nI nc)) C hX (hM.at 0 rfl) rfl hin_X4_fillTable_RX4 2 (by decide) lk_X4_fillTable_f23 (fun _ h9 => h9) rfl dX4_fillTable_4 ?_
      refine lv_iconst (v := nI 1) C.x C.b dX4_fillTable_7 (by decide) ?_
      refine lv_isub C.x C.b dX4_fillTable_8 ?_
      refine k_topi (y := (nI (nc - 1))) (pk_sub (by omega)) ?_
      refine lv_icmp_ge (tgt := 28) C.x C.b dX4_fillTable_9 (by decide) (fun c_9 => ?_) (fun c_9 => ?_)
      · skip
        have c_9 : nc - 1 ≤ k := (nI_leI (by omega) (by omega)).mp c_9
        refine lv_iconst (v := nI 0) C.x C.b dX4_fillTable_28 (by decide) ?_
        refine lv_istore_n (lv' := [(2, .int (nI 0)), (0, .ref h), (1, .int (nI gd))]) C.x C.b dX4_fillTable_29 rfl hl (by decide) rfl (fun ls hl => ?_)
        have LOOP30 : ∀ (n : Nat) (k : Nat) (Mp : Nat → Nat → Int64), (k ≤ sz) → (Mp = mxWires z e1 e2 gd k (mxClr z (nc - 1) M)) → (sz - k) < n → ∀ (ls : Array Slot), lv_has ls 5 [(2, .int (nI k)), (0, .ref h), (1, .int (nI gd))] → ∀ (fL : kH), kCs fL (mxW G h wL tA nc r z Mp) → kOff (mxAs h tA r) f fL → ∀ (H : Heap) (locs : List Loc), kX G B0 s fL H locs → W p l e (rmX4_fillTable) s m args below meth c H locs 0 0 Q (F0 m 30 ls []) := by
          intro n30
          induction n30 with
          | zero => intro k Mp hk hMp hn; exact absurd hn (Nat.not_lt_zero _)
          | succ n30 ih30 =>
            intro k Mp hk hMp hn ls hl fL hM hO H locs hX
            refine lv_iload_n C.x C.b dX4_fillTable_30 rfl (lv_at hl 0 rfl) ?_
            refine lv_aload_n C.x C.b dX4_fillTable_31 rfl (lv_at hl 1 rfl) ?_
            refine k_get (X := RX4) (T := TX4) (N := 3) (v := .ref wL) C hX (hM.at 0 rfl) rfl hin_X4_fillTable_RX4 0 (by decide) lk_X4_fillTable_f12 (fun _ h9 => h9) rfl dX4_fillTable_32 ?_
            refine k_calli (va_runV (As := []) (rest := [.int (nI k)]) C.1 (kSizeW l G B0 fL (hwl0.keep hO)) (cwV 0 C.ts gX4_fillTable_Jx4a65c_size_8abf5 rfl rfl rfl ⟨rfl, hdX4_fillTable_Jx4a65c_size_8abf5⟩ ⟨Nat.le_of_ble_eq_true rfl, Nat.le_of_ble_eq_true rfl⟩) (k_preV C hX ((hwl0.keep hO).list.choose_spec) rfl) rfl rfl hl.1 rfl (lv_room (Nat.le_of_ble_eq_true rfl)) dX4_fillTable_35 ⟨Nat.le_of_ble_eq_true rfl, Nat.le_of_ble_eq_true rfl⟩) hX (fun r35 f35 H locs hp35 hX => ?_)
            obtain ⟨hr35, hf35⟩ := hp35
            rw [hf35] at hX
            refine k_topi (y := (nI sz)) hr35 ?_
            refine lv_icmp_ge (tgt := 122) C.x C.b dX4_fillTable_38 (by decide) (fun c_38 => ?_) (fun c_38 => ?_)
            · skip
              have c_38 : sz ≤ k := (nI_leI (by omega) (by omega)).mp c_38
              exact k_vret C hX hr hlocks hQ (by omega) (by omega) (by rw [show mxFill z e1 e2 nc sz gd M = Mp from (by rw [hMp, show k = sz from (by omega)])]; exact ⟨hM, hO⟩) dX4_fillTable_122
            · skip
              have c_38 : ¬ (sz ≤ k) := fun h9 => c_38 ((nI_leI (by omega) (by omega)).mpr h9)
              refine lv_aload_n C.x C.b dX4_fillTable_41 rfl (lv_at hl 1 rfl) ?_
              refine k_get (X := RX4) (T := TX4) (N := 3) (v := .ref wL) C hX (hM.at 0 rfl) rfl hin_X4_fillTable_RX4 0 (by decide) lk_X4_fillTable_f12 (fun _ h9 => h9) rfl dX4_fillTable_42 ?_
              refine lv_iload_n C.x C.b dX4_fillTable_45 rfl (lv_at hl 0 rfl) ?_
              refine k_callq (va_runV (As := [.int (nI k)]) (rest := []) C.1 (kGetW l G B0 fL k (by omega) (hwl0.keep hO)) (cwV 1 C.ts gX4_fillTable_Jx4a65c_get_915e3 rfl rfl rfl ⟨rfl, hdX4_fillTable_Jx4a65c_get_915e3⟩ ⟨Nat.le_of_ble_eq_true rfl, Nat.le_of_ble_eq_true rfl⟩) (k_preV C hX ((hwl0.keep hO).list.choose_spec) rfl) rfl rfl hl.1 rfl (lv_room (Nat.le_of_ble_eq_true rfl)) dX4_fillTable_46 ⟨Nat.le_of_ble_eq_true rfl, Nat.le_of_ble_eq_true rfl⟩) hX (fun r46 f46 H locs hp46 hX => ?_)
              obtain ⟨hr46, hf46⟩ := hp46
              rw [hf46] at hX
              refine k_topq (v := w k) hr46 ?_
              refine k_cast C hX ((hwl0.keep hO).wire (by omega)) rfl (C.ts _ lk_X4_fillTable_cl52) dX4_fillTable_49 ?_
              refine k_getN (host := "Koebehall") (X := RX7) (T := TX7) (N := 2) (v := .int (nI (e1 k))) C hX ((hwl0.keep hO).wire (by omega)) rfl hin_X4_fillTable_RX7 0 (by decide) (by decide +kernel) (fun _ h9 => h9) rfl dX4_fillTable_52 ?_
              refine lv_iload_n C.x C.b dX4_fillTable_55 rfl (lv_at hl 2 rfl) ?_
              refine k_calli (va_runS (As := [.int (nI (e1 k)), .int (nI gd)]) (rest := []) C.1 (kX4_lineOf l G B0 fL (e1 k) gd (by have := he k (by omega); omega) (by omega)) (va_cwS 2 C.ts gX4_fillTable_X4_lineOf rfl rfl rfl (hdX4_fillTable_X4_lineOf) ⟨Nat.le_of_ble_eq_true rfl, Nat.le_of_ble_eq_true rfl⟩) (k_preS C hX) rfl rfl hl.1 rfl (lv_room (Nat.le_of_ble_eq_true rfl)) dX4_fillTable_56 ⟨Nat.le_of_ble_eq_true rfl, Nat.le_of_ble_eq_true rfl⟩) hX (fun r56 f56 H locs hp56 hX => ?_)
              obtain ⟨hr56, hf56⟩ := hp56
              rw [hf56] at hX
              refine k_topi (y := (lnOf (e1 k) gd)) hr56 ?_
              refine lv_istore_n (lv' := [(3, .int (lnOf (e1 k) gd)), (2, .int (nI k)), (0, .ref h), (1, .int (nI gd))]) C.x C.b dX4_fillTable_59 rfl hl (by decide) rfl (fun ls hl => ?_)
              refine lv_aload_n C.x C.b dX4_fillTable_60 rfl (lv_at hl 2 rfl) ?_
              refine k_get (X := RX4) (T := TX4) (N := 3) (v := .ref wL) C hX (hM.at 0 rfl) rfl hin_X4_fillTable_RX4 0 (by decide) lk_X4_fillTable_f12 (fun _ h9 => h9) rfl dX4_fillTable_61 ?_
              refine lv_iload_n C.x C.b dX4_fillTable_64 rfl (lv_at hl 1 rfl) ?_
              refine k_callq (va_runV (As := [.int (nI k)]) (rest := []) C.1 (kGetW l G B0 fL k (by omega) (hwl0.keep hO)) (cwV 1 C.ts gX4_fillTable_Jx4a65c_get_915e3 rfl rfl rfl ⟨rfl, hdX4_fillTable_Jx4a65c_get_915e3⟩ ⟨Nat.le_of_ble_eq_true rfl, Nat.le_of_ble_eq_true rfl⟩) (k_preV C hX ((hwl0.keep hO).list.choose_spec) rfl) rfl rfl hl.1 rfl (lv_room (Nat.le_of_ble_eq_true rfl)) dX4_fillTable_65 ⟨Nat.le_of_ble_eq_true rfl, Nat.le_of_ble_eq_true rfl⟩) hX (fun r65 f65 H locs hp65 hX => ?_)
              obtain ⟨hr65, hf65⟩ := hp65
              rw [hf65] at hX
              refine k_topq (v := w k) hr65 ?_
              refine k_cast C hX ((hwl0.keep hO).wire (by omega)) rfl (C.ts _ lk_X4_fillTable_cl52) dX4_fillTable_68 ?_
              refine k_getN (host := "Koebehall") (X := RX7) (T := TX7) (N := 2) (v := .int (nI (e2 k))) C hX ((hwl0.keep hO).wire (by omega)) rfl hin_X4_fillTable_RX7 1 (by decide) (by decide +kernel) (fun _ h9 => h9) rfl dX4_fillTable_71 ?_
              refine lv_iload_n C.x C.b dX4_fillTable_74 rfl (lv_at hl 3 rfl) ?_
              refine k_calli (va_runS (As := [.int (nI (e2 k)), .int (nI gd)]) (rest := []) C.1 (kX4_lineOf l G B0 fL (e2 k) gd (by have := he k (by omega); omega) (by omega)) (va_cwS 2 C.ts gX4_fillTable_X4_lineOf rfl rfl rfl (hdX4_fillTable_X4_lineOf) ⟨Nat.le_of_ble_eq_true rfl, Nat.le_of_ble_eq_true rfl⟩) (k_preS C hX) rfl rfl hl.1 rfl (lv_room (Nat.le_of_ble_eq_true rfl)) dX4_fillTable_75 ⟨Nat.le_of_ble_eq_true rfl, Nat.le_of_ble_eq_true rfl⟩) hX (fun r75 f75 H locs hp75 hX => ?_)
              obtain ⟨hr75, hf75⟩ := hp75
              rw [hf75] at hX
              refine k_topi (y := (lnOf (e2 k) gd)) hr75 ?_
              refine lv_istore (lv' := [(4, .int (lnOf (e2 k) gd)), (3, .int (lnOf (e1 k) gd)), (2, .int (nI k)), (0, .ref h), (1, .int (nI gd))]) C.x C.b dX4_fillTable_78 hl (by decide) rfl (fun ls hl => ?_)
              refine lv_aload_n C.x C.b dX4_fillTable_80 rfl (lv_at hl 3 rfl) ?_
              refine lv_iload_n C.x C.b dX4_fillTable_81 rfl (lv_at hl 1 rfl) ?_
              refine lv_iload_n C.x C.b dX4_fillTable_82 rfl (lv_at hl 1 rfl) ?_
              refine lv_lconst (v := 1) C.x C.b dX4_fillTable_83 (by decide) ?_
              refine k_callv (va_runV (As := [.int (lnOf (e1 k) gd), .int (lnOf (e1 k) gd), .long 1]) (rest := []) C.1 (kX4_addToTable l G B0 fL h wL tA nc r z Mp (lnOf (e1 k) gd) (lnOf (e1 k) gd) 1 hM hz (lnOf_ok (by have := he k (by omega); omega) (by omega)) (lnOf_ok (by have := he k (by omega); omega) (by omega))) (cwV 3 C.ts gX4_fillTable_X4_addToTable rfl rfl rfl ⟨rfl, hdX4_fillTable_X4_addToTable⟩ ⟨Nat.le_of_ble_eq_true rfl, Nat.le_of_ble_eq_true rfl⟩) (k_preV C hX (hM.at 0 rfl) rfl) rfl rfl hl.1 rfl (lv_room (Nat.le_of_ble_eq_true rfl)) dX4_fillTable_84 ⟨Nat.le_of_ble_eq_true rfl, Nat.le_of_ble_eq_true rfl⟩) hX (fun f84 H locs hp84 hX => ?_)
              obtain ⟨hM, hO84⟩ := hp84
              have hO := hO.trans hO84
              have hM : kCs f84 (mxW G h wL tA nc r z (mxAdd z Mp (lnOf (e1 k) gd) (lnOf (e1 k) gd) 1)) := hM
              refine lv_aload_n C.x C.b dX4_fillTable_87 rfl (lv_at hl 3 rfl) ?_
              refine lv_iload C.x C.b dX4_fillTable_88 (lv_at hl 0 rfl) ?_
              refine lv_iload C.x C.b dX4_fillTable_90 (lv_at hl 0 rfl) ?_
              refine lv_lconst (v := 1) C.x C.b dX4_fillTable_92 (by decide) ?_
              refine k_callv (va_runV (As := [.int (lnOf (e2 k) gd), .int (lnOf (e2 k) gd), .long 1]) (rest := []) C.1 (kX4_addToTable l G B0 f84 h wL tA nc r z (mxAdd z Mp (lnOf (e1 k) gd) (lnOf (e1 k) gd) 1) (lnOf (e2 k) gd) (lnOf (e2 k) gd) 1 hM hz (lnOf_ok (by have := he k (by omega); omega) (by omega)) (lnOf_ok (by have := he k (by omega); omega) (by omega))) (cwV 3 C.ts gX4_fillTable_X4_addToTable rfl rfl rfl ⟨rfl, hdX4_fillTable_X4_addToTable⟩ ⟨Nat.le_of_ble_eq_true rfl, Nat.le_of_ble_eq_true rfl⟩) (k_preV C hX (hM.at 0 rfl) rfl) rfl rfl hl.1 rfl (lv_room (Nat.le_of_ble_eq_true rfl)) dX4_fillTable_93 ⟨Nat.le_of_ble_eq_true rfl, Nat.le_of_ble_eq_true rfl⟩) hX (fun f93 H locs hp93 hX => ?_)
              obtain ⟨hM, hO93⟩ := hp93
              have hO := hO.trans hO93
              have hM : kCs f93 (mxW G h wL tA nc r z (mxAdd z (mxAdd z Mp (lnOf (e1 k) gd) (lnOf (e1 k) gd) 1) (lnOf (e2 k) gd) (lnOf (e2 k) gd) 1)) := hM
              refine lv_aload_n C.x C.b dX4_fillTable_96 rfl (lv_at hl 3 rfl) ?_
              refine lv_iload_n C.x C.b dX4_fillTable_97 rfl (lv_at hl 1 rfl) ?_
              refine lv_iload C.x C.b dX4_fillTable_98 (lv_at hl 0 rfl) ?_
              refine lv_ldc2 (v := -1) C.x C.b C.ow (C.ts _ lk_X4_fillTable_c68) dX4_fillTable_100 ?_
              refine k_callv (va_runV (As := [.int (lnOf (e1 k) gd), .int (lnOf (e2 k) gd), .long (-1)]) (rest := []) C.1 (kX4_addToTable l G B0 f93 h wL tA nc r z (mxAdd z (mxAdd z Mp (lnOf (e1 k) gd) (lnOf (e1 k) gd) 1) (lnOf (e2 k) gd) (lnOf (e2 k) gd) 1) (lnOf (e1 k) gd) (lnOf (e2 k) gd) (-1) hM hz (lnOf_ok (by have := he k (by omega); omega) (by omega)) (lnOf_ok (by have := he k (by omega); omega) (by omega))) (cwV 3 C.ts gX4_fillTable_X4_addToTable rfl rfl rfl ⟨rfl, hdX4_fillTable_X4_addToTable⟩ ⟨Nat.le_of_ble_eq_true rfl, Nat.le_of_ble_eq_true rfl⟩) (k_preV C hX (hM.at 0 rfl) rfl) rfl rfl hl.1 rfl (lv_room (Nat.le_of_ble_eq_true rfl)) dX4_fillTable_103 ⟨Nat.le_of_ble_eq_true rfl, Nat.le_of_ble_eq_true rfl⟩) hX (fun f103 H locs hp103 hX => ?_)
              obtain ⟨hM, hO103⟩ := hp103
              have hO := hO.trans hO103
              have hM : kCs f103 (mxW G h wL tA nc r z (mxAdd z (mxAdd z (mxAdd z Mp (lnOf (e1 k) gd) (lnOf (e1 k) gd) 1) (lnOf (e2 k) gd) (lnOf (e2 k) gd) 1) (lnOf (e1 k) gd) (lnOf (e2 k) gd) (-1))) := hM
              refine lv_aload_n C.x C.b dX4_fillTable_106 rfl (lv_at hl 3 rfl) ?_
              refine lv_iload C.x C.b dX4_fillTable_107 (lv_at hl 0 rfl) ?_
              refine lv_iload_n C.x C.b dX4_fillTable_109 rfl (lv_at hl 1 rfl) ?_
              refine lv_ldc2 (v := -1) C.x C.b C.ow (C.ts _ lk_X4_fillTable_c68) dX4_fillTable_110 ?_
              refine k_callv (va_runV (As := [.int (lnOf (e2 k) gd), .int (lnOf (e1 k) gd), .long (-1)]) (rest := []) C.1 (kX4_addToTable l G B0 f103 h wL tA nc r z (mxAdd z (mxAdd z (mxAdd z Mp (lnOf (e1 k) gd) (lnOf (e1 k) gd) 1) (lnOf (e2 k) gd) (lnOf (e2 k) gd) 1) (lnOf (e1 k) gd) (lnOf (e2 k) gd) (-1)) (lnOf (e2 k) gd) (lnOf (e1 k) gd) (-1) hM hz (lnOf_ok (by have := he k (by omega); omega) (by omega)) (lnOf_ok (by have := he k (by omega); omega) (by omega))) (cwV 3 C.ts gX4_fillTable_X4_addToTable rfl rfl rfl ⟨rfl, hdX4_fillTable_X4_addToTable⟩ ⟨Nat.le_of_ble_eq_true rfl, Nat.le_of_ble_eq_true rfl⟩) (k_preV C hX (hM.at 0 rfl) rfl) rfl rfl hl.1 rfl (lv_room (Nat.le_of_ble_eq_true rfl)) dX4_fillTable_113 ⟨Nat.le_of_ble_eq_true rfl, Nat.le_of_ble_eq_true rfl⟩) hX (fun f113 H locs hp113 hX => ?_)
              obtain ⟨hM, hO113⟩ := hp113
              have hO := hO.trans hO113
              have hM : kCs f113 (mxW G h wL tA nc r z (mxAdd z (mxAdd z (mxAdd z (mxAdd z Mp (lnOf (e1 k) gd) (lnOf (e1 k) gd) 1) (lnOf (e2 k) gd) (lnOf (e2 k) gd) 1) (lnOf (e1 k) gd) (lnOf (e2 k) gd) (-1)) (lnOf (e2 k) gd) (lnOf (e1 k) gd) (-1))) := hM
              refine lv_iinc (v := (nI (k + 1))) (lv' := [(2, .int (nI (k + 1))), (4, .int (lnOf (e2 k) gd)), (3, .int (lnOf (e1 k) gd)), (0, .ref h), (1, .int (nI gd))]) C.x C.b dX4_fillTable_116 hl (k := 2) rfl (nI_1 _) (by decide) rfl (fun ls hl => ?_)
              refine lv_goto (tgt := 30) C.x C.b dX4_fillTable_119 (by decide) ?_
              exact ih30 (k + 1) (mxAdd z (mxAdd z (mxAdd z (mxAdd z Mp (lnOf (e1 k) gd) (lnOf (e1 k) gd) 1) (lnOf (e2 k) gd) (lnOf (e2 k) gd) 1) (lnOf (e1 k) gd) (lnOf (e2 k) gd) (-1)) (lnOf (e2 k) gd) (lnOf (e1 k) gd) (-1)) (by omega) (by rw [mxWires, ← hMp]) (by omega) ls (lv_sub hl [0, 3, 4] rfl) _ hM hO _ _ hX
        exact LOOP30 _ 0 Mo (by omega) (by rw [hMo, show k = nc - 1 by omega]; rfl) (Nat.lt_succ_self _) ls (lv_sub hl [0, 1, 2] rfl) _ hM hO _ _ hX
      · skip
        have c_9 : ¬ (nc - 1 ≤ k) := fun h9 => c_9 ((nI_leI (by omega) (by omega)).mpr h9)
        refine lv_aload_n C.x C.b dX4_fillTable_12 rfl (lv_at hl 1 rfl) ?_
        refine k_get (X := RX4) (T := TX4) (N := 3) (v := .ref tA) C hX (hM.at 0 rfl) rfl hin_X4_fillTable_RX4 1 (by decide) lk_X4_fillTable_f20 (fun _ h9 => h9) rfl dX4_fillTable_13 ?_
        refine lv_iload_n C.x C.b dX4_fillTable_16 rfl (lv_at hl 0 rfl) ?_
        refine k_rald C hX (hM.at 1 rfl) (vp_in_nI (by omega) (by omega)) dX4_fillTable_17 ?_
        rw [nI_clamp (by omega)]
        refine k_topq (v := r (z k)) (if_pos (by omega)) ?_
        refine lv_lconst (v := 0) C.x C.b dX4_fillTable_18 (by decide) ?_
        refine k_callv (va_runS (As := [.ref (r (z k)), .long 0]) (rest := []) C.1 (kJ7_fill_d0a16 l G B0 fL (r (z k)) 5 (Mo (z k)) 0 (kCs.one (mx_row hM (hz _ (by omega)))) (by decide)) (va_cwS 2 C.ts gX4_fillTable_J7_fill_d0a16 rfl rfl rfl (hdX4_fillTable_J7_fill_d0a16) ⟨Nat.le_of_ble_eq_true rfl, Nat.le_of_ble_eq_true rfl⟩) (k_preS C hX) rfl rfl hl.1 rfl (lv_room (Nat.le_of_ble_eq_true rfl)) dX4_fillTable_19 ⟨Nat.le_of_ble_eq_true rfl, Nat.le_of_ble_eq_true rfl⟩) hX (fun f19 H locs hp19 hX => ?_)
        obtain ⟨hM9, hO9⟩ := hp19
        obtain ⟨hM, hO⟩ := mx_sub hM hO (hz _ (by omega)) hM9 hO9
        refine lv_iinc (v := (nI (k + 1))) (lv' := [(2, .int (nI (k + 1))), (0, .ref h), (1, .int (nI gd))]) C.x C.b dX4_fillTable_22 hl (k := 0) rfl (nI_1 _) (by decide) rfl (fun ls hl => ?_)
        refine lv_goto (tgt := 2) C.x C.b dX4_fillTable_25 (by decide) ?_
        exact ih2 (k + 1) (mxSet Mo (z k) (fun j => if j < 5 then 0 else Mo (z k) j)) (by omega) (by rw [mxClr, ← hMo]) (by omega) ls (lv_sub hl [0, 1, 2] rfl) _ hM hO _ _ hX
  exact LOOP2 _ 0 M (by omega) rfl (Nat.lt_succ_self _) ls (lv_sub hl [0, 1, 2] rfl) _ hM hO _ _ hX
