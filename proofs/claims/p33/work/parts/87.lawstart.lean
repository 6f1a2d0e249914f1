/-! THE CLAIM OUT OF ONE WALK OF THE LAW'S BODY. Your part is whole_start (and what it stands on); all else here is the same for every law, but numbers. -/
def R_law : String := "KoebehallLaw"
def lw_P (b : Addr) (xs : List Int32) (args : Array Value) (s : State) : Prop := args = #[.ref b] ∧ s.IntsAt b xs ∧ xs.length ≤ 260 ∧ (Jvm.Cond.and given_1 narrow_1).before args s = true
/-- what a walk over the start with the record d0 says of its end, said of the start itself -/
theorem lw_closed {s t : State} {o : Outcome} {d0 : Drawn} {L : List Loc} {k n : Nat} (hd0 : s.drawn.sameBut d0 lw_cs) (hv : ∃ v, o = .returned v) (hW : (s.setDrawn d0).WarmedH t.vm) (hs : (s.setDrawn d0).sameButNew ({ t with vm := s.vm } : State) L k n) : State.butDraws s t lw_cs (fun t1 => Framed s o t1 L k n) := by
  have h2 : t.drawn = d0 := congrArg State.drawn hs.1
  refine ⟨⟨hv, hW, State.sameButNew.setDrawn hs s.drawn⟩, ?_, by decide⟩
  rw [h2]
  exact hd0
def lw_Q (_ : Array Value) (s : State) (o : Outcome) (t : State) : Prop := o = .returned (some (.int 1)) ∧ State.butDraws s t lw_cs (fun t1 => Framed s o t1 [] room_1.cells room_1.slots)
def lw_Z (below : List Frame) (a : Array Value) (s : State) : State → Prop := fun t => ∃ o, t.status = .running ∧ Ended t below o ∧ lw_Q a s o t
/-- the law's own end, with 1 on the stack, nothing written that was there before, its room as the claim has it; d0: the record of draws at this point (at the entry s.drawn: begin with 'refine W.base ?_' and 'have hd0 := Drawn.sameBut.refl s.drawn lw_cs') -/
theorem lw_ret {p : Program} {l : Launch} {e : Env} {s : State} {m : MethodId} {below : List Frame} {meth : Method} {c : Code} {b : Nat} {d0 : Drawn} (hd0 : s.drawn.sameBut d0 lw_cs) (hx : p.tables.exec = Jvm.exec) (hb : c.code = code) (hr : meth.sig.returnType = ret) (hlocks : meth.locks = false) {pc : Nat} {H : Heap} {ls : Array Slot} (hdg : decode code pc = .ok (.ireturn, 1)) : W p l e room_1 (s.setDrawn d0) m #[Value.ref b] below meth c H [] room_1.cells room_1.slots (lw_Z below #[Value.ref b] s) (F0 m pc ls [.int 1]) := by
  intro T hT X
  obtain ⟨fs, hret, hrun, hended, hW, hframe⟩ := X.leave (v := some (.int 1)) (hlocks := hlocks) (fun h => by rw [hr] at h; cases h)
  have hmeth' : T.vm.method? m = some meth := X.method'
  refine ⟨T.setFrames fs, ?_, .returned (some (.int 1)), hrun, hended, rfl, lw_closed hd0 ⟨_, rfl⟩ hW hframe⟩
  jvm_step X.here [X.here.top, hx, hb, hdg, hmeth', hr, ret, narrow_b1]
  (try refine ⟨rfl, ?_⟩); (try refine ⟨rfl, ?_⟩)
  first | (intro acts; rw [hret _ acts rfl rfl rfl]) | rw [hret _ _ rfl rfl rfl]
  exact Steps.refl _
/-- what holds at the law's entry: the machine, the code, the tables' words (any of lw_tbl by 'hts w (by decide +kernel)'), the script of L ints xs at the cell b, what the Statement gives of the start (any of its parts by flat_of_before) -/
def lw_At (p : Program) (s : State) (m : MethodId) (meth : Method) (c : Code) (b L : Nat) (xs : Nat → Int32) : Prop :=
  p.tables.exec = Jvm.exec ∧ c.code = code ∧ meth.sig.returnType = ret ∧ c.maxLocals = 18 ∧ s.vm.findClass R_law = some m.cls ∧ (∀ w ∈ lw_tbl, w.before #[Value.ref b] s = true) ∧ va_X b L xs s s.heap ∧ b < s.heap.size ∧ meth.locks = false ∧ (Jvm.Cond.and given_1 narrow_1).before #[Value.ref b] s = true
set_option maxHeartbeats 4000000 in
/-- from the entry, for every script of at most 260 ints, the law comes to its end with true -/
theorem whole_start {p : Program} {e : Env} {s : State} {m : MethodId} {below : List Frame} {meth : Method} {c : Code} (l : Launch) (hflags : l.flags = flags0) {b L : Nat} {xs : Nat → Int32} (hL : L ≤ 260) (C0 : lw_At p s m meth c b L xs) : W p l e room_1 s m #[Value.ref b] below meth c s.heap [] 0 0 (lw_Z below #[Value.ref b] s) (entryFrame m ([Value.ref b] : List Value).toArray 18) := by
  obtain ⟨hx, hb, hr, hml, hown, hts, hXs, hbl, hlocks, hgv⟩ := id C0
  have hst : l.stackTraces = false := by
    unfold Launch.stackTraces
    rw [hflags]
    decide +kernel
  obtain ⟨G, hT, hZ⟩ := tables_start hts hgv
  have C : kC G s.heap.size p m c cL_law 18 s #[Value.ref b] wsL_law RL := ⟨⟨hx, hb, hml, hown, fun w hw => hts w (wsL_law_in w hw)⟩, hT, hZ⟩
  have hbA : ¬ kAb s.heap.size b := Nat.not_le.mpr hbl
  have hX : kX G s.heap.size s (fun _ => none) s.heap [] := ⟨⟨[], fun a => by simp, fun k q h => by simp [va_pl] at h, ⟨fun i j p q h => by simp [va_pl] at h, fun k q h => by simp [va_pl] at h⟩⟩, va_S.rf⟩
  have hl := lv_entry ([.ref b]) (n := 18) (Nat.le_of_ble_eq_true rfl)
  rw [lg_entry_eq]
  generalize (lg_sl ([.ref b]) ++ List.replicate (18 - (lg_sl ([.ref b])).length) Slot.unset).toArray = ls at hl ⊢
  have hl : lv_has ls 18 [(0, .ref b)] := hl
  refine k_calli (va_runS (As := []) (rest := []) C.1 (pL_nets hst) (va_cwS 0 C.ts (gl_same inv_L_nets) rfl rfl rfl hdP_L_nets ⟨Nat.le_of_ble_eq_true rfl, Nat.le_of_ble_eq_true rfl⟩) (k_preS C hX) rfl rfl hl.1 rfl (lv_room (Nat.le_of_ble_eq_true rfl)) dL_law_0 ⟨Nat.le_of_ble_eq_true rfl, Nat.le_of_ble_eq_true rfl⟩) hX (fun r f H locs hp hX => ?_)
  obtain ⟨hr1, -⟩ := hp
  subst hr1
  refine lv_if_ne (tgt := 8) C.x C.b dL_law_3 (by decide) (fun _ => ?_) (fun q9 => absurd q9 (by decide))
  refine k_new (X := RX8) (T := TX8) (N := 7) (ci := 8) (fs := [.null, .null, .null, .null, .null, .null, .null]) C hX inlX8 tyX8_ok in_new rfl (by decide) (Nat.le_of_ble_eq_true rfl) (Nat.le_of_ble_eq_true rfl) dL_law_8 (fun h H hn hX => ?_)
  refine lv_dup C.x C.b dL_law_11 rfl ?_
  have h0 : kCs (kst f h (.inr (8, [.null, .null, .null, .null, .null, .null, .null]))) [(h, .inr (8, [.null, .null, .null, .null, .null, .null, .null]))] := ⟨fun q hq => by rw [List.mem_singleton.mp hq]; exact kst_s _ _ _, by simp⟩
  refine k_callv (va_runI (As := []) (rest := [.ref h]) C.1 (kX8_init l G s.heap.size _ h h0) (cwI 0 C.ts (gl_same inw_X8_init) rfl rfl rfl (C.ts (.initialized RX8) (in_ini _ (by simp))) (C.ts (.methodLink RL 126 yX8_init) (in_ini _ (by simp))) (C.ts (.instanceMethod yX8_init) (in_ini _ (by simp))) rfl hdA_X8_init ⟨Nat.le_of_ble_eq_true rfl, Nat.le_of_ble_eq_true rfl⟩) (k_preS C hX) rfl rfl hl.1 rfl (lv_room (Nat.le_of_ble_eq_true rfl)) dL_law_12 ⟨Nat.le_of_ble_eq_true rfl, Nat.le_of_ble_eq_true rfl⟩) hX (fun f2 H locs hp hX => ?_)
  obtain ⟨sp, nA, tA, dl, gl, rw9, sA, wA, ml, pp, nn, wL, qm, rm9, h1, -, -⟩ := hp
  have hI : Inv G h f2 p0 := Inv_start h1
  refine lv_astore_n (lv' := [(1, .ref h), (0, .ref b)]) C.x C.b dL_law_15 rfl hl (by decide) rfl (fun ls hl => ?_)
  refine lv_iconst (v := nI 0) C.x C.b dL_law_16 (by decide) ?_
  refine lv_istore_n (lv' := [(2, .int (nI 0)), (1, .ref h), (0, .ref b)]) C.x C.b dL_law_17 rfl hl (by decide) rfl (fun ls hl => ?_)
  refine lv_iconst (v := nI 0) C.x C.b dL_law_18 (by decide) ?_
  refine lv_istore_n (lv' := [(3, .int (nI 0)), (2, .int (nI 0)), (1, .ref h), (0, .ref b)]) C.x C.b dL_law_19 rfl hl (by decide) rfl (fun ls hl => ?_)
  refine lv_iconst (v := nI 0) C.x C.b dL_law_20 (by decide) ?_
  refine lv_istore (lv' := [(4, .int (nI 0)), (3, .int (nI 0)), (2, .int (nI 0)), (1, .ref h), (0, .ref b)]) C.x C.b dL_law_21 hl (by decide) rfl (fun ls hl => ?_)
  refine lv_iconst (v := nI 2) C.x C.b dL_law_23 (by decide) ?_
  refine lv_istore (lv' := [(5, .int (nI 2)), (4, .int (nI 0)), (3, .int (nI 0)), (2, .int (nI 0)), (1, .ref h), (0, .ref b)]) C.x C.b dL_law_24 hl (by decide) rfl (fun ls hl => ?_)
  refine lv_iconst (v := nI 0) C.x C.b dL_law_26 (by decide) ?_
  refine lv_istore (lv' := [(6, .int (nI 0)), (5, .int (nI 2)), (4, .int (nI 0)), (3, .int (nI 0)), (2, .int (nI 0)), (1, .ref h), (0, .ref b)]) C.x C.b dL_law_27 hl (by decide) rfl (fun ls hl => ?_)
  refine lv_iconst (v := nI 0) C.x C.b dL_law_29 (by decide) ?_
  refine lv_istore (lv' := [(7, .int (nI 0)), (6, .int (nI 0)), (5, .int (nI 2)), (4, .int (nI 0)), (3, .int (nI 0)), (2, .int (nI 0)), (1, .ref h), (0, .ref b)]) C.x C.b dL_law_30 hl (by decide) rfl (fun ls hl => ?_)
  refine law_loop (R := room_1) (h := h) hst C hXs hbl hbA hL ⟨Nat.le_of_ble_eq_true rfl, Nat.le_of_ble_eq_true rfl⟩ ⟨Nat.le_of_ble_eq_true rfl, Nat.le_of_ble_eq_true rfl⟩ (fun f H locs ls hX => ?_) 71 0 _ _ _ _ _ p0 ls (Nat.zero_le _) (Nat.le_refl _) (by exact Nat.le_of_ble_eq_true rfl) (by exact Nat.le_of_ble_eq_true rfl) hX hI dInv_0 (lv_sub hl [7, 6, 5, 4, 3, 2, 1, 0] rfl)
  refine lv_iconst (v := 1) C.x C.b dL_law_1238 (by decide) ?_
  refine va_forget (fun q hq => hX.2.2.2 q hq) ?_
  refine W.widen (k := room_1.cells) (n := room_1.slots) (Nat.le_of_ble_eq_true rfl) (Nat.le_of_ble_eq_true rfl) ?_
  exact W.base (lw_ret (Drawn.sameBut.refl s.drawn lw_cs) C.x C.b hr hlocks dL_law_1239)
