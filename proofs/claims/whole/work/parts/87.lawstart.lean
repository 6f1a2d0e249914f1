/-! THE CLAIM OUT OF ONE WALK OF THE LAW'S BODY. Your part is whole_start (and what it stands on); all else here is the same for every law, but numbers. -/
def R_law : String := "KoebehallLaw"
def lw_P (b : Addr) (xs : List Int32) (args : Array Value) (s : State) : Prop := args = #[.ref b] ∧ s.IntsAt b xs ∧ xs.length ≤ 3072 ∧ (Jvm.Cond.and given_1 narrow_1).before args s = true
/-- what a walk over the start with the record d0 says of its end, said of the start itself -/
theorem lw_closed {s t : State} {o : Outcome} {d0 : Drawn} {L : List Loc} {k n : Nat} (hd0 : s.drawn.sameBut d0 lw_cs) (hv : ∃ v, o = .returned v) (hW : (s.setDrawn d0).WarmedH t.vm) (hs : (s.setDrawn d0).sameButNew ({ t with vm := s.vm } : State) L k n) : State.butDraws s t lw_cs (fun t1 => Framed s o t1 L k n) := by
  have h2 : t.drawn = d0 := congrArg State.drawn hs.1
  refine ⟨⟨hv, hW, State.sameButNew.setDrawn hs s.drawn⟩, ?_, by decide⟩
  rw [h2]
  exact hd0
def lw_Q (_ : Array Value) (s : State) (o : Outcome) (t : State) : Prop := o = .returned (some (.int 1)) ∧ State.butDraws s t lw_cs (fun t1 => Framed s o t1 [] 601024 7293034)
def lw_Z (below : List Frame) (a : Array Value) (s : State) : State → Prop := fun t => ∃ o, t.status = .running ∧ Ended t below o ∧ lw_Q a s o t
/-- the law's own end, with 1 on the stack, nothing written that was there before, its room as the claim has it; d0: the record of draws at this point (at the entry s.drawn: begin with 'refine W.base ?_' and 'have hd0 := Drawn.sameBut.refl s.drawn lw_cs') -/
theorem lw_ret {p : Program} {l : Launch} {e : Env} {s : State} {m : MethodId} {below : List Frame} {meth : Method} {c : Code} {b : Nat} {d0 : Drawn} (hd0 : s.drawn.sameBut d0 lw_cs) (hx : p.tables.exec = Jvm.exec) (hb : c.code = code) (hr : meth.sig.returnType = ret) (hlocks : meth.locks = false) {pc : Nat} {H : Heap} {ls : Array Slot} (hdg : decode code pc = .ok (.ireturn, 1)) : W p l e room_1 (s.setDrawn d0) m #[Value.ref b] below meth c H [] 601024 7293034 (lw_Z below #[Value.ref b] s) (F0 m pc ls [.int 1]) := by
  intro T hT X
  obtain ⟨fs, hret, hrun, hended, hW, hframe⟩ := X.leave (v := some (.int 1)) (hlocks := hlocks) (fun h => by rw [hr] at h; cases h)
  have hmeth' : T.vm.method? m = some meth := X.method'
  refine ⟨T.setFrames fs, ?_, .returned (some (.int 1)), hrun, hended, rfl, lw_closed hd0 ⟨_, rfl⟩ hW hframe⟩
  jvm_step X.here [X.here.top, hx, hb, hdg, hmeth', hr, ret, narrow_b1]
  (try refine ⟨rfl, ?_⟩); (try refine ⟨rfl, ?_⟩)
  first | (intro acts; rw [hret _ acts rfl rfl rfl]) | rw [hret _ _ rfl rfl rfl]
  exact Steps.refl _
/-- what holds at the law's entry: the machine, the code, the tables' words (any of lw_tbl by 'hts w (by decide +kernel)'), the script of L ints xs at the cell b, what the Statement gives of the start (any of its parts by flat_of_before) -/
def lw_At (p : Program) (s : State) (m : MethodId) (meth : Method) (c : Code) (b L : Nat) (xs : Nat → Int32) : Prop :=
  p.tables.exec = Jvm.exec ∧ c.code = code ∧ meth.sig.returnType = ret ∧ c.maxLocals = 9 ∧ s.vm.findClass R_law = some m.cls ∧ (∀ w ∈ lw_tbl, w.before #[Value.ref b] s = true) ∧ va_X b L xs s s.heap ∧ b < s.heap.size ∧ meth.locks = false ∧ (Jvm.Cond.and given_1 narrow_1).before #[Value.ref b] s = true
theorem in_law1 : ∀ w ∈ [Cond.classLink RL 8 RX8, Cond.instantiable RX8 7, Cond.initialized RX8], w ∈ wsL_law := by decide +kernel
theorem in_law2 : ∀ w ∈ [Cond.classLink RL 103 RX9, Cond.instantiable RX9 28, Cond.initialized RX9], w ∈ wsL_law := by decide +kernel
theorem in_law3 : ∀ w ∈ [Cond.arrayClass .long, Cond.arrayClass .double, Cond.initialized RX8, Cond.methodLink RL 102 yX8_init, Cond.instanceMethod yX8_init, Cond.initialized RX9, Cond.methodLink RL 105 yX9_init, Cond.instanceMethod yX9_init], w ∈ wsL_law := by decide +kernel
theorem hdW_X8_init : yX8_init.cls ≠ "java/lang/invoke/MethodHandle" ∧ yX8_init.cls ≠ "java/lang/invoke/VarHandle" ∧ (parseMethodDescriptor yX8_init.desc).map (fun d => d.parameters.length) = some 0 := by decide +kernel
theorem hdW_X9_init : yX9_init.cls ≠ "java/lang/invoke/MethodHandle" ∧ yX9_init.cls ≠ "java/lang/invoke/VarHandle" ∧ (parseMethodDescriptor yX9_init.desc).map (fun d => d.parameters.length) = some 0 := by decide +kernel
set_option maxHeartbeats 4000000 in
/-- from the entry, for every script of at most 3072 ints, the law comes to its end with true -/
theorem whole_start {p : Program} {e : Env} {s : State} {m : MethodId} {below : List Frame} {meth : Method} {c : Code} (l : Launch) (hflags : l.flags = flags0) {b L : Nat} {xs : Nat → Int32} (hL : L ≤ 3072) (C0 : lw_At p s m meth c b L xs) : W p l e room_1 s m #[Value.ref b] below meth c s.heap [] 0 0 (lw_Z below #[Value.ref b] s) (entryFrame m ([Value.ref b] : List Value).toArray 9) := by
  obtain ⟨hx, hb, hr, hml, hown, hts, hXs, hbl, hlocks, hgv⟩ := id C0
  have hst : l.stackTraces = false := by
    unfold Launch.stackTraces
    rw [hflags]
    decide +kernel
  obtain ⟨G, hT, hZ⟩ := tables_start hts hgv
  have C : kC G s.heap.size p m c cL_law 9 s #[Value.ref b] wsL_law RL := ⟨⟨hx, hb, hml, hown, fun w hw => hts w (wsL_law_in w hw)⟩, hT, hZ⟩
  have hbA : ¬ kAb s.heap.size b := Nat.not_le.mpr hbl
  have hX : kX G s.heap.size s (fun _ => none) s.heap [] := ⟨⟨[], fun a => by simp, fun k q h => by simp [va_pl] at h, ⟨fun i j p q h => by simp [va_pl] at h, fun k q h => by simp [va_pl] at h⟩⟩, va_S.rf⟩
  have hl := lv_entry ([.ref b]) (n := 9) (Nat.le_of_ble_eq_true rfl)
  rw [lg_entry_eq]
  generalize (lg_sl ([.ref b]) ++ List.replicate (9 - (lg_sl ([.ref b])).length) Slot.unset).toArray = ls at hl ⊢
  have hl : lv_has ls 9 [(0, .ref b)] := hl
  refine k_new (X := RX8) (T := TX8) (N := 7) (ci := 8) (fs := [.null, .null, .null, .null, .null, .null, .null]) C hX inlX8 tyX8_ok in_law1 rfl (by decide) (Nat.le_of_ble_eq_true rfl) (Nat.le_of_ble_eq_true rfl) dL_law_0 (fun h H hn hX => ?_)
  refine lv_dup C.x C.b dL_law_3 rfl ?_
  have h0 : kCs (kst (fun _ => none) h (.inr (8, [.null, .null, .null, .null, .null, .null, .null]))) [(h, .inr (8, [.null, .null, .null, .null, .null, .null, .null]))] := ⟨fun q hq => by rw [List.mem_singleton.mp hq]; exact kst_s _ _ _, by simp⟩
  refine k_callv (va_runI (As := []) (rest := [.ref h]) C.1 (kX8_init l G s.heap.size _ h h0) (cwI 0 C.ts gL_law_X8_init rfl rfl rfl (C.ts (.initialized RX8) (in_law3 _ (by simp))) (C.ts (.methodLink RL 102 yX8_init) (in_law3 _ (by simp))) (C.ts (.instanceMethod yX8_init) (in_law3 _ (by simp))) rfl hdW_X8_init ⟨Nat.le_of_ble_eq_true rfl, Nat.le_of_ble_eq_true rfl⟩) (k_preS C hX) rfl rfl hl.1 rfl (lv_room (Nat.le_of_ble_eq_true rfl)) dL_law_4 ⟨Nat.le_of_ble_eq_true rfl, Nat.le_of_ble_eq_true rfl⟩) hX (fun f2 H locs hp hX => ?_)
  obtain ⟨sp, nA, tA, dl, gl, rw, sA, wA, ml, pp, nn, wL, qm, rm9, h1, -, -⟩ := hp
  refine lv_astore_n (lv' := [(1, .ref h), (0, .ref b)]) C.x C.b dL_law_7 rfl hl (by decide) rfl (fun ls hl => ?_)
  refine k_new (X := RX9) (T := TX9) (N := 28) (ci := 9) (fs := [.int 0, .int 0, .null, .int 0, .null, .null, .null, .int 0, .null, .null, .null, .null, .null, .null, .null, .null, .long 0, .long 0, .int 0, .null, .null, .null, .int 0, .int 0, .null, .null, .null, .int 0]) C hX inlX9 tyX9_ok in_law2 rfl (by decide) (Nat.le_of_ble_eq_true rfl) (Nat.le_of_ble_eq_true rfl) dL_law_8 (fun hm H hm2 hX => ?_)
  refine lv_dup C.x C.b dL_law_11 rfl ?_
  have h3 : kCs (kst f2 hm (.inr (9, [.int 0, .int 0, .null, .int 0, .null, .null, .null, .int 0, .null, .null, .null, .null, .null, .null, .null, .null, .long 0, .long 0, .int 0, .null, .null, .null, .int 0, .int 0, .null, .null, .null, .int 0]))) [(hm, .inr (9, [.int 0, .int 0, .null, .int 0, .null, .null, .null, .int 0, .null, .null, .null, .null, .null, .null, .null, .null, .long 0, .long 0, .int 0, .null, .null, .null, .int 0, .int 0, .null, .null, .null, .int 0]))] := ⟨fun q hq => by rw [List.mem_singleton.mp hq]; exact kst_s _ _ _, by simp⟩
  refine k_callv (va_runI (As := []) (rest := [.ref hm]) C.1 (kX9_init l G s.heap.size _ hm h3) (cwI 0 C.ts gL_law_X9_init rfl rfl rfl (C.ts (.initialized RX9) (in_law3 _ (by simp))) (C.ts (.methodLink RL 105 yX9_init) (in_law3 _ (by simp))) (C.ts (.instanceMethod yX9_init) (in_law3 _ (by simp))) rfl hdW_X9_init ⟨Nat.le_of_ble_eq_true rfl, Nat.le_of_ble_eq_true rfl⟩) (k_preS C hX) rfl rfl hl.1 rfl (lv_room (Nat.le_of_ble_eq_true rfl)) dL_law_12 ⟨Nat.le_of_ble_eq_true rfl, Nat.le_of_ble_eq_true rfl⟩) hX (fun f4 H locs hp hX => ?_)
  obtain ⟨q, h4, hk4, hq4⟩ := hp
  refine lv_astore_n (lv' := [(2, .ref hm), (1, .ref h), (0, .ref b)]) C.x C.b dL_law_15 rfl hl (by decide) rfl (fun ls hl => ?_)
  refine lv_iconst (v := nI 1) C.x C.b dL_law_16 (by decide) ?_
  refine k_newaJ (atype := .long) (R9 := 1) C hX (C.ts (.arrayClass .long) (in_law3 _ (by simp))) rfl (by decide) (by decide) (Nat.le_of_ble_eq_true rfl) (Nat.le_of_ble_eq_true rfl) (by decide) dL_law_17 (fun po H hpo hX => ?_)
  refine lv_astore_n (lv' := [(3, .ref po), (2, .ref hm), (1, .ref h), (0, .ref b)]) C.x C.b dL_law_19 rfl hl (by decide) rfl (fun ls hl => ?_)
  refine lv_iconst (v := nI 1) C.x C.b dL_law_20 (by decide) ?_
  refine k_newaD (atype := .double) (R9 := 1) C hX (C.ts (.arrayClass .double) (in_law3 _ (by simp))) rfl (by decide) (by decide) (Nat.le_of_ble_eq_true rfl) (Nat.le_of_ble_eq_true rfl) (by decide) dL_law_21 (fun pd H hpd hX => ?_)
  refine lv_astore (lv' := [(4, .ref pd), (3, .ref po), (2, .ref hm), (1, .ref h), (0, .ref b)]) C.x C.b dL_law_23 hl (by decide) rfl (fun ls hl => ?_)
  refine lv_iconst (v := nI 0) C.x C.b dL_law_25 (by decide) ?_
  refine lv_istore (lv' := [(5, .int (nI 0)), (4, .ref pd), (3, .ref po), (2, .ref hm), (1, .ref h), (0, .ref b)]) C.x C.b dL_law_26 hl (by decide) rfl (fun ls hl => ?_)
  have hpp : pd ≠ po := fun z => by
    rw [z, kst_s] at hpd
    cases hpd
  have hpd4 : f4 pd = none := by
    rw [kst_n _ _ hpp] at hpd
    exact hpd
  have hI : Inv G h hm po pd _ (m0S q) := Inv_start (f2 := f2) (f4 := f4) h1 hm2 (fun a e n h => hk4 a e n (by rw [kst_n _ _ n]; exact h)) h4 (fun a ha => by
    by_cases z : a = hm
    · rw [z]; exact hm2
    · rcases hq4 a ha with y | y
      · exact absurd y z
      · rw [kst_n _ _ z] at y
        exact y) hpo hpd4 hpp rfl
  refine law_loop (R := room_1) (h := h) (hm := hm) (po := po) (pd := pd) hst C hXs hbl hbA hL ⟨Nat.le_of_ble_eq_true rfl, Nat.le_of_ble_eq_true rfl⟩ ⟨Nat.le_of_ble_eq_true rfl, Nat.le_of_ble_eq_true rfl⟩ (fun f H locs ls hX => ?_) (L + 1) 0 _ _ _ _ _ (m0S q) ls (Nat.zero_le _) (by omega) (by exact Nat.le_of_ble_eq_true rfl) (by exact Nat.le_of_ble_eq_true rfl) hX hI (lv_sub hl [5, 4, 3, 2, 1, 0] rfl)
  refine lv_iconst (v := 1) C.x C.b dL_law_2179 (by decide) ?_
  refine va_forget (fun q hq => hX.2.2.2 q hq) ?_
  exact W.base (lw_ret (Drawn.sameBut.refl s.drawn lw_cs) C.x C.b hr hlocks dL_law_2180)
