/-! the law's own bodies: a call of the class, its answer put down, or a number for what was thrown -/
abbrev rmL (rm : Room) : Room := { frames := rm.frames + 1, cells := rm.cells, slots := rm.slots, locals := rm.locals + 40 }
/-- a contract of what catches, out of a walk -/
theorem kMetH {l : Launch} {y : MethodName} {ws ws' : List Cond} {rm : Room} {G : kG} {B0 : Nat} {f : kH} {av : List Value} {Qc : Array Value → State → Outcome → State → Prop} {XC : String → State → State → Prop} {mc ms : Nat} {cc : ByteArray} {maxL : Nat} {ret : Option FieldType} {hh : List (Nat × Nat × Nat × Nat)} (hy : plainName y.cls = true) (hw : ws = Cond.codeWith y cc maxL ret hh :: ws') (hav : (lg_sl av).length ≤ maxL)
    (body : ∀ (p : Program) (e : Env) (s : State) (m : MethodId) (args : Array Value) (below : List Frame) (meth : Method) (c : Code) (H : Heap) (locs : List Loc) (Q : State → Prop) (ls : Array Slot), kC G B0 p m c cc maxL s args ws y.cls → kX G B0 s f H locs → lv_has ls maxL (lv_args 0 av) → meth.sig.returnType = ret → meth.locks = false → Q = vx_MQ below Qc XC args s mc ms (kAb B0) → c.exceptionTable.toList = tableOf hh →
      W p l e rm s m args below meth c H locs 0 0 Q (F0 m 0 ls [])) : vx_Met l y ws rm (kP G B0 f av) Qc XC mc ms (kAb B0) := by
  refine vx_ofWH (cc := cc) (maxL := maxL) (ret := ret) (hh := hh) hy hw ?_
  intro p e s m args below meth c s₁ B hml hv
  obtain ⟨rfl, hW, hT, hZ⟩ := hv
  have hl := lv_entry av (n := maxL) hav
  have hts := atoms_spec (ws := ws) B.pre
  have htab := vx_table (x := y) B (hts (Cond.codeWith y cc maxL ret hh) (by rw [hw]; exact List.mem_cons_self))
  rw [lg_entry_eq]
  exact body p e s m _ below meth c _ [] _ _ ⟨⟨B.exec, B.bytes, hml, findClass_of_methodNamed B.named, hts⟩, hT, hZ⟩ ⟨hW, va_S.rf⟩ hl B.returns B.notSynchronized rfl htab
abbrev kXN (G : kG) (B0 : Nat) : String → State → State → Prop := kXC G B0 "" (fun _ => False)
theorem vp_in01 : vp_in (nI 0) 1 := by unfold vp_in; decide
section KL
variable {p : Program} {l : Launch} {e : Env} {R : Room} {s : State} {m : MethodId} {args : Array Value} {below : List Frame} {meth : Method} {c : Code} {H : Heap} {locs : List Loc} {cells slots : Nat} {Q : State → Prop}
variable {cc : ByteArray} {pc : Nat} {ls : Array Slot} {rest st0 : List Value} {G : kG} {B0 nL : Nat} {f : kH} {Ts : List Cond} {own : String} {a : Nat} {mc ms mc1 ms1 : Nat} {XC : String → State → State → Prop}
theorem k_iretX {post : Int32 → kH → Prop} {v : Int32} (C : kC G B0 p m c cc nL s args Ts own) (hX : kX G B0 s f H locs) (hr : meth.sig.returnType = some .int) (hlocks : meth.locks = false) (hQ : Q = vx_MQ below (kQi G B0 post) XC args s mc ms (kAb B0)) (hc : cells ≤ mc) (hs : slots ≤ ms) (hp : post v f) (hdg : decode cc pc = .ok (.ireturn, 1)) : W p l e R s m args below meth c H locs cells slots Q (F0 m pc ls [.int v]) := by
  subst hQ
  exact vx_ret (k_iret C hX hr hlocks rfl hc hs hp hdg)
theorem k_dast (C : kC G B0 p m c cc nL s args Ts own) (hX : kX G B0 s f H locs) {n : Nat} {g : Nat → UInt64} (ha : f a = some (kaD G n g)) {i : Int32} {x : UInt64} (hin : vp_in i n) (hdg : decode cc pc = .ok (.dastore, 1))
    (kk : ∀ (H1 : Heap) (locs1 : List Loc), kX G B0 s (kst f a (kaD G n (vf_upd g i.toNatClampNeg x))) H1 locs1 → W p l e R s m args below meth c H1 locs1 cells slots Q (F0 m (pc + 1) ls rest)) : W p l e R s m args below meth c H locs cells slots Q (F0 m pc ls (.double x :: .int i :: .ref a :: rest)) := by
  obtain ⟨L, hL, hP, hD⟩ := hX.P
  obtain ⟨hm, q0, h1, h2⟩ := kX.look ha hL
  exact va_dast (D := G.1) (cl := vwCl) C.x C.b C.K hP hD hX.2 q0 5 h2 rfl hin hdg fun H1 locs1 hP1 hD1 hS1 => kk H1 locs1 (kX.back hL hD hm h1 hP1 hD1 hS1)
theorem k_catX {cls : String} {post : kH → Prop} (C : kC G B0 p m c cc nL s args Ts own) (hr : vx_Run p l e R s m args below meth c H locs cells slots mc ms (F0 m pc ls st0) rest (fun _ _ _ => False) (kXC G B0 cls post) (kAb B0)) (hX : kX G B0 s f H locs)
    (pre : List (Nat × Nat × Nat × Nat)) (x : Nat × Nat × Nat × Nat) (suf : List (Nat × Nat × Nat × Nat)) (htab : c.exceptionTable.toList = tableOf (pre ++ x :: suf))
    (hpass : ∀ z ∈ pre, z.2.2.2 ≠ 0 ∧ ∃ nm : String, Cond.classLink own z.2.2.2 nm ∈ Ts ∧ (cls, nm) ∈ kNcs) (hx : covers ⟨x.1, x.2.1, x.2.2.1, x.2.2.2⟩ pc = true) (h0 : x.2.2.2 ≠ 0) (hlink : Cond.classLink own x.2.2.2 cls ∈ Ts) (hins : Cond.instantiable cls 6 ∈ Ts)
    (kk : ∀ (q : Nat) (f1 : kH) (H1 : Heap) (locs1 : List Loc), post f1 → kX G B0 s f1 H1 locs1 → W p l e R s m args below meth c H1 locs1 (cells + mc) (slots + ms) Q (F0 m x.2.2.1 ls [.ref q])) : W p l e R s m args below meth c H locs cells slots Q (F0 m pc ls st0) := by
  intro T hT X
  rcases hr T hT X with ⟨v, st₀, t, T', L, h0, X', hL, e1, e2, hF, st⟩ | ⟨q, st₀, t, T', L, E, ce, h0', X', hL, e1, e2, ⟨u, hp, ⟨hE, hb⟩, hF⟩, hce, hcv, hcl, st⟩
  · exact hF.elim
  · obtain ⟨k1, k2, k3⟩ := vx_keep (A1 := kAb B0) (free := kAb B0) h0' e1 hX.2 (fun _ _ h => h) (fun _ h => h) hL hF
    subst hE
    obtain ⟨t2, a1, b1⟩ := vx_catch (p := p) (l := l) (e := e) (R := R) (H := T'.heap) (pc := pc) (ls := ls) (rest := rest) (Q := Q) (below := below) (args := args) (cells := cells + mc) (slots := slots + ms) C.ow (tableOf pre) ⟨x.1, x.2.1, x.2.2.1, x.2.2.2⟩ (tableOf suf) (by rw [htab]; simp [tableOf])
      (fun z hz => by
        obtain ⟨z9, hz9, rfl⟩ := List.mem_map.mp hz
        obtain ⟨n1, nm, n2, n3⟩ := hpass z9 hz9
        exact Or.inr ⟨n1, nm, C.ts _ n2, C.2.1.2.2.2.2.1 _ n3⟩)
      hx h0 (C.ts _ hlink) (k_selfcast (C.ts _ hins)) (by rw [e1]; exact hce) hcv hcl (kk q u T'.heap _ hp ⟨by rw [e1]; exact hb, k3⟩) T' rfl X'
    exact ⟨t2, st.trans a1, b1⟩
end KL
theorem hdL_split_X8_split : yX8_split.cls ≠ "java/lang/invoke/MethodHandle" ∧ yX8_split.cls ≠ "java/lang/invoke/VarHandle" ∧ (parseMethodDescriptor yX8_split.desc).map (fun d => d.parameters.length) = some 1 := by decide +kernel
theorem lk_L_split_o : Cond.classLink RL 13 "java/lang/IndexOutOfBoundsException" ∈ wsL_split := by decide +kernel
theorem in_L_split_o : Cond.instantiable "java/lang/IndexOutOfBoundsException" 6 ∈ wsL_split := by decide +kernel
theorem lk_L_split_s : Cond.classLink RL 15 "java/lang/IllegalStateException" ∈ wsL_split := by decide +kernel
theorem in_L_split_s : Cond.instantiable "java/lang/IllegalStateException" 6 ∈ wsL_split := by decide +kernel
theorem kL_split_g (l : Launch) (G : kG) (B0 : Nat) (f : kH) (h po : Nat) (x1 : Int32) {vs : List Value} (hh : f h = some (.inr (8, vs))) {rm : Room} {mc ms : Nat} (hrc : rm.cells = mc) (hrs : rm.slots = ms) {Φ : Int32 → kH → Prop} (hc : Met l yX8_split wsX8_split rm (kP G B0 f [.ref h, .int x1]) (kQi G B0 Φ) mc ms (kAb B0)) (ho : ∀ r f1, Φ r f1 → ∃ g, f1 po = some (kaJ G 1 g)) : vx_Met l yL_split wsL_split (rmL rm) (kP G B0 f [.ref h, .int x1, .ref po]) (kQi G B0 (fun r f2 => r = nI 0 ∧ ∃ r0 f1 g, Φ r0 f1 ∧ f1 po = some (kaJ G 1 g) ∧ f2 = kst f1 po (kaJ G 1 (vp_updL g 0 r0.toInt64)))) (kXN G B0) mc ms (kAb B0) := by
  refine kMetH (cc := cL_split) (maxL := 4) (ret := (some .int)) (hh := [(0, 9, 12, 13), (0, 9, 15, 15)]) (by decide) rfl (Nat.le_of_ble_eq_true rfl) ?_
  intro p e s m args below meth c H locs Q ls C hX hl hr hlocks hQ htab
  have hl : lv_has ls 4 [(0, .ref h), (1, .int x1), (2, .ref po)] := hl
  refine lv_aload_n C.x C.b dL_split_0 rfl (lv_at hl 2 rfl) ?_
  refine lv_iconst (v := nI 0) C.x C.b dL_split_1 (by decide) ?_
  refine lv_aload_n C.x C.b dL_split_2 rfl (lv_at hl 0 rfl) ?_
  refine lv_iload_n C.x C.b dL_split_3 rfl (lv_at hl 1 rfl) ?_
  refine k_calli (va_runV (As := [.int x1]) (rest := [.int (nI 0), .ref po]) C.1 hc (cwV 1 C.ts gL_split_X8_split rfl hrc hrs ⟨rfl, hdL_split_X8_split⟩ ⟨Nat.le_refl _, by show 8 + (_ + 11) + rm.locals ≤ rm.locals + 40; omega⟩) (k_preV C hX hh rfl) rfl rfl hl.1 rfl (lv_room (Nat.le_of_ble_eq_true rfl)) dL_split_4 ⟨by show 0 + mc ≤ rm.cells; omega, by show 0 + ms ≤ rm.slots; omega⟩) hX (fun r0 f1 H locs hp hX => ?_)
  obtain ⟨g, hg⟩ := ho r0 f1 hp
  refine lv_i2l (v := r0.toInt64) C.x C.b dL_split_7 rfl ?_
  refine k_last C hX hg vp_in01 dL_split_8 (fun H locs hX => ?_)
  refine lv_goto (tgt := 18) C.x C.b dL_split_9 (by decide) ?_
  refine lv_iconst (v := nI 0) C.x C.b dL_split_18 (by decide) ?_
  exact k_iretX C hX hr hlocks hQ (by omega) (by omega) ⟨rfl, r0, f1, g, hp, hg, rfl⟩ dL_split_19
theorem kL_split_o (l : Launch) (G : kG) (B0 : Nat) (f : kH) (h po : Nat) (x1 : Int32) {vs : List Value} (hh : f h = some (.inr (8, vs))) {rm : Room} {mc ms : Nat} (hrc : rm.cells = mc) (hrs : rm.slots = ms) {post : kH → Prop} (hc : vx_Met l yX8_split wsX8_split rm (kP G B0 f [.ref h, .int x1]) kNo (kXC G B0 "java/lang/IndexOutOfBoundsException" post) mc ms (kAb B0)) : vx_Met l yL_split wsL_split (rmL rm) (kP G B0 f [.ref h, .int x1, .ref po]) (kQi G B0 (fun r f2 => r = nI 1 ∧ post f2)) (kXN G B0) mc ms (kAb B0) := by
  refine kMetH (cc := cL_split) (maxL := 4) (ret := (some .int)) (hh := [(0, 9, 12, 13), (0, 9, 15, 15)]) (by decide) rfl (Nat.le_of_ble_eq_true rfl) ?_
  intro p e s m args below meth c H locs Q ls C hX hl hr hlocks hQ htab
  have hl : lv_has ls 4 [(0, .ref h), (1, .int x1), (2, .ref po)] := hl
  refine lv_aload_n C.x C.b dL_split_0 rfl (lv_at hl 2 rfl) ?_
  refine lv_iconst (v := nI 0) C.x C.b dL_split_1 (by decide) ?_
  refine lv_aload_n C.x C.b dL_split_2 rfl (lv_at hl 0 rfl) ?_
  refine lv_iload_n C.x C.b dL_split_3 rfl (lv_at hl 1 rfl) ?_
  refine k_catX C (vx_runV (As := [.int x1]) (rest := [.int (nI 0), .ref po]) C.1 hc (cwV 1 C.ts gL_split_X8_split rfl hrc hrs ⟨rfl, hdL_split_X8_split⟩ ⟨Nat.le_refl _, by show 8 + (_ + 11) + rm.locals ≤ rm.locals + 40; omega⟩) (k_preV C hX hh rfl) rfl rfl hl.1 rfl (lv_room (Nat.le_of_ble_eq_true rfl)) dL_split_4 ⟨by show 0 + mc ≤ rm.cells; omega, by show 0 + ms ≤ rm.slots; omega⟩) hX [] (0, 9, 12, 13) [(0, 9, 15, 15)] htab (fun z hz => by simp at hz) (by decide) (by decide) lk_L_split_o in_L_split_o (fun q f1 H locs hp hX => ?_)
  refine lv_astore_n (lv' := [(3, .ref q), (0, .ref h), (1, .int x1), (2, .ref po)]) C.x C.b dL_split_12 rfl hl (by decide) rfl (fun ls hl => ?_)
  refine lv_iconst (v := nI 1) C.x C.b dL_split_13 (by decide) ?_
  exact k_iretX C hX hr hlocks hQ (by omega) (by omega) ⟨rfl, hp⟩ dL_split_14
theorem kL_split_s (l : Launch) (G : kG) (B0 : Nat) (f : kH) (h po : Nat) (x1 : Int32) {vs : List Value} (hh : f h = some (.inr (8, vs))) {rm : Room} {mc ms : Nat} (hrc : rm.cells = mc) (hrs : rm.slots = ms) {post : kH → Prop} (hc : vx_Met l yX8_split wsX8_split rm (kP G B0 f [.ref h, .int x1]) kNo (kXC G B0 "java/lang/IllegalStateException" post) mc ms (kAb B0)) : vx_Met l yL_split wsL_split (rmL rm) (kP G B0 f [.ref h, .int x1, .ref po]) (kQi G B0 (fun r f2 => r = nI 2 ∧ post f2)) (kXN G B0) mc ms (kAb B0) := by
  refine kMetH (cc := cL_split) (maxL := 4) (ret := (some .int)) (hh := [(0, 9, 12, 13), (0, 9, 15, 15)]) (by decide) rfl (Nat.le_of_ble_eq_true rfl) ?_
  intro p e s m args below meth c H locs Q ls C hX hl hr hlocks hQ htab
  have hl : lv_has ls 4 [(0, .ref h), (1, .int x1), (2, .ref po)] := hl
  refine lv_aload_n C.x C.b dL_split_0 rfl (lv_at hl 2 rfl) ?_
  refine lv_iconst (v := nI 0) C.x C.b dL_split_1 (by decide) ?_
  refine lv_aload_n C.x C.b dL_split_2 rfl (lv_at hl 0 rfl) ?_
  refine lv_iload_n C.x C.b dL_split_3 rfl (lv_at hl 1 rfl) ?_
  refine k_catX C (vx_runV (As := [.int x1]) (rest := [.int (nI 0), .ref po]) C.1 hc (cwV 1 C.ts gL_split_X8_split rfl hrc hrs ⟨rfl, hdL_split_X8_split⟩ ⟨Nat.le_refl _, by show 8 + (_ + 11) + rm.locals ≤ rm.locals + 40; omega⟩) (k_preV C hX hh rfl) rfl rfl hl.1 rfl (lv_room (Nat.le_of_ble_eq_true rfl)) dL_split_4 ⟨by show 0 + mc ≤ rm.cells; omega, by show 0 + ms ≤ rm.slots; omega⟩) hX [(0, 9, 12, 13)] (0, 9, 15, 15) [] htab (fun z hz => by
    simp only [List.mem_cons, List.not_mem_nil, or_false] at hz
    subst hz
    exact ⟨by decide, "java/lang/IndexOutOfBoundsException", lk_L_split_o, by decide +kernel⟩) (by decide) (by decide) lk_L_split_s in_L_split_s (fun q f1 H locs hp hX => ?_)
  refine lv_astore_n (lv' := [(3, .ref q), (0, .ref h), (1, .int x1), (2, .ref po)]) C.x C.b dL_split_15 rfl hl (by decide) rfl (fun ls hl => ?_)
  refine lv_iconst (v := nI 2) C.x C.b dL_split_16 (by decide) ?_
  exact k_iretX C hX hr hlocks hQ (by omega) (by omega) ⟨rfl, hp⟩ dL_split_17
theorem hdL_flip_X8_flip : yX8_flip.cls ≠ "java/lang/invoke/MethodHandle" ∧ yX8_flip.cls ≠ "java/lang/invoke/VarHandle" ∧ (parseMethodDescriptor yX8_flip.desc).map (fun d => d.parameters.length) = some 2 := by decide +kernel
theorem lk_L_flip_o : Cond.classLink RL 13 "java/lang/IndexOutOfBoundsException" ∈ wsL_flip := by decide +kernel
theorem in_L_flip_o : Cond.instantiable "java/lang/IndexOutOfBoundsException" 6 ∈ wsL_flip := by decide +kernel
theorem lk_L_flip_s : Cond.classLink RL 15 "java/lang/IllegalStateException" ∈ wsL_flip := by decide +kernel
theorem in_L_flip_s : Cond.instantiable "java/lang/IllegalStateException" 6 ∈ wsL_flip := by decide +kernel
theorem kL_flip_g (l : Launch) (G : kG) (B0 : Nat) (f : kH) (h po : Nat) (x1 x2 : Int32) {vs : List Value} (hh : f h = some (.inr (8, vs))) {rm : Room} {mc ms : Nat} (hrc : rm.cells = mc) (hrs : rm.slots = ms) {Φ : Int32 → kH → Prop} (hc : Met l yX8_flip wsX8_flip rm (kP G B0 f [.ref h, .int x1, .int x2]) (kQi G B0 Φ) mc ms (kAb B0)) (ho : ∀ r f1, Φ r f1 → ∃ g, f1 po = some (kaJ G 1 g)) : vx_Met l yL_flip wsL_flip (rmL rm) (kP G B0 f [.ref h, .int x1, .int x2, .ref po]) (kQi G B0 (fun r f2 => r = nI 0 ∧ ∃ r0 f1 g, Φ r0 f1 ∧ f1 po = some (kaJ G 1 g) ∧ f2 = kst f1 po (kaJ G 1 (vp_updL g 0 r0.toInt64)))) (kXN G B0) mc ms (kAb B0) := by
  refine kMetH (cc := cL_flip) (maxL := 5) (ret := (some .int)) (hh := [(0, 10, 13, 13), (0, 10, 17, 15)]) (by decide) rfl (Nat.le_of_ble_eq_true rfl) ?_
  intro p e s m args below meth c H locs Q ls C hX hl hr hlocks hQ htab
  have hl : lv_has ls 5 [(0, .ref h), (1, .int x1), (2, .int x2), (3, .ref po)] := hl
  refine lv_aload_n C.x C.b dL_flip_0 rfl (lv_at hl 3 rfl) ?_
  refine lv_iconst (v := nI 0) C.x C.b dL_flip_1 (by decide) ?_
  refine lv_aload_n C.x C.b dL_flip_2 rfl (lv_at hl 0 rfl) ?_
  refine lv_iload_n C.x C.b dL_flip_3 rfl (lv_at hl 1 rfl) ?_
  refine lv_iload_n C.x C.b dL_flip_4 rfl (lv_at hl 2 rfl) ?_
  refine k_calli (va_runV (As := [.int x1, .int x2]) (rest := [.int (nI 0), .ref po]) C.1 hc (cwV 2 C.ts gL_flip_X8_flip rfl hrc hrs ⟨rfl, hdL_flip_X8_flip⟩ ⟨Nat.le_refl _, by show 8 + (_ + 11) + rm.locals ≤ rm.locals + 40; omega⟩) (k_preV C hX hh rfl) rfl rfl hl.1 rfl (lv_room (Nat.le_of_ble_eq_true rfl)) dL_flip_5 ⟨by show 0 + mc ≤ rm.cells; omega, by show 0 + ms ≤ rm.slots; omega⟩) hX (fun r0 f1 H locs hp hX => ?_)
  obtain ⟨g, hg⟩ := ho r0 f1 hp
  refine lv_i2l (v := r0.toInt64) C.x C.b dL_flip_8 rfl ?_
  refine k_last C hX hg vp_in01 dL_flip_9 (fun H locs hX => ?_)
  refine lv_goto (tgt := 21) C.x C.b dL_flip_10 (by decide) ?_
  refine lv_iconst (v := nI 0) C.x C.b dL_flip_21 (by decide) ?_
  exact k_iretX C hX hr hlocks hQ (by omega) (by omega) ⟨rfl, r0, f1, g, hp, hg, rfl⟩ dL_flip_22
theorem kL_flip_o (l : Launch) (G : kG) (B0 : Nat) (f : kH) (h po : Nat) (x1 x2 : Int32) {vs : List Value} (hh : f h = some (.inr (8, vs))) {rm : Room} {mc ms : Nat} (hrc : rm.cells = mc) (hrs : rm.slots = ms) {post : kH → Prop} (hc : vx_Met l yX8_flip wsX8_flip rm (kP G B0 f [.ref h, .int x1, .int x2]) kNo (kXC G B0 "java/lang/IndexOutOfBoundsException" post) mc ms (kAb B0)) : vx_Met l yL_flip wsL_flip (rmL rm) (kP G B0 f [.ref h, .int x1, .int x2, .ref po]) (kQi G B0 (fun r f2 => r = nI 1 ∧ post f2)) (kXN G B0) mc ms (kAb B0) := by
  refine kMetH (cc := cL_flip) (maxL := 5) (ret := (some .int)) (hh := [(0, 10, 13, 13), (0, 10, 17, 15)]) (by decide) rfl (Nat.le_of_ble_eq_true rfl) ?_
  intro p e s m args below meth c H locs Q ls C hX hl hr hlocks hQ htab
  have hl : lv_has ls 5 [(0, .ref h), (1, .int x1), (2, .int x2), (3, .ref po)] := hl
  refine lv_aload_n C.x C.b dL_flip_0 rfl (lv_at hl 3 rfl) ?_
  refine lv_iconst (v := nI 0) C.x C.b dL_flip_1 (by decide) ?_
  refine lv_aload_n C.x C.b dL_flip_2 rfl (lv_at hl 0 rfl) ?_
  refine lv_iload_n C.x C.b dL_flip_3 rfl (lv_at hl 1 rfl) ?_
  refine lv_iload_n C.x C.b dL_flip_4 rfl (lv_at hl 2 rfl) ?_
  refine k_catX C (vx_runV (As := [.int x1, .int x2]) (rest := [.int (nI 0), .ref po]) C.1 hc (cwV 2 C.ts gL_flip_X8_flip rfl hrc hrs ⟨rfl, hdL_flip_X8_flip⟩ ⟨Nat.le_refl _, by show 8 + (_ + 11) + rm.locals ≤ rm.locals + 40; omega⟩) (k_preV C hX hh rfl) rfl rfl hl.1 rfl (lv_room (Nat.le_of_ble_eq_true rfl)) dL_flip_5 ⟨by show 0 + mc ≤ rm.cells; omega, by show 0 + ms ≤ rm.slots; omega⟩) hX [] (0, 10, 13, 13) [(0, 10, 17, 15)] htab (fun z hz => by simp at hz) (by decide) (by decide) lk_L_flip_o in_L_flip_o (fun q f1 H locs hp hX => ?_)
  refine lv_astore (lv' := [(4, .ref q), (0, .ref h), (1, .int x1), (2, .int x2), (3, .ref po)]) C.x C.b dL_flip_13 hl (by decide) rfl (fun ls hl => ?_)
  refine lv_iconst (v := nI 1) C.x C.b dL_flip_15 (by decide) ?_
  exact k_iretX C hX hr hlocks hQ (by omega) (by omega) ⟨rfl, hp⟩ dL_flip_16
theorem kL_flip_s (l : Launch) (G : kG) (B0 : Nat) (f : kH) (h po : Nat) (x1 x2 : Int32) {vs : List Value} (hh : f h = some (.inr (8, vs))) {rm : Room} {mc ms : Nat} (hrc : rm.cells = mc) (hrs : rm.slots = ms) {post : kH → Prop} (hc : vx_Met l yX8_flip wsX8_flip rm (kP G B0 f [.ref h, .int x1, .int x2]) kNo (kXC G B0 "java/lang/IllegalStateException" post) mc ms (kAb B0)) : vx_Met l yL_flip wsL_flip (rmL rm) (kP G B0 f [.ref h, .int x1, .int x2, .ref po]) (kQi G B0 (fun r f2 => r = nI 2 ∧ post f2)) (kXN G B0) mc ms (kAb B0) := by
  refine kMetH (cc := cL_flip) (maxL := 5) (ret := (some .int)) (hh := [(0, 10, 13, 13), (0, 10, 17, 15)]) (by decide) rfl (Nat.le_of_ble_eq_true rfl) ?_
  intro p e s m args below meth c H locs Q ls C hX hl hr hlocks hQ htab
  have hl : lv_has ls 5 [(0, .ref h), (1, .int x1), (2, .int x2), (3, .ref po)] := hl
  refine lv_aload_n C.x C.b dL_flip_0 rfl (lv_at hl 3 rfl) ?_
  refine lv_iconst (v := nI 0) C.x C.b dL_flip_1 (by decide) ?_
  refine lv_aload_n C.x C.b dL_flip_2 rfl (lv_at hl 0 rfl) ?_
  refine lv_iload_n C.x C.b dL_flip_3 rfl (lv_at hl 1 rfl) ?_
  refine lv_iload_n C.x C.b dL_flip_4 rfl (lv_at hl 2 rfl) ?_
  refine k_catX C (vx_runV (As := [.int x1, .int x2]) (rest := [.int (nI 0), .ref po]) C.1 hc (cwV 2 C.ts gL_flip_X8_flip rfl hrc hrs ⟨rfl, hdL_flip_X8_flip⟩ ⟨Nat.le_refl _, by show 8 + (_ + 11) + rm.locals ≤ rm.locals + 40; omega⟩) (k_preV C hX hh rfl) rfl rfl hl.1 rfl (lv_room (Nat.le_of_ble_eq_true rfl)) dL_flip_5 ⟨by show 0 + mc ≤ rm.cells; omega, by show 0 + ms ≤ rm.slots; omega⟩) hX [(0, 10, 13, 13)] (0, 10, 17, 15) [] htab (fun z hz => by
    simp only [List.mem_cons, List.not_mem_nil, or_false] at hz
    subst hz
    exact ⟨by decide, "java/lang/IndexOutOfBoundsException", lk_L_flip_o, by decide +kernel⟩) (by decide) (by decide) lk_L_flip_s in_L_flip_s (fun q f1 H locs hp hX => ?_)
  refine lv_astore (lv' := [(4, .ref q), (0, .ref h), (1, .int x1), (2, .int x2), (3, .ref po)]) C.x C.b dL_flip_17 hl (by decide) rfl (fun ls hl => ?_)
  refine lv_iconst (v := nI 2) C.x C.b dL_flip_19 (by decide) ?_
  exact k_iretX C hX hr hlocks hQ (by omega) (by omega) ⟨rfl, hp⟩ dL_flip_20
theorem hdL_corner_X8_corner : yX8_corner.cls ≠ "java/lang/invoke/MethodHandle" ∧ yX8_corner.cls ≠ "java/lang/invoke/VarHandle" ∧ (parseMethodDescriptor yX8_corner.desc).map (fun d => d.parameters.length) = some 2 := by decide +kernel
theorem lk_L_corner_o : Cond.classLink RL 13 "java/lang/IndexOutOfBoundsException" ∈ wsL_corner := by decide +kernel
theorem in_L_corner_o : Cond.instantiable "java/lang/IndexOutOfBoundsException" 6 ∈ wsL_corner := by decide +kernel
theorem kL_corner_g (l : Launch) (G : kG) (B0 : Nat) (f : kH) (h po : Nat) (x1 x2 : Int32) {vs : List Value} (hh : f h = some (.inr (8, vs))) {rm : Room} {mc ms : Nat} (hrc : rm.cells = mc) (hrs : rm.slots = ms) {Φ : Int32 → kH → Prop} (hc : Met l yX8_corner wsX8_corner rm (kP G B0 f [.ref h, .int x1, .int x2]) (kQi G B0 Φ) mc ms (kAb B0)) (ho : ∀ r f1, Φ r f1 → ∃ g, f1 po = some (kaJ G 1 g)) : vx_Met l yL_corner wsL_corner (rmL rm) (kP G B0 f [.ref h, .int x1, .int x2, .ref po]) (kQi G B0 (fun r f2 => r = nI 0 ∧ ∃ r0 f1 g, Φ r0 f1 ∧ f1 po = some (kaJ G 1 g) ∧ f2 = kst f1 po (kaJ G 1 (vp_updL g 0 r0.toInt64)))) (kXN G B0) mc ms (kAb B0) := by
  refine kMetH (cc := cL_corner) (maxL := 5) (ret := (some .int)) (hh := [(0, 10, 13, 13)]) (by decide) rfl (Nat.le_of_ble_eq_true rfl) ?_
  intro p e s m args below meth c H locs Q ls C hX hl hr hlocks hQ htab
  have hl : lv_has ls 5 [(0, .ref h), (1, .int x1), (2, .int x2), (3, .ref po)] := hl
  refine lv_aload_n C.x C.b dL_corner_0 rfl (lv_at hl 3 rfl) ?_
  refine lv_iconst (v := nI 0) C.x C.b dL_corner_1 (by decide) ?_
  refine lv_aload_n C.x C.b dL_corner_2 rfl (lv_at hl 0 rfl) ?_
  refine lv_iload_n C.x C.b dL_corner_3 rfl (lv_at hl 1 rfl) ?_
  refine lv_iload_n C.x C.b dL_corner_4 rfl (lv_at hl 2 rfl) ?_
  refine k_calli (va_runV (As := [.int x1, .int x2]) (rest := [.int (nI 0), .ref po]) C.1 hc (cwV 2 C.ts gL_corner_X8_corner rfl hrc hrs ⟨rfl, hdL_corner_X8_corner⟩ ⟨Nat.le_refl _, by show 8 + (_ + 11) + rm.locals ≤ rm.locals + 40; omega⟩) (k_preV C hX hh rfl) rfl rfl hl.1 rfl (lv_room (Nat.le_of_ble_eq_true rfl)) dL_corner_5 ⟨by show 0 + mc ≤ rm.cells; omega, by show 0 + ms ≤ rm.slots; omega⟩) hX (fun r0 f1 H locs hp hX => ?_)
  obtain ⟨g, hg⟩ := ho r0 f1 hp
  refine lv_i2l (v := r0.toInt64) C.x C.b dL_corner_8 rfl ?_
  refine k_last C hX hg vp_in01 dL_corner_9 (fun H locs hX => ?_)
  refine lv_goto (tgt := 17) C.x C.b dL_corner_10 (by decide) ?_
  refine lv_iconst (v := nI 0) C.x C.b dL_corner_17 (by decide) ?_
  exact k_iretX C hX hr hlocks hQ (by omega) (by omega) ⟨rfl, r0, f1, g, hp, hg, rfl⟩ dL_corner_18
theorem kL_corner_o (l : Launch) (G : kG) (B0 : Nat) (f : kH) (h po : Nat) (x1 x2 : Int32) {vs : List Value} (hh : f h = some (.inr (8, vs))) {rm : Room} {mc ms : Nat} (hrc : rm.cells = mc) (hrs : rm.slots = ms) {post : kH → Prop} (hc : vx_Met l yX8_corner wsX8_corner rm (kP G B0 f [.ref h, .int x1, .int x2]) kNo (kXC G B0 "java/lang/IndexOutOfBoundsException" post) mc ms (kAb B0)) : vx_Met l yL_corner wsL_corner (rmL rm) (kP G B0 f [.ref h, .int x1, .int x2, .ref po]) (kQi G B0 (fun r f2 => r = nI 1 ∧ post f2)) (kXN G B0) mc ms (kAb B0) := by
  refine kMetH (cc := cL_corner) (maxL := 5) (ret := (some .int)) (hh := [(0, 10, 13, 13)]) (by decide) rfl (Nat.le_of_ble_eq_true rfl) ?_
  intro p e s m args below meth c H locs Q ls C hX hl hr hlocks hQ htab
  have hl : lv_has ls 5 [(0, .ref h), (1, .int x1), (2, .int x2), (3, .ref po)] := hl
  refine lv_aload_n C.x C.b dL_corner_0 rfl (lv_at hl 3 rfl) ?_
  refine lv_iconst (v := nI 0) C.x C.b dL_corner_1 (by decide) ?_
  refine lv_aload_n C.x C.b dL_corner_2 rfl (lv_at hl 0 rfl) ?_
  refine lv_iload_n C.x C.b dL_corner_3 rfl (lv_at hl 1 rfl) ?_
  refine lv_iload_n C.x C.b dL_corner_4 rfl (lv_at hl 2 rfl) ?_
  refine k_catX C (vx_runV (As := [.int x1, .int x2]) (rest := [.int (nI 0), .ref po]) C.1 hc (cwV 2 C.ts gL_corner_X8_corner rfl hrc hrs ⟨rfl, hdL_corner_X8_corner⟩ ⟨Nat.le_refl _, by show 8 + (_ + 11) + rm.locals ≤ rm.locals + 40; omega⟩) (k_preV C hX hh rfl) rfl rfl hl.1 rfl (lv_room (Nat.le_of_ble_eq_true rfl)) dL_corner_5 ⟨by show 0 + mc ≤ rm.cells; omega, by show 0 + ms ≤ rm.slots; omega⟩) hX [] (0, 10, 13, 13) [] htab (fun z hz => by simp at hz) (by decide) (by decide) lk_L_corner_o in_L_corner_o (fun q f1 H locs hp hX => ?_)
  refine lv_astore (lv' := [(4, .ref q), (0, .ref h), (1, .int x1), (2, .int x2), (3, .ref po)]) C.x C.b dL_corner_13 hl (by decide) rfl (fun ls hl => ?_)
  refine lv_iconst (v := nI 1) C.x C.b dL_corner_15 (by decide) ?_
  exact k_iretX C hX hr hlocks hQ (by omega) (by omega) ⟨rfl, hp⟩ dL_corner_16
theorem hdL_around_X8_around : yX8_around.cls ≠ "java/lang/invoke/MethodHandle" ∧ yX8_around.cls ≠ "java/lang/invoke/VarHandle" ∧ (parseMethodDescriptor yX8_around.desc).map (fun d => d.parameters.length) = some 2 := by decide +kernel
theorem lk_L_around_o : Cond.classLink RL 13 "java/lang/IndexOutOfBoundsException" ∈ wsL_around := by decide +kernel
theorem in_L_around_o : Cond.instantiable "java/lang/IndexOutOfBoundsException" 6 ∈ wsL_around := by decide +kernel
theorem kL_around_g (l : Launch) (G : kG) (B0 : Nat) (f : kH) (h po : Nat) (x1 x2 : Int32) {vs : List Value} (hh : f h = some (.inr (8, vs))) {rm : Room} {mc ms : Nat} (hrc : rm.cells = mc) (hrs : rm.slots = ms) {Φ : Int32 → kH → Prop} (hc : Met l yX8_around wsX8_around rm (kP G B0 f [.ref h, .int x1, .int x2]) (kQi G B0 Φ) mc ms (kAb B0)) (ho : ∀ r f1, Φ r f1 → ∃ g, f1 po = some (kaJ G 1 g)) : vx_Met l yL_around wsL_around (rmL rm) (kP G B0 f [.ref h, .int x1, .int x2, .ref po]) (kQi G B0 (fun r f2 => r = nI 0 ∧ ∃ r0 f1 g, Φ r0 f1 ∧ f1 po = some (kaJ G 1 g) ∧ f2 = kst f1 po (kaJ G 1 (vp_updL g 0 r0.toInt64)))) (kXN G B0) mc ms (kAb B0) := by
  refine kMetH (cc := cL_around) (maxL := 5) (ret := (some .int)) (hh := [(0, 10, 13, 13)]) (by decide) rfl (Nat.le_of_ble_eq_true rfl) ?_
  intro p e s m args below meth c H locs Q ls C hX hl hr hlocks hQ htab
  have hl : lv_has ls 5 [(0, .ref h), (1, .int x1), (2, .int x2), (3, .ref po)] := hl
  refine lv_aload_n C.x C.b dL_around_0 rfl (lv_at hl 3 rfl) ?_
  refine lv_iconst (v := nI 0) C.x C.b dL_around_1 (by decide) ?_
  refine lv_aload_n C.x C.b dL_around_2 rfl (lv_at hl 0 rfl) ?_
  refine lv_iload_n C.x C.b dL_around_3 rfl (lv_at hl 1 rfl) ?_
  refine lv_iload_n C.x C.b dL_around_4 rfl (lv_at hl 2 rfl) ?_
  refine k_calli (va_runV (As := [.int x1, .int x2]) (rest := [.int (nI 0), .ref po]) C.1 hc (cwV 2 C.ts gL_around_X8_around rfl hrc hrs ⟨rfl, hdL_around_X8_around⟩ ⟨Nat.le_refl _, by show 8 + (_ + 11) + rm.locals ≤ rm.locals + 40; omega⟩) (k_preV C hX hh rfl) rfl rfl hl.1 rfl (lv_room (Nat.le_of_ble_eq_true rfl)) dL_around_5 ⟨by show 0 + mc ≤ rm.cells; omega, by show 0 + ms ≤ rm.slots; omega⟩) hX (fun r0 f1 H locs hp hX => ?_)
  obtain ⟨g, hg⟩ := ho r0 f1 hp
  refine lv_i2l (v := r0.toInt64) C.x C.b dL_around_8 rfl ?_
  refine k_last C hX hg vp_in01 dL_around_9 (fun H locs hX => ?_)
  refine lv_goto (tgt := 17) C.x C.b dL_around_10 (by decide) ?_
  refine lv_iconst (v := nI 0) C.x C.b dL_around_17 (by decide) ?_
  exact k_iretX C hX hr hlocks hQ (by omega) (by omega) ⟨rfl, r0, f1, g, hp, hg, rfl⟩ dL_around_18
theorem kL_around_o (l : Launch) (G : kG) (B0 : Nat) (f : kH) (h po : Nat) (x1 x2 : Int32) {vs : List Value} (hh : f h = some (.inr (8, vs))) {rm : Room} {mc ms : Nat} (hrc : rm.cells = mc) (hrs : rm.slots = ms) {post : kH → Prop} (hc : vx_Met l yX8_around wsX8_around rm (kP G B0 f [.ref h, .int x1, .int x2]) kNo (kXC G B0 "java/lang/IndexOutOfBoundsException" post) mc ms (kAb B0)) : vx_Met l yL_around wsL_around (rmL rm) (kP G B0 f [.ref h, .int x1, .int x2, .ref po]) (kQi G B0 (fun r f2 => r = nI 1 ∧ post f2)) (kXN G B0) mc ms (kAb B0) := by
  refine kMetH (cc := cL_around) (maxL := 5) (ret := (some .int)) (hh := [(0, 10, 13, 13)]) (by decide) rfl (Nat.le_of_ble_eq_true rfl) ?_
  intro p e s m args below meth c H locs Q ls C hX hl hr hlocks hQ htab
  have hl : lv_has ls 5 [(0, .ref h), (1, .int x1), (2, .int x2), (3, .ref po)] := hl
  refine lv_aload_n C.x C.b dL_around_0 rfl (lv_at hl 3 rfl) ?_
  refine lv_iconst (v := nI 0) C.x C.b dL_around_1 (by decide) ?_
  refine lv_aload_n C.x C.b dL_around_2 rfl (lv_at hl 0 rfl) ?_
  refine lv_iload_n C.x C.b dL_around_3 rfl (lv_at hl 1 rfl) ?_
  refine lv_iload_n C.x C.b dL_around_4 rfl (lv_at hl 2 rfl) ?_
  refine k_catX C (vx_runV (As := [.int x1, .int x2]) (rest := [.int (nI 0), .ref po]) C.1 hc (cwV 2 C.ts gL_around_X8_around rfl hrc hrs ⟨rfl, hdL_around_X8_around⟩ ⟨Nat.le_refl _, by show 8 + (_ + 11) + rm.locals ≤ rm.locals + 40; omega⟩) (k_preV C hX hh rfl) rfl rfl hl.1 rfl (lv_room (Nat.le_of_ble_eq_true rfl)) dL_around_5 ⟨by show 0 + mc ≤ rm.cells; omega, by show 0 + ms ≤ rm.slots; omega⟩) hX [] (0, 10, 13, 13) [] htab (fun z hz => by simp at hz) (by decide) (by decide) lk_L_around_o in_L_around_o (fun q f1 H locs hp hX => ?_)
  refine lv_astore (lv' := [(4, .ref q), (0, .ref h), (1, .int x1), (2, .int x2), (3, .ref po)]) C.x C.b dL_around_13 hl (by decide) rfl (fun ls hl => ?_)
  refine lv_iconst (v := nI 1) C.x C.b dL_around_15 (by decide) ?_
  exact k_iretX C hX hr hlocks hQ (by omega) (by omega) ⟨rfl, hp⟩ dL_around_16
theorem hdL_net_X8_net : yX8_net.cls ≠ "java/lang/invoke/MethodHandle" ∧ yX8_net.cls ≠ "java/lang/invoke/VarHandle" ∧ (parseMethodDescriptor yX8_net.desc).map (fun d => d.parameters.length) = some 1 := by decide +kernel
theorem lk_L_net_o : Cond.classLink RL 13 "java/lang/IndexOutOfBoundsException" ∈ wsL_net := by decide +kernel
theorem in_L_net_o : Cond.instantiable "java/lang/IndexOutOfBoundsException" 6 ∈ wsL_net := by decide +kernel
theorem kL_net_g (l : Launch) (G : kG) (B0 : Nat) (f : kH) (h po : Nat) (x1 : Int32) {vs : List Value} (hh : f h = some (.inr (8, vs))) {rm : Room} {mc ms : Nat} (hrc : rm.cells = mc) (hrs : rm.slots = ms) {Φ : Int32 → kH → Prop} (hc : Met l yX8_net wsX8_net rm (kP G B0 f [.ref h, .int x1]) (kQi G B0 Φ) mc ms (kAb B0)) (ho : ∀ r f1, Φ r f1 → ∃ g, f1 po = some (kaJ G 1 g)) : vx_Met l yL_net wsL_net (rmL rm) (kP G B0 f [.ref h, .int x1, .ref po]) (kQi G B0 (fun r f2 => r = nI 0 ∧ ∃ r0 f1 g, Φ r0 f1 ∧ f1 po = some (kaJ G 1 g) ∧ f2 = kst f1 po (kaJ G 1 (vp_updL g 0 r0.toInt64)))) (kXN G B0) mc ms (kAb B0) := by
  refine kMetH (cc := cL_net) (maxL := 4) (ret := (some .int)) (hh := [(0, 9, 12, 13)]) (by decide) rfl (Nat.le_of_ble_eq_true rfl) ?_
  intro p e s m args below meth c H locs Q ls C hX hl hr hlocks hQ htab
  have hl : lv_has ls 4 [(0, .ref h), (1, .int x1), (2, .ref po)] := hl
  refine lv_aload_n C.x C.b dL_net_0 rfl (lv_at hl 2 rfl) ?_
  refine lv_iconst (v := nI 0) C.x C.b dL_net_1 (by decide) ?_
  refine lv_aload_n C.x C.b dL_net_2 rfl (lv_at hl 0 rfl) ?_
  refine lv_iload_n C.x C.b dL_net_3 rfl (lv_at hl 1 rfl) ?_
  refine k_calli (va_runV (As := [.int x1]) (rest := [.int (nI 0), .ref po]) C.1 hc (cwV 1 C.ts gL_net_X8_net rfl hrc hrs ⟨rfl, hdL_net_X8_net⟩ ⟨Nat.le_refl _, by show 8 + (_ + 11) + rm.locals ≤ rm.locals + 40; omega⟩) (k_preV C hX hh rfl) rfl rfl hl.1 rfl (lv_room (Nat.le_of_ble_eq_true rfl)) dL_net_4 ⟨by show 0 + mc ≤ rm.cells; omega, by show 0 + ms ≤ rm.slots; omega⟩) hX (fun r0 f1 H locs hp hX => ?_)
  obtain ⟨g, hg⟩ := ho r0 f1 hp
  refine lv_i2l (v := r0.toInt64) C.x C.b dL_net_7 rfl ?_
  refine k_last C hX hg vp_in01 dL_net_8 (fun H locs hX => ?_)
  refine lv_goto (tgt := 15) C.x C.b dL_net_9 (by decide) ?_
  refine lv_iconst (v := nI 0) C.x C.b dL_net_15 (by decide) ?_
  exact k_iretX C hX hr hlocks hQ (by omega) (by omega) ⟨rfl, r0, f1, g, hp, hg, rfl⟩ dL_net_16
theorem kL_net_o (l : Launch) (G : kG) (B0 : Nat) (f : kH) (h po : Nat) (x1 : Int32) {vs : List Value} (hh : f h = some (.inr (8, vs))) {rm : Room} {mc ms : Nat} (hrc : rm.cells = mc) (hrs : rm.slots = ms) {post : kH → Prop} (hc : vx_Met l yX8_net wsX8_net rm (kP G B0 f [.ref h, .int x1]) kNo (kXC G B0 "java/lang/IndexOutOfBoundsException" post) mc ms (kAb B0)) : vx_Met l yL_net wsL_net (rmL rm) (kP G B0 f [.ref h, .int x1, .ref po]) (kQi G B0 (fun r f2 => r = nI 1 ∧ post f2)) (kXN G B0) mc ms (kAb B0) := by
  refine kMetH (cc := cL_net) (maxL := 4) (ret := (some .int)) (hh := [(0, 9, 12, 13)]) (by decide) rfl (Nat.le_of_ble_eq_true rfl) ?_
  intro p e s m args below meth c H locs Q ls C hX hl hr hlocks hQ htab
  have hl : lv_has ls 4 [(0, .ref h), (1, .int x1), (2, .ref po)] := hl
  refine lv_aload_n C.x C.b dL_net_0 rfl (lv_at hl 2 rfl) ?_
  refine lv_iconst (v := nI 0) C.x C.b dL_net_1 (by decide) ?_
  refine lv_aload_n C.x C.b dL_net_2 rfl (lv_at hl 0 rfl) ?_
  refine lv_iload_n C.x C.b dL_net_3 rfl (lv_at hl 1 rfl) ?_
  refine k_catX C (vx_runV (As := [.int x1]) (rest := [.int (nI 0), .ref po]) C.1 hc (cwV 1 C.ts gL_net_X8_net rfl hrc hrs ⟨rfl, hdL_net_X8_net⟩ ⟨Nat.le_refl _, by show 8 + (_ + 11) + rm.locals ≤ rm.locals + 40; omega⟩) (k_preV C hX hh rfl) rfl rfl hl.1 rfl (lv_room (Nat.le_of_ble_eq_true rfl)) dL_net_4 ⟨by show 0 + mc ≤ rm.cells; omega, by show 0 + ms ≤ rm.slots; omega⟩) hX [] (0, 9, 12, 13) [] htab (fun z hz => by simp at hz) (by decide) (by decide) lk_L_net_o in_L_net_o (fun q f1 H locs hp hX => ?_)
  refine lv_astore_n (lv' := [(3, .ref q), (0, .ref h), (1, .int x1), (2, .ref po)]) C.x C.b dL_net_12 rfl hl (by decide) rfl (fun ls hl => ?_)
  refine lv_iconst (v := nI 1) C.x C.b dL_net_13 (by decide) ?_
  exact k_iretX C hX hr hlocks hQ (by omega) (by omega) ⟨rfl, hp⟩ dL_net_14
theorem hdL_disk_X8_disk : yX8_disk.cls ≠ "java/lang/invoke/MethodHandle" ∧ yX8_disk.cls ≠ "java/lang/invoke/VarHandle" ∧ (parseMethodDescriptor yX8_disk.desc).map (fun d => d.parameters.length) = some 3 := by decide +kernel
theorem lk_L_disk_a : Cond.classLink RL 34 "java/lang/IllegalArgumentException" ∈ wsL_disk := by decide +kernel
theorem in_L_disk_a : Cond.instantiable "java/lang/IllegalArgumentException" 6 ∈ wsL_disk := by decide +kernel
theorem lk_L_disk_s : Cond.classLink RL 15 "java/lang/IllegalStateException" ∈ wsL_disk := by decide +kernel
theorem in_L_disk_s : Cond.instantiable "java/lang/IllegalStateException" 6 ∈ wsL_disk := by decide +kernel
theorem kL_disk_g (l : Launch) (G : kG) (B0 : Nat) (f : kH) (h po : Nat) (x1 x2 x3 : Int32) {vs : List Value} (hh : f h = some (.inr (8, vs))) {rm : Room} {mc ms : Nat} (hrc : rm.cells = mc) (hrs : rm.slots = ms) {Φ : Int32 → kH → Prop} (hc : Met l yX8_disk wsX8_disk rm (kP G B0 f [.ref h, .int x1, .int x2, .int x3]) (kQi G B0 Φ) mc ms (kAb B0)) (ho : ∀ r f1, Φ r f1 → ∃ g, f1 po = some (kaJ G 1 g)) : vx_Met l yL_disk wsL_disk (rmL rm) (kP G B0 f [.ref h, .int x1, .int x2, .int x3, .ref po]) (kQi G B0 (fun r f2 => r = nI 0 ∧ ∃ r0 f1 g, Φ r0 f1 ∧ f1 po = some (kaJ G 1 g) ∧ f2 = kst f1 po (kaJ G 1 (vp_updL g 0 r0.toInt64)))) (kXN G B0) mc ms (kAb B0) := by
  refine kMetH (cc := cL_disk) (maxL := 6) (ret := (some .int)) (hh := [(0, 12, 15, 34), (0, 12, 19, 15)]) (by decide) rfl (Nat.le_of_ble_eq_true rfl) ?_
  intro p e s m args below meth c H locs Q ls C hX hl hr hlocks hQ htab
  have hl : lv_has ls 6 [(0, .ref h), (1, .int x1), (2, .int x2), (3, .int x3), (4, .ref po)] := hl
  refine lv_aload C.x C.b dL_disk_0 (lv_at hl 4 rfl) ?_
  refine lv_iconst (v := nI 0) C.x C.b dL_disk_2 (by decide) ?_
  refine lv_aload_n C.x C.b dL_disk_3 rfl (lv_at hl 0 rfl) ?_
  refine lv_iload_n C.x C.b dL_disk_4 rfl (lv_at hl 1 rfl) ?_
  refine lv_iload_n C.x C.b dL_disk_5 rfl (lv_at hl 2 rfl) ?_
  refine lv_iload_n C.x C.b dL_disk_6 rfl (lv_at hl 3 rfl) ?_
  refine k_calli (va_runV (As := [.int x1, .int x2, .int x3]) (rest := [.int (nI 0), .ref po]) C.1 hc (cwV 3 C.ts gL_disk_X8_disk rfl hrc hrs ⟨rfl, hdL_disk_X8_disk⟩ ⟨Nat.le_refl _, by show 8 + (_ + 11) + rm.locals ≤ rm.locals + 40; omega⟩) (k_preV C hX hh rfl) rfl rfl hl.1 rfl (lv_room (Nat.le_of_ble_eq_true rfl)) dL_disk_7 ⟨by show 0 + mc ≤ rm.cells; omega, by show 0 + ms ≤ rm.slots; omega⟩) hX (fun r0 f1 H locs hp hX => ?_)
  obtain ⟨g, hg⟩ := ho r0 f1 hp
  refine lv_i2l (v := r0.toInt64) C.x C.b dL_disk_10 rfl ?_
  refine k_last C hX hg vp_in01 dL_disk_11 (fun H locs hX => ?_)
  refine lv_goto (tgt := 23) C.x C.b dL_disk_12 (by decide) ?_
  refine lv_iconst (v := nI 0) C.x C.b dL_disk_23 (by decide) ?_
  exact k_iretX C hX hr hlocks hQ (by omega) (by omega) ⟨rfl, r0, f1, g, hp, hg, rfl⟩ dL_disk_24
theorem kL_disk_a (l : Launch) (G : kG) (B0 : Nat) (f : kH) (h po : Nat) (x1 x2 x3 : Int32) {vs : List Value} (hh : f h = some (.inr (8, vs))) {rm : Room} {mc ms : Nat} (hrc : rm.cells = mc) (hrs : rm.slots = ms) {post : kH → Prop} (hc : vx_Met l yX8_disk wsX8_disk rm (kP G B0 f [.ref h, .int x1, .int x2, .int x3]) kNo (kXC G B0 "java/lang/IllegalArgumentException" post) mc ms (kAb B0)) : vx_Met l yL_disk wsL_disk (rmL rm) (kP G B0 f [.ref h, .int x1, .int x2, .int x3, .ref po]) (kQi G B0 (fun r f2 => r = nI 1 ∧ post f2)) (kXN G B0) mc ms (kAb B0) := by
  refine kMetH (cc := cL_disk) (maxL := 6) (ret := (some .int)) (hh := [(0, 12, 15, 34), (0, 12, 19, 15)]) (by decide) rfl (Nat.le_of_ble_eq_true rfl) ?_
  intro p e s m args below meth c H locs Q ls C hX hl hr hlocks hQ htab
  have hl : lv_has ls 6 [(0, .ref h), (1, .int x1), (2, .int x2), (3, .int x3), (4, .ref po)] := hl
  refine lv_aload C.x C.b dL_disk_0 (lv_at hl 4 rfl) ?_
  refine lv_iconst (v := nI 0) C.x C.b dL_disk_2 (by decide) ?_
  refine lv_aload_n C.x C.b dL_disk_3 rfl (lv_at hl 0 rfl) ?_
  refine lv_iload_n C.x C.b dL_disk_4 rfl (lv_at hl 1 rfl) ?_
  refine lv_iload_n C.x C.b dL_disk_5 rfl (lv_at hl 2 rfl) ?_
  refine lv_iload_n C.x C.b dL_disk_6 rfl (lv_at hl 3 rfl) ?_
  refine k_catX C (vx_runV (As := [.int x1, .int x2, .int x3]) (rest := [.int (nI 0), .ref po]) C.1 hc (cwV 3 C.ts gL_disk_X8_disk rfl hrc hrs ⟨rfl, hdL_disk_X8_disk⟩ ⟨Nat.le_refl _, by show 8 + (_ + 11) + rm.locals ≤ rm.locals + 40; omega⟩) (k_preV C hX hh rfl) rfl rfl hl.1 rfl (lv_room (Nat.le_of_ble_eq_true rfl)) dL_disk_7 ⟨by show 0 + mc ≤ rm.cells; omega, by show 0 + ms ≤ rm.slots; omega⟩) hX [] (0, 12, 15, 34) [(0, 12, 19, 15)] htab (fun z hz => by simp at hz) (by decide) (by decide) lk_L_disk_a in_L_disk_a (fun q f1 H locs hp hX => ?_)
  refine lv_astore (lv' := [(5, .ref q), (0, .ref h), (1, .int x1), (2, .int x2), (3, .int x3), (4, .ref po)]) C.x C.b dL_disk_15 hl (by decide) rfl (fun ls hl => ?_)
  refine lv_iconst (v := nI 1) C.x C.b dL_disk_17 (by decide) ?_
  exact k_iretX C hX hr hlocks hQ (by omega) (by omega) ⟨rfl, hp⟩ dL_disk_18
theorem kL_disk_s (l : Launch) (G : kG) (B0 : Nat) (f : kH) (h po : Nat) (x1 x2 x3 : Int32) {vs : List Value} (hh : f h = some (.inr (8, vs))) {rm : Room} {mc ms : Nat} (hrc : rm.cells = mc) (hrs : rm.slots = ms) {post : kH → Prop} (hc : vx_Met l yX8_disk wsX8_disk rm (kP G B0 f [.ref h, .int x1, .int x2, .int x3]) kNo (kXC G B0 "java/lang/IllegalStateException" post) mc ms (kAb B0)) : vx_Met l yL_disk wsL_disk (rmL rm) (kP G B0 f [.ref h, .int x1, .int x2, .int x3, .ref po]) (kQi G B0 (fun r f2 => r = nI 2 ∧ post f2)) (kXN G B0) mc ms (kAb B0) := by
  refine kMetH (cc := cL_disk) (maxL := 6) (ret := (some .int)) (hh := [(0, 12, 15, 34), (0, 12, 19, 15)]) (by decide) rfl (Nat.le_of_ble_eq_true rfl) ?_
  intro p e s m args below meth c H locs Q ls C hX hl hr hlocks hQ htab
  have hl : lv_has ls 6 [(0, .ref h), (1, .int x1), (2, .int x2), (3, .int x3), (4, .ref po)] := hl
  refine lv_aload C.x C.b dL_disk_0 (lv_at hl 4 rfl) ?_
  refine lv_iconst (v := nI 0) C.x C.b dL_disk_2 (by decide) ?_
  refine lv_aload_n C.x C.b dL_disk_3 rfl (lv_at hl 0 rfl) ?_
  refine lv_iload_n C.x C.b dL_disk_4 rfl (lv_at hl 1 rfl) ?_
  refine lv_iload_n C.x C.b dL_disk_5 rfl (lv_at hl 2 rfl) ?_
  refine lv_iload_n C.x C.b dL_disk_6 rfl (lv_at hl 3 rfl) ?_
  refine k_catX C (vx_runV (As := [.int x1, .int x2, .int x3]) (rest := [.int (nI 0), .ref po]) C.1 hc (cwV 3 C.ts gL_disk_X8_disk rfl hrc hrs ⟨rfl, hdL_disk_X8_disk⟩ ⟨Nat.le_refl _, by show 8 + (_ + 11) + rm.locals ≤ rm.locals + 40; omega⟩) (k_preV C hX hh rfl) rfl rfl hl.1 rfl (lv_room (Nat.le_of_ble_eq_true rfl)) dL_disk_7 ⟨by show 0 + mc ≤ rm.cells; omega, by show 0 + ms ≤ rm.slots; omega⟩) hX [(0, 12, 15, 34)] (0, 12, 19, 15) [] htab (fun z hz => by
    simp only [List.mem_cons, List.not_mem_nil, or_false] at hz
    subst hz
    exact ⟨by decide, "java/lang/IllegalArgumentException", lk_L_disk_a, by decide +kernel⟩) (by decide) (by decide) lk_L_disk_s in_L_disk_s (fun q f1 H locs hp hX => ?_)
  refine lv_astore (lv' := [(5, .ref q), (0, .ref h), (1, .int x1), (2, .int x2), (3, .int x3), (4, .ref po)]) C.x C.b dL_disk_19 hl (by decide) rfl (fun ls hl => ?_)
  refine lv_iconst (v := nI 2) C.x C.b dL_disk_21 (by decide) ?_
  exact k_iretX C hX hr hlocks hQ (by omega) (by omega) ⟨rfl, hp⟩ dL_disk_22
theorem hdL_move_X8_move : yX8_move.cls ≠ "java/lang/invoke/MethodHandle" ∧ yX8_move.cls ≠ "java/lang/invoke/VarHandle" ∧ (parseMethodDescriptor yX8_move.desc).map (fun d => d.parameters.length) = some 4 := by decide +kernel
theorem lk_L_move_o : Cond.classLink RL 13 "java/lang/IndexOutOfBoundsException" ∈ wsL_move := by decide +kernel
theorem in_L_move_o : Cond.instantiable "java/lang/IndexOutOfBoundsException" 6 ∈ wsL_move := by decide +kernel
theorem lk_L_move_a : Cond.classLink RL 34 "java/lang/IllegalArgumentException" ∈ wsL_move := by decide +kernel
theorem in_L_move_a : Cond.instantiable "java/lang/IllegalArgumentException" 6 ∈ wsL_move := by decide +kernel
theorem kL_move_g (l : Launch) (G : kG) (B0 : Nat) (f : kH) (h po : Nat) (x1 x2 x3 x4 : Int32) {vs : List Value} (hh : f h = some (.inr (8, vs))) {rm : Room} {mc ms : Nat} (hrc : rm.cells = mc) (hrs : rm.slots = ms) {Φ : Int32 → kH → Prop} (hc : Met l yX8_move wsX8_move rm (kP G B0 f [.ref h, .int x1, .int x2, .int x3, .int x4]) (kQi G B0 Φ) mc ms (kAb B0)) (ho : ∀ r f1, Φ r f1 → ∃ g, f1 po = some (kaJ G 1 g)) : vx_Met l yL_move wsL_move (rmL rm) (kP G B0 f [.ref h, .int x1, .int x2, .int x3, .int x4, .ref po]) (kQi G B0 (fun r f2 => r = nI 0 ∧ ∃ r0 f1 g, Φ r0 f1 ∧ f1 po = some (kaJ G 1 g) ∧ f2 = kst f1 po (kaJ G 1 (vp_updL g 0 r0.toInt64)))) (kXN G B0) mc ms (kAb B0) := by
  refine kMetH (cc := cL_move) (maxL := 7) (ret := (some .int)) (hh := [(0, 14, 17, 13), (0, 14, 21, 34)]) (by decide) rfl (Nat.le_of_ble_eq_true rfl) ?_
  intro p e s m args below meth c H locs Q ls C hX hl hr hlocks hQ htab
  have hl : lv_has ls 7 [(0, .ref h), (1, .int x1), (2, .int x2), (3, .int x3), (4, .int x4), (5, .ref po)] := hl
  refine lv_aload C.x C.b dL_move_0 (lv_at hl 5 rfl) ?_
  refine lv_iconst (v := nI 0) C.x C.b dL_move_2 (by decide) ?_
  refine lv_aload_n C.x C.b dL_move_3 rfl (lv_at hl 0 rfl) ?_
  refine lv_iload_n C.x C.b dL_move_4 rfl (lv_at hl 1 rfl) ?_
  refine lv_iload_n C.x C.b dL_move_5 rfl (lv_at hl 2 rfl) ?_
  refine lv_iload_n C.x C.b dL_move_6 rfl (lv_at hl 3 rfl) ?_
  refine lv_iload C.x C.b dL_move_7 (lv_at hl 4 rfl) ?_
  refine k_calli (va_runV (As := [.int x1, .int x2, .int x3, .int x4]) (rest := [.int (nI 0), .ref po]) C.1 hc (cwV 4 C.ts gL_move_X8_move rfl hrc hrs ⟨rfl, hdL_move_X8_move⟩ ⟨Nat.le_refl _, by show 8 + (_ + 11) + rm.locals ≤ rm.locals + 40; omega⟩) (k_preV C hX hh rfl) rfl rfl hl.1 rfl (lv_room (Nat.le_of_ble_eq_true rfl)) dL_move_9 ⟨by show 0 + mc ≤ rm.cells; omega, by show 0 + ms ≤ rm.slots; omega⟩) hX (fun r0 f1 H locs hp hX => ?_)
  obtain ⟨g, hg⟩ := ho r0 f1 hp
  refine lv_i2l (v := r0.toInt64) C.x C.b dL_move_12 rfl ?_
  refine k_last C hX hg vp_in01 dL_move_13 (fun H locs hX => ?_)
  refine lv_goto (tgt := 25) C.x C.b dL_move_14 (by decide) ?_
  refine lv_iconst (v := nI 0) C.x C.b dL_move_25 (by decide) ?_
  exact k_iretX C hX hr hlocks hQ (by omega) (by omega) ⟨rfl, r0, f1, g, hp, hg, rfl⟩ dL_move_26
theorem kL_move_o (l : Launch) (G : kG) (B0 : Nat) (f : kH) (h po : Nat) (x1 x2 x3 x4 : Int32) {vs : List Value} (hh : f h = some (.inr (8, vs))) {rm : Room} {mc ms : Nat} (hrc : rm.cells = mc) (hrs : rm.slots = ms) {post : kH → Prop} (hc : vx_Met l yX8_move wsX8_move rm (kP G B0 f [.ref h, .int x1, .int x2, .int x3, .int x4]) kNo (kXC G B0 "java/lang/IndexOutOfBoundsException" post) mc ms (kAb B0)) : vx_Met l yL_move wsL_move (rmL rm) (kP G B0 f [.ref h, .int x1, .int x2, .int x3, .int x4, .ref po]) (kQi G B0 (fun r f2 => r = nI 1 ∧ post f2)) (kXN G B0) mc ms (kAb B0) := by
  refine kMetH (cc := cL_move) (maxL := 7) (ret := (some .int)) (hh := [(0, 14, 17, 13), (0, 14, 21, 34)]) (by decide) rfl (Nat.le_of_ble_eq_true rfl) ?_
  intro p e s m args below meth c H locs Q ls C hX hl hr hlocks hQ htab
  have hl : lv_has ls 7 [(0, .ref h), (1, .int x1), (2, .int x2), (3, .int x3), (4, .int x4), (5, .ref po)] := hl
  refine lv_aload C.x C.b dL_move_0 (lv_at hl 5 rfl) ?_
  refine lv_iconst (v := nI 0) C.x C.b dL_move_2 (by decide) ?_
  refine lv_aload_n C.x C.b dL_move_3 rfl (lv_at hl 0 rfl) ?_
  refine lv_iload_n C.x C.b dL_move_4 rfl (lv_at hl 1 rfl) ?_
  refine lv_iload_n C.x C.b dL_move_5 rfl (lv_at hl 2 rfl) ?_
  refine lv_iload_n C.x C.b dL_move_6 rfl (lv_at hl 3 rfl) ?_
  refine lv_iload C.x C.b dL_move_7 (lv_at hl 4 rfl) ?_
  refine k_catX C (vx_runV (As := [.int x1, .int x2, .int x3, .int x4]) (rest := [.int (nI 0), .ref po]) C.1 hc (cwV 4 C.ts gL_move_X8_move rfl hrc hrs ⟨rfl, hdL_move_X8_move⟩ ⟨Nat.le_refl _, by show 8 + (_ + 11) + rm.locals ≤ rm.locals + 40; omega⟩) (k_preV C hX hh rfl) rfl rfl hl.1 rfl (lv_room (Nat.le_of_ble_eq_true rfl)) dL_move_9 ⟨by show 0 + mc ≤ rm.cells; omega, by show 0 + ms ≤ rm.slots; omega⟩) hX [] (0, 14, 17, 13) [(0, 14, 21, 34)] htab (fun z hz => by simp at hz) (by decide) (by decide) lk_L_move_o in_L_move_o (fun q f1 H locs hp hX => ?_)
  refine lv_astore (lv' := [(6, .ref q), (0, .ref h), (1, .int x1), (2, .int x2), (3, .int x3), (4, .int x4), (5, .ref po)]) C.x C.b dL_move_17 hl (by decide) rfl (fun ls hl => ?_)
  refine lv_iconst (v := nI 1) C.x C.b dL_move_19 (by decide) ?_
  exact k_iretX C hX hr hlocks hQ (by omega) (by omega) ⟨rfl, hp⟩ dL_move_20
theorem kL_move_a (l : Launch) (G : kG) (B0 : Nat) (f : kH) (h po : Nat) (x1 x2 x3 x4 : Int32) {vs : List Value} (hh : f h = some (.inr (8, vs))) {rm : Room} {mc ms : Nat} (hrc : rm.cells = mc) (hrs : rm.slots = ms) {post : kH → Prop} (hc : vx_Met l yX8_move wsX8_move rm (kP G B0 f [.ref h, .int x1, .int x2, .int x3, .int x4]) kNo (kXC G B0 "java/lang/IllegalArgumentException" post) mc ms (kAb B0)) : vx_Met l yL_move wsL_move (rmL rm) (kP G B0 f [.ref h, .int x1, .int x2, .int x3, .int x4, .ref po]) (kQi G B0 (fun r f2 => r = nI 2 ∧ post f2)) (kXN G B0) mc ms (kAb B0) := by
  refine kMetH (cc := cL_move) (maxL := 7) (ret := (some .int)) (hh := [(0, 14, 17, 13), (0, 14, 21, 34)]) (by decide) rfl (Nat.le_of_ble_eq_true rfl) ?_
  intro p e s m args below meth c H locs Q ls C hX hl hr hlocks hQ htab
  have hl : lv_has ls 7 [(0, .ref h), (1, .int x1), (2, .int x2), (3, .int x3), (4, .int x4), (5, .ref po)] := hl
  refine lv_aload C.x C.b dL_move_0 (lv_at hl 5 rfl) ?_
  refine lv_iconst (v := nI 0) C.x C.b dL_move_2 (by decide) ?_
  refine lv_aload_n C.x C.b dL_move_3 rfl (lv_at hl 0 rfl) ?_
  refine lv_iload_n C.x C.b dL_move_4 rfl (lv_at hl 1 rfl) ?_
  refine lv_iload_n C.x C.b dL_move_5 rfl (lv_at hl 2 rfl) ?_
  refine lv_iload_n C.x C.b dL_move_6 rfl (lv_at hl 3 rfl) ?_
  refine lv_iload C.x C.b dL_move_7 (lv_at hl 4 rfl) ?_
  refine k_catX C (vx_runV (As := [.int x1, .int x2, .int x3, .int x4]) (rest := [.int (nI 0), .ref po]) C.1 hc (cwV 4 C.ts gL_move_X8_move rfl hrc hrs ⟨rfl, hdL_move_X8_move⟩ ⟨Nat.le_refl _, by show 8 + (_ + 11) + rm.locals ≤ rm.locals + 40; omega⟩) (k_preV C hX hh rfl) rfl rfl hl.1 rfl (lv_room (Nat.le_of_ble_eq_true rfl)) dL_move_9 ⟨by show 0 + mc ≤ rm.cells; omega, by show 0 + ms ≤ rm.slots; omega⟩) hX [(0, 14, 17, 13)] (0, 14, 21, 34) [] htab (fun z hz => by
    simp only [List.mem_cons, List.not_mem_nil, or_false] at hz
    subst hz
    exact ⟨by decide, "java/lang/IndexOutOfBoundsException", lk_L_move_o, by decide +kernel⟩) (by decide) (by decide) lk_L_move_a in_L_move_a (fun q f1 H locs hp hX => ?_)
  refine lv_astore (lv' := [(6, .ref q), (0, .ref h), (1, .int x1), (2, .int x2), (3, .int x3), (4, .int x4), (5, .ref po)]) C.x C.b dL_move_21 hl (by decide) rfl (fun ls hl => ?_)
  refine lv_iconst (v := nI 2) C.x C.b dL_move_23 (by decide) ?_
  exact k_iretX C hX hr hlocks hQ (by omega) (by omega) ⟨rfl, hp⟩ dL_move_24
theorem hdL_lie_X8_lie : yX8_lie.cls ≠ "java/lang/invoke/MethodHandle" ∧ yX8_lie.cls ≠ "java/lang/invoke/VarHandle" ∧ (parseMethodDescriptor yX8_lie.desc).map (fun d => d.parameters.length) = some 2 := by decide +kernel
theorem lk_L_lie_o : Cond.classLink RL 13 "java/lang/IndexOutOfBoundsException" ∈ wsL_lie := by decide +kernel
theorem in_L_lie_o : Cond.instantiable "java/lang/IndexOutOfBoundsException" 6 ∈ wsL_lie := by decide +kernel
theorem lk_L_lie_a : Cond.classLink RL 34 "java/lang/IllegalArgumentException" ∈ wsL_lie := by decide +kernel
theorem in_L_lie_a : Cond.instantiable "java/lang/IllegalArgumentException" 6 ∈ wsL_lie := by decide +kernel
theorem kL_lie_g (l : Launch) (G : kG) (B0 : Nat) (f : kH) (h po : Nat) (x1 x2 : Int32) {vs : List Value} (hh : f h = some (.inr (8, vs))) {rm : Room} {mc ms : Nat} (hrc : rm.cells = mc) (hrs : rm.slots = ms) {Φ : Int32 → kH → Prop} (hc : Met l yX8_lie wsX8_lie rm (kP G B0 f [.ref h, .int x1, .int x2]) (kQi G B0 Φ) mc ms (kAb B0)) (ho : ∀ r f1, Φ r f1 → ∃ g, f1 po = some (kaJ G 1 g)) : vx_Met l yL_lie wsL_lie (rmL rm) (kP G B0 f [.ref h, .int x1, .int x2, .ref po]) (kQi G B0 (fun r f2 => r = nI 0 ∧ ∃ r0 f1 g, Φ r0 f1 ∧ f1 po = some (kaJ G 1 g) ∧ f2 = kst f1 po (kaJ G 1 (vp_updL g 0 r0.toInt64)))) (kXN G B0) mc ms (kAb B0) := by
  refine kMetH (cc := cL_lie) (maxL := 5) (ret := (some .int)) (hh := [(0, 10, 13, 13), (0, 10, 17, 34)]) (by decide) rfl (Nat.le_of_ble_eq_true rfl) ?_
  intro p e s m args below meth c H locs Q ls C hX hl hr hlocks hQ htab
  have hl : lv_has ls 5 [(0, .ref h), (1, .int x1), (2, .int x2), (3, .ref po)] := hl
  refine lv_aload_n C.x C.b dL_lie_0 rfl (lv_at hl 3 rfl) ?_
  refine lv_iconst (v := nI 0) C.x C.b dL_lie_1 (by decide) ?_
  refine lv_aload_n C.x C.b dL_lie_2 rfl (lv_at hl 0 rfl) ?_
  refine lv_iload_n C.x C.b dL_lie_3 rfl (lv_at hl 1 rfl) ?_
  refine lv_iload_n C.x C.b dL_lie_4 rfl (lv_at hl 2 rfl) ?_
  refine k_calli (va_runV (As := [.int x1, .int x2]) (rest := [.int (nI 0), .ref po]) C.1 hc (cwV 2 C.ts gL_lie_X8_lie rfl hrc hrs ⟨rfl, hdL_lie_X8_lie⟩ ⟨Nat.le_refl _, by show 8 + (_ + 11) + rm.locals ≤ rm.locals + 40; omega⟩) (k_preV C hX hh rfl) rfl rfl hl.1 rfl (lv_room (Nat.le_of_ble_eq_true rfl)) dL_lie_5 ⟨by show 0 + mc ≤ rm.cells; omega, by show 0 + ms ≤ rm.slots; omega⟩) hX (fun r0 f1 H locs hp hX => ?_)
  obtain ⟨g, hg⟩ := ho r0 f1 hp
  refine lv_i2l (v := r0.toInt64) C.x C.b dL_lie_8 rfl ?_
  refine k_last C hX hg vp_in01 dL_lie_9 (fun H locs hX => ?_)
  refine lv_goto (tgt := 21) C.x C.b dL_lie_10 (by decide) ?_
  refine lv_iconst (v := nI 0) C.x C.b dL_lie_21 (by decide) ?_
  exact k_iretX C hX hr hlocks hQ (by omega) (by omega) ⟨rfl, r0, f1, g, hp, hg, rfl⟩ dL_lie_22
theorem kL_lie_o (l : Launch) (G : kG) (B0 : Nat) (f : kH) (h po : Nat) (x1 x2 : Int32) {vs : List Value} (hh : f h = some (.inr (8, vs))) {rm : Room} {mc ms : Nat} (hrc : rm.cells = mc) (hrs : rm.slots = ms) {post : kH → Prop} (hc : vx_Met l yX8_lie wsX8_lie rm (kP G B0 f [.ref h, .int x1, .int x2]) kNo (kXC G B0 "java/lang/IndexOutOfBoundsException" post) mc ms (kAb B0)) : vx_Met l yL_lie wsL_lie (rmL rm) (kP G B0 f [.ref h, .int x1, .int x2, .ref po]) (kQi G B0 (fun r f2 => r = nI 1 ∧ post f2)) (kXN G B0) mc ms (kAb B0) := by
  refine kMetH (cc := cL_lie) (maxL := 5) (ret := (some .int)) (hh := [(0, 10, 13, 13), (0, 10, 17, 34)]) (by decide) rfl (Nat.le_of_ble_eq_true rfl) ?_
  intro p e s m args below meth c H locs Q ls C hX hl hr hlocks hQ htab
  have hl : lv_has ls 5 [(0, .ref h), (1, .int x1), (2, .int x2), (3, .ref po)] := hl
  refine lv_aload_n C.x C.b dL_lie_0 rfl (lv_at hl 3 rfl) ?_
  refine lv_iconst (v := nI 0) C.x C.b dL_lie_1 (by decide) ?_
  refine lv_aload_n C.x C.b dL_lie_2 rfl (lv_at hl 0 rfl) ?_
  refine lv_iload_n C.x C.b dL_lie_3 rfl (lv_at hl 1 rfl) ?_
  refine lv_iload_n C.x C.b dL_lie_4 rfl (lv_at hl 2 rfl) ?_
  refine k_catX C (vx_runV (As := [.int x1, .int x2]) (rest := [.int (nI 0), .ref po]) C.1 hc (cwV 2 C.ts gL_lie_X8_lie rfl hrc hrs ⟨rfl, hdL_lie_X8_lie⟩ ⟨Nat.le_refl _, by show 8 + (_ + 11) + rm.locals ≤ rm.locals + 40; omega⟩) (k_preV C hX hh rfl) rfl rfl hl.1 rfl (lv_room (Nat.le_of_ble_eq_true rfl)) dL_lie_5 ⟨by show 0 + mc ≤ rm.cells; omega, by show 0 + ms ≤ rm.slots; omega⟩) hX [] (0, 10, 13, 13) [(0, 10, 17, 34)] htab (fun z hz => by simp at hz) (by decide) (by decide) lk_L_lie_o in_L_lie_o (fun q f1 H locs hp hX => ?_)
  refine lv_astore (lv' := [(4, .ref q), (0, .ref h), (1, .int x1), (2, .int x2), (3, .ref po)]) C.x C.b dL_lie_13 hl (by decide) rfl (fun ls hl => ?_)
  refine lv_iconst (v := nI 1) C.x C.b dL_lie_15 (by decide) ?_
  exact k_iretX C hX hr hlocks hQ (by omega) (by omega) ⟨rfl, hp⟩ dL_lie_16
theorem kL_lie_a (l : Launch) (G : kG) (B0 : Nat) (f : kH) (h po : Nat) (x1 x2 : Int32) {vs : List Value} (hh : f h = some (.inr (8, vs))) {rm : Room} {mc ms : Nat} (hrc : rm.cells = mc) (hrs : rm.slots = ms) {post : kH → Prop} (hc : vx_Met l yX8_lie wsX8_lie rm (kP G B0 f [.ref h, .int x1, .int x2]) kNo (kXC G B0 "java/lang/IllegalArgumentException" post) mc ms (kAb B0)) : vx_Met l yL_lie wsL_lie (rmL rm) (kP G B0 f [.ref h, .int x1, .int x2, .ref po]) (kQi G B0 (fun r f2 => r = nI 2 ∧ post f2)) (kXN G B0) mc ms (kAb B0) := by
  refine kMetH (cc := cL_lie) (maxL := 5) (ret := (some .int)) (hh := [(0, 10, 13, 13), (0, 10, 17, 34)]) (by decide) rfl (Nat.le_of_ble_eq_true rfl) ?_
  intro p e s m args below meth c H locs Q ls C hX hl hr hlocks hQ htab
  have hl : lv_has ls 5 [(0, .ref h), (1, .int x1), (2, .int x2), (3, .ref po)] := hl
  refine lv_aload_n C.x C.b dL_lie_0 rfl (lv_at hl 3 rfl) ?_
  refine lv_iconst (v := nI 0) C.x C.b dL_lie_1 (by decide) ?_
  refine lv_aload_n C.x C.b dL_lie_2 rfl (lv_at hl 0 rfl) ?_
  refine lv_iload_n C.x C.b dL_lie_3 rfl (lv_at hl 1 rfl) ?_
  refine lv_iload_n C.x C.b dL_lie_4 rfl (lv_at hl 2 rfl) ?_
  refine k_catX C (vx_runV (As := [.int x1, .int x2]) (rest := [.int (nI 0), .ref po]) C.1 hc (cwV 2 C.ts gL_lie_X8_lie rfl hrc hrs ⟨rfl, hdL_lie_X8_lie⟩ ⟨Nat.le_refl _, by show 8 + (_ + 11) + rm.locals ≤ rm.locals + 40; omega⟩) (k_preV C hX hh rfl) rfl rfl hl.1 rfl (lv_room (Nat.le_of_ble_eq_true rfl)) dL_lie_5 ⟨by show 0 + mc ≤ rm.cells; omega, by show 0 + ms ≤ rm.slots; omega⟩) hX [(0, 10, 13, 13)] (0, 10, 17, 34) [] htab (fun z hz => by
    simp only [List.mem_cons, List.not_mem_nil, or_false] at hz
    subst hz
    exact ⟨by decide, "java/lang/IndexOutOfBoundsException", lk_L_lie_o, by decide +kernel⟩) (by decide) (by decide) lk_L_lie_a in_L_lie_a (fun q f1 H locs hp hX => ?_)
  refine lv_astore (lv' := [(4, .ref q), (0, .ref h), (1, .int x1), (2, .int x2), (3, .ref po)]) C.x C.b dL_lie_17 hl (by decide) rfl (fun ls hl => ?_)
  refine lv_iconst (v := nI 2) C.x C.b dL_lie_19 (by decide) ?_
  exact k_iretX C hX hr hlocks hQ (by omega) (by omega) ⟨rfl, hp⟩ dL_lie_20
theorem hdL_pairs_X8_pairs : yX8_pairs.cls ≠ "java/lang/invoke/MethodHandle" ∧ yX8_pairs.cls ≠ "java/lang/invoke/VarHandle" ∧ (parseMethodDescriptor yX8_pairs.desc).map (fun d => d.parameters.length) = some 1 := by decide +kernel
theorem lk_L_pairs_a : Cond.classLink RL 34 "java/lang/IllegalArgumentException" ∈ wsL_pairs := by decide +kernel
theorem in_L_pairs_a : Cond.instantiable "java/lang/IllegalArgumentException" 6 ∈ wsL_pairs := by decide +kernel
theorem kL_pairs_g (l : Launch) (G : kG) (B0 : Nat) (f : kH) (h po : Nat) (x1 : Int32) {vs : List Value} (hh : f h = some (.inr (8, vs))) {rm : Room} {mc ms : Nat} (hrc : rm.cells = mc) (hrs : rm.slots = ms) {Φ : Int32 → kH → Prop} (hc : Met l yX8_pairs wsX8_pairs rm (kP G B0 f [.ref h, .int x1]) (kQi G B0 Φ) mc ms (kAb B0)) (ho : ∀ r f1, Φ r f1 → ∃ g, f1 po = some (kaJ G 1 g)) : vx_Met l yL_pairs wsL_pairs (rmL rm) (kP G B0 f [.ref h, .int x1, .ref po]) (kQi G B0 (fun r f2 => r = nI 0 ∧ ∃ r0 f1 g, Φ r0 f1 ∧ f1 po = some (kaJ G 1 g) ∧ f2 = kst f1 po (kaJ G 1 (vp_updL g 0 r0.toInt64)))) (kXN G B0) mc ms (kAb B0) := by
  refine kMetH (cc := cL_pairs) (maxL := 4) (ret := (some .int)) (hh := [(0, 9, 12, 34)]) (by decide) rfl (Nat.le_of_ble_eq_true rfl) ?_
  intro p e s m args below meth c H locs Q ls C hX hl hr hlocks hQ htab
  have hl : lv_has ls 4 [(0, .ref h), (1, .int x1), (2, .ref po)] := hl
  refine lv_aload_n C.x C.b dL_pairs_0 rfl (lv_at hl 2 rfl) ?_
  refine lv_iconst (v := nI 0) C.x C.b dL_pairs_1 (by decide) ?_
  refine lv_aload_n C.x C.b dL_pairs_2 rfl (lv_at hl 0 rfl) ?_
  refine lv_iload_n C.x C.b dL_pairs_3 rfl (lv_at hl 1 rfl) ?_
  refine k_calli (va_runV (As := [.int x1]) (rest := [.int (nI 0), .ref po]) C.1 hc (cwV 1 C.ts gL_pairs_X8_pairs rfl hrc hrs ⟨rfl, hdL_pairs_X8_pairs⟩ ⟨Nat.le_refl _, by show 8 + (_ + 11) + rm.locals ≤ rm.locals + 40; omega⟩) (k_preV C hX hh rfl) rfl rfl hl.1 rfl (lv_room (Nat.le_of_ble_eq_true rfl)) dL_pairs_4 ⟨by show 0 + mc ≤ rm.cells; omega, by show 0 + ms ≤ rm.slots; omega⟩) hX (fun r0 f1 H locs hp hX => ?_)
  obtain ⟨g, hg⟩ := ho r0 f1 hp
  refine lv_i2l (v := r0.toInt64) C.x C.b dL_pairs_7 rfl ?_
  refine k_last C hX hg vp_in01 dL_pairs_8 (fun H locs hX => ?_)
  refine lv_goto (tgt := 15) C.x C.b dL_pairs_9 (by decide) ?_
  refine lv_iconst (v := nI 0) C.x C.b dL_pairs_15 (by decide) ?_
  exact k_iretX C hX hr hlocks hQ (by omega) (by omega) ⟨rfl, r0, f1, g, hp, hg, rfl⟩ dL_pairs_16
theorem kL_pairs_a (l : Launch) (G : kG) (B0 : Nat) (f : kH) (h po : Nat) (x1 : Int32) {vs : List Value} (hh : f h = some (.inr (8, vs))) {rm : Room} {mc ms : Nat} (hrc : rm.cells = mc) (hrs : rm.slots = ms) {post : kH → Prop} (hc : vx_Met l yX8_pairs wsX8_pairs rm (kP G B0 f [.ref h, .int x1]) kNo (kXC G B0 "java/lang/IllegalArgumentException" post) mc ms (kAb B0)) : vx_Met l yL_pairs wsL_pairs (rmL rm) (kP G B0 f [.ref h, .int x1, .ref po]) (kQi G B0 (fun r f2 => r = nI 1 ∧ post f2)) (kXN G B0) mc ms (kAb B0) := by
  refine kMetH (cc := cL_pairs) (maxL := 4) (ret := (some .int)) (hh := [(0, 9, 12, 34)]) (by decide) rfl (Nat.le_of_ble_eq_true rfl) ?_
  intro p e s m args below meth c H locs Q ls C hX hl hr hlocks hQ htab
  have hl : lv_has ls 4 [(0, .ref h), (1, .int x1), (2, .ref po)] := hl
  refine lv_aload_n C.x C.b dL_pairs_0 rfl (lv_at hl 2 rfl) ?_
  refine lv_iconst (v := nI 0) C.x C.b dL_pairs_1 (by decide) ?_
  refine lv_aload_n C.x C.b dL_pairs_2 rfl (lv_at hl 0 rfl) ?_
  refine lv_iload_n C.x C.b dL_pairs_3 rfl (lv_at hl 1 rfl) ?_
  refine k_catX C (vx_runV (As := [.int x1]) (rest := [.int (nI 0), .ref po]) C.1 hc (cwV 1 C.ts gL_pairs_X8_pairs rfl hrc hrs ⟨rfl, hdL_pairs_X8_pairs⟩ ⟨Nat.le_refl _, by show 8 + (_ + 11) + rm.locals ≤ rm.locals + 40; omega⟩) (k_preV C hX hh rfl) rfl rfl hl.1 rfl (lv_room (Nat.le_of_ble_eq_true rfl)) dL_pairs_4 ⟨by show 0 + mc ≤ rm.cells; omega, by show 0 + ms ≤ rm.slots; omega⟩) hX [] (0, 9, 12, 34) [] htab (fun z hz => by simp at hz) (by decide) (by decide) lk_L_pairs_a in_L_pairs_a (fun q f1 H locs hp hX => ?_)
  refine lv_astore_n (lv' := [(3, .ref q), (0, .ref h), (1, .int x1), (2, .ref po)]) C.x C.b dL_pairs_12 rfl hl (by decide) rfl (fun ls hl => ?_)
  refine lv_iconst (v := nI 1) C.x C.b dL_pairs_13 (by decide) ?_
  exact k_iretX C hX hr hlocks hQ (by omega) (by omega) ⟨rfl, hp⟩ dL_pairs_14
theorem hdL_gasket_X8_gasket : yX8_gasket.cls ≠ "java/lang/invoke/MethodHandle" ∧ yX8_gasket.cls ≠ "java/lang/invoke/VarHandle" ∧ (parseMethodDescriptor yX8_gasket.desc).map (fun d => d.parameters.length) = some 4 := by decide +kernel
theorem lk_L_gasket_a : Cond.classLink RL 34 "java/lang/IllegalArgumentException" ∈ wsL_gasket := by decide +kernel
theorem in_L_gasket_a : Cond.instantiable "java/lang/IllegalArgumentException" 6 ∈ wsL_gasket := by decide +kernel
theorem lk_L_gasket_s : Cond.classLink RL 15 "java/lang/IllegalStateException" ∈ wsL_gasket := by decide +kernel
theorem in_L_gasket_s : Cond.instantiable "java/lang/IllegalStateException" 6 ∈ wsL_gasket := by decide +kernel
theorem kL_gasket_g (l : Launch) (G : kG) (B0 : Nat) (f : kH) (h po : Nat) (x1 x2 x3 x4 : Int32) {vs : List Value} (hh : f h = some (.inr (8, vs))) {rm : Room} {mc ms : Nat} (hrc : rm.cells = mc) (hrs : rm.slots = ms) {Φ : Int32 → kH → Prop} (hc : Met l yX8_gasket wsX8_gasket rm (kP G B0 f [.ref h, .int x1, .int x2, .int x3, .int x4]) (kQi G B0 Φ) mc ms (kAb B0)) (ho : ∀ r f1, Φ r f1 → ∃ g, f1 po = some (kaJ G 1 g)) : vx_Met l yL_gasket wsL_gasket (rmL rm) (kP G B0 f [.ref h, .int x1, .int x2, .int x3, .int x4, .ref po]) (kQi G B0 (fun r f2 => r = nI 0 ∧ ∃ r0 f1 g, Φ r0 f1 ∧ f1 po = some (kaJ G 1 g) ∧ f2 = kst f1 po (kaJ G 1 (vp_updL g 0 r0.toInt64)))) (kXN G B0) mc ms (kAb B0) := by
  refine kMetH (cc := cL_gasket) (maxL := 7) (ret := (some .int)) (hh := [(0, 14, 17, 34), (0, 14, 21, 15)]) (by decide) rfl (Nat.le_of_ble_eq_true rfl) ?_
  intro p e s m args below meth c H locs Q ls C hX hl hr hlocks hQ htab
  have hl : lv_has ls 7 [(0, .ref h), (1, .int x1), (2, .int x2), (3, .int x3), (4, .int x4), (5, .ref po)] := hl
  refine lv_aload C.x C.b dL_gasket_0 (lv_at hl 5 rfl) ?_
  refine lv_iconst (v := nI 0) C.x C.b dL_gasket_2 (by decide) ?_
  refine lv_aload_n C.x C.b dL_gasket_3 rfl (lv_at hl 0 rfl) ?_
  refine lv_iload_n C.x C.b dL_gasket_4 rfl (lv_at hl 1 rfl) ?_
  refine lv_iload_n C.x C.b dL_gasket_5 rfl (lv_at hl 2 rfl) ?_
  refine lv_iload_n C.x C.b dL_gasket_6 rfl (lv_at hl 3 rfl) ?_
  refine lv_iload C.x C.b dL_gasket_7 (lv_at hl 4 rfl) ?_
  refine k_calli (va_runV (As := [.int x1, .int x2, .int x3, .int x4]) (rest := [.int (nI 0), .ref po]) C.1 hc (cwV 4 C.ts gL_gasket_X8_gasket rfl hrc hrs ⟨rfl, hdL_gasket_X8_gasket⟩ ⟨Nat.le_refl _, by show 8 + (_ + 11) + rm.locals ≤ rm.locals + 40; omega⟩) (k_preV C hX hh rfl) rfl rfl hl.1 rfl (lv_room (Nat.le_of_ble_eq_true rfl)) dL_gasket_9 ⟨by show 0 + mc ≤ rm.cells; omega, by show 0 + ms ≤ rm.slots; omega⟩) hX (fun r0 f1 H locs hp hX => ?_)
  obtain ⟨g, hg⟩ := ho r0 f1 hp
  refine lv_i2l (v := r0.toInt64) C.x C.b dL_gasket_12 rfl ?_
  refine k_last C hX hg vp_in01 dL_gasket_13 (fun H locs hX => ?_)
  refine lv_goto (tgt := 25) C.x C.b dL_gasket_14 (by decide) ?_
  refine lv_iconst (v := nI 0) C.x C.b dL_gasket_25 (by decide) ?_
  exact k_iretX C hX hr hlocks hQ (by omega) (by omega) ⟨rfl, r0, f1, g, hp, hg, rfl⟩ dL_gasket_26
theorem kL_gasket_a (l : Launch) (G : kG) (B0 : Nat) (f : kH) (h po : Nat) (x1 x2 x3 x4 : Int32) {vs : List Value} (hh : f h = some (.inr (8, vs))) {rm : Room} {mc ms : Nat} (hrc : rm.cells = mc) (hrs : rm.slots = ms) {post : kH → Prop} (hc : vx_Met l yX8_gasket wsX8_gasket rm (kP G B0 f [.ref h, .int x1, .int x2, .int x3, .int x4]) kNo (kXC G B0 "java/lang/IllegalArgumentException" post) mc ms (kAb B0)) : vx_Met l yL_gasket wsL_gasket (rmL rm) (kP G B0 f [.ref h, .int x1, .int x2, .int x3, .int x4, .ref po]) (kQi G B0 (fun r f2 => r = nI 1 ∧ post f2)) (kXN G B0) mc ms (kAb B0) := by
  refine kMetH (cc := cL_gasket) (maxL := 7) (ret := (some .int)) (hh := [(0, 14, 17, 34), (0, 14, 21, 15)]) (by decide) rfl (Nat.le_of_ble_eq_true rfl) ?_
  intro p e s m args below meth c H locs Q ls C hX hl hr hlocks hQ htab
  have hl : lv_has ls 7 [(0, .ref h), (1, .int x1), (2, .int x2), (3, .int x3), (4, .int x4), (5, .ref po)] := hl
  refine lv_aload C.x C.b dL_gasket_0 (lv_at hl 5 rfl) ?_
  refine lv_iconst (v := nI 0) C.x C.b dL_gasket_2 (by decide) ?_
  refine lv_aload_n C.x C.b dL_gasket_3 rfl (lv_at hl 0 rfl) ?_
  refine lv_iload_n C.x C.b dL_gasket_4 rfl (lv_at hl 1 rfl) ?_
  refine lv_iload_n C.x C.b dL_gasket_5 rfl (lv_at hl 2 rfl) ?_
  refine lv_iload_n C.x C.b dL_gasket_6 rfl (lv_at hl 3 rfl) ?_
  refine lv_iload C.x C.b dL_gasket_7 (lv_at hl 4 rfl) ?_
  refine k_catX C (vx_runV (As := [.int x1, .int x2, .int x3, .int x4]) (rest := [.int (nI 0), .ref po]) C.1 hc (cwV 4 C.ts gL_gasket_X8_gasket rfl hrc hrs ⟨rfl, hdL_gasket_X8_gasket⟩ ⟨Nat.le_refl _, by show 8 + (_ + 11) + rm.locals ≤ rm.locals + 40; omega⟩) (k_preV C hX hh rfl) rfl rfl hl.1 rfl (lv_room (Nat.le_of_ble_eq_true rfl)) dL_gasket_9 ⟨by show 0 + mc ≤ rm.cells; omega, by show 0 + ms ≤ rm.slots; omega⟩) hX [] (0, 14, 17, 34) [(0, 14, 21, 15)] htab (fun z hz => by simp at hz) (by decide) (by decide) lk_L_gasket_a in_L_gasket_a (fun q f1 H locs hp hX => ?_)
  refine lv_astore (lv' := [(6, .ref q), (0, .ref h), (1, .int x1), (2, .int x2), (3, .int x3), (4, .int x4), (5, .ref po)]) C.x C.b dL_gasket_17 hl (by decide) rfl (fun ls hl => ?_)
  refine lv_iconst (v := nI 1) C.x C.b dL_gasket_19 (by decide) ?_
  exact k_iretX C hX hr hlocks hQ (by omega) (by omega) ⟨rfl, hp⟩ dL_gasket_20
theorem kL_gasket_s (l : Launch) (G : kG) (B0 : Nat) (f : kH) (h po : Nat) (x1 x2 x3 x4 : Int32) {vs : List Value} (hh : f h = some (.inr (8, vs))) {rm : Room} {mc ms : Nat} (hrc : rm.cells = mc) (hrs : rm.slots = ms) {post : kH → Prop} (hc : vx_Met l yX8_gasket wsX8_gasket rm (kP G B0 f [.ref h, .int x1, .int x2, .int x3, .int x4]) kNo (kXC G B0 "java/lang/IllegalStateException" post) mc ms (kAb B0)) : vx_Met l yL_gasket wsL_gasket (rmL rm) (kP G B0 f [.ref h, .int x1, .int x2, .int x3, .int x4, .ref po]) (kQi G B0 (fun r f2 => r = nI 2 ∧ post f2)) (kXN G B0) mc ms (kAb B0) := by
  refine kMetH (cc := cL_gasket) (maxL := 7) (ret := (some .int)) (hh := [(0, 14, 17, 34), (0, 14, 21, 15)]) (by decide) rfl (Nat.le_of_ble_eq_true rfl) ?_
  intro p e s m args below meth c H locs Q ls C hX hl hr hlocks hQ htab
  have hl : lv_has ls 7 [(0, .ref h), (1, .int x1), (2, .int x2), (3, .int x3), (4, .int x4), (5, .ref po)] := hl
  refine lv_aload C.x C.b dL_gasket_0 (lv_at hl 5 rfl) ?_
  refine lv_iconst (v := nI 0) C.x C.b dL_gasket_2 (by decide) ?_
  refine lv_aload_n C.x C.b dL_gasket_3 rfl (lv_at hl 0 rfl) ?_
  refine lv_iload_n C.x C.b dL_gasket_4 rfl (lv_at hl 1 rfl) ?_
  refine lv_iload_n C.x C.b dL_gasket_5 rfl (lv_at hl 2 rfl) ?_
  refine lv_iload_n C.x C.b dL_gasket_6 rfl (lv_at hl 3 rfl) ?_
  refine lv_iload C.x C.b dL_gasket_7 (lv_at hl 4 rfl) ?_
  refine k_catX C (vx_runV (As := [.int x1, .int x2, .int x3, .int x4]) (rest := [.int (nI 0), .ref po]) C.1 hc (cwV 4 C.ts gL_gasket_X8_gasket rfl hrc hrs ⟨rfl, hdL_gasket_X8_gasket⟩ ⟨Nat.le_refl _, by show 8 + (_ + 11) + rm.locals ≤ rm.locals + 40; omega⟩) (k_preV C hX hh rfl) rfl rfl hl.1 rfl (lv_room (Nat.le_of_ble_eq_true rfl)) dL_gasket_9 ⟨by show 0 + mc ≤ rm.cells; omega, by show 0 + ms ≤ rm.slots; omega⟩) hX [(0, 14, 17, 34)] (0, 14, 21, 15) [] htab (fun z hz => by
    simp only [List.mem_cons, List.not_mem_nil, or_false] at hz
    subst hz
    exact ⟨by decide, "java/lang/IllegalArgumentException", lk_L_gasket_a, by decide +kernel⟩) (by decide) (by decide) lk_L_gasket_s in_L_gasket_s (fun q f1 H locs hp hX => ?_)
  refine lv_astore (lv' := [(6, .ref q), (0, .ref h), (1, .int x1), (2, .int x2), (3, .int x3), (4, .int x4), (5, .ref po)]) C.x C.b dL_gasket_21 hl (by decide) rfl (fun ls hl => ?_)
  refine lv_iconst (v := nI 2) C.x C.b dL_gasket_23 (by decide) ?_
  exact k_iretX C hX hr hlocks hQ (by omega) (by omega) ⟨rfl, hp⟩ dL_gasket_24
theorem hdL_turn_X8_turn : yX8_turn.cls ≠ "java/lang/invoke/MethodHandle" ∧ yX8_turn.cls ≠ "java/lang/invoke/VarHandle" ∧ (parseMethodDescriptor yX8_turn.desc).map (fun d => d.parameters.length) = some 2 := by decide +kernel
theorem lk_L_turn_o : Cond.classLink RL 13 "java/lang/IndexOutOfBoundsException" ∈ wsL_turn := by decide +kernel
theorem in_L_turn_o : Cond.instantiable "java/lang/IndexOutOfBoundsException" 6 ∈ wsL_turn := by decide +kernel
theorem lk_L_turn_s : Cond.classLink RL 15 "java/lang/IllegalStateException" ∈ wsL_turn := by decide +kernel
theorem in_L_turn_s : Cond.instantiable "java/lang/IllegalStateException" 6 ∈ wsL_turn := by decide +kernel
theorem kL_turn_g (l : Launch) (G : kG) (B0 : Nat) (f : kH) (h po : Nat) (x1 x2 : Int32) {vs : List Value} (hh : f h = some (.inr (8, vs))) {rm : Room} {mc ms : Nat} (hrc : rm.cells = mc) (hrs : rm.slots = ms) {Φ : Int64 → kH → Prop} (hc : Met l yX8_turn wsX8_turn rm (kP G B0 f [.ref h, .int x1, .int x2]) (kQl G B0 Φ) mc ms (kAb B0)) (ho : ∀ r f1, Φ r f1 → ∃ g, f1 po = some (kaJ G 1 g)) : vx_Met l yL_turn wsL_turn (rmL rm) (kP G B0 f [.ref h, .int x1, .int x2, .ref po]) (kQi G B0 (fun r f2 => r = nI 0 ∧ ∃ r0 f1 g, Φ r0 f1 ∧ f1 po = some (kaJ G 1 g) ∧ f2 = kst f1 po (kaJ G 1 (vp_updL g 0 r0)))) (kXN G B0) mc ms (kAb B0) := by
  refine kMetH (cc := cL_turn) (maxL := 5) (ret := (some .int)) (hh := [(0, 9, 12, 13), (0, 9, 16, 15)]) (by decide) rfl (Nat.le_of_ble_eq_true rfl) ?_
  intro p e s m args below meth c H locs Q ls C hX hl hr hlocks hQ htab
  have hl : lv_has ls 5 [(0, .ref h), (1, .int x1), (2, .int x2), (3, .ref po)] := hl
  refine lv_aload_n C.x C.b dL_turn_0 rfl (lv_at hl 3 rfl) ?_
  refine lv_iconst (v := nI 0) C.x C.b dL_turn_1 (by decide) ?_
  refine lv_aload_n C.x C.b dL_turn_2 rfl (lv_at hl 0 rfl) ?_
  refine lv_iload_n C.x C.b dL_turn_3 rfl (lv_at hl 1 rfl) ?_
  refine lv_iload_n C.x C.b dL_turn_4 rfl (lv_at hl 2 rfl) ?_
  refine k_calll (va_runV (As := [.int x1, .int x2]) (rest := [.int (nI 0), .ref po]) C.1 hc (cwV 2 C.ts gL_turn_X8_turn rfl hrc hrs ⟨rfl, hdL_turn_X8_turn⟩ ⟨Nat.le_refl _, by show 8 + (_ + 11) + rm.locals ≤ rm.locals + 40; omega⟩) (k_preV C hX hh rfl) rfl rfl hl.1 rfl (lv_room (Nat.le_of_ble_eq_true rfl)) dL_turn_5 ⟨by show 0 + mc ≤ rm.cells; omega, by show 0 + ms ≤ rm.slots; omega⟩) hX (fun r0 f1 H locs hp hX => ?_)
  obtain ⟨g, hg⟩ := ho r0 f1 hp
  refine k_last C hX hg vp_in01 dL_turn_8 (fun H locs hX => ?_)
  refine lv_goto (tgt := 20) C.x C.b dL_turn_9 (by decide) ?_
  refine lv_iconst (v := nI 0) C.x C.b dL_turn_20 (by decide) ?_
  exact k_iretX C hX hr hlocks hQ (by omega) (by omega) ⟨rfl, r0, f1, g, hp, hg, rfl⟩ dL_turn_21
theorem kL_turn_o (l : Launch) (G : kG) (B0 : Nat) (f : kH) (h po : Nat) (x1 x2 : Int32) {vs : List Value} (hh : f h = some (.inr (8, vs))) {rm : Room} {mc ms : Nat} (hrc : rm.cells = mc) (hrs : rm.slots = ms) {post : kH → Prop} (hc : vx_Met l yX8_turn wsX8_turn rm (kP G B0 f [.ref h, .int x1, .int x2]) kNo (kXC G B0 "java/lang/IndexOutOfBoundsException" post) mc ms (kAb B0)) : vx_Met l yL_turn wsL_turn (rmL rm) (kP G B0 f [.ref h, .int x1, .int x2, .ref po]) (kQi G B0 (fun r f2 => r = nI 1 ∧ post f2)) (kXN G B0) mc ms (kAb B0) := by
  refine kMetH (cc := cL_turn) (maxL := 5) (ret := (some .int)) (hh := [(0, 9, 12, 13), (0, 9, 16, 15)]) (by decide) rfl (Nat.le_of_ble_eq_true rfl) ?_
  intro p e s m args below meth c H locs Q ls C hX hl hr hlocks hQ htab
  have hl : lv_has ls 5 [(0, .ref h), (1, .int x1), (2, .int x2), (3, .ref po)] := hl
  refine lv_aload_n C.x C.b dL_turn_0 rfl (lv_at hl 3 rfl) ?_
  refine lv_iconst (v := nI 0) C.x C.b dL_turn_1 (by decide) ?_
  refine lv_aload_n C.x C.b dL_turn_2 rfl (lv_at hl 0 rfl) ?_
  refine lv_iload_n C.x C.b dL_turn_3 rfl (lv_at hl 1 rfl) ?_
  refine lv_iload_n C.x C.b dL_turn_4 rfl (lv_at hl 2 rfl) ?_
  refine k_catX C (vx_runV (As := [.int x1, .int x2]) (rest := [.int (nI 0), .ref po]) C.1 hc (cwV 2 C.ts gL_turn_X8_turn rfl hrc hrs ⟨rfl, hdL_turn_X8_turn⟩ ⟨Nat.le_refl _, by show 8 + (_ + 11) + rm.locals ≤ rm.locals + 40; omega⟩) (k_preV C hX hh rfl) rfl rfl hl.1 rfl (lv_room (Nat.le_of_ble_eq_true rfl)) dL_turn_5 ⟨by show 0 + mc ≤ rm.cells; omega, by show 0 + ms ≤ rm.slots; omega⟩) hX [] (0, 9, 12, 13) [(0, 9, 16, 15)] htab (fun z hz => by simp at hz) (by decide) (by decide) lk_L_turn_o in_L_turn_o (fun q f1 H locs hp hX => ?_)
  refine lv_astore (lv' := [(4, .ref q), (0, .ref h), (1, .int x1), (2, .int x2), (3, .ref po)]) C.x C.b dL_turn_12 hl (by decide) rfl (fun ls hl => ?_)
  refine lv_iconst (v := nI 1) C.x C.b dL_turn_14 (by decide) ?_
  exact k_iretX C hX hr hlocks hQ (by omega) (by omega) ⟨rfl, hp⟩ dL_turn_15
theorem kL_turn_s (l : Launch) (G : kG) (B0 : Nat) (f : kH) (h po : Nat) (x1 x2 : Int32) {vs : List Value} (hh : f h = some (.inr (8, vs))) {rm : Room} {mc ms : Nat} (hrc : rm.cells = mc) (hrs : rm.slots = ms) {post : kH → Prop} (hc : vx_Met l yX8_turn wsX8_turn rm (kP G B0 f [.ref h, .int x1, .int x2]) kNo (kXC G B0 "java/lang/IllegalStateException" post) mc ms (kAb B0)) : vx_Met l yL_turn wsL_turn (rmL rm) (kP G B0 f [.ref h, .int x1, .int x2, .ref po]) (kQi G B0 (fun r f2 => r = nI 2 ∧ post f2)) (kXN G B0) mc ms (kAb B0) := by
  refine kMetH (cc := cL_turn) (maxL := 5) (ret := (some .int)) (hh := [(0, 9, 12, 13), (0, 9, 16, 15)]) (by decide) rfl (Nat.le_of_ble_eq_true rfl) ?_
  intro p e s m args below meth c H locs Q ls C hX hl hr hlocks hQ htab
  have hl : lv_has ls 5 [(0, .ref h), (1, .int x1), (2, .int x2), (3, .ref po)] := hl
  refine lv_aload_n C.x C.b dL_turn_0 rfl (lv_at hl 3 rfl) ?_
  refine lv_iconst (v := nI 0) C.x C.b dL_turn_1 (by decide) ?_
  refine lv_aload_n C.x C.b dL_turn_2 rfl (lv_at hl 0 rfl) ?_
  refine lv_iload_n C.x C.b dL_turn_3 rfl (lv_at hl 1 rfl) ?_
  refine lv_iload_n C.x C.b dL_turn_4 rfl (lv_at hl 2 rfl) ?_
  refine k_catX C (vx_runV (As := [.int x1, .int x2]) (rest := [.int (nI 0), .ref po]) C.1 hc (cwV 2 C.ts gL_turn_X8_turn rfl hrc hrs ⟨rfl, hdL_turn_X8_turn⟩ ⟨Nat.le_refl _, by show 8 + (_ + 11) + rm.locals ≤ rm.locals + 40; omega⟩) (k_preV C hX hh rfl) rfl rfl hl.1 rfl (lv_room (Nat.le_of_ble_eq_true rfl)) dL_turn_5 ⟨by show 0 + mc ≤ rm.cells; omega, by show 0 + ms ≤ rm.slots; omega⟩) hX [(0, 9, 12, 13)] (0, 9, 16, 15) [] htab (fun z hz => by
    simp only [List.mem_cons, List.not_mem_nil, or_false] at hz
    subst hz
    exact ⟨by decide, "java/lang/IndexOutOfBoundsException", lk_L_turn_o, by decide +kernel⟩) (by decide) (by decide) lk_L_turn_s in_L_turn_s (fun q f1 H locs hp hX => ?_)
  refine lv_astore (lv' := [(4, .ref q), (0, .ref h), (1, .int x1), (2, .int x2), (3, .ref po)]) C.x C.b dL_turn_16 hl (by decide) rfl (fun ls hl => ?_)
  refine lv_iconst (v := nI 2) C.x C.b dL_turn_18 (by decide) ?_
  exact k_iretX C hX hr hlocks hQ (by omega) (by omega) ⟨rfl, hp⟩ dL_turn_19
theorem hdL_curvature_X8_curvature : yX8_curvature.cls ≠ "java/lang/invoke/MethodHandle" ∧ yX8_curvature.cls ≠ "java/lang/invoke/VarHandle" ∧ (parseMethodDescriptor yX8_curvature.desc).map (fun d => d.parameters.length) = some 2 := by decide +kernel
theorem lk_L_curvature_o : Cond.classLink RL 13 "java/lang/IndexOutOfBoundsException" ∈ wsL_curvature := by decide +kernel
theorem in_L_curvature_o : Cond.instantiable "java/lang/IndexOutOfBoundsException" 6 ∈ wsL_curvature := by decide +kernel
theorem kL_curvature_g (l : Launch) (G : kG) (B0 : Nat) (f : kH) (h po : Nat) (x1 x2 : Int32) {vs : List Value} (hh : f h = some (.inr (8, vs))) {rm : Room} {mc ms : Nat} (hrc : rm.cells = mc) (hrs : rm.slots = ms) {Φ : Int64 → kH → Prop} (hc : Met l yX8_curvature wsX8_curvature rm (kP G B0 f [.ref h, .int x1, .int x2]) (kQl G B0 Φ) mc ms (kAb B0)) (ho : ∀ r f1, Φ r f1 → ∃ g, f1 po = some (kaJ G 1 g)) : vx_Met l yL_curvature wsL_curvature (rmL rm) (kP G B0 f [.ref h, .int x1, .int x2, .ref po]) (kQi G B0 (fun r f2 => r = nI 0 ∧ ∃ r0 f1 g, Φ r0 f1 ∧ f1 po = some (kaJ G 1 g) ∧ f2 = kst f1 po (kaJ G 1 (vp_updL g 0 r0)))) (kXN G B0) mc ms (kAb B0) := by
  refine kMetH (cc := cL_curvature) (maxL := 5) (ret := (some .int)) (hh := [(0, 9, 12, 13)]) (by decide) rfl (Nat.le_of_ble_eq_true rfl) ?_
  intro p e s m args below meth c H locs Q ls C hX hl hr hlocks hQ htab
  have hl : lv_has ls 5 [(0, .ref h), (1, .int x1), (2, .int x2), (3, .ref po)] := hl
  refine lv_aload_n C.x C.b dL_curvature_0 rfl (lv_at hl 3 rfl) ?_
  refine lv_iconst (v := nI 0) C.x C.b dL_curvature_1 (by decide) ?_
  refine lv_aload_n C.x C.b dL_curvature_2 rfl (lv_at hl 0 rfl) ?_
  refine lv_iload_n C.x C.b dL_curvature_3 rfl (lv_at hl 1 rfl) ?_
  refine lv_iload_n C.x C.b dL_curvature_4 rfl (lv_at hl 2 rfl) ?_
  refine k_calll (va_runV (As := [.int x1, .int x2]) (rest := [.int (nI 0), .ref po]) C.1 hc (cwV 2 C.ts gL_curvature_X8_curvature rfl hrc hrs ⟨rfl, hdL_curvature_X8_curvature⟩ ⟨Nat.le_refl _, by show 8 + (_ + 11) + rm.locals ≤ rm.locals + 40; omega⟩) (k_preV C hX hh rfl) rfl rfl hl.1 rfl (lv_room (Nat.le_of_ble_eq_true rfl)) dL_curvature_5 ⟨by show 0 + mc ≤ rm.cells; omega, by show 0 + ms ≤ rm.slots; omega⟩) hX (fun r0 f1 H locs hp hX => ?_)
  obtain ⟨g, hg⟩ := ho r0 f1 hp
  refine k_last C hX hg vp_in01 dL_curvature_8 (fun H locs hX => ?_)
  refine lv_goto (tgt := 16) C.x C.b dL_curvature_9 (by decide) ?_
  refine lv_iconst (v := nI 0) C.x C.b dL_curvature_16 (by decide) ?_
  exact k_iretX C hX hr hlocks hQ (by omega) (by omega) ⟨rfl, r0, f1, g, hp, hg, rfl⟩ dL_curvature_17
theorem kL_curvature_o (l : Launch) (G : kG) (B0 : Nat) (f : kH) (h po : Nat) (x1 x2 : Int32) {vs : List Value} (hh : f h = some (.inr (8, vs))) {rm : Room} {mc ms : Nat} (hrc : rm.cells = mc) (hrs : rm.slots = ms) {post : kH → Prop} (hc : vx_Met l yX8_curvature wsX8_curvature rm (kP G B0 f [.ref h, .int x1, .int x2]) kNo (kXC G B0 "java/lang/IndexOutOfBoundsException" post) mc ms (kAb B0)) : vx_Met l yL_curvature wsL_curvature (rmL rm) (kP G B0 f [.ref h, .int x1, .int x2, .ref po]) (kQi G B0 (fun r f2 => r = nI 1 ∧ post f2)) (kXN G B0) mc ms (kAb B0) := by
  refine kMetH (cc := cL_curvature) (maxL := 5) (ret := (some .int)) (hh := [(0, 9, 12, 13)]) (by decide) rfl (Nat.le_of_ble_eq_true rfl) ?_
  intro p e s m args below meth c H locs Q ls C hX hl hr hlocks hQ htab
  have hl : lv_has ls 5 [(0, .ref h), (1, .int x1), (2, .int x2), (3, .ref po)] := hl
  refine lv_aload_n C.x C.b dL_curvature_0 rfl (lv_at hl 3 rfl) ?_
  refine lv_iconst (v := nI 0) C.x C.b dL_curvature_1 (by decide) ?_
  refine lv_aload_n C.x C.b dL_curvature_2 rfl (lv_at hl 0 rfl) ?_
  refine lv_iload_n C.x C.b dL_curvature_3 rfl (lv_at hl 1 rfl) ?_
  refine lv_iload_n C.x C.b dL_curvature_4 rfl (lv_at hl 2 rfl) ?_
  refine k_catX C (vx_runV (As := [.int x1, .int x2]) (rest := [.int (nI 0), .ref po]) C.1 hc (cwV 2 C.ts gL_curvature_X8_curvature rfl hrc hrs ⟨rfl, hdL_curvature_X8_curvature⟩ ⟨Nat.le_refl _, by show 8 + (_ + 11) + rm.locals ≤ rm.locals + 40; omega⟩) (k_preV C hX hh rfl) rfl rfl hl.1 rfl (lv_room (Nat.le_of_ble_eq_true rfl)) dL_curvature_5 ⟨by show 0 + mc ≤ rm.cells; omega, by show 0 + ms ≤ rm.slots; omega⟩) hX [] (0, 9, 12, 13) [] htab (fun z hz => by simp at hz) (by decide) (by decide) lk_L_curvature_o in_L_curvature_o (fun q f1 H locs hp hX => ?_)
  refine lv_astore (lv' := [(4, .ref q), (0, .ref h), (1, .int x1), (2, .int x2), (3, .ref po)]) C.x C.b dL_curvature_12 hl (by decide) rfl (fun ls hl => ?_)
  refine lv_iconst (v := nI 1) C.x C.b dL_curvature_14 (by decide) ?_
  exact k_iretX C hX hr hlocks hQ (by omega) (by omega) ⟨rfl, hp⟩ dL_curvature_15
theorem hdL_radius_X8_radius : yX8_radius.cls ≠ "java/lang/invoke/MethodHandle" ∧ yX8_radius.cls ≠ "java/lang/invoke/VarHandle" ∧ (parseMethodDescriptor yX8_radius.desc).map (fun d => d.parameters.length) = some 2 := by decide +kernel
theorem lk_L_radius_o : Cond.classLink RL 13 "java/lang/IndexOutOfBoundsException" ∈ wsL_radius := by decide +kernel
theorem in_L_radius_o : Cond.instantiable "java/lang/IndexOutOfBoundsException" 6 ∈ wsL_radius := by decide +kernel
theorem kL_radius_g (l : Launch) (G : kG) (B0 : Nat) (f : kH) (h po : Nat) (x1 x2 : Int32) {vs : List Value} (hh : f h = some (.inr (8, vs))) {rm : Room} {mc ms : Nat} (hrc : rm.cells = mc) (hrs : rm.slots = ms) {Φ : UInt32 → kH → Prop} (hc : Met l yX8_radius wsX8_radius rm (kP G B0 f [.ref h, .int x1, .int x2]) (kQf G B0 Φ) mc ms (kAb B0)) (ho : ∀ r f1, Φ r f1 → ∃ g, f1 po = some (kaD G 1 g)) (hnn : ∀ r f1, Φ r f1 → vf_n64 (FP.f2d r)) : vx_Met l yL_radius wsL_radius (rmL rm) (kP G B0 f [.ref h, .int x1, .int x2, .ref po]) (kQi G B0 (fun r f2 => r = nI 0 ∧ ∃ r0 f1 g, Φ r0 f1 ∧ f1 po = some (kaD G 1 g) ∧ f2 = kst f1 po (kaD G 1 (vf_upd g 0 (FP.f2d r0))))) (kXN G B0) mc ms (kAb B0) := by
  refine kMetH (cc := cL_radius) (maxL := 5) (ret := (some .int)) (hh := [(0, 10, 13, 13)]) (by decide) rfl (Nat.le_of_ble_eq_true rfl) ?_
  intro p e s m args below meth c H locs Q ls C hX hl hr hlocks hQ htab
  have hl : lv_has ls 5 [(0, .ref h), (1, .int x1), (2, .int x2), (3, .ref po)] := hl
  refine lv_aload_n C.x C.b dL_radius_0 rfl (lv_at hl 3 rfl) ?_
  refine lv_iconst (v := nI 0) C.x C.b dL_radius_1 (by decide) ?_
  refine lv_aload_n C.x C.b dL_radius_2 rfl (lv_at hl 0 rfl) ?_
  refine lv_iload_n C.x C.b dL_radius_3 rfl (lv_at hl 1 rfl) ?_
  refine lv_iload_n C.x C.b dL_radius_4 rfl (lv_at hl 2 rfl) ?_
  refine k_callf (va_runV (As := [.int x1, .int x2]) (rest := [.int (nI 0), .ref po]) C.1 hc (cwV 2 C.ts gL_radius_X8_radius rfl hrc hrs ⟨rfl, hdL_radius_X8_radius⟩ ⟨Nat.le_refl _, by show 8 + (_ + 11) + rm.locals ≤ rm.locals + 40; omega⟩) (k_preV C hX hh rfl) rfl rfl hl.1 rfl (lv_room (Nat.le_of_ble_eq_true rfl)) dL_radius_5 ⟨by show 0 + mc ≤ rm.cells; omega, by show 0 + ms ≤ rm.slots; omega⟩) hX (fun r0 f1 H locs hp hX => ?_)
  obtain ⟨g, hg⟩ := ho r0 f1 hp
  refine lv_f2d C.x C.b dL_radius_8 (hnn r0 f1 hp) ?_
  refine k_dast C hX hg vp_in01 dL_radius_9 (fun H locs hX => ?_)
  refine lv_goto (tgt := 17) C.x C.b dL_radius_10 (by decide) ?_
  refine lv_iconst (v := nI 0) C.x C.b dL_radius_17 (by decide) ?_
  exact k_iretX C hX hr hlocks hQ (by omega) (by omega) ⟨rfl, r0, f1, g, hp, hg, rfl⟩ dL_radius_18
theorem kL_radius_o (l : Launch) (G : kG) (B0 : Nat) (f : kH) (h po : Nat) (x1 x2 : Int32) {vs : List Value} (hh : f h = some (.inr (8, vs))) {rm : Room} {mc ms : Nat} (hrc : rm.cells = mc) (hrs : rm.slots = ms) {post : kH → Prop} (hc : vx_Met l yX8_radius wsX8_radius rm (kP G B0 f [.ref h, .int x1, .int x2]) kNo (kXC G B0 "java/lang/IndexOutOfBoundsException" post) mc ms (kAb B0)) : vx_Met l yL_radius wsL_radius (rmL rm) (kP G B0 f [.ref h, .int x1, .int x2, .ref po]) (kQi G B0 (fun r f2 => r = nI 1 ∧ post f2)) (kXN G B0) mc ms (kAb B0) := by
  refine kMetH (cc := cL_radius) (maxL := 5) (ret := (some .int)) (hh := [(0, 10, 13, 13)]) (by decide) rfl (Nat.le_of_ble_eq_true rfl) ?_
  intro p e s m args below meth c H locs Q ls C hX hl hr hlocks hQ htab
  have hl : lv_has ls 5 [(0, .ref h), (1, .int x1), (2, .int x2), (3, .ref po)] := hl
  refine lv_aload_n C.x C.b dL_radius_0 rfl (lv_at hl 3 rfl) ?_
  refine lv_iconst (v := nI 0) C.x C.b dL_radius_1 (by decide) ?_
  refine lv_aload_n C.x C.b dL_radius_2 rfl (lv_at hl 0 rfl) ?_
  refine lv_iload_n C.x C.b dL_radius_3 rfl (lv_at hl 1 rfl) ?_
  refine lv_iload_n C.x C.b dL_radius_4 rfl (lv_at hl 2 rfl) ?_
  refine k_catX C (vx_runV (As := [.int x1, .int x2]) (rest := [.int (nI 0), .ref po]) C.1 hc (cwV 2 C.ts gL_radius_X8_radius rfl hrc hrs ⟨rfl, hdL_radius_X8_radius⟩ ⟨Nat.le_refl _, by show 8 + (_ + 11) + rm.locals ≤ rm.locals + 40; omega⟩) (k_preV C hX hh rfl) rfl rfl hl.1 rfl (lv_room (Nat.le_of_ble_eq_true rfl)) dL_radius_5 ⟨by show 0 + mc ≤ rm.cells; omega, by show 0 + ms ≤ rm.slots; omega⟩) hX [] (0, 10, 13, 13) [] htab (fun z hz => by simp at hz) (by decide) (by decide) lk_L_radius_o in_L_radius_o (fun q f1 H locs hp hX => ?_)
  refine lv_astore (lv' := [(4, .ref q), (0, .ref h), (1, .int x1), (2, .int x2), (3, .ref po)]) C.x C.b dL_radius_13 hl (by decide) rfl (fun ls hl => ?_)
  refine lv_iconst (v := nI 1) C.x C.b dL_radius_15 (by decide) ?_
  exact k_iretX C hX hr hlocks hQ (by omega) (by omega) ⟨rfl, hp⟩ dL_radius_16
theorem hdL_root_X8_root : yX8_root.cls ≠ "java/lang/invoke/MethodHandle" ∧ yX8_root.cls ≠ "java/lang/invoke/VarHandle" ∧ (parseMethodDescriptor yX8_root.desc).map (fun d => d.parameters.length) = some 2 := by decide +kernel
theorem lk_L_root_o : Cond.classLink RL 13 "java/lang/IndexOutOfBoundsException" ∈ wsL_root := by decide +kernel
theorem in_L_root_o : Cond.instantiable "java/lang/IndexOutOfBoundsException" 6 ∈ wsL_root := by decide +kernel
theorem kL_root_g (l : Launch) (G : kG) (B0 : Nat) (f : kH) (h po : Nat) (x1 x2 : Int32) {vs : List Value} (hh : f h = some (.inr (8, vs))) {rm : Room} {mc ms : Nat} (hrc : rm.cells = mc) (hrs : rm.slots = ms) {Φ : Int64 → kH → Prop} (hc : Met l yX8_root wsX8_root rm (kP G B0 f [.ref h, .int x1, .int x2]) (kQl G B0 Φ) mc ms (kAb B0)) (ho : ∀ r f1, Φ r f1 → ∃ g, f1 po = some (kaJ G 1 g)) : vx_Met l yL_root wsL_root (rmL rm) (kP G B0 f [.ref h, .int x1, .int x2, .ref po]) (kQi G B0 (fun r f2 => r = nI 0 ∧ ∃ r0 f1 g, Φ r0 f1 ∧ f1 po = some (kaJ G 1 g) ∧ f2 = kst f1 po (kaJ G 1 (vp_updL g 0 r0)))) (kXN G B0) mc ms (kAb B0) := by
  refine kMetH (cc := cL_root) (maxL := 5) (ret := (some .int)) (hh := [(0, 9, 12, 13)]) (by decide) rfl (Nat.le_of_ble_eq_true rfl) ?_
  intro p e s m args below meth c H locs Q ls C hX hl hr hlocks hQ htab
  have hl : lv_has ls 5 [(0, .ref h), (1, .int x1), (2, .int x2), (3, .ref po)] := hl
  refine lv_aload_n C.x C.b dL_root_0 rfl (lv_at hl 3 rfl) ?_
  refine lv_iconst (v := nI 0) C.x C.b dL_root_1 (by decide) ?_
  refine lv_aload_n C.x C.b dL_root_2 rfl (lv_at hl 0 rfl) ?_
  refine lv_iload_n C.x C.b dL_root_3 rfl (lv_at hl 1 rfl) ?_
  refine lv_iload_n C.x C.b dL_root_4 rfl (lv_at hl 2 rfl) ?_
  refine k_calll (va_runV (As := [.int x1, .int x2]) (rest := [.int (nI 0), .ref po]) C.1 hc (cwV 2 C.ts gL_root_X8_root rfl hrc hrs ⟨rfl, hdL_root_X8_root⟩ ⟨Nat.le_refl _, by show 8 + (_ + 11) + rm.locals ≤ rm.locals + 40; omega⟩) (k_preV C hX hh rfl) rfl rfl hl.1 rfl (lv_room (Nat.le_of_ble_eq_true rfl)) dL_root_5 ⟨by show 0 + mc ≤ rm.cells; omega, by show 0 + ms ≤ rm.slots; omega⟩) hX (fun r0 f1 H locs hp hX => ?_)
  obtain ⟨g, hg⟩ := ho r0 f1 hp
  refine k_last C hX hg vp_in01 dL_root_8 (fun H locs hX => ?_)
  refine lv_goto (tgt := 16) C.x C.b dL_root_9 (by decide) ?_
  refine lv_iconst (v := nI 0) C.x C.b dL_root_16 (by decide) ?_
  exact k_iretX C hX hr hlocks hQ (by omega) (by omega) ⟨rfl, r0, f1, g, hp, hg, rfl⟩ dL_root_17
theorem kL_root_o (l : Launch) (G : kG) (B0 : Nat) (f : kH) (h po : Nat) (x1 x2 : Int32) {vs : List Value} (hh : f h = some (.inr (8, vs))) {rm : Room} {mc ms : Nat} (hrc : rm.cells = mc) (hrs : rm.slots = ms) {post : kH → Prop} (hc : vx_Met l yX8_root wsX8_root rm (kP G B0 f [.ref h, .int x1, .int x2]) kNo (kXC G B0 "java/lang/IndexOutOfBoundsException" post) mc ms (kAb B0)) : vx_Met l yL_root wsL_root (rmL rm) (kP G B0 f [.ref h, .int x1, .int x2, .ref po]) (kQi G B0 (fun r f2 => r = nI 1 ∧ post f2)) (kXN G B0) mc ms (kAb B0) := by
  refine kMetH (cc := cL_root) (maxL := 5) (ret := (some .int)) (hh := [(0, 9, 12, 13)]) (by decide) rfl (Nat.le_of_ble_eq_true rfl) ?_
  intro p e s m args below meth c H locs Q ls C hX hl hr hlocks hQ htab
  have hl : lv_has ls 5 [(0, .ref h), (1, .int x1), (2, .int x2), (3, .ref po)] := hl
  refine lv_aload_n C.x C.b dL_root_0 rfl (lv_at hl 3 rfl) ?_
  refine lv_iconst (v := nI 0) C.x C.b dL_root_1 (by decide) ?_
  refine lv_aload_n C.x C.b dL_root_2 rfl (lv_at hl 0 rfl) ?_
  refine lv_iload_n C.x C.b dL_root_3 rfl (lv_at hl 1 rfl) ?_
  refine lv_iload_n C.x C.b dL_root_4 rfl (lv_at hl 2 rfl) ?_
  refine k_catX C (vx_runV (As := [.int x1, .int x2]) (rest := [.int (nI 0), .ref po]) C.1 hc (cwV 2 C.ts gL_root_X8_root rfl hrc hrs ⟨rfl, hdL_root_X8_root⟩ ⟨Nat.le_refl _, by show 8 + (_ + 11) + rm.locals ≤ rm.locals + 40; omega⟩) (k_preV C hX hh rfl) rfl rfl hl.1 rfl (lv_room (Nat.le_of_ble_eq_true rfl)) dL_root_5 ⟨by show 0 + mc ≤ rm.cells; omega, by show 0 + ms ≤ rm.slots; omega⟩) hX [] (0, 9, 12, 13) [] htab (fun z hz => by simp at hz) (by decide) (by decide) lk_L_root_o in_L_root_o (fun q f1 H locs hp hX => ?_)
  refine lv_astore (lv' := [(4, .ref q), (0, .ref h), (1, .int x1), (2, .int x2), (3, .ref po)]) C.x C.b dL_root_12 hl (by decide) rfl (fun ls hl => ?_)
  refine lv_iconst (v := nI 1) C.x C.b dL_root_14 (by decide) ?_
  exact k_iretX C hX hr hlocks hQ (by omega) (by omega) ⟨rfl, hp⟩ dL_root_15
theorem hdL_count_X8_count : yX8_count.cls ≠ "java/lang/invoke/MethodHandle" ∧ yX8_count.cls ≠ "java/lang/invoke/VarHandle" ∧ (parseMethodDescriptor yX8_count.desc).map (fun d => d.parameters.length) = some 2 := by decide +kernel
theorem lk_L_count_o : Cond.classLink RL 13 "java/lang/IndexOutOfBoundsException" ∈ wsL_count := by decide +kernel
theorem in_L_count_o : Cond.instantiable "java/lang/IndexOutOfBoundsException" 6 ∈ wsL_count := by decide +kernel
theorem lk_L_count_a : Cond.classLink RL 34 "java/lang/IllegalArgumentException" ∈ wsL_count := by decide +kernel
theorem in_L_count_a : Cond.instantiable "java/lang/IllegalArgumentException" 6 ∈ wsL_count := by decide +kernel
theorem lk_L_count_s : Cond.classLink RL 15 "java/lang/IllegalStateException" ∈ wsL_count := by decide +kernel
theorem in_L_count_s : Cond.instantiable "java/lang/IllegalStateException" 6 ∈ wsL_count := by decide +kernel
theorem kL_count_g (l : Launch) (G : kG) (B0 : Nat) (f : kH) (h po : Nat) (x1 x2 : Int32) {vs : List Value} (hh : f h = some (.inr (8, vs))) {rm : Room} {mc ms : Nat} (hrc : rm.cells = mc) (hrs : rm.slots = ms) {Φ : Int32 → kH → Prop} (hc : Met l yX8_count wsX8_count rm (kP G B0 f [.ref h, .int x1, .int x2]) (kQi G B0 Φ) mc ms (kAb B0)) (ho : ∀ r f1, Φ r f1 → ∃ g, f1 po = some (kaJ G 1 g)) : vx_Met l yL_count wsL_count (rmL rm) (kP G B0 f [.ref h, .int x1, .int x2, .ref po]) (kQi G B0 (fun r f2 => r = nI 0 ∧ ∃ r0 f1 g, Φ r0 f1 ∧ f1 po = some (kaJ G 1 g) ∧ f2 = kst f1 po (kaJ G 1 (vp_updL g 0 r0.toInt64)))) (kXN G B0) mc ms (kAb B0) := by
  refine kMetH (cc := cL_count) (maxL := 5) (ret := (some .int)) (hh := [(0, 10, 13, 13), (0, 10, 17, 34), (0, 10, 21, 15)]) (by decide) rfl (Nat.le_of_ble_eq_true rfl) ?_
  intro p e s m args below meth c H locs Q ls C hX hl hr hlocks hQ htab
  have hl : lv_has ls 5 [(0, .ref h), (1, .int x1), (2, .int x2), (3, .ref po)] := hl
  refine lv_aload_n C.x C.b dL_count_0 rfl (lv_at hl 3 rfl) ?_
  refine lv_iconst (v := nI 0) C.x C.b dL_count_1 (by decide) ?_
  refine lv_aload_n C.x C.b dL_count_2 rfl (lv_at hl 0 rfl) ?_
  refine lv_iload_n C.x C.b dL_count_3 rfl (lv_at hl 1 rfl) ?_
  refine lv_iload_n C.x C.b dL_count_4 rfl (lv_at hl 2 rfl) ?_
  refine k_calli (va_runV (As := [.int x1, .int x2]) (rest := [.int (nI 0), .ref po]) C.1 hc (cwV 2 C.ts gL_count_X8_count rfl hrc hrs ⟨rfl, hdL_count_X8_count⟩ ⟨Nat.le_refl _, by show 8 + (_ + 11) + rm.locals ≤ rm.locals + 40; omega⟩) (k_preV C hX hh rfl) rfl rfl hl.1 rfl (lv_room (Nat.le_of_ble_eq_true rfl)) dL_count_5 ⟨by show 0 + mc ≤ rm.cells; omega, by show 0 + ms ≤ rm.slots; omega⟩) hX (fun r0 f1 H locs hp hX => ?_)
  obtain ⟨g, hg⟩ := ho r0 f1 hp
  refine lv_i2l (v := r0.toInt64) C.x C.b dL_count_8 rfl ?_
  refine k_last C hX hg vp_in01 dL_count_9 (fun H locs hX => ?_)
  refine lv_goto (tgt := 25) C.x C.b dL_count_10 (by decide) ?_
  refine lv_iconst (v := nI 0) C.x C.b dL_count_25 (by decide) ?_
  exact k_iretX C hX hr hlocks hQ (by omega) (by omega) ⟨rfl, r0, f1, g, hp, hg, rfl⟩ dL_count_26
theorem kL_count_o (l : Launch) (G : kG) (B0 : Nat) (f : kH) (h po : Nat) (x1 x2 : Int32) {vs : List Value} (hh : f h = some (.inr (8, vs))) {rm : Room} {mc ms : Nat} (hrc : rm.cells = mc) (hrs : rm.slots = ms) {post : kH → Prop} (hc : vx_Met l yX8_count wsX8_count rm (kP G B0 f [.ref h, .int x1, .int x2]) kNo (kXC G B0 "java/lang/IndexOutOfBoundsException" post) mc ms (kAb B0)) : vx_Met l yL_count wsL_count (rmL rm) (kP G B0 f [.ref h, .int x1, .int x2, .ref po]) (kQi G B0 (fun r f2 => r = nI 1 ∧ post f2)) (kXN G B0) mc ms (kAb B0) := by
  refine kMetH (cc := cL_count) (maxL := 5) (ret := (some .int)) (hh := [(0, 10, 13, 13), (0, 10, 17, 34), (0, 10, 21, 15)]) (by decide) rfl (Nat.le_of_ble_eq_true rfl) ?_
  intro p e s m args below meth c H locs Q ls C hX hl hr hlocks hQ htab
  have hl : lv_has ls 5 [(0, .ref h), (1, .int x1), (2, .int x2), (3, .ref po)] := hl
  refine lv_aload_n C.x C.b dL_count_0 rfl (lv_at hl 3 rfl) ?_
  refine lv_iconst (v := nI 0) C.x C.b dL_count_1 (by decide) ?_
  refine lv_aload_n C.x C.b dL_count_2 rfl (lv_at hl 0 rfl) ?_
  refine lv_iload_n C.x C.b dL_count_3 rfl (lv_at hl 1 rfl) ?_
  refine lv_iload_n C.x C.b dL_count_4 rfl (lv_at hl 2 rfl) ?_
  refine k_catX C (vx_runV (As := [.int x1, .int x2]) (rest := [.int (nI 0), .ref po]) C.1 hc (cwV 2 C.ts gL_count_X8_count rfl hrc hrs ⟨rfl, hdL_count_X8_count⟩ ⟨Nat.le_refl _, by show 8 + (_ + 11) + rm.locals ≤ rm.locals + 40; omega⟩) (k_preV C hX hh rfl) rfl rfl hl.1 rfl (lv_room (Nat.le_of_ble_eq_true rfl)) dL_count_5 ⟨by show 0 + mc ≤ rm.cells; omega, by show 0 + ms ≤ rm.slots; omega⟩) hX [] (0, 10, 13, 13) [(0, 10, 17, 34), (0, 10, 21, 15)] htab (fun z hz => by simp at hz) (by decide) (by decide) lk_L_count_o in_L_count_o (fun q f1 H locs hp hX => ?_)
  refine lv_astore (lv' := [(4, .ref q), (0, .ref h), (1, .int x1), (2, .int x2), (3, .ref po)]) C.x C.b dL_count_13 hl (by decide) rfl (fun ls hl => ?_)
  refine lv_iconst (v := nI 1) C.x C.b dL_count_15 (by decide) ?_
  exact k_iretX C hX hr hlocks hQ (by omega) (by omega) ⟨rfl, hp⟩ dL_count_16
theorem kL_count_a (l : Launch) (G : kG) (B0 : Nat) (f : kH) (h po : Nat) (x1 x2 : Int32) {vs : List Value} (hh : f h = some (.inr (8, vs))) {rm : Room} {mc ms : Nat} (hrc : rm.cells = mc) (hrs : rm.slots = ms) {post : kH → Prop} (hc : vx_Met l yX8_count wsX8_count rm (kP G B0 f [.ref h, .int x1, .int x2]) kNo (kXC G B0 "java/lang/IllegalArgumentException" post) mc ms (kAb B0)) : vx_Met l yL_count wsL_count (rmL rm) (kP G B0 f [.ref h, .int x1, .int x2, .ref po]) (kQi G B0 (fun r f2 => r = nI 2 ∧ post f2)) (kXN G B0) mc ms (kAb B0) := by
  refine kMetH (cc := cL_count) (maxL := 5) (ret := (some .int)) (hh := [(0, 10, 13, 13), (0, 10, 17, 34), (0, 10, 21, 15)]) (by decide) rfl (Nat.le_of_ble_eq_true rfl) ?_
  intro p e s m args below meth c H locs Q ls C hX hl hr hlocks hQ htab
  have hl : lv_has ls 5 [(0, .ref h), (1, .int x1), (2, .int x2), (3, .ref po)] := hl
  refine lv_aload_n C.x C.b dL_count_0 rfl (lv_at hl 3 rfl) ?_
  refine lv_iconst (v := nI 0) C.x C.b dL_count_1 (by decide) ?_
  refine lv_aload_n C.x C.b dL_count_2 rfl (lv_at hl 0 rfl) ?_
  refine lv_iload_n C.x C.b dL_count_3 rfl (lv_at hl 1 rfl) ?_
  refine lv_iload_n C.x C.b dL_count_4 rfl (lv_at hl 2 rfl) ?_
  refine k_catX C (vx_runV (As := [.int x1, .int x2]) (rest := [.int (nI 0), .ref po]) C.1 hc (cwV 2 C.ts gL_count_X8_count rfl hrc hrs ⟨rfl, hdL_count_X8_count⟩ ⟨Nat.le_refl _, by show 8 + (_ + 11) + rm.locals ≤ rm.locals + 40; omega⟩) (k_preV C hX hh rfl) rfl rfl hl.1 rfl (lv_room (Nat.le_of_ble_eq_true rfl)) dL_count_5 ⟨by show 0 + mc ≤ rm.cells; omega, by show 0 + ms ≤ rm.slots; omega⟩) hX [(0, 10, 13, 13)] (0, 10, 17, 34) [(0, 10, 21, 15)] htab (fun z hz => by
    simp only [List.mem_cons, List.not_mem_nil, or_false] at hz
    subst hz
    exact ⟨by decide, "java/lang/IndexOutOfBoundsException", lk_L_count_o, by decide +kernel⟩) (by decide) (by decide) lk_L_count_a in_L_count_a (fun q f1 H locs hp hX => ?_)
  refine lv_astore (lv' := [(4, .ref q), (0, .ref h), (1, .int x1), (2, .int x2), (3, .ref po)]) C.x C.b dL_count_17 hl (by decide) rfl (fun ls hl => ?_)
  refine lv_iconst (v := nI 2) C.x C.b dL_count_19 (by decide) ?_
  exact k_iretX C hX hr hlocks hQ (by omega) (by omega) ⟨rfl, hp⟩ dL_count_20
theorem kL_count_s (l : Launch) (G : kG) (B0 : Nat) (f : kH) (h po : Nat) (x1 x2 : Int32) {vs : List Value} (hh : f h = some (.inr (8, vs))) {rm : Room} {mc ms : Nat} (hrc : rm.cells = mc) (hrs : rm.slots = ms) {post : kH → Prop} (hc : vx_Met l yX8_count wsX8_count rm (kP G B0 f [.ref h, .int x1, .int x2]) kNo (kXC G B0 "java/lang/IllegalStateException" post) mc ms (kAb B0)) : vx_Met l yL_count wsL_count (rmL rm) (kP G B0 f [.ref h, .int x1, .int x2, .ref po]) (kQi G B0 (fun r f2 => r = nI 3 ∧ post f2)) (kXN G B0) mc ms (kAb B0) := by
  refine kMetH (cc := cL_count) (maxL := 5) (ret := (some .int)) (hh := [(0, 10, 13, 13), (0, 10, 17, 34), (0, 10, 21, 15)]) (by decide) rfl (Nat.le_of_ble_eq_true rfl) ?_
  intro p e s m args below meth c H locs Q ls C hX hl hr hlocks hQ htab
  have hl : lv_has ls 5 [(0, .ref h), (1, .int x1), (2, .int x2), (3, .ref po)] := hl
  refine lv_aload_n C.x C.b dL_count_0 rfl (lv_at hl 3 rfl) ?_
  refine lv_iconst (v := nI 0) C.x C.b dL_count_1 (by decide) ?_
  refine lv_aload_n C.x C.b dL_count_2 rfl (lv_at hl 0 rfl) ?_
  refine lv_iload_n C.x C.b dL_count_3 rfl (lv_at hl 1 rfl) ?_
  refine lv_iload_n C.x C.b dL_count_4 rfl (lv_at hl 2 rfl) ?_
  refine k_catX C (vx_runV (As := [.int x1, .int x2]) (rest := [.int (nI 0), .ref po]) C.1 hc (cwV 2 C.ts gL_count_X8_count rfl hrc hrs ⟨rfl, hdL_count_X8_count⟩ ⟨Nat.le_refl _, by show 8 + (_ + 11) + rm.locals ≤ rm.locals + 40; omega⟩) (k_preV C hX hh rfl) rfl rfl hl.1 rfl (lv_room (Nat.le_of_ble_eq_true rfl)) dL_count_5 ⟨by show 0 + mc ≤ rm.cells; omega, by show 0 + ms ≤ rm.slots; omega⟩) hX [(0, 10, 13, 13), (0, 10, 17, 34)] (0, 10, 21, 15) [] htab (fun z hz => by
    simp only [List.mem_cons, List.not_mem_nil, or_false] at hz
    rcases hz with rfl | rfl
    · exact ⟨by decide, "java/lang/IndexOutOfBoundsException", lk_L_count_o, by decide +kernel⟩
    · exact ⟨by decide, "java/lang/IllegalArgumentException", lk_L_count_a, by decide +kernel⟩) (by decide) (by decide) lk_L_count_s in_L_count_s (fun q f1 H locs hp hX => ?_)
  refine lv_astore (lv' := [(4, .ref q), (0, .ref h), (1, .int x1), (2, .int x2), (3, .ref po)]) C.x C.b dL_count_21 hl (by decide) rfl (fun ls hl => ?_)
  refine lv_iconst (v := nI 3) C.x C.b dL_count_23 (by decide) ?_
  exact k_iretX C hX hr hlocks hQ (by omega) (by omega) ⟨rfl, hp⟩ dL_count_24
theorem hdL_countAnew_X8_countAnew : yX8_countAnew.cls ≠ "java/lang/invoke/MethodHandle" ∧ yX8_countAnew.cls ≠ "java/lang/invoke/VarHandle" ∧ (parseMethodDescriptor yX8_countAnew.desc).map (fun d => d.parameters.length) = some 2 := by decide +kernel
theorem lk_L_countAnew_o : Cond.classLink RL 13 "java/lang/IndexOutOfBoundsException" ∈ wsL_countAnew := by decide +kernel
theorem in_L_countAnew_o : Cond.instantiable "java/lang/IndexOutOfBoundsException" 6 ∈ wsL_countAnew := by decide +kernel
theorem lk_L_countAnew_a : Cond.classLink RL 34 "java/lang/IllegalArgumentException" ∈ wsL_countAnew := by decide +kernel
theorem in_L_countAnew_a : Cond.instantiable "java/lang/IllegalArgumentException" 6 ∈ wsL_countAnew := by decide +kernel
theorem lk_L_countAnew_s : Cond.classLink RL 15 "java/lang/IllegalStateException" ∈ wsL_countAnew := by decide +kernel
theorem in_L_countAnew_s : Cond.instantiable "java/lang/IllegalStateException" 6 ∈ wsL_countAnew := by decide +kernel
theorem kL_countAnew_g (l : Launch) (G : kG) (B0 : Nat) (f : kH) (h po : Nat) (x1 x2 : Int32) {vs : List Value} (hh : f h = some (.inr (8, vs))) {rm : Room} {mc ms : Nat} (hrc : rm.cells = mc) (hrs : rm.slots = ms) {Φ : Int32 → kH → Prop} (hc : Met l yX8_countAnew wsX8_countAnew rm (kP G B0 f [.ref h, .int x1, .int x2]) (kQi G B0 Φ) mc ms (kAb B0)) (ho : ∀ r f1, Φ r f1 → ∃ g, f1 po = some (kaJ G 1 g)) : vx_Met l yL_countAnew wsL_countAnew (rmL rm) (kP G B0 f [.ref h, .int x1, .int x2, .ref po]) (kQi G B0 (fun r f2 => r = nI 0 ∧ ∃ r0 f1 g, Φ r0 f1 ∧ f1 po = some (kaJ G 1 g) ∧ f2 = kst f1 po (kaJ G 1 (vp_updL g 0 r0.toInt64)))) (kXN G B0) mc ms (kAb B0) := by
  refine kMetH (cc := cL_countAnew) (maxL := 5) (ret := (some .int)) (hh := [(0, 10, 13, 13), (0, 10, 17, 34), (0, 10, 21, 15)]) (by decide) rfl (Nat.le_of_ble_eq_true rfl) ?_
  intro p e s m args below meth c H locs Q ls C hX hl hr hlocks hQ htab
  have hl : lv_has ls 5 [(0, .ref h), (1, .int x1), (2, .int x2), (3, .ref po)] := hl
  refine lv_aload_n C.x C.b dL_countAnew_0 rfl (lv_at hl 3 rfl) ?_
  refine lv_iconst (v := nI 0) C.x C.b dL_countAnew_1 (by decide) ?_
  refine lv_aload_n C.x C.b dL_countAnew_2 rfl (lv_at hl 0 rfl) ?_
  refine lv_iload_n C.x C.b dL_countAnew_3 rfl (lv_at hl 1 rfl) ?_
  refine lv_iload_n C.x C.b dL_countAnew_4 rfl (lv_at hl 2 rfl) ?_
  refine k_calli (va_runV (As := [.int x1, .int x2]) (rest := [.int (nI 0), .ref po]) C.1 hc (cwV 2 C.ts gL_countAnew_X8_countAnew rfl hrc hrs ⟨rfl, hdL_countAnew_X8_countAnew⟩ ⟨Nat.le_refl _, by show 8 + (_ + 11) + rm.locals ≤ rm.locals + 40; omega⟩) (k_preV C hX hh rfl) rfl rfl hl.1 rfl (lv_room (Nat.le_of_ble_eq_true rfl)) dL_countAnew_5 ⟨by show 0 + mc ≤ rm.cells; omega, by show 0 + ms ≤ rm.slots; omega⟩) hX (fun r0 f1 H locs hp hX => ?_)
  obtain ⟨g, hg⟩ := ho r0 f1 hp
  refine lv_i2l (v := r0.toInt64) C.x C.b dL_countAnew_8 rfl ?_
  refine k_last C hX hg vp_in01 dL_countAnew_9 (fun H locs hX => ?_)
  refine lv_goto (tgt := 25) C.x C.b dL_countAnew_10 (by decide) ?_
  refine lv_iconst (v := nI 0) C.x C.b dL_countAnew_25 (by decide) ?_
  exact k_iretX C hX hr hlocks hQ (by omega) (by omega) ⟨rfl, r0, f1, g, hp, hg, rfl⟩ dL_countAnew_26
theorem kL_countAnew_o (l : Launch) (G : kG) (B0 : Nat) (f : kH) (h po : Nat) (x1 x2 : Int32) {vs : List Value} (hh : f h = some (.inr (8, vs))) {rm : Room} {mc ms : Nat} (hrc : rm.cells = mc) (hrs : rm.slots = ms) {post : kH → Prop} (hc : vx_Met l yX8_countAnew wsX8_countAnew rm (kP G B0 f [.ref h, .int x1, .int x2]) kNo (kXC G B0 "java/lang/IndexOutOfBoundsException" post) mc ms (kAb B0)) : vx_Met l yL_countAnew wsL_countAnew (rmL rm) (kP G B0 f [.ref h, .int x1, .int x2, .ref po]) (kQi G B0 (fun r f2 => r = nI 1 ∧ post f2)) (kXN G B0) mc ms (kAb B0) := by
  refine kMetH (cc := cL_countAnew) (maxL := 5) (ret := (some .int)) (hh := [(0, 10, 13, 13), (0, 10, 17, 34), (0, 10, 21, 15)]) (by decide) rfl (Nat.le_of_ble_eq_true rfl) ?_
  intro p e s m args below meth c H locs Q ls C hX hl hr hlocks hQ htab
  have hl : lv_has ls 5 [(0, .ref h), (1, .int x1), (2, .int x2), (3, .ref po)] := hl
  refine lv_aload_n C.x C.b dL_countAnew_0 rfl (lv_at hl 3 rfl) ?_
  refine lv_iconst (v := nI 0) C.x C.b dL_countAnew_1 (by decide) ?_
  refine lv_aload_n C.x C.b dL_countAnew_2 rfl (lv_at hl 0 rfl) ?_
  refine lv_iload_n C.x C.b dL_countAnew_3 rfl (lv_at hl 1 rfl) ?_
  refine lv_iload_n C.x C.b dL_countAnew_4 rfl (lv_at hl 2 rfl) ?_
  refine k_catX C (vx_runV (As := [.int x1, .int x2]) (rest := [.int (nI 0), .ref po]) C.1 hc (cwV 2 C.ts gL_countAnew_X8_countAnew rfl hrc hrs ⟨rfl, hdL_countAnew_X8_countAnew⟩ ⟨Nat.le_refl _, by show 8 + (_ + 11) + rm.locals ≤ rm.locals + 40; omega⟩) (k_preV C hX hh rfl) rfl rfl hl.1 rfl (lv_room (Nat.le_of_ble_eq_true rfl)) dL_countAnew_5 ⟨by show 0 + mc ≤ rm.cells; omega, by show 0 + ms ≤ rm.slots; omega⟩) hX [] (0, 10, 13, 13) [(0, 10, 17, 34), (0, 10, 21, 15)] htab (fun z hz => by simp at hz) (by decide) (by decide) lk_L_countAnew_o in_L_countAnew_o (fun q f1 H locs hp hX => ?_)
  refine lv_astore (lv' := [(4, .ref q), (0, .ref h), (1, .int x1), (2, .int x2), (3, .ref po)]) C.x C.b dL_countAnew_13 hl (by decide) rfl (fun ls hl => ?_)
  refine lv_iconst (v := nI 1) C.x C.b dL_countAnew_15 (by decide) ?_
  exact k_iretX C hX hr hlocks hQ (by omega) (by omega) ⟨rfl, hp⟩ dL_countAnew_16
theorem kL_countAnew_a (l : Launch) (G : kG) (B0 : Nat) (f : kH) (h po : Nat) (x1 x2 : Int32) {vs : List Value} (hh : f h = some (.inr (8, vs))) {rm : Room} {mc ms : Nat} (hrc : rm.cells = mc) (hrs : rm.slots = ms) {post : kH → Prop} (hc : vx_Met l yX8_countAnew wsX8_countAnew rm (kP G B0 f [.ref h, .int x1, .int x2]) kNo (kXC G B0 "java/lang/IllegalArgumentException" post) mc ms (kAb B0)) : vx_Met l yL_countAnew wsL_countAnew (rmL rm) (kP G B0 f [.ref h, .int x1, .int x2, .ref po]) (kQi G B0 (fun r f2 => r = nI 2 ∧ post f2)) (kXN G B0) mc ms (kAb B0) := by
  refine kMetH (cc := cL_countAnew) (maxL := 5) (ret := (some .int)) (hh := [(0, 10, 13, 13), (0, 10, 17, 34), (0, 10, 21, 15)]) (by decide) rfl (Nat.le_of_ble_eq_true rfl) ?_
  intro p e s m args below meth c H locs Q ls C hX hl hr hlocks hQ htab
  have hl : lv_has ls 5 [(0, .ref h), (1, .int x1), (2, .int x2), (3, .ref po)] := hl
  refine lv_aload_n C.x C.b dL_countAnew_0 rfl (lv_at hl 3 rfl) ?_
  refine lv_iconst (v := nI 0) C.x C.b dL_countAnew_1 (by decide) ?_
  refine lv_aload_n C.x C.b dL_countAnew_2 rfl (lv_at hl 0 rfl) ?_
  refine lv_iload_n C.x C.b dL_countAnew_3 rfl (lv_at hl 1 rfl) ?_
  refine lv_iload_n C.x C.b dL_countAnew_4 rfl (lv_at hl 2 rfl) ?_
  refine k_catX C (vx_runV (As := [.int x1, .int x2]) (rest := [.int (nI 0), .ref po]) C.1 hc (cwV 2 C.ts gL_countAnew_X8_countAnew rfl hrc hrs ⟨rfl, hdL_countAnew_X8_countAnew⟩ ⟨Nat.le_refl _, by show 8 + (_ + 11) + rm.locals ≤ rm.locals + 40; omega⟩) (k_preV C hX hh rfl) rfl rfl hl.1 rfl (lv_room (Nat.le_of_ble_eq_true rfl)) dL_countAnew_5 ⟨by show 0 + mc ≤ rm.cells; omega, by show 0 + ms ≤ rm.slots; omega⟩) hX [(0, 10, 13, 13)] (0, 10, 17, 34) [(0, 10, 21, 15)] htab (fun z hz => by
    simp only [List.mem_cons, List.not_mem_nil, or_false] at hz
    subst hz
    exact ⟨by decide, "java/lang/IndexOutOfBoundsException", lk_L_countAnew_o, by decide +kernel⟩) (by decide) (by decide) lk_L_countAnew_a in_L_countAnew_a (fun q f1 H locs hp hX => ?_)
  refine lv_astore (lv' := [(4, .ref q), (0, .ref h), (1, .int x1), (2, .int x2), (3, .ref po)]) C.x C.b dL_countAnew_17 hl (by decide) rfl (fun ls hl => ?_)
  refine lv_iconst (v := nI 2) C.x C.b dL_countAnew_19 (by decide) ?_
  exact k_iretX C hX hr hlocks hQ (by omega) (by omega) ⟨rfl, hp⟩ dL_countAnew_20
theorem kL_countAnew_s (l : Launch) (G : kG) (B0 : Nat) (f : kH) (h po : Nat) (x1 x2 : Int32) {vs : List Value} (hh : f h = some (.inr (8, vs))) {rm : Room} {mc ms : Nat} (hrc : rm.cells = mc) (hrs : rm.slots = ms) {post : kH → Prop} (hc : vx_Met l yX8_countAnew wsX8_countAnew rm (kP G B0 f [.ref h, .int x1, .int x2]) kNo (kXC G B0 "java/lang/IllegalStateException" post) mc ms (kAb B0)) : vx_Met l yL_countAnew wsL_countAnew (rmL rm) (kP G B0 f [.ref h, .int x1, .int x2, .ref po]) (kQi G B0 (fun r f2 => r = nI 3 ∧ post f2)) (kXN G B0) mc ms (kAb B0) := by
  refine kMetH (cc := cL_countAnew) (maxL := 5) (ret := (some .int)) (hh := [(0, 10, 13, 13), (0, 10, 17, 34), (0, 10, 21, 15)]) (by decide) rfl (Nat.le_of_ble_eq_true rfl) ?_
  intro p e s m args below meth c H locs Q ls C hX hl hr hlocks hQ htab
  have hl : lv_has ls 5 [(0, .ref h), (1, .int x1), (2, .int x2), (3, .ref po)] := hl
  refine lv_aload_n C.x C.b dL_countAnew_0 rfl (lv_at hl 3 rfl) ?_
  refine lv_iconst (v := nI 0) C.x C.b dL_countAnew_1 (by decide) ?_
  refine lv_aload_n C.x C.b dL_countAnew_2 rfl (lv_at hl 0 rfl) ?_
  refine lv_iload_n C.x C.b dL_countAnew_3 rfl (lv_at hl 1 rfl) ?_
  refine lv_iload_n C.x C.b dL_countAnew_4 rfl (lv_at hl 2 rfl) ?_
  refine k_catX C (vx_runV (As := [.int x1, .int x2]) (rest := [.int (nI 0), .ref po]) C.1 hc (cwV 2 C.ts gL_countAnew_X8_countAnew rfl hrc hrs ⟨rfl, hdL_countAnew_X8_countAnew⟩ ⟨Nat.le_refl _, by show 8 + (_ + 11) + rm.locals ≤ rm.locals + 40; omega⟩) (k_preV C hX hh rfl) rfl rfl hl.1 rfl (lv_room (Nat.le_of_ble_eq_true rfl)) dL_countAnew_5 ⟨by show 0 + mc ≤ rm.cells; omega, by show 0 + ms ≤ rm.slots; omega⟩) hX [(0, 10, 13, 13), (0, 10, 17, 34)] (0, 10, 21, 15) [] htab (fun z hz => by
    simp only [List.mem_cons, List.not_mem_nil, or_false] at hz
    rcases hz with rfl | rfl
    · exact ⟨by decide, "java/lang/IndexOutOfBoundsException", lk_L_countAnew_o, by decide +kernel⟩
    · exact ⟨by decide, "java/lang/IllegalArgumentException", lk_L_countAnew_a, by decide +kernel⟩) (by decide) (by decide) lk_L_countAnew_s in_L_countAnew_s (fun q f1 H locs hp hX => ?_)
  refine lv_astore (lv' := [(4, .ref q), (0, .ref h), (1, .int x1), (2, .int x2), (3, .ref po)]) C.x C.b dL_countAnew_21 hl (by decide) rfl (fun ls hl => ?_)
  refine lv_iconst (v := nI 3) C.x C.b dL_countAnew_23 (by decide) ?_
  exact k_iretX C hX hr hlocks hQ (by omega) (by omega) ⟨rfl, hp⟩ dL_countAnew_24
theorem hdL_remainders_X8_remainders : yX8_remainders.cls ≠ "java/lang/invoke/MethodHandle" ∧ yX8_remainders.cls ≠ "java/lang/invoke/VarHandle" ∧ (parseMethodDescriptor yX8_remainders.desc).map (fun d => d.parameters.length) = some 2 := by decide +kernel
theorem lk_L_remainders_o : Cond.classLink RL 13 "java/lang/IndexOutOfBoundsException" ∈ wsL_remainders := by decide +kernel
theorem in_L_remainders_o : Cond.instantiable "java/lang/IndexOutOfBoundsException" 6 ∈ wsL_remainders := by decide +kernel
theorem lk_L_remainders_a : Cond.classLink RL 34 "java/lang/IllegalArgumentException" ∈ wsL_remainders := by decide +kernel
theorem in_L_remainders_a : Cond.instantiable "java/lang/IllegalArgumentException" 6 ∈ wsL_remainders := by decide +kernel
theorem kL_remainders_g (l : Launch) (G : kG) (B0 : Nat) (f : kH) (h po : Nat) (x1 x2 : Int32) {vs : List Value} (hh : f h = some (.inr (8, vs))) {rm : Room} {mc ms : Nat} (hrc : rm.cells = mc) (hrs : rm.slots = ms) {Φ : Int32 → kH → Prop} (hc : Met l yX8_remainders wsX8_remainders rm (kP G B0 f [.ref h, .int x1, .int x2]) (kQi G B0 Φ) mc ms (kAb B0)) (ho : ∀ r f1, Φ r f1 → ∃ g, f1 po = some (kaJ G 1 g)) : vx_Met l yL_remainders wsL_remainders (rmL rm) (kP G B0 f [.ref h, .int x1, .int x2, .ref po]) (kQi G B0 (fun r f2 => r = nI 0 ∧ ∃ r0 f1 g, Φ r0 f1 ∧ f1 po = some (kaJ G 1 g) ∧ f2 = kst f1 po (kaJ G 1 (vp_updL g 0 r0.toInt64)))) (kXN G B0) mc ms (kAb B0) := by
  refine kMetH (cc := cL_remainders) (maxL := 5) (ret := (some .int)) (hh := [(0, 10, 13, 13), (0, 10, 17, 34)]) (by decide) rfl (Nat.le_of_ble_eq_true rfl) ?_
  intro p e s m args below meth c H locs Q ls C hX hl hr hlocks hQ htab
  have hl : lv_has ls 5 [(0, .ref h), (1, .int x1), (2, .int x2), (3, .ref po)] := hl
  refine lv_aload_n C.x C.b dL_remainders_0 rfl (lv_at hl 3 rfl) ?_
  refine lv_iconst (v := nI 0) C.x C.b dL_remainders_1 (by decide) ?_
  refine lv_aload_n C.x C.b dL_remainders_2 rfl (lv_at hl 0 rfl) ?_
  refine lv_iload_n C.x C.b dL_remainders_3 rfl (lv_at hl 1 rfl) ?_
  refine lv_iload_n C.x C.b dL_remainders_4 rfl (lv_at hl 2 rfl) ?_
  refine k_calli (va_runV (As := [.int x1, .int x2]) (rest := [.int (nI 0), .ref po]) C.1 hc (cwV 2 C.ts gL_remainders_X8_remainders rfl hrc hrs ⟨rfl, hdL_remainders_X8_remainders⟩ ⟨Nat.le_refl _, by show 8 + (_ + 11) + rm.locals ≤ rm.locals + 40; omega⟩) (k_preV C hX hh rfl) rfl rfl hl.1 rfl (lv_room (Nat.le_of_ble_eq_true rfl)) dL_remainders_5 ⟨by show 0 + mc ≤ rm.cells; omega, by show 0 + ms ≤ rm.slots; omega⟩) hX (fun r0 f1 H locs hp hX => ?_)
  obtain ⟨g, hg⟩ := ho r0 f1 hp
  refine lv_i2l (v := r0.toInt64) C.x C.b dL_remainders_8 rfl ?_
  refine k_last C hX hg vp_in01 dL_remainders_9 (fun H locs hX => ?_)
  refine lv_goto (tgt := 21) C.x C.b dL_remainders_10 (by decide) ?_
  refine lv_iconst (v := nI 0) C.x C.b dL_remainders_21 (by decide) ?_
  exact k_iretX C hX hr hlocks hQ (by omega) (by omega) ⟨rfl, r0, f1, g, hp, hg, rfl⟩ dL_remainders_22
theorem kL_remainders_o (l : Launch) (G : kG) (B0 : Nat) (f : kH) (h po : Nat) (x1 x2 : Int32) {vs : List Value} (hh : f h = some (.inr (8, vs))) {rm : Room} {mc ms : Nat} (hrc : rm.cells = mc) (hrs : rm.slots = ms) {post : kH → Prop} (hc : vx_Met l yX8_remainders wsX8_remainders rm (kP G B0 f [.ref h, .int x1, .int x2]) kNo (kXC G B0 "java/lang/IndexOutOfBoundsException" post) mc ms (kAb B0)) : vx_Met l yL_remainders wsL_remainders (rmL rm) (kP G B0 f [.ref h, .int x1, .int x2, .ref po]) (kQi G B0 (fun r f2 => r = nI 1 ∧ post f2)) (kXN G B0) mc ms (kAb B0) := by
  refine kMetH (cc := cL_remainders) (maxL := 5) (ret := (some .int)) (hh := [(0, 10, 13, 13), (0, 10, 17, 34)]) (by decide) rfl (Nat.le_of_ble_eq_true rfl) ?_
  intro p e s m args below meth c H locs Q ls C hX hl hr hlocks hQ htab
  have hl : lv_has ls 5 [(0, .ref h), (1, .int x1), (2, .int x2), (3, .ref po)] := hl
  refine lv_aload_n C.x C.b dL_remainders_0 rfl (lv_at hl 3 rfl) ?_
  refine lv_iconst (v := nI 0) C.x C.b dL_remainders_1 (by decide) ?_
  refine lv_aload_n C.x C.b dL_remainders_2 rfl (lv_at hl 0 rfl) ?_
  refine lv_iload_n C.x C.b dL_remainders_3 rfl (lv_at hl 1 rfl) ?_
  refine lv_iload_n C.x C.b dL_remainders_4 rfl (lv_at hl 2 rfl) ?_
  refine k_catX C (vx_runV (As := [.int x1, .int x2]) (rest := [.int (nI 0), .ref po]) C.1 hc (cwV 2 C.ts gL_remainders_X8_remainders rfl hrc hrs ⟨rfl, hdL_remainders_X8_remainders⟩ ⟨Nat.le_refl _, by show 8 + (_ + 11) + rm.locals ≤ rm.locals + 40; omega⟩) (k_preV C hX hh rfl) rfl rfl hl.1 rfl (lv_room (Nat.le_of_ble_eq_true rfl)) dL_remainders_5 ⟨by show 0 + mc ≤ rm.cells; omega, by show 0 + ms ≤ rm.slots; omega⟩) hX [] (0, 10, 13, 13) [(0, 10, 17, 34)] htab (fun z hz => by simp at hz) (by decide) (by decide) lk_L_remainders_o in_L_remainders_o (fun q f1 H locs hp hX => ?_)
  refine lv_astore (lv' := [(4, .ref q), (0, .ref h), (1, .int x1), (2, .int x2), (3, .ref po)]) C.x C.b dL_remainders_13 hl (by decide) rfl (fun ls hl => ?_)
  refine lv_iconst (v := nI 1) C.x C.b dL_remainders_15 (by decide) ?_
  exact k_iretX C hX hr hlocks hQ (by omega) (by omega) ⟨rfl, hp⟩ dL_remainders_16
theorem kL_remainders_a (l : Launch) (G : kG) (B0 : Nat) (f : kH) (h po : Nat) (x1 x2 : Int32) {vs : List Value} (hh : f h = some (.inr (8, vs))) {rm : Room} {mc ms : Nat} (hrc : rm.cells = mc) (hrs : rm.slots = ms) {post : kH → Prop} (hc : vx_Met l yX8_remainders wsX8_remainders rm (kP G B0 f [.ref h, .int x1, .int x2]) kNo (kXC G B0 "java/lang/IllegalArgumentException" post) mc ms (kAb B0)) : vx_Met l yL_remainders wsL_remainders (rmL rm) (kP G B0 f [.ref h, .int x1, .int x2, .ref po]) (kQi G B0 (fun r f2 => r = nI 2 ∧ post f2)) (kXN G B0) mc ms (kAb B0) := by
  refine kMetH (cc := cL_remainders) (maxL := 5) (ret := (some .int)) (hh := [(0, 10, 13, 13), (0, 10, 17, 34)]) (by decide) rfl (Nat.le_of_ble_eq_true rfl) ?_
  intro p e s m args below meth c H locs Q ls C hX hl hr hlocks hQ htab
  have hl : lv_has ls 5 [(0, .ref h), (1, .int x1), (2, .int x2), (3, .ref po)] := hl
  refine lv_aload_n C.x C.b dL_remainders_0 rfl (lv_at hl 3 rfl) ?_
  refine lv_iconst (v := nI 0) C.x C.b dL_remainders_1 (by decide) ?_
  refine lv_aload_n C.x C.b dL_remainders_2 rfl (lv_at hl 0 rfl) ?_
  refine lv_iload_n C.x C.b dL_remainders_3 rfl (lv_at hl 1 rfl) ?_
  refine lv_iload_n C.x C.b dL_remainders_4 rfl (lv_at hl 2 rfl) ?_
  refine k_catX C (vx_runV (As := [.int x1, .int x2]) (rest := [.int (nI 0), .ref po]) C.1 hc (cwV 2 C.ts gL_remainders_X8_remainders rfl hrc hrs ⟨rfl, hdL_remainders_X8_remainders⟩ ⟨Nat.le_refl _, by show 8 + (_ + 11) + rm.locals ≤ rm.locals + 40; omega⟩) (k_preV C hX hh rfl) rfl rfl hl.1 rfl (lv_room (Nat.le_of_ble_eq_true rfl)) dL_remainders_5 ⟨by show 0 + mc ≤ rm.cells; omega, by show 0 + ms ≤ rm.slots; omega⟩) hX [(0, 10, 13, 13)] (0, 10, 17, 34) [] htab (fun z hz => by
    simp only [List.mem_cons, List.not_mem_nil, or_false] at hz
    subst hz
    exact ⟨by decide, "java/lang/IndexOutOfBoundsException", lk_L_remainders_o, by decide +kernel⟩) (by decide) (by decide) lk_L_remainders_a in_L_remainders_a (fun q f1 H locs hp hX => ?_)
  refine lv_astore (lv' := [(4, .ref q), (0, .ref h), (1, .int x1), (2, .int x2), (3, .ref po)]) C.x C.b dL_remainders_17 hl (by decide) rfl (fun ls hl => ?_)
  refine lv_iconst (v := nI 2) C.x C.b dL_remainders_19 (by decide) ?_
  exact k_iretX C hX hr hlocks hQ (by omega) (by omega) ⟨rfl, hp⟩ dL_remainders_20
theorem hdL_ford_X8_ford : yX8_ford.cls ≠ "java/lang/invoke/MethodHandle" ∧ yX8_ford.cls ≠ "java/lang/invoke/VarHandle" ∧ (parseMethodDescriptor yX8_ford.desc).map (fun d => d.parameters.length) = some 4 := by decide +kernel
theorem lk_L_ford_a : Cond.classLink RL 34 "java/lang/IllegalArgumentException" ∈ wsL_ford := by decide +kernel
theorem in_L_ford_a : Cond.instantiable "java/lang/IllegalArgumentException" 6 ∈ wsL_ford := by decide +kernel
theorem kL_ford_g (l : Launch) (G : kG) (B0 : Nat) (f : kH) (h po : Nat) (x1 x2 x3 x4 : Int32) {vs : List Value} (hh : f h = some (.inr (8, vs))) {rm : Room} {mc ms : Nat} (hrc : rm.cells = mc) (hrs : rm.slots = ms) {Φ : Int32 → kH → Prop} (hc : Met l yX8_ford wsX8_ford rm (kP G B0 f [.ref h, .int x1, .int x2, .int x3, .int x4]) (kQi G B0 Φ) mc ms (kAb B0)) (ho : ∀ r f1, Φ r f1 → ∃ g, f1 po = some (kaJ G 1 g)) : vx_Met l yL_ford wsL_ford (rmL rm) (kP G B0 f [.ref h, .int x1, .int x2, .int x3, .int x4, .ref po]) (kQi G B0 (fun r f2 => r = nI 0 ∧ ∃ r0 f1 g, Φ r0 f1 ∧ f1 po = some (kaJ G 1 g) ∧ f2 = kst f1 po (kaJ G 1 (vp_updL g 0 r0.toInt64)))) (kXN G B0) mc ms (kAb B0) := by
  refine kMetH (cc := cL_ford) (maxL := 7) (ret := (some .int)) (hh := [(0, 14, 17, 34)]) (by decide) rfl (Nat.le_of_ble_eq_true rfl) ?_
  intro p e s m args below meth c H locs Q ls C hX hl hr hlocks hQ htab
  have hl : lv_has ls 7 [(0, .ref h), (1, .int x1), (2, .int x2), (3, .int x3), (4, .int x4), (5, .ref po)] := hl
  refine lv_aload C.x C.b dL_ford_0 (lv_at hl 5 rfl) ?_
  refine lv_iconst (v := nI 0) C.x C.b dL_ford_2 (by decide) ?_
  refine lv_aload_n C.x C.b dL_ford_3 rfl (lv_at hl 0 rfl) ?_
  refine lv_iload_n C.x C.b dL_ford_4 rfl (lv_at hl 1 rfl) ?_
  refine lv_iload_n C.x C.b dL_ford_5 rfl (lv_at hl 2 rfl) ?_
  refine lv_iload_n C.x C.b dL_ford_6 rfl (lv_at hl 3 rfl) ?_
  refine lv_iload C.x C.b dL_ford_7 (lv_at hl 4 rfl) ?_
  refine k_calli (va_runV (As := [.int x1, .int x2, .int x3, .int x4]) (rest := [.int (nI 0), .ref po]) C.1 hc (cwV 4 C.ts gL_ford_X8_ford rfl hrc hrs ⟨rfl, hdL_ford_X8_ford⟩ ⟨Nat.le_refl _, by show 8 + (_ + 11) + rm.locals ≤ rm.locals + 40; omega⟩) (k_preV C hX hh rfl) rfl rfl hl.1 rfl (lv_room (Nat.le_of_ble_eq_true rfl)) dL_ford_9 ⟨by show 0 + mc ≤ rm.cells; omega, by show 0 + ms ≤ rm.slots; omega⟩) hX (fun r0 f1 H locs hp hX => ?_)
  obtain ⟨g, hg⟩ := ho r0 f1 hp
  refine lv_i2l (v := r0.toInt64) C.x C.b dL_ford_12 rfl ?_
  refine k_last C hX hg vp_in01 dL_ford_13 (fun H locs hX => ?_)
  refine lv_goto (tgt := 21) C.x C.b dL_ford_14 (by decide) ?_
  refine lv_iconst (v := nI 0) C.x C.b dL_ford_21 (by decide) ?_
  exact k_iretX C hX hr hlocks hQ (by omega) (by omega) ⟨rfl, r0, f1, g, hp, hg, rfl⟩ dL_ford_22
theorem kL_ford_a (l : Launch) (G : kG) (B0 : Nat) (f : kH) (h po : Nat) (x1 x2 x3 x4 : Int32) {vs : List Value} (hh : f h = some (.inr (8, vs))) {rm : Room} {mc ms : Nat} (hrc : rm.cells = mc) (hrs : rm.slots = ms) {post : kH → Prop} (hc : vx_Met l yX8_ford wsX8_ford rm (kP G B0 f [.ref h, .int x1, .int x2, .int x3, .int x4]) kNo (kXC G B0 "java/lang/IllegalArgumentException" post) mc ms (kAb B0)) : vx_Met l yL_ford wsL_ford (rmL rm) (kP G B0 f [.ref h, .int x1, .int x2, .int x3, .int x4, .ref po]) (kQi G B0 (fun r f2 => r = nI 1 ∧ post f2)) (kXN G B0) mc ms (kAb B0) := by
  refine kMetH (cc := cL_ford) (maxL := 7) (ret := (some .int)) (hh := [(0, 14, 17, 34)]) (by decide) rfl (Nat.le_of_ble_eq_true rfl) ?_
  intro p e s m args below meth c H locs Q ls C hX hl hr hlocks hQ htab
  have hl : lv_has ls 7 [(0, .ref h), (1, .int x1), (2, .int x2), (3, .int x3), (4, .int x4), (5, .ref po)] := hl
  refine lv_aload C.x C.b dL_ford_0 (lv_at hl 5 rfl) ?_
  refine lv_iconst (v := nI 0) C.x C.b dL_ford_2 (by decide) ?_
  refine lv_aload_n C.x C.b dL_ford_3 rfl (lv_at hl 0 rfl) ?_
  refine lv_iload_n C.x C.b dL_ford_4 rfl (lv_at hl 1 rfl) ?_
  refine lv_iload_n C.x C.b dL_ford_5 rfl (lv_at hl 2 rfl) ?_
  refine lv_iload_n C.x C.b dL_ford_6 rfl (lv_at hl 3 rfl) ?_
  refine lv_iload C.x C.b dL_ford_7 (lv_at hl 4 rfl) ?_
  refine k_catX C (vx_runV (As := [.int x1, .int x2, .int x3, .int x4]) (rest := [.int (nI 0), .ref po]) C.1 hc (cwV 4 C.ts gL_ford_X8_ford rfl hrc hrs ⟨rfl, hdL_ford_X8_ford⟩ ⟨Nat.le_refl _, by show 8 + (_ + 11) + rm.locals ≤ rm.locals + 40; omega⟩) (k_preV C hX hh rfl) rfl rfl hl.1 rfl (lv_room (Nat.le_of_ble_eq_true rfl)) dL_ford_9 ⟨by show 0 + mc ≤ rm.cells; omega, by show 0 + ms ≤ rm.slots; omega⟩) hX [] (0, 14, 17, 34) [] htab (fun z hz => by simp at hz) (by decide) (by decide) lk_L_ford_a in_L_ford_a (fun q f1 H locs hp hX => ?_)
  refine lv_astore (lv' := [(6, .ref q), (0, .ref h), (1, .int x1), (2, .int x2), (3, .int x3), (4, .int x4), (5, .ref po)]) C.x C.b dL_ford_17 hl (by decide) rfl (fun ls hl => ?_)
  refine lv_iconst (v := nI 1) C.x C.b dL_ford_19 (by decide) ?_
  exact k_iretX C hX hr hlocks hQ (by omega) (by omega) ⟨rfl, hp⟩ dL_ford_20
theorem hdL_between_X8_between : yX8_between.cls ≠ "java/lang/invoke/MethodHandle" ∧ yX8_between.cls ≠ "java/lang/invoke/VarHandle" ∧ (parseMethodDescriptor yX8_between.desc).map (fun d => d.parameters.length) = some 5 := by decide +kernel
theorem lk_L_between_a : Cond.classLink RL 34 "java/lang/IllegalArgumentException" ∈ wsL_between := by decide +kernel
theorem in_L_between_a : Cond.instantiable "java/lang/IllegalArgumentException" 6 ∈ wsL_between := by decide +kernel
theorem kL_between_g (l : Launch) (G : kG) (B0 : Nat) (f : kH) (h po : Nat) (x1 x2 x3 x4 x5 : Int32) {vs : List Value} (hh : f h = some (.inr (8, vs))) {rm : Room} {mc ms : Nat} (hrc : rm.cells = mc) (hrs : rm.slots = ms) {Φ : Int64 → kH → Prop} (hc : Met l yX8_between wsX8_between rm (kP G B0 f [.ref h, .int x1, .int x2, .int x3, .int x4, .int x5]) (kQl G B0 Φ) mc ms (kAb B0)) (ho : ∀ r f1, Φ r f1 → ∃ g, f1 po = some (kaJ G 1 g)) : vx_Met l yL_between wsL_between (rmL rm) (kP G B0 f [.ref h, .int x1, .int x2, .int x3, .int x4, .int x5, .ref po]) (kQi G B0 (fun r f2 => r = nI 0 ∧ ∃ r0 f1 g, Φ r0 f1 ∧ f1 po = some (kaJ G 1 g) ∧ f2 = kst f1 po (kaJ G 1 (vp_updL g 0 r0)))) (kXN G B0) mc ms (kAb B0) := by
  refine kMetH (cc := cL_between) (maxL := 8) (ret := (some .int)) (hh := [(0, 15, 18, 34)]) (by decide) rfl (Nat.le_of_ble_eq_true rfl) ?_
  intro p e s m args below meth c H locs Q ls C hX hl hr hlocks hQ htab
  have hl : lv_has ls 8 [(0, .ref h), (1, .int x1), (2, .int x2), (3, .int x3), (4, .int x4), (5, .int x5), (6, .ref po)] := hl
  refine lv_aload C.x C.b dL_between_0 (lv_at hl 6 rfl) ?_
  refine lv_iconst (v := nI 0) C.x C.b dL_between_2 (by decide) ?_
  refine lv_aload_n C.x C.b dL_between_3 rfl (lv_at hl 0 rfl) ?_
  refine lv_iload_n C.x C.b dL_between_4 rfl (lv_at hl 1 rfl) ?_
  refine lv_iload_n C.x C.b dL_between_5 rfl (lv_at hl 2 rfl) ?_
  refine lv_iload_n C.x C.b dL_between_6 rfl (lv_at hl 3 rfl) ?_
  refine lv_iload C.x C.b dL_between_7 (lv_at hl 4 rfl) ?_
  refine lv_iload C.x C.b dL_between_9 (lv_at hl 5 rfl) ?_
  refine k_calll (va_runV (As := [.int x1, .int x2, .int x3, .int x4, .int x5]) (rest := [.int (nI 0), .ref po]) C.1 hc (cwV 5 C.ts gL_between_X8_between rfl hrc hrs ⟨rfl, hdL_between_X8_between⟩ ⟨Nat.le_refl _, by show 8 + (_ + 11) + rm.locals ≤ rm.locals + 40; omega⟩) (k_preV C hX hh rfl) rfl rfl hl.1 rfl (lv_room (Nat.le_of_ble_eq_true rfl)) dL_between_11 ⟨by show 0 + mc ≤ rm.cells; omega, by show 0 + ms ≤ rm.slots; omega⟩) hX (fun r0 f1 H locs hp hX => ?_)
  obtain ⟨g, hg⟩ := ho r0 f1 hp
  refine k_last C hX hg vp_in01 dL_between_14 (fun H locs hX => ?_)
  refine lv_goto (tgt := 22) C.x C.b dL_between_15 (by decide) ?_
  refine lv_iconst (v := nI 0) C.x C.b dL_between_22 (by decide) ?_
  exact k_iretX C hX hr hlocks hQ (by omega) (by omega) ⟨rfl, r0, f1, g, hp, hg, rfl⟩ dL_between_23
theorem kL_between_a (l : Launch) (G : kG) (B0 : Nat) (f : kH) (h po : Nat) (x1 x2 x3 x4 x5 : Int32) {vs : List Value} (hh : f h = some (.inr (8, vs))) {rm : Room} {mc ms : Nat} (hrc : rm.cells = mc) (hrs : rm.slots = ms) {post : kH → Prop} (hc : vx_Met l yX8_between wsX8_between rm (kP G B0 f [.ref h, .int x1, .int x2, .int x3, .int x4, .int x5]) kNo (kXC G B0 "java/lang/IllegalArgumentException" post) mc ms (kAb B0)) : vx_Met l yL_between wsL_between (rmL rm) (kP G B0 f [.ref h, .int x1, .int x2, .int x3, .int x4, .int x5, .ref po]) (kQi G B0 (fun r f2 => r = nI 1 ∧ post f2)) (kXN G B0) mc ms (kAb B0) := by
  refine kMetH (cc := cL_between) (maxL := 8) (ret := (some .int)) (hh := [(0, 15, 18, 34)]) (by decide) rfl (Nat.le_of_ble_eq_true rfl) ?_
  intro p e s m args below meth c H locs Q ls C hX hl hr hlocks hQ htab
  have hl : lv_has ls 8 [(0, .ref h), (1, .int x1), (2, .int x2), (3, .int x3), (4, .int x4), (5, .int x5), (6, .ref po)] := hl
  refine lv_aload C.x C.b dL_between_0 (lv_at hl 6 rfl) ?_
  refine lv_iconst (v := nI 0) C.x C.b dL_between_2 (by decide) ?_
  refine lv_aload_n C.x C.b dL_between_3 rfl (lv_at hl 0 rfl) ?_
  refine lv_iload_n C.x C.b dL_between_4 rfl (lv_at hl 1 rfl) ?_
  refine lv_iload_n C.x C.b dL_between_5 rfl (lv_at hl 2 rfl) ?_
  refine lv_iload_n C.x C.b dL_between_6 rfl (lv_at hl 3 rfl) ?_
  refine lv_iload C.x C.b dL_between_7 (lv_at hl 4 rfl) ?_
  refine lv_iload C.x C.b dL_between_9 (lv_at hl 5 rfl) ?_
  refine k_catX C (vx_runV (As := [.int x1, .int x2, .int x3, .int x4, .int x5]) (rest := [.int (nI 0), .ref po]) C.1 hc (cwV 5 C.ts gL_between_X8_between rfl hrc hrs ⟨rfl, hdL_between_X8_between⟩ ⟨Nat.le_refl _, by show 8 + (_ + 11) + rm.locals ≤ rm.locals + 40; omega⟩) (k_preV C hX hh rfl) rfl rfl hl.1 rfl (lv_room (Nat.le_of_ble_eq_true rfl)) dL_between_11 ⟨by show 0 + mc ≤ rm.cells; omega, by show 0 + ms ≤ rm.slots; omega⟩) hX [] (0, 15, 18, 34) [] htab (fun z hz => by simp at hz) (by decide) (by decide) lk_L_between_a in_L_between_a (fun q f1 H locs hp hX => ?_)
  refine lv_astore (lv' := [(7, .ref q), (0, .ref h), (1, .int x1), (2, .int x2), (3, .int x3), (4, .int x4), (5, .int x5), (6, .ref po)]) C.x C.b dL_between_18 hl (by decide) rfl (fun ls hl => ?_)
  refine lv_iconst (v := nI 1) C.x C.b dL_between_20 (by decide) ?_
  exact k_iretX C hX hr hlocks hQ (by omega) (by omega) ⟨rfl, hp⟩ dL_between_21
theorem hdL_tell_X8_tell : yX8_tell.cls ≠ "java/lang/invoke/MethodHandle" ∧ yX8_tell.cls ≠ "java/lang/invoke/VarHandle" ∧ (parseMethodDescriptor yX8_tell.desc).map (fun d => d.parameters.length) = some 4 := by decide +kernel
theorem lk_L_tell_a : Cond.classLink RL 34 "java/lang/IllegalArgumentException" ∈ wsL_tell := by decide +kernel
theorem in_L_tell_a : Cond.instantiable "java/lang/IllegalArgumentException" 6 ∈ wsL_tell := by decide +kernel
theorem lk_L_tell_s : Cond.classLink RL 15 "java/lang/IllegalStateException" ∈ wsL_tell := by decide +kernel
theorem in_L_tell_s : Cond.instantiable "java/lang/IllegalStateException" 6 ∈ wsL_tell := by decide +kernel
theorem kL_tell_g (l : Launch) (G : kG) (B0 : Nat) (f : kH) (h po : Nat) (x1 x2 x3 x4 : Int32) {vs : List Value} (hh : f h = some (.inr (8, vs))) {rm : Room} {mc ms : Nat} (hrc : rm.cells = mc) (hrs : rm.slots = ms) {Φ : Int32 → kH → Prop} (hc : Met l yX8_tell wsX8_tell rm (kP G B0 f [.ref h, .int x1, .int x2, .int x3, .int x4]) (kQi G B0 Φ) mc ms (kAb B0)) (ho : ∀ r f1, Φ r f1 → ∃ g, f1 po = some (kaJ G 1 g)) : vx_Met l yL_tell wsL_tell (rmL rm) (kP G B0 f [.ref h, .int x1, .int x2, .int x3, .int x4, .ref po]) (kQi G B0 (fun r f2 => r = nI 0 ∧ ∃ r0 f1 g, Φ r0 f1 ∧ f1 po = some (kaJ G 1 g) ∧ f2 = kst f1 po (kaJ G 1 (vp_updL g 0 r0.toInt64)))) (kXN G B0) mc ms (kAb B0) := by
  refine kMetH (cc := cL_tell) (maxL := 7) (ret := (some .int)) (hh := [(0, 14, 17, 34), (0, 14, 21, 15)]) (by decide) rfl (Nat.le_of_ble_eq_true rfl) ?_
  intro p e s m args below meth c H locs Q ls C hX hl hr hlocks hQ htab
  have hl : lv_has ls 7 [(0, .ref h), (1, .int x1), (2, .int x2), (3, .int x3), (4, .int x4), (5, .ref po)] := hl
  refine lv_aload C.x C.b dL_tell_0 (lv_at hl 5 rfl) ?_
  refine lv_iconst (v := nI 0) C.x C.b dL_tell_2 (by decide) ?_
  refine lv_aload_n C.x C.b dL_tell_3 rfl (lv_at hl 0 rfl) ?_
  refine lv_iload_n C.x C.b dL_tell_4 rfl (lv_at hl 1 rfl) ?_
  refine lv_iload_n C.x C.b dL_tell_5 rfl (lv_at hl 2 rfl) ?_
  refine lv_iload_n C.x C.b dL_tell_6 rfl (lv_at hl 3 rfl) ?_
  refine lv_iload C.x C.b dL_tell_7 (lv_at hl 4 rfl) ?_
  refine k_calli (va_runV (As := [.int x1, .int x2, .int x3, .int x4]) (rest := [.int (nI 0), .ref po]) C.1 hc (cwV 4 C.ts gL_tell_X8_tell rfl hrc hrs ⟨rfl, hdL_tell_X8_tell⟩ ⟨Nat.le_refl _, by show 8 + (_ + 11) + rm.locals ≤ rm.locals + 40; omega⟩) (k_preV C hX hh rfl) rfl rfl hl.1 rfl (lv_room (Nat.le_of_ble_eq_true rfl)) dL_tell_9 ⟨by show 0 + mc ≤ rm.cells; omega, by show 0 + ms ≤ rm.slots; omega⟩) hX (fun r0 f1 H locs hp hX => ?_)
  obtain ⟨g, hg⟩ := ho r0 f1 hp
  refine lv_i2l (v := r0.toInt64) C.x C.b dL_tell_12 rfl ?_
  refine k_last C hX hg vp_in01 dL_tell_13 (fun H locs hX => ?_)
  refine lv_goto (tgt := 25) C.x C.b dL_tell_14 (by decide) ?_
  refine lv_iconst (v := nI 0) C.x C.b dL_tell_25 (by decide) ?_
  exact k_iretX C hX hr hlocks hQ (by omega) (by omega) ⟨rfl, r0, f1, g, hp, hg, rfl⟩ dL_tell_26
theorem kL_tell_a (l : Launch) (G : kG) (B0 : Nat) (f : kH) (h po : Nat) (x1 x2 x3 x4 : Int32) {vs : List Value} (hh : f h = some (.inr (8, vs))) {rm : Room} {mc ms : Nat} (hrc : rm.cells = mc) (hrs : rm.slots = ms) {post : kH → Prop} (hc : vx_Met l yX8_tell wsX8_tell rm (kP G B0 f [.ref h, .int x1, .int x2, .int x3, .int x4]) kNo (kXC G B0 "java/lang/IllegalArgumentException" post) mc ms (kAb B0)) : vx_Met l yL_tell wsL_tell (rmL rm) (kP G B0 f [.ref h, .int x1, .int x2, .int x3, .int x4, .ref po]) (kQi G B0 (fun r f2 => r = nI 1 ∧ post f2)) (kXN G B0) mc ms (kAb B0) := by
  refine kMetH (cc := cL_tell) (maxL := 7) (ret := (some .int)) (hh := [(0, 14, 17, 34), (0, 14, 21, 15)]) (by decide) rfl (Nat.le_of_ble_eq_true rfl) ?_
  intro p e s m args below meth c H locs Q ls C hX hl hr hlocks hQ htab
  have hl : lv_has ls 7 [(0, .ref h), (1, .int x1), (2, .int x2), (3, .int x3), (4, .int x4), (5, .ref po)] := hl
  refine lv_aload C.x C.b dL_tell_0 (lv_at hl 5 rfl) ?_
  refine lv_iconst (v := nI 0) C.x C.b dL_tell_2 (by decide) ?_
  refine lv_aload_n C.x C.b dL_tell_3 rfl (lv_at hl 0 rfl) ?_
  refine lv_iload_n C.x C.b dL_tell_4 rfl (lv_at hl 1 rfl) ?_
  refine lv_iload_n C.x C.b dL_tell_5 rfl (lv_at hl 2 rfl) ?_
  refine lv_iload_n C.x C.b dL_tell_6 rfl (lv_at hl 3 rfl) ?_
  refine lv_iload C.x C.b dL_tell_7 (lv_at hl 4 rfl) ?_
  refine k_catX C (vx_runV (As := [.int x1, .int x2, .int x3, .int x4]) (rest := [.int (nI 0), .ref po]) C.1 hc (cwV 4 C.ts gL_tell_X8_tell rfl hrc hrs ⟨rfl, hdL_tell_X8_tell⟩ ⟨Nat.le_refl _, by show 8 + (_ + 11) + rm.locals ≤ rm.locals + 40; omega⟩) (k_preV C hX hh rfl) rfl rfl hl.1 rfl (lv_room (Nat.le_of_ble_eq_true rfl)) dL_tell_9 ⟨by show 0 + mc ≤ rm.cells; omega, by show 0 + ms ≤ rm.slots; omega⟩) hX [] (0, 14, 17, 34) [(0, 14, 21, 15)] htab (fun z hz => by simp at hz) (by decide) (by decide) lk_L_tell_a in_L_tell_a (fun q f1 H locs hp hX => ?_)
  refine lv_astore (lv' := [(6, .ref q), (0, .ref h), (1, .int x1), (2, .int x2), (3, .int x3), (4, .int x4), (5, .ref po)]) C.x C.b dL_tell_17 hl (by decide) rfl (fun ls hl => ?_)
  refine lv_iconst (v := nI 1) C.x C.b dL_tell_19 (by decide) ?_
  exact k_iretX C hX hr hlocks hQ (by omega) (by omega) ⟨rfl, hp⟩ dL_tell_20
theorem kL_tell_s (l : Launch) (G : kG) (B0 : Nat) (f : kH) (h po : Nat) (x1 x2 x3 x4 : Int32) {vs : List Value} (hh : f h = some (.inr (8, vs))) {rm : Room} {mc ms : Nat} (hrc : rm.cells = mc) (hrs : rm.slots = ms) {post : kH → Prop} (hc : vx_Met l yX8_tell wsX8_tell rm (kP G B0 f [.ref h, .int x1, .int x2, .int x3, .int x4]) kNo (kXC G B0 "java/lang/IllegalStateException" post) mc ms (kAb B0)) : vx_Met l yL_tell wsL_tell (rmL rm) (kP G B0 f [.ref h, .int x1, .int x2, .int x3, .int x4, .ref po]) (kQi G B0 (fun r f2 => r = nI 2 ∧ post f2)) (kXN G B0) mc ms (kAb B0) := by
  refine kMetH (cc := cL_tell) (maxL := 7) (ret := (some .int)) (hh := [(0, 14, 17, 34), (0, 14, 21, 15)]) (by decide) rfl (Nat.le_of_ble_eq_true rfl) ?_
  intro p e s m args below meth c H locs Q ls C hX hl hr hlocks hQ htab
  have hl : lv_has ls 7 [(0, .ref h), (1, .int x1), (2, .int x2), (3, .int x3), (4, .int x4), (5, .ref po)] := hl
  refine lv_aload C.x C.b dL_tell_0 (lv_at hl 5 rfl) ?_
  refine lv_iconst (v := nI 0) C.x C.b dL_tell_2 (by decide) ?_
  refine lv_aload_n C.x C.b dL_tell_3 rfl (lv_at hl 0 rfl) ?_
  refine lv_iload_n C.x C.b dL_tell_4 rfl (lv_at hl 1 rfl) ?_
  refine lv_iload_n C.x C.b dL_tell_5 rfl (lv_at hl 2 rfl) ?_
  refine lv_iload_n C.x C.b dL_tell_6 rfl (lv_at hl 3 rfl) ?_
  refine lv_iload C.x C.b dL_tell_7 (lv_at hl 4 rfl) ?_
  refine k_catX C (vx_runV (As := [.int x1, .int x2, .int x3, .int x4]) (rest := [.int (nI 0), .ref po]) C.1 hc (cwV 4 C.ts gL_tell_X8_tell rfl hrc hrs ⟨rfl, hdL_tell_X8_tell⟩ ⟨Nat.le_refl _, by show 8 + (_ + 11) + rm.locals ≤ rm.locals + 40; omega⟩) (k_preV C hX hh rfl) rfl rfl hl.1 rfl (lv_room (Nat.le_of_ble_eq_true rfl)) dL_tell_9 ⟨by show 0 + mc ≤ rm.cells; omega, by show 0 + ms ≤ rm.slots; omega⟩) hX [(0, 14, 17, 34)] (0, 14, 21, 15) [] htab (fun z hz => by
    simp only [List.mem_cons, List.not_mem_nil, or_false] at hz
    subst hz
    exact ⟨by decide, "java/lang/IllegalArgumentException", lk_L_tell_a, by decide +kernel⟩) (by decide) (by decide) lk_L_tell_s in_L_tell_s (fun q f1 H locs hp hX => ?_)
  refine lv_astore (lv' := [(6, .ref q), (0, .ref h), (1, .int x1), (2, .int x2), (3, .int x3), (4, .int x4), (5, .ref po)]) C.x C.b dL_tell_21 hl (by decide) rfl (fun ls hl => ?_)
  refine lv_iconst (v := nI 2) C.x C.b dL_tell_23 (by decide) ?_
  exact k_iretX C hX hr hlocks hQ (by omega) (by omega) ⟨rfl, hp⟩ dL_tell_24
theorem hdL_append_X8_append : yX8_append.cls ≠ "java/lang/invoke/MethodHandle" ∧ yX8_append.cls ≠ "java/lang/invoke/VarHandle" ∧ (parseMethodDescriptor yX8_append.desc).map (fun d => d.parameters.length) = some 2 := by decide +kernel
theorem lk_L_append_o : Cond.classLink RL 13 "java/lang/IndexOutOfBoundsException" ∈ wsL_append := by decide +kernel
theorem in_L_append_o : Cond.instantiable "java/lang/IndexOutOfBoundsException" 6 ∈ wsL_append := by decide +kernel
theorem lk_L_append_s : Cond.classLink RL 15 "java/lang/IllegalStateException" ∈ wsL_append := by decide +kernel
theorem in_L_append_s : Cond.instantiable "java/lang/IllegalStateException" 6 ∈ wsL_append := by decide +kernel
theorem kL_append_g (l : Launch) (G : kG) (B0 : Nat) (f : kH) (h po : Nat) (x1 x2 : Int32) {vs : List Value} (hh : f h = some (.inr (8, vs))) {rm : Room} {mc ms : Nat} (hrc : rm.cells = mc) (hrs : rm.slots = ms) {Φ : Int32 → kH → Prop} (hc : Met l yX8_append wsX8_append rm (kP G B0 f [.ref h, .int x1, .int x2]) (kQi G B0 Φ) mc ms (kAb B0)) (ho : ∀ r f1, Φ r f1 → ∃ g, f1 po = some (kaJ G 1 g)) : vx_Met l yL_append wsL_append (rmL rm) (kP G B0 f [.ref h, .int x1, .int x2, .ref po]) (kQi G B0 (fun r f2 => r = nI 0 ∧ ∃ r0 f1 g, Φ r0 f1 ∧ f1 po = some (kaJ G 1 g) ∧ f2 = kst f1 po (kaJ G 1 (vp_updL g 0 r0.toInt64)))) (kXN G B0) mc ms (kAb B0) := by
  refine kMetH (cc := cL_append) (maxL := 5) (ret := (some .int)) (hh := [(0, 10, 13, 13), (0, 10, 17, 15)]) (by decide) rfl (Nat.le_of_ble_eq_true rfl) ?_
  intro p e s m args below meth c H locs Q ls C hX hl hr hlocks hQ htab
  have hl : lv_has ls 5 [(0, .ref h), (1, .int x1), (2, .int x2), (3, .ref po)] := hl
  refine lv_aload_n C.x C.b dL_append_0 rfl (lv_at hl 3 rfl) ?_
  refine lv_iconst (v := nI 0) C.x C.b dL_append_1 (by decide) ?_
  refine lv_aload_n C.x C.b dL_append_2 rfl (lv_at hl 0 rfl) ?_
  refine lv_iload_n C.x C.b dL_append_3 rfl (lv_at hl 1 rfl) ?_
  refine lv_iload_n C.x C.b dL_append_4 rfl (lv_at hl 2 rfl) ?_
  refine k_calli (va_runV (As := [.int x1, .int x2]) (rest := [.int (nI 0), .ref po]) C.1 hc (cwV 2 C.ts gL_append_X8_append rfl hrc hrs ⟨rfl, hdL_append_X8_append⟩ ⟨Nat.le_refl _, by show 8 + (_ + 11) + rm.locals ≤ rm.locals + 40; omega⟩) (k_preV C hX hh rfl) rfl rfl hl.1 rfl (lv_room (Nat.le_of_ble_eq_true rfl)) dL_append_5 ⟨by show 0 + mc ≤ rm.cells; omega, by show 0 + ms ≤ rm.slots; omega⟩) hX (fun r0 f1 H locs hp hX => ?_)
  obtain ⟨g, hg⟩ := ho r0 f1 hp
  refine lv_i2l (v := r0.toInt64) C.x C.b dL_append_8 rfl ?_
  refine k_last C hX hg vp_in01 dL_append_9 (fun H locs hX => ?_)
  refine lv_goto (tgt := 21) C.x C.b dL_append_10 (by decide) ?_
  refine lv_iconst (v := nI 0) C.x C.b dL_append_21 (by decide) ?_
  exact k_iretX C hX hr hlocks hQ (by omega) (by omega) ⟨rfl, r0, f1, g, hp, hg, rfl⟩ dL_append_22
theorem kL_append_o (l : Launch) (G : kG) (B0 : Nat) (f : kH) (h po : Nat) (x1 x2 : Int32) {vs : List Value} (hh : f h = some (.inr (8, vs))) {rm : Room} {mc ms : Nat} (hrc : rm.cells = mc) (hrs : rm.slots = ms) {post : kH → Prop} (hc : vx_Met l yX8_append wsX8_append rm (kP G B0 f [.ref h, .int x1, .int x2]) kNo (kXC G B0 "java/lang/IndexOutOfBoundsException" post) mc ms (kAb B0)) : vx_Met l yL_append wsL_append (rmL rm) (kP G B0 f [.ref h, .int x1, .int x2, .ref po]) (kQi G B0 (fun r f2 => r = nI 1 ∧ post f2)) (kXN G B0) mc ms (kAb B0) := by
  refine kMetH (cc := cL_append) (maxL := 5) (ret := (some .int)) (hh := [(0, 10, 13, 13), (0, 10, 17, 15)]) (by decide) rfl (Nat.le_of_ble_eq_true rfl) ?_
  intro p e s m args below meth c H locs Q ls C hX hl hr hlocks hQ htab
  have hl : lv_has ls 5 [(0, .ref h), (1, .int x1), (2, .int x2), (3, .ref po)] := hl
  refine lv_aload_n C.x C.b dL_append_0 rfl (lv_at hl 3 rfl) ?_
  refine lv_iconst (v := nI 0) C.x C.b dL_append_1 (by decide) ?_
  refine lv_aload_n C.x C.b dL_append_2 rfl (lv_at hl 0 rfl) ?_
  refine lv_iload_n C.x C.b dL_append_3 rfl (lv_at hl 1 rfl) ?_
  refine lv_iload_n C.x C.b dL_append_4 rfl (lv_at hl 2 rfl) ?_
  refine k_catX C (vx_runV (As := [.int x1, .int x2]) (rest := [.int (nI 0), .ref po]) C.1 hc (cwV 2 C.ts gL_append_X8_append rfl hrc hrs ⟨rfl, hdL_append_X8_append⟩ ⟨Nat.le_refl _, by show 8 + (_ + 11) + rm.locals ≤ rm.locals + 40; omega⟩) (k_preV C hX hh rfl) rfl rfl hl.1 rfl (lv_room (Nat.le_of_ble_eq_true rfl)) dL_append_5 ⟨by show 0 + mc ≤ rm.cells; omega, by show 0 + ms ≤ rm.slots; omega⟩) hX [] (0, 10, 13, 13) [(0, 10, 17, 15)] htab (fun z hz => by simp at hz) (by decide) (by decide) lk_L_append_o in_L_append_o (fun q f1 H locs hp hX => ?_)
  refine lv_astore (lv' := [(4, .ref q), (0, .ref h), (1, .int x1), (2, .int x2), (3, .ref po)]) C.x C.b dL_append_13 hl (by decide) rfl (fun ls hl => ?_)
  refine lv_iconst (v := nI 1) C.x C.b dL_append_15 (by decide) ?_
  exact k_iretX C hX hr hlocks hQ (by omega) (by omega) ⟨rfl, hp⟩ dL_append_16
theorem kL_append_s (l : Launch) (G : kG) (B0 : Nat) (f : kH) (h po : Nat) (x1 x2 : Int32) {vs : List Value} (hh : f h = some (.inr (8, vs))) {rm : Room} {mc ms : Nat} (hrc : rm.cells = mc) (hrs : rm.slots = ms) {post : kH → Prop} (hc : vx_Met l yX8_append wsX8_append rm (kP G B0 f [.ref h, .int x1, .int x2]) kNo (kXC G B0 "java/lang/IllegalStateException" post) mc ms (kAb B0)) : vx_Met l yL_append wsL_append (rmL rm) (kP G B0 f [.ref h, .int x1, .int x2, .ref po]) (kQi G B0 (fun r f2 => r = nI 2 ∧ post f2)) (kXN G B0) mc ms (kAb B0) := by
  refine kMetH (cc := cL_append) (maxL := 5) (ret := (some .int)) (hh := [(0, 10, 13, 13), (0, 10, 17, 15)]) (by decide) rfl (Nat.le_of_ble_eq_true rfl) ?_
  intro p e s m args below meth c H locs Q ls C hX hl hr hlocks hQ htab
  have hl : lv_has ls 5 [(0, .ref h), (1, .int x1), (2, .int x2), (3, .ref po)] := hl
  refine lv_aload_n C.x C.b dL_append_0 rfl (lv_at hl 3 rfl) ?_
  refine lv_iconst (v := nI 0) C.x C.b dL_append_1 (by decide) ?_
  refine lv_aload_n C.x C.b dL_append_2 rfl (lv_at hl 0 rfl) ?_
  refine lv_iload_n C.x C.b dL_append_3 rfl (lv_at hl 1 rfl) ?_
  refine lv_iload_n C.x C.b dL_append_4 rfl (lv_at hl 2 rfl) ?_
  refine k_catX C (vx_runV (As := [.int x1, .int x2]) (rest := [.int (nI 0), .ref po]) C.1 hc (cwV 2 C.ts gL_append_X8_append rfl hrc hrs ⟨rfl, hdL_append_X8_append⟩ ⟨Nat.le_refl _, by show 8 + (_ + 11) + rm.locals ≤ rm.locals + 40; omega⟩) (k_preV C hX hh rfl) rfl rfl hl.1 rfl (lv_room (Nat.le_of_ble_eq_true rfl)) dL_append_5 ⟨by show 0 + mc ≤ rm.cells; omega, by show 0 + ms ≤ rm.slots; omega⟩) hX [(0, 10, 13, 13)] (0, 10, 17, 15) [] htab (fun z hz => by
    simp only [List.mem_cons, List.not_mem_nil, or_false] at hz
    subst hz
    exact ⟨by decide, "java/lang/IndexOutOfBoundsException", lk_L_append_o, by decide +kernel⟩) (by decide) (by decide) lk_L_append_s in_L_append_s (fun q f1 H locs hp hX => ?_)
  refine lv_astore (lv' := [(4, .ref q), (0, .ref h), (1, .int x1), (2, .int x2), (3, .ref po)]) C.x C.b dL_append_17 hl (by decide) rfl (fun ls hl => ?_)
  refine lv_iconst (v := nI 2) C.x C.b dL_append_19 (by decide) ?_
  exact k_iretX C hX hr hlocks hQ (by omega) (by omega) ⟨rfl, hp⟩ dL_append_20
theorem hdL_word_X8_word : yX8_word.cls ≠ "java/lang/invoke/MethodHandle" ∧ yX8_word.cls ≠ "java/lang/invoke/VarHandle" ∧ (parseMethodDescriptor yX8_word.desc).map (fun d => d.parameters.length) = some 1 := by decide +kernel
theorem lk_L_word_o : Cond.classLink RL 13 "java/lang/IndexOutOfBoundsException" ∈ wsL_word := by decide +kernel
theorem in_L_word_o : Cond.instantiable "java/lang/IndexOutOfBoundsException" 6 ∈ wsL_word := by decide +kernel
theorem kL_word_g (l : Launch) (G : kG) (B0 : Nat) (f : kH) (h po : Nat) (x1 : Int32) {vs : List Value} (hh : f h = some (.inr (8, vs))) {rm : Room} {mc ms : Nat} (hrc : rm.cells = mc) (hrs : rm.slots = ms) {Φ : Int32 → kH → Prop} (hc : Met l yX8_word wsX8_word rm (kP G B0 f [.ref h, .int x1]) (kQi G B0 Φ) mc ms (kAb B0)) (ho : ∀ r f1, Φ r f1 → ∃ g, f1 po = some (kaJ G 1 g)) : vx_Met l yL_word wsL_word (rmL rm) (kP G B0 f [.ref h, .int x1, .ref po]) (kQi G B0 (fun r f2 => r = nI 0 ∧ ∃ r0 f1 g, Φ r0 f1 ∧ f1 po = some (kaJ G 1 g) ∧ f2 = kst f1 po (kaJ G 1 (vp_updL g 0 r0.toInt64)))) (kXN G B0) mc ms (kAb B0) := by
  refine kMetH (cc := cL_word) (maxL := 4) (ret := (some .int)) (hh := [(0, 9, 12, 13)]) (by decide) rfl (Nat.le_of_ble_eq_true rfl) ?_
  intro p e s m args below meth c H locs Q ls C hX hl hr hlocks hQ htab
  have hl : lv_has ls 4 [(0, .ref h), (1, .int x1), (2, .ref po)] := hl
  refine lv_aload_n C.x C.b dL_word_0 rfl (lv_at hl 2 rfl) ?_
  refine lv_iconst (v := nI 0) C.x C.b dL_word_1 (by decide) ?_
  refine lv_aload_n C.x C.b dL_word_2 rfl (lv_at hl 0 rfl) ?_
  refine lv_iload_n C.x C.b dL_word_3 rfl (lv_at hl 1 rfl) ?_
  refine k_calli (va_runV (As := [.int x1]) (rest := [.int (nI 0), .ref po]) C.1 hc (cwV 1 C.ts gL_word_X8_word rfl hrc hrs ⟨rfl, hdL_word_X8_word⟩ ⟨Nat.le_refl _, by show 8 + (_ + 11) + rm.locals ≤ rm.locals + 40; omega⟩) (k_preV C hX hh rfl) rfl rfl hl.1 rfl (lv_room (Nat.le_of_ble_eq_true rfl)) dL_word_4 ⟨by show 0 + mc ≤ rm.cells; omega, by show 0 + ms ≤ rm.slots; omega⟩) hX (fun r0 f1 H locs hp hX => ?_)
  obtain ⟨g, hg⟩ := ho r0 f1 hp
  refine lv_i2l (v := r0.toInt64) C.x C.b dL_word_7 rfl ?_
  refine k_last C hX hg vp_in01 dL_word_8 (fun H locs hX => ?_)
  refine lv_goto (tgt := 15) C.x C.b dL_word_9 (by decide) ?_
  refine lv_iconst (v := nI 0) C.x C.b dL_word_15 (by decide) ?_
  exact k_iretX C hX hr hlocks hQ (by omega) (by omega) ⟨rfl, r0, f1, g, hp, hg, rfl⟩ dL_word_16
theorem kL_word_o (l : Launch) (G : kG) (B0 : Nat) (f : kH) (h po : Nat) (x1 : Int32) {vs : List Value} (hh : f h = some (.inr (8, vs))) {rm : Room} {mc ms : Nat} (hrc : rm.cells = mc) (hrs : rm.slots = ms) {post : kH → Prop} (hc : vx_Met l yX8_word wsX8_word rm (kP G B0 f [.ref h, .int x1]) kNo (kXC G B0 "java/lang/IndexOutOfBoundsException" post) mc ms (kAb B0)) : vx_Met l yL_word wsL_word (rmL rm) (kP G B0 f [.ref h, .int x1, .ref po]) (kQi G B0 (fun r f2 => r = nI 1 ∧ post f2)) (kXN G B0) mc ms (kAb B0) := by
  refine kMetH (cc := cL_word) (maxL := 4) (ret := (some .int)) (hh := [(0, 9, 12, 13)]) (by decide) rfl (Nat.le_of_ble_eq_true rfl) ?_
  intro p e s m args below meth c H locs Q ls C hX hl hr hlocks hQ htab
  have hl : lv_has ls 4 [(0, .ref h), (1, .int x1), (2, .ref po)] := hl
  refine lv_aload_n C.x C.b dL_word_0 rfl (lv_at hl 2 rfl) ?_
  refine lv_iconst (v := nI 0) C.x C.b dL_word_1 (by decide) ?_
  refine lv_aload_n C.x C.b dL_word_2 rfl (lv_at hl 0 rfl) ?_
  refine lv_iload_n C.x C.b dL_word_3 rfl (lv_at hl 1 rfl) ?_
  refine k_catX C (vx_runV (As := [.int x1]) (rest := [.int (nI 0), .ref po]) C.1 hc (cwV 1 C.ts gL_word_X8_word rfl hrc hrs ⟨rfl, hdL_word_X8_word⟩ ⟨Nat.le_refl _, by show 8 + (_ + 11) + rm.locals ≤ rm.locals + 40; omega⟩) (k_preV C hX hh rfl) rfl rfl hl.1 rfl (lv_room (Nat.le_of_ble_eq_true rfl)) dL_word_4 ⟨by show 0 + mc ≤ rm.cells; omega, by show 0 + ms ≤ rm.slots; omega⟩) hX [] (0, 9, 12, 13) [] htab (fun z hz => by simp at hz) (by decide) (by decide) lk_L_word_o in_L_word_o (fun q f1 H locs hp hX => ?_)
  refine lv_astore_n (lv' := [(3, .ref q), (0, .ref h), (1, .int x1), (2, .ref po)]) C.x C.b dL_word_12 rfl hl (by decide) rfl (fun ls hl => ?_)
  refine lv_iconst (v := nI 1) C.x C.b dL_word_13 (by decide) ?_
  exact k_iretX C hX hr hlocks hQ (by omega) (by omega) ⟨rfl, hp⟩ dL_word_14
theorem hdL_image_X8_image : yX8_image.cls ≠ "java/lang/invoke/MethodHandle" ∧ yX8_image.cls ≠ "java/lang/invoke/VarHandle" ∧ (parseMethodDescriptor yX8_image.desc).map (fun d => d.parameters.length) = some 3 := by decide +kernel
theorem lk_L_image_a : Cond.classLink RL 34 "java/lang/IllegalArgumentException" ∈ wsL_image := by decide +kernel
theorem in_L_image_a : Cond.instantiable "java/lang/IllegalArgumentException" 6 ∈ wsL_image := by decide +kernel
theorem kL_image_g (l : Launch) (G : kG) (B0 : Nat) (f : kH) (h po : Nat) (x1 x2 x3 : Int32) {vs : List Value} (hh : f h = some (.inr (8, vs))) {rm : Room} {mc ms : Nat} (hrc : rm.cells = mc) (hrs : rm.slots = ms) {Φ : Int64 → kH → Prop} (hc : Met l yX8_image wsX8_image rm (kP G B0 f [.ref h, .int x1, .int x2, .int x3]) (kQl G B0 Φ) mc ms (kAb B0)) (ho : ∀ r f1, Φ r f1 → ∃ g, f1 po = some (kaJ G 1 g)) : vx_Met l yL_image wsL_image (rmL rm) (kP G B0 f [.ref h, .int x1, .int x2, .int x3, .ref po]) (kQi G B0 (fun r f2 => r = nI 0 ∧ ∃ r0 f1 g, Φ r0 f1 ∧ f1 po = some (kaJ G 1 g) ∧ f2 = kst f1 po (kaJ G 1 (vp_updL g 0 r0)))) (kXN G B0) mc ms (kAb B0) := by
  refine kMetH (cc := cL_image) (maxL := 6) (ret := (some .int)) (hh := [(0, 11, 14, 34)]) (by decide) rfl (Nat.le_of_ble_eq_true rfl) ?_
  intro p e s m args below meth c H locs Q ls C hX hl hr hlocks hQ htab
  have hl : lv_has ls 6 [(0, .ref h), (1, .int x1), (2, .int x2), (3, .int x3), (4, .ref po)] := hl
  refine lv_aload C.x C.b dL_image_0 (lv_at hl 4 rfl) ?_
  refine lv_iconst (v := nI 0) C.x C.b dL_image_2 (by decide) ?_
  refine lv_aload_n C.x C.b dL_image_3 rfl (lv_at hl 0 rfl) ?_
  refine lv_iload_n C.x C.b dL_image_4 rfl (lv_at hl 1 rfl) ?_
  refine lv_iload_n C.x C.b dL_image_5 rfl (lv_at hl 2 rfl) ?_
  refine lv_iload_n C.x C.b dL_image_6 rfl (lv_at hl 3 rfl) ?_
  refine k_calll (va_runV (As := [.int x1, .int x2, .int x3]) (rest := [.int (nI 0), .ref po]) C.1 hc (cwV 3 C.ts gL_image_X8_image rfl hrc hrs ⟨rfl, hdL_image_X8_image⟩ ⟨Nat.le_refl _, by show 8 + (_ + 11) + rm.locals ≤ rm.locals + 40; omega⟩) (k_preV C hX hh rfl) rfl rfl hl.1 rfl (lv_room (Nat.le_of_ble_eq_true rfl)) dL_image_7 ⟨by show 0 + mc ≤ rm.cells; omega, by show 0 + ms ≤ rm.slots; omega⟩) hX (fun r0 f1 H locs hp hX => ?_)
  obtain ⟨g, hg⟩ := ho r0 f1 hp
  refine k_last C hX hg vp_in01 dL_image_10 (fun H locs hX => ?_)
  refine lv_goto (tgt := 18) C.x C.b dL_image_11 (by decide) ?_
  refine lv_iconst (v := nI 0) C.x C.b dL_image_18 (by decide) ?_
  exact k_iretX C hX hr hlocks hQ (by omega) (by omega) ⟨rfl, r0, f1, g, hp, hg, rfl⟩ dL_image_19
theorem kL_image_a (l : Launch) (G : kG) (B0 : Nat) (f : kH) (h po : Nat) (x1 x2 x3 : Int32) {vs : List Value} (hh : f h = some (.inr (8, vs))) {rm : Room} {mc ms : Nat} (hrc : rm.cells = mc) (hrs : rm.slots = ms) {post : kH → Prop} (hc : vx_Met l yX8_image wsX8_image rm (kP G B0 f [.ref h, .int x1, .int x2, .int x3]) kNo (kXC G B0 "java/lang/IllegalArgumentException" post) mc ms (kAb B0)) : vx_Met l yL_image wsL_image (rmL rm) (kP G B0 f [.ref h, .int x1, .int x2, .int x3, .ref po]) (kQi G B0 (fun r f2 => r = nI 1 ∧ post f2)) (kXN G B0) mc ms (kAb B0) := by
  refine kMetH (cc := cL_image) (maxL := 6) (ret := (some .int)) (hh := [(0, 11, 14, 34)]) (by decide) rfl (Nat.le_of_ble_eq_true rfl) ?_
  intro p e s m args below meth c H locs Q ls C hX hl hr hlocks hQ htab
  have hl : lv_has ls 6 [(0, .ref h), (1, .int x1), (2, .int x2), (3, .int x3), (4, .ref po)] := hl
  refine lv_aload C.x C.b dL_image_0 (lv_at hl 4 rfl) ?_
  refine lv_iconst (v := nI 0) C.x C.b dL_image_2 (by decide) ?_
  refine lv_aload_n C.x C.b dL_image_3 rfl (lv_at hl 0 rfl) ?_
  refine lv_iload_n C.x C.b dL_image_4 rfl (lv_at hl 1 rfl) ?_
  refine lv_iload_n C.x C.b dL_image_5 rfl (lv_at hl 2 rfl) ?_
  refine lv_iload_n C.x C.b dL_image_6 rfl (lv_at hl 3 rfl) ?_
  refine k_catX C (vx_runV (As := [.int x1, .int x2, .int x3]) (rest := [.int (nI 0), .ref po]) C.1 hc (cwV 3 C.ts gL_image_X8_image rfl hrc hrs ⟨rfl, hdL_image_X8_image⟩ ⟨Nat.le_refl _, by show 8 + (_ + 11) + rm.locals ≤ rm.locals + 40; omega⟩) (k_preV C hX hh rfl) rfl rfl hl.1 rfl (lv_room (Nat.le_of_ble_eq_true rfl)) dL_image_7 ⟨by show 0 + mc ≤ rm.cells; omega, by show 0 + ms ≤ rm.slots; omega⟩) hX [] (0, 11, 14, 34) [] htab (fun z hz => by simp at hz) (by decide) (by decide) lk_L_image_a in_L_image_a (fun q f1 H locs hp hX => ?_)
  refine lv_astore (lv' := [(5, .ref q), (0, .ref h), (1, .int x1), (2, .int x2), (3, .int x3), (4, .ref po)]) C.x C.b dL_image_14 hl (by decide) rfl (fun ls hl => ?_)
  refine lv_iconst (v := nI 1) C.x C.b dL_image_16 (by decide) ?_
  exact k_iretX C hX hr hlocks hQ (by omega) (by omega) ⟨rfl, hp⟩ dL_image_17
theorem hdL_nodes_X8_nodes : yX8_nodes.cls ≠ "java/lang/invoke/MethodHandle" ∧ yX8_nodes.cls ≠ "java/lang/invoke/VarHandle" ∧ (parseMethodDescriptor yX8_nodes.desc).map (fun d => d.parameters.length) = some 1 := by decide +kernel
theorem lk_L_nodes_a : Cond.classLink RL 34 "java/lang/IllegalArgumentException" ∈ wsL_nodes := by decide +kernel
theorem in_L_nodes_a : Cond.instantiable "java/lang/IllegalArgumentException" 6 ∈ wsL_nodes := by decide +kernel
theorem kL_nodes_g (l : Launch) (G : kG) (B0 : Nat) (f : kH) (h po : Nat) (x1 : Int32) {vs : List Value} (hh : f h = some (.inr (8, vs))) {rm : Room} {mc ms : Nat} (hrc : rm.cells = mc) (hrs : rm.slots = ms) {Φ : Int32 → kH → Prop} (hc : Met l yX8_nodes wsX8_nodes rm (kP G B0 f [.ref h, .int x1]) (kQi G B0 Φ) mc ms (kAb B0)) (ho : ∀ r f1, Φ r f1 → ∃ g, f1 po = some (kaJ G 1 g)) : vx_Met l yL_nodes wsL_nodes (rmL rm) (kP G B0 f [.ref h, .int x1, .ref po]) (kQi G B0 (fun r f2 => r = nI 0 ∧ ∃ r0 f1 g, Φ r0 f1 ∧ f1 po = some (kaJ G 1 g) ∧ f2 = kst f1 po (kaJ G 1 (vp_updL g 0 r0.toInt64)))) (kXN G B0) mc ms (kAb B0) := by
  refine kMetH (cc := cL_nodes) (maxL := 4) (ret := (some .int)) (hh := [(0, 9, 12, 34)]) (by decide) rfl (Nat.le_of_ble_eq_true rfl) ?_
  intro p e s m args below meth c H locs Q ls C hX hl hr hlocks hQ htab
  have hl : lv_has ls 4 [(0, .ref h), (1, .int x1), (2, .ref po)] := hl
  refine lv_aload_n C.x C.b dL_nodes_0 rfl (lv_at hl 2 rfl) ?_
  refine lv_iconst (v := nI 0) C.x C.b dL_nodes_1 (by decide) ?_
  refine lv_aload_n C.x C.b dL_nodes_2 rfl (lv_at hl 0 rfl) ?_
  refine lv_iload_n C.x C.b dL_nodes_3 rfl (lv_at hl 1 rfl) ?_
  refine k_calli (va_runV (As := [.int x1]) (rest := [.int (nI 0), .ref po]) C.1 hc (cwV 1 C.ts gL_nodes_X8_nodes rfl hrc hrs ⟨rfl, hdL_nodes_X8_nodes⟩ ⟨Nat.le_refl _, by show 8 + (_ + 11) + rm.locals ≤ rm.locals + 40; omega⟩) (k_preV C hX hh rfl) rfl rfl hl.1 rfl (lv_room (Nat.le_of_ble_eq_true rfl)) dL_nodes_4 ⟨by show 0 + mc ≤ rm.cells; omega, by show 0 + ms ≤ rm.slots; omega⟩) hX (fun r0 f1 H locs hp hX => ?_)
  obtain ⟨g, hg⟩ := ho r0 f1 hp
  refine lv_i2l (v := r0.toInt64) C.x C.b dL_nodes_7 rfl ?_
  refine k_last C hX hg vp_in01 dL_nodes_8 (fun H locs hX => ?_)
  refine lv_goto (tgt := 15) C.x C.b dL_nodes_9 (by decide) ?_
  refine lv_iconst (v := nI 0) C.x C.b dL_nodes_15 (by decide) ?_
  exact k_iretX C hX hr hlocks hQ (by omega) (by omega) ⟨rfl, r0, f1, g, hp, hg, rfl⟩ dL_nodes_16
theorem kL_nodes_a (l : Launch) (G : kG) (B0 : Nat) (f : kH) (h po : Nat) (x1 : Int32) {vs : List Value} (hh : f h = some (.inr (8, vs))) {rm : Room} {mc ms : Nat} (hrc : rm.cells = mc) (hrs : rm.slots = ms) {post : kH → Prop} (hc : vx_Met l yX8_nodes wsX8_nodes rm (kP G B0 f [.ref h, .int x1]) kNo (kXC G B0 "java/lang/IllegalArgumentException" post) mc ms (kAb B0)) : vx_Met l yL_nodes wsL_nodes (rmL rm) (kP G B0 f [.ref h, .int x1, .ref po]) (kQi G B0 (fun r f2 => r = nI 1 ∧ post f2)) (kXN G B0) mc ms (kAb B0) := by
  refine kMetH (cc := cL_nodes) (maxL := 4) (ret := (some .int)) (hh := [(0, 9, 12, 34)]) (by decide) rfl (Nat.le_of_ble_eq_true rfl) ?_
  intro p e s m args below meth c H locs Q ls C hX hl hr hlocks hQ htab
  have hl : lv_has ls 4 [(0, .ref h), (1, .int x1), (2, .ref po)] := hl
  refine lv_aload_n C.x C.b dL_nodes_0 rfl (lv_at hl 2 rfl) ?_
  refine lv_iconst (v := nI 0) C.x C.b dL_nodes_1 (by decide) ?_
  refine lv_aload_n C.x C.b dL_nodes_2 rfl (lv_at hl 0 rfl) ?_
  refine lv_iload_n C.x C.b dL_nodes_3 rfl (lv_at hl 1 rfl) ?_
  refine k_catX C (vx_runV (As := [.int x1]) (rest := [.int (nI 0), .ref po]) C.1 hc (cwV 1 C.ts gL_nodes_X8_nodes rfl hrc hrs ⟨rfl, hdL_nodes_X8_nodes⟩ ⟨Nat.le_refl _, by show 8 + (_ + 11) + rm.locals ≤ rm.locals + 40; omega⟩) (k_preV C hX hh rfl) rfl rfl hl.1 rfl (lv_room (Nat.le_of_ble_eq_true rfl)) dL_nodes_4 ⟨by show 0 + mc ≤ rm.cells; omega, by show 0 + ms ≤ rm.slots; omega⟩) hX [] (0, 9, 12, 34) [] htab (fun z hz => by simp at hz) (by decide) (by decide) lk_L_nodes_a in_L_nodes_a (fun q f1 H locs hp hX => ?_)
  refine lv_astore_n (lv' := [(3, .ref q), (0, .ref h), (1, .int x1), (2, .ref po)]) C.x C.b dL_nodes_12 rfl hl (by decide) rfl (fun ls hl => ?_)
  refine lv_iconst (v := nI 1) C.x C.b dL_nodes_13 (by decide) ?_
  exact k_iretX C hX hr hlocks hQ (by omega) (by omega) ⟨rfl, hp⟩ dL_nodes_14
theorem hdL_wire_X8_wire : yX8_wire.cls ≠ "java/lang/invoke/MethodHandle" ∧ yX8_wire.cls ≠ "java/lang/invoke/VarHandle" ∧ (parseMethodDescriptor yX8_wire.desc).map (fun d => d.parameters.length) = some 2 := by decide +kernel
theorem lk_L_wire_o : Cond.classLink RL 13 "java/lang/IndexOutOfBoundsException" ∈ wsL_wire := by decide +kernel
theorem in_L_wire_o : Cond.instantiable "java/lang/IndexOutOfBoundsException" 6 ∈ wsL_wire := by decide +kernel
theorem lk_L_wire_a : Cond.classLink RL 34 "java/lang/IllegalArgumentException" ∈ wsL_wire := by decide +kernel
theorem in_L_wire_a : Cond.instantiable "java/lang/IllegalArgumentException" 6 ∈ wsL_wire := by decide +kernel
theorem lk_L_wire_s : Cond.classLink RL 15 "java/lang/IllegalStateException" ∈ wsL_wire := by decide +kernel
theorem in_L_wire_s : Cond.instantiable "java/lang/IllegalStateException" 6 ∈ wsL_wire := by decide +kernel
theorem kL_wire_g (l : Launch) (G : kG) (B0 : Nat) (f : kH) (h po : Nat) (x1 x2 : Int32) {vs : List Value} (hh : f h = some (.inr (8, vs))) {rm : Room} {mc ms : Nat} (hrc : rm.cells = mc) (hrs : rm.slots = ms) {Φ : Int32 → kH → Prop} (hc : Met l yX8_wire wsX8_wire rm (kP G B0 f [.ref h, .int x1, .int x2]) (kQi G B0 Φ) mc ms (kAb B0)) (ho : ∀ r f1, Φ r f1 → ∃ g, f1 po = some (kaJ G 1 g)) : vx_Met l yL_wire wsL_wire (rmL rm) (kP G B0 f [.ref h, .int x1, .int x2, .ref po]) (kQi G B0 (fun r f2 => r = nI 0 ∧ ∃ r0 f1 g, Φ r0 f1 ∧ f1 po = some (kaJ G 1 g) ∧ f2 = kst f1 po (kaJ G 1 (vp_updL g 0 r0.toInt64)))) (kXN G B0) mc ms (kAb B0) := by
  refine kMetH (cc := cL_wire) (maxL := 5) (ret := (some .int)) (hh := [(0, 10, 13, 13), (0, 10, 17, 34), (0, 10, 21, 15)]) (by decide) rfl (Nat.le_of_ble_eq_true rfl) ?_
  intro p e s m args below meth c H locs Q ls C hX hl hr hlocks hQ htab
  have hl : lv_has ls 5 [(0, .ref h), (1, .int x1), (2, .int x2), (3, .ref po)] := hl
  refine lv_aload_n C.x C.b dL_wire_0 rfl (lv_at hl 3 rfl) ?_
  refine lv_iconst (v := nI 0) C.x C.b dL_wire_1 (by decide) ?_
  refine lv_aload_n C.x C.b dL_wire_2 rfl (lv_at hl 0 rfl) ?_
  refine lv_iload_n C.x C.b dL_wire_3 rfl (lv_at hl 1 rfl) ?_
  refine lv_iload_n C.x C.b dL_wire_4 rfl (lv_at hl 2 rfl) ?_
  refine k_calli (va_runV (As := [.int x1, .int x2]) (rest := [.int (nI 0), .ref po]) C.1 hc (cwV 2 C.ts gL_wire_X8_wire rfl hrc hrs ⟨rfl, hdL_wire_X8_wire⟩ ⟨Nat.le_refl _, by show 8 + (_ + 11) + rm.locals ≤ rm.locals + 40; omega⟩) (k_preV C hX hh rfl) rfl rfl hl.1 rfl (lv_room (Nat.le_of_ble_eq_true rfl)) dL_wire_5 ⟨by show 0 + mc ≤ rm.cells; omega, by show 0 + ms ≤ rm.slots; omega⟩) hX (fun r0 f1 H locs hp hX => ?_)
  obtain ⟨g, hg⟩ := ho r0 f1 hp
  refine lv_i2l (v := r0.toInt64) C.x C.b dL_wire_8 rfl ?_
  refine k_last C hX hg vp_in01 dL_wire_9 (fun H locs hX => ?_)
  refine lv_goto (tgt := 25) C.x C.b dL_wire_10 (by decide) ?_
  refine lv_iconst (v := nI 0) C.x C.b dL_wire_25 (by decide) ?_
  exact k_iretX C hX hr hlocks hQ (by omega) (by omega) ⟨rfl, r0, f1, g, hp, hg, rfl⟩ dL_wire_26
theorem kL_wire_o (l : Launch) (G : kG) (B0 : Nat) (f : kH) (h po : Nat) (x1 x2 : Int32) {vs : List Value} (hh : f h = some (.inr (8, vs))) {rm : Room} {mc ms : Nat} (hrc : rm.cells = mc) (hrs : rm.slots = ms) {post : kH → Prop} (hc : vx_Met l yX8_wire wsX8_wire rm (kP G B0 f [.ref h, .int x1, .int x2]) kNo (kXC G B0 "java/lang/IndexOutOfBoundsException" post) mc ms (kAb B0)) : vx_Met l yL_wire wsL_wire (rmL rm) (kP G B0 f [.ref h, .int x1, .int x2, .ref po]) (kQi G B0 (fun r f2 => r = nI 1 ∧ post f2)) (kXN G B0) mc ms (kAb B0) := by
  refine kMetH (cc := cL_wire) (maxL := 5) (ret := (some .int)) (hh := [(0, 10, 13, 13), (0, 10, 17, 34), (0, 10, 21, 15)]) (by decide) rfl (Nat.le_of_ble_eq_true rfl) ?_
  intro p e s m args below meth c H locs Q ls C hX hl hr hlocks hQ htab
  have hl : lv_has ls 5 [(0, .ref h), (1, .int x1), (2, .int x2), (3, .ref po)] := hl
  refine lv_aload_n C.x C.b dL_wire_0 rfl (lv_at hl 3 rfl) ?_
  refine lv_iconst (v := nI 0) C.x C.b dL_wire_1 (by decide) ?_
  refine lv_aload_n C.x C.b dL_wire_2 rfl (lv_at hl 0 rfl) ?_
  refine lv_iload_n C.x C.b dL_wire_3 rfl (lv_at hl 1 rfl) ?_
  refine lv_iload_n C.x C.b dL_wire_4 rfl (lv_at hl 2 rfl) ?_
  refine k_catX C (vx_runV (As := [.int x1, .int x2]) (rest := [.int (nI 0), .ref po]) C.1 hc (cwV 2 C.ts gL_wire_X8_wire rfl hrc hrs ⟨rfl, hdL_wire_X8_wire⟩ ⟨Nat.le_refl _, by show 8 + (_ + 11) + rm.locals ≤ rm.locals + 40; omega⟩) (k_preV C hX hh rfl) rfl rfl hl.1 rfl (lv_room (Nat.le_of_ble_eq_true rfl)) dL_wire_5 ⟨by show 0 + mc ≤ rm.cells; omega, by show 0 + ms ≤ rm.slots; omega⟩) hX [] (0, 10, 13, 13) [(0, 10, 17, 34), (0, 10, 21, 15)] htab (fun z hz => by simp at hz) (by decide) (by decide) lk_L_wire_o in_L_wire_o (fun q f1 H locs hp hX => ?_)
  refine lv_astore (lv' := [(4, .ref q), (0, .ref h), (1, .int x1), (2, .int x2), (3, .ref po)]) C.x C.b dL_wire_13 hl (by decide) rfl (fun ls hl => ?_)
  refine lv_iconst (v := nI 1) C.x C.b dL_wire_15 (by decide) ?_
  exact k_iretX C hX hr hlocks hQ (by omega) (by omega) ⟨rfl, hp⟩ dL_wire_16
theorem kL_wire_a (l : Launch) (G : kG) (B0 : Nat) (f : kH) (h po : Nat) (x1 x2 : Int32) {vs : List Value} (hh : f h = some (.inr (8, vs))) {rm : Room} {mc ms : Nat} (hrc : rm.cells = mc) (hrs : rm.slots = ms) {post : kH → Prop} (hc : vx_Met l yX8_wire wsX8_wire rm (kP G B0 f [.ref h, .int x1, .int x2]) kNo (kXC G B0 "java/lang/IllegalArgumentException" post) mc ms (kAb B0)) : vx_Met l yL_wire wsL_wire (rmL rm) (kP G B0 f [.ref h, .int x1, .int x2, .ref po]) (kQi G B0 (fun r f2 => r = nI 2 ∧ post f2)) (kXN G B0) mc ms (kAb B0) := by
  refine kMetH (cc := cL_wire) (maxL := 5) (ret := (some .int)) (hh := [(0, 10, 13, 13), (0, 10, 17, 34), (0, 10, 21, 15)]) (by decide) rfl (Nat.le_of_ble_eq_true rfl) ?_
  intro p e s m args below meth c H locs Q ls C hX hl hr hlocks hQ htab
  have hl : lv_has ls 5 [(0, .ref h), (1, .int x1), (2, .int x2), (3, .ref po)] := hl
  refine lv_aload_n C.x C.b dL_wire_0 rfl (lv_at hl 3 rfl) ?_
  refine lv_iconst (v := nI 0) C.x C.b dL_wire_1 (by decide) ?_
  refine lv_aload_n C.x C.b dL_wire_2 rfl (lv_at hl 0 rfl) ?_
  refine lv_iload_n C.x C.b dL_wire_3 rfl (lv_at hl 1 rfl) ?_
  refine lv_iload_n C.x C.b dL_wire_4 rfl (lv_at hl 2 rfl) ?_
  refine k_catX C (vx_runV (As := [.int x1, .int x2]) (rest := [.int (nI 0), .ref po]) C.1 hc (cwV 2 C.ts gL_wire_X8_wire rfl hrc hrs ⟨rfl, hdL_wire_X8_wire⟩ ⟨Nat.le_refl _, by show 8 + (_ + 11) + rm.locals ≤ rm.locals + 40; omega⟩) (k_preV C hX hh rfl) rfl rfl hl.1 rfl (lv_room (Nat.le_of_ble_eq_true rfl)) dL_wire_5 ⟨by show 0 + mc ≤ rm.cells; omega, by show 0 + ms ≤ rm.slots; omega⟩) hX [(0, 10, 13, 13)] (0, 10, 17, 34) [(0, 10, 21, 15)] htab (fun z hz => by
    simp only [List.mem_cons, List.not_mem_nil, or_false] at hz
    subst hz
    exact ⟨by decide, "java/lang/IndexOutOfBoundsException", lk_L_wire_o, by decide +kernel⟩) (by decide) (by decide) lk_L_wire_a in_L_wire_a (fun q f1 H locs hp hX => ?_)
  refine lv_astore (lv' := [(4, .ref q), (0, .ref h), (1, .int x1), (2, .int x2), (3, .ref po)]) C.x C.b dL_wire_17 hl (by decide) rfl (fun ls hl => ?_)
  refine lv_iconst (v := nI 2) C.x C.b dL_wire_19 (by decide) ?_
  exact k_iretX C hX hr hlocks hQ (by omega) (by omega) ⟨rfl, hp⟩ dL_wire_20
theorem kL_wire_s (l : Launch) (G : kG) (B0 : Nat) (f : kH) (h po : Nat) (x1 x2 : Int32) {vs : List Value} (hh : f h = some (.inr (8, vs))) {rm : Room} {mc ms : Nat} (hrc : rm.cells = mc) (hrs : rm.slots = ms) {post : kH → Prop} (hc : vx_Met l yX8_wire wsX8_wire rm (kP G B0 f [.ref h, .int x1, .int x2]) kNo (kXC G B0 "java/lang/IllegalStateException" post) mc ms (kAb B0)) : vx_Met l yL_wire wsL_wire (rmL rm) (kP G B0 f [.ref h, .int x1, .int x2, .ref po]) (kQi G B0 (fun r f2 => r = nI 3 ∧ post f2)) (kXN G B0) mc ms (kAb B0) := by
  refine kMetH (cc := cL_wire) (maxL := 5) (ret := (some .int)) (hh := [(0, 10, 13, 13), (0, 10, 17, 34), (0, 10, 21, 15)]) (by decide) rfl (Nat.le_of_ble_eq_true rfl) ?_
  intro p e s m args below meth c H locs Q ls C hX hl hr hlocks hQ htab
  have hl : lv_has ls 5 [(0, .ref h), (1, .int x1), (2, .int x2), (3, .ref po)] := hl
  refine lv_aload_n C.x C.b dL_wire_0 rfl (lv_at hl 3 rfl) ?_
  refine lv_iconst (v := nI 0) C.x C.b dL_wire_1 (by decide) ?_
  refine lv_aload_n C.x C.b dL_wire_2 rfl (lv_at hl 0 rfl) ?_
  refine lv_iload_n C.x C.b dL_wire_3 rfl (lv_at hl 1 rfl) ?_
  refine lv_iload_n C.x C.b dL_wire_4 rfl (lv_at hl 2 rfl) ?_
  refine k_catX C (vx_runV (As := [.int x1, .int x2]) (rest := [.int (nI 0), .ref po]) C.1 hc (cwV 2 C.ts gL_wire_X8_wire rfl hrc hrs ⟨rfl, hdL_wire_X8_wire⟩ ⟨Nat.le_refl _, by show 8 + (_ + 11) + rm.locals ≤ rm.locals + 40; omega⟩) (k_preV C hX hh rfl) rfl rfl hl.1 rfl (lv_room (Nat.le_of_ble_eq_true rfl)) dL_wire_5 ⟨by show 0 + mc ≤ rm.cells; omega, by show 0 + ms ≤ rm.slots; omega⟩) hX [(0, 10, 13, 13), (0, 10, 17, 34)] (0, 10, 21, 15) [] htab (fun z hz => by
    simp only [List.mem_cons, List.not_mem_nil, or_false] at hz
    rcases hz with rfl | rfl
    · exact ⟨by decide, "java/lang/IndexOutOfBoundsException", lk_L_wire_o, by decide +kernel⟩
    · exact ⟨by decide, "java/lang/IllegalArgumentException", lk_L_wire_a, by decide +kernel⟩) (by decide) (by decide) lk_L_wire_s in_L_wire_s (fun q f1 H locs hp hX => ?_)
  refine lv_astore (lv' := [(4, .ref q), (0, .ref h), (1, .int x1), (2, .int x2), (3, .ref po)]) C.x C.b dL_wire_21 hl (by decide) rfl (fun ls hl => ?_)
  refine lv_iconst (v := nI 3) C.x C.b dL_wire_23 (by decide) ?_
  exact k_iretX C hX hr hlocks hQ (by omega) (by omega) ⟨rfl, hp⟩ dL_wire_24
theorem hdL_side_X8_side : yX8_side.cls ≠ "java/lang/invoke/MethodHandle" ∧ yX8_side.cls ≠ "java/lang/invoke/VarHandle" ∧ (parseMethodDescriptor yX8_side.desc).map (fun d => d.parameters.length) = some 3 := by decide +kernel
theorem lk_L_side_o : Cond.classLink RL 13 "java/lang/IndexOutOfBoundsException" ∈ wsL_side := by decide +kernel
theorem in_L_side_o : Cond.instantiable "java/lang/IndexOutOfBoundsException" 6 ∈ wsL_side := by decide +kernel
theorem lk_L_side_a : Cond.classLink RL 34 "java/lang/IllegalArgumentException" ∈ wsL_side := by decide +kernel
theorem in_L_side_a : Cond.instantiable "java/lang/IllegalArgumentException" 6 ∈ wsL_side := by decide +kernel
theorem lk_L_side_s : Cond.classLink RL 15 "java/lang/IllegalStateException" ∈ wsL_side := by decide +kernel
theorem in_L_side_s : Cond.instantiable "java/lang/IllegalStateException" 6 ∈ wsL_side := by decide +kernel
theorem kL_side_g (l : Launch) (G : kG) (B0 : Nat) (f : kH) (h po : Nat) (x1 x2 x3 : Int32) {vs : List Value} (hh : f h = some (.inr (8, vs))) {rm : Room} {mc ms : Nat} (hrc : rm.cells = mc) (hrs : rm.slots = ms) {Φ : Int32 → kH → Prop} (hc : Met l yX8_side wsX8_side rm (kP G B0 f [.ref h, .int x1, .int x2, .int x3]) (kQi G B0 Φ) mc ms (kAb B0)) (ho : ∀ r f1, Φ r f1 → ∃ g, f1 po = some (kaJ G 1 g)) : vx_Met l yL_side wsL_side (rmL rm) (kP G B0 f [.ref h, .int x1, .int x2, .int x3, .ref po]) (kQi G B0 (fun r f2 => r = nI 0 ∧ ∃ r0 f1 g, Φ r0 f1 ∧ f1 po = some (kaJ G 1 g) ∧ f2 = kst f1 po (kaJ G 1 (vp_updL g 0 r0.toInt64)))) (kXN G B0) mc ms (kAb B0) := by
  refine kMetH (cc := cL_side) (maxL := 6) (ret := (some .int)) (hh := [(0, 12, 15, 13), (0, 12, 19, 34), (0, 12, 23, 15)]) (by decide) rfl (Nat.le_of_ble_eq_true rfl) ?_
  intro p e s m args below meth c H locs Q ls C hX hl hr hlocks hQ htab
  have hl : lv_has ls 6 [(0, .ref h), (1, .int x1), (2, .int x2), (3, .int x3), (4, .ref po)] := hl
  refine lv_aload C.x C.b dL_side_0 (lv_at hl 4 rfl) ?_
  refine lv_iconst (v := nI 0) C.x C.b dL_side_2 (by decide) ?_
  refine lv_aload_n C.x C.b dL_side_3 rfl (lv_at hl 0 rfl) ?_
  refine lv_iload_n C.x C.b dL_side_4 rfl (lv_at hl 1 rfl) ?_
  refine lv_iload_n C.x C.b dL_side_5 rfl (lv_at hl 2 rfl) ?_
  refine lv_iload_n C.x C.b dL_side_6 rfl (lv_at hl 3 rfl) ?_
  refine k_calli (va_runV (As := [.int x1, .int x2, .int x3]) (rest := [.int (nI 0), .ref po]) C.1 hc (cwV 3 C.ts gL_side_X8_side rfl hrc hrs ⟨rfl, hdL_side_X8_side⟩ ⟨Nat.le_refl _, by show 8 + (_ + 11) + rm.locals ≤ rm.locals + 40; omega⟩) (k_preV C hX hh rfl) rfl rfl hl.1 rfl (lv_room (Nat.le_of_ble_eq_true rfl)) dL_side_7 ⟨by show 0 + mc ≤ rm.cells; omega, by show 0 + ms ≤ rm.slots; omega⟩) hX (fun r0 f1 H locs hp hX => ?_)
  obtain ⟨g, hg⟩ := ho r0 f1 hp
  refine lv_i2l (v := r0.toInt64) C.x C.b dL_side_10 rfl ?_
  refine k_last C hX hg vp_in01 dL_side_11 (fun H locs hX => ?_)
  refine lv_goto (tgt := 27) C.x C.b dL_side_12 (by decide) ?_
  refine lv_iconst (v := nI 0) C.x C.b dL_side_27 (by decide) ?_
  exact k_iretX C hX hr hlocks hQ (by omega) (by omega) ⟨rfl, r0, f1, g, hp, hg, rfl⟩ dL_side_28
theorem kL_side_o (l : Launch) (G : kG) (B0 : Nat) (f : kH) (h po : Nat) (x1 x2 x3 : Int32) {vs : List Value} (hh : f h = some (.inr (8, vs))) {rm : Room} {mc ms : Nat} (hrc : rm.cells = mc) (hrs : rm.slots = ms) {post : kH → Prop} (hc : vx_Met l yX8_side wsX8_side rm (kP G B0 f [.ref h, .int x1, .int x2, .int x3]) kNo (kXC G B0 "java/lang/IndexOutOfBoundsException" post) mc ms (kAb B0)) : vx_Met l yL_side wsL_side (rmL rm) (kP G B0 f [.ref h, .int x1, .int x2, .int x3, .ref po]) (kQi G B0 (fun r f2 => r = nI 1 ∧ post f2)) (kXN G B0) mc ms (kAb B0) := by
  refine kMetH (cc := cL_side) (maxL := 6) (ret := (some .int)) (hh := [(0, 12, 15, 13), (0, 12, 19, 34), (0, 12, 23, 15)]) (by decide) rfl (Nat.le_of_ble_eq_true rfl) ?_
  intro p e s m args below meth c H locs Q ls C hX hl hr hlocks hQ htab
  have hl : lv_has ls 6 [(0, .ref h), (1, .int x1), (2, .int x2), (3, .int x3), (4, .ref po)] := hl
  refine lv_aload C.x C.b dL_side_0 (lv_at hl 4 rfl) ?_
  refine lv_iconst (v := nI 0) C.x C.b dL_side_2 (by decide) ?_
  refine lv_aload_n C.x C.b dL_side_3 rfl (lv_at hl 0 rfl) ?_
  refine lv_iload_n C.x C.b dL_side_4 rfl (lv_at hl 1 rfl) ?_
  refine lv_iload_n C.x C.b dL_side_5 rfl (lv_at hl 2 rfl) ?_
  refine lv_iload_n C.x C.b dL_side_6 rfl (lv_at hl 3 rfl) ?_
  refine k_catX C (vx_runV (As := [.int x1, .int x2, .int x3]) (rest := [.int (nI 0), .ref po]) C.1 hc (cwV 3 C.ts gL_side_X8_side rfl hrc hrs ⟨rfl, hdL_side_X8_side⟩ ⟨Nat.le_refl _, by show 8 + (_ + 11) + rm.locals ≤ rm.locals + 40; omega⟩) (k_preV C hX hh rfl) rfl rfl hl.1 rfl (lv_room (Nat.le_of_ble_eq_true rfl)) dL_side_7 ⟨by show 0 + mc ≤ rm.cells; omega, by show 0 + ms ≤ rm.slots; omega⟩) hX [] (0, 12, 15, 13) [(0, 12, 19, 34), (0, 12, 23, 15)] htab (fun z hz => by simp at hz) (by decide) (by decide) lk_L_side_o in_L_side_o (fun q f1 H locs hp hX => ?_)
  refine lv_astore (lv' := [(5, .ref q), (0, .ref h), (1, .int x1), (2, .int x2), (3, .int x3), (4, .ref po)]) C.x C.b dL_side_15 hl (by decide) rfl (fun ls hl => ?_)
  refine lv_iconst (v := nI 1) C.x C.b dL_side_17 (by decide) ?_
  exact k_iretX C hX hr hlocks hQ (by omega) (by omega) ⟨rfl, hp⟩ dL_side_18
theorem kL_side_a (l : Launch) (G : kG) (B0 : Nat) (f : kH) (h po : Nat) (x1 x2 x3 : Int32) {vs : List Value} (hh : f h = some (.inr (8, vs))) {rm : Room} {mc ms : Nat} (hrc : rm.cells = mc) (hrs : rm.slots = ms) {post : kH → Prop} (hc : vx_Met l yX8_side wsX8_side rm (kP G B0 f [.ref h, .int x1, .int x2, .int x3]) kNo (kXC G B0 "java/lang/IllegalArgumentException" post) mc ms (kAb B0)) : vx_Met l yL_side wsL_side (rmL rm) (kP G B0 f [.ref h, .int x1, .int x2, .int x3, .ref po]) (kQi G B0 (fun r f2 => r = nI 2 ∧ post f2)) (kXN G B0) mc ms (kAb B0) := by
  refine kMetH (cc := cL_side) (maxL := 6) (ret := (some .int)) (hh := [(0, 12, 15, 13), (0, 12, 19, 34), (0, 12, 23, 15)]) (by decide) rfl (Nat.le_of_ble_eq_true rfl) ?_
  intro p e s m args below meth c H locs Q ls C hX hl hr hlocks hQ htab
  have hl : lv_has ls 6 [(0, .ref h), (1, .int x1), (2, .int x2), (3, .int x3), (4, .ref po)] := hl
  refine lv_aload C.x C.b dL_side_0 (lv_at hl 4 rfl) ?_
  refine lv_iconst (v := nI 0) C.x C.b dL_side_2 (by decide) ?_
  refine lv_aload_n C.x C.b dL_side_3 rfl (lv_at hl 0 rfl) ?_
  refine lv_iload_n C.x C.b dL_side_4 rfl (lv_at hl 1 rfl) ?_
  refine lv_iload_n C.x C.b dL_side_5 rfl (lv_at hl 2 rfl) ?_
  refine lv_iload_n C.x C.b dL_side_6 rfl (lv_at hl 3 rfl) ?_
  refine k_catX C (vx_runV (As := [.int x1, .int x2, .int x3]) (rest := [.int (nI 0), .ref po]) C.1 hc (cwV 3 C.ts gL_side_X8_side rfl hrc hrs ⟨rfl, hdL_side_X8_side⟩ ⟨Nat.le_refl _, by show 8 + (_ + 11) + rm.locals ≤ rm.locals + 40; omega⟩) (k_preV C hX hh rfl) rfl rfl hl.1 rfl (lv_room (Nat.le_of_ble_eq_true rfl)) dL_side_7 ⟨by show 0 + mc ≤ rm.cells; omega, by show 0 + ms ≤ rm.slots; omega⟩) hX [(0, 12, 15, 13)] (0, 12, 19, 34) [(0, 12, 23, 15)] htab (fun z hz => by
    simp only [List.mem_cons, List.not_mem_nil, or_false] at hz
    subst hz
    exact ⟨by decide, "java/lang/IndexOutOfBoundsException", lk_L_side_o, by decide +kernel⟩) (by decide) (by decide) lk_L_side_a in_L_side_a (fun q f1 H locs hp hX => ?_)
  refine lv_astore (lv' := [(5, .ref q), (0, .ref h), (1, .int x1), (2, .int x2), (3, .int x3), (4, .ref po)]) C.x C.b dL_side_19 hl (by decide) rfl (fun ls hl => ?_)
  refine lv_iconst (v := nI 2) C.x C.b dL_side_21 (by decide) ?_
  exact k_iretX C hX hr hlocks hQ (by omega) (by omega) ⟨rfl, hp⟩ dL_side_22
theorem kL_side_s (l : Launch) (G : kG) (B0 : Nat) (f : kH) (h po : Nat) (x1 x2 x3 : Int32) {vs : List Value} (hh : f h = some (.inr (8, vs))) {rm : Room} {mc ms : Nat} (hrc : rm.cells = mc) (hrs : rm.slots = ms) {post : kH → Prop} (hc : vx_Met l yX8_side wsX8_side rm (kP G B0 f [.ref h, .int x1, .int x2, .int x3]) kNo (kXC G B0 "java/lang/IllegalStateException" post) mc ms (kAb B0)) : vx_Met l yL_side wsL_side (rmL rm) (kP G B0 f [.ref h, .int x1, .int x2, .int x3, .ref po]) (kQi G B0 (fun r f2 => r = nI 3 ∧ post f2)) (kXN G B0) mc ms (kAb B0) := by
  refine kMetH (cc := cL_side) (maxL := 6) (ret := (some .int)) (hh := [(0, 12, 15, 13), (0, 12, 19, 34), (0, 12, 23, 15)]) (by decide) rfl (Nat.le_of_ble_eq_true rfl) ?_
  intro p e s m args below meth c H locs Q ls C hX hl hr hlocks hQ htab
  have hl : lv_has ls 6 [(0, .ref h), (1, .int x1), (2, .int x2), (3, .int x3), (4, .ref po)] := hl
  refine lv_aload C.x C.b dL_side_0 (lv_at hl 4 rfl) ?_
  refine lv_iconst (v := nI 0) C.x C.b dL_side_2 (by decide) ?_
  refine lv_aload_n C.x C.b dL_side_3 rfl (lv_at hl 0 rfl) ?_
  refine lv_iload_n C.x C.b dL_side_4 rfl (lv_at hl 1 rfl) ?_
  refine lv_iload_n C.x C.b dL_side_5 rfl (lv_at hl 2 rfl) ?_
  refine lv_iload_n C.x C.b dL_side_6 rfl (lv_at hl 3 rfl) ?_
  refine k_catX C (vx_runV (As := [.int x1, .int x2, .int x3]) (rest := [.int (nI 0), .ref po]) C.1 hc (cwV 3 C.ts gL_side_X8_side rfl hrc hrs ⟨rfl, hdL_side_X8_side⟩ ⟨Nat.le_refl _, by show 8 + (_ + 11) + rm.locals ≤ rm.locals + 40; omega⟩) (k_preV C hX hh rfl) rfl rfl hl.1 rfl (lv_room (Nat.le_of_ble_eq_true rfl)) dL_side_7 ⟨by show 0 + mc ≤ rm.cells; omega, by show 0 + ms ≤ rm.slots; omega⟩) hX [(0, 12, 15, 13), (0, 12, 19, 34)] (0, 12, 23, 15) [] htab (fun z hz => by
    simp only [List.mem_cons, List.not_mem_nil, or_false] at hz
    rcases hz with rfl | rfl
    · exact ⟨by decide, "java/lang/IndexOutOfBoundsException", lk_L_side_o, by decide +kernel⟩
    · exact ⟨by decide, "java/lang/IllegalArgumentException", lk_L_side_a, by decide +kernel⟩) (by decide) (by decide) lk_L_side_s in_L_side_s (fun q f1 H locs hp hX => ?_)
  refine lv_astore (lv' := [(5, .ref q), (0, .ref h), (1, .int x1), (2, .int x2), (3, .int x3), (4, .ref po)]) C.x C.b dL_side_23 hl (by decide) rfl (fun ls hl => ?_)
  refine lv_iconst (v := nI 3) C.x C.b dL_side_25 (by decide) ?_
  exact k_iretX C hX hr hlocks hQ (by omega) (by omega) ⟨rfl, hp⟩ dL_side_26
