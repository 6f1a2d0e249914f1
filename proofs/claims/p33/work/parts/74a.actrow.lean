/-! the law's act: what a call answers that may refuse -/
/-- a contract of what catches, out of a walk -/
theorem kMetH {l : Launch} {y : MethodName} {ws ws' : List Cond} {rm : Room} {G : kG} {B0 : Nat} {f : kH} {av : List Value} {Qc : Array Value → State → Outcome → State → Prop} {XC : String → State → State → Prop} {mc ms : Nat} {cc : ByteArray} {maxL : Nat} {ret : Option FieldType} {hh : List (Nat × Nat × Nat × Nat)} (hy : plainName y.cls = true) (hw : ws = Cond.codeWith y cc maxL ret hh :: ws') (hav : (lg_sl av).length ≤ maxL)
    (body : ∀ (p : Program) (e : Env) (s : State) (m : MethodId) (args : Array Value) (below : List Frame) (meth : Method) (c : Code) (H : Heap) (locs : List Loc) (Q : State → Prop) (ls : Array Slot), kC G B0 p m c cc maxL s args ws y.cls → kX G B0 s f H locs → lv_has ls maxL (lv_args 0 av) → meth.sig.returnType = ret → meth.locks = false → Q = vx_MQ below Qc XC args s mc ms (kAb B0) → c.exceptionTable.toList = tableOf hh →
      W p l e rm s m args below meth c H locs 0 0 Q (F0 m 0 ls [])) : vx_Met l y ws rm (kP G B0 f av) Qc XC mc ms (kAb B0) := by
  refine vx_ofWH (cc := cc) (maxL := maxL) (ret := ret) (hh := hh) hy hw ?_
  intro p e s m args below meth c s₁ B hml hv
  obtain ⟨rfl, hW, hT, hZ⟩ := hv
  have hl := lv_entry av (n := maxL) hav
  have hts := atoms_spec (ws := ws) B.pre
  have htab := vx_table (x := y) B (hts (Cond.codeWith y cc maxL ret hh) (by rw [hw]; exact List.mem_cons_self))
  rw [lg_entry_eq]
  exact body p e s m _ below meth c _ [] _ _ ⟨⟨B.exec, B.bytes, hml, findClass_of_methodNamed B.named, hts⟩, hT, hZ⟩ ⟨hW, va_S.rf⟩ hl B.returns B.notSynchronized rfl htab
abbrev kXN (G : kG) (B0 : Nat) : String → State → State → Prop := kXC G B0 "" (fun _ => False)
theorem vp_in01 : vp_in (nI 0) 1 := by unfold vp_in; decide
section KL
variable {p : Program} {l : Launch} {e : Env} {R : Room} {s : State} {m : MethodId} {args : Array Value} {below : List Frame} {meth : Method} {c : Code} {H : Heap} {locs : List Loc} {cells slots : Nat} {Q : State → Prop}
variable {cc : ByteArray} {pc : Nat} {ls : Array Slot} {rest st0 : List Value} {G : kG} {B0 nL : Nat} {f : kH} {Ts : List Cond} {own : String} {a : Nat} {mc ms mc1 ms1 : Nat} {XC : String → State → State → Prop}
theorem k_iretX {post : Int32 → kH → Prop} {v : Int32} (C : kC G B0 p m c cc nL s args Ts own) (hX : kX G B0 s f H locs) (hr : meth.sig.returnType = some .int) (hlocks : meth.locks = false) (hQ : Q = vx_MQ below (kQi G B0 post) XC args s mc ms (kAb B0)) (hc : cells ≤ mc) (hs : slots ≤ ms) (hp : post v f) (hdg : decode cc pc = .ok (.ireturn, 1)) : W p l e R s m args below meth c H locs cells slots Q (F0 m pc ls [.int v]) := by
  subst hQ
  exact vx_ret (k_iret C hX hr hlocks rfl hc hs hp hdg)
theorem k_catX {cls : String} {post : kH → Prop} (C : kC G B0 p m c cc nL s args Ts own) (hr : vx_Run p l e R s m args below meth c H locs cells slots mc ms (F0 m pc ls st0) rest (fun _ _ _ => False) (kXC G B0 cls post) (kAb B0)) (hX : kX G B0 s f H locs)
    (pre : List (Nat × Nat × Nat × Nat)) (x : Nat × Nat × Nat × Nat) (suf : List (Nat × Nat × Nat × Nat)) (htab : c.exceptionTable.toList = tableOf (pre ++ x :: suf))
    (hpass : ∀ z ∈ pre, z.2.2.2 ≠ 0 ∧ ∃ nm : String, Cond.classLink own z.2.2.2 nm ∈ Ts ∧ (cls, nm) ∈ kNcs) (hx : covers ⟨x.1, x.2.1, x.2.2.1, x.2.2.2⟩ pc = true) (h0 : x.2.2.2 ≠ 0) (hlink : Cond.classLink own x.2.2.2 cls ∈ Ts) (hins : Cond.instantiable cls 6 ∈ Ts)
    (kk : ∀ (q : Nat) (f1 : kH) (H1 : Heap) (locs1 : List Loc), post f1 → kX G B0 s f1 H1 locs1 → W p l e R s m args below meth c H1 locs1 (cells + mc) (slots + ms) Q (F0 m x.2.2.1 ls [.ref q])) : W p l e R s m args below meth c H locs cells slots Q (F0 m pc ls st0) := by
  intro T hT X
  rcases hr T hT X with ⟨v, st₀, t, T', L, h0, X', hL, e1, e2, hF, st⟩ | ⟨q, st₀, t, T', L, E, ce, h0', X', hL, e1, e2, ⟨u, hp, ⟨hE, hb⟩, hF⟩, hce, hcv, hcl, st⟩
  · exact hF.elim
  · obtain ⟨k1, k2, k3⟩ := vx_keep (A1 := kAb B0) (free := kAb B0) h0' e1 hX.2 (fun _ _ h => h) (fun _ h => h) hL hF
    subst hE
    obtain ⟨t2, a1, b1⟩ := vx_catch (p := p) (l := l) (e := e) (R := R) (H := T'.heap) (pc := pc) (ls := ls) (rest := rest) (Q := Q) (below := below) (args := args) (cells := cells + mc) (slots := slots + ms) C.ow (tableOf pre) ⟨x.1, x.2.1, x.2.2.1, x.2.2.2⟩ (tableOf suf) (by rw [htab]; simp [tableOf])
      (fun z hz => by
        obtain ⟨z9, hz9, rfl⟩ := List.mem_map.mp hz
        obtain ⟨n1, nm, n2, n3⟩ := hpass z9 hz9
        exact Or.inr ⟨n1, nm, C.ts _ n2, C.2.1.2.2.2.2.1 _ n3⟩)
      hx h0 (C.ts _ hlink) (k_selfcast (C.ts _ hins)) (by rw [e1]; exact hce) hcv hcl (kk q u T'.heap _ hp ⟨by rw [e1]; exact hb, k3⟩) T' rfl X'
    exact ⟨t2, st.trans a1, b1⟩
end KL
section KL2
variable {p : Program} {l : Launch} {e : Env} {R : Room} {s : State} {m : MethodId} {args : Array Value} {below : List Frame} {meth : Method} {c : Code} {H : Heap} {locs : List Loc} {cells slots : Nat} {Q : State → Prop}
variable {cc : ByteArray} {pc : Nat} {ls : Array Slot} {rest st0 : List Value} {G : kG} {B0 nL : Nat} {f : kH} {Ts : List Cond} {own : String} {mc ms : Nat} {XC : String → State → State → Prop}
theorem k_lretX {post : Int64 → kH → Prop} {v : Int64} (C : kC G B0 p m c cc nL s args Ts own) (hX : kX G B0 s f H locs) (hr : meth.sig.returnType = some .long) (hlocks : meth.locks = false) (hQ : Q = vx_MQ below (kQl G B0 post) XC args s mc ms (kAb B0)) (hc : cells ≤ mc) (hs : slots ≤ ms) (hp : post v f) (hdg : decode cc pc = .ok (.lreturn, 1)) : W p l e R s m args below meth c H locs cells slots Q (F0 m pc ls [.long v]) := by
  subst hQ
  exact vx_ret (k_lret C hX hr hlocks rfl hc hs hp hdg)
end KL2
theorem pNo.cs {l : Launch} {G : kG} {B0 h : Nat} {f : kH} {y : MethodName} {ws : List Cond} {av : List Value} {k : Nat} {m1 : pSt} (hn : pNo l G B0 h f y ws av k m1) :
    (k = 1 ∧ ∃ rm mc ms, p8 rm mc ms ∧ vx_Met l y ws rm (kP G B0 f (.ref h :: av)) kNo (kXC G B0 "java/lang/IndexOutOfBoundsException" (fun f1 => Inv G h f1 m1)) mc ms (kAb B0)) ∨
    (k = 2 ∧ ∃ rm mc ms, p8 rm mc ms ∧ vx_Met l y ws rm (kP G B0 f (.ref h :: av)) kNo (kXC G B0 "java/lang/IllegalArgumentException" (fun f1 => Inv G h f1 m1)) mc ms (kAb B0)) ∨
    (k = 3 ∧ ∃ rm mc ms, p8 rm mc ms ∧ vx_Met l y ws rm (kP G B0 f (.ref h :: av)) kNo (kXC G B0 "java/lang/IllegalStateException" (fun f1 => Inv G h f1 m1)) mc ms (kAb B0)) := by
  obtain ⟨h1, h3, hx⟩ := hn
  have hcs : k = 1 ∨ k = 2 ∨ k = 3 := by omega
  rcases hcs with rfl | rfl | rfl
  · exact .inl ⟨rfl, hx⟩
  · exact .inr (.inl ⟨rfl, hx⟩)
  · exact .inr (.inr ⟨rfl, hx⟩)
def rvI (R : pRI) : Int64 := if R.1 = 0 then R.2.1.toInt64 else if R.1 = 1 then -7000001 else if R.1 = 2 then -7000002 else -7000003
def rvJ (R : pRJ) : Int64 := if R.1 = 0 then R.2.1 else if R.1 = 1 then -7000001 else if R.1 = 2 then -7000002 else -7000003
theorem rvI_0 {R : pRI} (h : R.1 = 0) : rvI R = R.2.1.toInt64 := by rw [rvI, if_pos h]
theorem rvI_1 {R : pRI} (h : R.1 = 1) : rvI R = -7000001 := by rw [rvI, h]; rfl
theorem rvI_2 {R : pRI} (h : R.1 = 2) : rvI R = -7000002 := by rw [rvI, h]; rfl
theorem rvI_3 {R : pRI} (h : R.1 = 3) : rvI R = -7000003 := by rw [rvI, h]; rfl
theorem rvJ_0 {R : pRJ} (h : R.1 = 0) : rvJ R = R.2.1 := by rw [rvJ, if_pos h]
theorem rvJ_1 {R : pRJ} (h : R.1 = 1) : rvJ R = -7000001 := by rw [rvJ, h]; rfl
theorem rvJ_2 {R : pRJ} (h : R.1 = 2) : rvJ R = -7000002 := by rw [rvJ, h]; rfl
theorem rvJ_3 {R : pRJ} (h : R.1 = 3) : rvJ R = -7000003 := by rw [rvJ, h]; rfl
abbrev rmA : Room := { frames := 301, cells := 8, slots := 64, locals := 20040 }
theorem Inv.hd {G : kG} {h : Nat} {f : kH} {m : pSt} (hI : Inv G h f m) : ∃ vs, f h = some (.inr (8, vs)) := by
  obtain ⟨o, c, hI⟩ := hI
  exact ⟨_, hI.hd⟩
theorem lkA_o : Cond.classLink RL 96 "java/lang/IndexOutOfBoundsException" ∈ wsP_act := (List.mem_cons_of_mem _ (upL _ (List.mem_of_getElem? (i := 229) (by decide +kernel))))
theorem lkA_a : Cond.classLink RL 100 "java/lang/IllegalArgumentException" ∈ wsP_act := (List.mem_cons_of_mem _ (upL _ (List.mem_of_getElem? (i := 230) (by decide +kernel))))
theorem lkA_s : Cond.classLink RL 104 "java/lang/IllegalStateException" ∈ wsP_act := (List.mem_cons_of_mem _ (upL _ (List.mem_of_getElem? (i := 231) (by decide +kernel))))
theorem inA_o : Cond.instantiable "java/lang/IndexOutOfBoundsException" 6 ∈ wsP_act := by decide +kernel
theorem inA_a : Cond.instantiable "java/lang/IllegalArgumentException" 6 ∈ wsP_act := by decide +kernel
theorem inA_s : Cond.instantiable "java/lang/IllegalStateException" 6 ∈ wsP_act := by decide +kernel
theorem lkA_c98 : Cond.constantLong RL 98 (-7000001) ∈ wsP_act := (List.mem_cons_of_mem _ (upL _ (List.mem_of_getElem? (i := 111) (by decide +kernel))))
theorem lkA_c102 : Cond.constantLong RL 102 (-7000002) ∈ wsP_act := (List.mem_cons_of_mem _ (upL _ (List.mem_of_getElem? (i := 6) (by decide +kernel))))
theorem lkA_c106 : Cond.constantLong RL 106 (-7000003) ∈ wsP_act := (List.mem_cons_of_mem _ (upL _ (List.mem_of_getElem? (i := 4) (by decide +kernel))))
