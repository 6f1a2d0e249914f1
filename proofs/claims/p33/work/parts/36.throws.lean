abbrev kNo : Array Value → State → Outcome → State → Prop := fun _ _ _ _ => False
/-- behind a throw: the class of what is thrown, the heap -/
abbrev kXC (G : kG) (B0 : Nat) (cls : String) (post : kH → Prop) : String → State → State → Prop := vx_X post (fun E f1 t => E = cls ∧ kW G B0 f1 t.heap) (kAb B0)
theorem kW.ext {G : kG} {B0 : Nat} {f : kH} {H H1 : Heap} (h : kW G B0 f H) (hq : ∀ q : Nat, q < H.size → H1[q]? = H[q]?) : kW G B0 f H1 := by
  obtain ⟨L, hL, hP, hD⟩ := h
  exact ⟨L, hL, hP.kept fun k q hk => hq _ (hP k q hk).lt, hD⟩
theorem k_selfcast {args : Array Value} {s : State} {cls : String} (h : (Cond.instantiable cls 6).before args s = true) : (Cond.castable cls cls).before args s = true := by
  obtain ⟨c, k, h1, -⟩ := Cond.instantiable_spec (s := s) (show (Cond.instantiable cls 6).holds args s none s [] = true from h)
  have ha : s.vm.assignable c c = true := by
    show s.vm.assignableAux (255 + 1) c c = true
    rw [Vm.assignableAux]
    simp only [beq_self_eq_true, Bool.true_or]
  show (Cond.castable cls cls).holds args s none s [] = true
  simp [Cond.holds, Cond.value, h1, ha]
theorem k_decl {args : Array Value} {s : State} {y : MethodName} {bytes : ByteArray} {n : Nat} {r : Option FieldType} (h1 : (Cond.instanceMethod y).before args s = true) (h2 : (Cond.code y bytes n r).before args s = true) : (Cond.declares y).before args s = true := by
  obtain ⟨m, meth, hn, hm, hst, -⟩ := Cond.instanceMethod_spec (s := s) (show (Cond.instanceMethod y).holds args s none s [] = true from h1)
  obtain ⟨meth', c, a1, a2, a3, a4, a5, a6, a7, a8⟩ := Cond.code_spec hn (show (Cond.code y bytes n r).holds args s none s [] = true from h2)
  have e : meth = meth' := Option.some.inj (hm.symm.trans a1)
  subst e
  show (Cond.declares y).holds args s none s [] = true
  simp [Cond.holds, Cond.value, hn, hm, hst, a8]
abbrev kChain : List String := ["java/lang/RuntimeException", "java/lang/Exception"]
abbrev kBad (cls : String) : List Cond := [Cond.castable cls cls, Cond.declares (Bundle.initS "java/lang/RuntimeException"), Cond.declares (Bundle.initS "java/lang/Exception"), Cond.declares (Bundle.initS Bundle.tN)]
theorem k_badok {args : Array Value} {s : State} {Ts : List Cond} {own : String} {ic : Nat} {cls : String} (ht : ∀ w ∈ Ts, w.before args s = true) (hat : ∀ w ∈ (vx_atS own ic cls kChain).filter goodWord, w ∈ Ts) : ∀ w ∈ kBad cls, w.before args s = true := by
  have hm : ∀ w : Cond, w ∈ Bundle.ownAtoms own ic cls kChain → vx_no w = true → goodWord w = true → w.before args s = true := fun w h1 h2 h3 => ht w (hat w (List.mem_filter.mpr ⟨List.mem_filter.mpr ⟨h1, h2⟩, h3⟩))
  refine vx_c (k_selfcast (hm _ (by simp [Bundle.ownAtoms]) (by simp [vx_no]) rfl)) (vx_c (k_decl (hm (.instanceMethod (Bundle.initS "java/lang/RuntimeException")) ?_ ?_ rfl) (hm (.code (Bundle.initS "java/lang/RuntimeException") Bundle.six 2 none) ?_ ?_ rfl)) (vx_c (k_decl (hm (.instanceMethod (Bundle.initS "java/lang/Exception")) ?_ ?_ rfl) (hm (.code (Bundle.initS "java/lang/Exception") Bundle.six 2 none) ?_ ?_ rfl)) (vx_c (k_decl (hm (.instanceMethod (Bundle.initS Bundle.tN)) ?_ ?_ rfl) (hm (.code (Bundle.initS Bundle.tN) Jvm.LibCode.Throwable.InitS.code 2 none) ?_ ?_ rfl)) vx_n)))
  all_goals first | (simp [Bundle.ownAtoms, Bundle.chainSAtoms, Bundle.passSAtoms, Bundle.throwableSAtoms]; done) | (simp [vx_no]; done)
/-- a contract of what throws, out of a walk -/
theorem kMetX {l : Launch} {y : MethodName} {ws ws' : List Cond} {rm : Room} {G : kG} {B0 : Nat} {f : kH} {av : List Value} {Qc : Array Value → State → Outcome → State → Prop} {XC : String → State → State → Prop} {mc ms : Nat} {cc : ByteArray} {maxL : Nat} {ret : Option FieldType} (hy : plainName y.cls = true) (hw : ws = Cond.code y cc maxL ret :: ws') (hav : (lg_sl av).length ≤ maxL)
    (body : ∀ (p : Program) (e : Env) (s : State) (m : MethodId) (args : Array Value) (below : List Frame) (meth : Method) (c : Code) (H : Heap) (locs : List Loc) (Q : State → Prop) (ls : Array Slot), kC G B0 p m c cc maxL s args ws y.cls → kX G B0 s f H locs → lv_has ls maxL (lv_args 0 av) → meth.sig.returnType = ret → meth.locks = false → meth.name = y.name → Q = vx_MQ below Qc XC args s mc ms (kAb B0) → (∀ x ∈ c.exceptionTable.toList, False) →
      W p l e rm s m args below meth c H locs 0 0 Q (F0 m 0 ls [])) : vx_Met l y ws rm (kP G B0 f av) Qc XC mc ms (kAb B0) := by
  refine vx_ofW (cc := cc) (maxL := maxL) (ret := ret) hy hw ?_
  intro p e s m args below meth c s₁ B hml hno hv
  obtain ⟨rfl, hW, hT, hZ⟩ := hv
  have hl := lv_entry av (n := maxL) hav
  rw [lg_entry_eq]
  exact body p e s m _ below meth c _ [] _ _ ⟨⟨B.exec, B.bytes, hml, findClass_of_methodNamed B.named, atoms_spec (ws := ws) B.pre⟩, hT, hZ⟩ ⟨hW, va_S.rf⟩ hl B.returns B.notSynchronized (name_of_methodNamed B.named B.method).1 rfl hno
section KR8
variable {p : Program} {l : Launch} {e : Env} {R : Room} {s : State} {m : MethodId} {args : Array Value} {below : List Frame} {meth : Method} {c : Code} {H : Heap} {locs : List Loc} {cells slots : Nat} {Q : State → Prop}
variable {cc : ByteArray} {pc : Nat} {ls : Array Slot} {rest st0 : List Value} {G : kG} {B0 nL : Nat} {f : kH} {Ts : List Cond} {own : String} {a : Nat} {mc ms mc1 ms1 : Nat} {Qc : Array Value → State → Outcome → State → Prop}
/-- new X(text), thrown, in a body that catches nothing -/
theorem k_thS (C : kC G B0 p m c cc nL s args Ts own) (hst : l.stackTraces = false) (hX : kX G B0 s f H locs) (hls : ls.size = nL) (hout : ∀ x ∈ c.exceptionTable.toList, False) {cls text : String} {ik is ic : Nat} {post : kH → Prop}
    (hk : Cond.classLink own ik cls ∈ Ts) (hini : Cond.initialized cls ∈ Ts) (hstr : (own, is, text) ∈ kStrs) (hcls : Bundle.fit cls = true) (hat : ∀ w ∈ (vx_atS own ic cls kChain).filter goodWord, w ∈ Ts)
    (hng : (∀ w ∈ (vx_atS own ic cls kChain).filter (fun w => !goodWord w), w ∈ kBad cls) ∧ ∀ w ∈ Cond.classLink own ik cls :: Cond.initialized cls :: vx_atS own ic cls kChain, vx_ot w = true)
    (d0 : decode cc pc = .ok (.new ik, 3)) (d3 : decode cc (pc + 3) = .ok (.dup, 1)) (d4 : decode cc (pc + 4) = .ok (.ldc is, 2)) (d7 : decode cc (pc + 6) = .ok (.invokespecial ic, 3)) (d10 : decode cc (pc + 9) = .ok (.athrow, 1))
    (hRf : 5 < R.frames) (hRl : (rest.map fun v => v.category).sum + 82 ≤ R.locals) (hRc : cells + 1 ≤ R.cells) (hRs : slots + 6 ≤ R.slots) (hlocks : meth.locks = false)
    (hQ : Q = vx_MQ below Qc (kXC G B0 cls post) args s mc ms (kAb B0)) (hp : post f) (hc : cells + 1 ≤ mc) (hs : slots + 6 ≤ ms) : W p l e R s m args below meth c H locs cells slots Q (F0 m pc ls rest) := by
  subst hQ
  obtain ⟨sa, hsa⟩ := C.2.1.2.2.2.1 _ hstr
  exact vx_throwS (names := kChain) C.x C.b hst C.ow hcls (by decide) (C.ts _ hk) (C.ts _ hini) hsa (vx_hat (fun w hw => C.ts w (hat w hw)) hng.1 (k_badok C.ts hat)) hng.2 C.2.2.2.2.2.2.2.1 C.2.2.2.2.2.2.2.2 hX.2 (by rw [C.ml]; exact hls) d0 d3 d4 d7 d10
    (fun x hx => (hout x hx).elim) hRf hRl hRc hRs hlocks (fun t _ hz hq => ⟨f, hp, ⟨rfl, hX.1.ext hq⟩, ⟨Nat.le_trans hX.2.1 hz, fun q h1 h2 => by rw [hq q (Nat.lt_of_lt_of_le h1 hX.2.1)]; exact hX.2.2.1 q h1 h2⟩⟩) (fun z hz => hX.2.2.2 z hz) hc hs
/-- new X(text), thrown, in a body that catches nothing -/
theorem k_thSW (C : kC G B0 p m c cc nL s args Ts own) (hst : l.stackTraces = false) (hX : kX G B0 s f H locs) (hls : ls.size = nL) (hout : ∀ x ∈ c.exceptionTable.toList, False) {cls text : String} {ik is ic : Nat} {post : kH → Prop}
    (hk : Cond.classLink own ik cls ∈ Ts) (hini : Cond.initialized cls ∈ Ts) (hstr : (own, is, text) ∈ kStrs) (hcls : Bundle.fit cls = true) (hat : ∀ w ∈ (vx_atS own ic cls kChain).filter goodWord, w ∈ Ts)
    (hng : (∀ w ∈ (vx_atS own ic cls kChain).filter (fun w => !goodWord w), w ∈ kBad cls) ∧ ∀ w ∈ Cond.classLink own ik cls :: Cond.initialized cls :: vx_atS own ic cls kChain, vx_ot w = true)
    (d0 : decode cc pc = .ok (.new ik, 3)) (d3 : decode cc (pc + 3) = .ok (.dup, 1)) (d4 : decode cc (pc + 4) = .ok (.ldc_w is, 3)) (d7 : decode cc (pc + 7) = .ok (.invokespecial ic, 3)) (d10 : decode cc (pc + 10) = .ok (.athrow, 1))
    (hRf : 5 < R.frames) (hRl : (rest.map fun v => v.category).sum + 82 ≤ R.locals) (hRc : cells + 1 ≤ R.cells) (hRs : slots + 6 ≤ R.slots) (hlocks : meth.locks = false)
    (hQ : Q = vx_MQ below Qc (kXC G B0 cls post) args s mc ms (kAb B0)) (hp : post f) (hc : cells + 1 ≤ mc) (hs : slots + 6 ≤ ms) : W p l e R s m args below meth c H locs cells slots Q (F0 m pc ls rest) := by
  subst hQ
  obtain ⟨sa, hsa⟩ := C.2.1.2.2.2.1 _ hstr
  exact vx_throwSW (names := kChain) C.x C.b hst C.ow hcls (by decide) (C.ts _ hk) (C.ts _ hini) hsa (vx_hat (fun w hw => C.ts w (hat w hw)) hng.1 (k_badok C.ts hat)) hng.2 C.2.2.2.2.2.2.2.1 C.2.2.2.2.2.2.2.2 hX.2 (by rw [C.ml]; exact hls) d0 d3 d4 d7 d10
    (fun x hx => (hout x hx).elim) hRf hRl hRc hRs hlocks (fun t _ hz hq => ⟨f, hp, ⟨rfl, hX.1.ext hq⟩, ⟨Nat.le_trans hX.2.1 hz, fun q h1 h2 => by rw [hq q (Nat.lt_of_lt_of_le h1 hX.2.1)]; exact hX.2.2.1 q h1 h2⟩⟩) (fun z hz => hX.2.2.2 z hz) hc hs
/-- a call that throws, through a body that catches nothing -/
theorem k_outX {cls : String} {post post1 : kH → Prop} (hr : vx_Run p l e R s m args below meth c H locs cells slots mc ms (F0 m pc ls st0) rest (fun _ _ _ => False) (kXC G B0 cls post) (kAb B0)) (hX : kX G B0 s f H locs) (hout : ∀ x ∈ c.exceptionTable.toList, False) (hlocks : meth.locks = false) (hQ : Q = vx_MQ below Qc (kXC G B0 cls post1) args s mc1 ms1 (kAb B0)) (hpp : ∀ f1, post f1 → post1 f1) (hc : cells + mc ≤ mc1) (hs : slots + ms ≤ ms1) : W p l e R s m args below meth c H locs cells slots Q (F0 m pc ls st0) := by
  subst hQ
  intro T hT X
  rcases hr T hT X with ⟨v, st₀, t, T', L, h0, X', hL, e1, e2, hF, st⟩ | ⟨q, st₀, t, T', L, E, ce, h0, X', hL, e1, e2, ⟨u, hp, ⟨hE, hb⟩, hF⟩, hce, hcv, hcl, st⟩
  · exact hF.elim
  · obtain ⟨k1, k2, k3⟩ := vx_keep (A1 := kAb B0) (free := kAb B0) h0 e1 hX.2 (fun _ _ h => h) (fun _ h => h) hL hF
    obtain ⟨t2, a1, b1⟩ := vx_out (p := p) (l := l) (e := e) (R := R) (H := T'.heap) (pc := pc) (ls := ls) (rest := rest) (Qc := Qc) (XC := kXC G B0 cls post1) (below := below) (args := args) (free := kAb B0) (fun x hx => (hout x hx).elim) hlocks (by rw [e1]; exact hce) hcv hcl (fun t9 h9 _ => ⟨u, hpp u hp, ⟨hE, by rw [h9, e1]; exact hb⟩, ⟨by rw [h9]; exact k3.1, fun q9 h1 h2 => by rw [h9]; exact k3.2.1 q9 h1 h2⟩⟩) k3.2.2 hc hs T' rfl X'
    exact ⟨t2, st.trans a1, b1⟩
end KR8
theorem mRg_of {b : Int32} {k : Nat} (hk : k < 2 ^ 31) (h1 : ¬ b < 0) (h2 : b ≤ nI k) : mRg b (0) k := by
  rw [Int32.lt_iff_toInt_lt] at h1
  rw [Int32.le_iff_toInt_le, nI_toInt hk] at h2
  exact ⟨by simpa using h1, h2⟩
theorem mRg_of2 {b : Int32} {j k : Nat} (hj : j < 2 ^ 31) (hk : k < 2 ^ 31) (h1 : ¬ b < nI j) (h2 : b ≤ nI k) : mRg b j k := by
  rw [Int32.lt_iff_toInt_lt, nI_toInt hj] at h1
  rw [Int32.le_iff_toInt_le, nI_toInt hk] at h2
  exact ⟨by omega, h2⟩
theorem nIn_t2 {a : Int32} {n : Nat} (h1 : ¬ a < 0) (h2 : a < nI n) : mIn a n := nIn_t h1 (fun h => by
  rw [Int32.le_iff_toInt_le] at h; rw [Int32.lt_iff_toInt_lt] at h2; omega)
abbrev cImOk (x1 x2 : Int32) : Prop := cIn x1.toInt64 1000000000 ∧ ¬ x2 < 0 ∧ x2 ≤ nI 1000000000 ∧ cEu 1000 (jAbs x1.toInt64) x2.toInt64 = 1 ∧ (¬ x2 = 0 ∨ x1 = nI 1)

theorem lk_X8_split_cl56 : Cond.classLink RX8 56 "java/lang/IndexOutOfBoundsException" ∈ wsX8_split := by decide +kernel
theorem lk_X8_split_ini_IndexOutOfBoundsException : Cond.initialized "java/lang/IndexOutOfBoundsException" ∈ wsX8_split := by decide +kernel
theorem hat_X8_split_60_IndexOutOfBoundsException : ∀ w ∈ (vx_atS RX8 60 "java/lang/IndexOutOfBoundsException" kChain).filter goodWord, w ∈ wsX8_split := by
  intro w hw
  unfold wsX8_split
  simp only [List.mem_cons, List.mem_append, hw, or_true, true_or]
theorem hng_RX8_56_60_IndexOutOfBoundsException : (∀ w ∈ (vx_atS RX8 60 "java/lang/IndexOutOfBoundsException" kChain).filter (fun w => !goodWord w), w ∈ kBad "java/lang/IndexOutOfBoundsException") ∧ ∀ w ∈ Cond.classLink RX8 56 "java/lang/IndexOutOfBoundsException" :: Cond.initialized "java/lang/IndexOutOfBoundsException" :: vx_atS RX8 60 "java/lang/IndexOutOfBoundsException" kChain, vx_ot w = true := by decide +kernel
abbrev rmX8_split_b1 : Room := { frames := 6, cells := 1, slots := 6, locals := 90 }
set_option maxHeartbeats 4000000 in
set_option maxRecDepth 100000 in
/-- X8_split_b1 -/
theorem kX8_split_b1 (l : Launch) (hst : l.stackTraces = false) (G : kG) (B0 : Nat) (f : kH) (h sp nA tA : Nat) (vd vg vw vm vp vn : Value) (aN aT : Nat → Int32) (cc fc : Nat) (a : Int32) (hM : kCs f [(h, .inr (8, [.ref sp, vd, vg, vw, vm, vp, vn])), (sp, .inr (3, [.ref nA, .ref tA, .int (nI cc), .int (nI fc)])), (nA, kaI G 84 aN), (tA, kaI G 256 aT)]) (hc9 : cc ≤ 16) (hF9 : fc ≤ 28) (hv : ¬ mIn a fc) : vx_Met l yX8_split wsX8_split (rmX8_split_b1) (kP G B0 f [.ref h, .int a]) kNo (kXC G B0 "java/lang/IndexOutOfBoundsException" (fun f1 => f1 = f)) 1 6 (kAb B0) := by
  refine kMetX (cc := cX8_split) (maxL := 2) (ret := (some .int)) (by decide) rfl (Nat.le_of_ble_eq_true rfl) ?_
  intro p e s m args below meth c H locs Q ls C hX hl hr hlocks hnm hQ hout
  have hl : lv_has ls 2 [(0, .ref h), (1, .int a)] := hl
  refine lv_aload_n C.x C.b dX8_split_0 rfl (lv_at hl 0 rfl) ?_
  refine k_get (X := RX8) (T := TX8) (N := 7) (v := .ref sp) C hX (hM.at 0 rfl) rfl hin_X8_split_RX8 0 (by decide) lk_X8_split_f10 (fun _ h9 => h9) rfl dX8_split_1 ?_
  refine lv_iload_n C.x C.b dX8_split_4 rfl (lv_at hl 1 rfl) ?_
  have hM9 : kCs f (nW G sp nA tA aN aT cc fc) := hM.pick [1, 2, 3] (by decide) ⟨rfl, rfl, rfl, trivial⟩
  refine k_calli (va_runVN (As := [.int a]) (rest := []) C.1 (kX3_hasFace l G B0 f sp nA tA aN aT cc fc a hM9 hc9 hF9) ⟨va_cnB 1 C.ts gX8_split_X3_hasFace_n52 rfl rfl rfl (C.2.1.2.2.1 _ (show ((RX8, 52, yX3_hasFace, "Koebehall") : String × Nat × MethodName × String) ∈ kNestM by decide +kernel)) (C.ts _ lk_X8_split_in_RX3) hdX8_split_X3_hasFace ⟨Nat.le_of_ble_eq_true rfl, Nat.le_of_ble_eq_true rfl⟩, C.ts _ lk_X8_split_im_X3_hasFace, C.ts _ lk_X8_split_se_X3_hasFace⟩ (k_preV C hX (hM.at 1 rfl) rfl) rfl rfl hl.1 rfl (lv_room (Nat.le_of_ble_eq_true rfl)) dX8_split_5 ⟨Nat.le_of_ble_eq_true rfl, Nat.le_of_ble_eq_true rfl⟩) hX (fun r5 f5 H locs hp5 hX => ?_)
  obtain ⟨hr5, hf5⟩ := hp5
  rw [hf5] at hX
  refine k_topi (y := (kbI (mIn a fc))) hr5 ?_
  refine lv_if_ne (tgt := 21) C.x C.b dX8_split_8 (by decide) (fun c_8 => ?_) (fun c_8 => ?_)
  · exact absurd (kbI_1 c_8) (hv)
  exact k_thS (cls := "java/lang/IndexOutOfBoundsException") (text := "there is no such face") C hst hX hl.1 hout lk_X8_split_cl56 lk_X8_split_ini_IndexOutOfBoundsException (by decide +kernel) (by decide) hat_X8_split_60_IndexOutOfBoundsException hng_RX8_56_60_IndexOutOfBoundsException dX8_split_11 dX8_split_14 dX8_split_15 dX8_split_17 dX8_split_20 (Nat.le_of_ble_eq_true rfl) (Nat.le_of_ble_eq_true rfl) (Nat.le_of_ble_eq_true rfl) (Nat.le_of_ble_eq_true rfl) hlocks hQ (rfl) (Nat.le_of_ble_eq_true rfl) (Nat.le_of_ble_eq_true rfl)

theorem lk_X8_split_cl67 : Cond.classLink RX8 67 "java/lang/IllegalStateException" ∈ wsX8_split := by decide +kernel
theorem lk_X8_split_ini_IllegalStateException : Cond.initialized "java/lang/IllegalStateException" ∈ wsX8_split := by decide +kernel
theorem hat_X8_split_71_IllegalStateException : ∀ w ∈ (vx_atS RX8 71 "java/lang/IllegalStateException" kChain).filter goodWord, w ∈ wsX8_split := by
  intro w hw
  unfold wsX8_split
  simp only [List.mem_cons, List.mem_append, hw, or_true, true_or]
theorem hng_RX8_67_71_IllegalStateException : (∀ w ∈ (vx_atS RX8 71 "java/lang/IllegalStateException" kChain).filter (fun w => !goodWord w), w ∈ kBad "java/lang/IllegalStateException") ∧ ∀ w ∈ Cond.classLink RX8 67 "java/lang/IllegalStateException" :: Cond.initialized "java/lang/IllegalStateException" :: vx_atS RX8 71 "java/lang/IllegalStateException" kChain, vx_ot w = true := by decide +kernel
abbrev rmX8_split_b2 : Room := { frames := 6, cells := 1, slots := 6, locals := 90 }
set_option maxHeartbeats 4000000 in
set_option maxRecDepth 100000 in
/-- X8_split_b2 -/
theorem kX8_split_b2 (l : Launch) (hst : l.stackTraces = false) (G : kG) (B0 : Nat) (f : kH) (h sp nA tA : Nat) (vd vg vw vm vp vn : Value) (aN aT : Nat → Int32) (cc fc : Nat) (a : Int32) (hM : kCs f [(h, .inr (8, [.ref sp, vd, vg, vw, vm, vp, vn])), (sp, .inr (3, [.ref nA, .ref tA, .int (nI cc), .int (nI fc)])), (nA, kaI G 84 aN), (tA, kaI G 256 aT)]) (hc9 : cc ≤ 16) (hF9 : fc ≤ 28) (hv : mIn a fc) (hw : 16 ≤ cc) : vx_Met l yX8_split wsX8_split (rmX8_split_b2) (kP G B0 f [.ref h, .int a]) kNo (kXC G B0 "java/lang/IllegalStateException" (fun f1 => f1 = f)) 1 6 (kAb B0) := by
  refine kMetX (cc := cX8_split) (maxL := 2) (ret := (some .int)) (by decide) rfl (Nat.le_of_ble_eq_true rfl) ?_
  intro p e s m args below meth c H locs Q ls C hX hl hr hlocks hnm hQ hout
  have hl : lv_has ls 2 [(0, .ref h), (1, .int a)] := hl
  refine lv_aload_n C.x C.b dX8_split_0 rfl (lv_at hl 0 rfl) ?_
  refine k_get (X := RX8) (T := TX8) (N := 7) (v := .ref sp) C hX (hM.at 0 rfl) rfl hin_X8_split_RX8 0 (by decide) lk_X8_split_f10 (fun _ h9 => h9) rfl dX8_split_1 ?_
  refine lv_iload_n C.x C.b dX8_split_4 rfl (lv_at hl 1 rfl) ?_
  have hM9 : kCs f (nW G sp nA tA aN aT cc fc) := hM.pick [1, 2, 3] (by decide) ⟨rfl, rfl, rfl, trivial⟩
  refine k_calli (va_runVN (As := [.int a]) (rest := []) C.1 (kX3_hasFace l G B0 f sp nA tA aN aT cc fc a hM9 hc9 hF9) ⟨va_cnB 1 C.ts gX8_split_X3_hasFace_n52 rfl rfl rfl (C.2.1.2.2.1 _ (show ((RX8, 52, yX3_hasFace, "Koebehall") : String × Nat × MethodName × String) ∈ kNestM by decide +kernel)) (C.ts _ lk_X8_split_in_RX3) hdX8_split_X3_hasFace ⟨Nat.le_of_ble_eq_true rfl, Nat.le_of_ble_eq_true rfl⟩, C.ts _ lk_X8_split_im_X3_hasFace, C.ts _ lk_X8_split_se_X3_hasFace⟩ (k_preV C hX (hM.at 1 rfl) rfl) rfl rfl hl.1 rfl (lv_room (Nat.le_of_ble_eq_true rfl)) dX8_split_5 ⟨Nat.le_of_ble_eq_true rfl, Nat.le_of_ble_eq_true rfl⟩) hX (fun r5 f5 H locs hp5 hX => ?_)
  obtain ⟨hr5, hf5⟩ := hp5
  rw [hf5] at hX
  refine k_topi (y := (kbI (mIn a fc))) hr5 ?_
  refine lv_if_ne (tgt := 21) C.x C.b dX8_split_8 (by decide) (fun c_8 => ?_) (fun c_8 => ?_)
  rotate_left
  · exact absurd (hv) (kbI_0 c_8)
  refine lv_aload_n C.x C.b dX8_split_21 rfl (lv_at hl 0 rfl) ?_
  refine k_get (X := RX8) (T := TX8) (N := 7) (v := .ref sp) C hX (hM.at 0 rfl) rfl hin_X8_split_RX8 0 (by decide) lk_X8_split_f10 (fun _ h9 => h9) rfl dX8_split_22 ?_
  have hM9 : kCs f (nW G sp nA tA aN aT cc fc) := hM.pick [1, 2, 3] (by decide) ⟨rfl, rfl, rfl, trivial⟩
  refine k_calli (va_runVN (As := []) (rest := []) C.1 (kX3_isFull l G B0 f sp nA tA aN aT cc fc  hM9 hc9 hF9) ⟨va_cnB 0 C.ts gX8_split_X3_isFull_n63 rfl rfl rfl (C.2.1.2.2.1 _ (show ((RX8, 63, yX3_isFull, "Koebehall") : String × Nat × MethodName × String) ∈ kNestM by decide +kernel)) (C.ts _ lk_X8_split_in_RX3) hdX8_split_X3_isFull ⟨Nat.le_of_ble_eq_true rfl, Nat.le_of_ble_eq_true rfl⟩, C.ts _ lk_X8_split_im_X3_isFull, C.ts _ lk_X8_split_se_X3_isFull⟩ (k_preV C hX (hM.at 1 rfl) rfl) rfl rfl hl.1 rfl (lv_room (Nat.le_of_ble_eq_true rfl)) dX8_split_25 ⟨Nat.le_of_ble_eq_true rfl, Nat.le_of_ble_eq_true rfl⟩) hX (fun r25 f25 H locs hp25 hX => ?_)
  obtain ⟨hr25, hf25⟩ := hp25
  rw [hf25] at hX
  refine k_topi (y := (kbI (16 ≤ cc))) hr25 ?_
  refine lv_if_eq (tgt := 41) C.x C.b dX8_split_28 (by decide) (fun c_28 => ?_) (fun c_28 => ?_)
  · exact absurd (hw) (kbI_0 c_28)
  exact k_thS (cls := "java/lang/IllegalStateException") (text := "there are 16 corners") C hst hX hl.1 hout lk_X8_split_cl67 lk_X8_split_ini_IllegalStateException (by decide +kernel) (by decide) hat_X8_split_71_IllegalStateException hng_RX8_67_71_IllegalStateException dX8_split_31 dX8_split_34 dX8_split_35 dX8_split_37 dX8_split_40 (Nat.le_of_ble_eq_true rfl) (Nat.le_of_ble_eq_true rfl) (Nat.le_of_ble_eq_true rfl) (Nat.le_of_ble_eq_true rfl) hlocks hQ (rfl) (Nat.le_of_ble_eq_true rfl) (Nat.le_of_ble_eq_true rfl)

theorem lk_X8_flip_cl56 : Cond.classLink RX8 56 "java/lang/IndexOutOfBoundsException" ∈ wsX8_flip := by decide +kernel
theorem lk_X8_flip_ini_IndexOutOfBoundsException : Cond.initialized "java/lang/IndexOutOfBoundsException" ∈ wsX8_flip := by decide +kernel
theorem hat_X8_flip_60_IndexOutOfBoundsException : ∀ w ∈ (vx_atS RX8 60 "java/lang/IndexOutOfBoundsException" kChain).filter goodWord, w ∈ wsX8_flip := by
  intro w hw
  unfold wsX8_flip
  simp only [List.mem_cons, List.mem_append, hw, or_true, true_or]
abbrev rmX8_flip_b1 : Room := { frames := 6, cells := 1, slots := 6, locals := 90 }
set_option maxHeartbeats 4000000 in
set_option maxRecDepth 100000 in
/-- X8_flip_b1 -/
theorem kX8_flip_b1 (l : Launch) (hst : l.stackTraces = false) (G : kG) (B0 : Nat) (f : kH) (h sp nA tA : Nat) (vd vg vw vm vp vn : Value) (aN aT : Nat → Int32) (cc fc : Nat) (a b : Int32) (hM : kCs f [(h, .inr (8, [.ref sp, vd, vg, vw, vm, vp, vn])), (sp, .inr (3, [.ref nA, .ref tA, .int (nI cc), .int (nI fc)])), (nA, kaI G 84 aN), (tA, kaI G 256 aT)]) (hc9 : cc ≤ 16) (hF9 : fc ≤ 28) (hv : ¬ (mIn a cc ∧ mIn b cc)) : vx_Met l yX8_flip wsX8_flip (rmX8_flip_b1) (kP G B0 f [.ref h, .int a, .int b]) kNo (kXC G B0 "java/lang/IndexOutOfBoundsException" (fun f1 => f1 = f)) 1 6 (kAb B0) := by
  refine kMetX (cc := cX8_flip) (maxL := 3) (ret := (some .int)) (by decide) rfl (Nat.le_of_ble_eq_true rfl) ?_
  intro p e s m args below meth c H locs Q ls C hX hl hr hlocks hnm hQ hout
  have hl : lv_has ls 3 [(0, .ref h), (1, .int a), (2, .int b)] := hl
  refine lv_aload_n C.x C.b dX8_flip_0 rfl (lv_at hl 0 rfl) ?_
  refine k_get (X := RX8) (T := TX8) (N := 7) (v := .ref sp) C hX (hM.at 0 rfl) rfl hin_X8_flip_RX8 0 (by decide) lk_X8_flip_f10 (fun _ h9 => h9) rfl dX8_flip_1 ?_
  refine lv_iload_n C.x C.b dX8_flip_4 rfl (lv_at hl 1 rfl) ?_
  have hM9 : kCs f (nW G sp nA tA aN aT cc fc) := hM.pick [1, 2, 3] (by decide) ⟨rfl, rfl, rfl, trivial⟩
  refine k_calli (va_runVN (As := [.int a]) (rest := []) C.1 (kX3_hasCorner l G B0 f sp nA tA aN aT cc fc a hM9 hc9 hF9) ⟨va_cnB 1 C.ts gX8_flip_X3_hasCorner_n76 rfl rfl rfl (C.2.1.2.2.1 _ (show ((RX8, 76, yX3_hasCorner, "Koebehall") : String × Nat × MethodName × String) ∈ kNestM by decide +kernel)) (C.ts _ lk_X8_flip_in_RX3) hdX8_flip_X3_hasCorner ⟨Nat.le_of_ble_eq_true rfl, Nat.le_of_ble_eq_true rfl⟩, C.ts _ lk_X8_flip_im_X3_hasCorner, C.ts _ lk_X8_flip_se_X3_hasCorner⟩ (k_preV C hX (hM.at 1 rfl) rfl) rfl rfl hl.1 rfl (lv_room (Nat.le_of_ble_eq_true rfl)) dX8_flip_5 ⟨Nat.le_of_ble_eq_true rfl, Nat.le_of_ble_eq_true rfl⟩) hX (fun r5 f5 H locs hp5 hX => ?_)
  obtain ⟨hr5, hf5⟩ := hp5
  rw [hf5] at hX
  refine k_topi (y := (kbI (mIn a cc))) hr5 ?_
  refine lv_if_eq (tgt := 22) C.x C.b dX8_flip_8 (by decide) (fun c_8 => ?_) (fun c_8 => ?_)
  · skip
    have c_8 := kbI_0 c_8
    exact k_thS (cls := "java/lang/IndexOutOfBoundsException") (text := "there is no such corner") C hst hX hl.1 hout lk_X8_flip_cl56 lk_X8_flip_ini_IndexOutOfBoundsException (by decide +kernel) (by decide) hat_X8_flip_60_IndexOutOfBoundsException hng_RX8_56_60_IndexOutOfBoundsException dX8_flip_22 dX8_flip_25 dX8_flip_26 dX8_flip_28 dX8_flip_31 (Nat.le_of_ble_eq_true rfl) (Nat.le_of_ble_eq_true rfl) (Nat.le_of_ble_eq_true rfl) (Nat.le_of_ble_eq_true rfl) hlocks hQ (rfl) (Nat.le_of_ble_eq_true rfl) (Nat.le_of_ble_eq_true rfl)
  · skip
    have c_8 := kbI_1 c_8
    refine lv_aload_n C.x C.b dX8_flip_11 rfl (lv_at hl 0 rfl) ?_
    refine k_get (X := RX8) (T := TX8) (N := 7) (v := .ref sp) C hX (hM.at 0 rfl) rfl hin_X8_flip_RX8 0 (by decide) lk_X8_flip_f10 (fun _ h9 => h9) rfl dX8_flip_12 ?_
    refine lv_iload_n C.x C.b dX8_flip_15 rfl (lv_at hl 2 rfl) ?_
    have hM9 : kCs f (nW G sp nA tA aN aT cc fc) := hM.pick [1, 2, 3] (by decide) ⟨rfl, rfl, rfl, trivial⟩
    refine k_calli (va_runVN (As := [.int b]) (rest := []) C.1 (kX3_hasCorner l G B0 f sp nA tA aN aT cc fc b hM9 hc9 hF9) ⟨va_cnB 1 C.ts gX8_flip_X3_hasCorner_n76 rfl rfl rfl (C.2.1.2.2.1 _ (show ((RX8, 76, yX3_hasCorner, "Koebehall") : String × Nat × MethodName × String) ∈ kNestM by decide +kernel)) (C.ts _ lk_X8_flip_in_RX3) hdX8_flip_X3_hasCorner ⟨Nat.le_of_ble_eq_true rfl, Nat.le_of_ble_eq_true rfl⟩, C.ts _ lk_X8_flip_im_X3_hasCorner, C.ts _ lk_X8_flip_se_X3_hasCorner⟩ (k_preV C hX (hM.at 1 rfl) rfl) rfl rfl hl.1 rfl (lv_room (Nat.le_of_ble_eq_true rfl)) dX8_flip_16 ⟨Nat.le_of_ble_eq_true rfl, Nat.le_of_ble_eq_true rfl⟩) hX (fun r16 f16 H locs hp16 hX => ?_)
    obtain ⟨hr16, hf16⟩ := hp16
    rw [hf16] at hX
    refine k_topi (y := (kbI (mIn b cc))) hr16 ?_
    refine lv_if_ne (tgt := 32) C.x C.b dX8_flip_19 (by decide) (fun c_19 => ?_) (fun c_19 => ?_)
    · skip
      have c_19 := kbI_1 c_19
      exact absurd ⟨c_8, c_19⟩ hv
    · skip
      have c_19 := kbI_0 c_19
      exact k_thS (cls := "java/lang/IndexOutOfBoundsException") (text := "there is no such corner") C hst hX hl.1 hout lk_X8_flip_cl56 lk_X8_flip_ini_IndexOutOfBoundsException (by decide +kernel) (by decide) hat_X8_flip_60_IndexOutOfBoundsException hng_RX8_56_60_IndexOutOfBoundsException dX8_flip_22 dX8_flip_25 dX8_flip_26 dX8_flip_28 dX8_flip_31 (Nat.le_of_ble_eq_true rfl) (Nat.le_of_ble_eq_true rfl) (Nat.le_of_ble_eq_true rfl) (Nat.le_of_ble_eq_true rfl) hlocks hQ (rfl) (Nat.le_of_ble_eq_true rfl) (Nat.le_of_ble_eq_true rfl)

theorem lk_X8_flip_cl67 : Cond.classLink RX8 67 "java/lang/IllegalStateException" ∈ wsX8_flip := by decide +kernel
theorem lk_X8_flip_ini_IllegalStateException : Cond.initialized "java/lang/IllegalStateException" ∈ wsX8_flip := by decide +kernel
theorem hat_X8_flip_71_IllegalStateException : ∀ w ∈ (vx_atS RX8 71 "java/lang/IllegalStateException" kChain).filter goodWord, w ∈ wsX8_flip := by
  intro w hw
  unfold wsX8_flip
  simp only [List.mem_cons, List.mem_append, hw, or_true, true_or]
abbrev rmX8_flip_b2 : Room := { frames := 6, cells := 1, slots := 6, locals := 90 }
set_option maxHeartbeats 4000000 in
set_option maxRecDepth 100000 in
/-- X8_flip_b2 -/
theorem kX8_flip_b2 (l : Launch) (hst : l.stackTraces = false) (G : kG) (B0 : Nat) (f : kH) (h sp nA tA : Nat) (vd vg vw vm vp vn : Value) (aN aT : Nat → Int32) (cc fc : Nat) (a b : Int32) (hM : kCs f [(h, .inr (8, [.ref sp, vd, vg, vw, vm, vp, vn])), (sp, .inr (3, [.ref nA, .ref tA, .int (nI cc), .int (nI fc)])), (nA, kaI G 84 aN), (tA, kaI G 256 aT)]) (hc9 : cc ≤ 16) (hF9 : fc ≤ 28) (hv : mIn a cc ∧ mIn b cc) (hw : ¬ nCanFlip aT cc a b) : vx_Met l yX8_flip wsX8_flip (rmX8_flip_b2) (kP G B0 f [.ref h, .int a, .int b]) kNo (kXC G B0 "java/lang/IllegalStateException" (fun f1 => f1 = f)) 1 6 (kAb B0) := by
  refine kMetX (cc := cX8_flip) (maxL := 3) (ret := (some .int)) (by decide) rfl (Nat.le_of_ble_eq_true rfl) ?_
  intro p e s m args below meth c H locs Q ls C hX hl hr hlocks hnm hQ hout
  have hl : lv_has ls 3 [(0, .ref h), (1, .int a), (2, .int b)] := hl
  refine lv_aload_n C.x C.b dX8_flip_0 rfl (lv_at hl 0 rfl) ?_
  refine k_get (X := RX8) (T := TX8) (N := 7) (v := .ref sp) C hX (hM.at 0 rfl) rfl hin_X8_flip_RX8 0 (by decide) lk_X8_flip_f10 (fun _ h9 => h9) rfl dX8_flip_1 ?_
  refine lv_iload_n C.x C.b dX8_flip_4 rfl (lv_at hl 1 rfl) ?_
  have hM9 : kCs f (nW G sp nA tA aN aT cc fc) := hM.pick [1, 2, 3] (by decide) ⟨rfl, rfl, rfl, trivial⟩
  refine k_calli (va_runVN (As := [.int a]) (rest := []) C.1 (kX3_hasCorner l G B0 f sp nA tA aN aT cc fc a hM9 hc9 hF9) ⟨va_cnB 1 C.ts gX8_flip_X3_hasCorner_n76 rfl rfl rfl (C.2.1.2.2.1 _ (show ((RX8, 76, yX3_hasCorner, "Koebehall") : String × Nat × MethodName × String) ∈ kNestM by decide +kernel)) (C.ts _ lk_X8_flip_in_RX3) hdX8_flip_X3_hasCorner ⟨Nat.le_of_ble_eq_true rfl, Nat.le_of_ble_eq_true rfl⟩, C.ts _ lk_X8_flip_im_X3_hasCorner, C.ts _ lk_X8_flip_se_X3_hasCorner⟩ (k_preV C hX (hM.at 1 rfl) rfl) rfl rfl hl.1 rfl (lv_room (Nat.le_of_ble_eq_true rfl)) dX8_flip_5 ⟨Nat.le_of_ble_eq_true rfl, Nat.le_of_ble_eq_true rfl⟩) hX (fun r5 f5 H locs hp5 hX => ?_)
  obtain ⟨hr5, hf5⟩ := hp5
  rw [hf5] at hX
  refine k_topi (y := (kbI (mIn a cc))) hr5 ?_
  refine lv_if_eq (tgt := 22) C.x C.b dX8_flip_8 (by decide) (fun c_8 => ?_) (fun c_8 => ?_)
  · exact absurd (hv.1) (kbI_0 c_8)
  refine lv_aload_n C.x C.b dX8_flip_11 rfl (lv_at hl 0 rfl) ?_
  refine k_get (X := RX8) (T := TX8) (N := 7) (v := .ref sp) C hX (hM.at 0 rfl) rfl hin_X8_flip_RX8 0 (by decide) lk_X8_flip_f10 (fun _ h9 => h9) rfl dX8_flip_12 ?_
  refine lv_iload_n C.x C.b dX8_flip_15 rfl (lv_at hl 2 rfl) ?_
  have hM9 : kCs f (nW G sp nA tA aN aT cc fc) := hM.pick [1, 2, 3] (by decide) ⟨rfl, rfl, rfl, trivial⟩
  refine k_calli (va_runVN (As := [.int b]) (rest := []) C.1 (kX3_hasCorner l G B0 f sp nA tA aN aT cc fc b hM9 hc9 hF9) ⟨va_cnB 1 C.ts gX8_flip_X3_hasCorner_n76 rfl rfl rfl (C.2.1.2.2.1 _ (show ((RX8, 76, yX3_hasCorner, "Koebehall") : String × Nat × MethodName × String) ∈ kNestM by decide +kernel)) (C.ts _ lk_X8_flip_in_RX3) hdX8_flip_X3_hasCorner ⟨Nat.le_of_ble_eq_true rfl, Nat.le_of_ble_eq_true rfl⟩, C.ts _ lk_X8_flip_im_X3_hasCorner, C.ts _ lk_X8_flip_se_X3_hasCorner⟩ (k_preV C hX (hM.at 1 rfl) rfl) rfl rfl hl.1 rfl (lv_room (Nat.le_of_ble_eq_true rfl)) dX8_flip_16 ⟨Nat.le_of_ble_eq_true rfl, Nat.le_of_ble_eq_true rfl⟩) hX (fun r16 f16 H locs hp16 hX => ?_)
  obtain ⟨hr16, hf16⟩ := hp16
  rw [hf16] at hX
  refine k_topi (y := (kbI (mIn b cc))) hr16 ?_
  refine lv_if_ne (tgt := 32) C.x C.b dX8_flip_19 (by decide) (fun c_19 => ?_) (fun c_19 => ?_)
  rotate_left
  · exact absurd (hv.2) (kbI_0 c_19)
  refine lv_aload_n C.x C.b dX8_flip_32 rfl (lv_at hl 0 rfl) ?_
  refine k_get (X := RX8) (T := TX8) (N := 7) (v := .ref sp) C hX (hM.at 0 rfl) rfl hin_X8_flip_RX8 0 (by decide) lk_X8_flip_f10 (fun _ h9 => h9) rfl dX8_flip_33 ?_
  refine lv_iload_n C.x C.b dX8_flip_36 rfl (lv_at hl 1 rfl) ?_
  refine lv_iload_n C.x C.b dX8_flip_37 rfl (lv_at hl 2 rfl) ?_
  have hM9 : kCs f (nW G sp nA tA aN aT cc fc) := hM.pick [1, 2, 3] (by decide) ⟨rfl, rfl, rfl, trivial⟩
  refine k_calli (va_runVN (As := [.int a, .int b]) (rest := []) C.1 (kX3_canFlip l G B0 f sp nA tA aN aT cc fc a b hM9 hc9 hF9) ⟨va_cnB 2 C.ts gX8_flip_X3_canFlip_n81 rfl rfl rfl (C.2.1.2.2.1 _ (show ((RX8, 81, yX3_canFlip, "Koebehall") : String × Nat × MethodName × String) ∈ kNestM by decide +kernel)) (C.ts _ lk_X8_flip_in_RX3) hdX8_flip_X3_canFlip ⟨Nat.le_of_ble_eq_true rfl, Nat.le_of_ble_eq_true rfl⟩, C.ts _ lk_X8_flip_im_X3_canFlip, C.ts _ lk_X8_flip_se_X3_canFlip⟩ (k_preV C hX (hM.at 1 rfl) rfl) rfl rfl hl.1 rfl (lv_room (Nat.le_of_ble_eq_true rfl)) dX8_flip_38 ⟨Nat.le_of_ble_eq_true rfl, Nat.le_of_ble_eq_true rfl⟩) hX (fun r38 f38 H locs hp38 hX => ?_)
  obtain ⟨hr38, hf38⟩ := hp38
  rw [hf38] at hX
  refine k_topi (y := (kbI (nCanFlip aT cc a b))) hr38 ?_
  refine lv_if_ne (tgt := 54) C.x C.b dX8_flip_41 (by decide) (fun c_41 => ?_) (fun c_41 => ?_)
  · exact absurd (kbI_1 c_41) (hw)
  exact k_thS (cls := "java/lang/IllegalStateException") (text := "they are no neighbours, or it cannot be done") C hst hX hl.1 hout lk_X8_flip_cl67 lk_X8_flip_ini_IllegalStateException (by decide +kernel) (by decide) hat_X8_flip_71_IllegalStateException hng_RX8_67_71_IllegalStateException dX8_flip_44 dX8_flip_47 dX8_flip_48 dX8_flip_50 dX8_flip_53 (Nat.le_of_ble_eq_true rfl) (Nat.le_of_ble_eq_true rfl) (Nat.le_of_ble_eq_true rfl) (Nat.le_of_ble_eq_true rfl) hlocks hQ (rfl) (Nat.le_of_ble_eq_true rfl) (Nat.le_of_ble_eq_true rfl)

theorem lk_X8_corner_cl56 : Cond.classLink RX8 56 "java/lang/IndexOutOfBoundsException" ∈ wsX8_corner := by decide +kernel
theorem lk_X8_corner_ini_IndexOutOfBoundsException : Cond.initialized "java/lang/IndexOutOfBoundsException" ∈ wsX8_corner := by decide +kernel
theorem hat_X8_corner_60_IndexOutOfBoundsException : ∀ w ∈ (vx_atS RX8 60 "java/lang/IndexOutOfBoundsException" kChain).filter goodWord, w ∈ wsX8_corner := by
  intro w hw
  unfold wsX8_corner
  simp only [List.mem_cons, List.mem_append, hw, or_true, true_or]
abbrev rmX8_corner_b1 : Room := { frames := 6, cells := 1, slots := 6, locals := 90 }
set_option maxHeartbeats 4000000 in
set_option maxRecDepth 100000 in
/-- X8_corner_b1 -/
theorem kX8_corner_b1 (l : Launch) (hst : l.stackTraces = false) (G : kG) (B0 : Nat) (f : kH) (h sp nA tA : Nat) (vd vg vw vm vp vn : Value) (aN aT : Nat → Int32) (cc fc : Nat) (a b : Int32) (hM : kCs f [(h, .inr (8, [.ref sp, vd, vg, vw, vm, vp, vn])), (sp, .inr (3, [.ref nA, .ref tA, .int (nI cc), .int (nI fc)])), (nA, kaI G 84 aN), (tA, kaI G 256 aT)]) (hc9 : cc ≤ 16) (hF9 : fc ≤ 28) (hv : ¬ (mIn a fc ∧ mRg b (0) 2)) : vx_Met l yX8_corner wsX8_corner (rmX8_corner_b1) (kP G B0 f [.ref h, .int a, .int b]) kNo (kXC G B0 "java/lang/IndexOutOfBoundsException" (fun f1 => f1 = f)) 1 6 (kAb B0) := by
  refine kMetX (cc := cX8_corner) (maxL := 3) (ret := (some .int)) (by decide) rfl (Nat.le_of_ble_eq_true rfl) ?_
  intro p e s m args below meth c H locs Q ls C hX hl hr hlocks hnm hQ hout
  have hl : lv_has ls 3 [(0, .ref h), (1, .int a), (2, .int b)] := hl
  refine lv_aload_n C.x C.b dX8_corner_0 rfl (lv_at hl 0 rfl) ?_
  refine k_get (X := RX8) (T := TX8) (N := 7) (v := .ref sp) C hX (hM.at 0 rfl) rfl hin_X8_corner_RX8 0 (by decide) lk_X8_corner_f10 (fun _ h9 => h9) rfl dX8_corner_1 ?_
  refine lv_iload_n C.x C.b dX8_corner_4 rfl (lv_at hl 1 rfl) ?_
  have hM9 : kCs f (nW G sp nA tA aN aT cc fc) := hM.pick [1, 2, 3] (by decide) ⟨rfl, rfl, rfl, trivial⟩
  refine k_calli (va_runVN (As := [.int a]) (rest := []) C.1 (kX3_hasFace l G B0 f sp nA tA aN aT cc fc a hM9 hc9 hF9) ⟨va_cnB 1 C.ts gX8_corner_X3_hasFace_n52 rfl rfl rfl (C.2.1.2.2.1 _ (show ((RX8, 52, yX3_hasFace, "Koebehall") : String × Nat × MethodName × String) ∈ kNestM by decide +kernel)) (C.ts _ lk_X8_corner_in_RX3) hdX8_corner_X3_hasFace ⟨Nat.le_of_ble_eq_true rfl, Nat.le_of_ble_eq_true rfl⟩, C.ts _ lk_X8_corner_im_X3_hasFace, C.ts _ lk_X8_corner_se_X3_hasFace⟩ (k_preV C hX (hM.at 1 rfl) rfl) rfl rfl hl.1 rfl (lv_room (Nat.le_of_ble_eq_true rfl)) dX8_corner_5 ⟨Nat.le_of_ble_eq_true rfl, Nat.le_of_ble_eq_true rfl⟩) hX (fun r5 f5 H locs hp5 hX => ?_)
  obtain ⟨hr5, hf5⟩ := hp5
  rw [hf5] at hX
  refine k_topi (y := (kbI (mIn a fc))) hr5 ?_
  refine lv_if_eq (tgt := 20) C.x C.b dX8_corner_8 (by decide) (fun c_8 => ?_) (fun c_8 => ?_)
  · skip
    have c_8 := kbI_0 c_8
    exact k_thS (cls := "java/lang/IndexOutOfBoundsException") (text := "there is no such face or place") C hst hX hl.1 hout lk_X8_corner_cl56 lk_X8_corner_ini_IndexOutOfBoundsException (by decide +kernel) (by decide) hat_X8_corner_60_IndexOutOfBoundsException hng_RX8_56_60_IndexOutOfBoundsException dX8_corner_20 dX8_corner_23 dX8_corner_24 dX8_corner_26 dX8_corner_29 (Nat.le_of_ble_eq_true rfl) (Nat.le_of_ble_eq_true rfl) (Nat.le_of_ble_eq_true rfl) (Nat.le_of_ble_eq_true rfl) hlocks hQ (rfl) (Nat.le_of_ble_eq_true rfl) (Nat.le_of_ble_eq_true rfl)
  · skip
    have c_8 := kbI_1 c_8
    refine lv_iload_n C.x C.b dX8_corner_11 rfl (lv_at hl 2 rfl) ?_
    refine lv_if_lt (tgt := 20) C.x C.b dX8_corner_12 (by decide) (fun c_12 => ?_) (fun c_12 => ?_)
    · skip
      exact k_thS (cls := "java/lang/IndexOutOfBoundsException") (text := "there is no such face or place") C hst hX hl.1 hout lk_X8_corner_cl56 lk_X8_corner_ini_IndexOutOfBoundsException (by decide +kernel) (by decide) hat_X8_corner_60_IndexOutOfBoundsException hng_RX8_56_60_IndexOutOfBoundsException dX8_corner_20 dX8_corner_23 dX8_corner_24 dX8_corner_26 dX8_corner_29 (Nat.le_of_ble_eq_true rfl) (Nat.le_of_ble_eq_true rfl) (Nat.le_of_ble_eq_true rfl) (Nat.le_of_ble_eq_true rfl) hlocks hQ (rfl) (Nat.le_of_ble_eq_true rfl) (Nat.le_of_ble_eq_true rfl)
    · skip
      refine lv_iload_n C.x C.b dX8_corner_15 rfl (lv_at hl 2 rfl) ?_
      refine lv_iconst (v := nI 2) C.x C.b dX8_corner_16 (by decide) ?_
      refine lv_icmp_le (tgt := 30) C.x C.b dX8_corner_17 (by decide) (fun c_17 => ?_) (fun c_17 => ?_)
      · skip
        exact absurd ⟨c_8, mRg_of (k := 2) (by decide) c_12 c_17⟩ hv
      · skip
        exact k_thS (cls := "java/lang/IndexOutOfBoundsException") (text := "there is no such face or place") C hst hX hl.1 hout lk_X8_corner_cl56 lk_X8_corner_ini_IndexOutOfBoundsException (by decide +kernel) (by decide) hat_X8_corner_60_IndexOutOfBoundsException hng_RX8_56_60_IndexOutOfBoundsException dX8_corner_20 dX8_corner_23 dX8_corner_24 dX8_corner_26 dX8_corner_29 (Nat.le_of_ble_eq_true rfl) (Nat.le_of_ble_eq_true rfl) (Nat.le_of_ble_eq_true rfl) (Nat.le_of_ble_eq_true rfl) hlocks hQ (rfl) (Nat.le_of_ble_eq_true rfl) (Nat.le_of_ble_eq_true rfl)

theorem lk_X8_around_cl56 : Cond.classLink RX8 56 "java/lang/IndexOutOfBoundsException" ∈ wsX8_around := by decide +kernel
theorem lk_X8_around_ini_IndexOutOfBoundsException : Cond.initialized "java/lang/IndexOutOfBoundsException" ∈ wsX8_around := by decide +kernel
theorem hat_X8_around_60_IndexOutOfBoundsException : ∀ w ∈ (vx_atS RX8 60 "java/lang/IndexOutOfBoundsException" kChain).filter goodWord, w ∈ wsX8_around := by
  intro w hw
  unfold wsX8_around
  simp only [List.mem_cons, List.mem_append, hw, or_true, true_or]
abbrev rmX8_around_b1 : Room := { frames := 6, cells := 1, slots := 6, locals := 90 }
set_option maxHeartbeats 4000000 in
set_option maxRecDepth 100000 in
/-- X8_around_b1 -/
theorem kX8_around_b1 (l : Launch) (hst : l.stackTraces = false) (G : kG) (B0 : Nat) (f : kH) (h sp nA tA : Nat) (vd vg vw vm vp vn : Value) (aN aT : Nat → Int32) (cc fc : Nat) (a b : Int32) (hM : kCs f [(h, .inr (8, [.ref sp, vd, vg, vw, vm, vp, vn])), (sp, .inr (3, [.ref nA, .ref tA, .int (nI cc), .int (nI fc)])), (nA, kaI G 84 aN), (tA, kaI G 256 aT)]) (hc9 : cc ≤ 16) (hF9 : fc ≤ 28) (hv : ¬ (mIn a cc ∧ ¬ b < 0)) : vx_Met l yX8_around wsX8_around (rmX8_around_b1) (kP G B0 f [.ref h, .int a, .int b]) kNo (kXC G B0 "java/lang/IndexOutOfBoundsException" (fun f1 => f1 = f)) 1 6 (kAb B0) := by
  refine kMetX (cc := cX8_around) (maxL := 3) (ret := (some .int)) (by decide) rfl (Nat.le_of_ble_eq_true rfl) ?_
  intro p e s m args below meth c H locs Q ls C hX hl hr hlocks hnm hQ hout
  have hl : lv_has ls 3 [(0, .ref h), (1, .int a), (2, .int b)] := hl
  refine lv_aload_n C.x C.b dX8_around_0 rfl (lv_at hl 0 rfl) ?_
  refine k_get (X := RX8) (T := TX8) (N := 7) (v := .ref sp) C hX (hM.at 0 rfl) rfl hin_X8_around_RX8 0 (by decide) lk_X8_around_f10 (fun _ h9 => h9) rfl dX8_around_1 ?_
  refine lv_iload_n C.x C.b dX8_around_4 rfl (lv_at hl 1 rfl) ?_
  have hM9 : kCs f (nW G sp nA tA aN aT cc fc) := hM.pick [1, 2, 3] (by decide) ⟨rfl, rfl, rfl, trivial⟩
  refine k_calli (va_runVN (As := [.int a]) (rest := []) C.1 (kX3_hasCorner l G B0 f sp nA tA aN aT cc fc a hM9 hc9 hF9) ⟨va_cnB 1 C.ts gX8_around_X3_hasCorner_n76 rfl rfl rfl (C.2.1.2.2.1 _ (show ((RX8, 76, yX3_hasCorner, "Koebehall") : String × Nat × MethodName × String) ∈ kNestM by decide +kernel)) (C.ts _ lk_X8_around_in_RX3) hdX8_around_X3_hasCorner ⟨Nat.le_of_ble_eq_true rfl, Nat.le_of_ble_eq_true rfl⟩, C.ts _ lk_X8_around_im_X3_hasCorner, C.ts _ lk_X8_around_se_X3_hasCorner⟩ (k_preV C hX (hM.at 1 rfl) rfl) rfl rfl hl.1 rfl (lv_room (Nat.le_of_ble_eq_true rfl)) dX8_around_5 ⟨Nat.le_of_ble_eq_true rfl, Nat.le_of_ble_eq_true rfl⟩) hX (fun r5 f5 H locs hp5 hX => ?_)
  obtain ⟨hr5, hf5⟩ := hp5
  rw [hf5] at hX
  refine k_topi (y := (kbI (mIn a cc))) hr5 ?_
  refine lv_if_eq (tgt := 15) C.x C.b dX8_around_8 (by decide) (fun c_8 => ?_) (fun c_8 => ?_)
  · skip
    have c_8 := kbI_0 c_8
    exact k_thS (cls := "java/lang/IndexOutOfBoundsException") (text := "there is no such corner, or place is below 0") C hst hX hl.1 hout lk_X8_around_cl56 lk_X8_around_ini_IndexOutOfBoundsException (by decide +kernel) (by decide) hat_X8_around_60_IndexOutOfBoundsException hng_RX8_56_60_IndexOutOfBoundsException dX8_around_15 dX8_around_18 dX8_around_19 dX8_around_21 dX8_around_24 (Nat.le_of_ble_eq_true rfl) (Nat.le_of_ble_eq_true rfl) (Nat.le_of_ble_eq_true rfl) (Nat.le_of_ble_eq_true rfl) hlocks hQ (rfl) (Nat.le_of_ble_eq_true rfl) (Nat.le_of_ble_eq_true rfl)
  · skip
    have c_8 := kbI_1 c_8
    refine lv_iload_n C.x C.b dX8_around_11 rfl (lv_at hl 2 rfl) ?_
    refine lv_if_ge (tgt := 25) C.x C.b dX8_around_12 (by decide) (fun c_12 => ?_) (fun c_12 => ?_)
    · skip
      exact absurd ⟨c_8, Int32.not_lt.mpr c_12⟩ hv
    · skip
      exact k_thS (cls := "java/lang/IndexOutOfBoundsException") (text := "there is no such corner, or place is below 0") C hst hX hl.1 hout lk_X8_around_cl56 lk_X8_around_ini_IndexOutOfBoundsException (by decide +kernel) (by decide) hat_X8_around_60_IndexOutOfBoundsException hng_RX8_56_60_IndexOutOfBoundsException dX8_around_15 dX8_around_18 dX8_around_19 dX8_around_21 dX8_around_24 (Nat.le_of_ble_eq_true rfl) (Nat.le_of_ble_eq_true rfl) (Nat.le_of_ble_eq_true rfl) (Nat.le_of_ble_eq_true rfl) hlocks hQ (rfl) (Nat.le_of_ble_eq_true rfl) (Nat.le_of_ble_eq_true rfl)

theorem lk_X8_net_cl56 : Cond.classLink RX8 56 "java/lang/IndexOutOfBoundsException" ∈ wsX8_net := by decide +kernel
theorem lk_X8_net_ini_IndexOutOfBoundsException : Cond.initialized "java/lang/IndexOutOfBoundsException" ∈ wsX8_net := by decide +kernel
theorem hat_X8_net_60_IndexOutOfBoundsException : ∀ w ∈ (vx_atS RX8 60 "java/lang/IndexOutOfBoundsException" kChain).filter goodWord, w ∈ wsX8_net := by
  intro w hw
  unfold wsX8_net
  simp only [List.mem_cons, List.mem_append, hw, or_true, true_or]
abbrev rmX8_net_b1 : Room := { frames := 6, cells := 1, slots := 6, locals := 90 }
set_option maxHeartbeats 4000000 in
set_option maxRecDepth 100000 in
/-- X8_net_b1 -/
theorem kX8_net_b1 (l : Launch) (hst : l.stackTraces = false) (G : kG) (B0 : Nat) (f : kH) (h sp nA tA : Nat) (vd vg vw vm vp vn : Value) (aN aT : Nat → Int32) (cc fc : Nat) (a : Int32) (hM : kCs f [(h, .inr (8, [.ref sp, vd, vg, vw, vm, vp, vn])), (sp, .inr (3, [.ref nA, .ref tA, .int (nI cc), .int (nI fc)])), (nA, kaI G 84 aN), (tA, kaI G 256 aT)]) (hc9 : cc ≤ 16) (hF9 : fc ≤ 28) (hv : ¬ mRg a (0) 4) : vx_Met l yX8_net wsX8_net (rmX8_net_b1) (kP G B0 f [.ref h, .int a]) kNo (kXC G B0 "java/lang/IndexOutOfBoundsException" (fun f1 => f1 = f)) 1 6 (kAb B0) := by
  refine kMetX (cc := cX8_net) (maxL := 2) (ret := (some .int)) (by decide) rfl (Nat.le_of_ble_eq_true rfl) ?_
  intro p e s m args below meth c H locs Q ls C hX hl hr hlocks hnm hQ hout
  have hl : lv_has ls 2 [(0, .ref h), (1, .int a)] := hl
  refine lv_iload_n C.x C.b dX8_net_0 rfl (lv_at hl 1 rfl) ?_
  refine lv_tableOut (tgt := 76) C.x C.b dX8_net_1 (by omega) (by decide) ?_
  exact k_thS (cls := "java/lang/IndexOutOfBoundsException") (text := "what is out of range") C hst hX hl.1 hout lk_X8_net_cl56 lk_X8_net_ini_IndexOutOfBoundsException (by decide +kernel) (by decide) hat_X8_net_60_IndexOutOfBoundsException hng_RX8_56_60_IndexOutOfBoundsException dX8_net_76 dX8_net_79 dX8_net_80 dX8_net_82 dX8_net_85 (Nat.le_of_ble_eq_true rfl) (Nat.le_of_ble_eq_true rfl) (Nat.le_of_ble_eq_true rfl) (Nat.le_of_ble_eq_true rfl) hlocks hQ (rfl) (Nat.le_of_ble_eq_true rfl) (Nat.le_of_ble_eq_true rfl)

theorem lk_X8_disk_cl124 : Cond.classLink RX8 124 "java/lang/IllegalArgumentException" ∈ wsX8_disk := by decide +kernel
theorem lk_X8_disk_ini_IllegalArgumentException : Cond.initialized "java/lang/IllegalArgumentException" ∈ wsX8_disk := by decide +kernel
theorem hat_X8_disk_128_IllegalArgumentException : ∀ w ∈ (vx_atS RX8 128 "java/lang/IllegalArgumentException" kChain).filter goodWord, w ∈ wsX8_disk := by
  intro w hw
  unfold wsX8_disk
  simp only [List.mem_cons, List.mem_append, hw, or_true, true_or]
theorem hng_RX8_124_128_IllegalArgumentException : (∀ w ∈ (vx_atS RX8 128 "java/lang/IllegalArgumentException" kChain).filter (fun w => !goodWord w), w ∈ kBad "java/lang/IllegalArgumentException") ∧ ∀ w ∈ Cond.classLink RX8 124 "java/lang/IllegalArgumentException" :: Cond.initialized "java/lang/IllegalArgumentException" :: vx_atS RX8 128 "java/lang/IllegalArgumentException" kChain, vx_ot w = true := by decide +kernel
abbrev rmX8_disk_b1 : Room := { frames := 6, cells := 1, slots := 6, locals := 90 }
set_option maxHeartbeats 4000000 in
set_option maxRecDepth 100000 in
/-- X8_disk_b1 -/
theorem kX8_disk_b1 (l : Launch) (hst : l.stackTraces = false) (G : kG) (B0 : Nat) (f : kH) (h dl sz : Nat) (vs vg vw vm vp vn : Value) (w : Nat → Nat) (dx dy dr : Nat → Int64) (x1 x2 x3 : Int32) (hM : kCs f [(h, .inr (8, [vs, .ref dl, vg, vw, vm, vp, vn]))]) (hdl : kLs G f dl sz w (dsE dx dy dr)) (hsz : sz ≤ 16) (hw : ¬ (cIn x1.toInt64 1000000000 ∧ cIn x2.toInt64 1000000000 ∧ ¬ x3 < nI 1 ∧ ¬ nI 1000000000 < x3)) : vx_Met l yX8_disk wsX8_disk (rmX8_disk_b1) (kP G B0 f [.ref h, .int x1, .int x2, .int x3]) kNo (kXC G B0 "java/lang/IllegalArgumentException" (fun f1 => f1 = f)) 1 6 (kAb B0) := by
  refine kMetX (cc := cX8_disk) (maxL := 4) (ret := (some .int)) (by decide) rfl (Nat.le_of_ble_eq_true rfl) ?_
  intro p e s m args below meth c H locs Q ls C hX hl hr hlocks hnm hQ hout
  have hl : lv_has ls 4 [(0, .ref h), (1, .int x1), (2, .int x2), (3, .int x3)] := hl
  refine lv_iload_n C.x C.b dX8_disk_0 rfl (lv_at hl 1 rfl) ?_
  refine lv_iload_n C.x C.b dX8_disk_1 rfl (lv_at hl 2 rfl) ?_
  refine lv_iload_n C.x C.b dX8_disk_2 rfl (lv_at hl 3 rfl) ?_
  refine k_calli (va_runS (As := [.int x1, .int x2, .int x3]) (rest := []) C.1 (kX8_isDisk l G B0 f x1 x2 x3) (va_cwS 3 C.ts gX8_disk_X8_isDisk rfl rfl rfl (hdX8_disk_X8_isDisk) ⟨Nat.le_of_ble_eq_true rfl, Nat.le_of_ble_eq_true rfl⟩) (k_preS C hX) rfl rfl hl.1 rfl (lv_room (Nat.le_of_ble_eq_true rfl)) dX8_disk_3 ⟨Nat.le_of_ble_eq_true rfl, Nat.le_of_ble_eq_true rfl⟩) hX (fun r3 f3 H locs hp3 hX => ?_)
  obtain ⟨hr3, hf3⟩ := hp3
  rw [hf3] at hX
  refine k_topi (y := (kbI (cIn x1.toInt64 1000000000 ∧ cIn x2.toInt64 1000000000 ∧ ¬ x3 < nI 1 ∧ ¬ nI 1000000000 < x3))) hr3 ?_
  refine lv_if_ne (tgt := 19) C.x C.b dX8_disk_6 (by decide) (fun c_6 => ?_) (fun c_6 => ?_)
  · exact absurd (kbI_1 c_6) (hw)
  exact k_thS (cls := "java/lang/IllegalArgumentException") (text := "an argument is out of range") C hst hX hl.1 hout lk_X8_disk_cl124 lk_X8_disk_ini_IllegalArgumentException (by decide +kernel) (by decide) hat_X8_disk_128_IllegalArgumentException hng_RX8_124_128_IllegalArgumentException dX8_disk_9 dX8_disk_12 dX8_disk_13 dX8_disk_15 dX8_disk_18 (Nat.le_of_ble_eq_true rfl) (Nat.le_of_ble_eq_true rfl) (Nat.le_of_ble_eq_true rfl) (Nat.le_of_ble_eq_true rfl) hlocks hQ (rfl) (Nat.le_of_ble_eq_true rfl) (Nat.le_of_ble_eq_true rfl)

theorem lk_X8_disk_cl67 : Cond.classLink RX8 67 "java/lang/IllegalStateException" ∈ wsX8_disk := by decide +kernel
theorem lk_X8_disk_ini_IllegalStateException : Cond.initialized "java/lang/IllegalStateException" ∈ wsX8_disk := by decide +kernel
theorem hat_X8_disk_71_IllegalStateException : ∀ w ∈ (vx_atS RX8 71 "java/lang/IllegalStateException" kChain).filter goodWord, w ∈ wsX8_disk := by
  intro w hw
  unfold wsX8_disk
  simp only [List.mem_cons, List.mem_append, hw, or_true, true_or]
abbrev rmX8_disk_b2 : Room := { frames := 6, cells := 1, slots := 6, locals := 90 }
set_option maxHeartbeats 4000000 in
set_option maxRecDepth 100000 in
/-- X8_disk_b2 -/
theorem kX8_disk_b2 (l : Launch) (hst : l.stackTraces = false) (G : kG) (B0 : Nat) (f : kH) (h dl sz : Nat) (vs vg vw vm vp vn : Value) (w : Nat → Nat) (dx dy dr : Nat → Int64) (x1 x2 x3 : Int32) (hM : kCs f [(h, .inr (8, [vs, .ref dl, vg, vw, vm, vp, vn]))]) (hdl : kLs G f dl sz w (dsE dx dy dr)) (hsz : sz ≤ 16) (hw : cIn x1.toInt64 1000000000 ∧ cIn x2.toInt64 1000000000 ∧ ¬ x3 < nI 1 ∧ ¬ nI 1000000000 < x3) (hf : 16 ≤ sz) : vx_Met l yX8_disk wsX8_disk (rmX8_disk_b2) (kP G B0 f [.ref h, .int x1, .int x2, .int x3]) kNo (kXC G B0 "java/lang/IllegalStateException" (fun f1 => f1 = f)) 1 6 (kAb B0) := by
  refine kMetX (cc := cX8_disk) (maxL := 4) (ret := (some .int)) (by decide) rfl (Nat.le_of_ble_eq_true rfl) ?_
  intro p e s m args below meth c H locs Q ls C hX hl hr hlocks hnm hQ hout
  have hl : lv_has ls 4 [(0, .ref h), (1, .int x1), (2, .int x2), (3, .int x3)] := hl
  refine lv_iload_n C.x C.b dX8_disk_0 rfl (lv_at hl 1 rfl) ?_
  refine lv_iload_n C.x C.b dX8_disk_1 rfl (lv_at hl 2 rfl) ?_
  refine lv_iload_n C.x C.b dX8_disk_2 rfl (lv_at hl 3 rfl) ?_
  refine k_calli (va_runS (As := [.int x1, .int x2, .int x3]) (rest := []) C.1 (kX8_isDisk l G B0 f x1 x2 x3) (va_cwS 3 C.ts gX8_disk_X8_isDisk rfl rfl rfl (hdX8_disk_X8_isDisk) ⟨Nat.le_of_ble_eq_true rfl, Nat.le_of_ble_eq_true rfl⟩) (k_preS C hX) rfl rfl hl.1 rfl (lv_room (Nat.le_of_ble_eq_true rfl)) dX8_disk_3 ⟨Nat.le_of_ble_eq_true rfl, Nat.le_of_ble_eq_true rfl⟩) hX (fun r3 f3 H locs hp3 hX => ?_)
  obtain ⟨hr3, hf3⟩ := hp3
  rw [hf3] at hX
  refine k_topi (y := (kbI (cIn x1.toInt64 1000000000 ∧ cIn x2.toInt64 1000000000 ∧ ¬ x3 < nI 1 ∧ ¬ nI 1000000000 < x3))) hr3 ?_
  refine lv_if_ne (tgt := 19) C.x C.b dX8_disk_6 (by decide) (fun c_6 => ?_) (fun c_6 => ?_)
  rotate_left
  · exact absurd (hw) (kbI_0 c_6)
  refine lv_aload_n C.x C.b dX8_disk_19 rfl (lv_at hl 0 rfl) ?_
  refine k_get (X := RX8) (T := TX8) (N := 7) (v := .ref dl) C hX (hM.at 0 rfl) rfl hin_X8_disk_RX8 1 (by decide) lk_X8_disk_f19 (fun _ h9 => h9) rfl dX8_disk_20 ?_
  refine k_calli (va_runV (As := []) (rest := []) C.1 (kSizeL l G B0 f hdl) (cwV 0 C.ts gX8_disk_Jx4a65c_size_8abf5 rfl rfl rfl ⟨rfl, hdX8_disk_Jx4a65c_size_8abf5⟩ ⟨Nat.le_of_ble_eq_true rfl, Nat.le_of_ble_eq_true rfl⟩) (k_preV C hX (hdl.list.choose_spec) rfl) rfl rfl hl.1 rfl (lv_room (Nat.le_of_ble_eq_true rfl)) dX8_disk_23 ⟨Nat.le_of_ble_eq_true rfl, Nat.le_of_ble_eq_true rfl⟩) hX (fun r23 f23 H locs hp23 hX => ?_)
  obtain ⟨hr23, hf23⟩ := hp23
  rw [hf23] at hX
  refine k_topi (y := (nI sz)) hr23 ?_
  refine lv_bipush (v := nI 16) C.x C.b dX8_disk_26 (by decide) ?_
  refine lv_icmp_lt (tgt := 41) C.x C.b dX8_disk_28 (by decide) (fun c_28 => ?_) (fun c_28 => ?_)
  · skip
    have c_28 : sz < 16 := (nI_ltI (by omega) (by omega)).mp c_28
    omega
  have c_28 : ¬ (sz < 16) := fun h9 => c_28 ((nI_ltI (by omega) (by omega)).mpr h9)
  exact k_thS (cls := "java/lang/IllegalStateException") (text := "there are 16") C hst hX hl.1 hout lk_X8_disk_cl67 lk_X8_disk_ini_IllegalStateException (by decide +kernel) (by decide) hat_X8_disk_71_IllegalStateException hng_RX8_67_71_IllegalStateException dX8_disk_31 dX8_disk_34 dX8_disk_35 dX8_disk_37 dX8_disk_40 (Nat.le_of_ble_eq_true rfl) (Nat.le_of_ble_eq_true rfl) (Nat.le_of_ble_eq_true rfl) (Nat.le_of_ble_eq_true rfl) hlocks hQ (rfl) (Nat.le_of_ble_eq_true rfl) (Nat.le_of_ble_eq_true rfl)

theorem lk_X8_move_cl56 : Cond.classLink RX8 56 "java/lang/IndexOutOfBoundsException" ∈ wsX8_move := by decide +kernel
theorem lk_X8_move_ini_IndexOutOfBoundsException : Cond.initialized "java/lang/IndexOutOfBoundsException" ∈ wsX8_move := by decide +kernel
theorem hat_X8_move_60_IndexOutOfBoundsException : ∀ w ∈ (vx_atS RX8 60 "java/lang/IndexOutOfBoundsException" kChain).filter goodWord, w ∈ wsX8_move := by
  intro w hw
  unfold wsX8_move
  simp only [List.mem_cons, List.mem_append, hw, or_true, true_or]
abbrev rmX8_move_b1 : Room := { frames := 6, cells := 1, slots := 6, locals := 90 }
set_option maxHeartbeats 4000000 in
set_option maxRecDepth 100000 in
/-- X8_move_b1 -/
theorem kX8_move_b1 (l : Launch) (hst : l.stackTraces = false) (G : kG) (B0 : Nat) (f : kH) (h dl sz : Nat) (vs vg vw vm vp vn : Value) (w : Nat → Nat) (dx dy dr : Nat → Int64) (a x1 x2 x3 : Int32) (hM : kCs f [(h, .inr (8, [vs, .ref dl, vg, vw, vm, vp, vn]))]) (hdl : kLs G f dl sz w (dsE dx dy dr)) (hsz : sz ≤ 16) (hv : ¬ mIn a sz) : vx_Met l yX8_move wsX8_move (rmX8_move_b1) (kP G B0 f [.ref h, .int a, .int x1, .int x2, .int x3]) kNo (kXC G B0 "java/lang/IndexOutOfBoundsException" (fun f1 => f1 = f)) 1 6 (kAb B0) := by
  refine kMetX (cc := cX8_move) (maxL := 6) (ret := (some .int)) (by decide) rfl (Nat.le_of_ble_eq_true rfl) ?_
  intro p e s m args below meth c H locs Q ls C hX hl hr hlocks hnm hQ hout
  have hl : lv_has ls 6 [(0, .ref h), (1, .int a), (2, .int x1), (3, .int x2), (4, .int x3)] := hl
  refine lv_aload_n C.x C.b dX8_move_0 rfl (lv_at hl 0 rfl) ?_
  refine lv_iload_n C.x C.b dX8_move_1 rfl (lv_at hl 1 rfl) ?_
  refine k_calli (va_runV (As := [.int a]) (rest := []) C.1 (kX8_hasDisk l G B0 f h dl sz vs vg vw vm vp vn w dx dy dr a hM hdl hsz) (cwV 1 C.ts gX8_move_X8_hasDisk rfl rfl rfl ⟨rfl, hdX8_move_X8_hasDisk⟩ ⟨Nat.le_of_ble_eq_true rfl, Nat.le_of_ble_eq_true rfl⟩) (k_preV C hX (hM.at 0 rfl) rfl) rfl rfl hl.1 rfl (lv_room (Nat.le_of_ble_eq_true rfl)) dX8_move_2 ⟨Nat.le_of_ble_eq_true rfl, Nat.le_of_ble_eq_true rfl⟩) hX (fun r2 f2 H locs hp2 hX => ?_)
  obtain ⟨hr2, hf2⟩ := hp2
  rw [hf2] at hX
  refine k_topi (y := (kbI (mIn a sz))) hr2 ?_
  refine lv_if_ne (tgt := 18) C.x C.b dX8_move_5 (by decide) (fun c_5 => ?_) (fun c_5 => ?_)
  · exact absurd (kbI_1 c_5) (hv)
  exact k_thS (cls := "java/lang/IndexOutOfBoundsException") (text := "there is no such disk") C hst hX hl.1 hout lk_X8_move_cl56 lk_X8_move_ini_IndexOutOfBoundsException (by decide +kernel) (by decide) hat_X8_move_60_IndexOutOfBoundsException hng_RX8_56_60_IndexOutOfBoundsException dX8_move_8 dX8_move_11 dX8_move_12 dX8_move_14 dX8_move_17 (Nat.le_of_ble_eq_true rfl) (Nat.le_of_ble_eq_true rfl) (Nat.le_of_ble_eq_true rfl) (Nat.le_of_ble_eq_true rfl) hlocks hQ (rfl) (Nat.le_of_ble_eq_true rfl) (Nat.le_of_ble_eq_true rfl)

theorem lk_X8_move_cl124 : Cond.classLink RX8 124 "java/lang/IllegalArgumentException" ∈ wsX8_move := by decide +kernel
theorem lk_X8_move_ini_IllegalArgumentException : Cond.initialized "java/lang/IllegalArgumentException" ∈ wsX8_move := by decide +kernel
theorem hat_X8_move_128_IllegalArgumentException : ∀ w ∈ (vx_atS RX8 128 "java/lang/IllegalArgumentException" kChain).filter goodWord, w ∈ wsX8_move := by
  intro w hw
  unfold wsX8_move
  simp only [List.mem_cons, List.mem_append, hw, or_true, true_or]
abbrev rmX8_move_b2 : Room := { frames := 6, cells := 1, slots := 6, locals := 90 }
set_option maxHeartbeats 4000000 in
set_option maxRecDepth 100000 in
/-- X8_move_b2 -/
theorem kX8_move_b2 (l : Launch) (hst : l.stackTraces = false) (G : kG) (B0 : Nat) (f : kH) (h dl sz : Nat) (vs vg vw vm vp vn : Value) (w : Nat → Nat) (dx dy dr : Nat → Int64) (a x1 x2 x3 : Int32) (hM : kCs f [(h, .inr (8, [vs, .ref dl, vg, vw, vm, vp, vn]))]) (hdl : kLs G f dl sz w (dsE dx dy dr)) (hsz : sz ≤ 16) (hv : mIn a sz) (hw : ¬ (cIn x1.toInt64 1000000000 ∧ cIn x2.toInt64 1000000000 ∧ ¬ x3 < nI 1 ∧ ¬ nI 1000000000 < x3)) : vx_Met l yX8_move wsX8_move (rmX8_move_b2) (kP G B0 f [.ref h, .int a, .int x1, .int x2, .int x3]) kNo (kXC G B0 "java/lang/IllegalArgumentException" (fun f1 => f1 = f)) 1 6 (kAb B0) := by
  refine kMetX (cc := cX8_move) (maxL := 6) (ret := (some .int)) (by decide) rfl (Nat.le_of_ble_eq_true rfl) ?_
  intro p e s m args below meth c H locs Q ls C hX hl hr hlocks hnm hQ hout
  have hl : lv_has ls 6 [(0, .ref h), (1, .int a), (2, .int x1), (3, .int x2), (4, .int x3)] := hl
  refine lv_aload_n C.x C.b dX8_move_0 rfl (lv_at hl 0 rfl) ?_
  refine lv_iload_n C.x C.b dX8_move_1 rfl (lv_at hl 1 rfl) ?_
  refine k_calli (va_runV (As := [.int a]) (rest := []) C.1 (kX8_hasDisk l G B0 f h dl sz vs vg vw vm vp vn w dx dy dr a hM hdl hsz) (cwV 1 C.ts gX8_move_X8_hasDisk rfl rfl rfl ⟨rfl, hdX8_move_X8_hasDisk⟩ ⟨Nat.le_of_ble_eq_true rfl, Nat.le_of_ble_eq_true rfl⟩) (k_preV C hX (hM.at 0 rfl) rfl) rfl rfl hl.1 rfl (lv_room (Nat.le_of_ble_eq_true rfl)) dX8_move_2 ⟨Nat.le_of_ble_eq_true rfl, Nat.le_of_ble_eq_true rfl⟩) hX (fun r2 f2 H locs hp2 hX => ?_)
  obtain ⟨hr2, hf2⟩ := hp2
  rw [hf2] at hX
  refine k_topi (y := (kbI (mIn a sz))) hr2 ?_
  refine lv_if_ne (tgt := 18) C.x C.b dX8_move_5 (by decide) (fun c_5 => ?_) (fun c_5 => ?_)
  rotate_left
  · exact absurd (hv) (kbI_0 c_5)
  refine lv_iload_n C.x C.b dX8_move_18 rfl (lv_at hl 2 rfl) ?_
  refine lv_iload_n C.x C.b dX8_move_19 rfl (lv_at hl 3 rfl) ?_
  refine lv_iload C.x C.b dX8_move_20 (lv_at hl 4 rfl) ?_
  refine k_calli (va_runS (As := [.int x1, .int x2, .int x3]) (rest := []) C.1 (kX8_isDisk l G B0 f x1 x2 x3) (va_cwS 3 C.ts gX8_move_X8_isDisk rfl rfl rfl (hdX8_move_X8_isDisk) ⟨Nat.le_of_ble_eq_true rfl, Nat.le_of_ble_eq_true rfl⟩) (k_preS C hX) rfl rfl hl.1 rfl (lv_room (Nat.le_of_ble_eq_true rfl)) dX8_move_22 ⟨Nat.le_of_ble_eq_true rfl, Nat.le_of_ble_eq_true rfl⟩) hX (fun r22 f22 H locs hp22 hX => ?_)
  obtain ⟨hr22, hf22⟩ := hp22
  rw [hf22] at hX
  refine k_topi (y := (kbI (cIn x1.toInt64 1000000000 ∧ cIn x2.toInt64 1000000000 ∧ ¬ x3 < nI 1 ∧ ¬ nI 1000000000 < x3))) hr22 ?_
  refine lv_if_ne (tgt := 38) C.x C.b dX8_move_25 (by decide) (fun c_25 => ?_) (fun c_25 => ?_)
  · exact absurd (kbI_1 c_25) (hw)
  exact k_thS (cls := "java/lang/IllegalArgumentException") (text := "an argument is out of range") C hst hX hl.1 hout lk_X8_move_cl124 lk_X8_move_ini_IllegalArgumentException (by decide +kernel) (by decide) hat_X8_move_128_IllegalArgumentException hng_RX8_124_128_IllegalArgumentException dX8_move_28 dX8_move_31 dX8_move_32 dX8_move_34 dX8_move_37 (Nat.le_of_ble_eq_true rfl) (Nat.le_of_ble_eq_true rfl) (Nat.le_of_ble_eq_true rfl) (Nat.le_of_ble_eq_true rfl) hlocks hQ (rfl) (Nat.le_of_ble_eq_true rfl) (Nat.le_of_ble_eq_true rfl)

theorem lk_X8_lie_cl56 : Cond.classLink RX8 56 "java/lang/IndexOutOfBoundsException" ∈ wsX8_lie := by decide +kernel
theorem lk_X8_lie_ini_IndexOutOfBoundsException : Cond.initialized "java/lang/IndexOutOfBoundsException" ∈ wsX8_lie := by decide +kernel
theorem hat_X8_lie_60_IndexOutOfBoundsException : ∀ w ∈ (vx_atS RX8 60 "java/lang/IndexOutOfBoundsException" kChain).filter goodWord, w ∈ wsX8_lie := by
  intro w hw
  unfold wsX8_lie
  simp only [List.mem_cons, List.mem_append, hw, or_true, true_or]
abbrev rmX8_lie_b1 : Room := { frames := 6, cells := 1, slots := 6, locals := 90 }
set_option maxHeartbeats 4000000 in
set_option maxRecDepth 100000 in
/-- X8_lie_b1 -/
theorem kX8_lie_b1 (l : Launch) (hst : l.stackTraces = false) (G : kG) (B0 : Nat) (f : kH) (h dl sz : Nat) (vs vg vw vm vp vn : Value) (w : Nat → Nat) (dx dy dr : Nat → Int64) (a b : Int32) (hM : kCs f [(h, .inr (8, [vs, .ref dl, vg, vw, vm, vp, vn]))]) (hdl : kLs G f dl sz w (dsE dx dy dr)) (hsz : sz ≤ 16) (hv : ¬ (mIn a sz ∧ mIn b sz)) : vx_Met l yX8_lie wsX8_lie (rmX8_lie_b1) (kP G B0 f [.ref h, .int a, .int b]) kNo (kXC G B0 "java/lang/IndexOutOfBoundsException" (fun f1 => f1 = f)) 1 6 (kAb B0) := by
  refine kMetX (cc := cX8_lie) (maxL := 3) (ret := (some .int)) (by decide) rfl (Nat.le_of_ble_eq_true rfl) ?_
  intro p e s m args below meth c H locs Q ls C hX hl hr hlocks hnm hQ hout
  have hl : lv_has ls 3 [(0, .ref h), (1, .int a), (2, .int b)] := hl
  refine lv_aload_n C.x C.b dX8_lie_0 rfl (lv_at hl 0 rfl) ?_
  refine lv_iload_n C.x C.b dX8_lie_1 rfl (lv_at hl 1 rfl) ?_
  refine k_calli (va_runV (As := [.int a]) (rest := []) C.1 (kX8_hasDisk l G B0 f h dl sz vs vg vw vm vp vn w dx dy dr a hM hdl hsz) (cwV 1 C.ts gX8_lie_X8_hasDisk rfl rfl rfl ⟨rfl, hdX8_lie_X8_hasDisk⟩ ⟨Nat.le_of_ble_eq_true rfl, Nat.le_of_ble_eq_true rfl⟩) (k_preV C hX (hM.at 0 rfl) rfl) rfl rfl hl.1 rfl (lv_room (Nat.le_of_ble_eq_true rfl)) dX8_lie_2 ⟨Nat.le_of_ble_eq_true rfl, Nat.le_of_ble_eq_true rfl⟩) hX (fun r2 f2 H locs hp2 hX => ?_)
  obtain ⟨hr2, hf2⟩ := hp2
  rw [hf2] at hX
  refine k_topi (y := (kbI (mIn a sz))) hr2 ?_
  refine lv_if_eq (tgt := 16) C.x C.b dX8_lie_5 (by decide) (fun c_5 => ?_) (fun c_5 => ?_)
  · skip
    have c_5 := kbI_0 c_5
    exact k_thS (cls := "java/lang/IndexOutOfBoundsException") (text := "there is no such disk") C hst hX hl.1 hout lk_X8_lie_cl56 lk_X8_lie_ini_IndexOutOfBoundsException (by decide +kernel) (by decide) hat_X8_lie_60_IndexOutOfBoundsException hng_RX8_56_60_IndexOutOfBoundsException dX8_lie_16 dX8_lie_19 dX8_lie_20 dX8_lie_22 dX8_lie_25 (Nat.le_of_ble_eq_true rfl) (Nat.le_of_ble_eq_true rfl) (Nat.le_of_ble_eq_true rfl) (Nat.le_of_ble_eq_true rfl) hlocks hQ (rfl) (Nat.le_of_ble_eq_true rfl) (Nat.le_of_ble_eq_true rfl)
  · skip
    have c_5 := kbI_1 c_5
    refine lv_aload_n C.x C.b dX8_lie_8 rfl (lv_at hl 0 rfl) ?_
    refine lv_iload_n C.x C.b dX8_lie_9 rfl (lv_at hl 2 rfl) ?_
    refine k_calli (va_runV (As := [.int b]) (rest := []) C.1 (kX8_hasDisk l G B0 f h dl sz vs vg vw vm vp vn w dx dy dr b hM hdl hsz) (cwV 1 C.ts gX8_lie_X8_hasDisk rfl rfl rfl ⟨rfl, hdX8_lie_X8_hasDisk⟩ ⟨Nat.le_of_ble_eq_true rfl, Nat.le_of_ble_eq_true rfl⟩) (k_preV C hX (hM.at 0 rfl) rfl) rfl rfl hl.1 rfl (lv_room (Nat.le_of_ble_eq_true rfl)) dX8_lie_10 ⟨Nat.le_of_ble_eq_true rfl, Nat.le_of_ble_eq_true rfl⟩) hX (fun r10 f10 H locs hp10 hX => ?_)
    obtain ⟨hr10, hf10⟩ := hp10
    rw [hf10] at hX
    refine k_topi (y := (kbI (mIn b sz))) hr10 ?_
    refine lv_if_ne (tgt := 26) C.x C.b dX8_lie_13 (by decide) (fun c_13 => ?_) (fun c_13 => ?_)
    · skip
      have c_13 := kbI_1 c_13
      exact absurd ⟨c_5, c_13⟩ hv
    · skip
      have c_13 := kbI_0 c_13
      exact k_thS (cls := "java/lang/IndexOutOfBoundsException") (text := "there is no such disk") C hst hX hl.1 hout lk_X8_lie_cl56 lk_X8_lie_ini_IndexOutOfBoundsException (by decide +kernel) (by decide) hat_X8_lie_60_IndexOutOfBoundsException hng_RX8_56_60_IndexOutOfBoundsException dX8_lie_16 dX8_lie_19 dX8_lie_20 dX8_lie_22 dX8_lie_25 (Nat.le_of_ble_eq_true rfl) (Nat.le_of_ble_eq_true rfl) (Nat.le_of_ble_eq_true rfl) (Nat.le_of_ble_eq_true rfl) hlocks hQ (rfl) (Nat.le_of_ble_eq_true rfl) (Nat.le_of_ble_eq_true rfl)

theorem lk_X8_lie_cl124 : Cond.classLink RX8 124 "java/lang/IllegalArgumentException" ∈ wsX8_lie := by decide +kernel
theorem lk_X8_lie_ini_IllegalArgumentException : Cond.initialized "java/lang/IllegalArgumentException" ∈ wsX8_lie := by decide +kernel
theorem hat_X8_lie_128_IllegalArgumentException : ∀ w ∈ (vx_atS RX8 128 "java/lang/IllegalArgumentException" kChain).filter goodWord, w ∈ wsX8_lie := by
  intro w hw
  unfold wsX8_lie
  simp only [List.mem_cons, List.mem_append, hw, or_true, true_or]
abbrev rmX8_lie_b2 : Room := { frames := 6, cells := 1, slots := 6, locals := 90 }
set_option maxHeartbeats 4000000 in
set_option maxRecDepth 100000 in
/-- X8_lie_b2 -/
theorem kX8_lie_b2 (l : Launch) (hst : l.stackTraces = false) (G : kG) (B0 : Nat) (f : kH) (h dl sz : Nat) (vs vg vw vm vp vn : Value) (w : Nat → Nat) (dx dy dr : Nat → Int64) (a b : Int32) (hM : kCs f [(h, .inr (8, [vs, .ref dl, vg, vw, vm, vp, vn]))]) (hdl : kLs G f dl sz w (dsE dx dy dr)) (hsz : sz ≤ 16) (hv : mIn a sz ∧ mIn b sz) (hab : a = b) : vx_Met l yX8_lie wsX8_lie (rmX8_lie_b2) (kP G B0 f [.ref h, .int a, .int b]) kNo (kXC G B0 "java/lang/IllegalArgumentException" (fun f1 => f1 = f)) 1 6 (kAb B0) := by
  refine kMetX (cc := cX8_lie) (maxL := 3) (ret := (some .int)) (by decide) rfl (Nat.le_of_ble_eq_true rfl) ?_
  intro p e s m args below meth c H locs Q ls C hX hl hr hlocks hnm hQ hout
  have hl : lv_has ls 3 [(0, .ref h), (1, .int a), (2, .int b)] := hl
  refine lv_aload_n C.x C.b dX8_lie_0 rfl (lv_at hl 0 rfl) ?_
  refine lv_iload_n C.x C.b dX8_lie_1 rfl (lv_at hl 1 rfl) ?_
  refine k_calli (va_runV (As := [.int a]) (rest := []) C.1 (kX8_hasDisk l G B0 f h dl sz vs vg vw vm vp vn w dx dy dr a hM hdl hsz) (cwV 1 C.ts gX8_lie_X8_hasDisk rfl rfl rfl ⟨rfl, hdX8_lie_X8_hasDisk⟩ ⟨Nat.le_of_ble_eq_true rfl, Nat.le_of_ble_eq_true rfl⟩) (k_preV C hX (hM.at 0 rfl) rfl) rfl rfl hl.1 rfl (lv_room (Nat.le_of_ble_eq_true rfl)) dX8_lie_2 ⟨Nat.le_of_ble_eq_true rfl, Nat.le_of_ble_eq_true rfl⟩) hX (fun r2 f2 H locs hp2 hX => ?_)
  obtain ⟨hr2, hf2⟩ := hp2
  rw [hf2] at hX
  refine k_topi (y := (kbI (mIn a sz))) hr2 ?_
  refine lv_if_eq (tgt := 16) C.x C.b dX8_lie_5 (by decide) (fun c_5 => ?_) (fun c_5 => ?_)
  · exact absurd (hv.1) (kbI_0 c_5)
  refine lv_aload_n C.x C.b dX8_lie_8 rfl (lv_at hl 0 rfl) ?_
  refine lv_iload_n C.x C.b dX8_lie_9 rfl (lv_at hl 2 rfl) ?_
  refine k_calli (va_runV (As := [.int b]) (rest := []) C.1 (kX8_hasDisk l G B0 f h dl sz vs vg vw vm vp vn w dx dy dr b hM hdl hsz) (cwV 1 C.ts gX8_lie_X8_hasDisk rfl rfl rfl ⟨rfl, hdX8_lie_X8_hasDisk⟩ ⟨Nat.le_of_ble_eq_true rfl, Nat.le_of_ble_eq_true rfl⟩) (k_preV C hX (hM.at 0 rfl) rfl) rfl rfl hl.1 rfl (lv_room (Nat.le_of_ble_eq_true rfl)) dX8_lie_10 ⟨Nat.le_of_ble_eq_true rfl, Nat.le_of_ble_eq_true rfl⟩) hX (fun r10 f10 H locs hp10 hX => ?_)
  obtain ⟨hr10, hf10⟩ := hp10
  rw [hf10] at hX
  refine k_topi (y := (kbI (mIn b sz))) hr10 ?_
  refine lv_if_ne (tgt := 26) C.x C.b dX8_lie_13 (by decide) (fun c_13 => ?_) (fun c_13 => ?_)
  rotate_left
  · exact absurd (hv.2) (kbI_0 c_13)
  refine lv_iload_n C.x C.b dX8_lie_26 rfl (lv_at hl 1 rfl) ?_
  refine lv_iload_n C.x C.b dX8_lie_27 rfl (lv_at hl 2 rfl) ?_
  refine lv_icmp_ne (tgt := 41) C.x C.b dX8_lie_28 (by decide) (fun c_28 => ?_) (fun c_28 => ?_)
  · skip
    exact absurd hab c_28
  exact k_thS (cls := "java/lang/IllegalArgumentException") (text := "both are the same") C hst hX hl.1 hout lk_X8_lie_cl124 lk_X8_lie_ini_IllegalArgumentException (by decide +kernel) (by decide) hat_X8_lie_128_IllegalArgumentException hng_RX8_124_128_IllegalArgumentException dX8_lie_31 dX8_lie_34 dX8_lie_35 dX8_lie_37 dX8_lie_40 (Nat.le_of_ble_eq_true rfl) (Nat.le_of_ble_eq_true rfl) (Nat.le_of_ble_eq_true rfl) (Nat.le_of_ble_eq_true rfl) hlocks hQ (rfl) (Nat.le_of_ble_eq_true rfl) (Nat.le_of_ble_eq_true rfl)

theorem lk_X8_pairs_cl124 : Cond.classLink RX8 124 "java/lang/IllegalArgumentException" ∈ wsX8_pairs := by decide +kernel
theorem lk_X8_pairs_ini_IllegalArgumentException : Cond.initialized "java/lang/IllegalArgumentException" ∈ wsX8_pairs := by decide +kernel
theorem hat_X8_pairs_128_IllegalArgumentException : ∀ w ∈ (vx_atS RX8 128 "java/lang/IllegalArgumentException" kChain).filter goodWord, w ∈ wsX8_pairs := by
  intro w hw
  unfold wsX8_pairs
  simp only [List.mem_cons, List.mem_append, hw, or_true, true_or]
abbrev rmX8_pairs_b1 : Room := { frames := 6, cells := 1, slots := 6, locals := 90 }
set_option maxHeartbeats 4000000 in
set_option maxRecDepth 100000 in
/-- X8_pairs_b1 -/
theorem kX8_pairs_b1 (l : Launch) (hst : l.stackTraces = false) (G : kG) (B0 : Nat) (f : kH) (h dl sz : Nat) (vs vg vw vm vp vn : Value) (w : Nat → Nat) (dx dy dr : Nat → Int64) (a : Int32) (hM : kCs f [(h, .inr (8, [vs, .ref dl, vg, vw, vm, vp, vn]))]) (hdl : kLs G f dl sz w (dsE dx dy dr)) (hsz : sz ≤ 16) (hv : ¬ mRg a (0) 2) : vx_Met l yX8_pairs wsX8_pairs (rmX8_pairs_b1) (kP G B0 f [.ref h, .int a]) kNo (kXC G B0 "java/lang/IllegalArgumentException" (fun f1 => f1 = f)) 1 6 (kAb B0) := by
  refine kMetX (cc := cX8_pairs) (maxL := 5) (ret := (some .int)) (by decide) rfl (Nat.le_of_ble_eq_true rfl) ?_
  intro p e s m args below meth c H locs Q ls C hX hl hr hlocks hnm hQ hout
  have hl : lv_has ls 5 [(0, .ref h), (1, .int a)] := hl
  refine lv_iload_n C.x C.b dX8_pairs_0 rfl (lv_at hl 1 rfl) ?_
  refine lv_if_lt (tgt := 9) C.x C.b dX8_pairs_1 (by decide) (fun c_1 => ?_) (fun c_1 => ?_)
  · skip
    exact k_thS (cls := "java/lang/IllegalArgumentException") (text := "how is out of range") C hst hX hl.1 hout lk_X8_pairs_cl124 lk_X8_pairs_ini_IllegalArgumentException (by decide +kernel) (by decide) hat_X8_pairs_128_IllegalArgumentException hng_RX8_124_128_IllegalArgumentException dX8_pairs_9 dX8_pairs_12 dX8_pairs_13 dX8_pairs_15 dX8_pairs_18 (Nat.le_of_ble_eq_true rfl) (Nat.le_of_ble_eq_true rfl) (Nat.le_of_ble_eq_true rfl) (Nat.le_of_ble_eq_true rfl) hlocks hQ (rfl) (Nat.le_of_ble_eq_true rfl) (Nat.le_of_ble_eq_true rfl)
  · skip
    refine lv_iload_n C.x C.b dX8_pairs_4 rfl (lv_at hl 1 rfl) ?_
    refine lv_iconst (v := nI 2) C.x C.b dX8_pairs_5 (by decide) ?_
    refine lv_icmp_le (tgt := 19) C.x C.b dX8_pairs_6 (by decide) (fun c_6 => ?_) (fun c_6 => ?_)
    · skip
      exact absurd (mRg_of (k := 2) (by decide) c_1 c_6) hv
    · skip
      exact k_thS (cls := "java/lang/IllegalArgumentException") (text := "how is out of range") C hst hX hl.1 hout lk_X8_pairs_cl124 lk_X8_pairs_ini_IllegalArgumentException (by decide +kernel) (by decide) hat_X8_pairs_128_IllegalArgumentException hng_RX8_124_128_IllegalArgumentException dX8_pairs_9 dX8_pairs_12 dX8_pairs_13 dX8_pairs_15 dX8_pairs_18 (Nat.le_of_ble_eq_true rfl) (Nat.le_of_ble_eq_true rfl) (Nat.le_of_ble_eq_true rfl) (Nat.le_of_ble_eq_true rfl) hlocks hQ (rfl) (Nat.le_of_ble_eq_true rfl) (Nat.le_of_ble_eq_true rfl)

theorem lk_X8_gasket_cl124 : Cond.classLink RX8 124 "java/lang/IllegalArgumentException" ∈ wsX8_gasket := by decide +kernel
theorem lk_X8_gasket_ini_IllegalArgumentException : Cond.initialized "java/lang/IllegalArgumentException" ∈ wsX8_gasket := by decide +kernel
theorem hat_X8_gasket_128_IllegalArgumentException : ∀ w ∈ (vx_atS RX8 128 "java/lang/IllegalArgumentException" kChain).filter goodWord, w ∈ wsX8_gasket := by
  intro w hw
  unfold wsX8_gasket
  simp only [List.mem_cons, List.mem_append, hw, or_true, true_or]
abbrev rmX8_gasket_b1 : Room := { frames := 6, cells := 1, slots := 6, locals := 90 }
set_option maxHeartbeats 4000000 in
set_option maxRecDepth 100000 in
/-- X8_gasket_b1 -/
theorem kX8_gasket_b1 (l : Launch) (hst : l.stackTraces = false) (G : kG) (B0 : Nat) (f : kH) (h dl sz : Nat) (vs vd vw vm vp vn : Value) (w g1 g2 g3 : Nat → Nat) (fo le wa : Nat → Nat → Int64) (x1 x2 x3 x4 : Int32) (hM : kCs f [(h, .inr (8, [vs, vd, .ref dl, vw, vm, vp, vn]))]) (hdl : kLs G f dl sz w (gkE g1 g2 g3)) (har : gkA G f sz g1 g2 g3 fo le wa) (hsz : sz ≤ 8) (hw : ¬ ((cIn x1.toInt64 (nI 1000000).toInt64 ∧ cIn x2.toInt64 (nI 1000000).toInt64 ∧ cIn x3.toInt64 (nI 1000000).toInt64 ∧ cIn x4.toInt64 (nI 1000000).toInt64) ∧ xOf x1.toInt64 x2.toInt64 x3.toInt64 x4.toInt64)) : vx_Met l yX8_gasket wsX8_gasket (rmX8_gasket_b1) (kP G B0 f [.ref h, .int x1, .int x2, .int x3, .int x4]) kNo (kXC G B0 "java/lang/IllegalArgumentException" (fun f1 => f1 = f)) 1 6 (kAb B0) := by
  refine kMetX (cc := cX8_gasket) (maxL := 5) (ret := (some .int)) (by decide) rfl (Nat.le_of_ble_eq_true rfl) ?_
  intro p e s m args below meth c H locs Q ls C hX hl hr hlocks hnm hQ hout
  have hl : lv_has ls 5 [(0, .ref h), (1, .int x1), (2, .int x2), (3, .int x3), (4, .int x4)] := hl
  refine lv_iload_n C.x C.b dX8_gasket_0 rfl (lv_at hl 1 rfl) ?_
  refine lv_iload_n C.x C.b dX8_gasket_1 rfl (lv_at hl 2 rfl) ?_
  refine lv_iload_n C.x C.b dX8_gasket_2 rfl (lv_at hl 3 rfl) ?_
  refine lv_iload C.x C.b dX8_gasket_3 (lv_at hl 4 rfl) ?_
  refine lv_ldc (v := nI 1000000) C.x C.b C.ow (C.ts _ lk_X8_gasket_c181) dX8_gasket_5 ?_
  refine k_calli (va_runS (As := [.int x1, .int x2, .int x3, .int x4, .int (nI 1000000)]) (rest := []) C.1 (kX8_areFourWithin l G B0 f x1 x2 x3 x4 (nI 1000000)) (va_cwS 5 C.ts gX8_gasket_X8_areFourWithin rfl rfl rfl (hdX8_gasket_X8_areFourWithin) ⟨Nat.le_of_ble_eq_true rfl, Nat.le_of_ble_eq_true rfl⟩) (k_preS C hX) rfl rfl hl.1 rfl (lv_room (Nat.le_of_ble_eq_true rfl)) dX8_gasket_7 ⟨Nat.le_of_ble_eq_true rfl, Nat.le_of_ble_eq_true rfl⟩) hX (fun r7 f7 H locs hp7 hX => ?_)
  obtain ⟨hr7, hf7⟩ := hp7
  rw [hf7] at hX
  refine k_topi (y := (kbI (cIn x1.toInt64 (nI 1000000).toInt64 ∧ cIn x2.toInt64 (nI 1000000).toInt64 ∧ cIn x3.toInt64 (nI 1000000).toInt64 ∧ cIn x4.toInt64 (nI 1000000).toInt64))) hr7 ?_
  refine lv_if_ne (tgt := 23) C.x C.b dX8_gasket_10 (by decide) (fun c_10 => ?_) (fun c_10 => ?_)
  · skip
    have c_10 := kbI_1 c_10
    refine lv_iload_n C.x C.b dX8_gasket_23 rfl (lv_at hl 1 rfl) ?_
    refine lv_i2l (v := x1.toInt64) C.x C.b dX8_gasket_24 rfl ?_
    refine lv_iload_n C.x C.b dX8_gasket_25 rfl (lv_at hl 2 rfl) ?_
    refine lv_i2l (v := x2.toInt64) C.x C.b dX8_gasket_26 rfl ?_
    refine lv_iload_n C.x C.b dX8_gasket_27 rfl (lv_at hl 3 rfl) ?_
    refine lv_i2l (v := x3.toInt64) C.x C.b dX8_gasket_28 rfl ?_
    refine lv_iload C.x C.b dX8_gasket_29 (lv_at hl 4 rfl) ?_
    refine lv_i2l (v := x4.toInt64) C.x C.b dX8_gasket_31 rfl ?_
    refine k_calli (va_runSN (As := [.long x1.toInt64, .long x2.toInt64, .long x3.toInt64, .long x4.toInt64]) (rest := []) C.1 (kX2_areOfGasket l G B0 f x1.toInt64 x2.toInt64 x3.toInt64 x4.toInt64) ⟨va_cnB 4 C.ts gX8_gasket_X2_areOfGasket_n186 rfl rfl rfl (C.2.1.2.2.1 _ (show ((RX8, 186, yX2_areOfGasket, "Koebehall") : String × Nat × MethodName × String) ∈ kNestM by decide +kernel)) (C.ts _ lk_X8_gasket_in_RX2) hdX8_gasket_X2_areOfGasket ⟨Nat.le_of_ble_eq_true rfl, Nat.le_of_ble_eq_true rfl⟩, C.ts _ lk_X8_gasket_st_X2_areOfGasket, trivial⟩ (k_preS C hX) rfl rfl hl.1 rfl (lv_room (Nat.le_of_ble_eq_true rfl)) dX8_gasket_32 ⟨Nat.le_of_ble_eq_true rfl, Nat.le_of_ble_eq_true rfl⟩) hX (fun r32 f32 H locs hp32 hX => ?_)
    obtain ⟨hr32, hf32⟩ := hp32
    rw [hf32] at hX
    refine k_topi (y := (kbI (xOf x1.toInt64 x2.toInt64 x3.toInt64 x4.toInt64))) hr32 ?_
    refine lv_if_ne (tgt := 48) C.x C.b dX8_gasket_35 (by decide) (fun c_35 => ?_) (fun c_35 => ?_)
    · skip
      have c_35 := kbI_1 c_35
      exact absurd ⟨c_10, c_35⟩ hw
    · skip
      have c_35 := kbI_0 c_35
      exact k_thS (cls := "java/lang/IllegalArgumentException") (text := "they are none of a gasket") C hst hX hl.1 hout lk_X8_gasket_cl124 lk_X8_gasket_ini_IllegalArgumentException (by decide +kernel) (by decide) hat_X8_gasket_128_IllegalArgumentException hng_RX8_124_128_IllegalArgumentException dX8_gasket_38 dX8_gasket_41 dX8_gasket_42 dX8_gasket_44 dX8_gasket_47 (Nat.le_of_ble_eq_true rfl) (Nat.le_of_ble_eq_true rfl) (Nat.le_of_ble_eq_true rfl) (Nat.le_of_ble_eq_true rfl) hlocks hQ (rfl) (Nat.le_of_ble_eq_true rfl) (Nat.le_of_ble_eq_true rfl)
  · skip
    have c_10 := kbI_0 c_10
    exact k_thS (cls := "java/lang/IllegalArgumentException") (text := "an argument is out of range") C hst hX hl.1 hout lk_X8_gasket_cl124 lk_X8_gasket_ini_IllegalArgumentException (by decide +kernel) (by decide) hat_X8_gasket_128_IllegalArgumentException hng_RX8_124_128_IllegalArgumentException dX8_gasket_13 dX8_gasket_16 dX8_gasket_17 dX8_gasket_19 dX8_gasket_22 (Nat.le_of_ble_eq_true rfl) (Nat.le_of_ble_eq_true rfl) (Nat.le_of_ble_eq_true rfl) (Nat.le_of_ble_eq_true rfl) hlocks hQ (rfl) (Nat.le_of_ble_eq_true rfl) (Nat.le_of_ble_eq_true rfl)

theorem lk_X8_gasket_cl67 : Cond.classLink RX8 67 "java/lang/IllegalStateException" ∈ wsX8_gasket := by decide +kernel
theorem lk_X8_gasket_ini_IllegalStateException : Cond.initialized "java/lang/IllegalStateException" ∈ wsX8_gasket := by decide +kernel
theorem hat_X8_gasket_71_IllegalStateException : ∀ w ∈ (vx_atS RX8 71 "java/lang/IllegalStateException" kChain).filter goodWord, w ∈ wsX8_gasket := by
  intro w hw
  unfold wsX8_gasket
  simp only [List.mem_cons, List.mem_append, hw, or_true, true_or]
abbrev rmX8_gasket_b2 : Room := { frames := 6, cells := 1, slots := 6, locals := 90 }
set_option maxHeartbeats 4000000 in
set_option maxRecDepth 100000 in
/-- X8_gasket_b2 -/
theorem kX8_gasket_b2 (l : Launch) (hst : l.stackTraces = false) (G : kG) (B0 : Nat) (f : kH) (h dl sz : Nat) (vs vd vw vm vp vn : Value) (w g1 g2 g3 : Nat → Nat) (fo le wa : Nat → Nat → Int64) (x1 x2 x3 x4 : Int32) (hM : kCs f [(h, .inr (8, [vs, vd, .ref dl, vw, vm, vp, vn]))]) (hdl : kLs G f dl sz w (gkE g1 g2 g3)) (har : gkA G f sz g1 g2 g3 fo le wa) (hsz : sz ≤ 8) (hw : (cIn x1.toInt64 (nI 1000000).toInt64 ∧ cIn x2.toInt64 (nI 1000000).toInt64 ∧ cIn x3.toInt64 (nI 1000000).toInt64 ∧ cIn x4.toInt64 (nI 1000000).toInt64) ∧ xOf x1.toInt64 x2.toInt64 x3.toInt64 x4.toInt64) (hf : 8 ≤ sz) : vx_Met l yX8_gasket wsX8_gasket (rmX8_gasket_b2) (kP G B0 f [.ref h, .int x1, .int x2, .int x3, .int x4]) kNo (kXC G B0 "java/lang/IllegalStateException" (fun f1 => f1 = f)) 1 6 (kAb B0) := by
  refine kMetX (cc := cX8_gasket) (maxL := 5) (ret := (some .int)) (by decide) rfl (Nat.le_of_ble_eq_true rfl) ?_
  intro p e s m args below meth c H locs Q ls C hX hl hr hlocks hnm hQ hout
  have hl : lv_has ls 5 [(0, .ref h), (1, .int x1), (2, .int x2), (3, .int x3), (4, .int x4)] := hl
  refine lv_iload_n C.x C.b dX8_gasket_0 rfl (lv_at hl 1 rfl) ?_
  refine lv_iload_n C.x C.b dX8_gasket_1 rfl (lv_at hl 2 rfl) ?_
  refine lv_iload_n C.x C.b dX8_gasket_2 rfl (lv_at hl 3 rfl) ?_
  refine lv_iload C.x C.b dX8_gasket_3 (lv_at hl 4 rfl) ?_
  refine lv_ldc (v := nI 1000000) C.x C.b C.ow (C.ts _ lk_X8_gasket_c181) dX8_gasket_5 ?_
  refine k_calli (va_runS (As := [.int x1, .int x2, .int x3, .int x4, .int (nI 1000000)]) (rest := []) C.1 (kX8_areFourWithin l G B0 f x1 x2 x3 x4 (nI 1000000)) (va_cwS 5 C.ts gX8_gasket_X8_areFourWithin rfl rfl rfl (hdX8_gasket_X8_areFourWithin) ⟨Nat.le_of_ble_eq_true rfl, Nat.le_of_ble_eq_true rfl⟩) (k_preS C hX) rfl rfl hl.1 rfl (lv_room (Nat.le_of_ble_eq_true rfl)) dX8_gasket_7 ⟨Nat.le_of_ble_eq_true rfl, Nat.le_of_ble_eq_true rfl⟩) hX (fun r7 f7 H locs hp7 hX => ?_)
  obtain ⟨hr7, hf7⟩ := hp7
  rw [hf7] at hX
  refine k_topi (y := (kbI (cIn x1.toInt64 (nI 1000000).toInt64 ∧ cIn x2.toInt64 (nI 1000000).toInt64 ∧ cIn x3.toInt64 (nI 1000000).toInt64 ∧ cIn x4.toInt64 (nI 1000000).toInt64))) hr7 ?_
  refine lv_if_ne (tgt := 23) C.x C.b dX8_gasket_10 (by decide) (fun c_10 => ?_) (fun c_10 => ?_)
  rotate_left
  · exact absurd (hw.1) (kbI_0 c_10)
  refine lv_iload_n C.x C.b dX8_gasket_23 rfl (lv_at hl 1 rfl) ?_
  refine lv_i2l (v := x1.toInt64) C.x C.b dX8_gasket_24 rfl ?_
  refine lv_iload_n C.x C.b dX8_gasket_25 rfl (lv_at hl 2 rfl) ?_
  refine lv_i2l (v := x2.toInt64) C.x C.b dX8_gasket_26 rfl ?_
  refine lv_iload_n C.x C.b dX8_gasket_27 rfl (lv_at hl 3 rfl) ?_
  refine lv_i2l (v := x3.toInt64) C.x C.b dX8_gasket_28 rfl ?_
  refine lv_iload C.x C.b dX8_gasket_29 (lv_at hl 4 rfl) ?_
  refine lv_i2l (v := x4.toInt64) C.x C.b dX8_gasket_31 rfl ?_
  refine k_calli (va_runSN (As := [.long x1.toInt64, .long x2.toInt64, .long x3.toInt64, .long x4.toInt64]) (rest := []) C.1 (kX2_areOfGasket l G B0 f x1.toInt64 x2.toInt64 x3.toInt64 x4.toInt64) ⟨va_cnB 4 C.ts gX8_gasket_X2_areOfGasket_n186 rfl rfl rfl (C.2.1.2.2.1 _ (show ((RX8, 186, yX2_areOfGasket, "Koebehall") : String × Nat × MethodName × String) ∈ kNestM by decide +kernel)) (C.ts _ lk_X8_gasket_in_RX2) hdX8_gasket_X2_areOfGasket ⟨Nat.le_of_ble_eq_true rfl, Nat.le_of_ble_eq_true rfl⟩, C.ts _ lk_X8_gasket_st_X2_areOfGasket, trivial⟩ (k_preS C hX) rfl rfl hl.1 rfl (lv_room (Nat.le_of_ble_eq_true rfl)) dX8_gasket_32 ⟨Nat.le_of_ble_eq_true rfl, Nat.le_of_ble_eq_true rfl⟩) hX (fun r32 f32 H locs hp32 hX => ?_)
  obtain ⟨hr32, hf32⟩ := hp32
  rw [hf32] at hX
  refine k_topi (y := (kbI (xOf x1.toInt64 x2.toInt64 x3.toInt64 x4.toInt64))) hr32 ?_
  refine lv_if_ne (tgt := 48) C.x C.b dX8_gasket_35 (by decide) (fun c_35 => ?_) (fun c_35 => ?_)
  rotate_left
  · exact absurd (hw.2) (kbI_0 c_35)
  refine lv_aload_n C.x C.b dX8_gasket_48 rfl (lv_at hl 0 rfl) ?_
  refine k_get (X := RX8) (T := TX8) (N := 7) (v := .ref dl) C hX (hM.at 0 rfl) rfl hin_X8_gasket_RX8 2 (by decide) lk_X8_gasket_f23 (fun _ h9 => h9) rfl dX8_gasket_49 ?_
  refine k_calli (va_runV (As := []) (rest := []) C.1 (kSizeL l G B0 f hdl) (cwV 0 C.ts gX8_gasket_Jx4a65c_size_8abf5 rfl rfl rfl ⟨rfl, hdX8_gasket_Jx4a65c_size_8abf5⟩ ⟨Nat.le_of_ble_eq_true rfl, Nat.le_of_ble_eq_true rfl⟩) (k_preV C hX (hdl.list.choose_spec) rfl) rfl rfl hl.1 rfl (lv_room (Nat.le_of_ble_eq_true rfl)) dX8_gasket_52 ⟨Nat.le_of_ble_eq_true rfl, Nat.le_of_ble_eq_true rfl⟩) hX (fun r52 f52 H locs hp52 hX => ?_)
  obtain ⟨hr52, hf52⟩ := hp52
  rw [hf52] at hX
  refine k_topi (y := (nI sz)) hr52 ?_
  refine lv_bipush (v := nI 8) C.x C.b dX8_gasket_55 (by decide) ?_
  refine lv_icmp_lt (tgt := 70) C.x C.b dX8_gasket_57 (by decide) (fun c_57 => ?_) (fun c_57 => ?_)
  · skip
    have c_57 : sz < 8 := (nI_ltI (by omega) (by omega)).mp c_57
    omega
  have c_57 : ¬ (sz < 8) := fun h9 => c_57 ((nI_ltI (by omega) (by omega)).mpr h9)
  exact k_thS (cls := "java/lang/IllegalStateException") (text := "there are 8") C hst hX hl.1 hout lk_X8_gasket_cl67 lk_X8_gasket_ini_IllegalStateException (by decide +kernel) (by decide) hat_X8_gasket_71_IllegalStateException hng_RX8_67_71_IllegalStateException dX8_gasket_60 dX8_gasket_63 dX8_gasket_64 dX8_gasket_66 dX8_gasket_69 (Nat.le_of_ble_eq_true rfl) (Nat.le_of_ble_eq_true rfl) (Nat.le_of_ble_eq_true rfl) (Nat.le_of_ble_eq_true rfl) hlocks hQ (rfl) (Nat.le_of_ble_eq_true rfl) (Nat.le_of_ble_eq_true rfl)

theorem lk_X8_gasketOf_cl56 : Cond.classLink RX8 56 "java/lang/IndexOutOfBoundsException" ∈ wsX8_gasketOf := by decide +kernel
theorem lk_X8_gasketOf_ini_IndexOutOfBoundsException : Cond.initialized "java/lang/IndexOutOfBoundsException" ∈ wsX8_gasketOf := by decide +kernel
theorem hat_X8_gasketOf_60_IndexOutOfBoundsException : ∀ w ∈ (vx_atS RX8 60 "java/lang/IndexOutOfBoundsException" kChain).filter goodWord, w ∈ wsX8_gasketOf := by
  intro w hw
  unfold wsX8_gasketOf
  simp only [List.mem_cons, List.mem_append, hw, or_true, true_or]
abbrev rmX8_gasketOf_b1 : Room := { frames := 6, cells := 1, slots := 6, locals := 90 }
set_option maxHeartbeats 4000000 in
set_option maxRecDepth 100000 in
/-- X8_gasketOf_b1 -/
theorem kX8_gasketOf_b1 (l : Launch) (hst : l.stackTraces = false) (G : kG) (B0 : Nat) (f : kH) (h dl sz : Nat) (vs vd vw vm vp vn : Value) (w g1 g2 g3 : Nat → Nat) (fo le wa : Nat → Nat → Int64) (a : Int32) (hM : kCs f [(h, .inr (8, [vs, vd, .ref dl, vw, vm, vp, vn]))]) (hdl : kLs G f dl sz w (gkE g1 g2 g3)) (har : gkA G f sz g1 g2 g3 fo le wa) (hsz : sz ≤ 8) (hv : ¬ mIn a sz) : vx_Met l yX8_gasketOf wsX8_gasketOf (rmX8_gasketOf_b1) (kP G B0 f [.ref h, .int a]) kNo (kXC G B0 "java/lang/IndexOutOfBoundsException" (fun f1 => f1 = f)) 1 6 (kAb B0) := by
  refine kMetX (cc := cX8_gasketOf) (maxL := 2) (ret := (some (.object "Koebehall$Gasket"))) (by decide) rfl (Nat.le_of_ble_eq_true rfl) ?_
  intro p e s m args below meth c H locs Q ls C hX hl hr hlocks hnm hQ hout
  have hl : lv_has ls 2 [(0, .ref h), (1, .int a)] := hl
  refine lv_iload_n C.x C.b dX8_gasketOf_0 rfl (lv_at hl 1 rfl) ?_
  refine lv_if_lt (tgt := 15) C.x C.b dX8_gasketOf_1 (by decide) (fun c_1 => ?_) (fun c_1 => ?_)
  · skip
    exact k_thS (cls := "java/lang/IndexOutOfBoundsException") (text := "there is no such gasket") C hst hX hl.1 hout lk_X8_gasketOf_cl56 lk_X8_gasketOf_ini_IndexOutOfBoundsException (by decide +kernel) (by decide) hat_X8_gasketOf_60_IndexOutOfBoundsException hng_RX8_56_60_IndexOutOfBoundsException dX8_gasketOf_15 dX8_gasketOf_18 dX8_gasketOf_19 dX8_gasketOf_21 dX8_gasketOf_24 (Nat.le_of_ble_eq_true rfl) (Nat.le_of_ble_eq_true rfl) (Nat.le_of_ble_eq_true rfl) (Nat.le_of_ble_eq_true rfl) hlocks hQ (rfl) (Nat.le_of_ble_eq_true rfl) (Nat.le_of_ble_eq_true rfl)
  · skip
    refine lv_iload_n C.x C.b dX8_gasketOf_4 rfl (lv_at hl 1 rfl) ?_
    refine lv_aload_n C.x C.b dX8_gasketOf_5 rfl (lv_at hl 0 rfl) ?_
    refine k_get (X := RX8) (T := TX8) (N := 7) (v := .ref dl) C hX (hM.at 0 rfl) rfl hin_X8_gasketOf_RX8 2 (by decide) lk_X8_gasketOf_f23 (fun _ h9 => h9) rfl dX8_gasketOf_6 ?_
    refine k_calli (va_runV (As := []) (rest := [.int a]) C.1 (kSizeL l G B0 f hdl) (cwV 0 C.ts gX8_gasketOf_Jx4a65c_size_8abf5 rfl rfl rfl ⟨rfl, hdX8_gasketOf_Jx4a65c_size_8abf5⟩ ⟨Nat.le_of_ble_eq_true rfl, Nat.le_of_ble_eq_true rfl⟩) (k_preV C hX (hdl.list.choose_spec) rfl) rfl rfl hl.1 rfl (lv_room (Nat.le_of_ble_eq_true rfl)) dX8_gasketOf_9 ⟨Nat.le_of_ble_eq_true rfl, Nat.le_of_ble_eq_true rfl⟩) hX (fun r9 f9 H locs hp9 hX => ?_)
    obtain ⟨hr9, hf9⟩ := hp9
    rw [hf9] at hX
    refine k_topi (y := (nI sz)) hr9 ?_
    refine lv_icmp_lt (tgt := 25) C.x C.b dX8_gasketOf_12 (by decide) (fun c_12 => ?_) (fun c_12 => ?_)
    · skip
      exact absurd (nIn_t2 c_1 c_12) hv
    · skip
      exact k_thS (cls := "java/lang/IndexOutOfBoundsException") (text := "there is no such gasket") C hst hX hl.1 hout lk_X8_gasketOf_cl56 lk_X8_gasketOf_ini_IndexOutOfBoundsException (by decide +kernel) (by decide) hat_X8_gasketOf_60_IndexOutOfBoundsException hng_RX8_56_60_IndexOutOfBoundsException dX8_gasketOf_15 dX8_gasketOf_18 dX8_gasketOf_19 dX8_gasketOf_21 dX8_gasketOf_24 (Nat.le_of_ble_eq_true rfl) (Nat.le_of_ble_eq_true rfl) (Nat.le_of_ble_eq_true rfl) (Nat.le_of_ble_eq_true rfl) hlocks hQ (rfl) (Nat.le_of_ble_eq_true rfl) (Nat.le_of_ble_eq_true rfl)

abbrev rmX8_fourOf_b1 : Room := { frames := 7, cells := 1, slots := 6, locals := 111 }
set_option maxHeartbeats 4000000 in
set_option maxRecDepth 100000 in
/-- X8_fourOf_b1 -/
theorem kX8_fourOf_b1 (l : Launch) (hst : l.stackTraces = false) (G : kG) (B0 : Nat) (f : kH) (h dl sz : Nat) (vs vd vw vm vp vn : Value) (w g1 g2 g3 : Nat → Nat) (fo le wa : Nat → Nat → Int64) (a b : Int32) (hM : kCs f [(h, .inr (8, [vs, vd, .ref dl, vw, vm, vp, vn]))]) (hdl : kLs G f dl sz w (gkE g1 g2 g3)) (har : gkA G f sz g1 g2 g3 fo le wa) (hsz : sz ≤ 8) (hv : ¬ mIn a sz) : vx_Met l yX8_fourOf wsX8_fourOf (rmX8_fourOf_b1) (kP G B0 f [.ref h, .int a, .int b]) kNo (kXC G B0 "java/lang/IndexOutOfBoundsException" (fun f1 => f1 = f)) 1 6 (kAb B0) := by
  refine kMetX (cc := cX8_fourOf) (maxL := 4) (ret := (some (.array .long))) (by decide) rfl (Nat.le_of_ble_eq_true rfl) ?_
  intro p e s m args below meth c H locs Q ls C hX hl hr hlocks hnm hQ hout
  have hl : lv_has ls 4 [(0, .ref h), (1, .int a), (2, .int b)] := hl
  refine lv_aload_n C.x C.b dX8_fourOf_0 rfl (lv_at hl 0 rfl) ?_
  refine lv_iload_n C.x C.b dX8_fourOf_1 rfl (lv_at hl 1 rfl) ?_
  exact k_outX (vx_runV (As := [.int a]) (rest := []) C.1 (kX8_gasketOf_b1 l hst G B0 f h dl sz vs vd vw vm vp vn w g1 g2 g3 fo le wa a hM hdl har hsz hv) (cwV 1 C.ts gX8_fourOf_X8_gasketOf rfl rfl rfl ⟨rfl, hdX8_fourOf_X8_gasketOf⟩ ⟨Nat.le_of_ble_eq_true rfl, Nat.le_of_ble_eq_true rfl⟩) (k_preV C hX (hM.at 0 rfl) rfl) rfl rfl hl.1 rfl (lv_room (Nat.le_of_ble_eq_true rfl)) dX8_fourOf_2 ⟨Nat.le_of_ble_eq_true rfl, Nat.le_of_ble_eq_true rfl⟩) hX hout hlocks hQ (fun f9 h9 => h9) (by omega) (by omega)

theorem lk_X8_fourOf_cl56 : Cond.classLink RX8 56 "java/lang/IndexOutOfBoundsException" ∈ wsX8_fourOf := by decide +kernel
theorem lk_X8_fourOf_ini_IndexOutOfBoundsException : Cond.initialized "java/lang/IndexOutOfBoundsException" ∈ wsX8_fourOf := by decide +kernel
theorem hat_X8_fourOf_60_IndexOutOfBoundsException : ∀ w ∈ (vx_atS RX8 60 "java/lang/IndexOutOfBoundsException" kChain).filter goodWord, w ∈ wsX8_fourOf := by
  intro w hw
  unfold wsX8_fourOf
  simp only [List.mem_cons, List.mem_append, hw, or_true, true_or]
abbrev rmX8_fourOf_b2 : Room := { frames := 6, cells := 1, slots := 6, locals := 90 }
set_option maxHeartbeats 4000000 in
set_option maxRecDepth 100000 in
/-- X8_fourOf_b2 -/
theorem kX8_fourOf_b2 (l : Launch) (hst : l.stackTraces = false) (G : kG) (B0 : Nat) (f : kH) (h dl sz : Nat) (vs vd vw vm vp vn : Value) (w g1 g2 g3 : Nat → Nat) (fo le wa : Nat → Nat → Int64) (i : Nat) (b : Int32) (hM : kCs f [(h, .inr (8, [vs, vd, .ref dl, vw, vm, vp, vn]))]) (hdl : kLs G f dl sz w (gkE g1 g2 g3)) (har : gkA G f sz g1 g2 g3 fo le wa) (hsz : sz ≤ 8) (hi : i < sz) (hv : ¬ mRg b (0) 3) : vx_Met l yX8_fourOf wsX8_fourOf (rmX8_fourOf_b2) (kP G B0 f [.ref h, .int (nI i), .int b]) kNo (kXC G B0 "java/lang/IndexOutOfBoundsException" (fun f1 => f1 = f)) 1 6 (kAb B0) := by
  refine kMetX (cc := cX8_fourOf) (maxL := 4) (ret := (some (.array .long))) (by decide) rfl (Nat.le_of_ble_eq_true rfl) ?_
  intro p e s m args below meth c H locs Q ls C hX hl hr hlocks hnm hQ hout
  have hl : lv_has ls 4 [(0, .ref h), (1, .int (nI i)), (2, .int b)] := hl
  refine lv_aload_n C.x C.b dX8_fourOf_0 rfl (lv_at hl 0 rfl) ?_
  refine lv_iload_n C.x C.b dX8_fourOf_1 rfl (lv_at hl 1 rfl) ?_
  refine k_callq (va_runV (As := [.int (nI i)]) (rest := []) C.1 (kX8_gasketOf l G B0 f h dl sz vs vd vw vm vp vn w g1 g2 g3 fo le wa i hM hdl har hsz hi) (cwV 1 C.ts gX8_fourOf_X8_gasketOf rfl rfl rfl ⟨rfl, hdX8_fourOf_X8_gasketOf⟩ ⟨Nat.le_of_ble_eq_true rfl, Nat.le_of_ble_eq_true rfl⟩) (k_preV C hX (hM.at 0 rfl) rfl) rfl rfl hl.1 rfl (lv_room (Nat.le_of_ble_eq_true rfl)) dX8_fourOf_2 ⟨Nat.le_of_ble_eq_true rfl, Nat.le_of_ble_eq_true rfl⟩) hX (fun r2 f2 H locs hp2 hX => ?_)
  obtain ⟨hr2, hf2⟩ := hp2
  rw [hf2] at hX
  refine k_topq (v := w i) hr2 ?_
  refine lv_astore_n (lv' := [(3, .ref (w i)), (0, .ref h), (1, .int (nI i)), (2, .int b)]) C.x C.b dX8_fourOf_5 rfl hl (by decide) rfl (fun ls hl => ?_)
  refine lv_iload_n C.x C.b dX8_fourOf_6 rfl (lv_at hl 3 rfl) ?_
  refine lv_if_lt (tgt := 15) C.x C.b dX8_fourOf_7 (by decide) (fun c_7 => ?_) (fun c_7 => ?_)
  · skip
    exact k_thS (cls := "java/lang/IndexOutOfBoundsException") (text := "there is no such place") C hst hX hl.1 hout lk_X8_fourOf_cl56 lk_X8_fourOf_ini_IndexOutOfBoundsException (by decide +kernel) (by decide) hat_X8_fourOf_60_IndexOutOfBoundsException hng_RX8_56_60_IndexOutOfBoundsException dX8_fourOf_15 dX8_fourOf_18 dX8_fourOf_19 dX8_fourOf_21 dX8_fourOf_24 (Nat.le_of_ble_eq_true rfl) (Nat.le_of_ble_eq_true rfl) (Nat.le_of_ble_eq_true rfl) (Nat.le_of_ble_eq_true rfl) hlocks hQ (rfl) (Nat.le_of_ble_eq_true rfl) (Nat.le_of_ble_eq_true rfl)
  · skip
    refine lv_iload_n C.x C.b dX8_fourOf_10 rfl (lv_at hl 3 rfl) ?_
    refine lv_iconst (v := nI 3) C.x C.b dX8_fourOf_11 (by decide) ?_
    refine lv_icmp_le (tgt := 25) C.x C.b dX8_fourOf_12 (by decide) (fun c_12 => ?_) (fun c_12 => ?_)
    · skip
      exact absurd (mRg_of (k := 3) (by decide) c_7 c_12) hv
    · skip
      exact k_thS (cls := "java/lang/IndexOutOfBoundsException") (text := "there is no such place") C hst hX hl.1 hout lk_X8_fourOf_cl56 lk_X8_fourOf_ini_IndexOutOfBoundsException (by decide +kernel) (by decide) hat_X8_fourOf_60_IndexOutOfBoundsException hng_RX8_56_60_IndexOutOfBoundsException dX8_fourOf_15 dX8_fourOf_18 dX8_fourOf_19 dX8_fourOf_21 dX8_fourOf_24 (Nat.le_of_ble_eq_true rfl) (Nat.le_of_ble_eq_true rfl) (Nat.le_of_ble_eq_true rfl) (Nat.le_of_ble_eq_true rfl) hlocks hQ (rfl) (Nat.le_of_ble_eq_true rfl) (Nat.le_of_ble_eq_true rfl)

abbrev rmX8_turn_b1 : Room := { frames := 8, cells := 1, slots := 6, locals := 134 }
set_option maxHeartbeats 4000000 in
set_option maxRecDepth 100000 in
/-- X8_turn_b1 -/
theorem kX8_turn_b1 (l : Launch) (hst : l.stackTraces = false) (G : kG) (B0 : Nat) (f : kH) (h dl sz : Nat) (vs vd vw vm vp vn : Value) (w g1 g2 g3 : Nat → Nat) (fo le wa : Nat → Nat → Int64) (a b : Int32) (hM : kCs f [(h, .inr (8, [vs, vd, .ref dl, vw, vm, vp, vn]))]) (hdl : kLs G f dl sz w (gkE g1 g2 g3)) (har : gkA G f sz g1 g2 g3 fo le wa) (hsz : sz ≤ 8) (hv : ¬ mIn a sz) : vx_Met l yX8_turn wsX8_turn (rmX8_turn_b1) (kP G B0 f [.ref h, .int a, .int b]) kNo (kXC G B0 "java/lang/IndexOutOfBoundsException" (fun f1 => f1 = f)) 1 6 (kAb B0) := by
  refine kMetX (cc := cX8_turn) (maxL := 6) (ret := (some .long)) (by decide) rfl (Nat.le_of_ble_eq_true rfl) ?_
  intro p e s m args below meth c H locs Q ls C hX hl hr hlocks hnm hQ hout
  have hl : lv_has ls 6 [(0, .ref h), (1, .int a), (2, .int b)] := hl
  refine lv_aload_n C.x C.b dX8_turn_0 rfl (lv_at hl 0 rfl) ?_
  refine lv_iload_n C.x C.b dX8_turn_1 rfl (lv_at hl 1 rfl) ?_
  refine lv_iload_n C.x C.b dX8_turn_2 rfl (lv_at hl 2 rfl) ?_
  exact k_outX (vx_runV (As := [.int a, .int b]) (rest := []) C.1 (kX8_fourOf_b1 l hst G B0 f h dl sz vs vd vw vm vp vn w g1 g2 g3 fo le wa a b hM hdl har hsz hv) (cwV 2 C.ts gX8_turn_X8_fourOf rfl rfl rfl ⟨rfl, hdX8_turn_X8_fourOf⟩ ⟨Nat.le_of_ble_eq_true rfl, Nat.le_of_ble_eq_true rfl⟩) (k_preV C hX (hM.at 0 rfl) rfl) rfl rfl hl.1 rfl (lv_room (Nat.le_of_ble_eq_true rfl)) dX8_turn_3 ⟨Nat.le_of_ble_eq_true rfl, Nat.le_of_ble_eq_true rfl⟩) hX hout hlocks hQ (fun f9 h9 => h9) (by omega) (by omega)

abbrev rmX8_turn_b2 : Room := { frames := 7, cells := 1, slots := 6, locals := 113 }
set_option maxHeartbeats 4000000 in
set_option maxRecDepth 100000 in
/-- X8_turn_b2 -/
theorem kX8_turn_b2 (l : Launch) (hst : l.stackTraces = false) (G : kG) (B0 : Nat) (f : kH) (h dl sz : Nat) (vs vd vw vm vp vn : Value) (w g1 g2 g3 : Nat → Nat) (fo le wa : Nat → Nat → Int64) (i : Nat) (b : Int32) (hM : kCs f [(h, .inr (8, [vs, vd, .ref dl, vw, vm, vp, vn]))]) (hdl : kLs G f dl sz w (gkE g1 g2 g3)) (har : gkA G f sz g1 g2 g3 fo le wa) (hsz : sz ≤ 8) (hi : i < sz) (hv : ¬ mRg b (0) 3) : vx_Met l yX8_turn wsX8_turn (rmX8_turn_b2) (kP G B0 f [.ref h, .int (nI i), .int b]) kNo (kXC G B0 "java/lang/IndexOutOfBoundsException" (fun f1 => f1 = f)) 1 6 (kAb B0) := by
  refine kMetX (cc := cX8_turn) (maxL := 6) (ret := (some .long)) (by decide) rfl (Nat.le_of_ble_eq_true rfl) ?_
  intro p e s m args below meth c H locs Q ls C hX hl hr hlocks hnm hQ hout
  have hl : lv_has ls 6 [(0, .ref h), (1, .int (nI i)), (2, .int b)] := hl
  refine lv_aload_n C.x C.b dX8_turn_0 rfl (lv_at hl 0 rfl) ?_
  refine lv_iload_n C.x C.b dX8_turn_1 rfl (lv_at hl 1 rfl) ?_
  refine lv_iload_n C.x C.b dX8_turn_2 rfl (lv_at hl 2 rfl) ?_
  exact k_outX (vx_runV (As := [.int (nI i), .int b]) (rest := []) C.1 (kX8_fourOf_b2 l hst G B0 f h dl sz vs vd vw vm vp vn w g1 g2 g3 fo le wa i b hM hdl har hsz hi hv) (cwV 2 C.ts gX8_turn_X8_fourOf rfl rfl rfl ⟨rfl, hdX8_turn_X8_fourOf⟩ ⟨Nat.le_of_ble_eq_true rfl, Nat.le_of_ble_eq_true rfl⟩) (k_preV C hX (hM.at 0 rfl) rfl) rfl rfl hl.1 rfl (lv_room (Nat.le_of_ble_eq_true rfl)) dX8_turn_3 ⟨Nat.le_of_ble_eq_true rfl, Nat.le_of_ble_eq_true rfl⟩) hX hout hlocks hQ (fun f9 h9 => h9) (by omega) (by omega)

abbrev rmX8_curvature_b1 : Room := { frames := 8, cells := 1, slots := 6, locals := 134 }
set_option maxHeartbeats 4000000 in
set_option maxRecDepth 100000 in
/-- X8_curvature_b1 -/
theorem kX8_curvature_b1 (l : Launch) (hst : l.stackTraces = false) (G : kG) (B0 : Nat) (f : kH) (h dl sz : Nat) (vs vd vw vm vp vn : Value) (w g1 g2 g3 : Nat → Nat) (fo le wa : Nat → Nat → Int64) (a b : Int32) (hM : kCs f [(h, .inr (8, [vs, vd, .ref dl, vw, vm, vp, vn]))]) (hdl : kLs G f dl sz w (gkE g1 g2 g3)) (har : gkA G f sz g1 g2 g3 fo le wa) (hsz : sz ≤ 8) (hv : ¬ mIn a sz) : vx_Met l yX8_curvature wsX8_curvature (rmX8_curvature_b1) (kP G B0 f [.ref h, .int a, .int b]) kNo (kXC G B0 "java/lang/IndexOutOfBoundsException" (fun f1 => f1 = f)) 1 6 (kAb B0) := by
  refine kMetX (cc := cX8_curvature) (maxL := 3) (ret := (some .long)) (by decide) rfl (Nat.le_of_ble_eq_true rfl) ?_
  intro p e s m args below meth c H locs Q ls C hX hl hr hlocks hnm hQ hout
  have hl : lv_has ls 3 [(0, .ref h), (1, .int a), (2, .int b)] := hl
  refine lv_aload_n C.x C.b dX8_curvature_0 rfl (lv_at hl 0 rfl) ?_
  refine lv_iload_n C.x C.b dX8_curvature_1 rfl (lv_at hl 1 rfl) ?_
  refine lv_iload_n C.x C.b dX8_curvature_2 rfl (lv_at hl 2 rfl) ?_
  exact k_outX (vx_runV (As := [.int a, .int b]) (rest := []) C.1 (kX8_fourOf_b1 l hst G B0 f h dl sz vs vd vw vm vp vn w g1 g2 g3 fo le wa a b hM hdl har hsz hv) (cwV 2 C.ts gX8_curvature_X8_fourOf rfl rfl rfl ⟨rfl, hdX8_curvature_X8_fourOf⟩ ⟨Nat.le_of_ble_eq_true rfl, Nat.le_of_ble_eq_true rfl⟩) (k_preV C hX (hM.at 0 rfl) rfl) rfl rfl hl.1 rfl (lv_room (Nat.le_of_ble_eq_true rfl)) dX8_curvature_3 ⟨Nat.le_of_ble_eq_true rfl, Nat.le_of_ble_eq_true rfl⟩) hX hout hlocks hQ (fun f9 h9 => h9) (by omega) (by omega)

abbrev rmX8_curvature_b2 : Room := { frames := 7, cells := 1, slots := 6, locals := 113 }
set_option maxHeartbeats 4000000 in
set_option maxRecDepth 100000 in
/-- X8_curvature_b2 -/
theorem kX8_curvature_b2 (l : Launch) (hst : l.stackTraces = false) (G : kG) (B0 : Nat) (f : kH) (h dl sz : Nat) (vs vd vw vm vp vn : Value) (w g1 g2 g3 : Nat → Nat) (fo le wa : Nat → Nat → Int64) (i : Nat) (b : Int32) (hM : kCs f [(h, .inr (8, [vs, vd, .ref dl, vw, vm, vp, vn]))]) (hdl : kLs G f dl sz w (gkE g1 g2 g3)) (har : gkA G f sz g1 g2 g3 fo le wa) (hsz : sz ≤ 8) (hi : i < sz) (hv : ¬ mRg b (0) 3) : vx_Met l yX8_curvature wsX8_curvature (rmX8_curvature_b2) (kP G B0 f [.ref h, .int (nI i), .int b]) kNo (kXC G B0 "java/lang/IndexOutOfBoundsException" (fun f1 => f1 = f)) 1 6 (kAb B0) := by
  refine kMetX (cc := cX8_curvature) (maxL := 3) (ret := (some .long)) (by decide) rfl (Nat.le_of_ble_eq_true rfl) ?_
  intro p e s m args below meth c H locs Q ls C hX hl hr hlocks hnm hQ hout
  have hl : lv_has ls 3 [(0, .ref h), (1, .int (nI i)), (2, .int b)] := hl
  refine lv_aload_n C.x C.b dX8_curvature_0 rfl (lv_at hl 0 rfl) ?_
  refine lv_iload_n C.x C.b dX8_curvature_1 rfl (lv_at hl 1 rfl) ?_
  refine lv_iload_n C.x C.b dX8_curvature_2 rfl (lv_at hl 2 rfl) ?_
  exact k_outX (vx_runV (As := [.int (nI i), .int b]) (rest := []) C.1 (kX8_fourOf_b2 l hst G B0 f h dl sz vs vd vw vm vp vn w g1 g2 g3 fo le wa i b hM hdl har hsz hi hv) (cwV 2 C.ts gX8_curvature_X8_fourOf rfl rfl rfl ⟨rfl, hdX8_curvature_X8_fourOf⟩ ⟨Nat.le_of_ble_eq_true rfl, Nat.le_of_ble_eq_true rfl⟩) (k_preV C hX (hM.at 0 rfl) rfl) rfl rfl hl.1 rfl (lv_room (Nat.le_of_ble_eq_true rfl)) dX8_curvature_3 ⟨Nat.le_of_ble_eq_true rfl, Nat.le_of_ble_eq_true rfl⟩) hX hout hlocks hQ (fun f9 h9 => h9) (by omega) (by omega)

abbrev rmX8_radius_b1 : Room := { frames := 8, cells := 1, slots := 6, locals := 134 }
set_option maxHeartbeats 4000000 in
set_option maxRecDepth 100000 in
/-- X8_radius_b1 -/
theorem kX8_radius_b1 (l : Launch) (hst : l.stackTraces = false) (G : kG) (B0 : Nat) (f : kH) (h dl sz : Nat) (vs vd vw vm vp vn : Value) (w g1 g2 g3 : Nat → Nat) (fo le wa : Nat → Nat → Int64) (a b : Int32) (hM : kCs f [(h, .inr (8, [vs, vd, .ref dl, vw, vm, vp, vn]))]) (hdl : kLs G f dl sz w (gkE g1 g2 g3)) (har : gkA G f sz g1 g2 g3 fo le wa) (hsz : sz ≤ 8) (hv : ¬ mIn a sz) : vx_Met l yX8_radius wsX8_radius (rmX8_radius_b1) (kP G B0 f [.ref h, .int a, .int b]) kNo (kXC G B0 "java/lang/IndexOutOfBoundsException" (fun f1 => f1 = f)) 1 6 (kAb B0) := by
  refine kMetX (cc := cX8_radius) (maxL := 3) (ret := (some .float)) (by decide) rfl (Nat.le_of_ble_eq_true rfl) ?_
  intro p e s m args below meth c H locs Q ls C hX hl hr hlocks hnm hQ hout
  have hl : lv_has ls 3 [(0, .ref h), (1, .int a), (2, .int b)] := hl
  refine lv_fconst1 C.x C.b dX8_radius_0 ?_
  refine lv_aload_n C.x C.b dX8_radius_1 rfl (lv_at hl 0 rfl) ?_
  refine lv_iload_n C.x C.b dX8_radius_2 rfl (lv_at hl 1 rfl) ?_
  refine lv_iload_n C.x C.b dX8_radius_3 rfl (lv_at hl 2 rfl) ?_
  exact k_outX (vx_runV (As := [.int a, .int b]) (rest := [.float FP.fconst1]) C.1 (kX8_fourOf_b1 l hst G B0 f h dl sz vs vd vw vm vp vn w g1 g2 g3 fo le wa a b hM hdl har hsz hv) (cwV 2 C.ts gX8_radius_X8_fourOf rfl rfl rfl ⟨rfl, hdX8_radius_X8_fourOf⟩ ⟨Nat.le_of_ble_eq_true rfl, Nat.le_of_ble_eq_true rfl⟩) (k_preV C hX (hM.at 0 rfl) rfl) rfl rfl hl.1 rfl (lv_room (Nat.le_of_ble_eq_true rfl)) dX8_radius_4 ⟨Nat.le_of_ble_eq_true rfl, Nat.le_of_ble_eq_true rfl⟩) hX hout hlocks hQ (fun f9 h9 => h9) (by omega) (by omega)

abbrev rmX8_radius_b2 : Room := { frames := 7, cells := 1, slots := 6, locals := 113 }
set_option maxHeartbeats 4000000 in
set_option maxRecDepth 100000 in
/-- X8_radius_b2 -/
theorem kX8_radius_b2 (l : Launch) (hst : l.stackTraces = false) (G : kG) (B0 : Nat) (f : kH) (h dl sz : Nat) (vs vd vw vm vp vn : Value) (w g1 g2 g3 : Nat → Nat) (fo le wa : Nat → Nat → Int64) (i : Nat) (b : Int32) (hM : kCs f [(h, .inr (8, [vs, vd, .ref dl, vw, vm, vp, vn]))]) (hdl : kLs G f dl sz w (gkE g1 g2 g3)) (har : gkA G f sz g1 g2 g3 fo le wa) (hsz : sz ≤ 8) (hi : i < sz) (hv : ¬ mRg b (0) 3) : vx_Met l yX8_radius wsX8_radius (rmX8_radius_b2) (kP G B0 f [.ref h, .int (nI i), .int b]) kNo (kXC G B0 "java/lang/IndexOutOfBoundsException" (fun f1 => f1 = f)) 1 6 (kAb B0) := by
  refine kMetX (cc := cX8_radius) (maxL := 3) (ret := (some .float)) (by decide) rfl (Nat.le_of_ble_eq_true rfl) ?_
  intro p e s m args below meth c H locs Q ls C hX hl hr hlocks hnm hQ hout
  have hl : lv_has ls 3 [(0, .ref h), (1, .int (nI i)), (2, .int b)] := hl
  refine lv_fconst1 C.x C.b dX8_radius_0 ?_
  refine lv_aload_n C.x C.b dX8_radius_1 rfl (lv_at hl 0 rfl) ?_
  refine lv_iload_n C.x C.b dX8_radius_2 rfl (lv_at hl 1 rfl) ?_
  refine lv_iload_n C.x C.b dX8_radius_3 rfl (lv_at hl 2 rfl) ?_
  exact k_outX (vx_runV (As := [.int (nI i), .int b]) (rest := [.float FP.fconst1]) C.1 (kX8_fourOf_b2 l hst G B0 f h dl sz vs vd vw vm vp vn w g1 g2 g3 fo le wa i b hM hdl har hsz hi hv) (cwV 2 C.ts gX8_radius_X8_fourOf rfl rfl rfl ⟨rfl, hdX8_radius_X8_fourOf⟩ ⟨Nat.le_of_ble_eq_true rfl, Nat.le_of_ble_eq_true rfl⟩) (k_preV C hX (hM.at 0 rfl) rfl) rfl rfl hl.1 rfl (lv_room (Nat.le_of_ble_eq_true rfl)) dX8_radius_4 ⟨Nat.le_of_ble_eq_true rfl, Nat.le_of_ble_eq_true rfl⟩) hX hout hlocks hQ (fun f9 h9 => h9) (by omega) (by omega)

theorem lk_X8_turn_cl67 : Cond.classLink RX8 67 "java/lang/IllegalStateException" ∈ wsX8_turn := by decide +kernel
theorem lk_X8_turn_ini_IllegalStateException : Cond.initialized "java/lang/IllegalStateException" ∈ wsX8_turn := by decide +kernel
theorem hat_X8_turn_71_IllegalStateException : ∀ w ∈ (vx_atS RX8 71 "java/lang/IllegalStateException" kChain).filter goodWord, w ∈ wsX8_turn := by
  intro w hw
  unfold wsX8_turn
  simp only [List.mem_cons, List.mem_append, hw, or_true, true_or]
abbrev rmX8_turn_b3 : Room := { frames := 6, cells := 1, slots := 6, locals := 108 }
set_option maxHeartbeats 4000000 in
set_option maxRecDepth 100000 in
/-- X8_turn_b3 -/
theorem kX8_turn_b3 (l : Launch) (hst : l.stackTraces = false) (G : kG) (B0 : Nat) (f : kH) (h dl sz : Nat) (vs vd vw vm vp vn : Value) (w g1 g2 g3 : Nat → Nat) (fo le wa : Nat → Nat → Int64) (i pl : Nat) (hM : kCs f [(h, .inr (8, [vs, vd, .ref dl, vw, vm, vp, vn]))]) (hdl : kLs G f dl sz w (gkE g1 g2 g3)) (har : gkA G f sz g1 g2 g3 fo le wa) (hsz : sz ≤ 8) (hi : i < sz) (hpl : pl < 4) (hle : 1000000000000000 < xTurn (fo i) pl) : vx_Met l yX8_turn wsX8_turn (rmX8_turn_b3) (kP G B0 f [.ref h, .int (nI i), .int (nI pl)]) kNo (kXC G B0 "java/lang/IllegalStateException" (fun f1 => f1 = f)) 1 6 (kAb B0) := by
  refine kMetX (cc := cX8_turn) (maxL := 6) (ret := (some .long)) (by decide) rfl (Nat.le_of_ble_eq_true rfl) ?_
  intro p e s m args below meth c H locs Q ls C hX hl hr hlocks hnm hQ hout
  have hl : lv_has ls 6 [(0, .ref h), (1, .int (nI i)), (2, .int (nI pl))] := hl
  refine lv_aload_n C.x C.b dX8_turn_0 rfl (lv_at hl 0 rfl) ?_
  refine lv_iload_n C.x C.b dX8_turn_1 rfl (lv_at hl 1 rfl) ?_
  refine lv_iload_n C.x C.b dX8_turn_2 rfl (lv_at hl 2 rfl) ?_
  refine k_callq (va_runV (As := [.int (nI i), .int (nI pl)]) (rest := []) C.1 (kX8_fourOf l G B0 f h dl sz vs vd vw vm vp vn w g1 g2 g3 fo le wa i pl hM hdl har hsz hi hpl) (cwV 2 C.ts gX8_turn_X8_fourOf rfl rfl rfl ⟨rfl, hdX8_turn_X8_fourOf⟩ ⟨Nat.le_of_ble_eq_true rfl, Nat.le_of_ble_eq_true rfl⟩) (k_preV C hX (hM.at 0 rfl) rfl) rfl rfl hl.1 rfl (lv_room (Nat.le_of_ble_eq_true rfl)) dX8_turn_3 ⟨Nat.le_of_ble_eq_true rfl, Nat.le_of_ble_eq_true rfl⟩) hX (fun r3 f3 H locs hp3 hX => ?_)
  obtain ⟨hr3, hf3⟩ := hp3
  rw [hf3] at hX
  refine k_topq (v := g1 i) hr3 ?_
  refine lv_astore_n (lv' := [(3, .ref (g1 i)), (0, .ref h), (1, .int (nI i)), (2, .int (nI pl))]) C.x C.b dX8_turn_6 rfl hl (by decide) rfl (fun ls hl => ?_)
  refine lv_aload_n C.x C.b dX8_turn_7 rfl (lv_at hl 0 rfl) ?_
  refine lv_iload_n C.x C.b dX8_turn_8 rfl (lv_at hl 3 rfl) ?_
  refine k_calll (va_runSN (As := [.ref (g1 i), .int (nI pl)]) (rest := []) C.1 (kX2_turnedAt l G B0 f (g1 i) (fo i) pl (kCs.one (har i hi).1) hpl) ⟨va_cnB 2 C.ts gX8_turn_X2_turnedAt_n201 rfl rfl rfl (C.2.1.2.2.1 _ (show ((RX8, 201, yX2_turnedAt, "Koebehall") : String × Nat × MethodName × String) ∈ kNestM by decide +kernel)) (C.ts _ lk_X8_turn_in_RX2) hdX8_turn_X2_turnedAt ⟨Nat.le_of_ble_eq_true rfl, Nat.le_of_ble_eq_true rfl⟩, C.ts _ lk_X8_turn_st_X2_turnedAt, trivial⟩ (k_preS C hX) rfl rfl hl.1 rfl (lv_room (Nat.le_of_ble_eq_true rfl)) dX8_turn_9 ⟨Nat.le_of_ble_eq_true rfl, Nat.le_of_ble_eq_true rfl⟩) hX (fun r9 f9 H locs hp9 hX => ?_)
  obtain ⟨hr9, hf9⟩ := hp9
  rw [hf9] at hX
  refine k_topl (y := (xTurn (fo i) pl)) hr9 ?_
  refine lv_lstore (lv' := [(4, .long (xTurn (fo i) pl)), (3, .ref (g1 i)), (0, .ref h), (1, .int (nI i)), (2, .int (nI pl))]) C.x C.b dX8_turn_12 hl (by decide) rfl (fun ls hl => ?_)
  refine lv_lload C.x C.b dX8_turn_14 (lv_at hl 0 rfl) ?_
  refine lv_ldc2 (v := 1000000000000000) C.x C.b C.ow (C.ts _ lk_X8_turn_c205) dX8_turn_16 ?_
  refine k_lcmp_le (tgt := 33) C.x C.b dX8_turn_19 dX8_turn_20 (by decide) (fun c_20 => ?_) (fun c_20 => ?_)
  · skip
    exact absurd hle c_20
  · skip
    exact k_thS (cls := "java/lang/IllegalStateException") (text := "the curvature would be above 1000000000000000") C hst hX hl.1 hout lk_X8_turn_cl67 lk_X8_turn_ini_IllegalStateException (by decide +kernel) (by decide) hat_X8_turn_71_IllegalStateException hng_RX8_67_71_IllegalStateException dX8_turn_23 dX8_turn_26 dX8_turn_27 dX8_turn_29 dX8_turn_32 (Nat.le_of_ble_eq_true rfl) (Nat.le_of_ble_eq_true rfl) (Nat.le_of_ble_eq_true rfl) (Nat.le_of_ble_eq_true rfl) hlocks hQ (rfl) (Nat.le_of_ble_eq_true rfl) (Nat.le_of_ble_eq_true rfl)

abbrev rmX8_root_b1 : Room := { frames := 7, cells := 1, slots := 6, locals := 111 }
set_option maxHeartbeats 4000000 in
set_option maxRecDepth 100000 in
/-- X8_root_b1 -/
theorem kX8_root_b1 (l : Launch) (hst : l.stackTraces = false) (G : kG) (B0 : Nat) (f : kH) (h dl sz : Nat) (vs vd vw vm vp vn : Value) (w g1 g2 g3 : Nat → Nat) (fo le wa : Nat → Nat → Int64) (a b : Int32) (hM : kCs f [(h, .inr (8, [vs, vd, .ref dl, vw, vm, vp, vn]))]) (hdl : kLs G f dl sz w (gkE g1 g2 g3)) (har : gkA G f sz g1 g2 g3 fo le wa) (hsz : sz ≤ 8) (hv : ¬ mIn a sz) : vx_Met l yX8_root wsX8_root (rmX8_root_b1) (kP G B0 f [.ref h, .int a, .int b]) kNo (kXC G B0 "java/lang/IndexOutOfBoundsException" (fun f1 => f1 = f)) 1 6 (kAb B0) := by
  refine kMetX (cc := cX8_root) (maxL := 4) (ret := (some .long)) (by decide) rfl (Nat.le_of_ble_eq_true rfl) ?_
  intro p e s m args below meth c H locs Q ls C hX hl hr hlocks hnm hQ hout
  have hl : lv_has ls 4 [(0, .ref h), (1, .int a), (2, .int b)] := hl
  refine lv_aload_n C.x C.b dX8_root_0 rfl (lv_at hl 0 rfl) ?_
  refine lv_iload_n C.x C.b dX8_root_1 rfl (lv_at hl 1 rfl) ?_
  exact k_outX (vx_runV (As := [.int a]) (rest := []) C.1 (kX8_gasketOf_b1 l hst G B0 f h dl sz vs vd vw vm vp vn w g1 g2 g3 fo le wa a hM hdl har hsz hv) (cwV 1 C.ts gX8_root_X8_gasketOf rfl rfl rfl ⟨rfl, hdX8_root_X8_gasketOf⟩ ⟨Nat.le_of_ble_eq_true rfl, Nat.le_of_ble_eq_true rfl⟩) (k_preV C hX (hM.at 0 rfl) rfl) rfl rfl hl.1 rfl (lv_room (Nat.le_of_ble_eq_true rfl)) dX8_root_2 ⟨Nat.le_of_ble_eq_true rfl, Nat.le_of_ble_eq_true rfl⟩) hX hout hlocks hQ (fun f9 h9 => h9) (by omega) (by omega)

theorem lk_X8_root_cl56 : Cond.classLink RX8 56 "java/lang/IndexOutOfBoundsException" ∈ wsX8_root := by decide +kernel
theorem lk_X8_root_ini_IndexOutOfBoundsException : Cond.initialized "java/lang/IndexOutOfBoundsException" ∈ wsX8_root := by decide +kernel
theorem hat_X8_root_60_IndexOutOfBoundsException : ∀ w ∈ (vx_atS RX8 60 "java/lang/IndexOutOfBoundsException" kChain).filter goodWord, w ∈ wsX8_root := by
  intro w hw
  unfold wsX8_root
  simp only [List.mem_cons, List.mem_append, hw, or_true, true_or]
abbrev rmX8_root_b2 : Room := { frames := 6, cells := 1, slots := 6, locals := 90 }
set_option maxHeartbeats 4000000 in
set_option maxRecDepth 100000 in
/-- X8_root_b2 -/
theorem kX8_root_b2 (l : Launch) (hst : l.stackTraces = false) (G : kG) (B0 : Nat) (f : kH) (h dl sz : Nat) (vs vd vw vm vp vn : Value) (w g1 g2 g3 : Nat → Nat) (fo le wa : Nat → Nat → Int64) (i : Nat) (b : Int32) (hM : kCs f [(h, .inr (8, [vs, vd, .ref dl, vw, vm, vp, vn]))]) (hdl : kLs G f dl sz w (gkE g1 g2 g3)) (har : gkA G f sz g1 g2 g3 fo le wa) (hsz : sz ≤ 8) (hi : i < sz) (hv : ¬ mRg b (0) 3) : vx_Met l yX8_root wsX8_root (rmX8_root_b2) (kP G B0 f [.ref h, .int (nI i), .int b]) kNo (kXC G B0 "java/lang/IndexOutOfBoundsException" (fun f1 => f1 = f)) 1 6 (kAb B0) := by
  refine kMetX (cc := cX8_root) (maxL := 4) (ret := (some .long)) (by decide) rfl (Nat.le_of_ble_eq_true rfl) ?_
  intro p e s m args below meth c H locs Q ls C hX hl hr hlocks hnm hQ hout
  have hl : lv_has ls 4 [(0, .ref h), (1, .int (nI i)), (2, .int b)] := hl
  refine lv_aload_n C.x C.b dX8_root_0 rfl (lv_at hl 0 rfl) ?_
  refine lv_iload_n C.x C.b dX8_root_1 rfl (lv_at hl 1 rfl) ?_
  refine k_callq (va_runV (As := [.int (nI i)]) (rest := []) C.1 (kX8_gasketOf l G B0 f h dl sz vs vd vw vm vp vn w g1 g2 g3 fo le wa i hM hdl har hsz hi) (cwV 1 C.ts gX8_root_X8_gasketOf rfl rfl rfl ⟨rfl, hdX8_root_X8_gasketOf⟩ ⟨Nat.le_of_ble_eq_true rfl, Nat.le_of_ble_eq_true rfl⟩) (k_preV C hX (hM.at 0 rfl) rfl) rfl rfl hl.1 rfl (lv_room (Nat.le_of_ble_eq_true rfl)) dX8_root_2 ⟨Nat.le_of_ble_eq_true rfl, Nat.le_of_ble_eq_true rfl⟩) hX (fun r2 f2 H locs hp2 hX => ?_)
  obtain ⟨hr2, hf2⟩ := hp2
  rw [hf2] at hX
  refine k_topq (v := w i) hr2 ?_
  refine lv_astore_n (lv' := [(3, .ref (w i)), (0, .ref h), (1, .int (nI i)), (2, .int b)]) C.x C.b dX8_root_5 rfl hl (by decide) rfl (fun ls hl => ?_)
  refine lv_iload_n C.x C.b dX8_root_6 rfl (lv_at hl 3 rfl) ?_
  refine lv_if_lt (tgt := 15) C.x C.b dX8_root_7 (by decide) (fun c_7 => ?_) (fun c_7 => ?_)
  · skip
    exact k_thS (cls := "java/lang/IndexOutOfBoundsException") (text := "there is no such rank") C hst hX hl.1 hout lk_X8_root_cl56 lk_X8_root_ini_IndexOutOfBoundsException (by decide +kernel) (by decide) hat_X8_root_60_IndexOutOfBoundsException hng_RX8_56_60_IndexOutOfBoundsException dX8_root_15 dX8_root_18 dX8_root_19 dX8_root_21 dX8_root_24 (Nat.le_of_ble_eq_true rfl) (Nat.le_of_ble_eq_true rfl) (Nat.le_of_ble_eq_true rfl) (Nat.le_of_ble_eq_true rfl) hlocks hQ (rfl) (Nat.le_of_ble_eq_true rfl) (Nat.le_of_ble_eq_true rfl)
  · skip
    refine lv_iload_n C.x C.b dX8_root_10 rfl (lv_at hl 3 rfl) ?_
    refine lv_iconst (v := nI 3) C.x C.b dX8_root_11 (by decide) ?_
    refine lv_icmp_le (tgt := 25) C.x C.b dX8_root_12 (by decide) (fun c_12 => ?_) (fun c_12 => ?_)
    · skip
      exact absurd (mRg_of (k := 3) (by decide) c_7 c_12) hv
    · skip
      exact k_thS (cls := "java/lang/IndexOutOfBoundsException") (text := "there is no such rank") C hst hX hl.1 hout lk_X8_root_cl56 lk_X8_root_ini_IndexOutOfBoundsException (by decide +kernel) (by decide) hat_X8_root_60_IndexOutOfBoundsException hng_RX8_56_60_IndexOutOfBoundsException dX8_root_15 dX8_root_18 dX8_root_19 dX8_root_21 dX8_root_24 (Nat.le_of_ble_eq_true rfl) (Nat.le_of_ble_eq_true rfl) (Nat.le_of_ble_eq_true rfl) (Nat.le_of_ble_eq_true rfl) hlocks hQ (rfl) (Nat.le_of_ble_eq_true rfl) (Nat.le_of_ble_eq_true rfl)

abbrev rmX8_boundedGasket_b1 : Room := { frames := 7, cells := 1, slots := 6, locals := 111 }
set_option maxHeartbeats 4000000 in
set_option maxRecDepth 100000 in
/-- X8_boundedGasket_b1 -/
theorem kX8_boundedGasket_b1 (l : Launch) (hst : l.stackTraces = false) (G : kG) (B0 : Nat) (f : kH) (h dl sz : Nat) (vs vd vw vm vp vn : Value) (w g1 g2 g3 : Nat → Nat) (fo le wa : Nat → Nat → Int64) (a b : Int32) (hM : kCs f [(h, .inr (8, [vs, vd, .ref dl, vw, vm, vp, vn]))]) (hdl : kLs G f dl sz w (gkE g1 g2 g3)) (har : gkA G f sz g1 g2 g3 fo le wa) (hsz : sz ≤ 8) (hv : ¬ mIn a sz) : vx_Met l yX8_boundedGasket wsX8_boundedGasket (rmX8_boundedGasket_b1) (kP G B0 f [.ref h, .int a, .int b]) kNo (kXC G B0 "java/lang/IndexOutOfBoundsException" (fun f1 => f1 = f)) 1 6 (kAb B0) := by
  refine kMetX (cc := cX8_boundedGasket) (maxL := 4) (ret := (some (.object "Koebehall$Gasket"))) (by decide) rfl (Nat.le_of_ble_eq_true rfl) ?_
  intro p e s m args below meth c H locs Q ls C hX hl hr hlocks hnm hQ hout
  have hl : lv_has ls 4 [(0, .ref h), (1, .int a), (2, .int b)] := hl
  refine lv_aload_n C.x C.b dX8_boundedGasket_0 rfl (lv_at hl 0 rfl) ?_
  refine lv_iload_n C.x C.b dX8_boundedGasket_1 rfl (lv_at hl 1 rfl) ?_
  exact k_outX (vx_runV (As := [.int a]) (rest := []) C.1 (kX8_gasketOf_b1 l hst G B0 f h dl sz vs vd vw vm vp vn w g1 g2 g3 fo le wa a hM hdl har hsz hv) (cwV 1 C.ts gX8_boundedGasket_X8_gasketOf rfl rfl rfl ⟨rfl, hdX8_boundedGasket_X8_gasketOf⟩ ⟨Nat.le_of_ble_eq_true rfl, Nat.le_of_ble_eq_true rfl⟩) (k_preV C hX (hM.at 0 rfl) rfl) rfl rfl hl.1 rfl (lv_room (Nat.le_of_ble_eq_true rfl)) dX8_boundedGasket_2 ⟨Nat.le_of_ble_eq_true rfl, Nat.le_of_ble_eq_true rfl⟩) hX hout hlocks hQ (fun f9 h9 => h9) (by omega) (by omega)

theorem lk_X8_boundedGasket_cl124 : Cond.classLink RX8 124 "java/lang/IllegalArgumentException" ∈ wsX8_boundedGasket := by decide +kernel
theorem lk_X8_boundedGasket_ini_IllegalArgumentException : Cond.initialized "java/lang/IllegalArgumentException" ∈ wsX8_boundedGasket := by decide +kernel
theorem hat_X8_boundedGasket_128_IllegalArgumentException : ∀ w ∈ (vx_atS RX8 128 "java/lang/IllegalArgumentException" kChain).filter goodWord, w ∈ wsX8_boundedGasket := by
  intro w hw
  unfold wsX8_boundedGasket
  simp only [List.mem_cons, List.mem_append, hw, or_true, true_or]
abbrev rmX8_boundedGasket_b2 : Room := { frames := 6, cells := 1, slots := 6, locals := 90 }
set_option maxHeartbeats 4000000 in
set_option maxRecDepth 100000 in
/-- X8_boundedGasket_b2 -/
theorem kX8_boundedGasket_b2 (l : Launch) (hst : l.stackTraces = false) (G : kG) (B0 : Nat) (f : kH) (h dl sz : Nat) (vs vd vw vm vp vn : Value) (w g1 g2 g3 : Nat → Nat) (fo le wa : Nat → Nat → Int64) (i : Nat) (b : Int32) (hM : kCs f [(h, .inr (8, [vs, vd, .ref dl, vw, vm, vp, vn]))]) (hdl : kLs G f dl sz w (gkE g1 g2 g3)) (har : gkA G f sz g1 g2 g3 fo le wa) (hsz : sz ≤ 8) (hi : i < sz) (hv : ¬ mRg b (1 : Nat) (1000 : Nat)) : vx_Met l yX8_boundedGasket wsX8_boundedGasket (rmX8_boundedGasket_b2) (kP G B0 f [.ref h, .int (nI i), .int b]) kNo (kXC G B0 "java/lang/IllegalArgumentException" (fun f1 => f1 = f)) 1 6 (kAb B0) := by
  refine kMetX (cc := cX8_boundedGasket) (maxL := 4) (ret := (some (.object "Koebehall$Gasket"))) (by decide) rfl (Nat.le_of_ble_eq_true rfl) ?_
  intro p e s m args below meth c H locs Q ls C hX hl hr hlocks hnm hQ hout
  have hl : lv_has ls 4 [(0, .ref h), (1, .int (nI i)), (2, .int b)] := hl
  refine lv_aload_n C.x C.b dX8_boundedGasket_0 rfl (lv_at hl 0 rfl) ?_
  refine lv_iload_n C.x C.b dX8_boundedGasket_1 rfl (lv_at hl 1 rfl) ?_
  refine k_callq (va_runV (As := [.int (nI i)]) (rest := []) C.1 (kX8_gasketOf l G B0 f h dl sz vs vd vw vm vp vn w g1 g2 g3 fo le wa i hM hdl har hsz hi) (cwV 1 C.ts gX8_boundedGasket_X8_gasketOf rfl rfl rfl ⟨rfl, hdX8_boundedGasket_X8_gasketOf⟩ ⟨Nat.le_of_ble_eq_true rfl, Nat.le_of_ble_eq_true rfl⟩) (k_preV C hX (hM.at 0 rfl) rfl) rfl rfl hl.1 rfl (lv_room (Nat.le_of_ble_eq_true rfl)) dX8_boundedGasket_2 ⟨Nat.le_of_ble_eq_true rfl, Nat.le_of_ble_eq_true rfl⟩) hX (fun r2 f2 H locs hp2 hX => ?_)
  obtain ⟨hr2, hf2⟩ := hp2
  rw [hf2] at hX
  refine k_topq (v := w i) hr2 ?_
  refine lv_astore_n (lv' := [(3, .ref (w i)), (0, .ref h), (1, .int (nI i)), (2, .int b)]) C.x C.b dX8_boundedGasket_5 rfl hl (by decide) rfl (fun ls hl => ?_)
  refine lv_iload_n C.x C.b dX8_boundedGasket_6 rfl (lv_at hl 3 rfl) ?_
  refine lv_iconst (v := nI 1) C.x C.b dX8_boundedGasket_7 (by decide) ?_
  refine lv_icmp_lt (tgt := 18) C.x C.b dX8_boundedGasket_8 (by decide) (fun c_8 => ?_) (fun c_8 => ?_)
  · skip
    exact k_thS (cls := "java/lang/IllegalArgumentException") (text := "bound is out of range") C hst hX hl.1 hout lk_X8_boundedGasket_cl124 lk_X8_boundedGasket_ini_IllegalArgumentException (by decide +kernel) (by decide) hat_X8_boundedGasket_128_IllegalArgumentException hng_RX8_124_128_IllegalArgumentException dX8_boundedGasket_18 dX8_boundedGasket_21 dX8_boundedGasket_22 dX8_boundedGasket_24 dX8_boundedGasket_27 (Nat.le_of_ble_eq_true rfl) (Nat.le_of_ble_eq_true rfl) (Nat.le_of_ble_eq_true rfl) (Nat.le_of_ble_eq_true rfl) hlocks hQ (rfl) (Nat.le_of_ble_eq_true rfl) (Nat.le_of_ble_eq_true rfl)
  · skip
    refine lv_iload_n C.x C.b dX8_boundedGasket_11 rfl (lv_at hl 3 rfl) ?_
    refine lv_sipush (v := nI 1000) C.x C.b dX8_boundedGasket_12 (by decide) ?_
    refine lv_icmp_le (tgt := 28) C.x C.b dX8_boundedGasket_15 (by decide) (fun c_15 => ?_) (fun c_15 => ?_)
    · skip
      exact absurd (mRg_of2 (j := 1) (k := 1000) (by decide) (by decide) c_8 c_15) hv
    · skip
      exact k_thS (cls := "java/lang/IllegalArgumentException") (text := "bound is out of range") C hst hX hl.1 hout lk_X8_boundedGasket_cl124 lk_X8_boundedGasket_ini_IllegalArgumentException (by decide +kernel) (by decide) hat_X8_boundedGasket_128_IllegalArgumentException hng_RX8_124_128_IllegalArgumentException dX8_boundedGasket_18 dX8_boundedGasket_21 dX8_boundedGasket_22 dX8_boundedGasket_24 dX8_boundedGasket_27 (Nat.le_of_ble_eq_true rfl) (Nat.le_of_ble_eq_true rfl) (Nat.le_of_ble_eq_true rfl) (Nat.le_of_ble_eq_true rfl) hlocks hQ (rfl) (Nat.le_of_ble_eq_true rfl) (Nat.le_of_ble_eq_true rfl)

theorem lk_X8_boundedGasket_cl67 : Cond.classLink RX8 67 "java/lang/IllegalStateException" ∈ wsX8_boundedGasket := by decide +kernel
theorem lk_X8_boundedGasket_ini_IllegalStateException : Cond.initialized "java/lang/IllegalStateException" ∈ wsX8_boundedGasket := by decide +kernel
theorem hat_X8_boundedGasket_71_IllegalStateException : ∀ w ∈ (vx_atS RX8 71 "java/lang/IllegalStateException" kChain).filter goodWord, w ∈ wsX8_boundedGasket := by
  intro w hw
  unfold wsX8_boundedGasket
  simp only [List.mem_cons, List.mem_append, hw, or_true, true_or]
abbrev rmX8_boundedGasket_b3 : Room := { frames := 6, cells := 1, slots := 6, locals := 90 }
set_option maxHeartbeats 4000000 in
set_option maxRecDepth 100000 in
/-- X8_boundedGasket_b3 -/
theorem kX8_boundedGasket_b3 (l : Launch) (hst : l.stackTraces = false) (G : kG) (B0 : Nat) (f : kH) (h dl sz : Nat) (vs vd vw vm vp vn : Value) (w g1 g2 g3 : Nat → Nat) (fo le wa : Nat → Nat → Int64) (i b : Nat) (hM : kCs f [(h, .inr (8, [vs, vd, .ref dl, vw, vm, vp, vn]))]) (hdl : kLs G f dl sz w (gkE g1 g2 g3)) (har : gkA G f sz g1 g2 g3 fo le wa) (hsz : sz ≤ 8) (hi : i < sz) (hb1 : 1 ≤ b) (hb2 : b ≤ 1000) (hng : ¬ le i 0 < 0) : vx_Met l yX8_boundedGasket wsX8_boundedGasket (rmX8_boundedGasket_b3) (kP G B0 f [.ref h, .int (nI i), .int (nI b)]) kNo (kXC G B0 "java/lang/IllegalStateException" (fun f1 => f1 = f)) 1 6 (kAb B0) := by
  refine kMetX (cc := cX8_boundedGasket) (maxL := 4) (ret := (some (.object "Koebehall$Gasket"))) (by decide) rfl (Nat.le_of_ble_eq_true rfl) ?_
  intro p e s m args below meth c H locs Q ls C hX hl hr hlocks hnm hQ hout
  have hl : lv_has ls 4 [(0, .ref h), (1, .int (nI i)), (2, .int (nI b))] := hl
  refine lv_aload_n C.x C.b dX8_boundedGasket_0 rfl (lv_at hl 0 rfl) ?_
  refine lv_iload_n C.x C.b dX8_boundedGasket_1 rfl (lv_at hl 1 rfl) ?_
  refine k_callq (va_runV (As := [.int (nI i)]) (rest := []) C.1 (kX8_gasketOf l G B0 f h dl sz vs vd vw vm vp vn w g1 g2 g3 fo le wa i hM hdl har hsz hi) (cwV 1 C.ts gX8_boundedGasket_X8_gasketOf rfl rfl rfl ⟨rfl, hdX8_boundedGasket_X8_gasketOf⟩ ⟨Nat.le_of_ble_eq_true rfl, Nat.le_of_ble_eq_true rfl⟩) (k_preV C hX (hM.at 0 rfl) rfl) rfl rfl hl.1 rfl (lv_room (Nat.le_of_ble_eq_true rfl)) dX8_boundedGasket_2 ⟨Nat.le_of_ble_eq_true rfl, Nat.le_of_ble_eq_true rfl⟩) hX (fun r2 f2 H locs hp2 hX => ?_)
  obtain ⟨hr2, hf2⟩ := hp2
  rw [hf2] at hX
  refine k_topq (v := w i) hr2 ?_
  refine lv_astore_n (lv' := [(3, .ref (w i)), (0, .ref h), (1, .int (nI i)), (2, .int (nI b))]) C.x C.b dX8_boundedGasket_5 rfl hl (by decide) rfl (fun ls hl => ?_)
  refine lv_iload_n C.x C.b dX8_boundedGasket_6 rfl (lv_at hl 3 rfl) ?_
  refine lv_iconst (v := nI 1) C.x C.b dX8_boundedGasket_7 (by decide) ?_
  refine lv_icmp_lt (tgt := 18) C.x C.b dX8_boundedGasket_8 (by decide) (fun c_8 => ?_) (fun c_8 => ?_)
  · skip
    have c_8 : b < 1 := (nI_ltI (by omega) (by omega)).mp c_8
    omega
  have c_8 : ¬ (b < 1) := fun h9 => c_8 ((nI_ltI (by omega) (by omega)).mpr h9)
  refine lv_iload_n C.x C.b dX8_boundedGasket_11 rfl (lv_at hl 3 rfl) ?_
  refine lv_sipush (v := nI 1000) C.x C.b dX8_boundedGasket_12 (by decide) ?_
  refine lv_icmp_le (tgt := 28) C.x C.b dX8_boundedGasket_15 (by decide) (fun c_15 => ?_) (fun c_15 => ?_)
  rotate_left
  · skip
    have c_15 : ¬ (b ≤ 1000) := fun h9 => c_15 ((nI_leI (by omega) (by omega)).mpr h9)
    omega
  have c_15 : b ≤ 1000 := (nI_leI (by omega) (by omega)).mp c_15
  refine lv_aload_n C.x C.b dX8_boundedGasket_28 rfl (lv_at hl 0 rfl) ?_
  refine k_getN (host := "Koebehall") (X := RX2) (T := TX2) (N := 3) (v := .ref (g2 i)) C hX (hdl.elt (by omega)) rfl hin_X8_boundedGasket_RX2 1 (by decide) (by decide +kernel) (fun _ h9 => h9) rfl dX8_boundedGasket_29 ?_
  refine lv_iconst (v := nI 0) C.x C.b dX8_boundedGasket_32 (by decide) ?_
  refine k_lald C hX ((har _ (by omega)).2.1) (vp_in_nI (by omega) (by omega)) dX8_boundedGasket_33 ?_
  refine k_topl (y := (le i) 0) (by rw [nI_clamp (by omega)]) ?_
  refine lv_lconst (v := 0) C.x C.b dX8_boundedGasket_34 (by decide) ?_
  refine k_lcmp_lt (tgt := 49) C.x C.b dX8_boundedGasket_35 dX8_boundedGasket_36 (by decide) (fun c_36 => ?_) (fun c_36 => ?_)
  · skip
    exact absurd c_36 hng
  · skip
    exact k_thS (cls := "java/lang/IllegalStateException") (text := "the gasket is not bounded") C hst hX hl.1 hout lk_X8_boundedGasket_cl67 lk_X8_boundedGasket_ini_IllegalStateException (by decide +kernel) (by decide) hat_X8_boundedGasket_71_IllegalStateException hng_RX8_67_71_IllegalStateException dX8_boundedGasket_39 dX8_boundedGasket_42 dX8_boundedGasket_43 dX8_boundedGasket_45 dX8_boundedGasket_48 (Nat.le_of_ble_eq_true rfl) (Nat.le_of_ble_eq_true rfl) (Nat.le_of_ble_eq_true rfl) (Nat.le_of_ble_eq_true rfl) hlocks hQ (rfl) (Nat.le_of_ble_eq_true rfl) (Nat.le_of_ble_eq_true rfl)

abbrev rmX8_count_b1 : Room := { frames := 8, cells := 1, slots := 6, locals := 134 }
set_option maxHeartbeats 4000000 in
set_option maxRecDepth 100000 in
/-- X8_count_b1 -/
theorem kX8_count_b1 (l : Launch) (hst : l.stackTraces = false) (G : kG) (B0 : Nat) (f : kH) (h dl sz : Nat) (vs vd vw vm vp vn : Value) (w g1 g2 g3 : Nat → Nat) (fo le wa : Nat → Nat → Int64) (a b : Int32) (hM : kCs f [(h, .inr (8, [vs, vd, .ref dl, vw, vm, vp, vn]))]) (hdl : kLs G f dl sz w (gkE g1 g2 g3)) (har : gkA G f sz g1 g2 g3 fo le wa) (hsz : sz ≤ 8) (hv : ¬ mIn a sz) : vx_Met l yX8_count wsX8_count (rmX8_count_b1) (kP G B0 f [.ref h, .int a, .int b]) kNo (kXC G B0 "java/lang/IndexOutOfBoundsException" (fun f1 => f1 = f)) 1 6 (kAb B0) := by
  refine kMetX (cc := cX8_count) (maxL := 3) (ret := (some .int)) (by decide) rfl (Nat.le_of_ble_eq_true rfl) ?_
  intro p e s m args below meth c H locs Q ls C hX hl hr hlocks hnm hQ hout
  have hl : lv_has ls 3 [(0, .ref h), (1, .int a), (2, .int b)] := hl
  refine lv_aload_n C.x C.b dX8_count_0 rfl (lv_at hl 0 rfl) ?_
  refine lv_iload_n C.x C.b dX8_count_1 rfl (lv_at hl 1 rfl) ?_
  refine lv_iload_n C.x C.b dX8_count_2 rfl (lv_at hl 2 rfl) ?_
  exact k_outX (vx_runV (As := [.int a, .int b]) (rest := []) C.1 (kX8_boundedGasket_b1 l hst G B0 f h dl sz vs vd vw vm vp vn w g1 g2 g3 fo le wa a b hM hdl har hsz hv) (cwV 2 C.ts gX8_count_X8_boundedGasket rfl rfl rfl ⟨rfl, hdX8_count_X8_boundedGasket⟩ ⟨Nat.le_of_ble_eq_true rfl, Nat.le_of_ble_eq_true rfl⟩) (k_preV C hX (hM.at 0 rfl) rfl) rfl rfl hl.1 rfl (lv_room (Nat.le_of_ble_eq_true rfl)) dX8_count_3 ⟨Nat.le_of_ble_eq_true rfl, Nat.le_of_ble_eq_true rfl⟩) hX hout hlocks hQ (fun f9 h9 => h9) (by omega) (by omega)

abbrev rmX8_count_b2 : Room := { frames := 7, cells := 1, slots := 6, locals := 113 }
set_option maxHeartbeats 4000000 in
set_option maxRecDepth 100000 in
/-- X8_count_b2 -/
theorem kX8_count_b2 (l : Launch) (hst : l.stackTraces = false) (G : kG) (B0 : Nat) (f : kH) (h dl sz : Nat) (vs vd vw vm vp vn : Value) (w g1 g2 g3 : Nat → Nat) (fo le wa : Nat → Nat → Int64) (i : Nat) (b : Int32) (hM : kCs f [(h, .inr (8, [vs, vd, .ref dl, vw, vm, vp, vn]))]) (hdl : kLs G f dl sz w (gkE g1 g2 g3)) (har : gkA G f sz g1 g2 g3 fo le wa) (hsz : sz ≤ 8) (hi : i < sz) (hv : ¬ mRg b (1 : Nat) (1000 : Nat)) : vx_Met l yX8_count wsX8_count (rmX8_count_b2) (kP G B0 f [.ref h, .int (nI i), .int b]) kNo (kXC G B0 "java/lang/IllegalArgumentException" (fun f1 => f1 = f)) 1 6 (kAb B0) := by
  refine kMetX (cc := cX8_count) (maxL := 3) (ret := (some .int)) (by decide) rfl (Nat.le_of_ble_eq_true rfl) ?_
  intro p e s m args below meth c H locs Q ls C hX hl hr hlocks hnm hQ hout
  have hl : lv_has ls 3 [(0, .ref h), (1, .int (nI i)), (2, .int b)] := hl
  refine lv_aload_n C.x C.b dX8_count_0 rfl (lv_at hl 0 rfl) ?_
  refine lv_iload_n C.x C.b dX8_count_1 rfl (lv_at hl 1 rfl) ?_
  refine lv_iload_n C.x C.b dX8_count_2 rfl (lv_at hl 2 rfl) ?_
  exact k_outX (vx_runV (As := [.int (nI i), .int b]) (rest := []) C.1 (kX8_boundedGasket_b2 l hst G B0 f h dl sz vs vd vw vm vp vn w g1 g2 g3 fo le wa i b hM hdl har hsz hi hv) (cwV 2 C.ts gX8_count_X8_boundedGasket rfl rfl rfl ⟨rfl, hdX8_count_X8_boundedGasket⟩ ⟨Nat.le_of_ble_eq_true rfl, Nat.le_of_ble_eq_true rfl⟩) (k_preV C hX (hM.at 0 rfl) rfl) rfl rfl hl.1 rfl (lv_room (Nat.le_of_ble_eq_true rfl)) dX8_count_3 ⟨Nat.le_of_ble_eq_true rfl, Nat.le_of_ble_eq_true rfl⟩) hX hout hlocks hQ (fun f9 h9 => h9) (by omega) (by omega)

abbrev rmX8_count_b3 : Room := { frames := 7, cells := 1, slots := 6, locals := 113 }
set_option maxHeartbeats 4000000 in
set_option maxRecDepth 100000 in
/-- X8_count_b3 -/
theorem kX8_count_b3 (l : Launch) (hst : l.stackTraces = false) (G : kG) (B0 : Nat) (f : kH) (h dl sz : Nat) (vs vd vw vm vp vn : Value) (w g1 g2 g3 : Nat → Nat) (fo le wa : Nat → Nat → Int64) (i b : Nat) (hM : kCs f [(h, .inr (8, [vs, vd, .ref dl, vw, vm, vp, vn]))]) (hdl : kLs G f dl sz w (gkE g1 g2 g3)) (har : gkA G f sz g1 g2 g3 fo le wa) (hsz : sz ≤ 8) (hi : i < sz) (hb1 : 1 ≤ b) (hb2 : b ≤ 1000) (hng : ¬ le i 0 < 0) : vx_Met l yX8_count wsX8_count (rmX8_count_b3) (kP G B0 f [.ref h, .int (nI i), .int (nI b)]) kNo (kXC G B0 "java/lang/IllegalStateException" (fun f1 => f1 = f)) 1 6 (kAb B0) := by
  refine kMetX (cc := cX8_count) (maxL := 3) (ret := (some .int)) (by decide) rfl (Nat.le_of_ble_eq_true rfl) ?_
  intro p e s m args below meth c H locs Q ls C hX hl hr hlocks hnm hQ hout
  have hl : lv_has ls 3 [(0, .ref h), (1, .int (nI i)), (2, .int (nI b))] := hl
  refine lv_aload_n C.x C.b dX8_count_0 rfl (lv_at hl 0 rfl) ?_
  refine lv_iload_n C.x C.b dX8_count_1 rfl (lv_at hl 1 rfl) ?_
  refine lv_iload_n C.x C.b dX8_count_2 rfl (lv_at hl 2 rfl) ?_
  exact k_outX (vx_runV (As := [.int (nI i), .int (nI b)]) (rest := []) C.1 (kX8_boundedGasket_b3 l hst G B0 f h dl sz vs vd vw vm vp vn w g1 g2 g3 fo le wa i b hM hdl har hsz hi hb1 hb2 hng) (cwV 2 C.ts gX8_count_X8_boundedGasket rfl rfl rfl ⟨rfl, hdX8_count_X8_boundedGasket⟩ ⟨Nat.le_of_ble_eq_true rfl, Nat.le_of_ble_eq_true rfl⟩) (k_preV C hX (hM.at 0 rfl) rfl) rfl rfl hl.1 rfl (lv_room (Nat.le_of_ble_eq_true rfl)) dX8_count_3 ⟨Nat.le_of_ble_eq_true rfl, Nat.le_of_ble_eq_true rfl⟩) hX hout hlocks hQ (fun f9 h9 => h9) (by omega) (by omega)

abbrev rmX8_countAnew_b1 : Room := { frames := 8, cells := 1, slots := 6, locals := 134 }
set_option maxHeartbeats 4000000 in
set_option maxRecDepth 100000 in
/-- X8_countAnew_b1 -/
theorem kX8_countAnew_b1 (l : Launch) (hst : l.stackTraces = false) (G : kG) (B0 : Nat) (f : kH) (h dl sz : Nat) (vs vd vw vm vp vn : Value) (w g1 g2 g3 : Nat → Nat) (fo le wa : Nat → Nat → Int64) (a b : Int32) (hM : kCs f [(h, .inr (8, [vs, vd, .ref dl, vw, vm, vp, vn]))]) (hdl : kLs G f dl sz w (gkE g1 g2 g3)) (har : gkA G f sz g1 g2 g3 fo le wa) (hsz : sz ≤ 8) (hv : ¬ mIn a sz) : vx_Met l yX8_countAnew wsX8_countAnew (rmX8_countAnew_b1) (kP G B0 f [.ref h, .int a, .int b]) kNo (kXC G B0 "java/lang/IndexOutOfBoundsException" (fun f1 => f1 = f)) 1 6 (kAb B0) := by
  refine kMetX (cc := cX8_countAnew) (maxL := 3) (ret := (some .int)) (by decide) rfl (Nat.le_of_ble_eq_true rfl) ?_
  intro p e s m args below meth c H locs Q ls C hX hl hr hlocks hnm hQ hout
  have hl : lv_has ls 3 [(0, .ref h), (1, .int a), (2, .int b)] := hl
  refine lv_aload_n C.x C.b dX8_countAnew_0 rfl (lv_at hl 0 rfl) ?_
  refine lv_iload_n C.x C.b dX8_countAnew_1 rfl (lv_at hl 1 rfl) ?_
  refine lv_iload_n C.x C.b dX8_countAnew_2 rfl (lv_at hl 2 rfl) ?_
  exact k_outX (vx_runV (As := [.int a, .int b]) (rest := []) C.1 (kX8_boundedGasket_b1 l hst G B0 f h dl sz vs vd vw vm vp vn w g1 g2 g3 fo le wa a b hM hdl har hsz hv) (cwV 2 C.ts gX8_countAnew_X8_boundedGasket rfl rfl rfl ⟨rfl, hdX8_countAnew_X8_boundedGasket⟩ ⟨Nat.le_of_ble_eq_true rfl, Nat.le_of_ble_eq_true rfl⟩) (k_preV C hX (hM.at 0 rfl) rfl) rfl rfl hl.1 rfl (lv_room (Nat.le_of_ble_eq_true rfl)) dX8_countAnew_3 ⟨Nat.le_of_ble_eq_true rfl, Nat.le_of_ble_eq_true rfl⟩) hX hout hlocks hQ (fun f9 h9 => h9) (by omega) (by omega)

abbrev rmX8_countAnew_b2 : Room := { frames := 7, cells := 1, slots := 6, locals := 113 }
set_option maxHeartbeats 4000000 in
set_option maxRecDepth 100000 in
/-- X8_countAnew_b2 -/
theorem kX8_countAnew_b2 (l : Launch) (hst : l.stackTraces = false) (G : kG) (B0 : Nat) (f : kH) (h dl sz : Nat) (vs vd vw vm vp vn : Value) (w g1 g2 g3 : Nat → Nat) (fo le wa : Nat → Nat → Int64) (i : Nat) (b : Int32) (hM : kCs f [(h, .inr (8, [vs, vd, .ref dl, vw, vm, vp, vn]))]) (hdl : kLs G f dl sz w (gkE g1 g2 g3)) (har : gkA G f sz g1 g2 g3 fo le wa) (hsz : sz ≤ 8) (hi : i < sz) (hv : ¬ mRg b (1 : Nat) (1000 : Nat)) : vx_Met l yX8_countAnew wsX8_countAnew (rmX8_countAnew_b2) (kP G B0 f [.ref h, .int (nI i), .int b]) kNo (kXC G B0 "java/lang/IllegalArgumentException" (fun f1 => f1 = f)) 1 6 (kAb B0) := by
  refine kMetX (cc := cX8_countAnew) (maxL := 3) (ret := (some .int)) (by decide) rfl (Nat.le_of_ble_eq_true rfl) ?_
  intro p e s m args below meth c H locs Q ls C hX hl hr hlocks hnm hQ hout
  have hl : lv_has ls 3 [(0, .ref h), (1, .int (nI i)), (2, .int b)] := hl
  refine lv_aload_n C.x C.b dX8_countAnew_0 rfl (lv_at hl 0 rfl) ?_
  refine lv_iload_n C.x C.b dX8_countAnew_1 rfl (lv_at hl 1 rfl) ?_
  refine lv_iload_n C.x C.b dX8_countAnew_2 rfl (lv_at hl 2 rfl) ?_
  exact k_outX (vx_runV (As := [.int (nI i), .int b]) (rest := []) C.1 (kX8_boundedGasket_b2 l hst G B0 f h dl sz vs vd vw vm vp vn w g1 g2 g3 fo le wa i b hM hdl har hsz hi hv) (cwV 2 C.ts gX8_countAnew_X8_boundedGasket rfl rfl rfl ⟨rfl, hdX8_countAnew_X8_boundedGasket⟩ ⟨Nat.le_of_ble_eq_true rfl, Nat.le_of_ble_eq_true rfl⟩) (k_preV C hX (hM.at 0 rfl) rfl) rfl rfl hl.1 rfl (lv_room (Nat.le_of_ble_eq_true rfl)) dX8_countAnew_3 ⟨Nat.le_of_ble_eq_true rfl, Nat.le_of_ble_eq_true rfl⟩) hX hout hlocks hQ (fun f9 h9 => h9) (by omega) (by omega)

abbrev rmX8_countAnew_b3 : Room := { frames := 7, cells := 1, slots := 6, locals := 113 }
set_option maxHeartbeats 4000000 in
set_option maxRecDepth 100000 in
/-- X8_countAnew_b3 -/
theorem kX8_countAnew_b3 (l : Launch) (hst : l.stackTraces = false) (G : kG) (B0 : Nat) (f : kH) (h dl sz : Nat) (vs vd vw vm vp vn : Value) (w g1 g2 g3 : Nat → Nat) (fo le wa : Nat → Nat → Int64) (i b : Nat) (hM : kCs f [(h, .inr (8, [vs, vd, .ref dl, vw, vm, vp, vn]))]) (hdl : kLs G f dl sz w (gkE g1 g2 g3)) (har : gkA G f sz g1 g2 g3 fo le wa) (hsz : sz ≤ 8) (hi : i < sz) (hb1 : 1 ≤ b) (hb2 : b ≤ 1000) (hng : ¬ le i 0 < 0) : vx_Met l yX8_countAnew wsX8_countAnew (rmX8_countAnew_b3) (kP G B0 f [.ref h, .int (nI i), .int (nI b)]) kNo (kXC G B0 "java/lang/IllegalStateException" (fun f1 => f1 = f)) 1 6 (kAb B0) := by
  refine kMetX (cc := cX8_countAnew) (maxL := 3) (ret := (some .int)) (by decide) rfl (Nat.le_of_ble_eq_true rfl) ?_
  intro p e s m args below meth c H locs Q ls C hX hl hr hlocks hnm hQ hout
  have hl : lv_has ls 3 [(0, .ref h), (1, .int (nI i)), (2, .int (nI b))] := hl
  refine lv_aload_n C.x C.b dX8_countAnew_0 rfl (lv_at hl 0 rfl) ?_
  refine lv_iload_n C.x C.b dX8_countAnew_1 rfl (lv_at hl 1 rfl) ?_
  refine lv_iload_n C.x C.b dX8_countAnew_2 rfl (lv_at hl 2 rfl) ?_
  exact k_outX (vx_runV (As := [.int (nI i), .int (nI b)]) (rest := []) C.1 (kX8_boundedGasket_b3 l hst G B0 f h dl sz vs vd vw vm vp vn w g1 g2 g3 fo le wa i b hM hdl har hsz hi hb1 hb2 hng) (cwV 2 C.ts gX8_countAnew_X8_boundedGasket rfl rfl rfl ⟨rfl, hdX8_countAnew_X8_boundedGasket⟩ ⟨Nat.le_of_ble_eq_true rfl, Nat.le_of_ble_eq_true rfl⟩) (k_preV C hX (hM.at 0 rfl) rfl) rfl rfl hl.1 rfl (lv_room (Nat.le_of_ble_eq_true rfl)) dX8_countAnew_3 ⟨Nat.le_of_ble_eq_true rfl, Nat.le_of_ble_eq_true rfl⟩) hX hout hlocks hQ (fun f9 h9 => h9) (by omega) (by omega)

abbrev rmX8_remainders_b1 : Room := { frames := 7, cells := 1, slots := 6, locals := 111 }
set_option maxHeartbeats 4000000 in
set_option maxRecDepth 100000 in
/-- X8_remainders_b1 -/
theorem kX8_remainders_b1 (l : Launch) (hst : l.stackTraces = false) (G : kG) (B0 : Nat) (f : kH) (h dl sz : Nat) (vs vd vw vm vp vn : Value) (w g1 g2 g3 : Nat → Nat) (fo le wa : Nat → Nat → Int64) (a b : Int32) (hM : kCs f [(h, .inr (8, [vs, vd, .ref dl, vw, vm, vp, vn]))]) (hdl : kLs G f dl sz w (gkE g1 g2 g3)) (har : gkA G f sz g1 g2 g3 fo le wa) (hsz : sz ≤ 8) (hv : ¬ mIn a sz) : vx_Met l yX8_remainders wsX8_remainders (rmX8_remainders_b1) (kP G B0 f [.ref h, .int a, .int b]) kNo (kXC G B0 "java/lang/IndexOutOfBoundsException" (fun f1 => f1 = f)) 1 6 (kAb B0) := by
  refine kMetX (cc := cX8_remainders) (maxL := 4) (ret := (some .int)) (by decide) rfl (Nat.le_of_ble_eq_true rfl) ?_
  intro p e s m args below meth c H locs Q ls C hX hl hr hlocks hnm hQ hout
  have hl : lv_has ls 4 [(0, .ref h), (1, .int a), (2, .int b)] := hl
  refine lv_aload_n C.x C.b dX8_remainders_0 rfl (lv_at hl 0 rfl) ?_
  refine lv_iload_n C.x C.b dX8_remainders_1 rfl (lv_at hl 1 rfl) ?_
  exact k_outX (vx_runV (As := [.int a]) (rest := []) C.1 (kX8_gasketOf_b1 l hst G B0 f h dl sz vs vd vw vm vp vn w g1 g2 g3 fo le wa a hM hdl har hsz hv) (cwV 1 C.ts gX8_remainders_X8_gasketOf rfl rfl rfl ⟨rfl, hdX8_remainders_X8_gasketOf⟩ ⟨Nat.le_of_ble_eq_true rfl, Nat.le_of_ble_eq_true rfl⟩) (k_preV C hX (hM.at 0 rfl) rfl) rfl rfl hl.1 rfl (lv_room (Nat.le_of_ble_eq_true rfl)) dX8_remainders_2 ⟨Nat.le_of_ble_eq_true rfl, Nat.le_of_ble_eq_true rfl⟩) hX hout hlocks hQ (fun f9 h9 => h9) (by omega) (by omega)

theorem lk_X8_remainders_cl124 : Cond.classLink RX8 124 "java/lang/IllegalArgumentException" ∈ wsX8_remainders := by decide +kernel
theorem lk_X8_remainders_ini_IllegalArgumentException : Cond.initialized "java/lang/IllegalArgumentException" ∈ wsX8_remainders := by decide +kernel
theorem hat_X8_remainders_128_IllegalArgumentException : ∀ w ∈ (vx_atS RX8 128 "java/lang/IllegalArgumentException" kChain).filter goodWord, w ∈ wsX8_remainders := by
  intro w hw
  unfold wsX8_remainders
  simp only [List.mem_cons, List.mem_append, hw, or_true, true_or]
abbrev rmX8_remainders_b2 : Room := { frames := 6, cells := 1, slots := 6, locals := 90 }
set_option maxHeartbeats 4000000 in
set_option maxRecDepth 100000 in
/-- X8_remainders_b2 -/
theorem kX8_remainders_b2 (l : Launch) (hst : l.stackTraces = false) (G : kG) (B0 : Nat) (f : kH) (h dl sz : Nat) (vs vd vw vm vp vn : Value) (w g1 g2 g3 : Nat → Nat) (fo le wa : Nat → Nat → Int64) (i : Nat) (b : Int32) (hM : kCs f [(h, .inr (8, [vs, vd, .ref dl, vw, vm, vp, vn]))]) (hdl : kLs G f dl sz w (gkE g1 g2 g3)) (har : gkA G f sz g1 g2 g3 fo le wa) (hsz : sz ≤ 8) (hi : i < sz) (hv : ¬ mRg b (2 : Nat) (8 : Nat)) : vx_Met l yX8_remainders wsX8_remainders (rmX8_remainders_b2) (kP G B0 f [.ref h, .int (nI i), .int b]) kNo (kXC G B0 "java/lang/IllegalArgumentException" (fun f1 => f1 = f)) 1 6 (kAb B0) := by
  refine kMetX (cc := cX8_remainders) (maxL := 4) (ret := (some .int)) (by decide) rfl (Nat.le_of_ble_eq_true rfl) ?_
  intro p e s m args below meth c H locs Q ls C hX hl hr hlocks hnm hQ hout
  have hl : lv_has ls 4 [(0, .ref h), (1, .int (nI i)), (2, .int b)] := hl
  refine lv_aload_n C.x C.b dX8_remainders_0 rfl (lv_at hl 0 rfl) ?_
  refine lv_iload_n C.x C.b dX8_remainders_1 rfl (lv_at hl 1 rfl) ?_
  refine k_callq (va_runV (As := [.int (nI i)]) (rest := []) C.1 (kX8_gasketOf l G B0 f h dl sz vs vd vw vm vp vn w g1 g2 g3 fo le wa i hM hdl har hsz hi) (cwV 1 C.ts gX8_remainders_X8_gasketOf rfl rfl rfl ⟨rfl, hdX8_remainders_X8_gasketOf⟩ ⟨Nat.le_of_ble_eq_true rfl, Nat.le_of_ble_eq_true rfl⟩) (k_preV C hX (hM.at 0 rfl) rfl) rfl rfl hl.1 rfl (lv_room (Nat.le_of_ble_eq_true rfl)) dX8_remainders_2 ⟨Nat.le_of_ble_eq_true rfl, Nat.le_of_ble_eq_true rfl⟩) hX (fun r2 f2 H locs hp2 hX => ?_)
  obtain ⟨hr2, hf2⟩ := hp2
  rw [hf2] at hX
  refine k_topq (v := w i) hr2 ?_
  refine lv_astore_n (lv' := [(3, .ref (w i)), (0, .ref h), (1, .int (nI i)), (2, .int b)]) C.x C.b dX8_remainders_5 rfl hl (by decide) rfl (fun ls hl => ?_)
  refine lv_iload_n C.x C.b dX8_remainders_6 rfl (lv_at hl 3 rfl) ?_
  refine lv_iconst (v := nI 2) C.x C.b dX8_remainders_7 (by decide) ?_
  refine lv_icmp_lt (tgt := 17) C.x C.b dX8_remainders_8 (by decide) (fun c_8 => ?_) (fun c_8 => ?_)
  · skip
    exact k_thS (cls := "java/lang/IllegalArgumentException") (text := "by is out of range") C hst hX hl.1 hout lk_X8_remainders_cl124 lk_X8_remainders_ini_IllegalArgumentException (by decide +kernel) (by decide) hat_X8_remainders_128_IllegalArgumentException hng_RX8_124_128_IllegalArgumentException dX8_remainders_17 dX8_remainders_20 dX8_remainders_21 dX8_remainders_23 dX8_remainders_26 (Nat.le_of_ble_eq_true rfl) (Nat.le_of_ble_eq_true rfl) (Nat.le_of_ble_eq_true rfl) (Nat.le_of_ble_eq_true rfl) hlocks hQ (rfl) (Nat.le_of_ble_eq_true rfl) (Nat.le_of_ble_eq_true rfl)
  · skip
    refine lv_iload_n C.x C.b dX8_remainders_11 rfl (lv_at hl 3 rfl) ?_
    refine lv_bipush (v := nI 8) C.x C.b dX8_remainders_12 (by decide) ?_
    refine lv_icmp_le (tgt := 27) C.x C.b dX8_remainders_14 (by decide) (fun c_14 => ?_) (fun c_14 => ?_)
    · skip
      exact absurd (mRg_of2 (j := 2) (k := 8) (by decide) (by decide) c_8 c_14) hv
    · skip
      exact k_thS (cls := "java/lang/IllegalArgumentException") (text := "by is out of range") C hst hX hl.1 hout lk_X8_remainders_cl124 lk_X8_remainders_ini_IllegalArgumentException (by decide +kernel) (by decide) hat_X8_remainders_128_IllegalArgumentException hng_RX8_124_128_IllegalArgumentException dX8_remainders_17 dX8_remainders_20 dX8_remainders_21 dX8_remainders_23 dX8_remainders_26 (Nat.le_of_ble_eq_true rfl) (Nat.le_of_ble_eq_true rfl) (Nat.le_of_ble_eq_true rfl) (Nat.le_of_ble_eq_true rfl) hlocks hQ (rfl) (Nat.le_of_ble_eq_true rfl) (Nat.le_of_ble_eq_true rfl)

theorem lk_X8_refuseNoFraction_cl124 : Cond.classLink RX8 124 "java/lang/IllegalArgumentException" ∈ wsX8_refuseNoFraction := by decide +kernel
theorem lk_X8_refuseNoFraction_ini_IllegalArgumentException : Cond.initialized "java/lang/IllegalArgumentException" ∈ wsX8_refuseNoFraction := by decide +kernel
theorem hat_X8_refuseNoFraction_128_IllegalArgumentException : ∀ w ∈ (vx_atS RX8 128 "java/lang/IllegalArgumentException" kChain).filter goodWord, w ∈ wsX8_refuseNoFraction := by
  intro w hw
  unfold wsX8_refuseNoFraction
  simp only [List.mem_cons, List.mem_append, hw, or_true, true_or]
abbrev rmX8_refuseNoFraction_b1 : Room := { frames := 6, cells := 1, slots := 6, locals := 90 }
set_option maxHeartbeats 4000000 in
set_option maxRecDepth 100000 in
/-- X8_refuseNoFraction_b1 -/
theorem kX8_refuseNoFraction_b1 (l : Launch) (hst : l.stackTraces = false) (G : kG) (B0 : Nat) (f : kH) (x1 x2 : Int32) (hv : ¬ cFra x1 x2) : vx_Met l yX8_refuseNoFraction wsX8_refuseNoFraction (rmX8_refuseNoFraction_b1) (kP G B0 f [.int x1, .int x2]) kNo (kXC G B0 "java/lang/IllegalArgumentException" (fun f1 => f1 = f)) 1 6 (kAb B0) := by
  refine kMetX (cc := cX8_refuseNoFraction) (maxL := 2) (ret := none) (by decide) rfl (Nat.le_of_ble_eq_true rfl) ?_
  intro p e s m args below meth c H locs Q ls C hX hl hr hlocks hnm hQ hout
  have hl : lv_has ls 2 [(0, .int x1), (1, .int x2)] := hl
  refine lv_iload_n C.x C.b dX8_refuseNoFraction_0 rfl (lv_at hl 0 rfl) ?_
  refine lv_i2l (v := x1.toInt64) C.x C.b dX8_refuseNoFraction_1 rfl ?_
  refine lv_ldc2 (v := 1000000000) C.x C.b C.ow (C.ts _ lk_X8_refuseNoFraction_c170) dX8_refuseNoFraction_2 ?_
  refine k_calli (va_runS (As := [.long x1.toInt64, .long 1000000000]) (rest := []) C.1 (kX8_isWithin l G B0 f x1.toInt64 1000000000) (va_cwS 2 C.ts gX8_refuseNoFraction_X8_isWithin rfl rfl rfl (hdX8_refuseNoFraction_X8_isWithin) ⟨Nat.le_of_ble_eq_true rfl, Nat.le_of_ble_eq_true rfl⟩) (k_preS C hX) rfl rfl hl.1 rfl (lv_room (Nat.le_of_ble_eq_true rfl)) dX8_refuseNoFraction_5 ⟨Nat.le_of_ble_eq_true rfl, Nat.le_of_ble_eq_true rfl⟩) hX (fun r5 f5 H locs hp5 hX => ?_)
  obtain ⟨hr5, hf5⟩ := hp5
  rw [hf5] at hX
  refine k_topi (y := (kbI (cIn x1.toInt64 1000000000))) hr5 ?_
  refine lv_if_eq (tgt := 22) C.x C.b dX8_refuseNoFraction_8 (by decide) (fun c_8 => ?_) (fun c_8 => ?_)
  · skip
    have c_8 := kbI_0 c_8
    exact k_thS (cls := "java/lang/IllegalArgumentException") (text := "an argument is out of range") C hst hX hl.1 hout lk_X8_refuseNoFraction_cl124 lk_X8_refuseNoFraction_ini_IllegalArgumentException (by decide +kernel) (by decide) hat_X8_refuseNoFraction_128_IllegalArgumentException hng_RX8_124_128_IllegalArgumentException dX8_refuseNoFraction_22 dX8_refuseNoFraction_25 dX8_refuseNoFraction_26 dX8_refuseNoFraction_28 dX8_refuseNoFraction_31 (Nat.le_of_ble_eq_true rfl) (Nat.le_of_ble_eq_true rfl) (Nat.le_of_ble_eq_true rfl) (Nat.le_of_ble_eq_true rfl) hlocks hQ (rfl) (Nat.le_of_ble_eq_true rfl) (Nat.le_of_ble_eq_true rfl)
  · skip
    have c_8 := kbI_1 c_8
    refine lv_iload_n C.x C.b dX8_refuseNoFraction_11 rfl (lv_at hl 1 rfl) ?_
    refine lv_iconst (v := nI 1) C.x C.b dX8_refuseNoFraction_12 (by decide) ?_
    refine lv_icmp_lt (tgt := 22) C.x C.b dX8_refuseNoFraction_13 (by decide) (fun c_13 => ?_) (fun c_13 => ?_)
    · skip
      exact k_thS (cls := "java/lang/IllegalArgumentException") (text := "an argument is out of range") C hst hX hl.1 hout lk_X8_refuseNoFraction_cl124 lk_X8_refuseNoFraction_ini_IllegalArgumentException (by decide +kernel) (by decide) hat_X8_refuseNoFraction_128_IllegalArgumentException hng_RX8_124_128_IllegalArgumentException dX8_refuseNoFraction_22 dX8_refuseNoFraction_25 dX8_refuseNoFraction_26 dX8_refuseNoFraction_28 dX8_refuseNoFraction_31 (Nat.le_of_ble_eq_true rfl) (Nat.le_of_ble_eq_true rfl) (Nat.le_of_ble_eq_true rfl) (Nat.le_of_ble_eq_true rfl) hlocks hQ (rfl) (Nat.le_of_ble_eq_true rfl) (Nat.le_of_ble_eq_true rfl)
    · skip
      refine lv_iload_n C.x C.b dX8_refuseNoFraction_16 rfl (lv_at hl 1 rfl) ?_
      refine lv_ldc (v := nI 1000000000) C.x C.b C.ow (C.ts _ lk_X8_refuseNoFraction_c176) dX8_refuseNoFraction_17 ?_
      refine lv_icmp_le (tgt := 32) C.x C.b dX8_refuseNoFraction_19 (by decide) (fun c_19 => ?_) (fun c_19 => ?_)
      · skip
        refine lv_iload_n C.x C.b dX8_refuseNoFraction_32 rfl (lv_at hl 0 rfl) ?_
        refine lv_i2l (v := x1.toInt64) C.x C.b dX8_refuseNoFraction_33 rfl ?_
        refine lv_iload_n C.x C.b dX8_refuseNoFraction_34 rfl (lv_at hl 1 rfl) ?_
        refine lv_i2l (v := x2.toInt64) C.x C.b dX8_refuseNoFraction_35 rfl ?_
        refine k_calli (va_runSN (As := [.long x1.toInt64, .long x2.toInt64]) (rest := []) C.1 (kX1_isLowest l G B0 f x1.toInt64 x2.toInt64) ⟨va_cnB 2 C.ts gX8_refuseNoFraction_X1_isLowest_n262 rfl rfl rfl (C.2.1.2.2.1 _ (show ((RX8, 262, yX1_isLowest, "Koebehall") : String × Nat × MethodName × String) ∈ kNestM by decide +kernel)) (C.ts _ lk_X8_refuseNoFraction_in_RX1) hdX8_refuseNoFraction_X1_isLowest ⟨Nat.le_of_ble_eq_true rfl, Nat.le_of_ble_eq_true rfl⟩, C.ts _ lk_X8_refuseNoFraction_st_X1_isLowest, trivial⟩ (k_preS C hX) rfl rfl hl.1 rfl (lv_room (Nat.le_of_ble_eq_true rfl)) dX8_refuseNoFraction_36 ⟨Nat.le_of_ble_eq_true rfl, Nat.le_of_ble_eq_true rfl⟩) hX (fun r36 f36 H locs hp36 hX => ?_)
        obtain ⟨hr36, hf36⟩ := hp36
        rw [hf36] at hX
        refine k_topi (y := (kbI (cEu 1000 (jAbs x1.toInt64) x2.toInt64 = 1))) hr36 ?_
        refine lv_if_ne (tgt := 53) C.x C.b dX8_refuseNoFraction_39 (by decide) (fun c_39 => ?_) (fun c_39 => ?_)
        · skip
          have c_39 := kbI_1 c_39
          exact absurd ⟨c_8, c_13, c_19, c_39⟩ hv
        · skip
          have c_39 := kbI_0 c_39
          exact k_thSW (cls := "java/lang/IllegalArgumentException") (text := "a fraction is not in lowest terms") C hst hX hl.1 hout lk_X8_refuseNoFraction_cl124 lk_X8_refuseNoFraction_ini_IllegalArgumentException (by decide +kernel) (by decide) hat_X8_refuseNoFraction_128_IllegalArgumentException hng_RX8_124_128_IllegalArgumentException dX8_refuseNoFraction_42 dX8_refuseNoFraction_45 dX8_refuseNoFraction_46 dX8_refuseNoFraction_49 dX8_refuseNoFraction_52 (Nat.le_of_ble_eq_true rfl) (Nat.le_of_ble_eq_true rfl) (Nat.le_of_ble_eq_true rfl) (Nat.le_of_ble_eq_true rfl) hlocks hQ (rfl) (Nat.le_of_ble_eq_true rfl) (Nat.le_of_ble_eq_true rfl)
      · skip
        exact k_thS (cls := "java/lang/IllegalArgumentException") (text := "an argument is out of range") C hst hX hl.1 hout lk_X8_refuseNoFraction_cl124 lk_X8_refuseNoFraction_ini_IllegalArgumentException (by decide +kernel) (by decide) hat_X8_refuseNoFraction_128_IllegalArgumentException hng_RX8_124_128_IllegalArgumentException dX8_refuseNoFraction_22 dX8_refuseNoFraction_25 dX8_refuseNoFraction_26 dX8_refuseNoFraction_28 dX8_refuseNoFraction_31 (Nat.le_of_ble_eq_true rfl) (Nat.le_of_ble_eq_true rfl) (Nat.le_of_ble_eq_true rfl) (Nat.le_of_ble_eq_true rfl) hlocks hQ (rfl) (Nat.le_of_ble_eq_true rfl) (Nat.le_of_ble_eq_true rfl)

abbrev rmX8_ford_b1 : Room := { frames := 7, cells := 1, slots := 6, locals := 111 }
set_option maxHeartbeats 4000000 in
set_option maxRecDepth 100000 in
/-- X8_ford_b1 -/
theorem kX8_ford_b1 (l : Launch) (hst : l.stackTraces = false) (G : kG) (B0 : Nat) (f : kH) (h : Nat) (x1 x2 x3 x4 : Int32) (hv : ¬ cFra x1 x2) : vx_Met l yX8_ford wsX8_ford (rmX8_ford_b1) (kP G B0 f [.ref h, .int x1, .int x2, .int x3, .int x4]) kNo (kXC G B0 "java/lang/IllegalArgumentException" (fun f1 => f1 = f)) 1 6 (kAb B0) := by
  refine kMetX (cc := cX8_ford) (maxL := 7) (ret := (some .int)) (by decide) rfl (Nat.le_of_ble_eq_true rfl) ?_
  intro p e s m args below meth c H locs Q ls C hX hl hr hlocks hnm hQ hout
  have hl : lv_has ls 7 [(0, .ref h), (1, .int x1), (2, .int x2), (3, .int x3), (4, .int x4)] := hl
  refine lv_iload_n C.x C.b dX8_ford_0 rfl (lv_at hl 1 rfl) ?_
  refine lv_iload_n C.x C.b dX8_ford_1 rfl (lv_at hl 2 rfl) ?_
  exact k_outX (vx_runS (As := [.int x1, .int x2]) (rest := []) C.1 (kX8_refuseNoFraction_b1 l hst G B0 f x1 x2 hv) (va_cwS 2 C.ts gX8_ford_X8_refuseNoFraction rfl rfl rfl (hdX8_ford_X8_refuseNoFraction) ⟨Nat.le_of_ble_eq_true rfl, Nat.le_of_ble_eq_true rfl⟩) (k_preS C hX) rfl rfl hl.1 rfl (lv_room (Nat.le_of_ble_eq_true rfl)) dX8_ford_2 ⟨Nat.le_of_ble_eq_true rfl, Nat.le_of_ble_eq_true rfl⟩) hX hout hlocks hQ (fun f9 h9 => h9) (by omega) (by omega)

abbrev rmX8_ford_b2 : Room := { frames := 7, cells := 1, slots := 6, locals := 111 }
set_option maxHeartbeats 4000000 in
set_option maxRecDepth 100000 in
/-- X8_ford_b2 -/
theorem kX8_ford_b2 (l : Launch) (hst : l.stackTraces = false) (G : kG) (B0 : Nat) (f : kH) (h : Nat) (x1 x2 x3 x4 : Int32) (ha : cFra x1 x2) (hv : ¬ cFra x3 x4) : vx_Met l yX8_ford wsX8_ford (rmX8_ford_b2) (kP G B0 f [.ref h, .int x1, .int x2, .int x3, .int x4]) kNo (kXC G B0 "java/lang/IllegalArgumentException" (fun f1 => f1 = f)) 1 6 (kAb B0) := by
  refine kMetX (cc := cX8_ford) (maxL := 7) (ret := (some .int)) (by decide) rfl (Nat.le_of_ble_eq_true rfl) ?_
  intro p e s m args below meth c H locs Q ls C hX hl hr hlocks hnm hQ hout
  have hl : lv_has ls 7 [(0, .ref h), (1, .int x1), (2, .int x2), (3, .int x3), (4, .int x4)] := hl
  refine lv_iload_n C.x C.b dX8_ford_0 rfl (lv_at hl 1 rfl) ?_
  refine lv_iload_n C.x C.b dX8_ford_1 rfl (lv_at hl 2 rfl) ?_
  refine k_callv (va_runS (As := [.int x1, .int x2]) (rest := []) C.1 (kX8_refuseNoFraction l G B0 f x1 x2 ha) (va_cwS 2 C.ts gX8_ford_X8_refuseNoFraction rfl rfl rfl (hdX8_ford_X8_refuseNoFraction) ⟨Nat.le_of_ble_eq_true rfl, Nat.le_of_ble_eq_true rfl⟩) (k_preS C hX) rfl rfl hl.1 rfl (lv_room (Nat.le_of_ble_eq_true rfl)) dX8_ford_2 ⟨Nat.le_of_ble_eq_true rfl, Nat.le_of_ble_eq_true rfl⟩) hX (fun f2 H locs hp2 hX => ?_)
  rw [hp2] at hX
  refine lv_iload_n C.x C.b dX8_ford_5 rfl (lv_at hl 3 rfl) ?_
  refine lv_iload C.x C.b dX8_ford_6 (lv_at hl 4 rfl) ?_
  exact k_outX (vx_runS (As := [.int x3, .int x4]) (rest := []) C.1 (kX8_refuseNoFraction_b1 l hst G B0 f x3 x4 hv) (va_cwS 2 C.ts gX8_ford_X8_refuseNoFraction rfl rfl rfl (hdX8_ford_X8_refuseNoFraction) ⟨Nat.le_of_ble_eq_true rfl, Nat.le_of_ble_eq_true rfl⟩) (k_preS C hX) rfl rfl hl.1 rfl (lv_room (Nat.le_of_ble_eq_true rfl)) dX8_ford_8 ⟨Nat.le_of_ble_eq_true rfl, Nat.le_of_ble_eq_true rfl⟩) hX hout hlocks hQ (fun f9 h9 => h9) (by omega) (by omega)

abbrev rmX8_between_b1 : Room := { frames := 7, cells := 1, slots := 6, locals := 111 }
set_option maxHeartbeats 4000000 in
set_option maxRecDepth 100000 in
/-- X8_between_b1 -/
theorem kX8_between_b1 (l : Launch) (hst : l.stackTraces = false) (G : kG) (B0 : Nat) (f : kH) (h : Nat) (x1 x2 x3 x4 : Int32) (z9 : Int32) (hv : ¬ cFra x1 x2) : vx_Met l yX8_between wsX8_between (rmX8_between_b1) (kP G B0 f [.ref h, .int x1, .int x2, .int x3, .int x4, .int z9]) kNo (kXC G B0 "java/lang/IllegalArgumentException" (fun f1 => f1 = f)) 1 6 (kAb B0) := by
  refine kMetX (cc := cX8_between) (maxL := 8) (ret := (some .long)) (by decide) rfl (Nat.le_of_ble_eq_true rfl) ?_
  intro p e s m args below meth c H locs Q ls C hX hl hr hlocks hnm hQ hout
  have hl : lv_has ls 8 [(0, .ref h), (1, .int x1), (2, .int x2), (3, .int x3), (4, .int x4), (5, .int z9)] := hl
  refine lv_iload_n C.x C.b dX8_between_0 rfl (lv_at hl 1 rfl) ?_
  refine lv_iload_n C.x C.b dX8_between_1 rfl (lv_at hl 2 rfl) ?_
  exact k_outX (vx_runS (As := [.int x1, .int x2]) (rest := []) C.1 (kX8_refuseNoFraction_b1 l hst G B0 f x1 x2 hv) (va_cwS 2 C.ts gX8_between_X8_refuseNoFraction rfl rfl rfl (hdX8_between_X8_refuseNoFraction) ⟨Nat.le_of_ble_eq_true rfl, Nat.le_of_ble_eq_true rfl⟩) (k_preS C hX) rfl rfl hl.1 rfl (lv_room (Nat.le_of_ble_eq_true rfl)) dX8_between_2 ⟨Nat.le_of_ble_eq_true rfl, Nat.le_of_ble_eq_true rfl⟩) hX hout hlocks hQ (fun f9 h9 => h9) (by omega) (by omega)

abbrev rmX8_between_b2 : Room := { frames := 7, cells := 1, slots := 6, locals := 111 }
set_option maxHeartbeats 4000000 in
set_option maxRecDepth 100000 in
/-- X8_between_b2 -/
theorem kX8_between_b2 (l : Launch) (hst : l.stackTraces = false) (G : kG) (B0 : Nat) (f : kH) (h : Nat) (x1 x2 x3 x4 : Int32) (z9 : Int32) (ha : cFra x1 x2) (hv : ¬ cFra x3 x4) : vx_Met l yX8_between wsX8_between (rmX8_between_b2) (kP G B0 f [.ref h, .int x1, .int x2, .int x3, .int x4, .int z9]) kNo (kXC G B0 "java/lang/IllegalArgumentException" (fun f1 => f1 = f)) 1 6 (kAb B0) := by
  refine kMetX (cc := cX8_between) (maxL := 8) (ret := (some .long)) (by decide) rfl (Nat.le_of_ble_eq_true rfl) ?_
  intro p e s m args below meth c H locs Q ls C hX hl hr hlocks hnm hQ hout
  have hl : lv_has ls 8 [(0, .ref h), (1, .int x1), (2, .int x2), (3, .int x3), (4, .int x4), (5, .int z9)] := hl
  refine lv_iload_n C.x C.b dX8_between_0 rfl (lv_at hl 1 rfl) ?_
  refine lv_iload_n C.x C.b dX8_between_1 rfl (lv_at hl 2 rfl) ?_
  refine k_callv (va_runS (As := [.int x1, .int x2]) (rest := []) C.1 (kX8_refuseNoFraction l G B0 f x1 x2 ha) (va_cwS 2 C.ts gX8_between_X8_refuseNoFraction rfl rfl rfl (hdX8_between_X8_refuseNoFraction) ⟨Nat.le_of_ble_eq_true rfl, Nat.le_of_ble_eq_true rfl⟩) (k_preS C hX) rfl rfl hl.1 rfl (lv_room (Nat.le_of_ble_eq_true rfl)) dX8_between_2 ⟨Nat.le_of_ble_eq_true rfl, Nat.le_of_ble_eq_true rfl⟩) hX (fun f2 H locs hp2 hX => ?_)
  rw [hp2] at hX
  refine lv_iload_n C.x C.b dX8_between_5 rfl (lv_at hl 3 rfl) ?_
  refine lv_iload C.x C.b dX8_between_6 (lv_at hl 4 rfl) ?_
  exact k_outX (vx_runS (As := [.int x3, .int x4]) (rest := []) C.1 (kX8_refuseNoFraction_b1 l hst G B0 f x3 x4 hv) (va_cwS 2 C.ts gX8_between_X8_refuseNoFraction rfl rfl rfl (hdX8_between_X8_refuseNoFraction) ⟨Nat.le_of_ble_eq_true rfl, Nat.le_of_ble_eq_true rfl⟩) (k_preS C hX) rfl rfl hl.1 rfl (lv_room (Nat.le_of_ble_eq_true rfl)) dX8_between_8 ⟨Nat.le_of_ble_eq_true rfl, Nat.le_of_ble_eq_true rfl⟩) hX hout hlocks hQ (fun f9 h9 => h9) (by omega) (by omega)

theorem lk_X8_between_cl124 : Cond.classLink RX8 124 "java/lang/IllegalArgumentException" ∈ wsX8_between := by decide +kernel
theorem lk_X8_between_ini_IllegalArgumentException : Cond.initialized "java/lang/IllegalArgumentException" ∈ wsX8_between := by decide +kernel
theorem hat_X8_between_128_IllegalArgumentException : ∀ w ∈ (vx_atS RX8 128 "java/lang/IllegalArgumentException" kChain).filter goodWord, w ∈ wsX8_between := by
  intro w hw
  unfold wsX8_between
  simp only [List.mem_cons, List.mem_append, hw, or_true, true_or]
abbrev rmX8_between_b3 : Room := { frames := 6, cells := 1, slots := 6, locals := 90 }
set_option maxHeartbeats 4000000 in
set_option maxRecDepth 100000 in
/-- X8_between_b3 -/
theorem kX8_between_b3 (l : Launch) (hst : l.stackTraces = false) (G : kG) (B0 : Nat) (f : kH) (h : Nat) (x1 x2 x3 x4 : Int32) (z9 : Int32) (ha : cFra x1 x2) (hb : cFra x3 x4) (hz : x1.toInt64 * x4.toInt64 - x3.toInt64 * x2.toInt64 = 0) : vx_Met l yX8_between wsX8_between (rmX8_between_b3) (kP G B0 f [.ref h, .int x1, .int x2, .int x3, .int x4, .int z9]) kNo (kXC G B0 "java/lang/IllegalArgumentException" (fun f1 => f1 = f)) 1 6 (kAb B0) := by
  refine kMetX (cc := cX8_between) (maxL := 8) (ret := (some .long)) (by decide) rfl (Nat.le_of_ble_eq_true rfl) ?_
  intro p e s m args below meth c H locs Q ls C hX hl hr hlocks hnm hQ hout
  have hl : lv_has ls 8 [(0, .ref h), (1, .int x1), (2, .int x2), (3, .int x3), (4, .int x4), (5, .int z9)] := hl
  refine lv_iload_n C.x C.b dX8_between_0 rfl (lv_at hl 1 rfl) ?_
  refine lv_iload_n C.x C.b dX8_between_1 rfl (lv_at hl 2 rfl) ?_
  refine k_callv (va_runS (As := [.int x1, .int x2]) (rest := []) C.1 (kX8_refuseNoFraction l G B0 f x1 x2 ha) (va_cwS 2 C.ts gX8_between_X8_refuseNoFraction rfl rfl rfl (hdX8_between_X8_refuseNoFraction) ⟨Nat.le_of_ble_eq_true rfl, Nat.le_of_ble_eq_true rfl⟩) (k_preS C hX) rfl rfl hl.1 rfl (lv_room (Nat.le_of_ble_eq_true rfl)) dX8_between_2 ⟨Nat.le_of_ble_eq_true rfl, Nat.le_of_ble_eq_true rfl⟩) hX (fun f2 H locs hp2 hX => ?_)
  rw [hp2] at hX
  refine lv_iload_n C.x C.b dX8_between_5 rfl (lv_at hl 3 rfl) ?_
  refine lv_iload C.x C.b dX8_between_6 (lv_at hl 4 rfl) ?_
  refine k_callv (va_runS (As := [.int x3, .int x4]) (rest := []) C.1 (kX8_refuseNoFraction l G B0 f x3 x4 hb) (va_cwS 2 C.ts gX8_between_X8_refuseNoFraction rfl rfl rfl (hdX8_between_X8_refuseNoFraction) ⟨Nat.le_of_ble_eq_true rfl, Nat.le_of_ble_eq_true rfl⟩) (k_preS C hX) rfl rfl hl.1 rfl (lv_room (Nat.le_of_ble_eq_true rfl)) dX8_between_8 ⟨Nat.le_of_ble_eq_true rfl, Nat.le_of_ble_eq_true rfl⟩) hX (fun f8 H locs hp8 hX => ?_)
  rw [hp8] at hX
  refine lv_iload_n C.x C.b dX8_between_11 rfl (lv_at hl 1 rfl) ?_
  refine lv_i2l (v := x1.toInt64) C.x C.b dX8_between_12 rfl ?_
  refine lv_iload_n C.x C.b dX8_between_13 rfl (lv_at hl 2 rfl) ?_
  refine lv_i2l (v := x2.toInt64) C.x C.b dX8_between_14 rfl ?_
  refine lv_iload_n C.x C.b dX8_between_15 rfl (lv_at hl 3 rfl) ?_
  refine lv_i2l (v := x3.toInt64) C.x C.b dX8_between_16 rfl ?_
  refine lv_iload C.x C.b dX8_between_17 (lv_at hl 4 rfl) ?_
  refine lv_i2l (v := x4.toInt64) C.x C.b dX8_between_19 rfl ?_
  refine k_calll (va_runSN (As := [.long x1.toInt64, .long x2.toInt64, .long x3.toInt64, .long x4.toInt64]) (rest := []) C.1 (kX1_crossed l G B0 f x1.toInt64 x2.toInt64 x3.toInt64 x4.toInt64) ⟨va_cnB 4 C.ts gX8_between_X1_crossed_n250 rfl rfl rfl (C.2.1.2.2.1 _ (show ((RX8, 250, yX1_crossed, "Koebehall") : String × Nat × MethodName × String) ∈ kNestM by decide +kernel)) (C.ts _ lk_X8_between_in_RX1) hdX8_between_X1_crossed ⟨Nat.le_of_ble_eq_true rfl, Nat.le_of_ble_eq_true rfl⟩, C.ts _ lk_X8_between_st_X1_crossed, trivial⟩ (k_preS C hX) rfl rfl hl.1 rfl (lv_room (Nat.le_of_ble_eq_true rfl)) dX8_between_20 ⟨Nat.le_of_ble_eq_true rfl, Nat.le_of_ble_eq_true rfl⟩) hX (fun r20 f20 H locs hp20 hX => ?_)
  obtain ⟨hr20, hf20⟩ := hp20
  rw [hf20] at hX
  refine k_topl (y := (x1.toInt64 * x4.toInt64 - x3.toInt64 * x2.toInt64)) hr20 ?_
  refine lv_lstore (lv' := [(6, .long (x1.toInt64 * x4.toInt64 - x3.toInt64 * x2.toInt64)), (0, .ref h), (1, .int x1), (2, .int x2), (3, .int x3), (4, .int x4), (5, .int z9)]) C.x C.b dX8_between_23 hl (by decide) rfl (fun ls hl => ?_)
  refine lv_lload C.x C.b dX8_between_25 (lv_at hl 0 rfl) ?_
  refine lv_lconst (v := 0) C.x C.b dX8_between_27 (by decide) ?_
  refine k_lcmp_ne (tgt := 42) C.x C.b dX8_between_28 dX8_between_29 (by decide) (fun c_29 => ?_) (fun c_29 => ?_)
  · skip
    exact absurd hz c_29
  · skip
    exact k_thS (cls := "java/lang/IllegalArgumentException") (text := "both are the same") C hst hX hl.1 hout lk_X8_between_cl124 lk_X8_between_ini_IllegalArgumentException (by decide +kernel) (by decide) hat_X8_between_128_IllegalArgumentException hng_RX8_124_128_IllegalArgumentException dX8_between_32 dX8_between_35 dX8_between_36 dX8_between_38 dX8_between_41 (Nat.le_of_ble_eq_true rfl) (Nat.le_of_ble_eq_true rfl) (Nat.le_of_ble_eq_true rfl) (Nat.le_of_ble_eq_true rfl) hlocks hQ (rfl) (Nat.le_of_ble_eq_true rfl) (Nat.le_of_ble_eq_true rfl)

theorem lk_X8_tell_cl124 : Cond.classLink RX8 124 "java/lang/IllegalArgumentException" ∈ wsX8_tell := by decide +kernel
theorem lk_X8_tell_ini_IllegalArgumentException : Cond.initialized "java/lang/IllegalArgumentException" ∈ wsX8_tell := by decide +kernel
theorem hat_X8_tell_128_IllegalArgumentException : ∀ w ∈ (vx_atS RX8 128 "java/lang/IllegalArgumentException" kChain).filter goodWord, w ∈ wsX8_tell := by
  intro w hw
  unfold wsX8_tell
  simp only [List.mem_cons, List.mem_append, hw, or_true, true_or]
abbrev rmX8_tell_b1 : Room := { frames := 6, cells := 1, slots := 6, locals := 90 }
set_option maxHeartbeats 4000000 in
set_option maxRecDepth 100000 in
/-- X8_tell_b1 -/
theorem kX8_tell_b1 (l : Launch) (hst : l.stackTraces = false) (G : kG) (B0 : Nat) (f : kH) (h pp dl sz : Nat) (vs vd vg vw vn : Value) (w : Nat → Nat) (t1 t2 t3 t4 : Nat → Int64) (x1 x2 x3 x4 : Int32) (hM : kCs f [(h, .inr (8, [vs, vd, vg, vw, .ref dl, .ref pp, vn]))]) (hdl : kLs G f dl sz w (tbE t1 t2 t3 t4)) (hsz : sz ≤ 4) (hw : ¬ ((cIn x1.toInt64 (nI 1000).toInt64 ∧ cIn x2.toInt64 (nI 1000).toInt64 ∧ cIn x3.toInt64 (nI 1000).toInt64 ∧ cIn x4.toInt64 (nI 1000).toInt64) ∧ x1 * x4 - x2 * x3 = nI 1)) : vx_Met l yX8_tell wsX8_tell (rmX8_tell_b1) (kP G B0 f [.ref h, .int x1, .int x2, .int x3, .int x4]) kNo (kXC G B0 "java/lang/IllegalArgumentException" (fun f1 => f1 = f)) 1 6 (kAb B0) := by
  refine kMetX (cc := cX8_tell) (maxL := 5) (ret := (some .int)) (by decide) rfl (Nat.le_of_ble_eq_true rfl) ?_
  intro p e s m args below meth c H locs Q ls C hX hl hr hlocks hnm hQ hout
  have hl : lv_has ls 5 [(0, .ref h), (1, .int x1), (2, .int x2), (3, .int x3), (4, .int x4)] := hl
  refine lv_iload_n C.x C.b dX8_tell_0 rfl (lv_at hl 1 rfl) ?_
  refine lv_iload_n C.x C.b dX8_tell_1 rfl (lv_at hl 2 rfl) ?_
  refine lv_iload_n C.x C.b dX8_tell_2 rfl (lv_at hl 3 rfl) ?_
  refine lv_iload C.x C.b dX8_tell_3 (lv_at hl 4 rfl) ?_
  refine lv_sipush (v := nI 1000) C.x C.b dX8_tell_5 (by decide) ?_
  refine k_calli (va_runS (As := [.int x1, .int x2, .int x3, .int x4, .int (nI 1000)]) (rest := []) C.1 (kX8_areFourWithin l G B0 f x1 x2 x3 x4 (nI 1000)) (va_cwS 5 C.ts gX8_tell_X8_areFourWithin rfl rfl rfl (hdX8_tell_X8_areFourWithin) ⟨Nat.le_of_ble_eq_true rfl, Nat.le_of_ble_eq_true rfl⟩) (k_preS C hX) rfl rfl hl.1 rfl (lv_room (Nat.le_of_ble_eq_true rfl)) dX8_tell_8 ⟨Nat.le_of_ble_eq_true rfl, Nat.le_of_ble_eq_true rfl⟩) hX (fun r8 f8 H locs hp8 hX => ?_)
  obtain ⟨hr8, hf8⟩ := hp8
  rw [hf8] at hX
  refine k_topi (y := (kbI (cIn x1.toInt64 (nI 1000).toInt64 ∧ cIn x2.toInt64 (nI 1000).toInt64 ∧ cIn x3.toInt64 (nI 1000).toInt64 ∧ cIn x4.toInt64 (nI 1000).toInt64))) hr8 ?_
  refine lv_if_ne (tgt := 24) C.x C.b dX8_tell_11 (by decide) (fun c_11 => ?_) (fun c_11 => ?_)
  · skip
    have c_11 := kbI_1 c_11
    refine lv_iload_n C.x C.b dX8_tell_24 rfl (lv_at hl 1 rfl) ?_
    refine lv_iload C.x C.b dX8_tell_25 (lv_at hl 4 rfl) ?_
    refine lv_imul C.x C.b dX8_tell_27 ?_
    refine lv_iload_n C.x C.b dX8_tell_28 rfl (lv_at hl 2 rfl) ?_
    refine lv_iload_n C.x C.b dX8_tell_29 rfl (lv_at hl 3 rfl) ?_
    refine lv_imul C.x C.b dX8_tell_30 ?_
    refine lv_isub C.x C.b dX8_tell_31 ?_
    refine lv_iconst (v := nI 1) C.x C.b dX8_tell_32 (by decide) ?_
    refine lv_icmp_eq (tgt := 47) C.x C.b dX8_tell_33 (by decide) (fun c_33 => ?_) (fun c_33 => ?_)
    · skip
      exact absurd ⟨c_11, c_33⟩ hw
    · skip
      exact k_thSW (cls := "java/lang/IllegalArgumentException") (text := "a d less b c is not 1") C hst hX hl.1 hout lk_X8_tell_cl124 lk_X8_tell_ini_IllegalArgumentException (by decide +kernel) (by decide) hat_X8_tell_128_IllegalArgumentException hng_RX8_124_128_IllegalArgumentException dX8_tell_36 dX8_tell_39 dX8_tell_40 dX8_tell_43 dX8_tell_46 (Nat.le_of_ble_eq_true rfl) (Nat.le_of_ble_eq_true rfl) (Nat.le_of_ble_eq_true rfl) (Nat.le_of_ble_eq_true rfl) hlocks hQ (rfl) (Nat.le_of_ble_eq_true rfl) (Nat.le_of_ble_eq_true rfl)
  · skip
    have c_11 := kbI_0 c_11
    exact k_thS (cls := "java/lang/IllegalArgumentException") (text := "an argument is out of range") C hst hX hl.1 hout lk_X8_tell_cl124 lk_X8_tell_ini_IllegalArgumentException (by decide +kernel) (by decide) hat_X8_tell_128_IllegalArgumentException hng_RX8_124_128_IllegalArgumentException dX8_tell_14 dX8_tell_17 dX8_tell_18 dX8_tell_20 dX8_tell_23 (Nat.le_of_ble_eq_true rfl) (Nat.le_of_ble_eq_true rfl) (Nat.le_of_ble_eq_true rfl) (Nat.le_of_ble_eq_true rfl) hlocks hQ (rfl) (Nat.le_of_ble_eq_true rfl) (Nat.le_of_ble_eq_true rfl)

theorem lk_X8_tell_cl67 : Cond.classLink RX8 67 "java/lang/IllegalStateException" ∈ wsX8_tell := by decide +kernel
theorem lk_X8_tell_ini_IllegalStateException : Cond.initialized "java/lang/IllegalStateException" ∈ wsX8_tell := by decide +kernel
theorem hat_X8_tell_71_IllegalStateException : ∀ w ∈ (vx_atS RX8 71 "java/lang/IllegalStateException" kChain).filter goodWord, w ∈ wsX8_tell := by
  intro w hw
  unfold wsX8_tell
  simp only [List.mem_cons, List.mem_append, hw, or_true, true_or]
abbrev rmX8_tell_b2 : Room := { frames := 6, cells := 1, slots := 6, locals := 90 }
set_option maxHeartbeats 4000000 in
set_option maxRecDepth 100000 in
/-- X8_tell_b2 -/
theorem kX8_tell_b2 (l : Launch) (hst : l.stackTraces = false) (G : kG) (B0 : Nat) (f : kH) (h pp dl sz : Nat) (vs vd vg vw vn : Value) (w : Nat → Nat) (t1 t2 t3 t4 : Nat → Int64) (x1 x2 x3 x4 : Int32) (hM : kCs f [(h, .inr (8, [vs, vd, vg, vw, .ref dl, .ref pp, vn]))]) (hdl : kLs G f dl sz w (tbE t1 t2 t3 t4)) (hsz : sz ≤ 4) (hw : (cIn x1.toInt64 (nI 1000).toInt64 ∧ cIn x2.toInt64 (nI 1000).toInt64 ∧ cIn x3.toInt64 (nI 1000).toInt64 ∧ cIn x4.toInt64 (nI 1000).toInt64) ∧ x1 * x4 - x2 * x3 = nI 1) (hf : 4 ≤ sz) : vx_Met l yX8_tell wsX8_tell (rmX8_tell_b2) (kP G B0 f [.ref h, .int x1, .int x2, .int x3, .int x4]) kNo (kXC G B0 "java/lang/IllegalStateException" (fun f1 => f1 = f)) 1 6 (kAb B0) := by
  refine kMetX (cc := cX8_tell) (maxL := 5) (ret := (some .int)) (by decide) rfl (Nat.le_of_ble_eq_true rfl) ?_
  intro p e s m args below meth c H locs Q ls C hX hl hr hlocks hnm hQ hout
  have hl : lv_has ls 5 [(0, .ref h), (1, .int x1), (2, .int x2), (3, .int x3), (4, .int x4)] := hl
  refine lv_iload_n C.x C.b dX8_tell_0 rfl (lv_at hl 1 rfl) ?_
  refine lv_iload_n C.x C.b dX8_tell_1 rfl (lv_at hl 2 rfl) ?_
  refine lv_iload_n C.x C.b dX8_tell_2 rfl (lv_at hl 3 rfl) ?_
  refine lv_iload C.x C.b dX8_tell_3 (lv_at hl 4 rfl) ?_
  refine lv_sipush (v := nI 1000) C.x C.b dX8_tell_5 (by decide) ?_
  refine k_calli (va_runS (As := [.int x1, .int x2, .int x3, .int x4, .int (nI 1000)]) (rest := []) C.1 (kX8_areFourWithin l G B0 f x1 x2 x3 x4 (nI 1000)) (va_cwS 5 C.ts gX8_tell_X8_areFourWithin rfl rfl rfl (hdX8_tell_X8_areFourWithin) ⟨Nat.le_of_ble_eq_true rfl, Nat.le_of_ble_eq_true rfl⟩) (k_preS C hX) rfl rfl hl.1 rfl (lv_room (Nat.le_of_ble_eq_true rfl)) dX8_tell_8 ⟨Nat.le_of_ble_eq_true rfl, Nat.le_of_ble_eq_true rfl⟩) hX (fun r8 f8 H locs hp8 hX => ?_)
  obtain ⟨hr8, hf8⟩ := hp8
  rw [hf8] at hX
  refine k_topi (y := (kbI (cIn x1.toInt64 (nI 1000).toInt64 ∧ cIn x2.toInt64 (nI 1000).toInt64 ∧ cIn x3.toInt64 (nI 1000).toInt64 ∧ cIn x4.toInt64 (nI 1000).toInt64))) hr8 ?_
  refine lv_if_ne (tgt := 24) C.x C.b dX8_tell_11 (by decide) (fun c_11 => ?_) (fun c_11 => ?_)
  rotate_left
  · exact absurd (hw.1) (kbI_0 c_11)
  refine lv_iload_n C.x C.b dX8_tell_24 rfl (lv_at hl 1 rfl) ?_
  refine lv_iload C.x C.b dX8_tell_25 (lv_at hl 4 rfl) ?_
  refine lv_imul C.x C.b dX8_tell_27 ?_
  refine lv_iload_n C.x C.b dX8_tell_28 rfl (lv_at hl 2 rfl) ?_
  refine lv_iload_n C.x C.b dX8_tell_29 rfl (lv_at hl 3 rfl) ?_
  refine lv_imul C.x C.b dX8_tell_30 ?_
  refine lv_isub C.x C.b dX8_tell_31 ?_
  refine lv_iconst (v := nI 1) C.x C.b dX8_tell_32 (by decide) ?_
  refine lv_icmp_eq (tgt := 47) C.x C.b dX8_tell_33 (by decide) (fun c_33 => ?_) (fun c_33 => ?_)
  rotate_left
  · skip
    exact absurd hw.2 c_33
  refine lv_aload_n C.x C.b dX8_tell_47 rfl (lv_at hl 0 rfl) ?_
  refine k_get (X := RX8) (T := TX8) (N := 7) (v := .ref dl) C hX (hM.at 0 rfl) rfl hin_X8_tell_RX8 4 (by decide) lk_X8_tell_f33 (fun _ h9 => h9) rfl dX8_tell_48 ?_
  refine k_calli (va_runV (As := []) (rest := []) C.1 (kSizeL l G B0 f hdl) (cwV 0 C.ts gX8_tell_Jx4a65c_size_8abf5 rfl rfl rfl ⟨rfl, hdX8_tell_Jx4a65c_size_8abf5⟩ ⟨Nat.le_of_ble_eq_true rfl, Nat.le_of_ble_eq_true rfl⟩) (k_preV C hX (hdl.list.choose_spec) rfl) rfl rfl hl.1 rfl (lv_room (Nat.le_of_ble_eq_true rfl)) dX8_tell_51 ⟨Nat.le_of_ble_eq_true rfl, Nat.le_of_ble_eq_true rfl⟩) hX (fun r51 f51 H locs hp51 hX => ?_)
  obtain ⟨hr51, hf51⟩ := hp51
  rw [hf51] at hX
  refine k_topi (y := (nI sz)) hr51 ?_
  refine lv_iconst (v := nI 4) C.x C.b dX8_tell_54 (by decide) ?_
  refine lv_icmp_lt (tgt := 69) C.x C.b dX8_tell_55 (by decide) (fun c_55 => ?_) (fun c_55 => ?_)
  · skip
    have c_55 : sz < 4 := (nI_ltI (by omega) (by omega)).mp c_55
    omega
  have c_55 : ¬ (sz < 4) := fun h9 => c_55 ((nI_ltI (by omega) (by omega)).mpr h9)
  exact k_thSW (cls := "java/lang/IllegalStateException") (text := "there are 4") C hst hX hl.1 hout lk_X8_tell_cl67 lk_X8_tell_ini_IllegalStateException (by decide +kernel) (by decide) hat_X8_tell_71_IllegalStateException hng_RX8_67_71_IllegalStateException dX8_tell_58 dX8_tell_61 dX8_tell_62 dX8_tell_65 dX8_tell_68 (Nat.le_of_ble_eq_true rfl) (Nat.le_of_ble_eq_true rfl) (Nat.le_of_ble_eq_true rfl) (Nat.le_of_ble_eq_true rfl) hlocks hQ (rfl) (Nat.le_of_ble_eq_true rfl) (Nat.le_of_ble_eq_true rfl)

theorem lk_X8_append_cl56 : Cond.classLink RX8 56 "java/lang/IndexOutOfBoundsException" ∈ wsX8_append := by decide +kernel
theorem lk_X8_append_ini_IndexOutOfBoundsException : Cond.initialized "java/lang/IndexOutOfBoundsException" ∈ wsX8_append := by decide +kernel
theorem hat_X8_append_60_IndexOutOfBoundsException : ∀ w ∈ (vx_atS RX8 60 "java/lang/IndexOutOfBoundsException" kChain).filter goodWord, w ∈ wsX8_append := by
  intro w hw
  unfold wsX8_append
  simp only [List.mem_cons, List.mem_append, hw, or_true, true_or]
abbrev rmX8_append_b1 : Room := { frames := 6, cells := 1, slots := 6, locals := 90 }
set_option maxHeartbeats 4000000 in
set_option maxRecDepth 100000 in
/-- X8_append_b1 -/
theorem kX8_append_b1 (l : Launch) (hst : l.stackTraces = false) (G : kG) (B0 : Nat) (f : kH) (h pp dl sz : Nat) (vs vd vg vw vn : Value) (w : Nat → Nat) (t1 t2 t3 t4 : Nat → Int64) (a z9 : Int32) (hM : kCs f [(h, .inr (8, [vs, vd, vg, vw, .ref dl, .ref pp, vn]))]) (hdl : kLs G f dl sz w (tbE t1 t2 t3 t4)) (hsz : sz ≤ 4) (hv : ¬ mIn a sz) : vx_Met l yX8_append wsX8_append (rmX8_append_b1) (kP G B0 f [.ref h, .int a, .int z9]) kNo (kXC G B0 "java/lang/IndexOutOfBoundsException" (fun f1 => f1 = f)) 1 6 (kAb B0) := by
  refine kMetX (cc := cX8_append) (maxL := 5) (ret := (some .int)) (by decide) rfl (Nat.le_of_ble_eq_true rfl) ?_
  intro p e s m args below meth c H locs Q ls C hX hl hr hlocks hnm hQ hout
  have hl : lv_has ls 5 [(0, .ref h), (1, .int a), (2, .int z9)] := hl
  refine lv_iload_n C.x C.b dX8_append_0 rfl (lv_at hl 1 rfl) ?_
  refine lv_if_lt (tgt := 15) C.x C.b dX8_append_1 (by decide) (fun c_1 => ?_) (fun c_1 => ?_)
  · skip
    exact k_thSW (cls := "java/lang/IndexOutOfBoundsException") (text := "there is no such move") C hst hX hl.1 hout lk_X8_append_cl56 lk_X8_append_ini_IndexOutOfBoundsException (by decide +kernel) (by decide) hat_X8_append_60_IndexOutOfBoundsException hng_RX8_56_60_IndexOutOfBoundsException dX8_append_15 dX8_append_18 dX8_append_19 dX8_append_22 dX8_append_25 (Nat.le_of_ble_eq_true rfl) (Nat.le_of_ble_eq_true rfl) (Nat.le_of_ble_eq_true rfl) (Nat.le_of_ble_eq_true rfl) hlocks hQ (rfl) (Nat.le_of_ble_eq_true rfl) (Nat.le_of_ble_eq_true rfl)
  · skip
    refine lv_iload_n C.x C.b dX8_append_4 rfl (lv_at hl 1 rfl) ?_
    refine lv_aload_n C.x C.b dX8_append_5 rfl (lv_at hl 0 rfl) ?_
    refine k_get (X := RX8) (T := TX8) (N := 7) (v := .ref dl) C hX (hM.at 0 rfl) rfl hin_X8_append_RX8 4 (by decide) lk_X8_append_f33 (fun _ h9 => h9) rfl dX8_append_6 ?_
    refine k_calli (va_runV (As := []) (rest := [.int a]) C.1 (kSizeL l G B0 f hdl) (cwV 0 C.ts gX8_append_Jx4a65c_size_8abf5 rfl rfl rfl ⟨rfl, hdX8_append_Jx4a65c_size_8abf5⟩ ⟨Nat.le_of_ble_eq_true rfl, Nat.le_of_ble_eq_true rfl⟩) (k_preV C hX (hdl.list.choose_spec) rfl) rfl rfl hl.1 rfl (lv_room (Nat.le_of_ble_eq_true rfl)) dX8_append_9 ⟨Nat.le_of_ble_eq_true rfl, Nat.le_of_ble_eq_true rfl⟩) hX (fun r9 f9 H locs hp9 hX => ?_)
    obtain ⟨hr9, hf9⟩ := hp9
    rw [hf9] at hX
    refine k_topi (y := (nI sz)) hr9 ?_
    refine lv_icmp_lt (tgt := 26) C.x C.b dX8_append_12 (by decide) (fun c_12 => ?_) (fun c_12 => ?_)
    · skip
      exact absurd (nIn_t2 c_1 c_12) hv
    · skip
      exact k_thSW (cls := "java/lang/IndexOutOfBoundsException") (text := "there is no such move") C hst hX hl.1 hout lk_X8_append_cl56 lk_X8_append_ini_IndexOutOfBoundsException (by decide +kernel) (by decide) hat_X8_append_60_IndexOutOfBoundsException hng_RX8_56_60_IndexOutOfBoundsException dX8_append_15 dX8_append_18 dX8_append_19 dX8_append_22 dX8_append_25 (Nat.le_of_ble_eq_true rfl) (Nat.le_of_ble_eq_true rfl) (Nat.le_of_ble_eq_true rfl) (Nat.le_of_ble_eq_true rfl) hlocks hQ (rfl) (Nat.le_of_ble_eq_true rfl) (Nat.le_of_ble_eq_true rfl)

theorem lk_X8_append_cl67 : Cond.classLink RX8 67 "java/lang/IllegalStateException" ∈ wsX8_append := by decide +kernel
theorem lk_X8_append_ini_IllegalStateException : Cond.initialized "java/lang/IllegalStateException" ∈ wsX8_append := by decide +kernel
theorem hat_X8_append_71_IllegalStateException : ∀ w ∈ (vx_atS RX8 71 "java/lang/IllegalStateException" kChain).filter goodWord, w ∈ wsX8_append := by
  intro w hw
  unfold wsX8_append
  simp only [List.mem_cons, List.mem_append, hw, or_true, true_or]
abbrev rmX8_append_f2 : Room := { frames := 6, cells := 2, slots := 10, locals := 90 }
set_option maxHeartbeats 4000000 in
set_option maxRecDepth 100000 in
/-- X8_append_f2 -/
theorem kX8_append_f2 (l : Launch) (hst : l.stackTraces = false) (G : kG) (B0 : Nat) (f : kH) (h pp dl sz i : Nat) (vs vd vg vw vn : Value) (a1 b1 c1 d1 : Int64) (w : Nat → Nat) (t1 t2 t3 t4 : Nat → Int64) (hM : kCs f [(h, .inr (8, [vs, vd, vg, vw, .ref dl, .ref pp, vn])), (pp, .inr (6, [.long a1, .long b1, .long c1, .long d1])), (w i, .inr (6, [.long (t1 i), .long (t2 i), .long (t3 i), .long (t4 i)]))]) (hdl : kLs G f dl sz w (tbE t1 t2 t3 t4)) (hsz : sz ≤ 4) (hi : i < sz) (z9 : Int32) (hz : z9 = 0) (hw : ¬ (cIn (a1 * (t1 i) + b1 * (t3 i)) 1000000000 ∧ cIn (a1 * (t2 i) + b1 * (t4 i)) 1000000000 ∧ cIn (c1 * (t1 i) + d1 * (t3 i)) 1000000000 ∧ cIn (c1 * (t2 i) + d1 * (t4 i)) 1000000000)) : vx_Met l yX8_append wsX8_append (rmX8_append_f2) (kP G B0 f [.ref h, .int (nI i), .int z9]) kNo (kXC G B0 "java/lang/IllegalStateException" (fun f1 => kKp [] f f1)) 2 10 (kAb B0) := by
  refine kMetX (cc := cX8_append) (maxL := 5) (ret := (some .int)) (by decide) rfl (Nat.le_of_ble_eq_true rfl) ?_
  intro p e s m args below meth c H locs Q ls C hX hl hr hlocks hnm hQ hout
  have hO : kKp [] f f := kKp.rf
  have hS : ∀ a ∈ ([] : List Nat), (f a).isSome := by intro a h9; cases h9
  have hl : lv_has ls 5 [(0, .ref h), (1, .int (nI i)), (2, .int z9)] := hl
  refine lv_iload_n C.x C.b dX8_append_0 rfl (lv_at hl 1 rfl) ?_
  refine lv_if_lt (tgt := 15) C.x C.b dX8_append_1 (by decide) (fun c_1 => ?_) (fun c_1 => ?_)
  · skip
    exact absurd c_1 (nI_pos (by omega))
  · skip
    refine lv_iload_n C.x C.b dX8_append_4 rfl (lv_at hl 1 rfl) ?_
    refine lv_aload_n C.x C.b dX8_append_5 rfl (lv_at hl 0 rfl) ?_
    refine k_get (X := RX8) (T := TX8) (N := 7) (v := .ref dl) C hX (hM.at 0 rfl) rfl hin_X8_append_RX8 4 (by decide) lk_X8_append_f33 (fun _ h9 => h9) rfl dX8_append_6 ?_
    refine k_calli (va_runV (As := []) (rest := [.int (nI i)]) C.1 (kSizeL l G B0 f hdl) (cwV 0 C.ts gX8_append_Jx4a65c_size_8abf5 rfl rfl rfl ⟨rfl, hdX8_append_Jx4a65c_size_8abf5⟩ ⟨Nat.le_of_ble_eq_true rfl, Nat.le_of_ble_eq_true rfl⟩) (k_preV C hX (hdl.list.choose_spec) rfl) rfl rfl hl.1 rfl (lv_room (Nat.le_of_ble_eq_true rfl)) dX8_append_9 ⟨Nat.le_of_ble_eq_true rfl, Nat.le_of_ble_eq_true rfl⟩) hX (fun r9 f9 H locs hp9 hX => ?_)
    obtain ⟨hr9, hf9⟩ := hp9
    rw [hf9] at hX
    refine k_topi (y := (nI sz)) hr9 ?_
    refine lv_icmp_lt (tgt := 26) C.x C.b dX8_append_12 (by decide) (fun c_12 => ?_) (fun c_12 => ?_)
    rotate_left
    · skip
      have c_12 : ¬ (i < sz) := fun h9 => c_12 ((nI_ltI (by omega) (by omega)).mpr h9)
      omega
    have c_12 : i < sz := (nI_ltI (by omega) (by omega)).mp c_12
    refine lv_aload_n C.x C.b dX8_append_26 rfl (lv_at hl 0 rfl) ?_
    refine k_get (X := RX8) (T := TX8) (N := 7) (v := .ref dl) C hX (hM.at 0 rfl) rfl hin_X8_append_RX8 4 (by decide) lk_X8_append_f33 (fun _ h9 => h9) rfl dX8_append_27 ?_
    refine lv_iload_n C.x C.b dX8_append_30 rfl (lv_at hl 1 rfl) ?_
    refine k_callq (va_runV (As := [.int (nI i)]) (rest := []) C.1 (kGetL l G B0 f i hi hdl) (cwV 1 C.ts gX8_append_Jx4a65c_get_915e3 rfl rfl rfl ⟨rfl, hdX8_append_Jx4a65c_get_915e3⟩ ⟨Nat.le_of_ble_eq_true rfl, Nat.le_of_ble_eq_true rfl⟩) (k_preV C hX (hdl.list.choose_spec) rfl) rfl rfl hl.1 rfl (lv_room (Nat.le_of_ble_eq_true rfl)) dX8_append_31 ⟨Nat.le_of_ble_eq_true rfl, Nat.le_of_ble_eq_true rfl⟩) hX (fun r31 f31 H locs hp31 hX => ?_)
    obtain ⟨hr31, hf31⟩ := hp31
    rw [hf31] at hX
    refine k_topq (v := w i) hr31 ?_
    refine k_cast C hX (hM.at 2 rfl) rfl (C.ts _ lk_X8_append_cl36) dX8_append_34 ?_
    refine lv_astore_n (lv' := [(3, .ref (w i)), (0, .ref h), (1, .int (nI i)), (2, .int z9)]) C.x C.b dX8_append_37 rfl hl (by decide) rfl (fun ls hl => ?_)
    refine lv_aload_n C.x C.b dX8_append_38 rfl (lv_at hl 1 rfl) ?_
    refine k_get (X := RX8) (T := TX8) (N := 7) (v := .ref pp) C hX (hM.at 0 rfl) rfl hin_X8_append_RX8 5 (by decide) lk_X8_append_f41 (fun _ h9 => h9) rfl dX8_append_39 ?_
    refine lv_iload_n C.x C.b dX8_append_42 rfl (lv_at hl 3 rfl) ?_
    refine lv_if_eq (tgt := 53) C.x C.b dX8_append_43 (by decide) (fun c_43 => ?_) (fun c_43 => ?_)
    · skip
      refine lv_aload_n C.x C.b dX8_append_53 rfl (lv_at hl 0 rfl) ?_
      have hM9 : kCs f ([(pp, .inr (6, [.long a1, .long b1, .long c1, .long d1])), (w i, .inr (6, [.long (t1 i), .long (t2 i), .long (t3 i), .long (t4 i)]))]) := hM.pick [1, 2] (by decide) ⟨rfl, rfl, trivial⟩
      refine k_callq (va_runVN (As := [.ref (w i)]) (rest := []) C.1 (kX6_times l G B0 f pp (w i) a1 b1 c1 d1 (t1 i) (t2 i) (t3 i) (t4 i) hM9) ⟨va_cnB 1 C.ts gX8_append_X6_times_n277 rfl rfl rfl (C.2.1.2.2.1 _ (show ((RX8, 277, yX6_times, "Koebehall") : String × Nat × MethodName × String) ∈ kNestM by decide +kernel)) (C.ts _ lk_X8_append_in_RX6) hdX8_append_X6_times ⟨Nat.le_of_ble_eq_true rfl, Nat.le_of_ble_eq_true rfl⟩, C.ts _ lk_X8_append_im_X6_times, C.ts _ lk_X8_append_se_X6_times⟩ (k_preV C hX (hM.at 1 rfl) rfl) rfl rfl hl.1 rfl (lv_room (Nat.le_of_ble_eq_true rfl)) dX8_append_54 ⟨Nat.le_of_ble_eq_true rfl, Nat.le_of_ble_eq_true rfl⟩) hX (fun r54 f54 H locs hp54 hX => ?_)
      obtain ⟨q54, hr54, hn54, hM9, hO9⟩ := hp54
      have fr_q54 : f q54 = none := hO.fr hS hn54
      have hM9 : kCs f54 ([] ++ [(q54, .inr (6, [.long (a1 * (t1 i) + b1 * (t3 i)), .long (a1 * (t2 i) + b1 * (t4 i)), .long (c1 * (t1 i) + d1 * (t3 i)), .long (c1 * (t2 i) + d1 * (t4 i))]))]) := kCs.one hM9
      have hM : kCs f54 ([(h, .inr (8, [vs, vd, vg, vw, .ref dl, .ref pp, vn])), (pp, .inr (6, [.long a1, .long b1, .long c1, .long d1])), (w i, .inr (6, [.long (t1 i), .long (t2 i), .long (t3 i), .long (t4 i)])), (q54, .inr (6, [.long (a1 * (t1 i) + b1 * (t3 i)), .long (a1 * (t2 i) + b1 * (t4 i)), .long (c1 * (t1 i) + d1 * (t3 i)), .long (c1 * (t2 i) + d1 * (t4 i))]))]) := hM.subg hM9 hO9 hn54 [] (by simp) trivial
      have hO := hO.then (hO9) (by intro a h9; cases h9)
      have hS : ∀ a ∈ ([] : List Nat), (f54 a).isSome := by intro a h9; cases h9
      refine k_topq (v := q54) hr54 ?_
      refine lv_astore (lv' := [(4, .ref q54), (3, .ref (w i)), (0, .ref h), (1, .int (nI i)), (2, .int z9)]) C.x C.b dX8_append_57 hl (by decide) rfl (fun ls hl => ?_)
      refine lv_aload C.x C.b dX8_append_59 (lv_at hl 0 rfl) ?_
      refine lv_ldc2 (v := 1000000000) C.x C.b C.ow (C.ts _ lk_X8_append_c170) dX8_append_61 ?_
      have hM9 : kCs f54 ([(q54, .inr (6, [.long (a1 * (t1 i) + b1 * (t3 i)), .long (a1 * (t2 i) + b1 * (t4 i)), .long (c1 * (t1 i) + d1 * (t3 i)), .long (c1 * (t2 i) + d1 * (t4 i))]))]) := hM.pick [3] (by decide) ⟨rfl, trivial⟩
      refine k_calli (va_runVN (As := [.long 1000000000]) (rest := []) C.1 (kX6_isWhollyWithin l G B0 f54 q54 (a1 * (t1 i) + b1 * (t3 i)) (a1 * (t2 i) + b1 * (t4 i)) (c1 * (t1 i) + d1 * (t3 i)) (c1 * (t2 i) + d1 * (t4 i)) 1000000000 hM9) ⟨va_cnB 1 C.ts gX8_append_X6_isWhollyWithin_n281 rfl rfl rfl (C.2.1.2.2.1 _ (show ((RX8, 281, yX6_isWhollyWithin, "Koebehall") : String × Nat × MethodName × String) ∈ kNestM by decide +kernel)) (C.ts _ lk_X8_append_in_RX6) hdX8_append_X6_isWhollyWithin ⟨Nat.le_of_ble_eq_true rfl, Nat.le_of_ble_eq_true rfl⟩, C.ts _ lk_X8_append_im_X6_isWhollyWithin, C.ts _ lk_X8_append_se_X6_isWhollyWithin⟩ (k_preV C hX (hM.at 3 rfl) rfl) rfl rfl hl.1 rfl (lv_room (Nat.le_of_ble_eq_true rfl)) dX8_append_64 ⟨Nat.le_of_ble_eq_true rfl, Nat.le_of_ble_eq_true rfl⟩) hX (fun r64 f64 H locs hp64 hX => ?_)
      obtain ⟨hr64, hf64⟩ := hp64
      rw [hf64] at hX
      refine k_topi (y := (kbI (cIn (a1 * (t1 i) + b1 * (t3 i)) 1000000000 ∧ cIn (a1 * (t2 i) + b1 * (t4 i)) 1000000000 ∧ cIn (c1 * (t1 i) + d1 * (t3 i)) 1000000000 ∧ cIn (c1 * (t2 i) + d1 * (t4 i)) 1000000000))) hr64 ?_
      refine lv_if_ne (tgt := 81) C.x C.b dX8_append_67 (by decide) (fun c_67 => ?_) (fun c_67 => ?_)
      · exact absurd (kbI_1 c_67) (hw)
      exact k_thSW (cls := "java/lang/IllegalStateException") (text := "a number of the word would be too great") C hst hX hl.1 hout lk_X8_append_cl67 lk_X8_append_ini_IllegalStateException (by decide +kernel) (by decide) hat_X8_append_71_IllegalStateException hng_RX8_67_71_IllegalStateException dX8_append_70 dX8_append_73 dX8_append_74 dX8_append_77 dX8_append_80 (Nat.le_of_ble_eq_true rfl) (Nat.le_of_ble_eq_true rfl) (Nat.le_of_ble_eq_true rfl) (Nat.le_of_ble_eq_true rfl) hlocks hQ (hO) (Nat.le_of_ble_eq_true rfl) (Nat.le_of_ble_eq_true rfl)
    · skip
      exact absurd hz c_43

abbrev rmX8_append_u2 : Room := { frames := 6, cells := 3, slots := 14, locals := 90 }
set_option maxHeartbeats 4000000 in
set_option maxRecDepth 100000 in
/-- X8_append_u2 -/
theorem kX8_append_u2 (l : Launch) (hst : l.stackTraces = false) (G : kG) (B0 : Nat) (f : kH) (h pp dl sz i : Nat) (vs vd vg vw vn : Value) (a1 b1 c1 d1 : Int64) (w : Nat → Nat) (t1 t2 t3 t4 : Nat → Int64) (hM : kCs f [(h, .inr (8, [vs, vd, vg, vw, .ref dl, .ref pp, vn])), (pp, .inr (6, [.long a1, .long b1, .long c1, .long d1])), (w i, .inr (6, [.long (t1 i), .long (t2 i), .long (t3 i), .long (t4 i)]))]) (hdl : kLs G f dl sz w (tbE t1 t2 t3 t4)) (hsz : sz ≤ 4) (hi : i < sz) (z9 : Int32) (hz : ¬ z9 = 0) (hw : ¬ (cIn (a1 * (t4 i) + b1 * (-t3 i)) 1000000000 ∧ cIn (a1 * (-t2 i) + b1 * (t1 i)) 1000000000 ∧ cIn (c1 * (t4 i) + d1 * (-t3 i)) 1000000000 ∧ cIn (c1 * (-t2 i) + d1 * (t1 i)) 1000000000)) : vx_Met l yX8_append wsX8_append (rmX8_append_u2) (kP G B0 f [.ref h, .int (nI i), .int z9]) kNo (kXC G B0 "java/lang/IllegalStateException" (fun f1 => kKp [] f f1)) 3 14 (kAb B0) := by
  refine kMetX (cc := cX8_append) (maxL := 5) (ret := (some .int)) (by decide) rfl (Nat.le_of_ble_eq_true rfl) ?_
  intro p e s m args below meth c H locs Q ls C hX hl hr hlocks hnm hQ hout
  have hO : kKp [] f f := kKp.rf
  have hS : ∀ a ∈ ([] : List Nat), (f a).isSome := by intro a h9; cases h9
  have hl : lv_has ls 5 [(0, .ref h), (1, .int (nI i)), (2, .int z9)] := hl
  refine lv_iload_n C.x C.b dX8_append_0 rfl (lv_at hl 1 rfl) ?_
  refine lv_if_lt (tgt := 15) C.x C.b dX8_append_1 (by decide) (fun c_1 => ?_) (fun c_1 => ?_)
  · skip
    exact absurd c_1 (nI_pos (by omega))
  · skip
    refine lv_iload_n C.x C.b dX8_append_4 rfl (lv_at hl 1 rfl) ?_
    refine lv_aload_n C.x C.b dX8_append_5 rfl (lv_at hl 0 rfl) ?_
    refine k_get (X := RX8) (T := TX8) (N := 7) (v := .ref dl) C hX (hM.at 0 rfl) rfl hin_X8_append_RX8 4 (by decide) lk_X8_append_f33 (fun _ h9 => h9) rfl dX8_append_6 ?_
    refine k_calli (va_runV (As := []) (rest := [.int (nI i)]) C.1 (kSizeL l G B0 f hdl) (cwV 0 C.ts gX8_append_Jx4a65c_size_8abf5 rfl rfl rfl ⟨rfl, hdX8_append_Jx4a65c_size_8abf5⟩ ⟨Nat.le_of_ble_eq_true rfl, Nat.le_of_ble_eq_true rfl⟩) (k_preV C hX (hdl.list.choose_spec) rfl) rfl rfl hl.1 rfl (lv_room (Nat.le_of_ble_eq_true rfl)) dX8_append_9 ⟨Nat.le_of_ble_eq_true rfl, Nat.le_of_ble_eq_true rfl⟩) hX (fun r9 f9 H locs hp9 hX => ?_)
    obtain ⟨hr9, hf9⟩ := hp9
    rw [hf9] at hX
    refine k_topi (y := (nI sz)) hr9 ?_
    refine lv_icmp_lt (tgt := 26) C.x C.b dX8_append_12 (by decide) (fun c_12 => ?_) (fun c_12 => ?_)
    rotate_left
    · skip
      have c_12 : ¬ (i < sz) := fun h9 => c_12 ((nI_ltI (by omega) (by omega)).mpr h9)
      omega
    have c_12 : i < sz := (nI_ltI (by omega) (by omega)).mp c_12
    refine lv_aload_n C.x C.b dX8_append_26 rfl (lv_at hl 0 rfl) ?_
    refine k_get (X := RX8) (T := TX8) (N := 7) (v := .ref dl) C hX (hM.at 0 rfl) rfl hin_X8_append_RX8 4 (by decide) lk_X8_append_f33 (fun _ h9 => h9) rfl dX8_append_27 ?_
    refine lv_iload_n C.x C.b dX8_append_30 rfl (lv_at hl 1 rfl) ?_
    refine k_callq (va_runV (As := [.int (nI i)]) (rest := []) C.1 (kGetL l G B0 f i hi hdl) (cwV 1 C.ts gX8_append_Jx4a65c_get_915e3 rfl rfl rfl ⟨rfl, hdX8_append_Jx4a65c_get_915e3⟩ ⟨Nat.le_of_ble_eq_true rfl, Nat.le_of_ble_eq_true rfl⟩) (k_preV C hX (hdl.list.choose_spec) rfl) rfl rfl hl.1 rfl (lv_room (Nat.le_of_ble_eq_true rfl)) dX8_append_31 ⟨Nat.le_of_ble_eq_true rfl, Nat.le_of_ble_eq_true rfl⟩) hX (fun r31 f31 H locs hp31 hX => ?_)
    obtain ⟨hr31, hf31⟩ := hp31
    rw [hf31] at hX
    refine k_topq (v := w i) hr31 ?_
    refine k_cast C hX (hM.at 2 rfl) rfl (C.ts _ lk_X8_append_cl36) dX8_append_34 ?_
    refine lv_astore_n (lv' := [(3, .ref (w i)), (0, .ref h), (1, .int (nI i)), (2, .int z9)]) C.x C.b dX8_append_37 rfl hl (by decide) rfl (fun ls hl => ?_)
    refine lv_aload_n C.x C.b dX8_append_38 rfl (lv_at hl 1 rfl) ?_
    refine k_get (X := RX8) (T := TX8) (N := 7) (v := .ref pp) C hX (hM.at 0 rfl) rfl hin_X8_append_RX8 5 (by decide) lk_X8_append_f41 (fun _ h9 => h9) rfl dX8_append_39 ?_
    refine lv_iload_n C.x C.b dX8_append_42 rfl (lv_at hl 3 rfl) ?_
    refine lv_if_eq (tgt := 53) C.x C.b dX8_append_43 (by decide) (fun c_43 => ?_) (fun c_43 => ?_)
    · skip
      exact absurd c_43 hz
    · skip
      refine lv_aload_n C.x C.b dX8_append_46 rfl (lv_at hl 0 rfl) ?_
      have hM9 : kCs f ([(w i, .inr (6, [.long (t1 i), .long (t2 i), .long (t3 i), .long (t4 i)]))]) := hM.pick [2] (by decide) ⟨rfl, trivial⟩
      refine k_callq (va_runVN (As := []) (rest := [.ref pp]) C.1 (kX6_undone l G B0 f (w i) (t1 i) (t2 i) (t3 i) (t4 i) hM9) ⟨va_cnB 0 C.ts gX8_append_X6_undone_n273 rfl rfl rfl (C.2.1.2.2.1 _ (show ((RX8, 273, yX6_undone, "Koebehall") : String × Nat × MethodName × String) ∈ kNestM by decide +kernel)) (C.ts _ lk_X8_append_in_RX6) hdX8_append_X6_undone ⟨Nat.le_of_ble_eq_true rfl, Nat.le_of_ble_eq_true rfl⟩, C.ts _ lk_X8_append_im_X6_undone, C.ts _ lk_X8_append_se_X6_undone⟩ (k_preV C hX (hM.at 2 rfl) rfl) rfl rfl hl.1 rfl (lv_room (Nat.le_of_ble_eq_true rfl)) dX8_append_47 ⟨Nat.le_of_ble_eq_true rfl, Nat.le_of_ble_eq_true rfl⟩) hX (fun r47 f47 H locs hp47 hX => ?_)
      obtain ⟨q47, hr47, hn47, hM9, hO9⟩ := hp47
      have fr_q47 : f q47 = none := hO.fr hS hn47
      have hM9 : kCs f47 ([] ++ [(q47, .inr (6, [.long (t4 i), .long (-t2 i), .long (-t3 i), .long (t1 i)]))]) := kCs.one hM9
      have hM : kCs f47 ([(h, .inr (8, [vs, vd, vg, vw, .ref dl, .ref pp, vn])), (pp, .inr (6, [.long a1, .long b1, .long c1, .long d1])), (w i, .inr (6, [.long (t1 i), .long (t2 i), .long (t3 i), .long (t4 i)])), (q47, .inr (6, [.long (t4 i), .long (-t2 i), .long (-t3 i), .long (t1 i)]))]) := hM.subg hM9 hO9 hn47 [] (by simp) trivial
      have hO := hO.then (hO9) (by intro a h9; cases h9)
      have hS : ∀ a ∈ ([] : List Nat), (f47 a).isSome := by intro a h9; cases h9
      refine k_topq (v := q47) hr47 ?_
      refine lv_goto (tgt := 54) C.x C.b dX8_append_50 (by decide) ?_
      have hM9 : kCs f47 ([(pp, .inr (6, [.long a1, .long b1, .long c1, .long d1])), (q47, .inr (6, [.long (t4 i), .long (-t2 i), .long (-t3 i), .long (t1 i)]))]) := hM.pick [1, 3] (by decide) ⟨rfl, rfl, trivial⟩
      refine k_callq (va_runVN (As := [.ref q47]) (rest := []) C.1 (kX6_times l G B0 f47 pp q47 a1 b1 c1 d1 (t4 i) (-t2 i) (-t3 i) (t1 i) hM9) ⟨va_cnB 1 C.ts gX8_append_X6_times_n277 rfl rfl rfl (C.2.1.2.2.1 _ (show ((RX8, 277, yX6_times, "Koebehall") : String × Nat × MethodName × String) ∈ kNestM by decide +kernel)) (C.ts _ lk_X8_append_in_RX6) hdX8_append_X6_times ⟨Nat.le_of_ble_eq_true rfl, Nat.le_of_ble_eq_true rfl⟩, C.ts _ lk_X8_append_im_X6_times, C.ts _ lk_X8_append_se_X6_times⟩ (k_preV C hX (hM.at 1 rfl) rfl) rfl rfl hl.1 rfl (lv_room (Nat.le_of_ble_eq_true rfl)) dX8_append_54 ⟨Nat.le_of_ble_eq_true rfl, Nat.le_of_ble_eq_true rfl⟩) hX (fun r54 f54 H locs hp54 hX => ?_)
      obtain ⟨q54, hr54, hn54, hM9, hO9⟩ := hp54
      have fr_q54 : f q54 = none := hO.fr hS hn54
      have hM9 : kCs f54 ([] ++ [(q54, .inr (6, [.long (a1 * (t4 i) + b1 * (-t3 i)), .long (a1 * (-t2 i) + b1 * (t1 i)), .long (c1 * (t4 i) + d1 * (-t3 i)), .long (c1 * (-t2 i) + d1 * (t1 i))]))]) := kCs.one hM9
      have hM : kCs f54 ([(h, .inr (8, [vs, vd, vg, vw, .ref dl, .ref pp, vn])), (pp, .inr (6, [.long a1, .long b1, .long c1, .long d1])), (w i, .inr (6, [.long (t1 i), .long (t2 i), .long (t3 i), .long (t4 i)])), (q47, .inr (6, [.long (t4 i), .long (-t2 i), .long (-t3 i), .long (t1 i)])), (q54, .inr (6, [.long (a1 * (t4 i) + b1 * (-t3 i)), .long (a1 * (-t2 i) + b1 * (t1 i)), .long (c1 * (t4 i) + d1 * (-t3 i)), .long (c1 * (-t2 i) + d1 * (t1 i))]))]) := hM.subg hM9 hO9 hn54 [] (by simp) trivial
      have hO := hO.then (hO9) (by intro a h9; cases h9)
      have hS : ∀ a ∈ ([] : List Nat), (f54 a).isSome := by intro a h9; cases h9
      refine k_topq (v := q54) hr54 ?_
      refine lv_astore (lv' := [(4, .ref q54), (3, .ref (w i)), (0, .ref h), (1, .int (nI i)), (2, .int z9)]) C.x C.b dX8_append_57 hl (by decide) rfl (fun ls hl => ?_)
      refine lv_aload C.x C.b dX8_append_59 (lv_at hl 0 rfl) ?_
      refine lv_ldc2 (v := 1000000000) C.x C.b C.ow (C.ts _ lk_X8_append_c170) dX8_append_61 ?_
      have hM9 : kCs f54 ([(q54, .inr (6, [.long (a1 * (t4 i) + b1 * (-t3 i)), .long (a1 * (-t2 i) + b1 * (t1 i)), .long (c1 * (t4 i) + d1 * (-t3 i)), .long (c1 * (-t2 i) + d1 * (t1 i))]))]) := hM.pick [4] (by decide) ⟨rfl, trivial⟩
      refine k_calli (va_runVN (As := [.long 1000000000]) (rest := []) C.1 (kX6_isWhollyWithin l G B0 f54 q54 (a1 * (t4 i) + b1 * (-t3 i)) (a1 * (-t2 i) + b1 * (t1 i)) (c1 * (t4 i) + d1 * (-t3 i)) (c1 * (-t2 i) + d1 * (t1 i)) 1000000000 hM9) ⟨va_cnB 1 C.ts gX8_append_X6_isWhollyWithin_n281 rfl rfl rfl (C.2.1.2.2.1 _ (show ((RX8, 281, yX6_isWhollyWithin, "Koebehall") : String × Nat × MethodName × String) ∈ kNestM by decide +kernel)) (C.ts _ lk_X8_append_in_RX6) hdX8_append_X6_isWhollyWithin ⟨Nat.le_of_ble_eq_true rfl, Nat.le_of_ble_eq_true rfl⟩, C.ts _ lk_X8_append_im_X6_isWhollyWithin, C.ts _ lk_X8_append_se_X6_isWhollyWithin⟩ (k_preV C hX (hM.at 4 rfl) rfl) rfl rfl hl.1 rfl (lv_room (Nat.le_of_ble_eq_true rfl)) dX8_append_64 ⟨Nat.le_of_ble_eq_true rfl, Nat.le_of_ble_eq_true rfl⟩) hX (fun r64 f64 H locs hp64 hX => ?_)
      obtain ⟨hr64, hf64⟩ := hp64
      rw [hf64] at hX
      refine k_topi (y := (kbI (cIn (a1 * (t4 i) + b1 * (-t3 i)) 1000000000 ∧ cIn (a1 * (-t2 i) + b1 * (t1 i)) 1000000000 ∧ cIn (c1 * (t4 i) + d1 * (-t3 i)) 1000000000 ∧ cIn (c1 * (-t2 i) + d1 * (t1 i)) 1000000000))) hr64 ?_
      refine lv_if_ne (tgt := 81) C.x C.b dX8_append_67 (by decide) (fun c_67 => ?_) (fun c_67 => ?_)
      · exact absurd (kbI_1 c_67) (hw)
      exact k_thSW (cls := "java/lang/IllegalStateException") (text := "a number of the word would be too great") C hst hX hl.1 hout lk_X8_append_cl67 lk_X8_append_ini_IllegalStateException (by decide +kernel) (by decide) hat_X8_append_71_IllegalStateException hng_RX8_67_71_IllegalStateException dX8_append_70 dX8_append_73 dX8_append_74 dX8_append_77 dX8_append_80 (Nat.le_of_ble_eq_true rfl) (Nat.le_of_ble_eq_true rfl) (Nat.le_of_ble_eq_true rfl) (Nat.le_of_ble_eq_true rfl) hlocks hQ (hO) (Nat.le_of_ble_eq_true rfl) (Nat.le_of_ble_eq_true rfl)

theorem lk_X8_word_cl56 : Cond.classLink RX8 56 "java/lang/IndexOutOfBoundsException" ∈ wsX8_word := by decide +kernel
theorem lk_X8_word_ini_IndexOutOfBoundsException : Cond.initialized "java/lang/IndexOutOfBoundsException" ∈ wsX8_word := by decide +kernel
theorem hat_X8_word_60_IndexOutOfBoundsException : ∀ w ∈ (vx_atS RX8 60 "java/lang/IndexOutOfBoundsException" kChain).filter goodWord, w ∈ wsX8_word := by
  intro w hw
  unfold wsX8_word
  simp only [List.mem_cons, List.mem_append, hw, or_true, true_or]
abbrev rmX8_word_b1 : Room := { frames := 6, cells := 1, slots := 6, locals := 90 }
set_option maxHeartbeats 4000000 in
set_option maxRecDepth 100000 in
/-- X8_word_b1 -/
theorem kX8_word_b1 (l : Launch) (hst : l.stackTraces = false) (G : kG) (B0 : Nat) (f : kH) (h pp : Nat) (vs vd vg vw vm vn : Value) (a1 b1 c1 d1 : Int64) (a : Int32) (hM : kCs f [(h, .inr (8, [vs, vd, vg, vw, vm, .ref pp, vn])), (pp, .inr (6, [.long a1, .long b1, .long c1, .long d1]))]) (hv : ¬ mRg a (0) 4) : vx_Met l yX8_word wsX8_word (rmX8_word_b1) (kP G B0 f [.ref h, .int a]) kNo (kXC G B0 "java/lang/IndexOutOfBoundsException" (fun f1 => f1 = f)) 1 6 (kAb B0) := by
  refine kMetX (cc := cX8_word) (maxL := 2) (ret := (some .int)) (by decide) rfl (Nat.le_of_ble_eq_true rfl) ?_
  intro p e s m args below meth c H locs Q ls C hX hl hr hlocks hnm hQ hout
  have hl : lv_has ls 2 [(0, .ref h), (1, .int a)] := hl
  refine lv_iload_n C.x C.b dX8_word_0 rfl (lv_at hl 1 rfl) ?_
  refine lv_tableOut (tgt := 80) C.x C.b dX8_word_1 (by omega) (by decide) ?_
  exact k_thS (cls := "java/lang/IndexOutOfBoundsException") (text := "what is out of range") C hst hX hl.1 hout lk_X8_word_cl56 lk_X8_word_ini_IndexOutOfBoundsException (by decide +kernel) (by decide) hat_X8_word_60_IndexOutOfBoundsException hng_RX8_56_60_IndexOutOfBoundsException dX8_word_80 dX8_word_83 dX8_word_84 dX8_word_86 dX8_word_89 (Nat.le_of_ble_eq_true rfl) (Nat.le_of_ble_eq_true rfl) (Nat.le_of_ble_eq_true rfl) (Nat.le_of_ble_eq_true rfl) hlocks hQ (rfl) (Nat.le_of_ble_eq_true rfl) (Nat.le_of_ble_eq_true rfl)

theorem lk_X8_image_cl124 : Cond.classLink RX8 124 "java/lang/IllegalArgumentException" ∈ wsX8_image := by decide +kernel
theorem lk_X8_image_ini_IllegalArgumentException : Cond.initialized "java/lang/IllegalArgumentException" ∈ wsX8_image := by decide +kernel
theorem hat_X8_image_128_IllegalArgumentException : ∀ w ∈ (vx_atS RX8 128 "java/lang/IllegalArgumentException" kChain).filter goodWord, w ∈ wsX8_image := by
  intro w hw
  unfold wsX8_image
  simp only [List.mem_cons, List.mem_append, hw, or_true, true_or]
abbrev rmX8_image_b1 : Room := { frames := 6, cells := 1, slots := 6, locals := 90 }
set_option maxHeartbeats 4000000 in
set_option maxRecDepth 100000 in
/-- X8_image_b1 -/
theorem kX8_image_b1 (l : Launch) (hst : l.stackTraces = false) (G : kG) (B0 : Nat) (f : kH) (h pp : Nat) (vs vd vg vw vm vn : Value) (a1 b1 c1 d1 : Int64) (x1 x2 z9 : Int32) (hM : kCs f [(h, .inr (8, [vs, vd, vg, vw, vm, .ref pp, vn])), (pp, .inr (6, [.long a1, .long b1, .long c1, .long d1]))]) (hv : ¬ cImOk x1 x2) : vx_Met l yX8_image wsX8_image (rmX8_image_b1) (kP G B0 f [.ref h, .int x1, .int x2, .int z9]) kNo (kXC G B0 "java/lang/IllegalArgumentException" (fun f1 => f1 = f)) 1 6 (kAb B0) := by
  refine kMetX (cc := cX8_image) (maxL := 11) (ret := (some .long)) (by decide) rfl (Nat.le_of_ble_eq_true rfl) ?_
  intro p e s m args below meth c H locs Q ls C hX hl hr hlocks hnm hQ hout
  have hl : lv_has ls 11 [(0, .ref h), (1, .int x1), (2, .int x2), (3, .int z9)] := hl
  refine lv_iload_n C.x C.b dX8_image_0 rfl (lv_at hl 1 rfl) ?_
  refine lv_i2l (v := x1.toInt64) C.x C.b dX8_image_1 rfl ?_
  refine lv_ldc2 (v := 1000000000) C.x C.b C.ow (C.ts _ lk_X8_image_c170) dX8_image_2 ?_
  refine k_calli (va_runS (As := [.long x1.toInt64, .long 1000000000]) (rest := []) C.1 (kX8_isWithin l G B0 f x1.toInt64 1000000000) (va_cwS 2 C.ts gX8_image_X8_isWithin rfl rfl rfl (hdX8_image_X8_isWithin) ⟨Nat.le_of_ble_eq_true rfl, Nat.le_of_ble_eq_true rfl⟩) (k_preS C hX) rfl rfl hl.1 rfl (lv_room (Nat.le_of_ble_eq_true rfl)) dX8_image_5 ⟨Nat.le_of_ble_eq_true rfl, Nat.le_of_ble_eq_true rfl⟩) hX (fun r5 f5 H locs hp5 hX => ?_)
  obtain ⟨hr5, hf5⟩ := hp5
  rw [hf5] at hX
  refine k_topi (y := (kbI (cIn x1.toInt64 1000000000))) hr5 ?_
  refine lv_if_eq (tgt := 21) C.x C.b dX8_image_8 (by decide) (fun c_8 => ?_) (fun c_8 => ?_)
  · skip
    have c_8 := kbI_0 c_8
    exact k_thS (cls := "java/lang/IllegalArgumentException") (text := "an argument is out of range") C hst hX hl.1 hout lk_X8_image_cl124 lk_X8_image_ini_IllegalArgumentException (by decide +kernel) (by decide) hat_X8_image_128_IllegalArgumentException hng_RX8_124_128_IllegalArgumentException dX8_image_21 dX8_image_24 dX8_image_25 dX8_image_27 dX8_image_30 (Nat.le_of_ble_eq_true rfl) (Nat.le_of_ble_eq_true rfl) (Nat.le_of_ble_eq_true rfl) (Nat.le_of_ble_eq_true rfl) hlocks hQ (rfl) (Nat.le_of_ble_eq_true rfl) (Nat.le_of_ble_eq_true rfl)
  · skip
    have c_8 := kbI_1 c_8
    refine lv_iload_n C.x C.b dX8_image_11 rfl (lv_at hl 2 rfl) ?_
    refine lv_if_lt (tgt := 21) C.x C.b dX8_image_12 (by decide) (fun c_12 => ?_) (fun c_12 => ?_)
    · skip
      exact k_thS (cls := "java/lang/IllegalArgumentException") (text := "an argument is out of range") C hst hX hl.1 hout lk_X8_image_cl124 lk_X8_image_ini_IllegalArgumentException (by decide +kernel) (by decide) hat_X8_image_128_IllegalArgumentException hng_RX8_124_128_IllegalArgumentException dX8_image_21 dX8_image_24 dX8_image_25 dX8_image_27 dX8_image_30 (Nat.le_of_ble_eq_true rfl) (Nat.le_of_ble_eq_true rfl) (Nat.le_of_ble_eq_true rfl) (Nat.le_of_ble_eq_true rfl) hlocks hQ (rfl) (Nat.le_of_ble_eq_true rfl) (Nat.le_of_ble_eq_true rfl)
    · skip
      refine lv_iload_n C.x C.b dX8_image_15 rfl (lv_at hl 2 rfl) ?_
      refine lv_ldc (v := nI 1000000000) C.x C.b C.ow (C.ts _ lk_X8_image_c176) dX8_image_16 ?_
      refine lv_icmp_le (tgt := 31) C.x C.b dX8_image_18 (by decide) (fun c_18 => ?_) (fun c_18 => ?_)
      · skip
        refine lv_iload_n C.x C.b dX8_image_31 rfl (lv_at hl 1 rfl) ?_
        refine lv_i2l (v := x1.toInt64) C.x C.b dX8_image_32 rfl ?_
        refine lv_iload_n C.x C.b dX8_image_33 rfl (lv_at hl 2 rfl) ?_
        refine lv_i2l (v := x2.toInt64) C.x C.b dX8_image_34 rfl ?_
        refine k_calli (va_runSN (As := [.long x1.toInt64, .long x2.toInt64]) (rest := []) C.1 (kX1_isLowest l G B0 f x1.toInt64 x2.toInt64) ⟨va_cnB 2 C.ts gX8_image_X1_isLowest_n262 rfl rfl rfl (C.2.1.2.2.1 _ (show ((RX8, 262, yX1_isLowest, "Koebehall") : String × Nat × MethodName × String) ∈ kNestM by decide +kernel)) (C.ts _ lk_X8_image_in_RX1) hdX8_image_X1_isLowest ⟨Nat.le_of_ble_eq_true rfl, Nat.le_of_ble_eq_true rfl⟩, C.ts _ lk_X8_image_st_X1_isLowest, trivial⟩ (k_preS C hX) rfl rfl hl.1 rfl (lv_room (Nat.le_of_ble_eq_true rfl)) dX8_image_35 ⟨Nat.le_of_ble_eq_true rfl, Nat.le_of_ble_eq_true rfl⟩) hX (fun r35 f35 H locs hp35 hX => ?_)
        obtain ⟨hr35, hf35⟩ := hp35
        rw [hf35] at hX
        refine k_topi (y := (kbI (cEu 1000 (jAbs x1.toInt64) x2.toInt64 = 1))) hr35 ?_
        refine lv_if_eq (tgt := 50) C.x C.b dX8_image_38 (by decide) (fun c_38 => ?_) (fun c_38 => ?_)
        · skip
          have c_38 := kbI_0 c_38
          exact k_thSW (cls := "java/lang/IllegalArgumentException") (text := "the fraction is not in lowest terms") C hst hX hl.1 hout lk_X8_image_cl124 lk_X8_image_ini_IllegalArgumentException (by decide +kernel) (by decide) hat_X8_image_128_IllegalArgumentException hng_RX8_124_128_IllegalArgumentException dX8_image_50 dX8_image_53 dX8_image_54 dX8_image_57 dX8_image_60 (Nat.le_of_ble_eq_true rfl) (Nat.le_of_ble_eq_true rfl) (Nat.le_of_ble_eq_true rfl) (Nat.le_of_ble_eq_true rfl) hlocks hQ (rfl) (Nat.le_of_ble_eq_true rfl) (Nat.le_of_ble_eq_true rfl)
        · skip
          have c_38 := kbI_1 c_38
          refine lv_iload_n C.x C.b dX8_image_41 rfl (lv_at hl 2 rfl) ?_
          refine lv_if_ne (tgt := 61) C.x C.b dX8_image_42 (by decide) (fun c_42 => ?_) (fun c_42 => ?_)
          · skip
            exact absurd ⟨c_8, c_12, c_18, c_38, Or.inl c_42⟩ hv
          · skip
            refine lv_iload_n C.x C.b dX8_image_45 rfl (lv_at hl 1 rfl) ?_
            refine lv_iconst (v := nI 1) C.x C.b dX8_image_46 (by decide) ?_
            refine lv_icmp_eq (tgt := 61) C.x C.b dX8_image_47 (by decide) (fun c_47 => ?_) (fun c_47 => ?_)
            · skip
              exact absurd ⟨c_8, c_12, c_18, c_38, Or.inr c_47⟩ hv
            · skip
              exact k_thSW (cls := "java/lang/IllegalArgumentException") (text := "the fraction is not in lowest terms") C hst hX hl.1 hout lk_X8_image_cl124 lk_X8_image_ini_IllegalArgumentException (by decide +kernel) (by decide) hat_X8_image_128_IllegalArgumentException hng_RX8_124_128_IllegalArgumentException dX8_image_50 dX8_image_53 dX8_image_54 dX8_image_57 dX8_image_60 (Nat.le_of_ble_eq_true rfl) (Nat.le_of_ble_eq_true rfl) (Nat.le_of_ble_eq_true rfl) (Nat.le_of_ble_eq_true rfl) hlocks hQ (rfl) (Nat.le_of_ble_eq_true rfl) (Nat.le_of_ble_eq_true rfl)
      · skip
        exact k_thS (cls := "java/lang/IllegalArgumentException") (text := "an argument is out of range") C hst hX hl.1 hout lk_X8_image_cl124 lk_X8_image_ini_IllegalArgumentException (by decide +kernel) (by decide) hat_X8_image_128_IllegalArgumentException hng_RX8_124_128_IllegalArgumentException dX8_image_21 dX8_image_24 dX8_image_25 dX8_image_27 dX8_image_30 (Nat.le_of_ble_eq_true rfl) (Nat.le_of_ble_eq_true rfl) (Nat.le_of_ble_eq_true rfl) (Nat.le_of_ble_eq_true rfl) hlocks hQ (rfl) (Nat.le_of_ble_eq_true rfl) (Nat.le_of_ble_eq_true rfl)

theorem lk_X8_nodes_cl124 : Cond.classLink RX8 124 "java/lang/IllegalArgumentException" ∈ wsX8_nodes := by decide +kernel
theorem lk_X8_nodes_ini_IllegalArgumentException : Cond.initialized "java/lang/IllegalArgumentException" ∈ wsX8_nodes := by decide +kernel
theorem hat_X8_nodes_128_IllegalArgumentException : ∀ w ∈ (vx_atS RX8 128 "java/lang/IllegalArgumentException" kChain).filter goodWord, w ∈ wsX8_nodes := by
  intro w hw
  unfold wsX8_nodes
  simp only [List.mem_cons, List.mem_append, hw, or_true, true_or]
abbrev rmX8_nodes_b1 : Room := { frames := 6, cells := 1, slots := 6, locals := 90 }
set_option maxHeartbeats 4000000 in
set_option maxRecDepth 100000 in
/-- X8_nodes_b1 -/
theorem kX8_nodes_b1 (l : Launch) (hst : l.stackTraces = false) (G : kG) (B0 : Nat) (f : kH) (h nn wL tA nc : Nat) (vs vd vg vw vm vp : Value) (r z : Nat → Nat) (M : Nat → Nat → Int64) (sz : Nat) (w e1 e2 : Nat → Nat) (a : Int32) (hM : kCs f [(h, .inr (8, [vs, vd, vg, vw, vm, vp, .ref nn]))]) (hN : kCs f (mxW G nn wL tA nc r z M)) (hz : mxZ z) (hwl : kWl G f (mxAs nn tA r) wL sz w e1 e2) (hnc : nc ≤ 6) (hnc1 : 1 ≤ nc) (hsz : sz ≤ 10) (he : ∀ k : Nat, k < sz → e1 k < nc ∧ e2 k < nc) (hh9 : h ∉ mxAs nn tA r) (hv : ¬ mRg a (2 : Nat) (6 : Nat)) : vx_Met l yX8_nodes wsX8_nodes (rmX8_nodes_b1) (kP G B0 f [.ref h, .int a]) kNo (kXC G B0 "java/lang/IllegalArgumentException" (fun f1 => f1 = f)) 1 6 (kAb B0) := by
  refine kMetX (cc := cX8_nodes) (maxL := 2) (ret := (some .int)) (by decide) rfl (Nat.le_of_ble_eq_true rfl) ?_
  intro p e s m args below meth c H locs Q ls C hX hl hr hlocks hnm hQ hout
  have hl : lv_has ls 2 [(0, .ref h), (1, .int a)] := hl
  refine lv_iload_n C.x C.b dX8_nodes_0 rfl (lv_at hl 1 rfl) ?_
  refine lv_iconst (v := nI 2) C.x C.b dX8_nodes_1 (by decide) ?_
  refine lv_icmp_lt (tgt := 11) C.x C.b dX8_nodes_2 (by decide) (fun c_2 => ?_) (fun c_2 => ?_)
  · skip
    exact k_thSW (cls := "java/lang/IllegalArgumentException") (text := "many is out of range") C hst hX hl.1 hout lk_X8_nodes_cl124 lk_X8_nodes_ini_IllegalArgumentException (by decide +kernel) (by decide) hat_X8_nodes_128_IllegalArgumentException hng_RX8_124_128_IllegalArgumentException dX8_nodes_11 dX8_nodes_14 dX8_nodes_15 dX8_nodes_18 dX8_nodes_21 (Nat.le_of_ble_eq_true rfl) (Nat.le_of_ble_eq_true rfl) (Nat.le_of_ble_eq_true rfl) (Nat.le_of_ble_eq_true rfl) hlocks hQ (rfl) (Nat.le_of_ble_eq_true rfl) (Nat.le_of_ble_eq_true rfl)
  · skip
    refine lv_iload_n C.x C.b dX8_nodes_5 rfl (lv_at hl 1 rfl) ?_
    refine lv_bipush (v := nI 6) C.x C.b dX8_nodes_6 (by decide) ?_
    refine lv_icmp_le (tgt := 22) C.x C.b dX8_nodes_8 (by decide) (fun c_8 => ?_) (fun c_8 => ?_)
    · skip
      exact absurd (mRg_of2 (j := 2) (k := 6) (by decide) (by decide) c_2 c_8) hv
    · skip
      exact k_thSW (cls := "java/lang/IllegalArgumentException") (text := "many is out of range") C hst hX hl.1 hout lk_X8_nodes_cl124 lk_X8_nodes_ini_IllegalArgumentException (by decide +kernel) (by decide) hat_X8_nodes_128_IllegalArgumentException hng_RX8_124_128_IllegalArgumentException dX8_nodes_11 dX8_nodes_14 dX8_nodes_15 dX8_nodes_18 dX8_nodes_21 (Nat.le_of_ble_eq_true rfl) (Nat.le_of_ble_eq_true rfl) (Nat.le_of_ble_eq_true rfl) (Nat.le_of_ble_eq_true rfl) hlocks hQ (rfl) (Nat.le_of_ble_eq_true rfl) (Nat.le_of_ble_eq_true rfl)

theorem lk_X8_wire_cl56 : Cond.classLink RX8 56 "java/lang/IndexOutOfBoundsException" ∈ wsX8_wire := by decide +kernel
theorem lk_X8_wire_ini_IndexOutOfBoundsException : Cond.initialized "java/lang/IndexOutOfBoundsException" ∈ wsX8_wire := by decide +kernel
theorem hat_X8_wire_60_IndexOutOfBoundsException : ∀ w ∈ (vx_atS RX8 60 "java/lang/IndexOutOfBoundsException" kChain).filter goodWord, w ∈ wsX8_wire := by
  intro w hw
  unfold wsX8_wire
  simp only [List.mem_cons, List.mem_append, hw, or_true, true_or]
abbrev rmX8_wire_b1 : Room := { frames := 6, cells := 1, slots := 6, locals := 90 }
set_option maxHeartbeats 4000000 in
set_option maxRecDepth 100000 in
/-- X8_wire_b1 -/
theorem kX8_wire_b1 (l : Launch) (hst : l.stackTraces = false) (G : kG) (B0 : Nat) (f : kH) (h nn wL tA nc : Nat) (vs vd vg vw vm vp : Value) (r z : Nat → Nat) (M : Nat → Nat → Int64) (sz : Nat) (w e1 e2 : Nat → Nat) (a b : Int32) (hM : kCs f [(h, .inr (8, [vs, vd, vg, vw, vm, vp, .ref nn]))]) (hN : kCs f (mxW G nn wL tA nc r z M)) (hz : mxZ z) (hwl : kWl G f (mxAs nn tA r) wL sz w e1 e2) (hnc : nc ≤ 6) (hnc1 : 1 ≤ nc) (hsz : sz ≤ 10) (he : ∀ k : Nat, k < sz → e1 k < nc ∧ e2 k < nc) (hh9 : h ∉ mxAs nn tA r) (hv : ¬ (mIn a nc ∧ mIn b nc)) : vx_Met l yX8_wire wsX8_wire (rmX8_wire_b1) (kP G B0 f [.ref h, .int a, .int b]) kNo (kXC G B0 "java/lang/IndexOutOfBoundsException" (fun f1 => f1 = f)) 1 6 (kAb B0) := by
  refine kMetX (cc := cX8_wire) (maxL := 3) (ret := (some .int)) (by decide) rfl (Nat.le_of_ble_eq_true rfl) ?_
  intro p e s m args below meth c H locs Q ls C hX hl hr hlocks hnm hQ hout
  have hl : lv_has ls 3 [(0, .ref h), (1, .int a), (2, .int b)] := hl
  refine lv_aload_n C.x C.b dX8_wire_0 rfl (lv_at hl 0 rfl) ?_
  refine k_get (X := RX8) (T := TX8) (N := 7) (v := .ref nn) C hX (hM.at 0 rfl) rfl hin_X8_wire_RX8 6 (by decide) lk_X8_wire_f48 (fun _ h9 => h9) rfl dX8_wire_1 ?_
  refine lv_iload_n C.x C.b dX8_wire_4 rfl (lv_at hl 1 rfl) ?_
  refine k_calli (va_runVN (As := [.int a]) (rest := []) C.1 (kX4_hasNode l G B0 f nn wL tA nc r z M a hN hz hnc) ⟨va_cnB 1 C.ts gX8_wire_X4_hasNode_n313 rfl rfl rfl (C.2.1.2.2.1 _ (show ((RX8, 313, yX4_hasNode, "Koebehall") : String × Nat × MethodName × String) ∈ kNestM by decide +kernel)) (C.ts _ lk_X8_wire_in_RX4) hdX8_wire_X4_hasNode ⟨Nat.le_of_ble_eq_true rfl, Nat.le_of_ble_eq_true rfl⟩, C.ts _ lk_X8_wire_im_X4_hasNode, C.ts _ lk_X8_wire_se_X4_hasNode⟩ (k_preV C hX (hN.at 0 rfl) rfl) rfl rfl hl.1 rfl (lv_room (Nat.le_of_ble_eq_true rfl)) dX8_wire_5 ⟨Nat.le_of_ble_eq_true rfl, Nat.le_of_ble_eq_true rfl⟩) hX (fun r5 f5 H locs hp5 hX => ?_)
  obtain ⟨hr5, hf5⟩ := hp5
  rw [hf5] at hX
  refine k_topi (y := (kbI (mIn a nc))) hr5 ?_
  refine lv_if_eq (tgt := 22) C.x C.b dX8_wire_8 (by decide) (fun c_8 => ?_) (fun c_8 => ?_)
  · skip
    have c_8 := kbI_0 c_8
    exact k_thSW (cls := "java/lang/IndexOutOfBoundsException") (text := "there is no such node") C hst hX hl.1 hout lk_X8_wire_cl56 lk_X8_wire_ini_IndexOutOfBoundsException (by decide +kernel) (by decide) hat_X8_wire_60_IndexOutOfBoundsException hng_RX8_56_60_IndexOutOfBoundsException dX8_wire_22 dX8_wire_25 dX8_wire_26 dX8_wire_29 dX8_wire_32 (Nat.le_of_ble_eq_true rfl) (Nat.le_of_ble_eq_true rfl) (Nat.le_of_ble_eq_true rfl) (Nat.le_of_ble_eq_true rfl) hlocks hQ (rfl) (Nat.le_of_ble_eq_true rfl) (Nat.le_of_ble_eq_true rfl)
  · skip
    have c_8 := kbI_1 c_8
    refine lv_aload_n C.x C.b dX8_wire_11 rfl (lv_at hl 0 rfl) ?_
    refine k_get (X := RX8) (T := TX8) (N := 7) (v := .ref nn) C hX (hM.at 0 rfl) rfl hin_X8_wire_RX8 6 (by decide) lk_X8_wire_f48 (fun _ h9 => h9) rfl dX8_wire_12 ?_
    refine lv_iload_n C.x C.b dX8_wire_15 rfl (lv_at hl 2 rfl) ?_
    refine k_calli (va_runVN (As := [.int b]) (rest := []) C.1 (kX4_hasNode l G B0 f nn wL tA nc r z M b hN hz hnc) ⟨va_cnB 1 C.ts gX8_wire_X4_hasNode_n313 rfl rfl rfl (C.2.1.2.2.1 _ (show ((RX8, 313, yX4_hasNode, "Koebehall") : String × Nat × MethodName × String) ∈ kNestM by decide +kernel)) (C.ts _ lk_X8_wire_in_RX4) hdX8_wire_X4_hasNode ⟨Nat.le_of_ble_eq_true rfl, Nat.le_of_ble_eq_true rfl⟩, C.ts _ lk_X8_wire_im_X4_hasNode, C.ts _ lk_X8_wire_se_X4_hasNode⟩ (k_preV C hX (hN.at 0 rfl) rfl) rfl rfl hl.1 rfl (lv_room (Nat.le_of_ble_eq_true rfl)) dX8_wire_16 ⟨Nat.le_of_ble_eq_true rfl, Nat.le_of_ble_eq_true rfl⟩) hX (fun r16 f16 H locs hp16 hX => ?_)
    obtain ⟨hr16, hf16⟩ := hp16
    rw [hf16] at hX
    refine k_topi (y := (kbI (mIn b nc))) hr16 ?_
    refine lv_if_ne (tgt := 33) C.x C.b dX8_wire_19 (by decide) (fun c_19 => ?_) (fun c_19 => ?_)
    · skip
      have c_19 := kbI_1 c_19
      exact absurd ⟨c_8, c_19⟩ hv
    · skip
      have c_19 := kbI_0 c_19
      exact k_thSW (cls := "java/lang/IndexOutOfBoundsException") (text := "there is no such node") C hst hX hl.1 hout lk_X8_wire_cl56 lk_X8_wire_ini_IndexOutOfBoundsException (by decide +kernel) (by decide) hat_X8_wire_60_IndexOutOfBoundsException hng_RX8_56_60_IndexOutOfBoundsException dX8_wire_22 dX8_wire_25 dX8_wire_26 dX8_wire_29 dX8_wire_32 (Nat.le_of_ble_eq_true rfl) (Nat.le_of_ble_eq_true rfl) (Nat.le_of_ble_eq_true rfl) (Nat.le_of_ble_eq_true rfl) hlocks hQ (rfl) (Nat.le_of_ble_eq_true rfl) (Nat.le_of_ble_eq_true rfl)

theorem lk_X8_wire_cl124 : Cond.classLink RX8 124 "java/lang/IllegalArgumentException" ∈ wsX8_wire := by decide +kernel
theorem lk_X8_wire_ini_IllegalArgumentException : Cond.initialized "java/lang/IllegalArgumentException" ∈ wsX8_wire := by decide +kernel
theorem hat_X8_wire_128_IllegalArgumentException : ∀ w ∈ (vx_atS RX8 128 "java/lang/IllegalArgumentException" kChain).filter goodWord, w ∈ wsX8_wire := by
  intro w hw
  unfold wsX8_wire
  simp only [List.mem_cons, List.mem_append, hw, or_true, true_or]
abbrev rmX8_wire_b2 : Room := { frames := 6, cells := 1, slots := 6, locals := 90 }
set_option maxHeartbeats 4000000 in
set_option maxRecDepth 100000 in
/-- X8_wire_b2 -/
theorem kX8_wire_b2 (l : Launch) (hst : l.stackTraces = false) (G : kG) (B0 : Nat) (f : kH) (h nn wL tA nc : Nat) (vs vd vg vw vm vp : Value) (r z : Nat → Nat) (M : Nat → Nat → Int64) (sz : Nat) (w e1 e2 : Nat → Nat) (a b : Int32) (hM : kCs f [(h, .inr (8, [vs, vd, vg, vw, vm, vp, .ref nn]))]) (hN : kCs f (mxW G nn wL tA nc r z M)) (hz : mxZ z) (hwl : kWl G f (mxAs nn tA r) wL sz w e1 e2) (hnc : nc ≤ 6) (hnc1 : 1 ≤ nc) (hsz : sz ≤ 10) (he : ∀ k : Nat, k < sz → e1 k < nc ∧ e2 k < nc) (hh9 : h ∉ mxAs nn tA r) (hv : mIn a nc ∧ mIn b nc) (hab : a = b) : vx_Met l yX8_wire wsX8_wire (rmX8_wire_b2) (kP G B0 f [.ref h, .int a, .int b]) kNo (kXC G B0 "java/lang/IllegalArgumentException" (fun f1 => f1 = f)) 1 6 (kAb B0) := by
  refine kMetX (cc := cX8_wire) (maxL := 3) (ret := (some .int)) (by decide) rfl (Nat.le_of_ble_eq_true rfl) ?_
  intro p e s m args below meth c H locs Q ls C hX hl hr hlocks hnm hQ hout
  have hl : lv_has ls 3 [(0, .ref h), (1, .int a), (2, .int b)] := hl
  refine lv_aload_n C.x C.b dX8_wire_0 rfl (lv_at hl 0 rfl) ?_
  refine k_get (X := RX8) (T := TX8) (N := 7) (v := .ref nn) C hX (hM.at 0 rfl) rfl hin_X8_wire_RX8 6 (by decide) lk_X8_wire_f48 (fun _ h9 => h9) rfl dX8_wire_1 ?_
  refine lv_iload_n C.x C.b dX8_wire_4 rfl (lv_at hl 1 rfl) ?_
  refine k_calli (va_runVN (As := [.int a]) (rest := []) C.1 (kX4_hasNode l G B0 f nn wL tA nc r z M a hN hz hnc) ⟨va_cnB 1 C.ts gX8_wire_X4_hasNode_n313 rfl rfl rfl (C.2.1.2.2.1 _ (show ((RX8, 313, yX4_hasNode, "Koebehall") : String × Nat × MethodName × String) ∈ kNestM by decide +kernel)) (C.ts _ lk_X8_wire_in_RX4) hdX8_wire_X4_hasNode ⟨Nat.le_of_ble_eq_true rfl, Nat.le_of_ble_eq_true rfl⟩, C.ts _ lk_X8_wire_im_X4_hasNode, C.ts _ lk_X8_wire_se_X4_hasNode⟩ (k_preV C hX (hN.at 0 rfl) rfl) rfl rfl hl.1 rfl (lv_room (Nat.le_of_ble_eq_true rfl)) dX8_wire_5 ⟨Nat.le_of_ble_eq_true rfl, Nat.le_of_ble_eq_true rfl⟩) hX (fun r5 f5 H locs hp5 hX => ?_)
  obtain ⟨hr5, hf5⟩ := hp5
  rw [hf5] at hX
  refine k_topi (y := (kbI (mIn a nc))) hr5 ?_
  refine lv_if_eq (tgt := 22) C.x C.b dX8_wire_8 (by decide) (fun c_8 => ?_) (fun c_8 => ?_)
  · exact absurd (hv.1) (kbI_0 c_8)
  refine lv_aload_n C.x C.b dX8_wire_11 rfl (lv_at hl 0 rfl) ?_
  refine k_get (X := RX8) (T := TX8) (N := 7) (v := .ref nn) C hX (hM.at 0 rfl) rfl hin_X8_wire_RX8 6 (by decide) lk_X8_wire_f48 (fun _ h9 => h9) rfl dX8_wire_12 ?_
  refine lv_iload_n C.x C.b dX8_wire_15 rfl (lv_at hl 2 rfl) ?_
  refine k_calli (va_runVN (As := [.int b]) (rest := []) C.1 (kX4_hasNode l G B0 f nn wL tA nc r z M b hN hz hnc) ⟨va_cnB 1 C.ts gX8_wire_X4_hasNode_n313 rfl rfl rfl (C.2.1.2.2.1 _ (show ((RX8, 313, yX4_hasNode, "Koebehall") : String × Nat × MethodName × String) ∈ kNestM by decide +kernel)) (C.ts _ lk_X8_wire_in_RX4) hdX8_wire_X4_hasNode ⟨Nat.le_of_ble_eq_true rfl, Nat.le_of_ble_eq_true rfl⟩, C.ts _ lk_X8_wire_im_X4_hasNode, C.ts _ lk_X8_wire_se_X4_hasNode⟩ (k_preV C hX (hN.at 0 rfl) rfl) rfl rfl hl.1 rfl (lv_room (Nat.le_of_ble_eq_true rfl)) dX8_wire_16 ⟨Nat.le_of_ble_eq_true rfl, Nat.le_of_ble_eq_true rfl⟩) hX (fun r16 f16 H locs hp16 hX => ?_)
  obtain ⟨hr16, hf16⟩ := hp16
  rw [hf16] at hX
  refine k_topi (y := (kbI (mIn b nc))) hr16 ?_
  refine lv_if_ne (tgt := 33) C.x C.b dX8_wire_19 (by decide) (fun c_19 => ?_) (fun c_19 => ?_)
  rotate_left
  · exact absurd (hv.2) (kbI_0 c_19)
  refine lv_iload_n C.x C.b dX8_wire_33 rfl (lv_at hl 1 rfl) ?_
  refine lv_iload_n C.x C.b dX8_wire_34 rfl (lv_at hl 2 rfl) ?_
  refine lv_icmp_ne (tgt := 48) C.x C.b dX8_wire_35 (by decide) (fun c_35 => ?_) (fun c_35 => ?_)
  · skip
    exact absurd hab c_35
  exact k_thS (cls := "java/lang/IllegalArgumentException") (text := "both are the same") C hst hX hl.1 hout lk_X8_wire_cl124 lk_X8_wire_ini_IllegalArgumentException (by decide +kernel) (by decide) hat_X8_wire_128_IllegalArgumentException hng_RX8_124_128_IllegalArgumentException dX8_wire_38 dX8_wire_41 dX8_wire_42 dX8_wire_44 dX8_wire_47 (Nat.le_of_ble_eq_true rfl) (Nat.le_of_ble_eq_true rfl) (Nat.le_of_ble_eq_true rfl) (Nat.le_of_ble_eq_true rfl) hlocks hQ (rfl) (Nat.le_of_ble_eq_true rfl) (Nat.le_of_ble_eq_true rfl)

theorem lk_X8_wire_cl67 : Cond.classLink RX8 67 "java/lang/IllegalStateException" ∈ wsX8_wire := by decide +kernel
theorem lk_X8_wire_ini_IllegalStateException : Cond.initialized "java/lang/IllegalStateException" ∈ wsX8_wire := by decide +kernel
theorem hat_X8_wire_71_IllegalStateException : ∀ w ∈ (vx_atS RX8 71 "java/lang/IllegalStateException" kChain).filter goodWord, w ∈ wsX8_wire := by
  intro w hw
  unfold wsX8_wire
  simp only [List.mem_cons, List.mem_append, hw, or_true, true_or]
abbrev rmX8_wire_b3 : Room := { frames := 6, cells := 1, slots := 6, locals := 90 }
set_option maxHeartbeats 4000000 in
set_option maxRecDepth 100000 in
/-- X8_wire_b3 -/
theorem kX8_wire_b3 (l : Launch) (hst : l.stackTraces = false) (G : kG) (B0 : Nat) (f : kH) (h nn wL tA nc : Nat) (vs vd vg vw vm vp : Value) (r z : Nat → Nat) (M : Nat → Nat → Int64) (sz : Nat) (w e1 e2 : Nat → Nat) (a b : Int32) (hM : kCs f [(h, .inr (8, [vs, vd, vg, vw, vm, vp, .ref nn]))]) (hN : kCs f (mxW G nn wL tA nc r z M)) (hz : mxZ z) (hwl : kWl G f (mxAs nn tA r) wL sz w e1 e2) (hnc : nc ≤ 6) (hnc1 : 1 ≤ nc) (hsz : sz ≤ 10) (he : ∀ k : Nat, k < sz → e1 k < nc ∧ e2 k < nc) (hh9 : h ∉ mxAs nn tA r) (hv : mIn a nc ∧ mIn b nc) (hab : ¬ a = b) (hf : 10 ≤ sz) : vx_Met l yX8_wire wsX8_wire (rmX8_wire_b3) (kP G B0 f [.ref h, .int a, .int b]) kNo (kXC G B0 "java/lang/IllegalStateException" (fun f1 => f1 = f)) 1 6 (kAb B0) := by
  refine kMetX (cc := cX8_wire) (maxL := 3) (ret := (some .int)) (by decide) rfl (Nat.le_of_ble_eq_true rfl) ?_
  intro p e s m args below meth c H locs Q ls C hX hl hr hlocks hnm hQ hout
  have hl : lv_has ls 3 [(0, .ref h), (1, .int a), (2, .int b)] := hl
  refine lv_aload_n C.x C.b dX8_wire_0 rfl (lv_at hl 0 rfl) ?_
  refine k_get (X := RX8) (T := TX8) (N := 7) (v := .ref nn) C hX (hM.at 0 rfl) rfl hin_X8_wire_RX8 6 (by decide) lk_X8_wire_f48 (fun _ h9 => h9) rfl dX8_wire_1 ?_
  refine lv_iload_n C.x C.b dX8_wire_4 rfl (lv_at hl 1 rfl) ?_
  refine k_calli (va_runVN (As := [.int a]) (rest := []) C.1 (kX4_hasNode l G B0 f nn wL tA nc r z M a hN hz hnc) ⟨va_cnB 1 C.ts gX8_wire_X4_hasNode_n313 rfl rfl rfl (C.2.1.2.2.1 _ (show ((RX8, 313, yX4_hasNode, "Koebehall") : String × Nat × MethodName × String) ∈ kNestM by decide +kernel)) (C.ts _ lk_X8_wire_in_RX4) hdX8_wire_X4_hasNode ⟨Nat.le_of_ble_eq_true rfl, Nat.le_of_ble_eq_true rfl⟩, C.ts _ lk_X8_wire_im_X4_hasNode, C.ts _ lk_X8_wire_se_X4_hasNode⟩ (k_preV C hX (hN.at 0 rfl) rfl) rfl rfl hl.1 rfl (lv_room (Nat.le_of_ble_eq_true rfl)) dX8_wire_5 ⟨Nat.le_of_ble_eq_true rfl, Nat.le_of_ble_eq_true rfl⟩) hX (fun r5 f5 H locs hp5 hX => ?_)
  obtain ⟨hr5, hf5⟩ := hp5
  rw [hf5] at hX
  refine k_topi (y := (kbI (mIn a nc))) hr5 ?_
  refine lv_if_eq (tgt := 22) C.x C.b dX8_wire_8 (by decide) (fun c_8 => ?_) (fun c_8 => ?_)
  · exact absurd (hv.1) (kbI_0 c_8)
  refine lv_aload_n C.x C.b dX8_wire_11 rfl (lv_at hl 0 rfl) ?_
  refine k_get (X := RX8) (T := TX8) (N := 7) (v := .ref nn) C hX (hM.at 0 rfl) rfl hin_X8_wire_RX8 6 (by decide) lk_X8_wire_f48 (fun _ h9 => h9) rfl dX8_wire_12 ?_
  refine lv_iload_n C.x C.b dX8_wire_15 rfl (lv_at hl 2 rfl) ?_
  refine k_calli (va_runVN (As := [.int b]) (rest := []) C.1 (kX4_hasNode l G B0 f nn wL tA nc r z M b hN hz hnc) ⟨va_cnB 1 C.ts gX8_wire_X4_hasNode_n313 rfl rfl rfl (C.2.1.2.2.1 _ (show ((RX8, 313, yX4_hasNode, "Koebehall") : String × Nat × MethodName × String) ∈ kNestM by decide +kernel)) (C.ts _ lk_X8_wire_in_RX4) hdX8_wire_X4_hasNode ⟨Nat.le_of_ble_eq_true rfl, Nat.le_of_ble_eq_true rfl⟩, C.ts _ lk_X8_wire_im_X4_hasNode, C.ts _ lk_X8_wire_se_X4_hasNode⟩ (k_preV C hX (hN.at 0 rfl) rfl) rfl rfl hl.1 rfl (lv_room (Nat.le_of_ble_eq_true rfl)) dX8_wire_16 ⟨Nat.le_of_ble_eq_true rfl, Nat.le_of_ble_eq_true rfl⟩) hX (fun r16 f16 H locs hp16 hX => ?_)
  obtain ⟨hr16, hf16⟩ := hp16
  rw [hf16] at hX
  refine k_topi (y := (kbI (mIn b nc))) hr16 ?_
  refine lv_if_ne (tgt := 33) C.x C.b dX8_wire_19 (by decide) (fun c_19 => ?_) (fun c_19 => ?_)
  rotate_left
  · exact absurd (hv.2) (kbI_0 c_19)
  refine lv_iload_n C.x C.b dX8_wire_33 rfl (lv_at hl 1 rfl) ?_
  refine lv_iload_n C.x C.b dX8_wire_34 rfl (lv_at hl 2 rfl) ?_
  refine lv_icmp_ne (tgt := 48) C.x C.b dX8_wire_35 (by decide) (fun c_35 => ?_) (fun c_35 => ?_)
  rotate_left
  · skip
    exact absurd c_35 hab
  refine lv_aload_n C.x C.b dX8_wire_48 rfl (lv_at hl 0 rfl) ?_
  refine k_get (X := RX8) (T := TX8) (N := 7) (v := .ref nn) C hX (hM.at 0 rfl) rfl hin_X8_wire_RX8 6 (by decide) lk_X8_wire_f48 (fun _ h9 => h9) rfl dX8_wire_49 ?_
  refine k_getN (host := "Koebehall") (X := RX4) (T := TX4) (N := 3) (v := .ref wL) C hX (hN.at 0 rfl) rfl hin_X8_wire_RX4 0 (by decide) (by decide +kernel) (fun _ h9 => h9) rfl dX8_wire_52 ?_
  refine k_calli (va_runV (As := []) (rest := []) C.1 (kSizeW l G B0 f hwl) (cwV 0 C.ts gX8_wire_Jx4a65c_size_8abf5 rfl rfl rfl ⟨rfl, hdX8_wire_Jx4a65c_size_8abf5⟩ ⟨Nat.le_of_ble_eq_true rfl, Nat.le_of_ble_eq_true rfl⟩) (k_preV C hX (hwl.list.choose_spec) rfl) rfl rfl hl.1 rfl (lv_room (Nat.le_of_ble_eq_true rfl)) dX8_wire_55 ⟨Nat.le_of_ble_eq_true rfl, Nat.le_of_ble_eq_true rfl⟩) hX (fun r55 f55 H locs hp55 hX => ?_)
  obtain ⟨hr55, hf55⟩ := hp55
  rw [hf55] at hX
  refine k_topi (y := (nI sz)) hr55 ?_
  refine lv_bipush (v := nI 10) C.x C.b dX8_wire_58 (by decide) ?_
  refine lv_icmp_lt (tgt := 74) C.x C.b dX8_wire_60 (by decide) (fun c_60 => ?_) (fun c_60 => ?_)
  · skip
    have c_60 : sz < 10 := (nI_ltI (by omega) (by omega)).mp c_60
    omega
  have c_60 : ¬ (sz < 10) := fun h9 => c_60 ((nI_ltI (by omega) (by omega)).mpr h9)
  exact k_thSW (cls := "java/lang/IllegalStateException") (text := "there are 10") C hst hX hl.1 hout lk_X8_wire_cl67 lk_X8_wire_ini_IllegalStateException (by decide +kernel) (by decide) hat_X8_wire_71_IllegalStateException hng_RX8_67_71_IllegalStateException dX8_wire_63 dX8_wire_66 dX8_wire_67 dX8_wire_70 dX8_wire_73 (Nat.le_of_ble_eq_true rfl) (Nat.le_of_ble_eq_true rfl) (Nat.le_of_ble_eq_true rfl) (Nat.le_of_ble_eq_true rfl) hlocks hQ (rfl) (Nat.le_of_ble_eq_true rfl) (Nat.le_of_ble_eq_true rfl)

theorem lk_X8_side_cl56 : Cond.classLink RX8 56 "java/lang/IndexOutOfBoundsException" ∈ wsX8_side := by decide +kernel
theorem lk_X8_side_ini_IndexOutOfBoundsException : Cond.initialized "java/lang/IndexOutOfBoundsException" ∈ wsX8_side := by decide +kernel
theorem hat_X8_side_60_IndexOutOfBoundsException : ∀ w ∈ (vx_atS RX8 60 "java/lang/IndexOutOfBoundsException" kChain).filter goodWord, w ∈ wsX8_side := by
  intro w hw
  unfold wsX8_side
  simp only [List.mem_cons, List.mem_append, hw, or_true, true_or]
abbrev rmX8_side_b1 : Room := { frames := 6, cells := 1, slots := 6, locals := 90 }
set_option maxHeartbeats 4000000 in
set_option maxRecDepth 100000 in
/-- X8_side_b1 -/
theorem kX8_side_b1 (l : Launch) (hst : l.stackTraces = false) (G : kG) (B0 : Nat) (f : kH) (h nn wL tA nc : Nat) (vs vd vg vw vm vp : Value) (r z : Nat → Nat) (M : Nat → Nat → Int64) (sz : Nat) (w e1 e2 : Nat → Nat) (a b k9 : Int32) (hM : kCs f [(h, .inr (8, [vs, vd, vg, vw, vm, vp, .ref nn]))]) (hN : kCs f (mxW G nn wL tA nc r z M)) (hz : mxZ z) (hwl : kWl G f (mxAs nn tA r) wL sz w e1 e2) (hnc : nc ≤ 6) (hnc1 : 1 ≤ nc) (hsz : sz ≤ 10) (he : ∀ k : Nat, k < sz → e1 k < nc ∧ e2 k < nc) (hh9 : h ∉ mxAs nn tA r) (hv : ¬ (mIn a nc ∧ mIn b nc ∧ (k9 = -1 ∨ mIn k9 sz))) : vx_Met l yX8_side wsX8_side (rmX8_side_b1) (kP G B0 f [.ref h, .int a, .int b, .int k9]) kNo (kXC G B0 "java/lang/IndexOutOfBoundsException" (fun f1 => f1 = f)) 1 6 (kAb B0) := by
  refine kMetX (cc := cX8_side) (maxL := 4) (ret := (some .int)) (by decide) rfl (Nat.le_of_ble_eq_true rfl) ?_
  intro p e s m args below meth c H locs Q ls C hX hl hr hlocks hnm hQ hout
  have hl : lv_has ls 4 [(0, .ref h), (1, .int a), (2, .int b), (3, .int k9)] := hl
  refine lv_aload_n C.x C.b dX8_side_0 rfl (lv_at hl 0 rfl) ?_
  refine k_get (X := RX8) (T := TX8) (N := 7) (v := .ref nn) C hX (hM.at 0 rfl) rfl hin_X8_side_RX8 6 (by decide) lk_X8_side_f48 (fun _ h9 => h9) rfl dX8_side_1 ?_
  refine lv_iload_n C.x C.b dX8_side_4 rfl (lv_at hl 1 rfl) ?_
  refine k_calli (va_runVN (As := [.int a]) (rest := []) C.1 (kX4_hasNode l G B0 f nn wL tA nc r z M a hN hz hnc) ⟨va_cnB 1 C.ts gX8_side_X4_hasNode_n313 rfl rfl rfl (C.2.1.2.2.1 _ (show ((RX8, 313, yX4_hasNode, "Koebehall") : String × Nat × MethodName × String) ∈ kNestM by decide +kernel)) (C.ts _ lk_X8_side_in_RX4) hdX8_side_X4_hasNode ⟨Nat.le_of_ble_eq_true rfl, Nat.le_of_ble_eq_true rfl⟩, C.ts _ lk_X8_side_im_X4_hasNode, C.ts _ lk_X8_side_se_X4_hasNode⟩ (k_preV C hX (hN.at 0 rfl) rfl) rfl rfl hl.1 rfl (lv_room (Nat.le_of_ble_eq_true rfl)) dX8_side_5 ⟨Nat.le_of_ble_eq_true rfl, Nat.le_of_ble_eq_true rfl⟩) hX (fun r5 f5 H locs hp5 hX => ?_)
  obtain ⟨hr5, hf5⟩ := hp5
  rw [hf5] at hX
  refine k_topi (y := (kbI (mIn a nc))) hr5 ?_
  refine lv_if_eq (tgt := 22) C.x C.b dX8_side_8 (by decide) (fun c_8 => ?_) (fun c_8 => ?_)
  · skip
    have c_8 := kbI_0 c_8
    exact k_thSW (cls := "java/lang/IndexOutOfBoundsException") (text := "there is no such node") C hst hX hl.1 hout lk_X8_side_cl56 lk_X8_side_ini_IndexOutOfBoundsException (by decide +kernel) (by decide) hat_X8_side_60_IndexOutOfBoundsException hng_RX8_56_60_IndexOutOfBoundsException dX8_side_22 dX8_side_25 dX8_side_26 dX8_side_29 dX8_side_32 (Nat.le_of_ble_eq_true rfl) (Nat.le_of_ble_eq_true rfl) (Nat.le_of_ble_eq_true rfl) (Nat.le_of_ble_eq_true rfl) hlocks hQ (rfl) (Nat.le_of_ble_eq_true rfl) (Nat.le_of_ble_eq_true rfl)
  · skip
    have c_8 := kbI_1 c_8
    refine lv_aload_n C.x C.b dX8_side_11 rfl (lv_at hl 0 rfl) ?_
    refine k_get (X := RX8) (T := TX8) (N := 7) (v := .ref nn) C hX (hM.at 0 rfl) rfl hin_X8_side_RX8 6 (by decide) lk_X8_side_f48 (fun _ h9 => h9) rfl dX8_side_12 ?_
    refine lv_iload_n C.x C.b dX8_side_15 rfl (lv_at hl 2 rfl) ?_
    refine k_calli (va_runVN (As := [.int b]) (rest := []) C.1 (kX4_hasNode l G B0 f nn wL tA nc r z M b hN hz hnc) ⟨va_cnB 1 C.ts gX8_side_X4_hasNode_n313 rfl rfl rfl (C.2.1.2.2.1 _ (show ((RX8, 313, yX4_hasNode, "Koebehall") : String × Nat × MethodName × String) ∈ kNestM by decide +kernel)) (C.ts _ lk_X8_side_in_RX4) hdX8_side_X4_hasNode ⟨Nat.le_of_ble_eq_true rfl, Nat.le_of_ble_eq_true rfl⟩, C.ts _ lk_X8_side_im_X4_hasNode, C.ts _ lk_X8_side_se_X4_hasNode⟩ (k_preV C hX (hN.at 0 rfl) rfl) rfl rfl hl.1 rfl (lv_room (Nat.le_of_ble_eq_true rfl)) dX8_side_16 ⟨Nat.le_of_ble_eq_true rfl, Nat.le_of_ble_eq_true rfl⟩) hX (fun r16 f16 H locs hp16 hX => ?_)
    obtain ⟨hr16, hf16⟩ := hp16
    rw [hf16] at hX
    refine k_topi (y := (kbI (mIn b nc))) hr16 ?_
    refine lv_if_ne (tgt := 33) C.x C.b dX8_side_19 (by decide) (fun c_19 => ?_) (fun c_19 => ?_)
    · skip
      have c_19 := kbI_1 c_19
      refine lv_iload_n C.x C.b dX8_side_33 rfl (lv_at hl 3 rfl) ?_
      refine lv_iconst (v := -1) C.x C.b dX8_side_34 (by decide) ?_
      refine lv_icmp_eq (tgt := 60) C.x C.b dX8_side_35 (by decide) (fun c_35 => ?_) (fun c_35 => ?_)
      · skip
        exact absurd ⟨c_8, c_19, Or.inl c_35⟩ hv
      · skip
        refine lv_aload_n C.x C.b dX8_side_38 rfl (lv_at hl 0 rfl) ?_
        refine k_get (X := RX8) (T := TX8) (N := 7) (v := .ref nn) C hX (hM.at 0 rfl) rfl hin_X8_side_RX8 6 (by decide) lk_X8_side_f48 (fun _ h9 => h9) rfl dX8_side_39 ?_
        refine lv_iload_n C.x C.b dX8_side_42 rfl (lv_at hl 3 rfl) ?_
        refine k_calli (va_runVN (As := [.int k9]) (rest := []) C.1 (kX4_hasWire l G B0 f nn wL tA nc r z M sz w e1 e2 k9 hN hz hwl hnc hnc1 hsz he) ⟨va_cnB 1 C.ts gX8_side_X4_hasWire_n333 rfl rfl rfl (C.2.1.2.2.1 _ (show ((RX8, 333, yX4_hasWire, "Koebehall") : String × Nat × MethodName × String) ∈ kNestM by decide +kernel)) (C.ts _ lk_X8_side_in_RX4) hdX8_side_X4_hasWire ⟨Nat.le_of_ble_eq_true rfl, Nat.le_of_ble_eq_true rfl⟩, C.ts _ lk_X8_side_im_X4_hasWire, C.ts _ lk_X8_side_se_X4_hasWire⟩ (k_preV C hX (hN.at 0 rfl) rfl) rfl rfl hl.1 rfl (lv_room (Nat.le_of_ble_eq_true rfl)) dX8_side_43 ⟨Nat.le_of_ble_eq_true rfl, Nat.le_of_ble_eq_true rfl⟩) hX (fun r43 f43 H locs hp43 hX => ?_)
        obtain ⟨hr43, hf43⟩ := hp43
        rw [hf43] at hX
        refine k_topi (y := (kbI (mIn k9 sz))) hr43 ?_
        refine lv_if_ne (tgt := 60) C.x C.b dX8_side_46 (by decide) (fun c_46 => ?_) (fun c_46 => ?_)
        · skip
          have c_46 := kbI_1 c_46
          exact absurd ⟨c_8, c_19, Or.inr c_46⟩ hv
        · skip
          have c_46 := kbI_0 c_46
          exact k_thSW (cls := "java/lang/IndexOutOfBoundsException") (text := "there is no such wire") C hst hX hl.1 hout lk_X8_side_cl56 lk_X8_side_ini_IndexOutOfBoundsException (by decide +kernel) (by decide) hat_X8_side_60_IndexOutOfBoundsException hng_RX8_56_60_IndexOutOfBoundsException dX8_side_49 dX8_side_52 dX8_side_53 dX8_side_56 dX8_side_59 (Nat.le_of_ble_eq_true rfl) (Nat.le_of_ble_eq_true rfl) (Nat.le_of_ble_eq_true rfl) (Nat.le_of_ble_eq_true rfl) hlocks hQ (rfl) (Nat.le_of_ble_eq_true rfl) (Nat.le_of_ble_eq_true rfl)
    · skip
      have c_19 := kbI_0 c_19
      exact k_thSW (cls := "java/lang/IndexOutOfBoundsException") (text := "there is no such node") C hst hX hl.1 hout lk_X8_side_cl56 lk_X8_side_ini_IndexOutOfBoundsException (by decide +kernel) (by decide) hat_X8_side_60_IndexOutOfBoundsException hng_RX8_56_60_IndexOutOfBoundsException dX8_side_22 dX8_side_25 dX8_side_26 dX8_side_29 dX8_side_32 (Nat.le_of_ble_eq_true rfl) (Nat.le_of_ble_eq_true rfl) (Nat.le_of_ble_eq_true rfl) (Nat.le_of_ble_eq_true rfl) hlocks hQ (rfl) (Nat.le_of_ble_eq_true rfl) (Nat.le_of_ble_eq_true rfl)

theorem lk_X8_side_cl124 : Cond.classLink RX8 124 "java/lang/IllegalArgumentException" ∈ wsX8_side := by decide +kernel
theorem lk_X8_side_ini_IllegalArgumentException : Cond.initialized "java/lang/IllegalArgumentException" ∈ wsX8_side := by decide +kernel
theorem hat_X8_side_128_IllegalArgumentException : ∀ w ∈ (vx_atS RX8 128 "java/lang/IllegalArgumentException" kChain).filter goodWord, w ∈ wsX8_side := by
  intro w hw
  unfold wsX8_side
  simp only [List.mem_cons, List.mem_append, hw, or_true, true_or]
abbrev rmX8_side_b2 : Room := { frames := 6, cells := 1, slots := 6, locals := 90 }
set_option maxHeartbeats 4000000 in
set_option maxRecDepth 100000 in
/-- X8_side_b2 -/
theorem kX8_side_b2 (l : Launch) (hst : l.stackTraces = false) (G : kG) (B0 : Nat) (f : kH) (h nn wL tA nc : Nat) (vs vd vg vw vm vp : Value) (r z : Nat → Nat) (M : Nat → Nat → Int64) (sz : Nat) (w e1 e2 : Nat → Nat) (a b k9 : Int32) (hM : kCs f [(h, .inr (8, [vs, vd, vg, vw, vm, vp, .ref nn]))]) (hN : kCs f (mxW G nn wL tA nc r z M)) (hz : mxZ z) (hwl : kWl G f (mxAs nn tA r) wL sz w e1 e2) (hnc : nc ≤ 6) (hnc1 : 1 ≤ nc) (hsz : sz ≤ 10) (he : ∀ k : Nat, k < sz → e1 k < nc ∧ e2 k < nc) (hh9 : h ∉ mxAs nn tA r) (hv : mIn a nc ∧ mIn b nc ∧ (k9 = -1 ∨ mIn k9 sz)) (hab : a = b) : vx_Met l yX8_side wsX8_side (rmX8_side_b2) (kP G B0 f [.ref h, .int a, .int b, .int k9]) kNo (kXC G B0 "java/lang/IllegalArgumentException" (fun f1 => f1 = f)) 1 6 (kAb B0) := by
  refine kMetX (cc := cX8_side) (maxL := 4) (ret := (some .int)) (by decide) rfl (Nat.le_of_ble_eq_true rfl) ?_
  intro p e s m args below meth c H locs Q ls C hX hl hr hlocks hnm hQ hout
  have hl : lv_has ls 4 [(0, .ref h), (1, .int a), (2, .int b), (3, .int k9)] := hl
  refine lv_aload_n C.x C.b dX8_side_0 rfl (lv_at hl 0 rfl) ?_
  refine k_get (X := RX8) (T := TX8) (N := 7) (v := .ref nn) C hX (hM.at 0 rfl) rfl hin_X8_side_RX8 6 (by decide) lk_X8_side_f48 (fun _ h9 => h9) rfl dX8_side_1 ?_
  refine lv_iload_n C.x C.b dX8_side_4 rfl (lv_at hl 1 rfl) ?_
  refine k_calli (va_runVN (As := [.int a]) (rest := []) C.1 (kX4_hasNode l G B0 f nn wL tA nc r z M a hN hz hnc) ⟨va_cnB 1 C.ts gX8_side_X4_hasNode_n313 rfl rfl rfl (C.2.1.2.2.1 _ (show ((RX8, 313, yX4_hasNode, "Koebehall") : String × Nat × MethodName × String) ∈ kNestM by decide +kernel)) (C.ts _ lk_X8_side_in_RX4) hdX8_side_X4_hasNode ⟨Nat.le_of_ble_eq_true rfl, Nat.le_of_ble_eq_true rfl⟩, C.ts _ lk_X8_side_im_X4_hasNode, C.ts _ lk_X8_side_se_X4_hasNode⟩ (k_preV C hX (hN.at 0 rfl) rfl) rfl rfl hl.1 rfl (lv_room (Nat.le_of_ble_eq_true rfl)) dX8_side_5 ⟨Nat.le_of_ble_eq_true rfl, Nat.le_of_ble_eq_true rfl⟩) hX (fun r5 f5 H locs hp5 hX => ?_)
  obtain ⟨hr5, hf5⟩ := hp5
  rw [hf5] at hX
  refine k_topi (y := (kbI (mIn a nc))) hr5 ?_
  refine lv_if_eq (tgt := 22) C.x C.b dX8_side_8 (by decide) (fun c_8 => ?_) (fun c_8 => ?_)
  · exact absurd (hv.1) (kbI_0 c_8)
  refine lv_aload_n C.x C.b dX8_side_11 rfl (lv_at hl 0 rfl) ?_
  refine k_get (X := RX8) (T := TX8) (N := 7) (v := .ref nn) C hX (hM.at 0 rfl) rfl hin_X8_side_RX8 6 (by decide) lk_X8_side_f48 (fun _ h9 => h9) rfl dX8_side_12 ?_
  refine lv_iload_n C.x C.b dX8_side_15 rfl (lv_at hl 2 rfl) ?_
  refine k_calli (va_runVN (As := [.int b]) (rest := []) C.1 (kX4_hasNode l G B0 f nn wL tA nc r z M b hN hz hnc) ⟨va_cnB 1 C.ts gX8_side_X4_hasNode_n313 rfl rfl rfl (C.2.1.2.2.1 _ (show ((RX8, 313, yX4_hasNode, "Koebehall") : String × Nat × MethodName × String) ∈ kNestM by decide +kernel)) (C.ts _ lk_X8_side_in_RX4) hdX8_side_X4_hasNode ⟨Nat.le_of_ble_eq_true rfl, Nat.le_of_ble_eq_true rfl⟩, C.ts _ lk_X8_side_im_X4_hasNode, C.ts _ lk_X8_side_se_X4_hasNode⟩ (k_preV C hX (hN.at 0 rfl) rfl) rfl rfl hl.1 rfl (lv_room (Nat.le_of_ble_eq_true rfl)) dX8_side_16 ⟨Nat.le_of_ble_eq_true rfl, Nat.le_of_ble_eq_true rfl⟩) hX (fun r16 f16 H locs hp16 hX => ?_)
  obtain ⟨hr16, hf16⟩ := hp16
  rw [hf16] at hX
  refine k_topi (y := (kbI (mIn b nc))) hr16 ?_
  refine lv_if_ne (tgt := 33) C.x C.b dX8_side_19 (by decide) (fun c_19 => ?_) (fun c_19 => ?_)
  rotate_left
  · exact absurd (hv.2.1) (kbI_0 c_19)
  have J60 : ∀ (ls : Array Slot), lv_has ls 4 [(0, .ref h), (1, .int a), (2, .int b), (3, .int k9)] → ∀ (H : Heap) (locs : List Loc), kX G B0 s f H locs → W p l e (rmX8_side_b2) s m args below meth c H locs 0 0 Q (F0 m 60 ls []) := by
    intro ls hl H locs hX
    refine lv_iload_n C.x C.b dX8_side_60 rfl (lv_at hl 1 rfl) ?_
    refine lv_iload_n C.x C.b dX8_side_61 rfl (lv_at hl 2 rfl) ?_
    refine lv_icmp_ne (tgt := 76) C.x C.b dX8_side_62 (by decide) (fun c_62 => ?_) (fun c_62 => ?_)
    · skip
      exact absurd hab c_62
    exact k_thSW (cls := "java/lang/IllegalArgumentException") (text := "both nodes are the same") C hst hX hl.1 hout lk_X8_side_cl124 lk_X8_side_ini_IllegalArgumentException (by decide +kernel) (by decide) hat_X8_side_128_IllegalArgumentException hng_RX8_124_128_IllegalArgumentException dX8_side_65 dX8_side_68 dX8_side_69 dX8_side_72 dX8_side_75 (Nat.le_of_ble_eq_true rfl) (Nat.le_of_ble_eq_true rfl) (Nat.le_of_ble_eq_true rfl) (Nat.le_of_ble_eq_true rfl) hlocks hQ (rfl) (Nat.le_of_ble_eq_true rfl) (Nat.le_of_ble_eq_true rfl)
  refine lv_iload_n C.x C.b dX8_side_33 rfl (lv_at hl 3 rfl) ?_
  refine lv_iconst (v := -1) C.x C.b dX8_side_34 (by decide) ?_
  refine lv_icmp_eq (tgt := 60) C.x C.b dX8_side_35 (by decide) (fun c_35 => ?_) (fun c_35 => ?_)
  · skip
    exact J60 ls (lv_sub hl [0, 1, 2, 3] rfl) _ _ hX
  · skip
    refine lv_aload_n C.x C.b dX8_side_38 rfl (lv_at hl 0 rfl) ?_
    refine k_get (X := RX8) (T := TX8) (N := 7) (v := .ref nn) C hX (hM.at 0 rfl) rfl hin_X8_side_RX8 6 (by decide) lk_X8_side_f48 (fun _ h9 => h9) rfl dX8_side_39 ?_
    refine lv_iload_n C.x C.b dX8_side_42 rfl (lv_at hl 3 rfl) ?_
    refine k_calli (va_runVN (As := [.int k9]) (rest := []) C.1 (kX4_hasWire l G B0 f nn wL tA nc r z M sz w e1 e2 k9 hN hz hwl hnc hnc1 hsz he) ⟨va_cnB 1 C.ts gX8_side_X4_hasWire_n333 rfl rfl rfl (C.2.1.2.2.1 _ (show ((RX8, 333, yX4_hasWire, "Koebehall") : String × Nat × MethodName × String) ∈ kNestM by decide +kernel)) (C.ts _ lk_X8_side_in_RX4) hdX8_side_X4_hasWire ⟨Nat.le_of_ble_eq_true rfl, Nat.le_of_ble_eq_true rfl⟩, C.ts _ lk_X8_side_im_X4_hasWire, C.ts _ lk_X8_side_se_X4_hasWire⟩ (k_preV C hX (hN.at 0 rfl) rfl) rfl rfl hl.1 rfl (lv_room (Nat.le_of_ble_eq_true rfl)) dX8_side_43 ⟨Nat.le_of_ble_eq_true rfl, Nat.le_of_ble_eq_true rfl⟩) hX (fun r43 f43 H locs hp43 hX => ?_)
    obtain ⟨hr43, hf43⟩ := hp43
    rw [hf43] at hX
    refine k_topi (y := (kbI (mIn k9 sz))) hr43 ?_
    refine lv_if_ne (tgt := 60) C.x C.b dX8_side_46 (by decide) (fun c_46 => ?_) (fun c_46 => ?_)
    · skip
      have c_46 := kbI_1 c_46
      exact J60 ls (lv_sub hl [0, 1, 2, 3] rfl) _ _ hX
    · skip
      have c_46 := kbI_0 c_46
      exact absurd (hv.2.2.resolve_left c_35) c_46

theorem lk_X8_side_cl67 : Cond.classLink RX8 67 "java/lang/IllegalStateException" ∈ wsX8_side := by decide +kernel
theorem lk_X8_side_ini_IllegalStateException : Cond.initialized "java/lang/IllegalStateException" ∈ wsX8_side := by decide +kernel
theorem hat_X8_side_71_IllegalStateException : ∀ w ∈ (vx_atS RX8 71 "java/lang/IllegalStateException" kChain).filter goodWord, w ∈ wsX8_side := by
  intro w hw
  unfold wsX8_side
  simp only [List.mem_cons, List.mem_append, hw, or_true, true_or]
abbrev rmX8_side_b3 : Room := { frames := 6, cells := 1, slots := 6, locals := 108 }
set_option maxHeartbeats 4000000 in
set_option maxRecDepth 100000 in
/-- X8_side_b3 -/
theorem kX8_side_b3 (l : Launch) (hst : l.stackTraces = false) (G : kG) (B0 : Nat) (f : kH) (h nn wL tA nc : Nat) (vs vd vg vw vm vp : Value) (r z : Nat → Nat) (M : Nat → Nat → Int64) (sz : Nat) (w e1 e2 : Nat → Nat) (a b k9 : Int32) (hM : kCs f [(h, .inr (8, [vs, vd, vg, vw, vm, vp, .ref nn]))]) (hN : kCs f (mxW G nn wL tA nc r z M)) (hz : mxZ z) (hwl : kWl G f (mxAs nn tA r) wL sz w e1 e2) (hnc : nc ≤ 6) (hnc1 : 1 ≤ nc) (hsz : sz ≤ 10) (he : ∀ k : Nat, k < sz → e1 k < nc ∧ e2 k < nc) (hh9 : h ∉ mxAs nn tA r) (hv : mIn a nc ∧ mIn b nc ∧ (k9 = -1 ∨ mIn k9 sz)) (hab : ¬ a = b) (hne : (mxDet (nc - 1) z (mxFill z e1 e2 nc sz 0 M)).1 = 0) : vx_Met l yX8_side wsX8_side (rmX8_side_b3) (kP G B0 f [.ref h, .int a, .int b, .int k9]) kNo (kXC G B0 "java/lang/IllegalStateException" (fun f1 => kCs f1 (mxW G nn wL tA nc r ((mxDet (nc - 1) z (mxFill z e1 e2 nc sz 0 M)).2.1) ((mxDet (nc - 1) z (mxFill z e1 e2 nc sz 0 M)).2.2)) ∧ kOff (mxAs nn tA r) f f1)) 1 6 (kAb B0) := by
  refine kMetX (cc := cX8_side) (maxL := 4) (ret := (some .int)) (by decide) rfl (Nat.le_of_ble_eq_true rfl) ?_
  intro p e s m args below meth c H locs Q ls C hX hl hr hlocks hnm hQ hout
  have hl : lv_has ls 4 [(0, .ref h), (1, .int a), (2, .int b), (3, .int k9)] := hl
  refine lv_aload_n C.x C.b dX8_side_0 rfl (lv_at hl 0 rfl) ?_
  refine k_get (X := RX8) (T := TX8) (N := 7) (v := .ref nn) C hX (hM.at 0 rfl) rfl hin_X8_side_RX8 6 (by decide) lk_X8_side_f48 (fun _ h9 => h9) rfl dX8_side_1 ?_
  refine lv_iload_n C.x C.b dX8_side_4 rfl (lv_at hl 1 rfl) ?_
  refine k_calli (va_runVN (As := [.int a]) (rest := []) C.1 (kX4_hasNode l G B0 f nn wL tA nc r z M a hN hz hnc) ⟨va_cnB 1 C.ts gX8_side_X4_hasNode_n313 rfl rfl rfl (C.2.1.2.2.1 _ (show ((RX8, 313, yX4_hasNode, "Koebehall") : String × Nat × MethodName × String) ∈ kNestM by decide +kernel)) (C.ts _ lk_X8_side_in_RX4) hdX8_side_X4_hasNode ⟨Nat.le_of_ble_eq_true rfl, Nat.le_of_ble_eq_true rfl⟩, C.ts _ lk_X8_side_im_X4_hasNode, C.ts _ lk_X8_side_se_X4_hasNode⟩ (k_preV C hX (hN.at 0 rfl) rfl) rfl rfl hl.1 rfl (lv_room (Nat.le_of_ble_eq_true rfl)) dX8_side_5 ⟨Nat.le_of_ble_eq_true rfl, Nat.le_of_ble_eq_true rfl⟩) hX (fun r5 f5 H locs hp5 hX => ?_)
  obtain ⟨hr5, hf5⟩ := hp5
  rw [hf5] at hX
  refine k_topi (y := (kbI (mIn a nc))) hr5 ?_
  refine lv_if_eq (tgt := 22) C.x C.b dX8_side_8 (by decide) (fun c_8 => ?_) (fun c_8 => ?_)
  · exact absurd (hv.1) (kbI_0 c_8)
  refine lv_aload_n C.x C.b dX8_side_11 rfl (lv_at hl 0 rfl) ?_
  refine k_get (X := RX8) (T := TX8) (N := 7) (v := .ref nn) C hX (hM.at 0 rfl) rfl hin_X8_side_RX8 6 (by decide) lk_X8_side_f48 (fun _ h9 => h9) rfl dX8_side_12 ?_
  refine lv_iload_n C.x C.b dX8_side_15 rfl (lv_at hl 2 rfl) ?_
  refine k_calli (va_runVN (As := [.int b]) (rest := []) C.1 (kX4_hasNode l G B0 f nn wL tA nc r z M b hN hz hnc) ⟨va_cnB 1 C.ts gX8_side_X4_hasNode_n313 rfl rfl rfl (C.2.1.2.2.1 _ (show ((RX8, 313, yX4_hasNode, "Koebehall") : String × Nat × MethodName × String) ∈ kNestM by decide +kernel)) (C.ts _ lk_X8_side_in_RX4) hdX8_side_X4_hasNode ⟨Nat.le_of_ble_eq_true rfl, Nat.le_of_ble_eq_true rfl⟩, C.ts _ lk_X8_side_im_X4_hasNode, C.ts _ lk_X8_side_se_X4_hasNode⟩ (k_preV C hX (hN.at 0 rfl) rfl) rfl rfl hl.1 rfl (lv_room (Nat.le_of_ble_eq_true rfl)) dX8_side_16 ⟨Nat.le_of_ble_eq_true rfl, Nat.le_of_ble_eq_true rfl⟩) hX (fun r16 f16 H locs hp16 hX => ?_)
  obtain ⟨hr16, hf16⟩ := hp16
  rw [hf16] at hX
  refine k_topi (y := (kbI (mIn b nc))) hr16 ?_
  refine lv_if_ne (tgt := 33) C.x C.b dX8_side_19 (by decide) (fun c_19 => ?_) (fun c_19 => ?_)
  rotate_left
  · exact absurd (hv.2.1) (kbI_0 c_19)
  have J60 : ∀ (ls : Array Slot), lv_has ls 4 [(0, .ref h), (1, .int a), (2, .int b), (3, .int k9)] → ∀ (H : Heap) (locs : List Loc), kX G B0 s f H locs → W p l e (rmX8_side_b3) s m args below meth c H locs 0 0 Q (F0 m 60 ls []) := by
    intro ls hl H locs hX
    refine lv_iload_n C.x C.b dX8_side_60 rfl (lv_at hl 1 rfl) ?_
    refine lv_iload_n C.x C.b dX8_side_61 rfl (lv_at hl 2 rfl) ?_
    refine lv_icmp_ne (tgt := 76) C.x C.b dX8_side_62 (by decide) (fun c_62 => ?_) (fun c_62 => ?_)
    rotate_left
    · skip
      exact absurd c_62 hab
    refine lv_aload_n C.x C.b dX8_side_76 rfl (lv_at hl 0 rfl) ?_
    refine k_get (X := RX8) (T := TX8) (N := 7) (v := .ref nn) C hX (hM.at 0 rfl) rfl hin_X8_side_RX8 6 (by decide) lk_X8_side_f48 (fun _ h9 => h9) rfl dX8_side_77 ?_
    refine k_calll (va_runVN (As := []) (rest := []) C.1 (kX4_treesByTable l G B0 f nn wL tA nc r z M sz w e1 e2 hN hz hwl hnc hnc1 hsz he) ⟨va_cnB 0 C.ts gX8_side_X4_treesByTable_n327 rfl rfl rfl (C.2.1.2.2.1 _ (show ((RX8, 327, yX4_treesByTable, "Koebehall") : String × Nat × MethodName × String) ∈ kNestM by decide +kernel)) (C.ts _ lk_X8_side_in_RX4) hdX8_side_X4_treesByTable ⟨Nat.le_of_ble_eq_true rfl, Nat.le_of_ble_eq_true rfl⟩, C.ts _ lk_X8_side_im_X4_treesByTable, C.ts _ lk_X8_side_se_X4_treesByTable⟩ (k_preV C hX (hN.at 0 rfl) rfl) rfl rfl hl.1 rfl (lv_room (Nat.le_of_ble_eq_true rfl)) dX8_side_80 ⟨Nat.le_of_ble_eq_true rfl, Nat.le_of_ble_eq_true rfl⟩) hX (fun r80 f80 H locs hp80 hX => ?_)
    obtain ⟨hr80, hN, hO80⟩ := hp80
    refine k_topl (y := (mxDet (nc - 1) z (mxFill z e1 e2 nc sz 0 M)).1) hr80 ?_
    refine lv_lconst (v := 0) C.x C.b dX8_side_83 (by decide) ?_
    refine k_lcmp_ne (tgt := 99) C.x C.b dX8_side_84 dX8_side_85 (by decide) (fun c_85 => ?_) (fun c_85 => ?_)
    · skip
      exact absurd hne c_85
    · skip
      exact k_thSW (cls := "java/lang/IllegalStateException") (text := "the network has no tree") C hst hX hl.1 hout lk_X8_side_cl67 lk_X8_side_ini_IllegalStateException (by decide +kernel) (by decide) hat_X8_side_71_IllegalStateException hng_RX8_67_71_IllegalStateException dX8_side_88 dX8_side_91 dX8_side_92 dX8_side_95 dX8_side_98 (Nat.le_of_ble_eq_true rfl) (Nat.le_of_ble_eq_true rfl) (Nat.le_of_ble_eq_true rfl) (Nat.le_of_ble_eq_true rfl) hlocks hQ (⟨hN, hO80⟩) (Nat.le_of_ble_eq_true rfl) (Nat.le_of_ble_eq_true rfl)
  refine lv_iload_n C.x C.b dX8_side_33 rfl (lv_at hl 3 rfl) ?_
  refine lv_iconst (v := -1) C.x C.b dX8_side_34 (by decide) ?_
  refine lv_icmp_eq (tgt := 60) C.x C.b dX8_side_35 (by decide) (fun c_35 => ?_) (fun c_35 => ?_)
  · skip
    exact J60 ls (lv_sub hl [0, 1, 2, 3] rfl) _ _ hX
  · skip
    refine lv_aload_n C.x C.b dX8_side_38 rfl (lv_at hl 0 rfl) ?_
    refine k_get (X := RX8) (T := TX8) (N := 7) (v := .ref nn) C hX (hM.at 0 rfl) rfl hin_X8_side_RX8 6 (by decide) lk_X8_side_f48 (fun _ h9 => h9) rfl dX8_side_39 ?_
    refine lv_iload_n C.x C.b dX8_side_42 rfl (lv_at hl 3 rfl) ?_
    refine k_calli (va_runVN (As := [.int k9]) (rest := []) C.1 (kX4_hasWire l G B0 f nn wL tA nc r z M sz w e1 e2 k9 hN hz hwl hnc hnc1 hsz he) ⟨va_cnB 1 C.ts gX8_side_X4_hasWire_n333 rfl rfl rfl (C.2.1.2.2.1 _ (show ((RX8, 333, yX4_hasWire, "Koebehall") : String × Nat × MethodName × String) ∈ kNestM by decide +kernel)) (C.ts _ lk_X8_side_in_RX4) hdX8_side_X4_hasWire ⟨Nat.le_of_ble_eq_true rfl, Nat.le_of_ble_eq_true rfl⟩, C.ts _ lk_X8_side_im_X4_hasWire, C.ts _ lk_X8_side_se_X4_hasWire⟩ (k_preV C hX (hN.at 0 rfl) rfl) rfl rfl hl.1 rfl (lv_room (Nat.le_of_ble_eq_true rfl)) dX8_side_43 ⟨Nat.le_of_ble_eq_true rfl, Nat.le_of_ble_eq_true rfl⟩) hX (fun r43 f43 H locs hp43 hX => ?_)
    obtain ⟨hr43, hf43⟩ := hp43
    rw [hf43] at hX
    refine k_topi (y := (kbI (mIn k9 sz))) hr43 ?_
    refine lv_if_ne (tgt := 60) C.x C.b dX8_side_46 (by decide) (fun c_46 => ?_) (fun c_46 => ?_)
    · skip
      have c_46 := kbI_1 c_46
      exact J60 ls (lv_sub hl [0, 1, 2, 3] rfl) _ _ hX
    · skip
      have c_46 := kbI_0 c_46
      exact absurd (hv.2.2.resolve_left c_35) c_46
