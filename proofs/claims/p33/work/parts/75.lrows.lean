/-! rows: the law's own methods call the class, act, and each other -/
section KP
variable {p : Program} {l : Launch} {e : Env} {R : Room} {s : State} {m : MethodId} {args : Array Value} {below : List Frame} {meth : Method} {c : Code} {H : Heap} {locs : List Loc} {cells slots : Nat} {Q : State → Prop}
variable {cc : ByteArray} {pc : Nat} {ls : Array Slot} {rest st0 : List Value} {G : kG} {B0 nL : Nat} {f : kH} {Ts : List Cond} {own : String} {a h c2 s2 idx n maxL : Nat} {mc ms : Nat} {av : Array Value} {y : MethodName} {ws ws' : List Cond} {bytes : ByteArray} {ret : Option FieldType} {As : List Value} {m1 : pSt}
theorem k_callXl {post : Int64 → kH → Prop} (hr : vx_Run p l e R s m args below meth c H locs cells slots mc ms (F0 m pc ls st0) rest (kQl G B0 post av) (kXN G B0) (kAb B0)) (hX : kX G B0 s f H locs)
    (kk : ∀ (r : Int64) (f1 : kH) (H1 : Heap) (locs1 : List Loc), post r f1 → kX G B0 s f1 H1 locs1 → W p l e R s m args below meth c H1 locs1 (cells + mc) (slots + ms) Q (F0 m (pc + 3) ls (.long r :: rest))) : W p l e R s m args below meth c H locs cells slots Q (F0 m pc ls st0) :=
  vx_calll hr hX.2 (fun _ _ h => h) (fun _ h => h) (fun _ _ h => h) (fun _ _ _ _ _ _ _ _ _ hp _ _ _ _ _ _ _ => False.elim hp) fun r f1 t H1 locs1 ht _ hp hB _ _ hS => kk r f1 H1 locs1 hp ⟨ht ▸ hB, hS⟩
theorem k_cI {R9 : pRI} {v : Int32} (C : kC G B0 p m c cc nL s args Ts own) (hX : kX G B0 s f H locs) (hc : cI l G B0 h f y ws As R9) (hR : R9 = (0, v, m1)) (hh : ∃ vs, f h = some (.inr (8, vs))) (hG : GoodIn Ts (wsV own idx RX8 y ws)) (hw : ws = Cond.code y bytes maxL ret :: ws') (hd : y.cls = RX8 ∧ y.cls ≠ "java/lang/invoke/MethodHandle" ∧ y.cls ≠ "java/lang/invoke/VarHandle" ∧ (parseMethodDescriptor y.desc).map (fun d => d.parameters.length) = some n) (hml : maxL ≤ 20) (hlen : As.length = n) (hsz : ls.size = nL) (hst : st0 = As.reverse ++ .ref h :: rest) (hcat : (rest.map fun v => v.category).sum ≤ 8) (hdg : decode cc pc = .ok (.invokevirtual idx, 3)) (hf : 301 ≤ R.frames ∧ 20040 ≤ R.locals) (hcl : c2 ≤ R.cells ∧ s2 ≤ R.slots) (h1 : cells + 8 = c2) (h2 : slots + 64 = s2)
    (kk : ∀ (f1 : kH) (H1 : Heap) (locs1 : List Loc), kX G B0 s f1 H1 locs1 → Inv G h f1 m1 → W p l e R s m args below meth c H1 locs1 c2 s2 Q (F0 m (pc + 3) ls (.int v :: rest))) : W p l e R s m args below meth c H locs cells slots Q (F0 m pc ls st0) := by
  subst hR
  rcases hc with ⟨-, rm, mc, ms, ⟨q1, q2, q3, q4, q5, q6⟩, hm⟩ | ⟨h9, -⟩
  · obtain ⟨vs, hh⟩ := hh
    refine k_calli (va_runV (As := As) (rest := rest) C.1 hm (cwV n C.ts hG hw q1 q2 hd ⟨by omega, by omega⟩) (k_preV C hX hh rfl) rfl hlen hsz hst (lv_room hcat) hdg ⟨by omega, by omega⟩) hX (fun r f1 H locs hp hX => ?_)
    obtain ⟨hr, hI⟩ := hp
    subst hr
    exact W.widen (k := c2) (n := s2) (by omega) (by omega) (kk f1 H locs hX hI)
  · exact absurd h9 (show ¬ 1 ≤ 0 by decide)
theorem k_cJ {R9 : pRJ} {v : Int64} (C : kC G B0 p m c cc nL s args Ts own) (hX : kX G B0 s f H locs) (hc : cJ l G B0 h f y ws As R9) (hR : R9 = (0, v, m1)) (hh : ∃ vs, f h = some (.inr (8, vs))) (hG : GoodIn Ts (wsV own idx RX8 y ws)) (hw : ws = Cond.code y bytes maxL ret :: ws') (hd : y.cls = RX8 ∧ y.cls ≠ "java/lang/invoke/MethodHandle" ∧ y.cls ≠ "java/lang/invoke/VarHandle" ∧ (parseMethodDescriptor y.desc).map (fun d => d.parameters.length) = some n) (hml : maxL ≤ 20) (hlen : As.length = n) (hsz : ls.size = nL) (hst : st0 = As.reverse ++ .ref h :: rest) (hcat : (rest.map fun v => v.category).sum ≤ 8) (hdg : decode cc pc = .ok (.invokevirtual idx, 3)) (hf : 301 ≤ R.frames ∧ 20040 ≤ R.locals) (hcl : c2 ≤ R.cells ∧ s2 ≤ R.slots) (h1 : cells + 8 = c2) (h2 : slots + 64 = s2)
    (kk : ∀ (f1 : kH) (H1 : Heap) (locs1 : List Loc), kX G B0 s f1 H1 locs1 → Inv G h f1 m1 → W p l e R s m args below meth c H1 locs1 c2 s2 Q (F0 m (pc + 3) ls (.long v :: rest))) : W p l e R s m args below meth c H locs cells slots Q (F0 m pc ls st0) := by
  subst hR
  rcases hc with ⟨-, rm, mc, ms, ⟨q1, q2, q3, q4, q5, q6⟩, hm⟩ | ⟨h9, -⟩
  · obtain ⟨vs, hh⟩ := hh
    refine k_calll (va_runV (As := As) (rest := rest) C.1 hm (cwV n C.ts hG hw q1 q2 hd ⟨by omega, by omega⟩) (k_preV C hX hh rfl) rfl hlen hsz hst (lv_room hcat) hdg ⟨by omega, by omega⟩) hX (fun r f1 H locs hp hX => ?_)
    obtain ⟨hr, hI⟩ := hp
    subst hr
    exact W.widen (k := c2) (n := s2) (by omega) (by omega) (kk f1 H locs hX hI)
  · exact absurd h9 (show ¬ 1 ≤ 0 by decide)
theorem k_cF {v v9 : UInt32} (C : kC G B0 p m c cc nL s args Ts own) (hX : kX G B0 s f H locs) (hc : ∃ rm mc ms, p8 rm mc ms ∧ Met l y ws rm (kP G B0 f (.ref h :: As)) (kQf G B0 (fun r f1 => r = v9 ∧ Inv G h f1 m1)) mc ms (kAb B0)) (hR : v9 = v) (hh : ∃ vs, f h = some (.inr (8, vs))) (hG : GoodIn Ts (wsV own idx RX8 y ws)) (hw : ws = Cond.code y bytes maxL ret :: ws') (hd : y.cls = RX8 ∧ y.cls ≠ "java/lang/invoke/MethodHandle" ∧ y.cls ≠ "java/lang/invoke/VarHandle" ∧ (parseMethodDescriptor y.desc).map (fun d => d.parameters.length) = some n) (hml : maxL ≤ 20) (hlen : As.length = n) (hsz : ls.size = nL) (hst : st0 = As.reverse ++ .ref h :: rest) (hcat : (rest.map fun v => v.category).sum ≤ 8) (hdg : decode cc pc = .ok (.invokevirtual idx, 3)) (hf : 301 ≤ R.frames ∧ 20040 ≤ R.locals) (hcl : c2 ≤ R.cells ∧ s2 ≤ R.slots) (h1 : cells + 8 = c2) (h2 : slots + 64 = s2)
    (kk : ∀ (f1 : kH) (H1 : Heap) (locs1 : List Loc), kX G B0 s f1 H1 locs1 → Inv G h f1 m1 → W p l e R s m args below meth c H1 locs1 c2 s2 Q (F0 m (pc + 3) ls (.float v :: rest))) : W p l e R s m args below meth c H locs cells slots Q (F0 m pc ls st0) := by
  subst hR
  obtain ⟨rm, mc, ms, ⟨q1, q2, q3, q4, q5, q6⟩, hm⟩ := hc
  obtain ⟨vs, hh⟩ := hh
  refine k_callf (va_runV (As := As) (rest := rest) C.1 hm (cwV n C.ts hG hw q1 q2 hd ⟨by omega, by omega⟩) (k_preV C hX hh rfl) rfl hlen hsz hst (lv_room hcat) hdg ⟨by omega, by omega⟩) hX (fun r f1 H locs hp hX => ?_)
  obtain ⟨hr, hI⟩ := hp
  subst hr
  exact W.widen (k := c2) (n := s2) (by omega) (by omega) (kk f1 H locs hX hI)
theorem hdP_L_act : yL_act.cls ≠ "java/lang/invoke/MethodHandle" ∧ yL_act.cls ≠ "java/lang/invoke/VarHandle" ∧ (parseMethodDescriptor yL_act.desc).map (fun d => d.parameters.length) = some 6 := by decide +kernel
theorem k_actF {v w : Int64} {m0 : pSt} (C : kC G B0 p m c cc nL s args Ts own) (hX : kX G B0 s f H locs) (hm : vx_Met l yL_act wsP_act rmA (kP G B0 f As) (kQl G B0 (fun r f1 => r = w ∧ Inv G h f1 m0)) (kXN G B0) 8 64 (kAb B0)) (hR : m0 = m1) (hv : w = v) (hG : GoodIn Ts (va_wsS own idx yL_act wsP_act)) (hlen : As.length = 6) (hsz : ls.size = nL) (hst : st0 = As.reverse ++ rest) (hcat : (rest.map fun v => v.category).sum ≤ 8) (hdg : decode cc pc = .ok (.invokestatic idx, 3)) (hf : 302 ≤ R.frames ∧ 20070 ≤ R.locals) (hcl : c2 ≤ R.cells ∧ s2 ≤ R.slots) (h1 : cells + 8 = c2) (h2 : slots + 64 = s2)
    (kk : ∀ (f1 : kH) (H1 : Heap) (locs1 : List Loc), kX G B0 s f1 H1 locs1 → Inv G h f1 m1 → W p l e R s m args below meth c H1 locs1 c2 s2 Q (F0 m (pc + 3) ls (.long v :: rest))) : W p l e R s m args below meth c H locs cells slots Q (F0 m pc ls st0) := by
  subst hR
  subst hv
  refine k_callXl (vx_runSX (As := As) (rest := rest) C.1 hm (vx_cwSW 6 C.ts hG rfl rfl rfl hdP_L_act ⟨hf.1, by have := hf.2; show 8 + (7 + 11) + 20040 ≤ R.locals; omega⟩) (k_preS C hX) rfl hlen hsz hst (lv_room hcat) hdg ⟨by rw [h1]; exact hcl.1, by rw [h2]; exact hcl.2⟩) hX (fun r f1 H locs hp hX => ?_)
  obtain ⟨hr, hI⟩ := hp
  subst hr
  rw [h1, h2]
  exact kk f1 H locs hX hI
theorem k_actI {R9 : pRI} {v : Int64} {k : Nat} {w : Int32} (C : kC G B0 p m c cc nL s args Ts own) (hX : kX G B0 s f H locs) (hm : vx_Met l yL_act wsP_act rmA (kP G B0 f As) (kQl G B0 (fun r f1 => r = rvI R9 ∧ Inv G h f1 R9.2.2)) (kXN G B0) 8 64 (kAb B0)) (hR : R9 = (k, w, m1)) (hv : rvI (k, w, m1) = v) (hG : GoodIn Ts (va_wsS own idx yL_act wsP_act)) (hlen : As.length = 6) (hsz : ls.size = nL) (hst : st0 = As.reverse ++ rest) (hcat : (rest.map fun v => v.category).sum ≤ 8) (hdg : decode cc pc = .ok (.invokestatic idx, 3)) (hf : 302 ≤ R.frames ∧ 20070 ≤ R.locals) (hcl : c2 ≤ R.cells ∧ s2 ≤ R.slots) (h1 : cells + 8 = c2) (h2 : slots + 64 = s2)
    (kk : ∀ (f1 : kH) (H1 : Heap) (locs1 : List Loc), kX G B0 s f1 H1 locs1 → Inv G h f1 m1 → W p l e R s m args below meth c H1 locs1 c2 s2 Q (F0 m (pc + 3) ls (.long v :: rest))) : W p l e R s m args below meth c H locs cells slots Q (F0 m pc ls st0) :=
  k_actF C hX hm (by rw [hR]) (by rw [hR]; exact hv) hG hlen hsz hst hcat hdg hf hcl h1 h2 kk
theorem k_actJ {R9 : pRJ} {v : Int64} {k : Nat} {w : Int64} (C : kC G B0 p m c cc nL s args Ts own) (hX : kX G B0 s f H locs) (hm : vx_Met l yL_act wsP_act rmA (kP G B0 f As) (kQl G B0 (fun r f1 => r = rvJ R9 ∧ Inv G h f1 R9.2.2)) (kXN G B0) 8 64 (kAb B0)) (hR : R9 = (k, w, m1)) (hv : rvJ (k, w, m1) = v) (hG : GoodIn Ts (va_wsS own idx yL_act wsP_act)) (hlen : As.length = 6) (hsz : ls.size = nL) (hst : st0 = As.reverse ++ rest) (hcat : (rest.map fun v => v.category).sum ≤ 8) (hdg : decode cc pc = .ok (.invokestatic idx, 3)) (hf : 302 ≤ R.frames ∧ 20070 ≤ R.locals) (hcl : c2 ≤ R.cells ∧ s2 ≤ R.slots) (h1 : cells + 8 = c2) (h2 : slots + 64 = s2)
    (kk : ∀ (f1 : kH) (H1 : Heap) (locs1 : List Loc), kX G B0 s f1 H1 locs1 → Inv G h f1 m1 → W p l e R s m args below meth c H1 locs1 c2 s2 Q (F0 m (pc + 3) ls (.long v :: rest))) : W p l e R s m args below meth c H locs cells slots Q (F0 m pc ls st0) :=
  k_actF C hX hm (by rw [hR]) (by rw [hR]; exact hv) hG hlen hsz hst hcat hdg hf hcl h1 h2 kk
theorem k_law {rm : Room} {v : Int32} (C : kC G B0 p m c cc nL s args Ts own) (hX : kX G B0 s f H locs) (hm : Met l y ws rm (kP G B0 f As) (kQi G B0 (fun r f1 => r = v ∧ Inv G h f1 m1)) mc ms (kAb B0)) (hG : GoodIn Ts (va_wsS own idx y ws)) (hw : ws = Cond.code y bytes maxL ret :: ws') (hrc : rm.cells = mc) (hrs : rm.slots = ms) (hd : y.cls ≠ "java/lang/invoke/MethodHandle" ∧ y.cls ≠ "java/lang/invoke/VarHandle" ∧ (parseMethodDescriptor y.desc).map (fun d => d.parameters.length) = some n) (hf : rm.frames + 1 ≤ R.frames ∧ 8 + (maxL + 11) + rm.locals ≤ R.locals) (hlen : As.length = n) (hsz : ls.size = nL) (hst : st0 = As.reverse ++ rest) (hcat : (rest.map fun v => v.category).sum ≤ 8) (hdg : decode cc pc = .ok (.invokestatic idx, 3)) (hcl : c2 ≤ R.cells ∧ s2 ≤ R.slots) (h1 : cells + mc = c2) (h2 : slots + ms = s2)
    (kk : ∀ (f1 : kH) (H1 : Heap) (locs1 : List Loc), kX G B0 s f1 H1 locs1 → Inv G h f1 m1 → W p l e R s m args below meth c H1 locs1 c2 s2 Q (F0 m (pc + 3) ls (.int v :: rest))) : W p l e R s m args below meth c H locs cells slots Q (F0 m pc ls st0) := by
  refine k_calli (va_runS (As := As) (rest := rest) C.1 hm (va_cwS n C.ts hG hw hrc hrs hd hf) (k_preS C hX) rfl hlen hsz hst (lv_room hcat) hdg ⟨by rw [h1]; exact hcl.1, by rw [h2]; exact hcl.2⟩) hX (fun r f1 H locs hp hX => ?_)
  obtain ⟨hr, hI⟩ := hp
  subst hr
  rw [h1, h2]
  exact kk f1 H locs hX hI
end KP
theorem iop_split {l : Launch} (hst : l.stackTraces = false) {G : kG} {B0 h : Nat} {f : kH} {m : pSt} (hI : Inv G h f m) (x1 : Int32) : cI l G B0 h f yX8_split wsX8_split [.int x1] (c_split m x1) := by
  obtain ⟨o, c, hI⟩ := hI
  exact cop_split hst hI x1
theorem iop_flip {l : Launch} (hst : l.stackTraces = false) {G : kG} {B0 h : Nat} {f : kH} {m : pSt} (hI : Inv G h f m) (x1 x2 : Int32) : cI l G B0 h f yX8_flip wsX8_flip [.int x1, .int x2] (c_flip m x1 x2) := by
  obtain ⟨o, c, hI⟩ := hI
  exact cop_flip hst hI x1 x2
theorem iop_corner {l : Launch} (hst : l.stackTraces = false) {G : kG} {B0 h : Nat} {f : kH} {m : pSt} (hI : Inv G h f m) (x1 x2 : Int32) : cI l G B0 h f yX8_corner wsX8_corner [.int x1, .int x2] (c_corner m x1 x2) := by
  obtain ⟨o, c, hI⟩ := hI
  exact cop_corner hst hI x1 x2
theorem iop_around {l : Launch} (hst : l.stackTraces = false) {G : kG} {B0 h : Nat} {f : kH} {m : pSt} (hI : Inv G h f m) (x1 x2 : Int32) : cI l G B0 h f yX8_around wsX8_around [.int x1, .int x2] (c_around m x1 x2) := by
  obtain ⟨o, c, hI⟩ := hI
  exact cop_around hst hI x1 x2
theorem iop_net {l : Launch} (hst : l.stackTraces = false) {G : kG} {B0 h : Nat} {f : kH} {m : pSt} (hI : Inv G h f m) (x1 : Int32) : cI l G B0 h f yX8_net wsX8_net [.int x1] (c_net m x1) := by
  obtain ⟨o, c, hI⟩ := hI
  exact cop_net hst hI x1
theorem iop_disk {l : Launch} (hst : l.stackTraces = false) {G : kG} {B0 h : Nat} {f : kH} {m : pSt} (hI : Inv G h f m) (x1 x2 x3 : Int32) : cI l G B0 h f yX8_disk wsX8_disk [.int x1, .int x2, .int x3] (c_disk m x1 x2 x3) := by
  obtain ⟨o, c, hI⟩ := hI
  exact cop_disk hst hI x1 x2 x3
theorem iop_move {l : Launch} (hst : l.stackTraces = false) {G : kG} {B0 h : Nat} {f : kH} {m : pSt} (hI : Inv G h f m) (x1 x2 x3 x4 : Int32) : cI l G B0 h f yX8_move wsX8_move [.int x1, .int x2, .int x3, .int x4] (c_move m x1 x2 x3 x4) := by
  obtain ⟨o, c, hI⟩ := hI
  exact cop_move hst hI x1 x2 x3 x4
theorem iop_lie {l : Launch} (hst : l.stackTraces = false) {G : kG} {B0 h : Nat} {f : kH} {m : pSt} (hI : Inv G h f m) (x1 x2 : Int32) : cI l G B0 h f yX8_lie wsX8_lie [.int x1, .int x2] (c_lie m x1 x2) := by
  obtain ⟨o, c, hI⟩ := hI
  exact cop_lie hst hI x1 x2
theorem iop_pairs {l : Launch} (hst : l.stackTraces = false) {G : kG} {B0 h : Nat} {f : kH} {m : pSt} (hI : Inv G h f m) (x1 : Int32) : cI l G B0 h f yX8_pairs wsX8_pairs [.int x1] (c_pairs m x1) := by
  obtain ⟨o, c, hI⟩ := hI
  exact cop_pairs hst hI x1
theorem iop_draws {l : Launch} (hst : l.stackTraces = false) {G : kG} {B0 h : Nat} {f : kH} {m : pSt} (hI : Inv G h f m) : cI l G B0 h f yX8_draws wsX8_draws [] (c_draws m) := by
  obtain ⟨o, c, hI⟩ := hI
  exact cop_draws hI
theorem iop_gasket {l : Launch} (hst : l.stackTraces = false) {G : kG} {B0 h : Nat} {f : kH} {m : pSt} (hI : Inv G h f m) (x1 x2 x3 x4 : Int32) : cI l G B0 h f yX8_gasket wsX8_gasket [.int x1, .int x2, .int x3, .int x4] (c_gasket m x1 x2 x3 x4) := by
  obtain ⟨o, c, hI⟩ := hI
  exact cop_gasket hst hI x1 x2 x3 x4
theorem iop_turn {l : Launch} (hst : l.stackTraces = false) {G : kG} {B0 h : Nat} {f : kH} {m : pSt} (hI : Inv G h f m) (x1 x2 : Int32) : cJ l G B0 h f yX8_turn wsX8_turn [.int x1, .int x2] (c_turn m x1 x2) := by
  obtain ⟨o, c, hI⟩ := hI
  exact cop_turn hst hI x1 x2
theorem iop_curvature {l : Launch} (hst : l.stackTraces = false) {G : kG} {B0 h : Nat} {f : kH} {m : pSt} (hI : Inv G h f m) (x1 x2 : Int32) : cJ l G B0 h f yX8_curvature wsX8_curvature [.int x1, .int x2] (c_curvature m x1 x2) := by
  obtain ⟨o, c, hI⟩ := hI
  exact cop_curvature hst hI x1 x2
theorem iop_root {l : Launch} (hst : l.stackTraces = false) {G : kG} {B0 h : Nat} {f : kH} {m : pSt} (hI : Inv G h f m) (x1 x2 : Int32) : cJ l G B0 h f yX8_root wsX8_root [.int x1, .int x2] (c_root m x1 x2) := by
  obtain ⟨o, c, hI⟩ := hI
  exact cop_root hst hI x1 x2
theorem iop_count {l : Launch} (hst : l.stackTraces = false) {G : kG} {B0 h : Nat} {f : kH} {m : pSt} (hI : Inv G h f m) (x1 x2 : Int32) : cI l G B0 h f yX8_count wsX8_count [.int x1, .int x2] (c_count m x1 x2) := by
  obtain ⟨o, c, hI⟩ := hI
  exact cop_count hst hI x1 x2
theorem iop_countAnew {l : Launch} (hst : l.stackTraces = false) {G : kG} {B0 h : Nat} {f : kH} {m : pSt} (hI : Inv G h f m) (x1 x2 : Int32) : cI l G B0 h f yX8_countAnew wsX8_countAnew [.int x1, .int x2] (c_countAnew m x1 x2) := by
  obtain ⟨o, c, hI⟩ := hI
  exact cop_countAnew hst hI x1 x2
theorem iop_remainders {l : Launch} (hst : l.stackTraces = false) {G : kG} {B0 h : Nat} {f : kH} {m : pSt} (hI : Inv G h f m) (x1 x2 : Int32) : cI l G B0 h f yX8_remainders wsX8_remainders [.int x1, .int x2] (c_remainders m x1 x2) := by
  obtain ⟨o, c, hI⟩ := hI
  exact cop_remainders hst hI x1 x2
theorem iop_ford {l : Launch} (hst : l.stackTraces = false) {G : kG} {B0 h : Nat} {f : kH} {m : pSt} (hI : Inv G h f m) (x1 x2 x3 x4 : Int32) : cI l G B0 h f yX8_ford wsX8_ford [.int x1, .int x2, .int x3, .int x4] (c_ford m x1 x2 x3 x4) := by
  obtain ⟨o, c, hI⟩ := hI
  exact cop_ford hst hI x1 x2 x3 x4
theorem iop_between {l : Launch} (hst : l.stackTraces = false) {G : kG} {B0 h : Nat} {f : kH} {m : pSt} (hI : Inv G h f m) (x1 x2 x3 x4 x5 : Int32) : cJ l G B0 h f yX8_between wsX8_between [.int x1, .int x2, .int x3, .int x4, .int x5] (c_between m x1 x2 x3 x4 x5) := by
  obtain ⟨o, c, hI⟩ := hI
  exact cop_between hst hI x1 x2 x3 x4 x5
theorem iop_tell {l : Launch} (hst : l.stackTraces = false) {G : kG} {B0 h : Nat} {f : kH} {m : pSt} (hI : Inv G h f m) (x1 x2 x3 x4 : Int32) : cI l G B0 h f yX8_tell wsX8_tell [.int x1, .int x2, .int x3, .int x4] (c_tell m x1 x2 x3 x4) := by
  obtain ⟨o, c, hI⟩ := hI
  exact cop_tell hst hI x1 x2 x3 x4
theorem iop_append {l : Launch} (hst : l.stackTraces = false) {G : kG} {B0 h : Nat} {f : kH} {m : pSt} (hI : Inv G h f m) (x1 x2 : Int32) : cI l G B0 h f yX8_append wsX8_append [.int x1, .int x2] (c_append m x1 x2) := by
  obtain ⟨o, c, hI⟩ := hI
  exact cop_append hst hI x1 x2
theorem iop_home {l : Launch} (hst : l.stackTraces = false) {G : kG} {B0 h : Nat} {f : kH} {m : pSt} (hI : Inv G h f m) : cI l G B0 h f yX8_home wsX8_home [] (c_home m) := by
  obtain ⟨o, c, hI⟩ := hI
  exact cop_home hI
theorem iop_word {l : Launch} (hst : l.stackTraces = false) {G : kG} {B0 h : Nat} {f : kH} {m : pSt} (hI : Inv G h f m) (x1 : Int32) : cI l G B0 h f yX8_word wsX8_word [.int x1] (c_word m x1) := by
  obtain ⟨o, c, hI⟩ := hI
  exact cop_word hst hI x1
theorem iop_image {l : Launch} (hst : l.stackTraces = false) {G : kG} {B0 h : Nat} {f : kH} {m : pSt} (hI : Inv G h f m) (x1 x2 x3 : Int32) : cJ l G B0 h f yX8_image wsX8_image [.int x1, .int x2, .int x3] (c_image m x1 x2 x3) := by
  obtain ⟨o, c, hI⟩ := hI
  exact cop_image hst hI x1 x2 x3
theorem iop_nodes {l : Launch} (hst : l.stackTraces = false) {G : kG} {B0 h : Nat} {f : kH} {m : pSt} (hI : Inv G h f m) (x1 : Int32) : cI l G B0 h f yX8_nodes wsX8_nodes [.int x1] (c_nodes m x1) := by
  obtain ⟨o, c, hI⟩ := hI
  exact cop_nodes hst hI x1
theorem iop_wire {l : Launch} (hst : l.stackTraces = false) {G : kG} {B0 h : Nat} {f : kH} {m : pSt} (hI : Inv G h f m) (x1 x2 : Int32) : cI l G B0 h f yX8_wire wsX8_wire [.int x1, .int x2] (c_wire m x1 x2) := by
  obtain ⟨o, c, hI⟩ := hI
  exact cop_wire hst hI x1 x2
theorem iop_trees {l : Launch} (hst : l.stackTraces = false) {G : kG} {B0 h : Nat} {f : kH} {m : pSt} (hI : Inv G h f m) : cI l G B0 h f yX8_trees wsX8_trees [] (c_trees m) := by
  obtain ⟨o, c, hI⟩ := hI
  exact cop_trees hI
theorem iop_treesAnew {l : Launch} (hst : l.stackTraces = false) {G : kG} {B0 h : Nat} {f : kH} {m : pSt} (hI : Inv G h f m) : cI l G B0 h f yX8_treesAnew wsX8_treesAnew [] (c_treesAnew m) := by
  obtain ⟨o, c, hI⟩ := hI
  exact cop_treesAnew hI
theorem iop_side {l : Launch} (hst : l.stackTraces = false) {G : kG} {B0 h : Nat} {f : kH} {m : pSt} (hI : Inv G h f m) (x1 x2 x3 : Int32) : cI l G B0 h f yX8_side wsX8_side [.int x1, .int x2, .int x3] (c_side m x1 x2 x3) := by
  obtain ⟨o, c, hI⟩ := hI
  exact cop_side hst hI x1 x2 x3
theorem iop_radius {l : Launch} (hst : l.stackTraces = false) {G : kG} {B0 h : Nat} {f : kH} {m : pSt} (hI : Inv G h f m) (x1 x2 : Int32) : (mIn x1 m.ng ∧ mRg x2 (0) 3 → ∃ rm mc ms, p8 rm mc ms ∧ Met l yX8_radius wsX8_radius rm (kP G B0 f [.ref h, .int x1, .int x2]) (kQf G B0 (fun r f1 => r = kRad (m.fo (4 * x1.toNatClampNeg + x2.toNatClampNeg)) ∧ Inv G h f1 m)) mc ms (kAb B0)) ∧ (¬ (mIn x1 m.ng ∧ mRg x2 (0) 3) → pNo l G B0 h f yX8_radius wsX8_radius [.int x1, .int x2] 1 m) := by
  obtain ⟨o, c, hI⟩ := hI
  exact cop_radius hst hI x1 x2
theorem hdA_X8_draws : yX8_draws.cls ≠ "java/lang/invoke/MethodHandle" ∧ yX8_draws.cls ≠ "java/lang/invoke/VarHandle" ∧ (parseMethodDescriptor yX8_draws.desc).map (fun d => d.parameters.length) = some 0 := by decide +kernel
theorem hdA_X8_home : yX8_home.cls ≠ "java/lang/invoke/MethodHandle" ∧ yX8_home.cls ≠ "java/lang/invoke/VarHandle" ∧ (parseMethodDescriptor yX8_home.desc).map (fun d => d.parameters.length) = some 0 := by decide +kernel
theorem hdA_X8_trees : yX8_trees.cls ≠ "java/lang/invoke/MethodHandle" ∧ yX8_trees.cls ≠ "java/lang/invoke/VarHandle" ∧ (parseMethodDescriptor yX8_trees.desc).map (fun d => d.parameters.length) = some 0 := by decide +kernel
theorem hdA_X8_treesAnew : yX8_treesAnew.cls ≠ "java/lang/invoke/MethodHandle" ∧ yX8_treesAnew.cls ≠ "java/lang/invoke/VarHandle" ∧ (parseMethodDescriptor yX8_treesAnew.desc).map (fun d => d.parameters.length) = some 0 := by decide +kernel
theorem hdP_L_refuses : yL_refuses.cls ≠ "java/lang/invoke/MethodHandle" ∧ yL_refuses.cls ≠ "java/lang/invoke/VarHandle" ∧ (parseMethodDescriptor yL_refuses.desc).map (fun d => d.parameters.length) = some 6 := by decide +kernel
theorem hdP_L_face : yL_face.cls ≠ "java/lang/invoke/MethodHandle" ∧ yL_face.cls ≠ "java/lang/invoke/VarHandle" ∧ (parseMethodDescriptor yL_face.desc).map (fun d => d.parameters.length) = some 5 := by decide +kernel
theorem hdP_L_net : yL_net.cls ≠ "java/lang/invoke/MethodHandle" ∧ yL_net.cls ≠ "java/lang/invoke/VarHandle" ∧ (parseMethodDescriptor yL_net.desc).map (fun d => d.parameters.length) = some 4 := by decide +kernel
theorem hdP_L_around : yL_around.cls ≠ "java/lang/invoke/MethodHandle" ∧ yL_around.cls ≠ "java/lang/invoke/VarHandle" ∧ (parseMethodDescriptor yL_around.desc).map (fun d => d.parameters.length) = some 4 := by decide +kernel
theorem hdP_L_nets : yL_nets.cls ≠ "java/lang/invoke/MethodHandle" ∧ yL_nets.cls ≠ "java/lang/invoke/VarHandle" ∧ (parseMethodDescriptor yL_nets.desc).map (fun d => d.parameters.length) = some 0 := by decide +kernel
theorem hdP_L_disks : yL_disks.cls ≠ "java/lang/invoke/MethodHandle" ∧ yL_disks.cls ≠ "java/lang/invoke/VarHandle" ∧ (parseMethodDescriptor yL_disks.desc).map (fun d => d.parameters.length) = some 0 := by decide +kernel
theorem hdP_L_five : yL_five.cls ≠ "java/lang/invoke/MethodHandle" ∧ yL_five.cls ≠ "java/lang/invoke/VarHandle" ∧ (parseMethodDescriptor yL_five.desc).map (fun d => d.parameters.length) = some 0 := by decide +kernel
theorem hdP_L_roots : yL_roots.cls ≠ "java/lang/invoke/MethodHandle" ∧ yL_roots.cls ≠ "java/lang/invoke/VarHandle" ∧ (parseMethodDescriptor yL_roots.desc).map (fun d => d.parameters.length) = some 6 := by decide +kernel
theorem hdP_L_count : yL_count.cls ≠ "java/lang/invoke/MethodHandle" ∧ yL_count.cls ≠ "java/lang/invoke/VarHandle" ∧ (parseMethodDescriptor yL_count.desc).map (fun d => d.parameters.length) = some 4 := by decide +kernel
theorem hdP_L_gaskets : yL_gaskets.cls ≠ "java/lang/invoke/MethodHandle" ∧ yL_gaskets.cls ≠ "java/lang/invoke/VarHandle" ∧ (parseMethodDescriptor yL_gaskets.desc).map (fun d => d.parameters.length) = some 0 := by decide +kernel
theorem hdP_L_between : yL_between.cls ≠ "java/lang/invoke/MethodHandle" ∧ yL_between.cls ≠ "java/lang/invoke/VarHandle" ∧ (parseMethodDescriptor yL_between.desc).map (fun d => d.parameters.length) = some 7 := by decide +kernel
theorem hdP_L_fractions : yL_fractions.cls ≠ "java/lang/invoke/MethodHandle" ∧ yL_fractions.cls ≠ "java/lang/invoke/VarHandle" ∧ (parseMethodDescriptor yL_fractions.desc).map (fun d => d.parameters.length) = some 0 := by decide +kernel
theorem hdP_L_word : yL_word.cls ≠ "java/lang/invoke/MethodHandle" ∧ yL_word.cls ≠ "java/lang/invoke/VarHandle" ∧ (parseMethodDescriptor yL_word.desc).map (fun d => d.parameters.length) = some 6 := by decide +kernel
theorem hdP_L_image : yL_image.cls ≠ "java/lang/invoke/MethodHandle" ∧ yL_image.cls ≠ "java/lang/invoke/VarHandle" ∧ (parseMethodDescriptor yL_image.desc).map (fun d => d.parameters.length) = some 5 := by decide +kernel
theorem hdP_L_words : yL_words.cls ≠ "java/lang/invoke/MethodHandle" ∧ yL_words.cls ≠ "java/lang/invoke/VarHandle" ∧ (parseMethodDescriptor yL_words.desc).map (fun d => d.parameters.length) = some 0 := by decide +kernel
theorem hdP_L_rectangle : yL_rectangle.cls ≠ "java/lang/invoke/MethodHandle" ∧ yL_rectangle.cls ≠ "java/lang/invoke/VarHandle" ∧ (parseMethodDescriptor yL_rectangle.desc).map (fun d => d.parameters.length) = some 7 := by decide +kernel
theorem hdP_L_trees : yL_trees.cls ≠ "java/lang/invoke/MethodHandle" ∧ yL_trees.cls ≠ "java/lang/invoke/VarHandle" ∧ (parseMethodDescriptor yL_trees.desc).map (fun d => d.parameters.length) = some 2 := by decide +kernel
theorem hdP_L_networks : yL_networks.cls ≠ "java/lang/invoke/MethodHandle" ∧ yL_networks.cls ≠ "java/lang/invoke/VarHandle" ∧ (parseMethodDescriptor yL_networks.desc).map (fun d => d.parameters.length) = some 0 := by decide +kernel
