/-! the law's halls -/
theorem in_new : ∀ w ∈ [Cond.classLink RL 8 RX8, Cond.instantiable RX8 7, Cond.initialized RX8], w ∈ wsL_law := by decide +kernel
theorem in_ini : ∀ w ∈ [Cond.initialized RX8, Cond.methodLink RL 126 yX8_init, Cond.instanceMethod yX8_init], w ∈ wsL_law := by decide +kernel
theorem hdA_X8_init : yX8_init.cls ≠ "java/lang/invoke/MethodHandle" ∧ yX8_init.cls ≠ "java/lang/invoke/VarHandle" ∧ (parseMethodDescriptor yX8_init.desc).map (fun d => d.parameters.length) = some 0 := by decide +kernel
abbrev rmH : Room := { frames := 303, cells := 9000, slots := 72000, locals := 20200 }
abbrev rmN : Room := { frames := 304, cells := 70000, slots := 560000, locals := 20300 }
section KP0
variable {p : Program} {l : Launch} {e : Env} {R : Room} {s : State} {m : MethodId} {args : Array Value} {below : List Frame} {meth : Method} {c : Code} {H : Heap} {locs : List Loc} {cells slots : Nat} {Q : State → Prop}
variable {cc : ByteArray} {pc : Nat} {ls : Array Slot} {rest st0 : List Value} {G : kG} {B0 nL : Nat} {f : kH} {Ts : List Cond} {own : String} {a h c2 s2 idx n maxL : Nat} {mc ms : Nat} {av : Array Value} {y : MethodName} {ws ws' : List Cond} {bytes : ByteArray} {ret : Option FieldType} {As : List Value} {m1 : pSt}
theorem k_law0 {rm : Room} {v : Int32} (C : kC G B0 p m c cc nL s args Ts own) (hX : kX G B0 s f H locs) (hm : Met l y ws rm (kP G B0 f As) (kQi G B0 (fun r f1 => r = v ∧ True)) mc ms (kAb B0)) (hG : GoodIn Ts (va_wsS own idx y ws)) (hw : ws = Cond.code y bytes maxL ret :: ws') (hrc : rm.cells = mc) (hrs : rm.slots = ms) (hd : y.cls ≠ "java/lang/invoke/MethodHandle" ∧ y.cls ≠ "java/lang/invoke/VarHandle" ∧ (parseMethodDescriptor y.desc).map (fun d => d.parameters.length) = some n) (hf : rm.frames + 1 ≤ R.frames ∧ 8 + (maxL + 11) + rm.locals ≤ R.locals) (hlen : As.length = n) (hsz : ls.size = nL) (hst : st0 = As.reverse ++ rest) (hcat : (rest.map fun v => v.category).sum ≤ 8) (hdg : decode cc pc = .ok (.invokestatic idx, 3)) (hcl : c2 ≤ R.cells ∧ s2 ≤ R.slots) (h1 : cells + mc = c2) (h2 : slots + ms = s2)
    (kk : ∀ (f1 : kH) (H1 : Heap) (locs1 : List Loc), kX G B0 s f1 H1 locs1 → W p l e R s m args below meth c H1 locs1 c2 s2 Q (F0 m (pc + 3) ls (.int v :: rest))) : W p l e R s m args below meth c H locs cells slots Q (F0 m pc ls st0) := by
  refine k_calli (va_runS (As := As) (rest := rest) C.1 hm (va_cwS n C.ts hG hw hrc hrs hd hf) (k_preS C hX) rfl hlen hsz hst (lv_room hcat) hdg ⟨by rw [h1]; exact hcl.1, by rw [h2]; exact hcl.2⟩) hX (fun r f1 H locs hp hX => ?_)
  obtain ⟨hr, -⟩ := hp
  subst hr
  rw [h1, h2]
  exact kk f1 H locs hX
end KP0
