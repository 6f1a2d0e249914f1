/-! rows of the law's own body -/
theorem kbI_n01 (P : Prop) [Decidable P] : kbI P = nI 0 ∨ kbI P = nI 1 := by
  by_cases h : P
  · exact .inr (kbI_tN h).symm
  · exact .inl (kbI_fN h).symm
/-- the law's values: script, object, reference, answers, place -/
abbrev lwL (b h hm po pd i : Nat) : List (Nat × Value) := [(0, .ref b), (1, .ref h), (2, .ref hm), (3, .ref po), (4, .ref pd), (5, .int (nI i))]
theorem k_thrM (l : Launch) {G : kG} {B0 hm : Nat} {f : kH} {m2 : mSt} (h : kCs f (mCs G hm m2)) : Met l yX9_thrown wsX9_thrown rmX9_thrown (kP G B0 f [.ref hm]) (kQi G B0 (fun r f1 => r = m2.i27 ∧ f1 = f)) 0 0 (kAb B0) :=
  kX9_thrown l G B0 f hm m2.q m2.i0 m2.i1 m2.i3 m2.i7 m2.i18 m2.i22 m2.i23 m2.i27 m2.j16 m2.j17 m2.a2 m2.a4 m2.a5 m2.a6 m2.b8 m2.b9 m2.b10 m2.a11 m2.a12 m2.a13 m2.a14 m2.b15 m2.b19 m2.b20 m2.b21 m2.a24 m2.a25 m2.a26 h
theorem hdW_thrown : yX9_thrown.cls ≠ "java/lang/invoke/MethodHandle" ∧ yX9_thrown.cls ≠ "java/lang/invoke/VarHandle" ∧ (parseMethodDescriptor yX9_thrown.desc).map (fun d => d.parameters.length) = some 0 := by decide +kernel
section KLW
variable {p : Program} {l : Launch} {e : Env} {R : Room} {s : State} {m : MethodId} {args : Array Value} {below : List Frame} {meth : Method} {c : Code} {H : Heap} {locs : List Loc} {cells slots : Nat} {Q : State → Prop}
variable {cc : ByteArray} {pc : Nat} {ls : Array Slot} {rest st0 : List Value} {G : kG} {B0 nL : Nat} {f : kH} {Ts : List Cond} {own : String} {a : Nat} {mc ms : Nat} {av : Array Value} {b L : Nat} {xs : Nat → Int32}
theorem k_callX {post : Int32 → kH → Prop} (hr : vx_Run p l e R s m args below meth c H locs cells slots mc ms (F0 m pc ls st0) rest (kQi G B0 post av) (kXN G B0) (kAb B0)) (hX : kX G B0 s f H locs)
    (kk : ∀ (r : Int32) (f1 : kH) (H1 : Heap) (locs1 : List Loc), post r f1 → kX G B0 s f1 H1 locs1 → W p l e R s m args below meth c H1 locs1 (cells + mc) (slots + ms) Q (F0 m (pc + 3) ls (.int r :: rest))) : W p l e R s m args below meth c H locs cells slots Q (F0 m pc ls st0) :=
  vx_calli hr hX.2 (fun _ _ h => h) (fun _ h => h) (fun _ _ h => h) (fun _ _ _ _ _ _ _ _ _ hp _ _ _ _ _ _ _ => False.elim hp) fun r f1 t H1 locs1 ht _ hp hB _ _ hS => kk r f1 H1 locs1 hp ⟨ht ▸ hB, hS⟩
theorem k_dald (C : kC G B0 p m c cc nL s args Ts own) (hX : kX G B0 s f H locs) {n : Nat} {g : Nat → UInt64} (ha : f a = some (kaD G n g)) {i : Int32} (hin : vp_in i n) (hdg : decode cc pc = .ok (.daload, 1))
    (kk : W p l e R s m args below meth c H locs cells slots Q (F0 m (pc + 1) ls (.double (g i.toNatClampNeg) :: rest))) : W p l e R s m args below meth c H locs cells slots Q (F0 m pc ls (.int i :: .ref a :: rest)) :=
  va_dald (D := G.1) (cl := vwCl) C.x C.b C.K (hX.1.at ha) 0 5 rfl rfl hin hdg kk
/-- a number of the script -/
theorem k_arg (C : kC G B0 p m c cc nL s args Ts own) (hX : kX G B0 s f H locs) (hXs : va_X b L xs s s.heap) (hbl : b < s.heap.size) (hbA : ¬ kAb B0 b) (hL : L ≤ 3072) {i : Nat} (j : Nat) (hj : i + j < L) (h0 : ls[0]? = some (.val (.ref b))) (h5 : ls[5]? = some (.val (.int (nI i)))) {z : Fin 4} (hz : (z : Nat) = 0) {nj : Int} (hnj : Int32.ofInt nj = nI j)
    (d1 : decode cc pc = .ok (.aload_n z, 1)) (d2 : decode cc (pc + 1) = .ok (.iload 5, 2)) (d3 : decode cc (pc + 3) = .ok (.iconst nj, 1)) (d4 : decode cc (pc + 4) = .ok (.iadd, 1)) (d5 : decode cc (pc + 5) = .ok (.iaload, 1))
    (kk : W p l e R s m args below meth c H locs cells slots Q (F0 m (pc + 6) ls (.int (xs (i + j)) :: rest))) : W p l e R s m args below meth c H locs cells slots Q (F0 m pc ls rest) := by
  refine lv_aload_n C.x C.b d1 hz h0 ?_
  refine lv_iload C.x C.b d2 h5 ?_
  refine lv_iconst (v := nI j) C.x C.b d3 hnj ?_
  refine lv_iadd C.x C.b d4 ?_
  refine k_topi (y := nI (i + j)) (nI_add i j) ?_
  refine va_sld C.x C.b hXs hbl hbA hX.2 (vp_in_nI hj (by omega)) d5 ?_
  rw [nI_clamp (by omega)]
  exact kk
/-- whether a number of the script is not 0 -/
theorem k_argB (C : kC G B0 p m c cc nL s args Ts own) (hX : kX G B0 s f H locs) (hXs : va_X b L xs s s.heap) (hbl : b < s.heap.size) (hbA : ¬ kAb B0 b) (hL : L ≤ 3072) {i : Nat} (j : Nat) (hj : i + j < L) (h0 : ls[0]? = some (.val (.ref b))) (h5 : ls[5]? = some (.val (.int (nI i)))) {z : Fin 4} (hz : (z : Nat) = 0) {nj : Int} (hnj : Int32.ofInt nj = nI j)
    (d1 : decode cc pc = .ok (.aload_n z, 1)) (d2 : decode cc (pc + 1) = .ok (.iload 5, 2)) (d3 : decode cc (pc + 3) = .ok (.iconst nj, 1)) (d4 : decode cc (pc + 4) = .ok (.iadd, 1)) (d5 : decode cc (pc + 5) = .ok (.iaload, 1)) (d6 : decode cc (pc + 6) = .ok (.ifCond .eq 7, 3)) (d9 : decode cc (pc + 9) = .ok (.iconst 1, 1)) (d10 : decode cc (pc + 10) = .ok (.goto 4, 3)) (d13 : decode cc (pc + 13) = .ok (.iconst 0, 1))
    (kk : W p l e R s m args below meth c H locs cells slots Q (F0 m (pc + 14) ls (.int (kbI (¬ xs (i + j) = 0)) :: rest))) : W p l e R s m args below meth c H locs cells slots Q (F0 m pc ls rest) := by
  refine k_arg C hX hXs hbl hbA hL j hj h0 h5 hz hnj d1 d2 d3 d4 d5 ?_
  refine lv_if_eq (tgt := pc + 13) C.x C.b d6 (by omega) (fun q => ?_) (fun q => ?_)
  · refine lv_iconst (v := 0) C.x C.b d13 (by decide) ?_
    exact k_topi (kbI_f (fun z => z q)) kk
  · refine lv_iconst (v := 1) C.x C.b d9 (by decide) ?_
    refine lv_goto (tgt := pc + 14) C.x C.b d10 (by omega) ?_
    exact k_topi (kbI_t q) kk
/-- what the reference threw against what the class threw -/
theorem k_thr (C : kC G B0 p m c cc 9 s args wsL_law RL) (hX : kX G B0 s f H locs) {hm k : Nat} {m2 : mSt} (hcm : kCs f (mCs G hm m2)) (h27 : m2.i27 = nI k) (hk : k < 4) (hsz : ls.size = 9) (h2 : ls[2]? = some (.val (.ref hm))) (h6 : ls[6]? = some (.val (.int (nI k)))) (hR : 302 ≤ R.frames ∧ 21000 ≤ R.locals) (hcl : cells ≤ R.cells ∧ slots ≤ R.slots) {z : Fin 4} (hz : (z : Nat) = 2) {off : Int} {tgt : Nat} (ht : ((pc + 13 : Nat) : Int) + off = (tgt : Int))
    (d0 : decode cc pc = .ok (.aload_n z, 1)) (d1 : decode cc (pc + 1) = .ok (.invokevirtual 112, 3)) (d4 : decode cc (pc + 4) = .ok (.iload 6, 2)) (d6 : decode cc (pc + 6) = .ok (.if_icmp .eq 5, 3)) (d11 : decode cc (pc + 11) = .ok (.iload 6, 2)) (d13 : decode cc (pc + 13) = .ok (.ifCond .ne off, 3))
    (k0 : k = 0 → ∀ (H1 : Heap) (locs1 : List Loc), kX G B0 s f H1 locs1 → W p l e R s m args below meth c H1 locs1 cells slots Q (F0 m (pc + 16) ls []))
    (k1 : ∀ (H1 : Heap) (locs1 : List Loc), kX G B0 s f H1 locs1 → W p l e R s m args below meth c H1 locs1 cells slots Q (F0 m tgt ls [])) : W p l e R s m args below meth c H locs cells slots Q (F0 m pc ls []) := by
  refine lv_aload_n C.x C.b d0 hz h2 ?_
  refine k_calli (va_runV (As := []) (rest := []) C.1 (k_thrM l hcm) (cwV 0 C.ts gL_law_X9_thrown rfl rfl rfl ⟨rfl, hdW_thrown⟩ ⟨Nat.le_trans (Nat.le_of_ble_eq_true rfl : rmX9_thrown.frames + 1 ≤ 302) hR.1, Nat.le_trans (Nat.le_of_ble_eq_true rfl : 8 + (1 + 11) + rmX9_thrown.locals ≤ 21000) hR.2⟩) (k_preV C hX (hcm.at 0 rfl) rfl) rfl rfl hsz rfl (lv_room (Nat.le_of_ble_eq_true rfl)) d1 ⟨hcl.1, hcl.2⟩) hX (fun r f1 H9 locs9 hp hX9 => ?_)
  obtain ⟨hr, hf⟩ := hp
  rw [hf] at hX9
  rw [h27] at hr
  subst hr
  refine lv_iload C.x C.b d4 h6 ?_
  refine lv_icmp_eq (tgt := pc + 11) C.x C.b d6 (by omega) (fun _ => ?_) (fun q => absurd rfl q)
  refine lv_iload C.x C.b d11 h6 ?_
  refine lv_if_ne (tgt := tgt) C.x C.b d13 ht (fun _ => k1 H9 locs9 hX9) (fun q => k0 ?_ H9 locs9 hX9)
  exact Decidable.byContradiction fun z => nI_ne0 (by omega) (by omega) q
theorem k_cmpI (C : kC G B0 p m c cc nL s args Ts own) (hX : kX G B0 s f H locs) {po : Nat} {g : Nat → Int64} {r : Int32} (hpo : f po = some (kaJ G 1 g)) (hg : g 0 = r.toInt64) (h3 : ls[3]? = some (.val (.ref po))) (h7 : ls[7]? = some (.val (.int r))) {z : Fin 4} (hz : (z : Nat) = 3)
    (d0 : decode cc pc = .ok (.aload_n z, 1)) (d1 : decode cc (pc + 1) = .ok (.iconst 0, 1)) (d2 : decode cc (pc + 2) = .ok (.laload, 1)) (d3 : decode cc (pc + 3) = .ok (.iload 7, 2)) (d5 : decode cc (pc + 5) = .ok (.i2l, 1)) (d6 : decode cc (pc + 6) = .ok (.lcmp, 1)) (d7 : decode cc (pc + 7) = .ok (.ifCond .eq 5, 3))
    (kk : W p l e R s m args below meth c H locs cells slots Q (F0 m (pc + 12) ls rest)) : W p l e R s m args below meth c H locs cells slots Q (F0 m pc ls rest) := by
  refine lv_aload_n C.x C.b d0 hz h3 ?_
  refine lv_iconst (v := nI 0) C.x C.b d1 (by decide) ?_
  refine k_lald C hX hpo vp_in01 d2 ?_
  refine lv_iload C.x C.b d3 h7 ?_
  refine lv_i2l (v := r.toInt64) C.x C.b d5 rfl ?_
  refine k_lcmp_eq (tgt := pc + 12) C.x C.b d6 d7 (by omega) (fun _ => kk) (fun q => absurd ?_ q)
  rw [nI_clamp (by decide)]
  exact hg
theorem k_cmpL (C : kC G B0 p m c cc nL s args Ts own) (hX : kX G B0 s f H locs) {po : Nat} {g : Nat → Int64} {r : Int64} (hpo : f po = some (kaJ G 1 g)) (hg : g 0 = r) (h3 : ls[3]? = some (.val (.ref po))) (h7 : ls[7]? = some (.val (.long r))) {z : Fin 4} (hz : (z : Nat) = 3)
    (d0 : decode cc pc = .ok (.aload_n z, 1)) (d1 : decode cc (pc + 1) = .ok (.iconst 0, 1)) (d2 : decode cc (pc + 2) = .ok (.laload, 1)) (d3 : decode cc (pc + 3) = .ok (.lload 7, 2)) (d5 : decode cc (pc + 5) = .ok (.lcmp, 1)) (d6 : decode cc (pc + 6) = .ok (.ifCond .eq 5, 3))
    (kk : W p l e R s m args below meth c H locs cells slots Q (F0 m (pc + 11) ls rest)) : W p l e R s m args below meth c H locs cells slots Q (F0 m pc ls rest) := by
  refine lv_aload_n C.x C.b d0 hz h3 ?_
  refine lv_iconst (v := nI 0) C.x C.b d1 (by decide) ?_
  refine k_lald C hX hpo vp_in01 d2 ?_
  refine lv_lload C.x C.b d3 h7 ?_
  refine k_lcmp_eq (tgt := pc + 11) C.x C.b d5 d6 (by omega) (fun _ => kk) (fun q => absurd ?_ q)
  rw [nI_clamp (by decide)]
  exact hg
theorem k_cmpD (C : kC G B0 p m c cc nL s args Ts own) (hX : kX G B0 s f H locs) {pd : Nat} {g : Nat → UInt64} {x : Int64} {r : UInt32} (hr : r = kRad x) (hpd : f pd = some (kaD G 1 g)) (hg : g 0 = FP.f2d r) (h4 : ls[4]? = some (.val (.ref pd))) (h7 : ls[7]? = some (.val (.float r))) {off : Int} {tgt : Nat} (ht : ((pc + 8 : Nat) : Int) + off = (tgt : Int)) {op : CmpOp}
    (d0 : decode cc pc = .ok (.aload 4, 2)) (d2 : decode cc (pc + 2) = .ok (.iconst 0, 1)) (d3 : decode cc (pc + 3) = .ok (.daload, 1)) (d4 : decode cc (pc + 4) = .ok (.fload 7, 2)) (d6 : decode cc (pc + 6) = .ok (.f2d, 1)) (d7 : decode cc (pc + 7) = .ok (.dcmp op, 1)) (d8 : decode cc (pc + 8) = .ok (.ifCond .eq off, 3))
    (kk : W p l e R s m args below meth c H locs cells slots Q (F0 m tgt ls rest)) : W p l e R s m args below meth c H locs cells slots Q (F0 m pc ls rest) := by
  subst hr
  refine lv_aload C.x C.b d0 h4 ?_
  refine lv_iconst (v := nI 0) C.x C.b d2 (by decide) ?_
  refine k_dald C hX hpd vp_in01 d3 ?_
  refine lv_fload C.x C.b d4 h7 ?_
  refine lv_f2d C.x C.b d6 (kRad_d x).1 ?_
  refine lv_dcmp C.x C.b d7 ?_
  have h1 : g (nI 0).toNatClampNeg = FP.f2d (kRad x) := by rw [nI_clamp (by decide)]; exact hg
  have h2 : Op.cmpValue (FP.dcmp (FP.f2d (kRad x)) (FP.f2d (kRad x))) op = 0 := by
    rw [show FP.dcmp (FP.f2d (kRad x)) (FP.f2d (kRad x)) = some .eq from FP.Core.dcmp_self (kRad_d x).2]
    rfl
  refine k_topi (y := 0) (by rw [h1]; exact h2) ?_
  exact lv_if_eq (tgt := tgt) C.x C.b d8 ht (fun _ => kk) (fun q => absurd rfl q)
end KLW
