section KR5
variable {p : Program} {l : Launch} {e : Env} {R : Room} {s : State} {m : MethodId} {args : Array Value} {below : List Frame} {meth : Method} {c : Code} {H : Heap} {locs : List Loc} {cells slots : Nat} {Q : State → Prop}
variable {cc : ByteArray} {pc : Nat} {ls : Array Slot} {rest : List Value} {G : kG} {B0 nL : Nat} {f : kH} {Ts : List Cond} {own : String} {a : Nat} {mc ms : Nat}
theorem k_copyJ (C : kC G B0 p m c cc nL s args Ts own) (hml : c.maxLocals = ls.size) (hX : kX G B0 s f H locs) {index n0 n1 a0 : Nat} {g0 g1 : Nat → Int64} (hk : ∀ w ∈ [Cond.methodLink own index arraycopyName, Cond.native arraycopyName, Cond.static arraycopyName, Cond.initialized "java/lang/System"], w ∈ Ts) (ha0 : f a0 = some (kaJ G n0 g0)) (ha : f a = some (kaJ G n1 g1)) {n9 : Nat} (h9 : n9 < 2 ^ 31) (hn0 : n9 ≤ n0) (hn1 : n9 ≤ n1) (hf : 1 ≤ R.frames) (hlo : (rest.map fun v => v.category).sum + (nativeFrameWords "java/lang/System" "arraycopy" 5 + 11) ≤ R.locals) (hdg : decode cc pc = .ok (.invokestatic index, 3))
    (kk : ∀ (H1 : Heap) (locs1 : List Loc), kX G B0 s (kst f a (kaJ G n1 (fun j9 => if j9 < n9 then g0 j9 else g1 j9))) H1 locs1 → W p l e R s m args below meth c H1 locs1 cells slots Q (F0 m (pc + 3) ls rest)) : W p l e R s m args below meth c H locs cells slots Q (F0 m pc ls (.int (nI n9) :: .int (nI 0) :: .ref a :: .int (nI 0) :: .ref a0 :: rest)) := by
  obtain ⟨L, hL, hP, hD⟩ := hX.P
  obtain ⟨hm, q1, h1, h2⟩ := kX.look ha hL
  obtain ⟨-, q0, -, h3⟩ := kX.look ha0 hL
  refine va_copyl (D := G.1) (cl := vwCl) C.x C.b hml C.ow (C.ts _ (hk _ (by simp))) (C.ts _ (hk _ (by simp))) (C.ts _ (hk _ (by simp))) (C.ts _ (hk _ (by simp))) C.K hP hD hX.2 q0 q1 1 1 h3 h2 rfl rfl rfl (by decide) (by decide) (nI_nn h9) (by rw [nI_clamp h9]; show 0 + n9 ≤ n0; omega) (by rw [nI_clamp h9]; show 0 + n9 ≤ n1; omega) (fun i hi => rfl) hf hlo hdg fun H1 locs1 hP1 hD1 hS1 => kk H1 locs1 ?_
  have e9 : va_cpy g0 g1 (nI 0).toNatClampNeg (nI 0).toNatClampNeg (nI n9).toNatClampNeg = (fun j9 => if j9 < n9 then g0 j9 else g1 j9) := by
    rw [nI_clamp h9]
    funext j
    show (if 0 ≤ j ∧ j < 0 + n9 then g0 (0 + (j - 0)) else g1 j) = _
    by_cases hj : j < n9
    · rw [if_pos ⟨Nat.zero_le _, by omega⟩, if_pos hj]; congr 1; omega
    · rw [if_neg (by omega), if_neg hj]
  rw [e9] at hP1 hD1
  exact kX.back hL hD hm h1 hP1 hD1 hS1
end KR5
/-- the whole root of a square, as it is found -/
def xWhole (s9 : Int64) : Int64 := xWr s9 (((nI 64 - jNl s9) / nI 2).toNatClampNeg + 1) 0
def jNlOk : Prop := ∀ s9 : Int64, (nI 64 - jNl s9) / nI 2 = nI ((nI 64 - jNl s9) / nI 2).toNatClampNeg ∧ ((nI 64 - jNl s9) / nI 2).toNatClampNeg ≤ 40
def cInn (a b c : Int64) : Int64 := a + b + c + 2 * xWhole (a * b + b * c + c * a)
def cAm (bd : Int32) : Nat → Int64 → Int64 → Int64 → Int32
  | 0, _, _, _ => nI 0
  | n + 1, a, b, c => if bd.toInt64 < cInn a b c then nI 0 else nI 1 + cAm bd n a b (cInn a b c) + cAm bd n b c (cInn a b c) + cAm bd n c a (cInn a b c)
def cRs (F : (Nat → Int64) → Int32 → Int32) (bd : Int32) (g : Nat → Int64) (la : Int32) : Nat → Int32
  | 0 => nI 0
  | k + 1 => if ¬ nI k = la ∧ xTurn g k ≤ bd.toInt64 then cRs F bd g la k + (nI 1 + F (vp_updL g k (xTurn g k)) (nI k)) else cRs F bd g la k
def cRw (bd : Int32) : Nat → (Nat → Int64) → Int32 → Int32
  | 0 => fun _ _ => nI 0
  | n + 1 => fun g la => cRs (cRw bd n) bd g la 4
theorem kRest {g : Nat → Int64} {k : Nat} {v : Int64} : vp_updL (vp_updL g k v) k (g k) = g := by
  funext j
  simp only [vp_updL]
  split
  · rename_i h; rw [h]
  · rfl
abbrev rmX2cA (nd : Nat) : Room := { frames := nd + 3, cells := 0, slots := 0, locals := nd * 29 + 69 }
abbrev rmX2cR (nd : Nat) : Room := { frames := nd + 1, cells := 0, slots := 0, locals := nd * 29 + 23 }

theorem lk_X2_circlesAmong_c35 : Cond.constantLong RX2 35 (2) ∈ wsX2_circlesAmong := by decide +kernel
theorem hdX2_circlesAmong_X2_wholeRoot : yX2_wholeRoot.cls ≠ "java/lang/invoke/MethodHandle" ∧ yX2_wholeRoot.cls ≠ "java/lang/invoke/VarHandle" ∧ (parseMethodDescriptor yX2_wholeRoot.desc).map (fun d => d.parameters.length) = some 1 := by decide +kernel
set_option maxHeartbeats 4000000 in
set_option maxRecDepth 100000 in
/-- X2_circlesAmong_z -/
theorem kX2_circlesAmong_z (l : Launch) (G : kG) (B0 : Nat) (f : kH) (bd : Int32) (dp : Nat) (x1 x2 x3 : Int64) (hW : jNlOk) (hd : dp + 0 = 100) : Met l yX2_circlesAmong wsX2_circlesAmong (rmX2cA 0) (kP G B0 f [.long x1, .long x2, .long x3, .int bd, .int (nI dp)]) (kQi G B0 (fun r f1 => r = cAm bd 0 x1 x2 x3 ∧ f1 = f)) 0 0 (kAb B0) := by
  refine kMet (cc := cX2_circlesAmong) (maxL := 10) (ret := (some .int)) (by decide) rfl (Nat.le_of_ble_eq_true rfl) ?_
  intro p e s m args below meth c H locs Q ls C hX hl hr hlocks hnm hQ
  have hl : lv_has ls 10 [(0, .long x1), (2, .long x2), (4, .long x3), (6, .int bd), (7, .int (nI dp))] := hl
  refine lv_lload_n C.x C.b dX2_circlesAmong_0 rfl (lv_at hl 0 rfl) ?_
  refine lv_lload_n C.x C.b dX2_circlesAmong_1 rfl (lv_at hl 1 rfl) ?_
  refine lv_ladd C.x C.b dX2_circlesAmong_2 ?_
  refine lv_lload C.x C.b dX2_circlesAmong_3 (lv_at hl 2 rfl) ?_
  refine lv_ladd C.x C.b dX2_circlesAmong_5 ?_
  refine lv_ldc2 (v := 2) C.x C.b C.ow (C.ts _ lk_X2_circlesAmong_c35) dX2_circlesAmong_6 ?_
  refine lv_lload_n C.x C.b dX2_circlesAmong_9 rfl (lv_at hl 0 rfl) ?_
  refine lv_lload_n C.x C.b dX2_circlesAmong_10 rfl (lv_at hl 1 rfl) ?_
  refine lv_lmul C.x C.b dX2_circlesAmong_11 ?_
  refine lv_lload_n C.x C.b dX2_circlesAmong_12 rfl (lv_at hl 1 rfl) ?_
  refine lv_lload C.x C.b dX2_circlesAmong_13 (lv_at hl 2 rfl) ?_
  refine lv_lmul C.x C.b dX2_circlesAmong_15 ?_
  refine lv_ladd C.x C.b dX2_circlesAmong_16 ?_
  refine lv_lload C.x C.b dX2_circlesAmong_17 (lv_at hl 2 rfl) ?_
  refine lv_lload_n C.x C.b dX2_circlesAmong_19 rfl (lv_at hl 0 rfl) ?_
  refine lv_lmul C.x C.b dX2_circlesAmong_20 ?_
  refine lv_ladd C.x C.b dX2_circlesAmong_21 ?_
  refine k_calll (va_runS (As := [.long (((x1 * x2) + (x2 * x3)) + (x3 * x1))]) (rest := [.long 2, .long ((x1 + x2) + x3)]) C.1 (kX2_wholeRoot l G B0 f (x1 * x2 + x2 * x3 + x3 * x1) _ (hW _).1 (hW _).2) (va_cwS 1 C.ts gX2_circlesAmong_X2_wholeRoot rfl rfl rfl (hdX2_circlesAmong_X2_wholeRoot) ⟨(by first | exact Nat.le_of_ble_eq_true rfl | (simp only [rmX2cA, rmX2_wholeRoot]; omega)), (by first | exact Nat.le_of_ble_eq_true rfl | (simp only [rmX2cA, rmX2_wholeRoot]; omega))⟩) (k_preS C hX) rfl rfl hl.1 rfl (lv_room (Nat.le_of_ble_eq_true rfl)) dX2_circlesAmong_22 ⟨(by first | exact Nat.le_of_ble_eq_true rfl | (simp only [rmX2cA, rmX2_wholeRoot]; omega)), (by first | exact Nat.le_of_ble_eq_true rfl | (simp only [rmX2cA, rmX2_wholeRoot]; omega))⟩) hX (fun r22 f22 H locs hp22 hX => ?_)
  obtain ⟨hr22, hf22⟩ := hp22
  rw [hf22] at hX
  refine k_topl (y := (xWhole (x1 * x2 + x2 * x3 + x3 * x1))) hr22 ?_
  refine lv_lmul C.x C.b dX2_circlesAmong_25 ?_
  refine lv_ladd C.x C.b dX2_circlesAmong_26 ?_
  refine k_topl (y := (cInn x1 x2 x3)) (by rfl) ?_
  refine lv_lstore (lv' := [(8, .long (cInn x1 x2 x3)), (0, .long x1), (2, .long x2), (4, .long x3), (6, .int bd), (7, .int (nI dp))]) C.x C.b dX2_circlesAmong_27 hl (by decide) rfl (fun ls hl => ?_)
  refine lv_lload C.x C.b dX2_circlesAmong_29 (lv_at hl 0 rfl) ?_
  refine lv_iload C.x C.b dX2_circlesAmong_31 (lv_at hl 4 rfl) ?_
  refine lv_i2l (v := bd.toInt64) C.x C.b dX2_circlesAmong_33 rfl ?_
  refine k_lcmp_gt (tgt := 45) C.x C.b dX2_circlesAmong_34 dX2_circlesAmong_35 (by decide) (fun c_35 => ?_) (fun c_35 => ?_)
  · skip
    refine lv_iconst (v := nI 0) C.x C.b dX2_circlesAmong_45 (by decide) ?_
    exact k_iret C hX hr hlocks hQ (by omega) (by omega) (⟨rfl, rfl⟩) dX2_circlesAmong_46
  · skip
    refine lv_iload C.x C.b dX2_circlesAmong_38 (lv_at hl 5 rfl) ?_
    refine lv_bipush (v := nI 100) C.x C.b dX2_circlesAmong_40 (by decide) ?_
    refine lv_icmp_lt (tgt := 47) C.x C.b dX2_circlesAmong_42 (by decide) (fun c_42 => ?_) (fun c_42 => ?_)
    · skip
      have c_42 : dp < 100 := (nI_ltI (by omega) (by omega)).mp c_42
      omega
    have c_42 : ¬ (dp < 100) := fun h9 => c_42 ((nI_ltI (by omega) (by omega)).mpr h9)
    refine lv_iconst (v := nI 0) C.x C.b dX2_circlesAmong_45 (by decide) ?_
    exact k_iret C hX hr hlocks hQ (by omega) (by omega) (⟨rfl, rfl⟩) dX2_circlesAmong_46

theorem hdX2_circlesAmong_X2_circlesAmong : yX2_circlesAmong.cls ≠ "java/lang/invoke/MethodHandle" ∧ yX2_circlesAmong.cls ≠ "java/lang/invoke/VarHandle" ∧ (parseMethodDescriptor yX2_circlesAmong.desc).map (fun d => d.parameters.length) = some 5 := by decide +kernel
set_option maxHeartbeats 4000000 in
set_option maxRecDepth 100000 in
/-- X2_circlesAmong_s -/
theorem kX2_circlesAmong_s (l : Launch) (G : kG) (B0 : Nat) (f : kH) (bd : Int32) (dp : Nat) (x1 x2 x3 : Int64) (hW : jNlOk) (nd : Nat) (hd : dp + (nd + 1) = 100) (ih : ∀ (f : kH) (dp : Nat) (x1 x2 x3 : Int64), dp + nd = 100 → Met l yX2_circlesAmong wsX2_circlesAmong (rmX2cA nd) (kP G B0 f [.long x1, .long x2, .long x3, .int bd, .int (nI dp)]) (kQi G B0 (fun r f1 => r = cAm bd nd x1 x2 x3 ∧ f1 = f)) 0 0 (kAb B0)) : Met l yX2_circlesAmong wsX2_circlesAmong (rmX2cA (nd + 1)) (kP G B0 f [.long x1, .long x2, .long x3, .int bd, .int (nI dp)]) (kQi G B0 (fun r f1 => r = cAm bd (nd + 1) x1 x2 x3 ∧ f1 = f)) 0 0 (kAb B0) := by
  refine kMet (cc := cX2_circlesAmong) (maxL := 10) (ret := (some .int)) (by decide) rfl (Nat.le_of_ble_eq_true rfl) ?_
  intro p e s m args below meth c H locs Q ls C hX hl hr hlocks hnm hQ
  have hl : lv_has ls 10 [(0, .long x1), (2, .long x2), (4, .long x3), (6, .int bd), (7, .int (nI dp))] := hl
  refine lv_lload_n C.x C.b dX2_circlesAmong_0 rfl (lv_at hl 0 rfl) ?_
  refine lv_lload_n C.x C.b dX2_circlesAmong_1 rfl (lv_at hl 1 rfl) ?_
  refine lv_ladd C.x C.b dX2_circlesAmong_2 ?_
  refine lv_lload C.x C.b dX2_circlesAmong_3 (lv_at hl 2 rfl) ?_
  refine lv_ladd C.x C.b dX2_circlesAmong_5 ?_
  refine lv_ldc2 (v := 2) C.x C.b C.ow (C.ts _ lk_X2_circlesAmong_c35) dX2_circlesAmong_6 ?_
  refine lv_lload_n C.x C.b dX2_circlesAmong_9 rfl (lv_at hl 0 rfl) ?_
  refine lv_lload_n C.x C.b dX2_circlesAmong_10 rfl (lv_at hl 1 rfl) ?_
  refine lv_lmul C.x C.b dX2_circlesAmong_11 ?_
  refine lv_lload_n C.x C.b dX2_circlesAmong_12 rfl (lv_at hl 1 rfl) ?_
  refine lv_lload C.x C.b dX2_circlesAmong_13 (lv_at hl 2 rfl) ?_
  refine lv_lmul C.x C.b dX2_circlesAmong_15 ?_
  refine lv_ladd C.x C.b dX2_circlesAmong_16 ?_
  refine lv_lload C.x C.b dX2_circlesAmong_17 (lv_at hl 2 rfl) ?_
  refine lv_lload_n C.x C.b dX2_circlesAmong_19 rfl (lv_at hl 0 rfl) ?_
  refine lv_lmul C.x C.b dX2_circlesAmong_20 ?_
  refine lv_ladd C.x C.b dX2_circlesAmong_21 ?_
  refine k_calll (va_runS (As := [.long (((x1 * x2) + (x2 * x3)) + (x3 * x1))]) (rest := [.long 2, .long ((x1 + x2) + x3)]) C.1 (kX2_wholeRoot l G B0 f (x1 * x2 + x2 * x3 + x3 * x1) _ (hW _).1 (hW _).2) (va_cwS 1 C.ts gX2_circlesAmong_X2_wholeRoot rfl rfl rfl (hdX2_circlesAmong_X2_wholeRoot) ⟨(by first | exact Nat.le_of_ble_eq_true rfl | (simp only [rmX2cA, rmX2_wholeRoot]; omega)), (by first | exact Nat.le_of_ble_eq_true rfl | (simp only [rmX2cA, rmX2_wholeRoot]; omega))⟩) (k_preS C hX) rfl rfl hl.1 rfl (lv_room (Nat.le_of_ble_eq_true rfl)) dX2_circlesAmong_22 ⟨(by first | exact Nat.le_of_ble_eq_true rfl | (simp only [rmX2cA, rmX2_wholeRoot]; omega)), (by first | exact Nat.le_of_ble_eq_true rfl | (simp only [rmX2cA, rmX2_wholeRoot]; omega))⟩) hX (fun r22 f22 H locs hp22 hX => ?_)
  obtain ⟨hr22, hf22⟩ := hp22
  rw [hf22] at hX
  refine k_topl (y := (xWhole (x1 * x2 + x2 * x3 + x3 * x1))) hr22 ?_
  refine lv_lmul C.x C.b dX2_circlesAmong_25 ?_
  refine lv_ladd C.x C.b dX2_circlesAmong_26 ?_
  refine k_topl (y := (cInn x1 x2 x3)) (by rfl) ?_
  refine lv_lstore (lv' := [(8, .long (cInn x1 x2 x3)), (0, .long x1), (2, .long x2), (4, .long x3), (6, .int bd), (7, .int (nI dp))]) C.x C.b dX2_circlesAmong_27 hl (by decide) rfl (fun ls hl => ?_)
  refine lv_lload C.x C.b dX2_circlesAmong_29 (lv_at hl 0 rfl) ?_
  refine lv_iload C.x C.b dX2_circlesAmong_31 (lv_at hl 4 rfl) ?_
  refine lv_i2l (v := bd.toInt64) C.x C.b dX2_circlesAmong_33 rfl ?_
  refine k_lcmp_gt (tgt := 45) C.x C.b dX2_circlesAmong_34 dX2_circlesAmong_35 (by decide) (fun c_35 => ?_) (fun c_35 => ?_)
  · skip
    refine lv_iconst (v := nI 0) C.x C.b dX2_circlesAmong_45 (by decide) ?_
    exact k_iret C hX hr hlocks hQ (by omega) (by omega) (by refine ⟨?_, rfl⟩; first | (rw [cAm, if_pos c_35]; done) | (rw [cAm, if_neg c_35]; done)) dX2_circlesAmong_46
  · skip
    refine lv_iload C.x C.b dX2_circlesAmong_38 (lv_at hl 5 rfl) ?_
    refine lv_bipush (v := nI 100) C.x C.b dX2_circlesAmong_40 (by decide) ?_
    refine lv_icmp_lt (tgt := 47) C.x C.b dX2_circlesAmong_42 (by decide) (fun c_42 => ?_) (fun c_42 => ?_)
    rotate_left
    · skip
      have c_42 : ¬ (dp < 100) := fun h9 => c_42 ((nI_ltI (by omega) (by omega)).mpr h9)
      omega
    have c_42 : dp < 100 := (nI_ltI (by omega) (by omega)).mp c_42
    refine lv_iconst (v := nI 1) C.x C.b dX2_circlesAmong_47 (by decide) ?_
    refine lv_lload_n C.x C.b dX2_circlesAmong_48 rfl (lv_at hl 1 rfl) ?_
    refine lv_lload_n C.x C.b dX2_circlesAmong_49 rfl (lv_at hl 2 rfl) ?_
    refine lv_lload C.x C.b dX2_circlesAmong_50 (lv_at hl 0 rfl) ?_
    refine lv_iload C.x C.b dX2_circlesAmong_52 (lv_at hl 4 rfl) ?_
    refine lv_iload C.x C.b dX2_circlesAmong_54 (lv_at hl 5 rfl) ?_
    refine lv_iconst (v := nI 1) C.x C.b dX2_circlesAmong_56 (by decide) ?_
    refine lv_iadd C.x C.b dX2_circlesAmong_57 ?_
    refine k_topi (y := nI (dp + 1)) (nI_add _ _) ?_
    refine k_calli (va_runS (As := [.long x1, .long x2, .long (cInn x1 x2 x3), .int bd, .int (nI (dp + 1))]) (rest := [.int (nI 1)]) C.1 (ih f (dp + 1) x1 x2 (cInn x1 x2 x3) (by omega)) (va_cwS 5 C.ts gX2_circlesAmong_X2_circlesAmong rfl rfl rfl (hdX2_circlesAmong_X2_circlesAmong) ⟨(by first | exact Nat.le_of_ble_eq_true rfl | (simp only [rmX2cA, rmX2cA]; omega)), (by first | exact Nat.le_of_ble_eq_true rfl | (simp only [rmX2cA, rmX2cA]; omega))⟩) (k_preS C hX) rfl rfl hl.1 rfl (lv_room (Nat.le_of_ble_eq_true rfl)) dX2_circlesAmong_58 ⟨(by first | exact Nat.le_of_ble_eq_true rfl | (simp only [rmX2cA, rmX2cA]; omega)), (by first | exact Nat.le_of_ble_eq_true rfl | (simp only [rmX2cA, rmX2cA]; omega))⟩) hX (fun r58 f58 H locs hp58 hX => ?_)
    obtain ⟨hr58, hf58⟩ := hp58
    rw [hf58] at hX
    refine k_topi (y := (cAm bd nd x1 x2 (cInn x1 x2 x3))) hr58 ?_
    refine lv_iadd C.x C.b dX2_circlesAmong_61 ?_
    refine lv_lload_n C.x C.b dX2_circlesAmong_62 rfl (lv_at hl 2 rfl) ?_
    refine lv_lload C.x C.b dX2_circlesAmong_63 (lv_at hl 3 rfl) ?_
    refine lv_lload C.x C.b dX2_circlesAmong_65 (lv_at hl 0 rfl) ?_
    refine lv_iload C.x C.b dX2_circlesAmong_67 (lv_at hl 4 rfl) ?_
    refine lv_iload C.x C.b dX2_circlesAmong_69 (lv_at hl 5 rfl) ?_
    refine lv_iconst (v := nI 1) C.x C.b dX2_circlesAmong_71 (by decide) ?_
    refine lv_iadd C.x C.b dX2_circlesAmong_72 ?_
    refine k_topi (y := nI (dp + 1)) (nI_add _ _) ?_
    refine k_calli (va_runS (As := [.long x2, .long x3, .long (cInn x1 x2 x3), .int bd, .int (nI (dp + 1))]) (rest := [.int ((nI 1) + (cAm bd nd x1 x2 (cInn x1 x2 x3)))]) C.1 (ih f (dp + 1) x2 x3 (cInn x1 x2 x3) (by omega)) (va_cwS 5 C.ts gX2_circlesAmong_X2_circlesAmong rfl rfl rfl (hdX2_circlesAmong_X2_circlesAmong) ⟨(by first | exact Nat.le_of_ble_eq_true rfl | (simp only [rmX2cA, rmX2cA]; omega)), (by first | exact Nat.le_of_ble_eq_true rfl | (simp only [rmX2cA, rmX2cA]; omega))⟩) (k_preS C hX) rfl rfl hl.1 rfl (lv_room (Nat.le_of_ble_eq_true rfl)) dX2_circlesAmong_73 ⟨(by first | exact Nat.le_of_ble_eq_true rfl | (simp only [rmX2cA, rmX2cA]; omega)), (by first | exact Nat.le_of_ble_eq_true rfl | (simp only [rmX2cA, rmX2cA]; omega))⟩) hX (fun r73 f73 H locs hp73 hX => ?_)
    obtain ⟨hr73, hf73⟩ := hp73
    rw [hf73] at hX
    refine k_topi (y := (cAm bd nd x2 x3 (cInn x1 x2 x3))) hr73 ?_
    refine lv_iadd C.x C.b dX2_circlesAmong_76 ?_
    refine lv_lload C.x C.b dX2_circlesAmong_77 (lv_at hl 3 rfl) ?_
    refine lv_lload_n C.x C.b dX2_circlesAmong_79 rfl (lv_at hl 1 rfl) ?_
    refine lv_lload C.x C.b dX2_circlesAmong_80 (lv_at hl 0 rfl) ?_
    refine lv_iload C.x C.b dX2_circlesAmong_82 (lv_at hl 4 rfl) ?_
    refine lv_iload C.x C.b dX2_circlesAmong_84 (lv_at hl 5 rfl) ?_
    refine lv_iconst (v := nI 1) C.x C.b dX2_circlesAmong_86 (by decide) ?_
    refine lv_iadd C.x C.b dX2_circlesAmong_87 ?_
    refine k_topi (y := nI (dp + 1)) (nI_add _ _) ?_
    refine k_calli (va_runS (As := [.long x3, .long x1, .long (cInn x1 x2 x3), .int bd, .int (nI (dp + 1))]) (rest := [.int (((nI 1) + (cAm bd nd x1 x2 (cInn x1 x2 x3))) + (cAm bd nd x2 x3 (cInn x1 x2 x3)))]) C.1 (ih f (dp + 1) x3 x1 (cInn x1 x2 x3) (by omega)) (va_cwS 5 C.ts gX2_circlesAmong_X2_circlesAmong rfl rfl rfl (hdX2_circlesAmong_X2_circlesAmong) ⟨(by first | exact Nat.le_of_ble_eq_true rfl | (simp only [rmX2cA, rmX2cA]; omega)), (by first | exact Nat.le_of_ble_eq_true rfl | (simp only [rmX2cA, rmX2cA]; omega))⟩) (k_preS C hX) rfl rfl hl.1 rfl (lv_room (Nat.le_of_ble_eq_true rfl)) dX2_circlesAmong_88 ⟨(by first | exact Nat.le_of_ble_eq_true rfl | (simp only [rmX2cA, rmX2cA]; omega)), (by first | exact Nat.le_of_ble_eq_true rfl | (simp only [rmX2cA, rmX2cA]; omega))⟩) hX (fun r88 f88 H locs hp88 hX => ?_)
    obtain ⟨hr88, hf88⟩ := hp88
    rw [hf88] at hX
    refine k_topi (y := (cAm bd nd x3 x1 (cInn x1 x2 x3))) hr88 ?_
    refine lv_iadd C.x C.b dX2_circlesAmong_91 ?_
    exact k_iret C hX hr hlocks hQ (by omega) (by omega) (by refine ⟨?_, rfl⟩; first | (rw [cAm, if_pos c_35]; done) | (rw [cAm, if_neg c_35]; done)) dX2_circlesAmong_92

set_option maxHeartbeats 4000000 in
set_option maxRecDepth 100000 in
/-- X2_circlesOfRows_z -/
theorem kX2_circlesOfRows_z (l : Launch) (G : kG) (B0 : Nat) (f : kH) (q9 : Nat) (g : Nat → Int64) (la bd : Int32) (dp : Nat) (hd : dp + 0 = 100) (hM : kCs f [(q9, kaJ G 4 g)]) : Met l yX2_circlesOfRows wsX2_circlesOfRows (rmX2cR 0) (kP G B0 f [.ref q9, .int la, .int bd, .int (nI dp)]) (kQi G B0 (fun r f1 => r = cRw bd 0 g la ∧ kCs f1 [(q9, kaJ G 4 g)] ∧ kOff [q9] f f1)) 0 0 (kAb B0) := by
  refine kMet (cc := cX2_circlesOfRows) (maxL := 10) (ret := (some .int)) (by decide) rfl (Nat.le_of_ble_eq_true rfl) ?_
  intro p e s m args below meth c H locs Q ls C hX hl hr hlocks hnm hQ
  have hO : kOff [q9] f f := kOff.rf
  have hl : lv_has ls 10 [(0, .ref q9), (1, .int la), (2, .int bd), (3, .int (nI dp))] := hl
  refine lv_iload_n C.x C.b dX2_circlesOfRows_0 rfl (lv_at hl 3 rfl) ?_
  refine lv_bipush (v := nI 100) C.x C.b dX2_circlesOfRows_1 (by decide) ?_
  refine lv_icmp_lt (tgt := 8) C.x C.b dX2_circlesOfRows_3 (by decide) (fun c_3 => ?_) (fun c_3 => ?_)
  · skip
    have c_3 : dp < 100 := (nI_ltI (by omega) (by omega)).mp c_3
    omega
  have c_3 : ¬ (dp < 100) := fun h9 => c_3 ((nI_ltI (by omega) (by omega)).mpr h9)
  refine lv_iconst (v := nI 0) C.x C.b dX2_circlesOfRows_6 (by decide) ?_
  exact k_iret C hX hr hlocks hQ (by omega) (by omega) (⟨rfl, hM, hO⟩) dX2_circlesOfRows_7

theorem hdX2_circlesOfRows_X2_turnedAt : yX2_turnedAt.cls ≠ "java/lang/invoke/MethodHandle" ∧ yX2_turnedAt.cls ≠ "java/lang/invoke/VarHandle" ∧ (parseMethodDescriptor yX2_turnedAt.desc).map (fun d => d.parameters.length) = some 2 := by decide +kernel
theorem hdX2_circlesOfRows_X2_circlesOfRows : yX2_circlesOfRows.cls ≠ "java/lang/invoke/MethodHandle" ∧ yX2_circlesOfRows.cls ≠ "java/lang/invoke/VarHandle" ∧ (parseMethodDescriptor yX2_circlesOfRows.desc).map (fun d => d.parameters.length) = some 4 := by decide +kernel
set_option maxHeartbeats 4000000 in
set_option maxRecDepth 100000 in
/-- X2_circlesOfRows_s -/
theorem kX2_circlesOfRows_s (l : Launch) (G : kG) (B0 : Nat) (f : kH) (q9 : Nat) (g : Nat → Int64) (la bd : Int32) (dp : Nat) (nd : Nat) (hd : dp + (nd + 1) = 100) (ih : ∀ (f : kH) (q9 : Nat) (g : Nat → Int64) (la : Int32) (dp : Nat), dp + nd = 100 → kCs f [(q9, kaJ G 4 g)] → Met l yX2_circlesOfRows wsX2_circlesOfRows (rmX2cR nd) (kP G B0 f [.ref q9, .int la, .int bd, .int (nI dp)]) (kQi G B0 (fun r f1 => r = cRw bd nd g la ∧ kCs f1 [(q9, kaJ G 4 g)] ∧ kOff [q9] f f1)) 0 0 (kAb B0)) (hM : kCs f [(q9, kaJ G 4 g)]) : Met l yX2_circlesOfRows wsX2_circlesOfRows (rmX2cR (nd + 1)) (kP G B0 f [.ref q9, .int la, .int bd, .int (nI dp)]) (kQi G B0 (fun r f1 => r = cRw bd (nd + 1) g la ∧ kCs f1 [(q9, kaJ G 4 g)] ∧ kOff [q9] f f1)) 0 0 (kAb B0) := by
  refine kMet (cc := cX2_circlesOfRows) (maxL := 10) (ret := (some .int)) (by decide) rfl (Nat.le_of_ble_eq_true rfl) ?_
  intro p e s m args below meth c H locs Q ls C hX hl hr hlocks hnm hQ
  have hO : kOff [q9] f f := kOff.rf
  have hl : lv_has ls 10 [(0, .ref q9), (1, .int la), (2, .int bd), (3, .int (nI dp))] := hl
  refine lv_iload_n C.x C.b dX2_circlesOfRows_0 rfl (lv_at hl 3 rfl) ?_
  refine lv_bipush (v := nI 100) C.x C.b dX2_circlesOfRows_1 (by decide) ?_
  refine lv_icmp_lt (tgt := 8) C.x C.b dX2_circlesOfRows_3 (by decide) (fun c_3 => ?_) (fun c_3 => ?_)
  rotate_left
  · skip
    have c_3 : ¬ (dp < 100) := fun h9 => c_3 ((nI_ltI (by omega) (by omega)).mpr h9)
    omega
  have c_3 : dp < 100 := (nI_ltI (by omega) (by omega)).mp c_3
  refine lv_iconst (v := nI 0) C.x C.b dX2_circlesOfRows_8 (by decide) ?_
  refine lv_istore (lv' := [(4, .int (nI 0)), (0, .ref q9), (1, .int la), (2, .int bd), (3, .int (nI dp))]) C.x C.b dX2_circlesOfRows_9 hl (by decide) rfl (fun ls hl => ?_)
  refine lv_iconst (v := nI 0) C.x C.b dX2_circlesOfRows_11 (by decide) ?_
  refine lv_istore (lv' := [(5, .int (nI 0)), (4, .int (nI 0)), (0, .ref q9), (1, .int la), (2, .int bd), (3, .int (nI dp))]) C.x C.b dX2_circlesOfRows_12 hl (by decide) rfl (fun ls hl => ?_)
  rw [show (nI 0) = (cRs (cRw bd nd) bd g la 0) from rfl] at hl
  have LOOP14 : ∀ (n : Nat) (k : Nat), (k ≤ 4) → (4 - k) < n → ∀ (ls : Array Slot), lv_has ls 10 [(4, .int (cRs (cRw bd nd) bd g la k)), (5, .int (nI k)), (0, .ref q9), (1, .int la), (2, .int bd), (3, .int (nI dp))] → ∀ (fL : kH), kCs fL ([(q9, kaJ G 4 g)]) → kOff [q9] f fL → ∀ (H : Heap) (locs : List Loc), kX G B0 s fL H locs → W p l e (rmX2cR (nd + 1)) s m args below meth c H locs 0 0 Q (F0 m 14 ls []) := by
    intro n14
    induction n14 with
    | zero => intro k hk hn; exact absurd hn (Nat.not_lt_zero _)
    | succ n14 ih14 =>
      intro k hk hn ls hl fL hM hO H locs hX
      refine lv_iload C.x C.b dX2_circlesOfRows_14 (lv_at hl 1 rfl) ?_
      refine lv_iconst (v := nI 4) C.x C.b dX2_circlesOfRows_16 (by decide) ?_
      refine lv_icmp_ge (tgt := 83) C.x C.b dX2_circlesOfRows_17 (by decide) (fun c_17 => ?_) (fun c_17 => ?_)
      · skip
        have c_17 : 4 ≤ k := (nI_leI (by omega) (by omega)).mp c_17
        refine lv_iload C.x C.b dX2_circlesOfRows_83 (lv_at hl 0 rfl) ?_
        exact k_iret C hX hr hlocks hQ (by omega) (by omega) (⟨congrArg (cRs (cRw bd nd) bd g la) (show k = 4 by omega), hM, hO⟩) dX2_circlesOfRows_85
      · skip
        have c_17 : ¬ (4 ≤ k) := fun h9 => c_17 ((nI_leI (by omega) (by omega)).mpr h9)
        refine lv_aload_n C.x C.b dX2_circlesOfRows_20 rfl (lv_at hl 2 rfl) ?_
        refine lv_iload C.x C.b dX2_circlesOfRows_21 (lv_at hl 1 rfl) ?_
        refine k_lald C hX (hM.at 0 rfl) (vp_in_nI (by omega) (by omega)) dX2_circlesOfRows_23 ?_
        refine k_topl (y := g k) (by rw [nI_clamp (by omega)]) ?_
        refine lv_lstore (lv' := [(6, .long (g k)), (4, .int (cRs (cRw bd nd) bd g la k)), (5, .int (nI k)), (0, .ref q9), (1, .int la), (2, .int bd), (3, .int (nI dp))]) C.x C.b dX2_circlesOfRows_24 hl (by decide) rfl (fun ls hl => ?_)
        refine lv_aload_n C.x C.b dX2_circlesOfRows_26 rfl (lv_at hl 3 rfl) ?_
        refine lv_iload C.x C.b dX2_circlesOfRows_27 (lv_at hl 2 rfl) ?_
        refine k_calll (va_runS (As := [.ref q9, .int (nI k)]) (rest := []) C.1 (kX2_turnedAt l G B0 fL q9 g k hM (by omega)) (va_cwS 2 C.ts gX2_circlesOfRows_X2_turnedAt rfl rfl rfl (hdX2_circlesOfRows_X2_turnedAt) ⟨(by first | exact Nat.le_of_ble_eq_true rfl | (simp only [rmX2cR, rmX2_turnedAt]; omega)), (by first | exact Nat.le_of_ble_eq_true rfl | (simp only [rmX2cR, rmX2_turnedAt]; omega))⟩) (k_preS C hX) rfl rfl hl.1 rfl (lv_room (Nat.le_of_ble_eq_true rfl)) dX2_circlesOfRows_29 ⟨(by first | exact Nat.le_of_ble_eq_true rfl | (simp only [rmX2cR, rmX2_turnedAt]; omega)), (by first | exact Nat.le_of_ble_eq_true rfl | (simp only [rmX2cR, rmX2_turnedAt]; omega))⟩) hX (fun r29 f29 H locs hp29 hX => ?_)
        obtain ⟨hr29, hf29⟩ := hp29
        rw [hf29] at hX
        refine k_topl (y := (xTurn g k)) hr29 ?_
        refine lv_lstore (lv' := [(8, .long (xTurn g k)), (6, .long (g k)), (4, .int (cRs (cRw bd nd) bd g la k)), (5, .int (nI k)), (0, .ref q9), (1, .int la), (2, .int bd), (3, .int (nI dp))]) C.x C.b dX2_circlesOfRows_32 hl (by decide) rfl (fun ls hl => ?_)
        refine lv_iload C.x C.b dX2_circlesOfRows_34 (lv_at hl 3 rfl) ?_
        refine lv_iload_n C.x C.b dX2_circlesOfRows_36 rfl (lv_at hl 5 rfl) ?_
        refine lv_icmp_eq (tgt := 77) C.x C.b dX2_circlesOfRows_37 (by decide) (fun c_37 => ?_) (fun c_37 => ?_)
        · skip
          refine lv_iinc (v := (nI (k + 1))) (lv' := [(5, .int (nI (k + 1))), (8, .long (xTurn g k)), (6, .long (g k)), (4, .int (cRs (cRw bd nd) bd g la k)), (0, .ref q9), (1, .int la), (2, .int bd), (3, .int (nI dp))]) C.x C.b dX2_circlesOfRows_77 hl (k := 3) rfl (nI_1 _) (by decide) rfl (fun ls hl => ?_)
          refine lv_goto (tgt := 14) C.x C.b dX2_circlesOfRows_80 (by decide) ?_
          rw [show (cRs (cRw bd nd) bd g la k) = (cRs (cRw bd nd) bd g la (k + 1)) from by rw [cRs]; first | (rw [if_pos ⟨c_37, Int64.not_lt.mp c_45⟩]; done) | (rw [if_neg (fun h9 => h9.1 c_37)]; done) | (rw [if_neg (fun h9 => absurd h9.2 (Int64.not_le.mpr c_45))]; done)] at hl
          exact ih14 (k + 1) (by omega) (by omega) ls (lv_sub hl [3, 0, 4, 5, 6, 7] rfl) _ hM hO _ _ hX
        · skip
          refine lv_lload C.x C.b dX2_circlesOfRows_40 (lv_at hl 0 rfl) ?_
          refine lv_iload_n C.x C.b dX2_circlesOfRows_42 rfl (lv_at hl 6 rfl) ?_
          refine lv_i2l (v := bd.toInt64) C.x C.b dX2_circlesOfRows_43 rfl ?_
          refine k_lcmp_gt (tgt := 77) C.x C.b dX2_circlesOfRows_44 dX2_circlesOfRows_45 (by decide) (fun c_45 => ?_) (fun c_45 => ?_)
          · skip
            refine lv_iinc (v := (nI (k + 1))) (lv' := [(5, .int (nI (k + 1))), (8, .long (xTurn g k)), (6, .long (g k)), (4, .int (cRs (cRw bd nd) bd g la k)), (0, .ref q9), (1, .int la), (2, .int bd), (3, .int (nI dp))]) C.x C.b dX2_circlesOfRows_77 hl (k := 3) rfl (nI_1 _) (by decide) rfl (fun ls hl => ?_)
            refine lv_goto (tgt := 14) C.x C.b dX2_circlesOfRows_80 (by decide) ?_
            rw [show (cRs (cRw bd nd) bd g la k) = (cRs (cRw bd nd) bd g la (k + 1)) from by rw [cRs]; first | (rw [if_pos ⟨c_37, Int64.not_lt.mp c_45⟩]; done) | (rw [if_neg (fun h9 => h9.1 c_37)]; done) | (rw [if_neg (fun h9 => absurd h9.2 (Int64.not_le.mpr c_45))]; done)] at hl
            exact ih14 (k + 1) (by omega) (by omega) ls (lv_sub hl [3, 0, 4, 5, 6, 7] rfl) _ hM hO _ _ hX
          · skip
            refine lv_aload_n C.x C.b dX2_circlesOfRows_48 rfl (lv_at hl 4 rfl) ?_
            refine lv_iload C.x C.b dX2_circlesOfRows_49 (lv_at hl 3 rfl) ?_
            refine lv_lload C.x C.b dX2_circlesOfRows_51 (lv_at hl 0 rfl) ?_
            refine k_last C hX (hM.at 0 rfl) (vp_in_nI (by omega) (by omega)) dX2_circlesOfRows_53 (fun H locs hX => ?_)
            rw [nI_clamp (by omega)] at hX
            obtain ⟨g2, hX, hM, hO⟩ := kX.wr hX hM hO 0 rfl (List.mem_of_getElem? (i := 0) rfl)
            have hM : kCs g2 ([(q9, kaJ G 4 (vp_updL g k (xTurn g k)))]) := hM
            refine lv_iload C.x C.b dX2_circlesOfRows_54 (lv_at hl 2 rfl) ?_
            refine lv_iconst (v := nI 1) C.x C.b dX2_circlesOfRows_56 (by decide) ?_
            refine lv_aload_n C.x C.b dX2_circlesOfRows_57 rfl (lv_at hl 4 rfl) ?_
            refine lv_iload C.x C.b dX2_circlesOfRows_58 (lv_at hl 3 rfl) ?_
            refine lv_iload_n C.x C.b dX2_circlesOfRows_60 rfl (lv_at hl 6 rfl) ?_
            refine lv_iload_n C.x C.b dX2_circlesOfRows_61 rfl (lv_at hl 7 rfl) ?_
            refine lv_iconst (v := nI 1) C.x C.b dX2_circlesOfRows_62 (by decide) ?_
            refine lv_iadd C.x C.b dX2_circlesOfRows_63 ?_
            refine k_topi (y := nI (dp + 1)) (nI_add _ _) ?_
            refine k_calli (va_runS (As := [.ref q9, .int (nI k), .int bd, .int (nI (dp + 1))]) (rest := [.int (nI 1), .int (cRs (cRw bd nd) bd g la k)]) C.1 (ih g2 q9 (vp_updL g k (xTurn g k)) (nI k) (dp + 1) (by omega) hM) (va_cwS 4 C.ts gX2_circlesOfRows_X2_circlesOfRows rfl rfl rfl (hdX2_circlesOfRows_X2_circlesOfRows) ⟨(by first | exact Nat.le_of_ble_eq_true rfl | (simp only [rmX2cR, rmX2cR]; omega)), (by first | exact Nat.le_of_ble_eq_true rfl | (simp only [rmX2cR, rmX2cR]; omega))⟩) (k_preS C hX) rfl rfl hl.1 rfl (lv_room (Nat.le_of_ble_eq_true rfl)) dX2_circlesOfRows_64 ⟨(by first | exact Nat.le_of_ble_eq_true rfl | (simp only [rmX2cR, rmX2cR]; omega)), (by first | exact Nat.le_of_ble_eq_true rfl | (simp only [rmX2cR, rmX2cR]; omega))⟩) hX (fun r64 f64 H locs hp64 hX => ?_)
            obtain ⟨hr64, hM, hO64⟩ := hp64
            have hO := hO.trans hO64
            have hM : kCs f64 ([(q9, kaJ G 4 (vp_updL g k (xTurn g k)))]) := hM
            refine k_topi (y := (cRw bd nd (vp_updL g k (xTurn g k)) (nI k))) hr64 ?_
            refine lv_iadd C.x C.b dX2_circlesOfRows_67 ?_
            refine lv_iadd C.x C.b dX2_circlesOfRows_68 ?_
            refine lv_istore (lv' := [(4, .int ((cRs (cRw bd nd) bd g la k) + ((nI 1) + (cRw bd nd (vp_updL g k (xTurn g k)) (nI k))))), (8, .long (xTurn g k)), (6, .long (g k)), (5, .int (nI k)), (0, .ref q9), (1, .int la), (2, .int bd), (3, .int (nI dp))]) C.x C.b dX2_circlesOfRows_69 hl (by decide) rfl (fun ls hl => ?_)
            refine lv_aload_n C.x C.b dX2_circlesOfRows_71 rfl (lv_at hl 4 rfl) ?_
            refine lv_iload C.x C.b dX2_circlesOfRows_72 (lv_at hl 3 rfl) ?_
            refine lv_lload C.x C.b dX2_circlesOfRows_74 (lv_at hl 2 rfl) ?_
            refine k_last C hX (hM.at 0 rfl) (vp_in_nI (by omega) (by omega)) dX2_circlesOfRows_76 (fun H locs hX => ?_)
            rw [nI_clamp (by omega)] at hX
            obtain ⟨g3, hX, hM, hO⟩ := kX.wr hX hM hO 0 rfl (List.mem_of_getElem? (i := 0) rfl)
            have hM : kCs g3 ([(q9, kaJ G 4 (vp_updL (vp_updL g k (xTurn g k)) k (g k)))]) := hM
            rw [show (vp_updL (vp_updL g k (xTurn g k)) k (g k)) = g from kRest] at hM
            have hM : kCs g3 ([(q9, kaJ G 4 g)]) := hM
            refine lv_iinc (v := (nI (k + 1))) (lv' := [(5, .int (nI (k + 1))), (4, .int ((cRs (cRw bd nd) bd g la k) + ((nI 1) + (cRw bd nd (vp_updL g k (xTurn g k)) (nI k))))), (8, .long (xTurn g k)), (6, .long (g k)), (0, .ref q9), (1, .int la), (2, .int bd), (3, .int (nI dp))]) C.x C.b dX2_circlesOfRows_77 hl (k := 3) rfl (nI_1 _) (by decide) rfl (fun ls hl => ?_)
            refine lv_goto (tgt := 14) C.x C.b dX2_circlesOfRows_80 (by decide) ?_
            rw [show ((cRs (cRw bd nd) bd g la k) + ((nI 1) + (cRw bd nd (vp_updL g k (xTurn g k)) (nI k)))) = (cRs (cRw bd nd) bd g la (k + 1)) from by rw [cRs]; first | (rw [if_pos ⟨c_37, Int64.not_lt.mp c_45⟩]; done) | (rw [if_neg (fun h9 => h9.1 c_37)]; done) | (rw [if_neg (fun h9 => absurd h9.2 (Int64.not_le.mpr c_45))]; done)] at hl
            exact ih14 (k + 1) (by omega) (by omega) ls (lv_sub hl [1, 0, 4, 5, 6, 7] rfl) _ hM hO _ _ hX
  exact LOOP14 _ 0 (by omega) (Nat.lt_succ_self _) ls (lv_sub hl [1, 0, 2, 3, 4, 5] rfl) _ hM hO _ _ hX

theorem kX2_circlesAmong (l : Launch) (G : kG) (B0 : Nat) (bd : Int32) (hW : jNlOk) : ∀ (nd : Nat) (f : kH) (dp : Nat) (x1 x2 x3 : Int64), dp + nd = 100 → Met l yX2_circlesAmong wsX2_circlesAmong (rmX2cA nd) (kP G B0 f [.long x1, .long x2, .long x3, .int bd, .int (nI dp)]) (kQi G B0 (fun r f1 => r = cAm bd nd x1 x2 x3 ∧ f1 = f)) 0 0 (kAb B0)
  | 0, f, dp, x1, x2, x3, hd => kX2_circlesAmong_z l G B0 f bd dp x1 x2 x3 hW hd
  | nd + 1, f, dp, x1, x2, x3, hd => kX2_circlesAmong_s l G B0 f bd dp x1 x2 x3 hW nd hd (kX2_circlesAmong l G B0 bd hW nd)
theorem kX2_circlesOfRows (l : Launch) (G : kG) (B0 : Nat) (bd : Int32) : ∀ (nd : Nat) (f : kH) (q9 : Nat) (g : Nat → Int64) (la : Int32) (dp : Nat), dp + nd = 100 → kCs f [(q9, kaJ G 4 g)] → Met l yX2_circlesOfRows wsX2_circlesOfRows (rmX2cR nd) (kP G B0 f [.ref q9, .int la, .int bd, .int (nI dp)]) (kQi G B0 (fun r f1 => r = cRw bd nd g la ∧ kCs f1 [(q9, kaJ G 4 g)] ∧ kOff [q9] f f1)) 0 0 (kAb B0)
  | 0, f, q9, g, la, dp, hd, hM => kX2_circlesOfRows_z l G B0 f q9 g la bd dp hd hM
  | nd + 1, f, q9, g, la, dp, hd, hM => kX2_circlesOfRows_s l G B0 f q9 g la bd dp nd hd (kX2_circlesOfRows l G B0 bd nd) hM

theorem lk_X2_circlesByTurns_f22 : Cond.fieldLink RX2 22 "Koebehall$Gasket" "least" "[J" ∈ wsX2_circlesByTurns := by decide +kernel
theorem hin_X2_circlesByTurns_RX2 : ∀ w ∈ u_ws RX2 TX2 3, w ∈ wsX2_circlesByTurns := by decide +kernel
theorem lk_X2_circlesByTurns_f25 : Cond.fieldLink RX2 25 "Koebehall$Gasket" "walked" "[J" ∈ wsX2_circlesByTurns := by decide +kernel
theorem lk_X2_circlesByTurns_acp46 : ∀ w ∈ [Cond.methodLink RX2 46 arraycopyName, Cond.native arraycopyName, Cond.static arraycopyName, Cond.initialized "java/lang/System"], w ∈ wsX2_circlesByTurns := by decide +kernel
theorem hdX2_circlesByTurns_X2_circlesOfRoot : yX2_circlesOfRoot.cls ≠ "java/lang/invoke/MethodHandle" ∧ yX2_circlesOfRoot.cls ≠ "java/lang/invoke/VarHandle" ∧ (parseMethodDescriptor yX2_circlesOfRoot.desc).map (fun d => d.parameters.length) = some 1 := by decide +kernel
theorem hdX2_circlesByTurns_X2_circlesOfRows : yX2_circlesOfRows.cls ≠ "java/lang/invoke/MethodHandle" ∧ yX2_circlesOfRows.cls ≠ "java/lang/invoke/VarHandle" ∧ (parseMethodDescriptor yX2_circlesOfRows.desc).map (fun d => d.parameters.length) = some 4 := by decide +kernel
abbrev rmX2_circlesByTurns : Room := { frames := 102, cells := 0, slots := 0, locals := 2952 }
set_option maxHeartbeats 4000000 in
set_option maxRecDepth 100000 in
/-- X2_circlesByTurns -/
theorem kX2_circlesByTurns (l : Launch) (G : kG) (B0 : Nat) (f : kH) (h q1 q2 q3 : Nat) (g w9 : Nat → Int64) (b : Int32) (hM : kCs f [(h, .inr (2, [.ref q1, .ref q2, .ref q3])), (q2, kaJ G 4 g), (q3, kaJ G 4 w9)]) : Met l yX2_circlesByTurns wsX2_circlesByTurns (rmX2_circlesByTurns) (kP G B0 f [.ref h, .int b]) (kQi G B0 (fun r f1 => r = nI (kCnt (fun k => g k ≤ b.toInt64) 4) + cRw b 100 (fun j9 => if j9 < 4 then g j9 else w9 j9) (-1) ∧ kCs f1 [(h, .inr (2, [.ref q1, .ref q2, .ref q3])), (q2, kaJ G 4 g), (q3, kaJ G 4 (fun j9 => if j9 < 4 then g j9 else w9 j9))] ∧ kKp [q3] f f1)) 0 0 (kAb B0) := by
  refine kMet (cc := cX2_circlesByTurns) (maxL := 2) (ret := (some .int)) (by decide) rfl (Nat.le_of_ble_eq_true rfl) ?_
  intro p e s m args below meth c H locs Q ls C hX hl hr hlocks hnm hQ
  have hO : kKp [q3] f f := kKp.rf
  have hS : ∀ a ∈ [q3], (f a).isSome := by
    intro a h9
    simp only [List.mem_cons, List.not_mem_nil, or_false] at h9
    rcases h9 with rfl
    · rw [hM.at 2 rfl]; rfl
  have hl : lv_has ls 2 [(0, .ref h), (1, .int b)] := hl
  refine lv_aload_n C.x C.b dX2_circlesByTurns_0 rfl (lv_at hl 0 rfl) ?_
  refine k_get (X := RX2) (T := TX2) (N := 3) (v := .ref q2) C hX (hM.at 0 rfl) rfl hin_X2_circlesByTurns_RX2 1 (by decide) lk_X2_circlesByTurns_f22 (fun _ h9 => h9) rfl dX2_circlesByTurns_1 ?_
  refine lv_iconst (v := nI 0) C.x C.b dX2_circlesByTurns_4 (by decide) ?_
  refine lv_aload_n C.x C.b dX2_circlesByTurns_5 rfl (lv_at hl 0 rfl) ?_
  refine k_get (X := RX2) (T := TX2) (N := 3) (v := .ref q3) C hX (hM.at 0 rfl) rfl hin_X2_circlesByTurns_RX2 2 (by decide) lk_X2_circlesByTurns_f25 (fun _ h9 => h9) rfl dX2_circlesByTurns_6 ?_
  refine lv_iconst (v := nI 0) C.x C.b dX2_circlesByTurns_9 (by decide) ?_
  refine lv_iconst (v := nI 4) C.x C.b dX2_circlesByTurns_10 (by decide) ?_
  refine k_copyJ C (by rw [C.ml]; exact hl.1.symm) hX lk_X2_circlesByTurns_acp46 (hM.at 1 rfl) (hM.at 2 rfl) (n9 := 4) (by omega) (by omega) (by omega) (Nat.le_of_ble_eq_true rfl) (Nat.le_of_ble_eq_true rfl) dX2_circlesByTurns_11 (fun H locs hX => ?_)
  obtain ⟨g1, hX, hM, hO, hS⟩ := kX.wrP hX hM hO hS 2 rfl (Or.inl (by simp))
  have hM : kCs g1 ([(h, .inr (2, [.ref q1, .ref q2, .ref q3])), (q2, kaJ G 4 g), (q3, kaJ G 4 (fun j9 => if j9 < 4 then g j9 else w9 j9))]) := hM
  refine lv_aload_n C.x C.b dX2_circlesByTurns_14 rfl (lv_at hl 0 rfl) ?_
  refine lv_iload_n C.x C.b dX2_circlesByTurns_15 rfl (lv_at hl 1 rfl) ?_
  have hM9 : kCs g1 ([(h, .inr (2, [.ref q1, .ref q2, .ref q3])), (q2, kaJ G 4 g)]) := hM.pick [0, 1] (by decide) ⟨rfl, rfl, trivial⟩
  refine k_calli (va_runV (As := [.int b]) (rest := []) C.1 (kX2_circlesOfRoot l G B0 g1 h q1 q2 q3 g b hM9) (cwV 1 C.ts gX2_circlesByTurns_X2_circlesOfRoot rfl rfl rfl ⟨rfl, hdX2_circlesByTurns_X2_circlesOfRoot⟩ ⟨Nat.le_of_ble_eq_true rfl, Nat.le_of_ble_eq_true rfl⟩) (k_preV C hX (hM.at 0 rfl) rfl) rfl rfl hl.1 rfl (lv_room (Nat.le_of_ble_eq_true rfl)) dX2_circlesByTurns_16 ⟨Nat.le_of_ble_eq_true rfl, Nat.le_of_ble_eq_true rfl⟩) hX (fun r16 f16 H locs hp16 hX => ?_)
  obtain ⟨hr16, hf16⟩ := hp16
  rw [hf16] at hX
  refine k_topi (y := (nI (kCnt (fun k => g k ≤ b.toInt64) 4))) hr16 ?_
  refine lv_aload_n C.x C.b dX2_circlesByTurns_19 rfl (lv_at hl 0 rfl) ?_
  refine k_get (X := RX2) (T := TX2) (N := 3) (v := .ref q3) C hX (hM.at 0 rfl) rfl hin_X2_circlesByTurns_RX2 2 (by decide) lk_X2_circlesByTurns_f25 (fun _ h9 => h9) rfl dX2_circlesByTurns_20 ?_
  refine lv_iconst (v := -1) C.x C.b dX2_circlesByTurns_23 (by decide) ?_
  refine lv_iload_n C.x C.b dX2_circlesByTurns_24 rfl (lv_at hl 1 rfl) ?_
  refine lv_iconst (v := nI 0) C.x C.b dX2_circlesByTurns_25 (by decide) ?_
  have hM9 : kCs g1 ([(q3, kaJ G 4 (fun j9 => if j9 < 4 then g j9 else w9 j9))]) := hM.pick [2] (by decide) ⟨rfl, trivial⟩
  refine k_calli (va_runS (As := [.ref q3, .int (-1), .int b, .int (nI 0)]) (rest := [.int (nI (kCnt (fun k => g k ≤ b.toInt64) 4))]) C.1 (kX2_circlesOfRows l G B0 b 100 g1 q3 (fun j9 => if j9 < 4 then g j9 else w9 j9) (-1) 0 (by omega) hM9) (va_cwS 4 C.ts gX2_circlesByTurns_X2_circlesOfRows rfl rfl rfl (hdX2_circlesByTurns_X2_circlesOfRows) ⟨Nat.le_of_ble_eq_true rfl, Nat.le_of_ble_eq_true rfl⟩) (k_preS C hX) rfl rfl hl.1 rfl (lv_room (Nat.le_of_ble_eq_true rfl)) dX2_circlesByTurns_26 ⟨Nat.le_of_ble_eq_true rfl, Nat.le_of_ble_eq_true rfl⟩) hX (fun r26 f26 H locs hp26 hX => ?_)
  obtain ⟨hr26, hM9, hO9⟩ := hp26
  have hM : kCs f26 ([(h, .inr (2, [.ref q1, .ref q2, .ref q3])), (q2, kaJ G 4 g), (q3, kaJ G 4 (fun j9 => if j9 < 4 then g j9 else w9 j9))]) := hM.sub hM9 (kKp.of hO9) [2] (by simp) ⟨rfl, trivial⟩
  have hO := hO.then (kKp.of hO9) (by
      intro a h9
      simp only [List.mem_cons, List.not_mem_nil, or_false] at h9
      rcases h9 with rfl
      · exact Or.inl (by simp))
  have hS : ∀ a ∈ [q3], (f26 a).isSome := by
    intro a h9
    simp only [List.mem_cons, List.not_mem_nil, or_false] at h9
    rcases h9 with rfl
    · rw [hM.at 2 rfl]; rfl
  refine k_topi (y := (cRw b 100 (fun j9 => if j9 < 4 then g j9 else w9 j9) (-1))) hr26 ?_
  refine lv_iadd C.x C.b dX2_circlesByTurns_29 ?_
  exact k_iret C hX hr hlocks hQ (by omega) (by omega) (⟨rfl, hM, hO⟩) dX2_circlesByTurns_30

theorem hdX2_circlesByThrees_X2_circlesOfRoot : yX2_circlesOfRoot.cls ≠ "java/lang/invoke/MethodHandle" ∧ yX2_circlesOfRoot.cls ≠ "java/lang/invoke/VarHandle" ∧ (parseMethodDescriptor yX2_circlesOfRoot.desc).map (fun d => d.parameters.length) = some 1 := by decide +kernel
theorem lk_X2_circlesByThrees_f22 : Cond.fieldLink RX2 22 "Koebehall$Gasket" "least" "[J" ∈ wsX2_circlesByThrees := by decide +kernel
theorem hin_X2_circlesByThrees_RX2 : ∀ w ∈ u_ws RX2 TX2 3, w ∈ wsX2_circlesByThrees := by decide +kernel
theorem hdX2_circlesByThrees_X2_circlesAmong : yX2_circlesAmong.cls ≠ "java/lang/invoke/MethodHandle" ∧ yX2_circlesAmong.cls ≠ "java/lang/invoke/VarHandle" ∧ (parseMethodDescriptor yX2_circlesAmong.desc).map (fun d => d.parameters.length) = some 5 := by decide +kernel
abbrev rmX2_circlesByThrees : Room := { frames := 104, cells := 0, slots := 0, locals := 2998 }
set_option maxHeartbeats 4000000 in
set_option maxRecDepth 100000 in
/-- X2_circlesByThrees -/
theorem kX2_circlesByThrees (l : Launch) (G : kG) (B0 : Nat) (f : kH) (h q1 q2 q3 : Nat) (g : Nat → Int64) (b : Int32) (hW : jNlOk) (hM : kCs f [(h, .inr (2, [.ref q1, .ref q2, .ref q3])), (q2, kaJ G 4 g)]) : Met l yX2_circlesByThrees wsX2_circlesByThrees (rmX2_circlesByThrees) (kP G B0 f [.ref h, .int b]) (kQi G B0 (fun r f1 => r = nI (kCnt (fun k => g k ≤ b.toInt64) 4) + cAm b 100 (g 0) (g 1) (g 2) + cAm b 100 (g 0) (g 1) (g 3) + cAm b 100 (g 0) (g 2) (g 3) + cAm b 100 (g 1) (g 2) (g 3) ∧ f1 = f)) 0 0 (kAb B0) := by
  refine kMet (cc := cX2_circlesByThrees) (maxL := 2) (ret := (some .int)) (by decide) rfl (Nat.le_of_ble_eq_true rfl) ?_
  intro p e s m args below meth c H locs Q ls C hX hl hr hlocks hnm hQ
  have hl : lv_has ls 2 [(0, .ref h), (1, .int b)] := hl
  refine lv_aload_n C.x C.b dX2_circlesByThrees_0 rfl (lv_at hl 0 rfl) ?_
  refine lv_iload_n C.x C.b dX2_circlesByThrees_1 rfl (lv_at hl 1 rfl) ?_
  refine k_calli (va_runV (As := [.int b]) (rest := []) C.1 (kX2_circlesOfRoot l G B0 f h q1 q2 q3 g b hM) (cwV 1 C.ts gX2_circlesByThrees_X2_circlesOfRoot rfl rfl rfl ⟨rfl, hdX2_circlesByThrees_X2_circlesOfRoot⟩ ⟨Nat.le_of_ble_eq_true rfl, Nat.le_of_ble_eq_true rfl⟩) (k_preV C hX (hM.at 0 rfl) rfl) rfl rfl hl.1 rfl (lv_room (Nat.le_of_ble_eq_true rfl)) dX2_circlesByThrees_2 ⟨Nat.le_of_ble_eq_true rfl, Nat.le_of_ble_eq_true rfl⟩) hX (fun r2 f2 H locs hp2 hX => ?_)
  obtain ⟨hr2, hf2⟩ := hp2
  rw [hf2] at hX
  refine k_topi (y := (nI (kCnt (fun k => g k ≤ b.toInt64) 4))) hr2 ?_
  refine lv_aload_n C.x C.b dX2_circlesByThrees_5 rfl (lv_at hl 0 rfl) ?_
  refine k_get (X := RX2) (T := TX2) (N := 3) (v := .ref q2) C hX (hM.at 0 rfl) rfl hin_X2_circlesByThrees_RX2 1 (by decide) lk_X2_circlesByThrees_f22 (fun _ h9 => h9) rfl dX2_circlesByThrees_6 ?_
  refine lv_iconst (v := nI 0) C.x C.b dX2_circlesByThrees_9 (by decide) ?_
  refine k_lald C hX (hM.at 1 rfl) (vp_in_nI (by omega) (by omega)) dX2_circlesByThrees_10 ?_
  refine k_topl (y := g 0) (by rw [nI_clamp (by omega)]) ?_
  refine lv_aload_n C.x C.b dX2_circlesByThrees_11 rfl (lv_at hl 0 rfl) ?_
  refine k_get (X := RX2) (T := TX2) (N := 3) (v := .ref q2) C hX (hM.at 0 rfl) rfl hin_X2_circlesByThrees_RX2 1 (by decide) lk_X2_circlesByThrees_f22 (fun _ h9 => h9) rfl dX2_circlesByThrees_12 ?_
  refine lv_iconst (v := nI 1) C.x C.b dX2_circlesByThrees_15 (by decide) ?_
  refine k_lald C hX (hM.at 1 rfl) (vp_in_nI (by omega) (by omega)) dX2_circlesByThrees_16 ?_
  refine k_topl (y := g 1) (by rw [nI_clamp (by omega)]) ?_
  refine lv_aload_n C.x C.b dX2_circlesByThrees_17 rfl (lv_at hl 0 rfl) ?_
  refine k_get (X := RX2) (T := TX2) (N := 3) (v := .ref q2) C hX (hM.at 0 rfl) rfl hin_X2_circlesByThrees_RX2 1 (by decide) lk_X2_circlesByThrees_f22 (fun _ h9 => h9) rfl dX2_circlesByThrees_18 ?_
  refine lv_iconst (v := nI 2) C.x C.b dX2_circlesByThrees_21 (by decide) ?_
  refine k_lald C hX (hM.at 1 rfl) (vp_in_nI (by omega) (by omega)) dX2_circlesByThrees_22 ?_
  refine k_topl (y := g 2) (by rw [nI_clamp (by omega)]) ?_
  refine lv_iload_n C.x C.b dX2_circlesByThrees_23 rfl (lv_at hl 1 rfl) ?_
  refine lv_iconst (v := nI 0) C.x C.b dX2_circlesByThrees_24 (by decide) ?_
  refine k_calli (va_runS (As := [.long (g 0), .long (g 1), .long (g 2), .int b, .int (nI 0)]) (rest := [.int (nI (kCnt (fun k => g k ≤ b.toInt64) 4))]) C.1 (kX2_circlesAmong l G B0 b hW 100 f 0 (g 0) (g 1) (g 2) (by omega)) (va_cwS 5 C.ts gX2_circlesByThrees_X2_circlesAmong rfl rfl rfl (hdX2_circlesByThrees_X2_circlesAmong) ⟨Nat.le_of_ble_eq_true rfl, Nat.le_of_ble_eq_true rfl⟩) (k_preS C hX) rfl rfl hl.1 rfl (lv_room (Nat.le_of_ble_eq_true rfl)) dX2_circlesByThrees_25 ⟨Nat.le_of_ble_eq_true rfl, Nat.le_of_ble_eq_true rfl⟩) hX (fun r25 f25 H locs hp25 hX => ?_)
  obtain ⟨hr25, hf25⟩ := hp25
  rw [hf25] at hX
  refine k_topi (y := (cAm b 100 (g 0) (g 1) (g 2))) hr25 ?_
  refine lv_iadd C.x C.b dX2_circlesByThrees_28 ?_
  refine lv_aload_n C.x C.b dX2_circlesByThrees_29 rfl (lv_at hl 0 rfl) ?_
  refine k_get (X := RX2) (T := TX2) (N := 3) (v := .ref q2) C hX (hM.at 0 rfl) rfl hin_X2_circlesByThrees_RX2 1 (by decide) lk_X2_circlesByThrees_f22 (fun _ h9 => h9) rfl dX2_circlesByThrees_30 ?_
  refine lv_iconst (v := nI 0) C.x C.b dX2_circlesByThrees_33 (by decide) ?_
  refine k_lald C hX (hM.at 1 rfl) (vp_in_nI (by omega) (by omega)) dX2_circlesByThrees_34 ?_
  refine k_topl (y := g 0) (by rw [nI_clamp (by omega)]) ?_
  refine lv_aload_n C.x C.b dX2_circlesByThrees_35 rfl (lv_at hl 0 rfl) ?_
  refine k_get (X := RX2) (T := TX2) (N := 3) (v := .ref q2) C hX (hM.at 0 rfl) rfl hin_X2_circlesByThrees_RX2 1 (by decide) lk_X2_circlesByThrees_f22 (fun _ h9 => h9) rfl dX2_circlesByThrees_36 ?_
  refine lv_iconst (v := nI 1) C.x C.b dX2_circlesByThrees_39 (by decide) ?_
  refine k_lald C hX (hM.at 1 rfl) (vp_in_nI (by omega) (by omega)) dX2_circlesByThrees_40 ?_
  refine k_topl (y := g 1) (by rw [nI_clamp (by omega)]) ?_
  refine lv_aload_n C.x C.b dX2_circlesByThrees_41 rfl (lv_at hl 0 rfl) ?_
  refine k_get (X := RX2) (T := TX2) (N := 3) (v := .ref q2) C hX (hM.at 0 rfl) rfl hin_X2_circlesByThrees_RX2 1 (by decide) lk_X2_circlesByThrees_f22 (fun _ h9 => h9) rfl dX2_circlesByThrees_42 ?_
  refine lv_iconst (v := nI 3) C.x C.b dX2_circlesByThrees_45 (by decide) ?_
  refine k_lald C hX (hM.at 1 rfl) (vp_in_nI (by omega) (by omega)) dX2_circlesByThrees_46 ?_
  refine k_topl (y := g 3) (by rw [nI_clamp (by omega)]) ?_
  refine lv_iload_n C.x C.b dX2_circlesByThrees_47 rfl (lv_at hl 1 rfl) ?_
  refine lv_iconst (v := nI 0) C.x C.b dX2_circlesByThrees_48 (by decide) ?_
  refine k_calli (va_runS (As := [.long (g 0), .long (g 1), .long (g 3), .int b, .int (nI 0)]) (rest := [.int ((nI (kCnt (fun k => g k ≤ b.toInt64) 4)) + (cAm b 100 (g 0) (g 1) (g 2)))]) C.1 (kX2_circlesAmong l G B0 b hW 100 f 0 (g 0) (g 1) (g 3) (by omega)) (va_cwS 5 C.ts gX2_circlesByThrees_X2_circlesAmong rfl rfl rfl (hdX2_circlesByThrees_X2_circlesAmong) ⟨Nat.le_of_ble_eq_true rfl, Nat.le_of_ble_eq_true rfl⟩) (k_preS C hX) rfl rfl hl.1 rfl (lv_room (Nat.le_of_ble_eq_true rfl)) dX2_circlesByThrees_49 ⟨Nat.le_of_ble_eq_true rfl, Nat.le_of_ble_eq_true rfl⟩) hX (fun r49 f49 H locs hp49 hX => ?_)
  obtain ⟨hr49, hf49⟩ := hp49
  rw [hf49] at hX
  refine k_topi (y := (cAm b 100 (g 0) (g 1) (g 3))) hr49 ?_
  refine lv_iadd C.x C.b dX2_circlesByThrees_52 ?_
  refine lv_aload_n C.x C.b dX2_circlesByThrees_53 rfl (lv_at hl 0 rfl) ?_
  refine k_get (X := RX2) (T := TX2) (N := 3) (v := .ref q2) C hX (hM.at 0 rfl) rfl hin_X2_circlesByThrees_RX2 1 (by decide) lk_X2_circlesByThrees_f22 (fun _ h9 => h9) rfl dX2_circlesByThrees_54 ?_
  refine lv_iconst (v := nI 0) C.x C.b dX2_circlesByThrees_57 (by decide) ?_
  refine k_lald C hX (hM.at 1 rfl) (vp_in_nI (by omega) (by omega)) dX2_circlesByThrees_58 ?_
  refine k_topl (y := g 0) (by rw [nI_clamp (by omega)]) ?_
  refine lv_aload_n C.x C.b dX2_circlesByThrees_59 rfl (lv_at hl 0 rfl) ?_
  refine k_get (X := RX2) (T := TX2) (N := 3) (v := .ref q2) C hX (hM.at 0 rfl) rfl hin_X2_circlesByThrees_RX2 1 (by decide) lk_X2_circlesByThrees_f22 (fun _ h9 => h9) rfl dX2_circlesByThrees_60 ?_
  refine lv_iconst (v := nI 2) C.x C.b dX2_circlesByThrees_63 (by decide) ?_
  refine k_lald C hX (hM.at 1 rfl) (vp_in_nI (by omega) (by omega)) dX2_circlesByThrees_64 ?_
  refine k_topl (y := g 2) (by rw [nI_clamp (by omega)]) ?_
  refine lv_aload_n C.x C.b dX2_circlesByThrees_65 rfl (lv_at hl 0 rfl) ?_
  refine k_get (X := RX2) (T := TX2) (N := 3) (v := .ref q2) C hX (hM.at 0 rfl) rfl hin_X2_circlesByThrees_RX2 1 (by decide) lk_X2_circlesByThrees_f22 (fun _ h9 => h9) rfl dX2_circlesByThrees_66 ?_
  refine lv_iconst (v := nI 3) C.x C.b dX2_circlesByThrees_69 (by decide) ?_
  refine k_lald C hX (hM.at 1 rfl) (vp_in_nI (by omega) (by omega)) dX2_circlesByThrees_70 ?_
  refine k_topl (y := g 3) (by rw [nI_clamp (by omega)]) ?_
  refine lv_iload_n C.x C.b dX2_circlesByThrees_71 rfl (lv_at hl 1 rfl) ?_
  refine lv_iconst (v := nI 0) C.x C.b dX2_circlesByThrees_72 (by decide) ?_
  refine k_calli (va_runS (As := [.long (g 0), .long (g 2), .long (g 3), .int b, .int (nI 0)]) (rest := [.int (((nI (kCnt (fun k => g k ≤ b.toInt64) 4)) + (cAm b 100 (g 0) (g 1) (g 2))) + (cAm b 100 (g 0) (g 1) (g 3)))]) C.1 (kX2_circlesAmong l G B0 b hW 100 f 0 (g 0) (g 2) (g 3) (by omega)) (va_cwS 5 C.ts gX2_circlesByThrees_X2_circlesAmong rfl rfl rfl (hdX2_circlesByThrees_X2_circlesAmong) ⟨Nat.le_of_ble_eq_true rfl, Nat.le_of_ble_eq_true rfl⟩) (k_preS C hX) rfl rfl hl.1 rfl (lv_room (Nat.le_of_ble_eq_true rfl)) dX2_circlesByThrees_73 ⟨Nat.le_of_ble_eq_true rfl, Nat.le_of_ble_eq_true rfl⟩) hX (fun r73 f73 H locs hp73 hX => ?_)
  obtain ⟨hr73, hf73⟩ := hp73
  rw [hf73] at hX
  refine k_topi (y := (cAm b 100 (g 0) (g 2) (g 3))) hr73 ?_
  refine lv_iadd C.x C.b dX2_circlesByThrees_76 ?_
  refine lv_aload_n C.x C.b dX2_circlesByThrees_77 rfl (lv_at hl 0 rfl) ?_
  refine k_get (X := RX2) (T := TX2) (N := 3) (v := .ref q2) C hX (hM.at 0 rfl) rfl hin_X2_circlesByThrees_RX2 1 (by decide) lk_X2_circlesByThrees_f22 (fun _ h9 => h9) rfl dX2_circlesByThrees_78 ?_
  refine lv_iconst (v := nI 1) C.x C.b dX2_circlesByThrees_81 (by decide) ?_
  refine k_lald C hX (hM.at 1 rfl) (vp_in_nI (by omega) (by omega)) dX2_circlesByThrees_82 ?_
  refine k_topl (y := g 1) (by rw [nI_clamp (by omega)]) ?_
  refine lv_aload_n C.x C.b dX2_circlesByThrees_83 rfl (lv_at hl 0 rfl) ?_
  refine k_get (X := RX2) (T := TX2) (N := 3) (v := .ref q2) C hX (hM.at 0 rfl) rfl hin_X2_circlesByThrees_RX2 1 (by decide) lk_X2_circlesByThrees_f22 (fun _ h9 => h9) rfl dX2_circlesByThrees_84 ?_
  refine lv_iconst (v := nI 2) C.x C.b dX2_circlesByThrees_87 (by decide) ?_
  refine k_lald C hX (hM.at 1 rfl) (vp_in_nI (by omega) (by omega)) dX2_circlesByThrees_88 ?_
  refine k_topl (y := g 2) (by rw [nI_clamp (by omega)]) ?_
  refine lv_aload_n C.x C.b dX2_circlesByThrees_89 rfl (lv_at hl 0 rfl) ?_
  refine k_get (X := RX2) (T := TX2) (N := 3) (v := .ref q2) C hX (hM.at 0 rfl) rfl hin_X2_circlesByThrees_RX2 1 (by decide) lk_X2_circlesByThrees_f22 (fun _ h9 => h9) rfl dX2_circlesByThrees_90 ?_
  refine lv_iconst (v := nI 3) C.x C.b dX2_circlesByThrees_93 (by decide) ?_
  refine k_lald C hX (hM.at 1 rfl) (vp_in_nI (by omega) (by omega)) dX2_circlesByThrees_94 ?_
  refine k_topl (y := g 3) (by rw [nI_clamp (by omega)]) ?_
  refine lv_iload_n C.x C.b dX2_circlesByThrees_95 rfl (lv_at hl 1 rfl) ?_
  refine lv_iconst (v := nI 0) C.x C.b dX2_circlesByThrees_96 (by decide) ?_
  refine k_calli (va_runS (As := [.long (g 1), .long (g 2), .long (g 3), .int b, .int (nI 0)]) (rest := [.int ((((nI (kCnt (fun k => g k ≤ b.toInt64) 4)) + (cAm b 100 (g 0) (g 1) (g 2))) + (cAm b 100 (g 0) (g 1) (g 3))) + (cAm b 100 (g 0) (g 2) (g 3)))]) C.1 (kX2_circlesAmong l G B0 b hW 100 f 0 (g 1) (g 2) (g 3) (by omega)) (va_cwS 5 C.ts gX2_circlesByThrees_X2_circlesAmong rfl rfl rfl (hdX2_circlesByThrees_X2_circlesAmong) ⟨Nat.le_of_ble_eq_true rfl, Nat.le_of_ble_eq_true rfl⟩) (k_preS C hX) rfl rfl hl.1 rfl (lv_room (Nat.le_of_ble_eq_true rfl)) dX2_circlesByThrees_97 ⟨Nat.le_of_ble_eq_true rfl, Nat.le_of_ble_eq_true rfl⟩) hX (fun r97 f97 H locs hp97 hX => ?_)
  obtain ⟨hr97, hf97⟩ := hp97
  rw [hf97] at hX
  refine k_topi (y := (cAm b 100 (g 1) (g 2) (g 3))) hr97 ?_
  refine lv_iadd C.x C.b dX2_circlesByThrees_100 ?_
  exact k_iret C hX hr hlocks hQ (by omega) (by omega) (⟨rfl, rfl⟩) dX2_circlesByThrees_101
