theorem kf_rr (f : FP.Core.Fmt) (s : Bool) (a b : Nat) (e : Int) : FP.Core.roundRatio f s a b e ≠ .nan := by
  unfold FP.Core.roundRatio FP.Core.roundAt FP.Core.settle FP.Core.bound
  split
  · exact fun h => nomatch h
  · split
    · split <;> exact fun h => nomatch h
    · split <;> exact fun h => nomatch h
theorem kf_round {f : FP.Core.Fmt} {d : FP.Core.Datum} (h : d ≠ .nan) : FP.Core.round f d ≠ .nan := by
  cases d with
  | nan => exact absurd rfl h
  | inf s => exact fun h => nomatch h
  | fin s c q => exact kf_rr _ _ _ _ _
theorem kf_32 {r : UInt32} (h : FP.Core.val32 r ≠ .nan) : vf_n32 r := by
  have h1 := (FP.Core.ne_nan32 r).mp h
  unfold vf_n32
  rw [UInt32.le_iff_toNat_le, UInt32.toNat_and]
  have h2 : r.toNat &&& 2147483647 = r.toNat % 2 ^ 31 := Nat.and_two_pow_sub_one_eq_mod r.toNat 31
  show r.toNat &&& 2147483647 ≤ 2139095040
  omega
theorem kf_64 {r : UInt64} (h : FP.Core.val64 r ≠ .nan) : vf_n64 r := by
  have h1 := (FP.Core.ne_nan r).mp h
  unfold vf_n64
  rw [UInt64.le_iff_toNat_le, UInt64.toNat_and]
  have h2 : r.toNat &&& 9223372036854775807 = r.toNat % 2 ^ 63 := Nat.and_two_pow_sub_one_eq_mod r.toNat 63
  show r.toNat &&& 9223372036854775807 ≤ 9218868437227405312
  omega
/-- a radius: one by the curvature; it is a number, or infinite -/
def kRad (x : Int64) : UInt32 := FP.fdiv FP.fconst1 (FP.l2f x)
theorem kRad_v (x : Int64) : FP.Core.val32 (kRad x) ≠ .nan := by
  have h1 : FP.Core.val32 (kRad x) = FP.Core.quotient FP.Core.b32 (FP.Core.val32 FP.fconst1) (FP.Core.val32 (FP.l2f x)) := FP.Core.val32_fdiv _ _
  have h2 : FP.Core.val32 (FP.l2f x) = FP.Core.round FP.Core.b32 (FP.Core.ofInt x.toInt) := FP.Core.val32_l2f x
  have h3 : FP.Core.val32 FP.fconst1 = .fin false (2 ^ 23) (-23) := FP.Core.val32_fconst1
  have h4 : FP.Core.round FP.Core.b32 (FP.Core.ofInt x.toInt) ≠ .nan := kf_round (fun h => nomatch h)
  rw [h1, h2, h3]
  cases hd : FP.Core.round FP.Core.b32 (FP.Core.ofInt x.toInt) with
  | nan => exact absurd hd h4
  | inf s => exact fun h => nomatch h
  | fin s c q =>
    simp only [FP.Core.quotient]
    split
    · rw [if_neg (by decide)]; exact fun h => nomatch h
    · exact kf_rr _ _ _ _ _
theorem kRad_n (x : Int64) : vf_n32 (FP.fdiv FP.fconst1 (FP.l2f x)) := kf_32 (kRad_v x)
theorem kRad_d (x : Int64) : vf_n64 (FP.f2d (kRad x)) ∧ FP.Core.val64 (FP.f2d (kRad x)) ≠ .nan := by
  have h0 : FP.Core.fIsNaN (kRad x) = false := by
    cases hn : FP.Core.fIsNaN (kRad x) with
    | false => rfl
    | true => exact absurd ((FP.Core.fIsNaN_iff (kRad x)).mp hn) (kRad_v x)
  have h1 : FP.f2d (kRad x) = FP.Core.f2d (kRad x) := by
    unfold FP.f2d
    rw [h0]
    rfl
  have h2 : FP.Core.val64 (FP.f2d (kRad x)) ≠ .nan := by
    rw [h1, FP.Core.val64_f2d]
    exact kf_round (kRad_v x)
  exact ⟨kf_64 h2, h2⟩
abbrev kQf (G : kG) (B0 : Nat) (post : UInt32 → kH → Prop) := va_Qf post (kB G B0) (kAb B0)
section KF
variable {p : Program} {l : Launch} {e : Env} {R : Room} {s : State} {m : MethodId} {args : Array Value} {below : List Frame} {meth : Method} {c : Code} {H : Heap} {locs : List Loc} {cells slots : Nat} {Q : State → Prop}
variable {cc : ByteArray} {pc : Nat} {ls : Array Slot} {rest : List Value} {G : kG} {B0 nL : Nat} {f : kH} {Ts : List Cond} {own : String} {a : Nat}
variable {st0 : List Value} {av : Array Value} {mc ms : Nat}
theorem k_callf {post : UInt32 → kH → Prop} (hr : va_Run p l e R s m args below meth c H locs cells slots mc ms (F0 m pc ls st0) rest (kQf G B0 post av) (kAb B0)) (hX : kX G B0 s f H locs)
    (kk : ∀ (r : UInt32) (f1 : kH) (H1 : Heap) (locs1 : List Loc), post r f1 → kX G B0 s f1 H1 locs1 → W p l e R s m args below meth c H1 locs1 (cells + mc) (slots + ms) Q (F0 m (pc + 3) ls (.float r :: rest))) : W p l e R s m args below meth c H locs cells slots Q (F0 m pc ls st0) :=
  va_callf hr hX.2 (fun _ _ h => h) (fun _ h => h) fun r f1 t H1 locs1 ht _ hp hB _ _ hS => kk r f1 H1 locs1 hp ⟨ht ▸ hB, hS⟩
theorem k_fret {post : UInt32 → kH → Prop} {v : UInt32} (C : kC G B0 p m c cc nL s args Ts own) (hX : kX G B0 s f H locs) (hr : meth.sig.returnType = some .float) (hlocks : meth.locks = false) (hQ : Q = MQ below (kQf G B0 post) args s mc ms (kAb B0)) (hc : cells ≤ mc) (hs : slots ≤ ms) (hp : post v f) (hdg : decode cc pc = .ok (.freturn, 1)) : W p l e R s m args below meth c H locs cells slots Q (F0 m pc ls [.float v]) := by
  subst hQ
  refine W.widen hc hs ?_
  exact W.fret C.x C.b hr (fun t ht _ => ⟨⟨v, f, rfl, hp, by show kW G B0 f t.heap; rw [ht]; exact hX.1⟩, hX.2.F ht⟩) hX.2.2.2 hdg hlocks
/-- from a heap one cell longer -/
theorem kX.push {H1 : Heap} {L : List Nat} {q : Nat} {e1 : va_E} (hW : kW G B0 f H) (hL : ∀ a, a ∈ L ↔ (f a).isSome = true) (hP0 : va_P G.1 vwCl ([] ++ va_pl L (kd f)) H) (hP : va_P G.1 vwCl (([] ++ va_pl L (kd f)) ++ [(q, e1)]) H1) (hD : va_D (kAb B0) (([] ++ va_pl L (kd f)) ++ [(q, e1)])) (hS : va_S (kAb B0) s.heap H1 locs) : f q = none ∧ kX G B0 s (kst f q e1) H1 locs := by
  have hm : q ∉ L := by
    intro hq
    obtain ⟨k, hk⟩ := va_pl_get (X := []) (f := kd f) hq
    have hkl := (List.getElem?_eq_some_iff.mp hk).1
    have := hD.1 k ([] ++ va_pl L (kd f)).length (q, kd f q) (q, e1) (by rw [List.getElem?_append_left hkl]; exact hk) (by rw [List.getElem?_append_right (Nat.le_refl _), Nat.sub_self]; rfl) rfl
    omega
  have hn : f q = none := by
    cases hf : f q with
    | none => rfl
    | some z => exact absurd ((hL q).mpr (by rw [hf]; rfl)) hm
  have hc : va_pl (L ++ [q]) (va_up (kd f) q e1) = va_pl (L ++ [q]) (kd (kst f q e1)) := va_pl_congr fun b => by
    by_cases hb : b = q
    · subst hb; simp [va_up, kd, kst]
    · simp [va_up, kd, kst, hb]
  rw [List.append_assoc, va_pl_push hm, hc] at hP hD
  refine ⟨hn, ⟨L ++ [q], fun b => ?_, hP, hD⟩, hS⟩
  by_cases hb : b = q
  · subst hb; simp [kst]
  · rw [kst_n _ _ hb, List.mem_append]
    constructor
    · rintro (z | z)
      · exact (hL b).mp z
      · exact absurd (List.mem_singleton.mp z) hb
    · exact fun z => Or.inl ((hL b).mpr z)
theorem kC.ge (C : kC G B0 p m c cc nL s args Ts own) : ∀ q, s.heap.size ≤ q → kAb B0 q := fun q h => Nat.le_trans C.2.2.1 h
/-- the class number of an array that is made is that of the tables -/
theorem k_cls {cA : ClassId} {ty : FieldType} {k : Nat} (hK : va_K G.1 vwCl (kTys G ++ [(cA, ty)]) s) (hk : (kTys G)[k]? = some (G.2.1 k, ty)) (ho : ∀ C, ty ≠ .object C) : cA = G.2.1 k := by
  have h1 := (hK.2 k _ (by rw [List.getElem?_append_left (List.getElem?_eq_some_iff.mp hk).1]; exact hk)).2
  have h2 := (hK.2 (kTys G).length (cA, ty) (by rw [List.getElem?_append_right (Nat.le_refl _), Nat.sub_self]; rfl)).2
  cases ty <;> first | exact absurd rfl (ho _) | exact Option.some.inj (h2.symm.trans h1)
theorem k_newaI (C : kC G B0 p m c cc nL s args Ts own) (hX : kX G B0 s f H locs) {atype : ArrayType} {R9 : Nat} {n : Int32} (harr : (Cond.arrayClass (newarray.typeOf atype)).before args s = true) (hty : newarray.typeOf atype = .int) (hn : ¬ n < 0) (hN : n.toNatClampNeg = R9) (hcells : cells + 1 ≤ R.cells) (hslots : slots + R9 ≤ R.slots) (hb : R9 * 4 ≤ 536870912) (hdg : decode cc pc = .ok (.newarray atype, 2))
    (kk : ∀ (q : Nat) (H1 : Heap), f q = none → kX G B0 s (kst f q (kaI G R9 (fun _ => 0))) H1 locs → W p l e R s m args below meth c H1 locs (cells + 1) (slots + R9) Q (F0 m (pc + 2) ls (.ref q :: rest))) : W p l e R s m args below meth c H locs cells slots Q (F0 m pc ls (.int n :: rest)) := by
  obtain ⟨L, hL, hP, hD⟩ := hX.P
  refine va_newa (D := G.1) (cl := vwCl) (a0 := (R9, .inl (fun _ => 0))) C.x C.b harr hty C.K hP hD hX.2 C.ge (fun _ => rfl) hn hN (by exact hb) hcells hslots hdg fun q cA H1 hK1 hP1 hD1 hS1 => ?_
  have e1 : cA = G.2.1 0 := k_cls hK1 rfl (fun C h => nomatch h)
  subst e1
  obtain ⟨h1, h2⟩ := kX.push hX.1 hL hP hP1 hD1 hS1
  exact kk q H1 h1 h2
theorem k_newaJ (C : kC G B0 p m c cc nL s args Ts own) (hX : kX G B0 s f H locs) {atype : ArrayType} {R9 : Nat} {n : Int32} (harr : (Cond.arrayClass (newarray.typeOf atype)).before args s = true) (hty : newarray.typeOf atype = .long) (hn : ¬ n < 0) (hN : n.toNatClampNeg = R9) (hcells : cells + 1 ≤ R.cells) (hslots : slots + R9 ≤ R.slots) (hb : R9 * 8 ≤ 536870912) (hdg : decode cc pc = .ok (.newarray atype, 2))
    (kk : ∀ (q : Nat) (H1 : Heap), f q = none → kX G B0 s (kst f q (kaJ G R9 (fun _ => 0))) H1 locs → W p l e R s m args below meth c H1 locs (cells + 1) (slots + R9) Q (F0 m (pc + 2) ls (.ref q :: rest))) : W p l e R s m args below meth c H locs cells slots Q (F0 m pc ls (.int n :: rest)) := by
  obtain ⟨L, hL, hP, hD⟩ := hX.P
  refine va_newa (D := G.1) (cl := vwCl) (a0 := (R9, .inr (.inl (fun _ => 0)))) C.x C.b harr hty C.K hP hD hX.2 C.ge (fun _ => rfl) hn hN (by exact hb) hcells hslots hdg fun q cA H1 hK1 hP1 hD1 hS1 => ?_
  have e1 : cA = G.2.1 1 := k_cls hK1 rfl (fun C h => nomatch h)
  subst e1
  obtain ⟨h1, h2⟩ := kX.push hX.1 hL hP hP1 hD1 hS1
  exact kk q H1 h1 h2
theorem k_newaZ (C : kC G B0 p m c cc nL s args Ts own) (hX : kX G B0 s f H locs) {atype : ArrayType} {R9 : Nat} {n : Int32} (harr : (Cond.arrayClass (newarray.typeOf atype)).before args s = true) (hty : newarray.typeOf atype = .boolean) (hn : ¬ n < 0) (hN : n.toNatClampNeg = R9) (hcells : cells + 1 ≤ R.cells) (hslots : slots + R9 ≤ R.slots) (hb : R9 * 1 ≤ 536870912) (hdg : decode cc pc = .ok (.newarray atype, 2))
    (kk : ∀ (q : Nat) (H1 : Heap), f q = none → kX G B0 s (kst f q (kaZ G R9 (fun _ => 0))) H1 locs → W p l e R s m args below meth c H1 locs (cells + 1) (slots + R9) Q (F0 m (pc + 2) ls (.ref q :: rest))) : W p l e R s m args below meth c H locs cells slots Q (F0 m pc ls (.int n :: rest)) := by
  obtain ⟨L, hL, hP, hD⟩ := hX.P
  refine va_newa (D := G.1) (cl := vwCl) (a0 := (R9, .inl (fun _ => 0))) C.x C.b harr hty C.K hP hD hX.2 C.ge (fun _ => rfl) hn hN (by exact hb) hcells hslots hdg fun q cA H1 hK1 hP1 hD1 hS1 => ?_
  have e1 : cA = G.2.1 2 := k_cls hK1 rfl (fun C h => nomatch h)
  subst e1
  obtain ⟨h1, h2⟩ := kX.push hX.1 hL hP hP1 hD1 hS1
  exact kk q H1 h1 h2
theorem k_newaD (C : kC G B0 p m c cc nL s args Ts own) (hX : kX G B0 s f H locs) {atype : ArrayType} {R9 : Nat} {n : Int32} (harr : (Cond.arrayClass (newarray.typeOf atype)).before args s = true) (hty : newarray.typeOf atype = .double) (hn : ¬ n < 0) (hN : n.toNatClampNeg = R9) (hcells : cells + 1 ≤ R.cells) (hslots : slots + R9 ≤ R.slots) (hb : R9 * 8 ≤ 536870912) (hdg : decode cc pc = .ok (.newarray atype, 2))
    (kk : ∀ (q : Nat) (H1 : Heap), f q = none → kX G B0 s (kst f q (kaD G R9 (fun _ => 0))) H1 locs → W p l e R s m args below meth c H1 locs (cells + 1) (slots + R9) Q (F0 m (pc + 2) ls (.ref q :: rest))) : W p l e R s m args below meth c H locs cells slots Q (F0 m pc ls (.int n :: rest)) := by
  obtain ⟨L, hL, hP, hD⟩ := hX.P
  refine va_newa (D := G.1) (cl := vwCl) (a0 := (R9, .inr (.inr (.inr (.inl (fun _ => 0)))))) C.x C.b harr hty C.K hP hD hX.2 C.ge (fun _ => rfl) hn hN (by exact hb) hcells hslots hdg fun q cA H1 hK1 hP1 hD1 hS1 => ?_
  have e1 : cA = G.2.1 5 := k_cls hK1 rfl (fun C h => nomatch h)
  subst e1
  obtain ⟨h1, h2⟩ := kX.push hX.1 hL hP hP1 hD1 hS1
  exact kk q H1 h1 h2
end KF

theorem hdX9_radius_X9_isPlace : yX9_isPlace.cls ≠ "java/lang/invoke/MethodHandle" ∧ yX9_isPlace.cls ≠ "java/lang/invoke/VarHandle" ∧ (parseMethodDescriptor yX9_isPlace.desc).map (fun d => d.parameters.length) = some 2 := by decide +kernel
theorem lk_X9_radius_f80 : Cond.fieldLink RX9 80 "KoebehallModel" "thrown" "I" ∈ wsX9_radius := by decide +kernel
theorem hin_X9_radius_RX9 : ∀ w ∈ u_ws RX9 TX9 28, w ∈ wsX9_radius := by decide +kernel
abbrev rmX9_radius_b1 : Room := { frames := 3, cells := 0, slots := 0, locals := 68 }
set_option maxHeartbeats 4000000 in
set_option maxRecDepth 100000 in
/-- X9_radius_b1 -/
theorem kX9_radius_b1 (l : Launch) (G : kG) (B0 : Nat) (f : kH) (h : Nat) (q : Nat → Nat) (i0 i1 i3 i7 i18 i22 i23 i27 : Int32) (j16 j17 : Int64) (a2 : Nat → Int32) (a4 : Nat → Int32) (a5 : Nat → Int32) (a6 : Nat → Int32) (b8 : Nat → Int64) (b9 : Nat → Int64) (b10 : Nat → Int64) (a11 : Nat → Int32) (a12 : Nat → Int32) (a13 : Nat → Int32) (a14 : Nat → Int32) (b15 : Nat → Int64) (b19 : Nat → Int64) (b20 : Nat → Int64) (b21 : Nat → Int64) (a24 : Nat → Int32) (a25 : Nat → Int32) (a26 : Nat → Int32) (a b : Int32) (g9 : Nat) (hM : kCs f (mC G h q i0 i1 i3 i7 i18 i22 i23 i27 j16 j17 a2 a4 a5 a6 b8 b9 b10 a11 a12 a13 a14 b15 b19 b20 b21 a24 a25 a26)) (hg0 : i7 = nI g9) (hg9 : g9 ≤ 8) (hv : ¬ (mIn a g9 ∧ mRg b (0) 3)) : Met l yX9_radius wsX9_radius (rmX9_radius_b1) (kP G B0 f [.ref h, .int a, .int b]) (kQf G B0 (fun r f1 => kCs f1 (mC G h q i0 i1 i3 i7 i18 i22 i23 (nI 1) j16 j17 a2 a4 a5 a6 b8 b9 b10 a11 a12 a13 a14 b15 b19 b20 b21 a24 a25 a26) ∧ kOff (mAs h q) f f1)) 0 0 (kAb B0) := by
  refine kMet (cc := cX9_radius) (maxL := 3) (ret := (some .float)) (by decide) rfl (Nat.le_of_ble_eq_true rfl) ?_
  intro p e s m args below meth c H locs Q ls C hX hl hr hlocks hnm hQ
  have hO : kOff (mAs h q) f f := kOff.rf
  have hl : lv_has ls 3 [(0, .ref h), (1, .int a), (2, .int b)] := hl
  refine lv_aload_n C.x C.b dX9_radius_0 rfl (lv_at hl 0 rfl) ?_
  refine lv_aload_n C.x C.b dX9_radius_1 rfl (lv_at hl 0 rfl) ?_
  refine lv_iload_n C.x C.b dX9_radius_2 rfl (lv_at hl 1 rfl) ?_
  refine lv_iload_n C.x C.b dX9_radius_3 rfl (lv_at hl 2 rfl) ?_
  refine k_calli (va_runV (As := [.int a, .int b]) (rest := [.ref h]) C.1 (kX9_isPlace l G B0 f h q i0 i1 i3 i7 i18 i22 i23 i27 j16 j17 a2 a4 a5 a6 b8 b9 b10 a11 a12 a13 a14 b15 b19 b20 b21 a24 a25 a26 a b g9 hM hg0 hg9) (cwV 2 C.ts gX9_radius_X9_isPlace rfl rfl rfl ⟨rfl, hdX9_radius_X9_isPlace⟩ ⟨Nat.le_of_ble_eq_true rfl, Nat.le_of_ble_eq_true rfl⟩) (k_preV C hX (hM.at 0 rfl) rfl) rfl rfl hl.1 rfl (lv_room (Nat.le_of_ble_eq_true rfl)) dX9_radius_4 ⟨Nat.le_of_ble_eq_true rfl, Nat.le_of_ble_eq_true rfl⟩) hX (fun r4 f4 H locs hp4 hX => ?_)
  obtain ⟨hr4, hf4⟩ := hp4
  rw [hf4] at hX
  refine k_topi (y := (kbI (mIn a g9 ∧ mRg b (0) 3))) hr4 ?_
  refine lv_if_eq (tgt := 14) C.x C.b dX9_radius_7 (by decide) (fun c_7 => ?_) (fun c_7 => ?_)
  rotate_left
  · exact absurd (kbI_1 c_7) (hv)
  refine lv_iconst (v := nI 1) C.x C.b dX9_radius_14 (by decide) ?_
  refine k_put (X := RX9) (T := TX9) (N := 28) (ty := .int) (v := .int (nI 1)) C hX (hM.at 0 rfl) rfl hin_X9_radius_RX9 tyX9_ok nmX9 27 (by decide) lk_X9_radius_f80 (fun _ h9 => h9) rfl (by decide +kernel) rfl rfl (Nat.le_of_ble_eq_true rfl) dX9_radius_15 (fun H locs hX => ?_)
  obtain ⟨g1, hX, hM, hO⟩ := kX.wr hX hM hO 0 rfl (List.mem_of_getElem? (i := 0) rfl)
  have hM : kCs g1 (mC G h q i0 i1 i3 i7 i18 i22 i23 (nI 1) j16 j17 a2 a4 a5 a6 b8 b9 b10 a11 a12 a13 a14 b15 b19 b20 b21 a24 a25 a26) := hM
  refine lv_aload_n C.x C.b dX9_radius_18 rfl (lv_at hl 0 rfl) ?_
  refine k_get (X := RX9) (T := TX9) (N := 28) (v := .int (nI 1)) C hX (hM.at 0 rfl) rfl hin_X9_radius_RX9 27 (by decide) lk_X9_radius_f80 (fun _ h9 => h9) rfl dX9_radius_19 ?_
  refine lv_if_le (tgt := 29) C.x C.b dX9_radius_22 (by decide) (fun c_22 => ?_) (fun c_22 => ?_)
  · exact absurd c_22 (by decide)
  refine lv_fconst0 C.x C.b dX9_radius_25 ?_
  refine lv_goto (tgt := 42) C.x C.b dX9_radius_26 (by decide) ?_
  exact k_fret C hX hr hlocks hQ (by omega) (by omega) (⟨hM, hO⟩) dX9_radius_42

theorem lk_X9_radius_f29 : Cond.fieldLink RX9 29 "KoebehallModel" "curves" "[J" ∈ wsX9_radius := by decide +kernel
abbrev rmX9_radius : Room := { frames := 3, cells := 0, slots := 0, locals := 68 }
set_option maxHeartbeats 4000000 in
set_option maxRecDepth 100000 in
/-- X9_radius -/
theorem kX9_radius (l : Launch) (G : kG) (B0 : Nat) (f : kH) (h : Nat) (q : Nat → Nat) (i0 i1 i3 i7 i18 i22 i23 i27 : Int32) (j16 j17 : Int64) (a2 : Nat → Int32) (a4 : Nat → Int32) (a5 : Nat → Int32) (a6 : Nat → Int32) (b8 : Nat → Int64) (b9 : Nat → Int64) (b10 : Nat → Int64) (a11 : Nat → Int32) (a12 : Nat → Int32) (a13 : Nat → Int32) (a14 : Nat → Int32) (b15 : Nat → Int64) (b19 : Nat → Int64) (b20 : Nat → Int64) (b21 : Nat → Int64) (a24 : Nat → Int32) (a25 : Nat → Int32) (a26 : Nat → Int32) (t k : Nat) (g9 : Nat) (hM : kCs f (mC G h q i0 i1 i3 i7 i18 i22 i23 i27 j16 j17 a2 a4 a5 a6 b8 b9 b10 a11 a12 a13 a14 b15 b19 b20 b21 a24 a25 a26)) (hg0 : i7 = nI g9) (hg9 : g9 ≤ 8) (ht : t < g9) (hk : k < 4) : Met l yX9_radius wsX9_radius (rmX9_radius) (kP G B0 f [.ref h, .int (nI t), .int (nI k)]) (kQf G B0 (fun r f1 => r = kRad (b8 (4 * t + k)) ∧ kCs f1 (mC G h q i0 i1 i3 i7 i18 i22 i23 (nI 0) j16 j17 a2 a4 a5 a6 b8 b9 b10 a11 a12 a13 a14 b15 b19 b20 b21 a24 a25 a26) ∧ kOff (mAs h q) f f1)) 0 0 (kAb B0) := by
  refine kMet (cc := cX9_radius) (maxL := 3) (ret := (some .float)) (by decide) rfl (Nat.le_of_ble_eq_true rfl) ?_
  intro p e s m args below meth c H locs Q ls C hX hl hr hlocks hnm hQ
  have hO : kOff (mAs h q) f f := kOff.rf
  have hl : lv_has ls 3 [(0, .ref h), (1, .int (nI t)), (2, .int (nI k))] := hl
  refine lv_aload_n C.x C.b dX9_radius_0 rfl (lv_at hl 0 rfl) ?_
  refine lv_aload_n C.x C.b dX9_radius_1 rfl (lv_at hl 0 rfl) ?_
  refine lv_iload_n C.x C.b dX9_radius_2 rfl (lv_at hl 1 rfl) ?_
  refine lv_iload_n C.x C.b dX9_radius_3 rfl (lv_at hl 2 rfl) ?_
  refine k_calli (va_runV (As := [.int (nI t), .int (nI k)]) (rest := [.ref h]) C.1 (kX9_isPlace l G B0 f h q i0 i1 i3 i7 i18 i22 i23 i27 j16 j17 a2 a4 a5 a6 b8 b9 b10 a11 a12 a13 a14 b15 b19 b20 b21 a24 a25 a26 (nI t) (nI k) g9 hM hg0 hg9) (cwV 2 C.ts gX9_radius_X9_isPlace rfl rfl rfl ⟨rfl, hdX9_radius_X9_isPlace⟩ ⟨Nat.le_of_ble_eq_true rfl, Nat.le_of_ble_eq_true rfl⟩) (k_preV C hX (hM.at 0 rfl) rfl) rfl rfl hl.1 rfl (lv_room (Nat.le_of_ble_eq_true rfl)) dX9_radius_4 ⟨Nat.le_of_ble_eq_true rfl, Nat.le_of_ble_eq_true rfl⟩) hX (fun r4 f4 H locs hp4 hX => ?_)
  obtain ⟨hr4, hf4⟩ := hp4
  rw [hf4] at hX
  refine k_topi (y := (kbI (mIn (nI t) g9 ∧ mRg (nI k) (0) 3))) hr4 ?_
  refine lv_if_eq (tgt := 14) C.x C.b dX9_radius_7 (by decide) (fun c_7 => ?_) (fun c_7 => ?_)
  · exact absurd ((And.intro ((mIn_nI (by omega)).mpr ht) (by rw [mRg, nI_toInt (by omega)]; omega))) (kbI_0 c_7)
  refine lv_iconst (v := nI 0) C.x C.b dX9_radius_10 (by decide) ?_
  refine lv_goto (tgt := 15) C.x C.b dX9_radius_11 (by decide) ?_
  refine k_put (X := RX9) (T := TX9) (N := 28) (ty := .int) (v := .int (nI 0)) C hX (hM.at 0 rfl) rfl hin_X9_radius_RX9 tyX9_ok nmX9 27 (by decide) lk_X9_radius_f80 (fun _ h9 => h9) rfl (by decide +kernel) rfl rfl (Nat.le_of_ble_eq_true rfl) dX9_radius_15 (fun H locs hX => ?_)
  obtain ⟨g1, hX, hM, hO⟩ := kX.wr hX hM hO 0 rfl (List.mem_of_getElem? (i := 0) rfl)
  have hM : kCs g1 (mC G h q i0 i1 i3 i7 i18 i22 i23 (nI 0) j16 j17 a2 a4 a5 a6 b8 b9 b10 a11 a12 a13 a14 b15 b19 b20 b21 a24 a25 a26) := hM
  refine lv_aload_n C.x C.b dX9_radius_18 rfl (lv_at hl 0 rfl) ?_
  refine k_get (X := RX9) (T := TX9) (N := 28) (v := .int (nI 0)) C hX (hM.at 0 rfl) rfl hin_X9_radius_RX9 27 (by decide) lk_X9_radius_f80 (fun _ h9 => h9) rfl dX9_radius_19 ?_
  refine lv_if_le (tgt := 29) C.x C.b dX9_radius_22 (by decide) (fun c_22 => ?_) (fun c_22 => ?_)
  rotate_left
  · exact absurd c_22 (by decide)
  refine lv_fconst1 C.x C.b dX9_radius_29 ?_
  refine lv_aload_n C.x C.b dX9_radius_30 rfl (lv_at hl 0 rfl) ?_
  refine k_get (X := RX9) (T := TX9) (N := 28) (v := .ref (q 8)) C hX (hM.at 0 rfl) rfl hin_X9_radius_RX9 8 (by decide) lk_X9_radius_f29 (fun _ h9 => h9) rfl dX9_radius_31 ?_
  refine lv_iconst (v := nI 4) C.x C.b dX9_radius_34 (by decide) ?_
  refine lv_iload_n C.x C.b dX9_radius_35 rfl (lv_at hl 1 rfl) ?_
  refine lv_imul C.x C.b dX9_radius_36 ?_
  refine k_topi (y := nI (4 * t)) (pk_mul _ _) ?_
  refine lv_iload_n C.x C.b dX9_radius_37 rfl (lv_at hl 2 rfl) ?_
  refine lv_iadd C.x C.b dX9_radius_38 ?_
  refine k_topi (y := nI ((4 * t) + k)) (nI_add _ _) ?_
  refine k_lald C hX (hM.at 5 rfl) (vp_in_nI (by omega) (by omega)) dX9_radius_39 ?_
  refine k_topl (y := b8 ((4 * t) + k)) (by rw [nI_clamp (by omega)]) ?_
  refine lv_l2f C.x C.b dX9_radius_40 ?_
  refine lv_fdiv C.x C.b dX9_radius_41 (kRad_n _) ?_
  exact k_fret C hX hr hlocks hQ (by omega) (by omega) (⟨rfl, hM, hO⟩) dX9_radius_42

theorem hdX9_count_X9_counts : yX9_counts.cls ≠ "java/lang/invoke/MethodHandle" ∧ yX9_counts.cls ≠ "java/lang/invoke/VarHandle" ∧ (parseMethodDescriptor yX9_counts.desc).map (fun d => d.parameters.length) = some 2 := by decide +kernel
abbrev rmX9_count_b1 : Room := { frames := 3, cells := 0, slots := 0, locals := 72 }
set_option maxHeartbeats 4000000 in
set_option maxRecDepth 100000 in
/-- X9_count_b1 -/
theorem kX9_count_b1 (l : Launch) (G : kG) (B0 : Nat) (f : kH) (h : Nat) (q : Nat → Nat) (i0 i1 i3 i7 i18 i22 i23 i27 : Int32) (j16 j17 : Int64) (a2 : Nat → Int32) (a4 : Nat → Int32) (a5 : Nat → Int32) (a6 : Nat → Int32) (b8 : Nat → Int64) (b9 : Nat → Int64) (b10 : Nat → Int64) (a11 : Nat → Int32) (a12 : Nat → Int32) (a13 : Nat → Int32) (a14 : Nat → Int32) (b15 : Nat → Int64) (b19 : Nat → Int64) (b20 : Nat → Int64) (b21 : Nat → Int64) (a24 : Nat → Int32) (a25 : Nat → Int32) (a26 : Nat → Int32) (a b : Int32) (g9 : Nat) (hM : kCs f (mC G h q i0 i1 i3 i7 i18 i22 i23 i27 j16 j17 a2 a4 a5 a6 b8 b9 b10 a11 a12 a13 a14 b15 b19 b20 b21 a24 a25 a26)) (hg0 : i7 = nI g9) (hg9 : g9 ≤ 8) (hv : ¬ mIn a g9) : Met l yX9_count wsX9_count (rmX9_count_b1) (kP G B0 f [.ref h, .int a, .int b]) (kQi G B0 (fun r f1 => r = nI 0 ∧ kCs f1 (mC G h q i0 i1 i3 i7 i18 i22 i23 (nI 1) j16 j17 a2 a4 a5 a6 b8 b9 b10 a11 a12 a13 a14 b15 b19 b20 b21 a24 a25 a26) ∧ kOff (mAs h q) f f1)) 0 0 (kAb B0) := by
  refine kMet (cc := cX9_count) (maxL := 3) (ret := (some .int)) (by decide) rfl (Nat.le_of_ble_eq_true rfl) ?_
  intro p e s m args below meth c H locs Q ls C hX hl hr hlocks hnm hQ
  have hO : kOff (mAs h q) f f := kOff.rf
  have hl : lv_has ls 3 [(0, .ref h), (1, .int a), (2, .int b)] := hl
  refine lv_aload_n C.x C.b dX9_count_0 rfl (lv_at hl 0 rfl) ?_
  refine lv_iload_n C.x C.b dX9_count_1 rfl (lv_at hl 1 rfl) ?_
  refine lv_iload_n C.x C.b dX9_count_2 rfl (lv_at hl 2 rfl) ?_
  refine k_calli (va_runV (As := [.int a, .int b]) (rest := []) C.1 (kX9_counts_b1 l G B0 f h q i0 i1 i3 i7 i18 i22 i23 i27 j16 j17 a2 a4 a5 a6 b8 b9 b10 a11 a12 a13 a14 b15 b19 b20 b21 a24 a25 a26 a b g9 hM hg0 hg9 hv) (cwV 2 C.ts gX9_count_X9_counts rfl rfl rfl ⟨rfl, hdX9_count_X9_counts⟩ ⟨Nat.le_of_ble_eq_true rfl, Nat.le_of_ble_eq_true rfl⟩) (k_preV C hX (hM.at 0 rfl) rfl) rfl rfl hl.1 rfl (lv_room (Nat.le_of_ble_eq_true rfl)) dX9_count_3 ⟨Nat.le_of_ble_eq_true rfl, Nat.le_of_ble_eq_true rfl⟩) hX (fun r3 f3 H locs hp3 hX => ?_)
  obtain ⟨hr3, hM, hO3⟩ := hp3
  have hO := hO.trans hO3
  have hM : kCs f3 (mC G h q i0 i1 i3 i7 i18 i22 i23 (nI 1) j16 j17 a2 a4 a5 a6 b8 b9 b10 a11 a12 a13 a14 b15 b19 b20 b21 a24 a25 a26) := hM
  refine k_topi (y := (nI 0)) hr3 ?_
  exact k_iret C hX hr hlocks hQ (by omega) (by omega) (⟨rfl, hM, hO⟩) dX9_count_6

abbrev rmX9_count_b2 : Room := { frames := 3, cells := 0, slots := 0, locals := 72 }
set_option maxHeartbeats 4000000 in
set_option maxRecDepth 100000 in
/-- X9_count_b2 -/
theorem kX9_count_b2 (l : Launch) (G : kG) (B0 : Nat) (f : kH) (h : Nat) (q : Nat → Nat) (i0 i1 i3 i7 i18 i22 i23 i27 : Int32) (j16 j17 : Int64) (a2 : Nat → Int32) (a4 : Nat → Int32) (a5 : Nat → Int32) (a6 : Nat → Int32) (b8 : Nat → Int64) (b9 : Nat → Int64) (b10 : Nat → Int64) (a11 : Nat → Int32) (a12 : Nat → Int32) (a13 : Nat → Int32) (a14 : Nat → Int32) (b15 : Nat → Int64) (b19 : Nat → Int64) (b20 : Nat → Int64) (b21 : Nat → Int64) (a24 : Nat → Int32) (a25 : Nat → Int32) (a26 : Nat → Int32) (a b : Int32) (g9 : Nat) (hM : kCs f (mC G h q i0 i1 i3 i7 i18 i22 i23 i27 j16 j17 a2 a4 a5 a6 b8 b9 b10 a11 a12 a13 a14 b15 b19 b20 b21 a24 a25 a26)) (hg0 : i7 = nI g9) (hg9 : g9 ≤ 8) (hv : mIn a g9) (hw : ¬ mRg b (1) 1000) : Met l yX9_count wsX9_count (rmX9_count_b2) (kP G B0 f [.ref h, .int a, .int b]) (kQi G B0 (fun r f1 => r = nI 0 ∧ kCs f1 (mC G h q i0 i1 i3 i7 i18 i22 i23 (nI 2) j16 j17 a2 a4 a5 a6 b8 b9 b10 a11 a12 a13 a14 b15 b19 b20 b21 a24 a25 a26) ∧ kOff (mAs h q) f f1)) 0 0 (kAb B0) := by
  refine kMet (cc := cX9_count) (maxL := 3) (ret := (some .int)) (by decide) rfl (Nat.le_of_ble_eq_true rfl) ?_
  intro p e s m args below meth c H locs Q ls C hX hl hr hlocks hnm hQ
  have hO : kOff (mAs h q) f f := kOff.rf
  have hl : lv_has ls 3 [(0, .ref h), (1, .int a), (2, .int b)] := hl
  refine lv_aload_n C.x C.b dX9_count_0 rfl (lv_at hl 0 rfl) ?_
  refine lv_iload_n C.x C.b dX9_count_1 rfl (lv_at hl 1 rfl) ?_
  refine lv_iload_n C.x C.b dX9_count_2 rfl (lv_at hl 2 rfl) ?_
  refine k_calli (va_runV (As := [.int a, .int b]) (rest := []) C.1 (kX9_counts_b2 l G B0 f h q i0 i1 i3 i7 i18 i22 i23 i27 j16 j17 a2 a4 a5 a6 b8 b9 b10 a11 a12 a13 a14 b15 b19 b20 b21 a24 a25 a26 a b g9 hM hg0 hg9 hv hw) (cwV 2 C.ts gX9_count_X9_counts rfl rfl rfl ⟨rfl, hdX9_count_X9_counts⟩ ⟨Nat.le_of_ble_eq_true rfl, Nat.le_of_ble_eq_true rfl⟩) (k_preV C hX (hM.at 0 rfl) rfl) rfl rfl hl.1 rfl (lv_room (Nat.le_of_ble_eq_true rfl)) dX9_count_3 ⟨Nat.le_of_ble_eq_true rfl, Nat.le_of_ble_eq_true rfl⟩) hX (fun r3 f3 H locs hp3 hX => ?_)
  obtain ⟨hr3, hM, hO3⟩ := hp3
  have hO := hO.trans hO3
  have hM : kCs f3 (mC G h q i0 i1 i3 i7 i18 i22 i23 (nI 2) j16 j17 a2 a4 a5 a6 b8 b9 b10 a11 a12 a13 a14 b15 b19 b20 b21 a24 a25 a26) := hM
  refine k_topi (y := (nI 0)) hr3 ?_
  exact k_iret C hX hr hlocks hQ (by omega) (by omega) (⟨rfl, hM, hO⟩) dX9_count_6

abbrev rmX9_count_b3 : Room := { frames := 3, cells := 0, slots := 0, locals := 76 }
set_option maxHeartbeats 4000000 in
set_option maxRecDepth 100000 in
/-- X9_count_b3 -/
theorem kX9_count_b3 (l : Launch) (G : kG) (B0 : Nat) (f : kH) (h : Nat) (q : Nat → Nat) (i0 i1 i3 i7 i18 i22 i23 i27 : Int32) (j16 j17 : Int64) (a2 : Nat → Int32) (a4 : Nat → Int32) (a5 : Nat → Int32) (a6 : Nat → Int32) (b8 : Nat → Int64) (b9 : Nat → Int64) (b10 : Nat → Int64) (a11 : Nat → Int32) (a12 : Nat → Int32) (a13 : Nat → Int32) (a14 : Nat → Int32) (b15 : Nat → Int64) (b19 : Nat → Int64) (b20 : Nat → Int64) (b21 : Nat → Int64) (a24 : Nat → Int32) (a25 : Nat → Int32) (a26 : Nat → Int32) (t b g9 N : Nat) (hM : kCs f (mC G h q i0 i1 i3 i7 i18 i22 i23 i27 j16 j17 a2 a4 a5 a6 b8 b9 b10 a11 a12 a13 a14 b15 b19 b20 b21 a24 a25 a26)) (hg0 : i7 = nI g9) (hg9 : g9 ≤ 8) (ht : t < g9) (hb1 : 1 ≤ b) (hb2 : b ≤ 1000) (hN : mRooted (mCopy b9 b8 (4 * t) 4) N) (hx : ¬ (mRoot b8 b9 t N) 0 < 0) : Met l yX9_count wsX9_count (rmX9_count_b3) (kP G B0 f [.ref h, .int (nI t), .int (nI b)]) (kQi G B0 (fun r f1 => r = nI 0 ∧ kCs f1 (mC G h q i0 i1 i3 i7 i18 i22 i23 (nI 3) j16 j17 a2 a4 a5 a6 b8 (mRoot b8 b9 t N) b10 a11 a12 a13 a14 b15 b19 b20 b21 a24 a25 a26) ∧ kOff (mAs h q) f f1)) 0 0 (kAb B0) := by
  refine kMet (cc := cX9_count) (maxL := 3) (ret := (some .int)) (by decide) rfl (Nat.le_of_ble_eq_true rfl) ?_
  intro p e s m args below meth c H locs Q ls C hX hl hr hlocks hnm hQ
  have hO : kOff (mAs h q) f f := kOff.rf
  have hl : lv_has ls 3 [(0, .ref h), (1, .int (nI t)), (2, .int (nI b))] := hl
  refine lv_aload_n C.x C.b dX9_count_0 rfl (lv_at hl 0 rfl) ?_
  refine lv_iload_n C.x C.b dX9_count_1 rfl (lv_at hl 1 rfl) ?_
  refine lv_iload_n C.x C.b dX9_count_2 rfl (lv_at hl 2 rfl) ?_
  refine k_calli (va_runV (As := [.int (nI t), .int (nI b)]) (rest := []) C.1 (kX9_counts_b3 l G B0 f h q i0 i1 i3 i7 i18 i22 i23 i27 j16 j17 a2 a4 a5 a6 b8 b9 b10 a11 a12 a13 a14 b15 b19 b20 b21 a24 a25 a26 t b g9 N hM hg0 hg9 ht hb1 hb2 hN hx) (cwV 2 C.ts gX9_count_X9_counts rfl rfl rfl ⟨rfl, hdX9_count_X9_counts⟩ ⟨Nat.le_of_ble_eq_true rfl, Nat.le_of_ble_eq_true rfl⟩) (k_preV C hX (hM.at 0 rfl) rfl) rfl rfl hl.1 rfl (lv_room (Nat.le_of_ble_eq_true rfl)) dX9_count_3 ⟨Nat.le_of_ble_eq_true rfl, Nat.le_of_ble_eq_true rfl⟩) hX (fun r3 f3 H locs hp3 hX => ?_)
  obtain ⟨hr3, hM, hO3⟩ := hp3
  have hO := hO.trans hO3
  have hM : kCs f3 (mC G h q i0 i1 i3 i7 i18 i22 i23 (nI 3) j16 j17 a2 a4 a5 a6 b8 (mRoot b8 b9 t N) b10 a11 a12 a13 a14 b15 b19 b20 b21 a24 a25 a26) := hM
  refine k_topi (y := (nI 0)) hr3 ?_
  exact k_iret C hX hr hlocks hQ (by omega) (by omega) (⟨rfl, hM, hO⟩) dX9_count_6

abbrev rmX9_count : Room := { frames := 3, cells := 0, slots := 0, locals := 76 }
set_option maxHeartbeats 4000000 in
set_option maxRecDepth 100000 in
/-- X9_count -/
theorem kX9_count (l : Launch) (G : kG) (B0 : Nat) (f : kH) (h : Nat) (q : Nat → Nat) (i0 i1 i3 i7 i18 i22 i23 i27 : Int32) (j16 j17 : Int64) (a2 : Nat → Int32) (a4 : Nat → Int32) (a5 : Nat → Int32) (a6 : Nat → Int32) (b8 : Nat → Int64) (b9 : Nat → Int64) (b10 : Nat → Int64) (a11 : Nat → Int32) (a12 : Nat → Int32) (a13 : Nat → Int32) (a14 : Nat → Int32) (b15 : Nat → Int64) (b19 : Nat → Int64) (b20 : Nat → Int64) (b21 : Nat → Int64) (a24 : Nat → Int32) (a25 : Nat → Int32) (a26 : Nat → Int32) (t b g9 N : Nat) (hM : kCs f (mC G h q i0 i1 i3 i7 i18 i22 i23 i27 j16 j17 a2 a4 a5 a6 b8 b9 b10 a11 a12 a13 a14 b15 b19 b20 b21 a24 a25 a26)) (hg0 : i7 = nI g9) (hg9 : g9 ≤ 8) (ht : t < g9) (hb1 : 1 ≤ b) (hb2 : b ≤ 1000) (hN : mRooted (mCopy b9 b8 (4 * t) 4) N) (fu : Nat) (hx : (mRoot b8 b9 t N) 0 < 0) (hfin : mFin (nI b).toInt64 fu (mRoot b8 b9 t N) 4) (hfu : fu ≤ 255) : Met l yX9_count wsX9_count (rmX9_count) (kP G B0 f [.ref h, .int (nI t), .int (nI b)]) (kQi G B0 (fun r f1 => r = nI (mCount (mRoot b8 b9 t N) (nI b).toInt64 fu) ∧ ∃ (B9 : Nat → Int64) (C1 C2 : Nat → Int32), kCs f1 (mC G h q i0 i1 i3 i7 i18 i22 i23 (nI 0) j16 j17 a2 a4 a5 a6 b8 (mRoot b8 b9 t N) B9 C1 C2 a13 a14 b15 b19 b20 b21 a24 a25 a26) ∧ kOff (mAs h q) f f1)) 0 0 (kAb B0) := by
  refine kMet (cc := cX9_count) (maxL := 3) (ret := (some .int)) (by decide) rfl (Nat.le_of_ble_eq_true rfl) ?_
  intro p e s m args below meth c H locs Q ls C hX hl hr hlocks hnm hQ
  have hO : kOff (mAs h q) f f := kOff.rf
  have hl : lv_has ls 3 [(0, .ref h), (1, .int (nI t)), (2, .int (nI b))] := hl
  refine lv_aload_n C.x C.b dX9_count_0 rfl (lv_at hl 0 rfl) ?_
  refine lv_iload_n C.x C.b dX9_count_1 rfl (lv_at hl 1 rfl) ?_
  refine lv_iload_n C.x C.b dX9_count_2 rfl (lv_at hl 2 rfl) ?_
  refine k_calli (va_runV (As := [.int (nI t), .int (nI b)]) (rest := []) C.1 (kX9_counts l G B0 f h q i0 i1 i3 i7 i18 i22 i23 i27 j16 j17 a2 a4 a5 a6 b8 b9 b10 a11 a12 a13 a14 b15 b19 b20 b21 a24 a25 a26 t b g9 N hM hg0 hg9 ht hb1 hb2 hN fu hx hfin hfu) (cwV 2 C.ts gX9_count_X9_counts rfl rfl rfl ⟨rfl, hdX9_count_X9_counts⟩ ⟨Nat.le_of_ble_eq_true rfl, Nat.le_of_ble_eq_true rfl⟩) (k_preV C hX (hM.at 0 rfl) rfl) rfl rfl hl.1 rfl (lv_room (Nat.le_of_ble_eq_true rfl)) dX9_count_3 ⟨Nat.le_of_ble_eq_true rfl, Nat.le_of_ble_eq_true rfl⟩) hX (fun r3 f3 H locs hp3 hX => ?_)
  obtain ⟨hr3, B9, C1, C2, hM, hO3⟩ := hp3
  have hO := hO.trans hO3
  refine k_topi hr3 ?_
  exact k_iret C hX hr hlocks hQ (by omega) (by omega) (⟨rfl, B9, C1, C2, hM, hO⟩) dX9_count_6

theorem hdX9_countAnew_X9_counts : yX9_counts.cls ≠ "java/lang/invoke/MethodHandle" ∧ yX9_counts.cls ≠ "java/lang/invoke/VarHandle" ∧ (parseMethodDescriptor yX9_counts.desc).map (fun d => d.parameters.length) = some 2 := by decide +kernel
abbrev rmX9_countAnew_b1 : Room := { frames := 3, cells := 0, slots := 0, locals := 72 }
set_option maxHeartbeats 4000000 in
set_option maxRecDepth 100000 in
/-- X9_countAnew_b1 -/
theorem kX9_countAnew_b1 (l : Launch) (G : kG) (B0 : Nat) (f : kH) (h : Nat) (q : Nat → Nat) (i0 i1 i3 i7 i18 i22 i23 i27 : Int32) (j16 j17 : Int64) (a2 : Nat → Int32) (a4 : Nat → Int32) (a5 : Nat → Int32) (a6 : Nat → Int32) (b8 : Nat → Int64) (b9 : Nat → Int64) (b10 : Nat → Int64) (a11 : Nat → Int32) (a12 : Nat → Int32) (a13 : Nat → Int32) (a14 : Nat → Int32) (b15 : Nat → Int64) (b19 : Nat → Int64) (b20 : Nat → Int64) (b21 : Nat → Int64) (a24 : Nat → Int32) (a25 : Nat → Int32) (a26 : Nat → Int32) (a b : Int32) (g9 : Nat) (hM : kCs f (mC G h q i0 i1 i3 i7 i18 i22 i23 i27 j16 j17 a2 a4 a5 a6 b8 b9 b10 a11 a12 a13 a14 b15 b19 b20 b21 a24 a25 a26)) (hg0 : i7 = nI g9) (hg9 : g9 ≤ 8) (hv : ¬ mIn a g9) : Met l yX9_countAnew wsX9_countAnew (rmX9_countAnew_b1) (kP G B0 f [.ref h, .int a, .int b]) (kQi G B0 (fun r f1 => r = nI 0 ∧ kCs f1 (mC G h q i0 i1 i3 i7 i18 i22 i23 (nI 1) j16 j17 a2 a4 a5 a6 b8 b9 b10 a11 a12 a13 a14 b15 b19 b20 b21 a24 a25 a26) ∧ kOff (mAs h q) f f1)) 0 0 (kAb B0) := by
  refine kMet (cc := cX9_countAnew) (maxL := 3) (ret := (some .int)) (by decide) rfl (Nat.le_of_ble_eq_true rfl) ?_
  intro p e s m args below meth c H locs Q ls C hX hl hr hlocks hnm hQ
  have hO : kOff (mAs h q) f f := kOff.rf
  have hl : lv_has ls 3 [(0, .ref h), (1, .int a), (2, .int b)] := hl
  refine lv_aload_n C.x C.b dX9_countAnew_0 rfl (lv_at hl 0 rfl) ?_
  refine lv_iload_n C.x C.b dX9_countAnew_1 rfl (lv_at hl 1 rfl) ?_
  refine lv_iload_n C.x C.b dX9_countAnew_2 rfl (lv_at hl 2 rfl) ?_
  refine k_calli (va_runV (As := [.int a, .int b]) (rest := []) C.1 (kX9_counts_b1 l G B0 f h q i0 i1 i3 i7 i18 i22 i23 i27 j16 j17 a2 a4 a5 a6 b8 b9 b10 a11 a12 a13 a14 b15 b19 b20 b21 a24 a25 a26 a b g9 hM hg0 hg9 hv) (cwV 2 C.ts gX9_countAnew_X9_counts rfl rfl rfl ⟨rfl, hdX9_countAnew_X9_counts⟩ ⟨Nat.le_of_ble_eq_true rfl, Nat.le_of_ble_eq_true rfl⟩) (k_preV C hX (hM.at 0 rfl) rfl) rfl rfl hl.1 rfl (lv_room (Nat.le_of_ble_eq_true rfl)) dX9_countAnew_3 ⟨Nat.le_of_ble_eq_true rfl, Nat.le_of_ble_eq_true rfl⟩) hX (fun r3 f3 H locs hp3 hX => ?_)
  obtain ⟨hr3, hM, hO3⟩ := hp3
  have hO := hO.trans hO3
  have hM : kCs f3 (mC G h q i0 i1 i3 i7 i18 i22 i23 (nI 1) j16 j17 a2 a4 a5 a6 b8 b9 b10 a11 a12 a13 a14 b15 b19 b20 b21 a24 a25 a26) := hM
  refine k_topi (y := (nI 0)) hr3 ?_
  exact k_iret C hX hr hlocks hQ (by omega) (by omega) (⟨rfl, hM, hO⟩) dX9_countAnew_6

abbrev rmX9_countAnew_b2 : Room := { frames := 3, cells := 0, slots := 0, locals := 72 }
set_option maxHeartbeats 4000000 in
set_option maxRecDepth 100000 in
/-- X9_countAnew_b2 -/
theorem kX9_countAnew_b2 (l : Launch) (G : kG) (B0 : Nat) (f : kH) (h : Nat) (q : Nat → Nat) (i0 i1 i3 i7 i18 i22 i23 i27 : Int32) (j16 j17 : Int64) (a2 : Nat → Int32) (a4 : Nat → Int32) (a5 : Nat → Int32) (a6 : Nat → Int32) (b8 : Nat → Int64) (b9 : Nat → Int64) (b10 : Nat → Int64) (a11 : Nat → Int32) (a12 : Nat → Int32) (a13 : Nat → Int32) (a14 : Nat → Int32) (b15 : Nat → Int64) (b19 : Nat → Int64) (b20 : Nat → Int64) (b21 : Nat → Int64) (a24 : Nat → Int32) (a25 : Nat → Int32) (a26 : Nat → Int32) (a b : Int32) (g9 : Nat) (hM : kCs f (mC G h q i0 i1 i3 i7 i18 i22 i23 i27 j16 j17 a2 a4 a5 a6 b8 b9 b10 a11 a12 a13 a14 b15 b19 b20 b21 a24 a25 a26)) (hg0 : i7 = nI g9) (hg9 : g9 ≤ 8) (hv : mIn a g9) (hw : ¬ mRg b (1) 1000) : Met l yX9_countAnew wsX9_countAnew (rmX9_countAnew_b2) (kP G B0 f [.ref h, .int a, .int b]) (kQi G B0 (fun r f1 => r = nI 0 ∧ kCs f1 (mC G h q i0 i1 i3 i7 i18 i22 i23 (nI 2) j16 j17 a2 a4 a5 a6 b8 b9 b10 a11 a12 a13 a14 b15 b19 b20 b21 a24 a25 a26) ∧ kOff (mAs h q) f f1)) 0 0 (kAb B0) := by
  refine kMet (cc := cX9_countAnew) (maxL := 3) (ret := (some .int)) (by decide) rfl (Nat.le_of_ble_eq_true rfl) ?_
  intro p e s m args below meth c H locs Q ls C hX hl hr hlocks hnm hQ
  have hO : kOff (mAs h q) f f := kOff.rf
  have hl : lv_has ls 3 [(0, .ref h), (1, .int a), (2, .int b)] := hl
  refine lv_aload_n C.x C.b dX9_countAnew_0 rfl (lv_at hl 0 rfl) ?_
  refine lv_iload_n C.x C.b dX9_countAnew_1 rfl (lv_at hl 1 rfl) ?_
  refine lv_iload_n C.x C.b dX9_countAnew_2 rfl (lv_at hl 2 rfl) ?_
  refine k_calli (va_runV (As := [.int a, .int b]) (rest := []) C.1 (kX9_counts_b2 l G B0 f h q i0 i1 i3 i7 i18 i22 i23 i27 j16 j17 a2 a4 a5 a6 b8 b9 b10 a11 a12 a13 a14 b15 b19 b20 b21 a24 a25 a26 a b g9 hM hg0 hg9 hv hw) (cwV 2 C.ts gX9_countAnew_X9_counts rfl rfl rfl ⟨rfl, hdX9_countAnew_X9_counts⟩ ⟨Nat.le_of_ble_eq_true rfl, Nat.le_of_ble_eq_true rfl⟩) (k_preV C hX (hM.at 0 rfl) rfl) rfl rfl hl.1 rfl (lv_room (Nat.le_of_ble_eq_true rfl)) dX9_countAnew_3 ⟨Nat.le_of_ble_eq_true rfl, Nat.le_of_ble_eq_true rfl⟩) hX (fun r3 f3 H locs hp3 hX => ?_)
  obtain ⟨hr3, hM, hO3⟩ := hp3
  have hO := hO.trans hO3
  have hM : kCs f3 (mC G h q i0 i1 i3 i7 i18 i22 i23 (nI 2) j16 j17 a2 a4 a5 a6 b8 b9 b10 a11 a12 a13 a14 b15 b19 b20 b21 a24 a25 a26) := hM
  refine k_topi (y := (nI 0)) hr3 ?_
  exact k_iret C hX hr hlocks hQ (by omega) (by omega) (⟨rfl, hM, hO⟩) dX9_countAnew_6

abbrev rmX9_countAnew_b3 : Room := { frames := 3, cells := 0, slots := 0, locals := 76 }
set_option maxHeartbeats 4000000 in
set_option maxRecDepth 100000 in
/-- X9_countAnew_b3 -/
theorem kX9_countAnew_b3 (l : Launch) (G : kG) (B0 : Nat) (f : kH) (h : Nat) (q : Nat → Nat) (i0 i1 i3 i7 i18 i22 i23 i27 : Int32) (j16 j17 : Int64) (a2 : Nat → Int32) (a4 : Nat → Int32) (a5 : Nat → Int32) (a6 : Nat → Int32) (b8 : Nat → Int64) (b9 : Nat → Int64) (b10 : Nat → Int64) (a11 : Nat → Int32) (a12 : Nat → Int32) (a13 : Nat → Int32) (a14 : Nat → Int32) (b15 : Nat → Int64) (b19 : Nat → Int64) (b20 : Nat → Int64) (b21 : Nat → Int64) (a24 : Nat → Int32) (a25 : Nat → Int32) (a26 : Nat → Int32) (t b g9 N : Nat) (hM : kCs f (mC G h q i0 i1 i3 i7 i18 i22 i23 i27 j16 j17 a2 a4 a5 a6 b8 b9 b10 a11 a12 a13 a14 b15 b19 b20 b21 a24 a25 a26)) (hg0 : i7 = nI g9) (hg9 : g9 ≤ 8) (ht : t < g9) (hb1 : 1 ≤ b) (hb2 : b ≤ 1000) (hN : mRooted (mCopy b9 b8 (4 * t) 4) N) (hx : ¬ (mRoot b8 b9 t N) 0 < 0) : Met l yX9_countAnew wsX9_countAnew (rmX9_countAnew_b3) (kP G B0 f [.ref h, .int (nI t), .int (nI b)]) (kQi G B0 (fun r f1 => r = nI 0 ∧ kCs f1 (mC G h q i0 i1 i3 i7 i18 i22 i23 (nI 3) j16 j17 a2 a4 a5 a6 b8 (mRoot b8 b9 t N) b10 a11 a12 a13 a14 b15 b19 b20 b21 a24 a25 a26) ∧ kOff (mAs h q) f f1)) 0 0 (kAb B0) := by
  refine kMet (cc := cX9_countAnew) (maxL := 3) (ret := (some .int)) (by decide) rfl (Nat.le_of_ble_eq_true rfl) ?_
  intro p e s m args below meth c H locs Q ls C hX hl hr hlocks hnm hQ
  have hO : kOff (mAs h q) f f := kOff.rf
  have hl : lv_has ls 3 [(0, .ref h), (1, .int (nI t)), (2, .int (nI b))] := hl
  refine lv_aload_n C.x C.b dX9_countAnew_0 rfl (lv_at hl 0 rfl) ?_
  refine lv_iload_n C.x C.b dX9_countAnew_1 rfl (lv_at hl 1 rfl) ?_
  refine lv_iload_n C.x C.b dX9_countAnew_2 rfl (lv_at hl 2 rfl) ?_
  refine k_calli (va_runV (As := [.int (nI t), .int (nI b)]) (rest := []) C.1 (kX9_counts_b3 l G B0 f h q i0 i1 i3 i7 i18 i22 i23 i27 j16 j17 a2 a4 a5 a6 b8 b9 b10 a11 a12 a13 a14 b15 b19 b20 b21 a24 a25 a26 t b g9 N hM hg0 hg9 ht hb1 hb2 hN hx) (cwV 2 C.ts gX9_countAnew_X9_counts rfl rfl rfl ⟨rfl, hdX9_countAnew_X9_counts⟩ ⟨Nat.le_of_ble_eq_true rfl, Nat.le_of_ble_eq_true rfl⟩) (k_preV C hX (hM.at 0 rfl) rfl) rfl rfl hl.1 rfl (lv_room (Nat.le_of_ble_eq_true rfl)) dX9_countAnew_3 ⟨Nat.le_of_ble_eq_true rfl, Nat.le_of_ble_eq_true rfl⟩) hX (fun r3 f3 H locs hp3 hX => ?_)
  obtain ⟨hr3, hM, hO3⟩ := hp3
  have hO := hO.trans hO3
  have hM : kCs f3 (mC G h q i0 i1 i3 i7 i18 i22 i23 (nI 3) j16 j17 a2 a4 a5 a6 b8 (mRoot b8 b9 t N) b10 a11 a12 a13 a14 b15 b19 b20 b21 a24 a25 a26) := hM
  refine k_topi (y := (nI 0)) hr3 ?_
  exact k_iret C hX hr hlocks hQ (by omega) (by omega) (⟨rfl, hM, hO⟩) dX9_countAnew_6

abbrev rmX9_countAnew : Room := { frames := 3, cells := 0, slots := 0, locals := 76 }
set_option maxHeartbeats 4000000 in
set_option maxRecDepth 100000 in
/-- X9_countAnew -/
theorem kX9_countAnew (l : Launch) (G : kG) (B0 : Nat) (f : kH) (h : Nat) (q : Nat → Nat) (i0 i1 i3 i7 i18 i22 i23 i27 : Int32) (j16 j17 : Int64) (a2 : Nat → Int32) (a4 : Nat → Int32) (a5 : Nat → Int32) (a6 : Nat → Int32) (b8 : Nat → Int64) (b9 : Nat → Int64) (b10 : Nat → Int64) (a11 : Nat → Int32) (a12 : Nat → Int32) (a13 : Nat → Int32) (a14 : Nat → Int32) (b15 : Nat → Int64) (b19 : Nat → Int64) (b20 : Nat → Int64) (b21 : Nat → Int64) (a24 : Nat → Int32) (a25 : Nat → Int32) (a26 : Nat → Int32) (t b g9 N : Nat) (hM : kCs f (mC G h q i0 i1 i3 i7 i18 i22 i23 i27 j16 j17 a2 a4 a5 a6 b8 b9 b10 a11 a12 a13 a14 b15 b19 b20 b21 a24 a25 a26)) (hg0 : i7 = nI g9) (hg9 : g9 ≤ 8) (ht : t < g9) (hb1 : 1 ≤ b) (hb2 : b ≤ 1000) (hN : mRooted (mCopy b9 b8 (4 * t) 4) N) (fu : Nat) (hx : (mRoot b8 b9 t N) 0 < 0) (hfin : mFin (nI b).toInt64 fu (mRoot b8 b9 t N) 4) (hfu : fu ≤ 255) : Met l yX9_countAnew wsX9_countAnew (rmX9_countAnew) (kP G B0 f [.ref h, .int (nI t), .int (nI b)]) (kQi G B0 (fun r f1 => r = nI (mCount (mRoot b8 b9 t N) (nI b).toInt64 fu) ∧ ∃ (B9 : Nat → Int64) (C1 C2 : Nat → Int32), kCs f1 (mC G h q i0 i1 i3 i7 i18 i22 i23 (nI 0) j16 j17 a2 a4 a5 a6 b8 (mRoot b8 b9 t N) B9 C1 C2 a13 a14 b15 b19 b20 b21 a24 a25 a26) ∧ kOff (mAs h q) f f1)) 0 0 (kAb B0) := by
  refine kMet (cc := cX9_countAnew) (maxL := 3) (ret := (some .int)) (by decide) rfl (Nat.le_of_ble_eq_true rfl) ?_
  intro p e s m args below meth c H locs Q ls C hX hl hr hlocks hnm hQ
  have hO : kOff (mAs h q) f f := kOff.rf
  have hl : lv_has ls 3 [(0, .ref h), (1, .int (nI t)), (2, .int (nI b))] := hl
  refine lv_aload_n C.x C.b dX9_countAnew_0 rfl (lv_at hl 0 rfl) ?_
  refine lv_iload_n C.x C.b dX9_countAnew_1 rfl (lv_at hl 1 rfl) ?_
  refine lv_iload_n C.x C.b dX9_countAnew_2 rfl (lv_at hl 2 rfl) ?_
  refine k_calli (va_runV (As := [.int (nI t), .int (nI b)]) (rest := []) C.1 (kX9_counts l G B0 f h q i0 i1 i3 i7 i18 i22 i23 i27 j16 j17 a2 a4 a5 a6 b8 b9 b10 a11 a12 a13 a14 b15 b19 b20 b21 a24 a25 a26 t b g9 N hM hg0 hg9 ht hb1 hb2 hN fu hx hfin hfu) (cwV 2 C.ts gX9_countAnew_X9_counts rfl rfl rfl ⟨rfl, hdX9_countAnew_X9_counts⟩ ⟨Nat.le_of_ble_eq_true rfl, Nat.le_of_ble_eq_true rfl⟩) (k_preV C hX (hM.at 0 rfl) rfl) rfl rfl hl.1 rfl (lv_room (Nat.le_of_ble_eq_true rfl)) dX9_countAnew_3 ⟨Nat.le_of_ble_eq_true rfl, Nat.le_of_ble_eq_true rfl⟩) hX (fun r3 f3 H locs hp3 hX => ?_)
  obtain ⟨hr3, B9, C1, C2, hM, hO3⟩ := hp3
  have hO := hO.trans hO3
  refine k_topi hr3 ?_
  exact k_iret C hX hr hlocks hQ (by omega) (by omega) (⟨rfl, B9, C1, C2, hM, hO⟩) dX9_countAnew_6
