theorem kf_rr (f : FP.Core.Fmt) (s : Bool) (a b : Nat) (e : Int) : FP.Core.roundRatio f s a b e ≠ .nan := by
  unfold FP.Core.roundRatio FP.Core.roundAt FP.Core.settle FP.Core.bound
  split
  · exact fun h => nomatch h
  · split
    · split <;> exact fun h => nomatch h
    · split <;> exact fun h => nomatch h
theorem kf_round {f : FP.Core.Fmt} {d : FP.Core.Datum} (h : d ≠ .nan) : FP.Core.round f d ≠ .nan := by
  cases d with
  | nan => exact absurd rfl h
  | inf s => exact fun h => nomatch h
  | fin s c q => exact kf_rr _ _ _ _ _
theorem kf_32 {r : UInt32} (h : FP.Core.val32 r ≠ .nan) : vf_n32 r := by
  have h1 := (FP.Core.ne_nan32 r).mp h
  unfold vf_n32
  rw [UInt32.le_iff_toNat_le, UInt32.toNat_and]
  have h2 : r.toNat &&& 2147483647 = r.toNat % 2 ^ 31 := Nat.and_two_pow_sub_one_eq_mod r.toNat 31
  show r.toNat &&& 2147483647 ≤ 2139095040
  omega
theorem kf_64 {r : UInt64} (h : FP.Core.val64 r ≠ .nan) : vf_n64 r := by
  have h1 := (FP.Core.ne_nan r).mp h
  unfold vf_n64
  rw [UInt64.le_iff_toNat_le, UInt64.toNat_and]
  have h2 : r.toNat &&& 9223372036854775807 = r.toNat % 2 ^ 63 := Nat.and_two_pow_sub_one_eq_mod r.toNat 63
  show r.toNat &&& 9223372036854775807 ≤ 9218868437227405312
  omega
/-- a radius: one by the curvature; it is a number, or infinite -/
def kRad (x : Int64) : UInt32 := FP.fdiv FP.fconst1 (FP.l2f x)
theorem kRad_v (x : Int64) : FP.Core.val32 (kRad x) ≠ .nan := by
  have h1 : FP.Core.val32 (kRad x) = FP.Core.quotient FP.Core.b32 (FP.Core.val32 FP.fconst1) (FP.Core.val32 (FP.l2f x)) := FP.Core.val32_fdiv _ _
  have h2 : FP.Core.val32 (FP.l2f x) = FP.Core.round FP.Core.b32 (FP.Core.ofInt x.toInt) := FP.Core.val32_l2f x
  have h3 : FP.Core.val32 FP.fconst1 = .fin false (2 ^ 23) (-23) := FP.Core.val32_fconst1
  have h4 : FP.Core.round FP.Core.b32 (FP.Core.ofInt x.toInt) ≠ .nan := kf_round (fun h => nomatch h)
  rw [h1, h2, h3]
  cases hd : FP.Core.round FP.Core.b32 (FP.Core.ofInt x.toInt) with
  | nan => exact absurd hd h4
  | inf s => exact fun h => nomatch h
  | fin s c q =>
    simp only [FP.Core.quotient]
    split
    · rw [if_neg (by decide)]; exact fun h => nomatch h
    · exact kf_rr _ _ _ _ _
theorem kRad_n (x : Int64) : vf_n32 (FP.fdiv FP.fconst1 (FP.l2f x)) := kf_32 (kRad_v x)
theorem kRad_d (x : Int64) : vf_n64 (FP.f2d (kRad x)) ∧ FP.Core.val64 (FP.f2d (kRad x)) ≠ .nan := by
  have h0 : FP.Core.fIsNaN (kRad x) = false := by
    cases hn : FP.Core.fIsNaN (kRad x) with
    | false => rfl
    | true => exact absurd ((FP.Core.fIsNaN_iff (kRad x)).mp hn) (kRad_v x)
  have h1 : FP.f2d (kRad x) = FP.Core.f2d (kRad x) := by
    unfold FP.f2d
    rw [h0]
    rfl
  have h2 : FP.Core.val64 (FP.f2d (kRad x)) ≠ .nan := by
    rw [h1, FP.Core.val64_f2d]
    exact kf_round (kRad_v x)
  exact ⟨kf_64 h2, h2⟩
abbrev kQf (G : kG) (B0 : Nat) (post : UInt32 → kH → Prop) := va_Qf post (kB G B0) (kAb B0)
section KF
variable {p : Program} {l : Launch} {e : Env} {R : Room} {s : State} {m : MethodId} {args : Array Value} {below : List Frame} {meth : Method} {c : Code} {H : Heap} {locs : List Loc} {cells slots : Nat} {Q : State → Prop}
variable {cc : ByteArray} {pc : Nat} {ls : Array Slot} {rest : List Value} {G : kG} {B0 nL : Nat} {f : kH} {Ts : List Cond} {own : String} {a : Nat}
variable {st0 : List Value} {av : Array Value} {mc ms : Nat}
theorem k_callf {post : UInt32 → kH → Prop} (hr : va_Run p l e R s m args below meth c H locs cells slots mc ms (F0 m pc ls st0) rest (kQf G B0 post av) (kAb B0)) (hX : kX G B0 s f H locs)
    (kk : ∀ (r : UInt32) (f1 : kH) (H1 : Heap) (locs1 : List Loc), post r f1 → kX G B0 s f1 H1 locs1 → W p l e R s m args below meth c H1 locs1 (cells + mc) (slots + ms) Q (F0 m (pc + 3) ls (.float r :: rest))) : W p l e R s m args below meth c H locs cells slots Q (F0 m pc ls st0) :=
  va_callf hr hX.2 (fun _ _ h => h) (fun _ h => h) fun r f1 t H1 locs1 ht _ hp hB _ _ hS => kk r f1 H1 locs1 hp ⟨ht ▸ hB, hS⟩
theorem k_fret {post : UInt32 → kH → Prop} {v : UInt32} (C : kC G B0 p m c cc nL s args Ts own) (hX : kX G B0 s f H locs) (hr : meth.sig.returnType = some .float) (hlocks : meth.locks = false) (hQ : Q = MQ below (kQf G B0 post) args s mc ms (kAb B0)) (hc : cells ≤ mc) (hs : slots ≤ ms) (hp : post v f) (hdg : decode cc pc = .ok (.freturn, 1)) : W p l e R s m args below meth c H locs cells slots Q (F0 m pc ls [.float v]) := by
  subst hQ
  refine W.widen hc hs ?_
  exact W.fret C.x C.b hr (fun t ht _ => ⟨⟨v, f, rfl, hp, by show kW G B0 f t.heap; rw [ht]; exact hX.1⟩, hX.2.F ht⟩) hX.2.2.2 hdg hlocks
/-- from a heap one cell longer -/
theorem kX.push {H1 : Heap} {L : List Nat} {q : Nat} {e1 : va_E} (hW : kW G B0 f H) (hL : ∀ a, a ∈ L ↔ (f a).isSome = true) (hP0 : va_P G.1 vwCl ([] ++ va_pl L (kd f)) H) (hP : va_P G.1 vwCl (([] ++ va_pl L (kd f)) ++ [(q, e1)]) H1) (hD : va_D (kAb B0) (([] ++ va_pl L (kd f)) ++ [(q, e1)])) (hS : va_S (kAb B0) s.heap H1 locs) : f q = none ∧ kX G B0 s (kst f q e1) H1 locs := by
  have hm : q ∉ L := by
    intro hq
    obtain ⟨k, hk⟩ := va_pl_get (X := []) (f := kd f) hq
    have hkl := (List.getElem?_eq_some_iff.mp hk).1
    have := hD.1 k ([] ++ va_pl L (kd f)).length (q, kd f q) (q, e1) (by rw [List.getElem?_append_left hkl]; exact hk) (by rw [List.getElem?_append_right (Nat.le_refl _), Nat.sub_self]; rfl) rfl
    omega
  have hn : f q = none := by
    cases hf : f q with
    | none => rfl
    | some z => exact absurd ((hL q).mpr (by rw [hf]; rfl)) hm
  have hc : va_pl (L ++ [q]) (va_up (kd f) q e1) = va_pl (L ++ [q]) (kd (kst f q e1)) := va_pl_congr fun b => by
    by_cases hb : b = q
    · subst hb; simp [va_up, kd, kst]
    · simp [va_up, kd, kst, hb]
  rw [List.append_assoc, va_pl_push hm, hc] at hP hD
  refine ⟨hn, ⟨L ++ [q], fun b => ?_, hP, hD⟩, hS⟩
  by_cases hb : b = q
  · subst hb; simp [kst]
  · rw [kst_n _ _ hb, List.mem_append]
    constructor
    · rintro (z | z)
      · exact (hL b).mp z
      · exact absurd (List.mem_singleton.mp z) hb
    · exact fun z => Or.inl ((hL b).mpr z)
theorem kC.ge (C : kC G B0 p m c cc nL s args Ts own) : ∀ q, s.heap.size ≤ q → kAb B0 q := fun q h => Nat.le_trans C.2.2.1 h
/-- the class number of an array that is made is that of the tables -/
theorem k_cls {cA : ClassId} {ty : FieldType} {k : Nat} (hK : va_K G.1 vwCl (kTys G ++ [(cA, ty)]) s) (hk : (kTys G)[k]? = some (G.2.1 k, ty)) (ho : ∀ C, ty ≠ .object C) : cA = G.2.1 k := by
  have h1 := (hK.2 k _ (by rw [List.getElem?_append_left (List.getElem?_eq_some_iff.mp hk).1]; exact hk)).2
  have h2 := (hK.2 (kTys G).length (cA, ty) (by rw [List.getElem?_append_right (Nat.le_refl _), Nat.sub_self]; rfl)).2
  cases ty <;> first | exact absurd rfl (ho _) | exact Option.some.inj (h2.symm.trans h1)
theorem k_newaI (C : kC G B0 p m c cc nL s args Ts own) (hX : kX G B0 s f H locs) {atype : ArrayType} {R9 : Nat} {n : Int32} (harr : (Cond.arrayClass (newarray.typeOf atype)).before args s = true) (hty : newarray.typeOf atype = .int) (hn : ¬ n < 0) (hN : n.toNatClampNeg = R9) (hcells : cells + 1 ≤ R.cells) (hslots : slots + R9 ≤ R.slots) (hb : R9 * 4 ≤ 536870912) (hdg : decode cc pc = .ok (.newarray atype, 2))
    (kk : ∀ (q : Nat) (H1 : Heap), f q = none → kX G B0 s (kst f q (kaI G R9 (fun _ => 0))) H1 locs → W p l e R s m args below meth c H1 locs (cells + 1) (slots + R9) Q (F0 m (pc + 2) ls (.ref q :: rest))) : W p l e R s m args below meth c H locs cells slots Q (F0 m pc ls (.int n :: rest)) := by
  obtain ⟨L, hL, hP, hD⟩ := hX.P
  refine va_newa (D := G.1) (cl := vwCl) (a0 := (R9, .inl (fun _ => 0))) C.x C.b harr hty C.K hP hD hX.2 C.ge (fun _ => rfl) hn hN (by exact hb) hcells hslots hdg fun q cA H1 hK1 hP1 hD1 hS1 => ?_
  have e1 : cA = G.2.1 0 := k_cls hK1 rfl (fun C h => nomatch h)
  subst e1
  obtain ⟨h1, h2⟩ := kX.push hX.1 hL hP hP1 hD1 hS1
  exact kk q H1 h1 h2
theorem k_newaJ (C : kC G B0 p m c cc nL s args Ts own) (hX : kX G B0 s f H locs) {atype : ArrayType} {R9 : Nat} {n : Int32} (harr : (Cond.arrayClass (newarray.typeOf atype)).before args s = true) (hty : newarray.typeOf atype = .long) (hn : ¬ n < 0) (hN : n.toNatClampNeg = R9) (hcells : cells + 1 ≤ R.cells) (hslots : slots + R9 ≤ R.slots) (hb : R9 * 8 ≤ 536870912) (hdg : decode cc pc = .ok (.newarray atype, 2))
    (kk : ∀ (q : Nat) (H1 : Heap), f q = none → kX G B0 s (kst f q (kaJ G R9 (fun _ => 0))) H1 locs → W p l e R s m args below meth c H1 locs (cells + 1) (slots + R9) Q (F0 m (pc + 2) ls (.ref q :: rest))) : W p l e R s m args below meth c H locs cells slots Q (F0 m pc ls (.int n :: rest)) := by
  obtain ⟨L, hL, hP, hD⟩ := hX.P
  refine va_newa (D := G.1) (cl := vwCl) (a0 := (R9, .inr (.inl (fun _ => 0)))) C.x C.b harr hty C.K hP hD hX.2 C.ge (fun _ => rfl) hn hN (by exact hb) hcells hslots hdg fun q cA H1 hK1 hP1 hD1 hS1 => ?_
  have e1 : cA = G.2.1 1 := k_cls hK1 rfl (fun C h => nomatch h)
  subst e1
  obtain ⟨h1, h2⟩ := kX.push hX.1 hL hP hP1 hD1 hS1
  exact kk q H1 h1 h2
end KF
