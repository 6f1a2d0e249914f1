theorem kKp.fr {as : List Nat} {f0 f : kH} {q : Nat} (hO : kKp as f0 f) (hS : ∀ a ∈ as, (f a).isSome) (hn : f q = none) : f0 q = none := by
  have hqa : q ∉ as := fun z => by have := hS q z; rw [hn] at this; cases this
  cases h0 : f0 q with
  | none => rfl
  | some e => have := hO q e hqa h0; rw [hn] at this; cases this
theorem kCs.subg {f f1 : kH} {ws ws1 : va_W} {as : List Nat} {q : Nat} {e : va_E} (hM : kCs f ws) (h1 : kCs f1 (ws1 ++ [(q, e)])) (hO : kKp as f f1) (hn : f q = none) (ks : List Nat) (has : ∀ a ∈ as, a ∈ ws1.map Prod.fst) (hp : kPl ks ws1 ws) : kCs f1 (kSub ws ks ws1 ++ [(q, e)]) := by
  have h2 : kCs f1 ws1 := ⟨fun x hx => h1.1 x (List.mem_append_left _ hx), by have := h1.2; rw [List.map_append] at this; exact (List.nodup_append.mp this).1⟩
  have h3 := hM.sub h2 hO ks has hp
  obtain ⟨hl, hks⟩ := hp.ok
  obtain ⟨i1, -⟩ := kSub_ok ks ws1 ws hl hks
  refine ⟨fun x hx => ?_, ?_⟩
  · rcases List.mem_append.mp hx with z | z
    · exact h3.1 x z
    · rw [List.mem_singleton.mp z]; exact h1.1 _ (by simp)
  · rw [List.map_append]
    refine List.nodup_append.mpr ⟨h3.2, by simp, fun a ha b hb => ?_⟩
    have : b = q := by simpa using hb
    subst this
    intro z
    rw [i1] at ha
    obtain ⟨x, hx, rfl⟩ := List.mem_map.mp ha
    have := hM.1 x hx
    rw [z, hn] at this; cases this
/-- a list's elements are objects of one class, and neither the list nor its array -/
def kEl (f : kH) (h q : Nat) (g0 : Nat → Option Nat) (k : Nat) : Prop := ∃ r : vw_C, r.1 ∈ kCas ∧ ∃ ci : Nat, vwCl[ci]? = some r ∧ ∀ i : Nat, i < k → ∀ y : Nat, g0 i = some y → y ≠ h ∧ y ≠ q ∧ ∃ fs : List Value, f y = some (.inr (ci, fs))
theorem kEl.kp {f f1 : kH} {h q k : Nat} {g0 : Nat → Option Nat} {as : List Nat} (hE : kEl f h q g0 k) (hO : kKp as f f1) (has : ∀ a ∈ as, a = h ∨ a = q) : kEl f1 h q g0 k := by
  obtain ⟨r, h1, ci, h2, h3⟩ := hE
  refine ⟨r, h1, ci, h2, fun i hi y hy => ?_⟩
  obtain ⟨a1, a2, fs, a3⟩ := h3 i hi y hy
  exact ⟨a1, a2, fs, hO y _ (fun z => (has y z).elim a1 a2) a3⟩
theorem kEl.el {f : kH} {h q k : Nat} {g0 : Nat → Option Nat} (hE : kEl f h q g0 k) : ∃ r : vw_C, r.1 ∈ kCas ∧ ∃ ci : Nat, vwCl[ci]? = some r ∧ ∀ i : Nat, i < k → ∀ y : Nat, g0 i = some y → ∃ fs : List Value, f y = some (.inr (ci, fs)) := by
  obtain ⟨r, h1, ci, h2, h3⟩ := hE
  exact ⟨r, h1, ci, h2, fun i hi y hy => (h3 i hi y hy).2.2⟩
theorem k_half : ∀ w, w < 17 → nI w >>> (nI 1 &&& 31) = nI (w / 2) := by decide
section KR4
variable {p : Program} {l : Launch} {e : Env} {R : Room} {s : State} {m : MethodId} {args : Array Value} {below : List Frame} {meth : Method} {c : Code} {H : Heap} {locs : List Loc} {cells slots : Nat} {Q : State → Prop}
variable {cc : ByteArray} {pc : Nat} {ls : Array Slot} {rest : List Value} {G : kG} {B0 nL : Nat} {f : kH} {Ts : List Cond} {own : String} {a : Nat} {mc ms : Nat}
theorem k_topq {x : Option Nat} {v : Nat} (h : x = some v) (k : W p l e R s m args below meth c H locs cells slots Q (F0 m pc ls (.ref v :: rest))) : W p l e R s m args below meth c H locs cells slots Q (F0 m pc ls (va_rf x :: rest)) := by
  subst h; exact k
theorem k_alenE (C : kC G B0 p m c cc nL s args Ts own) (hX : kX G B0 s f H locs) (hdg : decode cc pc = .ok (.arraylength, 1))
    (kk : W p l e R s m args below meth c H locs cells slots Q (F0 m (pc + 1) ls (.int (nI 0) :: rest))) : W p l e R s m args below meth c H locs cells slots Q (F0 m pc ls (.ref (G.2.2 1) :: rest)) :=
  va_tlen C.x C.b C.2.2.2.2.2.2.1 hX.2 rfl hdg kk
theorem k_aast (C : kC G B0 p m c cc nL s args Ts own) (hX : kX G B0 s f H locs) {n : Nat} {g : Nat → Option Nat} (ha : f a = some (kaO G n g)) {v ci : Nat} {vs : List Value} {r : vw_C} (hv : f v = some (.inr (ci, vs))) (hc : vwCl[ci]? = some r) (hcas : r.1 ∈ kCas) {i : Int32} (hin : vp_in i n) (hdg : decode cc pc = .ok (.aastore, 1))
    (kk : ∀ (H1 : Heap) (locs1 : List Loc), kX G B0 s (kst f a (kaO G n (va_up g i.toNatClampNeg (some v)))) H1 locs1 → W p l e R s m args below meth c H1 locs1 cells slots Q (F0 m (pc + 1) ls rest)) : W p l e R s m args below meth c H locs cells slots Q (F0 m pc ls (.ref v :: .int i :: .ref a :: rest)) := by
  obtain ⟨L, hL, hP, hD⟩ := hX.P
  obtain ⟨hm, q0, h1, h2⟩ := kX.look ha hL
  obtain ⟨-, q1, -, h3⟩ := kX.look hv hL
  exact va_astqO (D := G.1) (cl := vwCl) (E := "java/lang/Object") C.x C.b C.K hP hD hX.2 q0 3 q1 ci h2 rfl (C.2.1.2.2.2.2.2.2.2.2.1 _ hcas) h3 hc hin hdg fun H1 locs1 hP1 hD1 hS1 => kk H1 locs1 (kX.back hL hD hm h1 hP1 hD1 hS1)
theorem k_aastN (C : kC G B0 p m c cc nL s args Ts own) (hX : kX G B0 s f H locs) {n : Nat} {g : Nat → Option Nat} (ha : f a = some (kaO G n g)) {i : Int32} (hin : vp_in i n) (hdg : decode cc pc = .ok (.aastore, 1))
    (kk : ∀ (H1 : Heap) (locs1 : List Loc), kX G B0 s (kst f a (kaO G n (va_up g i.toNatClampNeg none))) H1 locs1 → W p l e R s m args below meth c H1 locs1 cells slots Q (F0 m (pc + 1) ls rest)) : W p l e R s m args below meth c H locs cells slots Q (F0 m pc ls (.null :: .int i :: .ref a :: rest)) := by
  obtain ⟨L, hL, hP, hD⟩ := hX.P
  obtain ⟨hm, q0, h1, h2⟩ := kX.look ha hL
  exact va_astqN (D := G.1) (cl := vwCl) (C := "java/lang/Object") C.x C.b C.K hP hD hX.2 q0 3 h2 rfl hin hdg fun H1 locs1 hP1 hD1 hS1 => kk H1 locs1 (kX.back hL hD hm h1 hP1 hD1 hS1)
theorem k_clsO {cA : ClassId} (hK : va_K G.1 vwCl (kTys G ++ [(cA, .object "java/lang/Object")]) s) : cA = G.2.1 3 := by
  have h1 := (hK.2 3 (G.2.1 3, .object "java/lang/Object") rfl).2
  have h2 := (hK.2 6 (cA, .object "java/lang/Object") rfl).2
  obtain ⟨_, _, _, _, _, h4⟩ := h1
  obtain ⟨_, _, _, _, _, h5⟩ := h2
  exact Option.some.inj (h5.symm.trans h4)
theorem k_newq (C : kC G B0 p m c cc nL s args Ts own) (hX : kX G B0 s f H locs) {R9 index : Nat} {n : Int32} (hlink : (Cond.classLink own index "java/lang/Object").before args s = true) (hn : ¬ n < 0) (hN : n.toNatClampNeg = R9) (hb : R9 * 4 ≤ 536870912) (hcells : cells + 1 ≤ R.cells) (hslots : slots + R9 ≤ R.slots) (hdg : decode cc pc = .ok (.anewarray index, 3))
    (kk : ∀ (q : Nat) (H1 : Heap), f q = none → kX G B0 s (kst f q (kaO G R9 (fun _ => none))) H1 locs → W p l e R s m args below meth c H1 locs (cells + 1) (slots + R9) Q (F0 m (pc + 3) ls (.ref q :: rest))) : W p l e R s m args below meth c H locs cells slots Q (F0 m pc ls (.int n :: rest)) := by
  obtain ⟨L, hL, hP, hD⟩ := hX.P
  refine va_newq (D := G.1) (cl := vwCl) C.x C.b C.ow hlink C.2.1.2.2.2.2.2.1 C.K hP hD hX.2 C.ge hn hN hb hcells hslots hdg fun q cA H1 hK1 hP1 hD1 hS1 => ?_
  have e1 : cA = G.2.1 3 := k_clsO hK1
  subst e1
  obtain ⟨h1, h2⟩ := kX.push hX.1 hL hP hP1 hD1 hS1
  exact kk q H1 h1 h2
theorem nI_nn {n : Nat} (h : n < 2 ^ 31) : ¬ nI n < 0 := fun z => absurd z (nI_pos h)
theorem k_cast (C : kC G B0 p m c cc nL s args Ts own) (hX : kX G B0 s f H locs) {ci index : Nat} {fs : List Value} (ha : f a = some (.inr (ci, fs))) {r : vw_C} (hc : vwCl[ci]? = some r) (hlink : (Cond.classLink own index r.1).before args s = true) (hdg : decode cc pc = .ok (.checkcast index, 3))
    (k : W p l e R s m args below meth c H locs cells slots Q (F0 m (pc + 3) ls (.ref a :: rest))) : W p l e R s m args below meth c H locs cells slots Q (F0 m pc ls (.ref a :: rest)) :=
  va_castS C.x C.b C.ow hlink (C.K.1 ci r hc).2 (va_recv C.K (hX.1.at ha) (q0 := 0) hc rfl) hdg k
theorem k_ldcM (C : kC G B0 p m c cc nL s args Ts own) {index : Nat} (hlink : (Cond.classLink own index "[Ljava/lang/Object;").before args s = true) (hdg : decode cc pc = .ok (.ldc index, 2))
    (k : W p l e R s m args below meth c H locs cells slots Q (F0 m (pc + 2) ls (.ref (G.2.2 2) :: rest))) : W p l e R s m args below meth c H locs cells slots Q (F0 m pc ls rest) :=
  va_ldcM C.x C.b C.ow hlink C.2.1.2.2.2.2.2.2.1 hdg k
theorem k_getC (C : kC G B0 p m c cc nL s args Ts own) (hml : c.maxLocals = ls.size) (hX : kX G B0 s f H locs) {index n : Nat} {g : Nat → Option Nat} (hk : ∀ w ∈ [Cond.methodLink own index ⟨"java/lang/Object", "getClass", "()Ljava/lang/Class;"⟩, Cond.selects "[Ljava/lang/Object;" ⟨"java/lang/Object", "getClass", "()Ljava/lang/Class;"⟩ ⟨"java/lang/Object", "getClass", "()Ljava/lang/Class;"⟩, Cond.instanceMethod ⟨"java/lang/Object", "getClass", "()Ljava/lang/Class;"⟩, Cond.native ⟨"java/lang/Object", "getClass", "()Ljava/lang/Class;"⟩], w ∈ Ts) (ha : f a = some (kaO G n g)) (hf : 1 ≤ R.frames) (hlo : (rest.map fun v => v.category).sum + 14 ≤ R.locals) (hdg : decode cc pc = .ok (.invokevirtual index, 3))
    (k : W p l e R s m args below meth c H locs cells slots Q (F0 m (pc + 3) ls (.ref (G.2.2 2) :: rest))) : W p l e R s m args below meth c H locs cells slots Q (F0 m pc ls (.ref a :: rest)) := by
  have h1 := (C.K.2 3 (G.2.1 3, .object "java/lang/Object") rfl)
  exact va_getC C.x C.b hml C.ow (C.ts _ (hk _ (by simp))) C.2.1.2.2.2.2.2.2.2.1.use (C.ts _ (hk _ (by simp))) (C.ts _ (hk _ (by simp))) (C.ts _ (hk _ (by simp))) C.2.1.2.2.2.2.2.2.1 ⟨_, (hX.1.at ha) 0 _ rfl, rfl, va_nmO h1.2 rfl⟩ hf hlo hdg k
theorem k_copyO (C : kC G B0 p m c cc nL s args Ts own) (hml : c.maxLocals = ls.size) (hX : kX G B0 s f H locs) {index n0 n1 a0 : Nat} {g0 : Nat → Option Nat} (hk : ∀ w ∈ [Cond.methodLink own index arraycopyName, Cond.native arraycopyName, Cond.static arraycopyName, Cond.initialized "java/lang/System"], w ∈ Ts) (ha0 : f a0 = some (kaO G n0 g0)) (ha : f a = some (kaO G n1 (fun _ => none))) {n9 : Nat} (h9 : n9 < 2 ^ 31) (hn0 : n9 ≤ n0) (hn1 : n9 ≤ n1) (hel : ∃ r : vw_C, r.1 ∈ kCas ∧ ∃ ci : Nat, vwCl[ci]? = some r ∧ ∀ i : Nat, i < n9 → ∀ y : Nat, g0 i = some y → ∃ fs : List Value, f y = some (.inr (ci, fs))) (hf : 1 ≤ R.frames) (hlo : (rest.map fun v => v.category).sum + (nativeFrameWords "java/lang/System" "arraycopy" 5 + 11) ≤ R.locals) (hdg : decode cc pc = .ok (.invokestatic index, 3))
    (kk : ∀ (H1 : Heap) (locs1 : List Loc), kX G B0 s (kst f a (kaO G n1 (fun j9 => if j9 < n9 then g0 j9 else none))) H1 locs1 → W p l e R s m args below meth c H1 locs1 cells slots Q (F0 m (pc + 3) ls rest)) : W p l e R s m args below meth c H locs cells slots Q (F0 m pc ls (.int (nI n9) :: .int (nI 0) :: .ref a :: .int (nI 0) :: .ref a0 :: rest)) := by
  obtain ⟨L, hL, hP, hD⟩ := hX.P
  obtain ⟨hm, q1, h1, h2⟩ := kX.look ha hL
  obtain ⟨-, q0, -, h3⟩ := kX.look ha0 hL
  obtain ⟨r, hr, ci, hc, hy⟩ := hel
  refine va_copyq (D := G.1) (cl := vwCl) (E0 := "java/lang/Object") (E1 := "java/lang/Object") (C := r.1) C.x C.b hml C.ow (C.ts _ (hk _ (by simp))) (C.ts _ (hk _ (by simp))) (C.ts _ (hk _ (by simp))) (C.ts _ (hk _ (by simp))) C.K hP hD hX.2 q0 q1 3 3 h3 h2 rfl rfl (by decide) (by decide) (nI_nn h9) (by rw [nI_clamp h9]; show 0 + n9 ≤ n0; omega) (by rw [nI_clamp h9]; show 0 + n9 ≤ n1; omega) (fun i hi y hg => ?_) (fun comp c0 g1 g2 => ?_) hf hlo hdg fun H1 locs1 hP1 hD1 hS1 => kk H1 locs1 ?_
  · rw [nI_clamp h9] at hi
    obtain ⟨fs, hfs⟩ := hy i hi y (by rw [← hg]; congr 1; show i = 0 + i; omega)
    exact va_recv C.K (hX.1.at hfs) (q0 := 0) hc rfl
  · obtain ⟨c1, t1, f1, f2, f3⟩ := Cond.castable_spec (va_Nw.use (A := args) rfl (C.2.1.2.2.2.2.2.2.2.2.1 _ hr))
    cases g1.symm.trans f2
    cases g2.symm.trans f1
    exact f3
  · have e9 : va_cpy g0 (fun _ => none) (nI 0).toNatClampNeg (nI 0).toNatClampNeg (nI n9).toNatClampNeg = (fun j9 => if j9 < n9 then g0 j9 else none) := by
      rw [nI_clamp h9]
      funext j
      show (if 0 ≤ j ∧ j < 0 + n9 then g0 (0 + (j - 0)) else none) = _
      by_cases hj : j < n9
      · rw [if_pos ⟨Nat.zero_le _, by omega⟩, if_pos hj]; congr 1; omega
      · rw [if_neg (by omega), if_neg hj]
    rw [e9] at hP1 hD1
    exact kX.back hL hD hm h1 hP1 hD1 hS1
end KR4

abbrev rmJ3_checkIndex_8e157 : Room := { frames := 0, cells := 0, slots := 0, locals := 0 }
set_option maxHeartbeats 4000000 in
set_option maxRecDepth 100000 in
/-- J3_checkIndex_8e157 -/
theorem kJ3_checkIndex_8e157 (l : Launch) (G : kG) (B0 : Nat) (f : kH) (i k : Nat) (hi : i < k) (hk : k < 2 ^ 31) : Met l yJ3_checkIndex_8e157 wsJ3_checkIndex_8e157 (rmJ3_checkIndex_8e157) (kP G B0 f [.int (nI i), .int (nI k), .null]) (kQi G B0 (fun r f1 => r = nI i ∧ f1 = f)) 0 0 (kAb B0) := by
  refine kMet (cc := cJ3_checkIndex_8e157) (maxL := 3) (ret := (some .int)) (by decide) rfl (Nat.le_of_ble_eq_true rfl) ?_
  intro p e s m args below meth c H locs Q ls C hX hl hr hlocks hnm hQ
  have hl : lv_has ls 3 [(0, .int (nI i)), (1, .int (nI k)), (2, .null)] := hl
  refine lv_iload_n C.x C.b dJ3_checkIndex_8e157_0 rfl (lv_at hl 0 rfl) ?_
  refine lv_if_lt (tgt := 9) C.x C.b dJ3_checkIndex_8e157_1 (by decide) (fun c_1 => ?_) (fun c_1 => ?_)
  · skip
    exact absurd c_1 (nI_pos (by omega))
  · skip
    refine lv_iload_n C.x C.b dJ3_checkIndex_8e157_4 rfl (lv_at hl 0 rfl) ?_
    refine lv_iload_n C.x C.b dJ3_checkIndex_8e157_5 rfl (lv_at hl 1 rfl) ?_
    refine lv_icmp_lt (tgt := 16) C.x C.b dJ3_checkIndex_8e157_6 (by decide) (fun c_6 => ?_) (fun c_6 => ?_)
    rotate_left
    · skip
      have c_6 : ¬ (i < k) := fun h9 => c_6 ((nI_ltI (by omega) (by omega)).mpr h9)
      omega
    have c_6 : i < k := (nI_ltI (by omega) (by omega)).mp c_6
    refine lv_iload_n C.x C.b dJ3_checkIndex_8e157_16 rfl (lv_at hl 0 rfl) ?_
    exact k_iret C hX hr hlocks hQ (by omega) (by omega) (⟨rfl, rfl⟩) dJ3_checkIndex_8e157_17

theorem hdJ15_checkIndex_7cf53_J3_checkIndex_8e157 : yJ3_checkIndex_8e157.cls ≠ "java/lang/invoke/MethodHandle" ∧ yJ3_checkIndex_8e157.cls ≠ "java/lang/invoke/VarHandle" ∧ (parseMethodDescriptor yJ3_checkIndex_8e157.desc).map (fun d => d.parameters.length) = some 3 := by decide +kernel
abbrev rmJ15_checkIndex_7cf53 : Room := { frames := 1, cells := 0, slots := 0, locals := 22 }
set_option maxHeartbeats 4000000 in
set_option maxRecDepth 100000 in
/-- J15_checkIndex_7cf53 -/
theorem kJ15_checkIndex_7cf53 (l : Launch) (G : kG) (B0 : Nat) (f : kH) (i k : Nat) (hi : i < k) (hk : k < 2 ^ 31) : Met l yJ15_checkIndex_7cf53 wsJ15_checkIndex_7cf53 (rmJ15_checkIndex_7cf53) (kP G B0 f [.int (nI i), .int (nI k)]) (kQi G B0 (fun r f1 => r = nI i ∧ f1 = f)) 0 0 (kAb B0) := by
  refine kMet (cc := cJ15_checkIndex_7cf53) (maxL := 2) (ret := (some .int)) (by decide) rfl (Nat.le_of_ble_eq_true rfl) ?_
  intro p e s m args below meth c H locs Q ls C hX hl hr hlocks hnm hQ
  have hl : lv_has ls 2 [(0, .int (nI i)), (1, .int (nI k))] := hl
  refine lv_iload_n C.x C.b dJ15_checkIndex_7cf53_0 rfl (lv_at hl 0 rfl) ?_
  refine lv_iload_n C.x C.b dJ15_checkIndex_7cf53_1 rfl (lv_at hl 1 rfl) ?_
  refine lv_null C.x C.b dJ15_checkIndex_7cf53_2 ?_
  refine k_calli (va_runS (As := [.int (nI i), .int (nI k), .null]) (rest := []) C.1 (kJ3_checkIndex_8e157 l G B0 f i k hi hk) (va_cwS 3 C.ts gJ15_checkIndex_7cf53_J3_checkIndex_8e157 rfl rfl rfl (hdJ15_checkIndex_7cf53_J3_checkIndex_8e157) ⟨Nat.le_of_ble_eq_true rfl, Nat.le_of_ble_eq_true rfl⟩) (k_preS C hX) rfl rfl hl.1 rfl (lv_room (Nat.le_of_ble_eq_true rfl)) dJ15_checkIndex_7cf53_3 ⟨Nat.le_of_ble_eq_true rfl, Nat.le_of_ble_eq_true rfl⟩) hX (fun r3 f3 H locs hp3 hX => ?_)
  obtain ⟨hr3, hf3⟩ := hp3
  rw [hf3] at hX
  refine k_topi (y := (nI i)) hr3 ?_
  exact k_iret C hX hr hlocks hQ (by omega) (by omega) (⟨rfl, rfl⟩) dJ15_checkIndex_7cf53_6

theorem lk_Jx4a65c_size_8abf5_f48 : Cond.fieldLink RJx4a65c 48 "java/util/ArrayList" "size" "I" ∈ wsJx4a65c_size_8abf5 := by decide +kernel
theorem hin_Jx4a65c_size_8abf5_RJx4a65c : ∀ w ∈ u_ws RJx4a65c TJx4a65c 3, w ∈ wsJx4a65c_size_8abf5 := by decide +kernel
abbrev rmJx4a65c_size_8abf5 : Room := { frames := 0, cells := 0, slots := 0, locals := 0 }
set_option maxHeartbeats 4000000 in
set_option maxRecDepth 100000 in
/-- Jx4a65c_size_8abf5 -/
theorem kJx4a65c_size_8abf5 (l : Launch) (G : kG) (B0 : Nat) (f : kH) (h : Nat) (mc : Int32) (v9 : Value) (sz : Nat) (hM : kCs f [(h, .inr (0, [.int mc, v9, .int (nI sz)]))]) : Met l yJx4a65c_size_8abf5 wsJx4a65c_size_8abf5 (rmJx4a65c_size_8abf5) (kP G B0 f [.ref h]) (kQi G B0 (fun r f1 => r = nI sz ∧ f1 = f)) 0 0 (kAb B0) := by
  refine kMet (cc := cJx4a65c_size_8abf5) (maxL := 1) (ret := (some .int)) (by decide) rfl (Nat.le_of_ble_eq_true rfl) ?_
  intro p e s m args below meth c H locs Q ls C hX hl hr hlocks hnm hQ
  have hl : lv_has ls 1 [(0, .ref h)] := hl
  refine lv_aload_n C.x C.b dJx4a65c_size_8abf5_0 rfl (lv_at hl 0 rfl) ?_
  refine k_get (X := RJx4a65c) (T := TJx4a65c) (N := 3) (v := .int (nI sz)) C hX (hM.at 0 rfl) rfl hin_Jx4a65c_size_8abf5_RJx4a65c 2 (by decide) lk_Jx4a65c_size_8abf5_f48 (fun _ h9 => h9) rfl dJx4a65c_size_8abf5_1 ?_
  exact k_iret C hX hr hlocks hQ (by omega) (by omega) (⟨rfl, rfl⟩) dJx4a65c_size_8abf5_4

theorem lk_Jx4a65c_elementData_915e3_f9 : Cond.fieldLink RJx4a65c 9 "java/util/ArrayList" "elementData" "[Ljava/lang/Object;" ∈ wsJx4a65c_elementData_915e3 := by decide +kernel
theorem hin_Jx4a65c_elementData_915e3_RJx4a65c : ∀ w ∈ u_ws RJx4a65c TJx4a65c 3, w ∈ wsJx4a65c_elementData_915e3 := by decide +kernel
abbrev rmJx4a65c_elementData_915e3 : Room := { frames := 0, cells := 0, slots := 0, locals := 0 }
set_option maxHeartbeats 4000000 in
set_option maxRecDepth 100000 in
/-- Jx4a65c_elementData_915e3 -/
theorem kJx4a65c_elementData_915e3 (l : Launch) (G : kG) (B0 : Nat) (f : kH) (h q : Nat) (mc : Int32) (sz cap : Nat) (g0 : Nat → Option Nat) (i v : Nat) (hi : i < sz) (hsz : sz ≤ cap) (hcap : cap < 2 ^ 31) (hv : g0 i = some v) (hM : kCs f [(h, .inr (0, [.int mc, .ref q, .int (nI sz)])), (q, kaO G cap g0)]) : Met l yJx4a65c_elementData_915e3 wsJx4a65c_elementData_915e3 (rmJx4a65c_elementData_915e3) (kP G B0 f [.ref h, .int (nI i)]) (kQq G B0 (fun r f1 => r = some v ∧ f1 = f)) 0 0 (kAb B0) := by
  refine kMet (cc := cJx4a65c_elementData_915e3) (maxL := 2) (ret := (some (.object "java/lang/Object"))) (by decide) rfl (Nat.le_of_ble_eq_true rfl) ?_
  intro p e s m args below meth c H locs Q ls C hX hl hr hlocks hnm hQ
  have hl : lv_has ls 2 [(0, .ref h), (1, .int (nI i))] := hl
  refine lv_aload_n C.x C.b dJx4a65c_elementData_915e3_0 rfl (lv_at hl 0 rfl) ?_
  refine k_get (X := RJx4a65c) (T := TJx4a65c) (N := 3) (v := .ref q) C hX (hM.at 0 rfl) rfl hin_Jx4a65c_elementData_915e3_RJx4a65c 1 (by decide) lk_Jx4a65c_elementData_915e3_f9 (fun _ h9 => h9) rfl dJx4a65c_elementData_915e3_1 ?_
  refine lv_iload_n C.x C.b dJx4a65c_elementData_915e3_4 rfl (lv_at hl 1 rfl) ?_
  refine k_aald C hX (hM.at 1 rfl) (vp_in_nI (by omega) (by omega)) dJx4a65c_elementData_915e3_5 ?_
  rw [nI_clamp (by omega)]
  refine k_topq (v := v) (hv) ?_
  exact k_aret (v := some v) C hX hr (Or.inl ⟨_, rfl⟩) hlocks hQ (by omega) (by omega) (⟨rfl, rfl⟩) dJx4a65c_elementData_915e3_6

theorem lk_Jx4a65c_get_915e3_f48 : Cond.fieldLink RJx4a65c 48 "java/util/ArrayList" "size" "I" ∈ wsJx4a65c_get_915e3 := by decide +kernel
theorem hin_Jx4a65c_get_915e3_RJx4a65c : ∀ w ∈ u_ws RJx4a65c TJx4a65c 3, w ∈ wsJx4a65c_get_915e3 := by decide +kernel
theorem hdJx4a65c_get_915e3_J15_checkIndex_7cf53 : yJ15_checkIndex_7cf53.cls ≠ "java/lang/invoke/MethodHandle" ∧ yJ15_checkIndex_7cf53.cls ≠ "java/lang/invoke/VarHandle" ∧ (parseMethodDescriptor yJ15_checkIndex_7cf53.desc).map (fun d => d.parameters.length) = some 2 := by decide +kernel
theorem hdJx4a65c_get_915e3_Jx4a65c_elementData_915e3 : yJx4a65c_elementData_915e3.cls ≠ "java/lang/invoke/MethodHandle" ∧ yJx4a65c_elementData_915e3.cls ≠ "java/lang/invoke/VarHandle" ∧ (parseMethodDescriptor yJx4a65c_elementData_915e3.desc).map (fun d => d.parameters.length) = some 1 := by decide +kernel
abbrev rmJx4a65c_get_915e3 : Room := { frames := 2, cells := 0, slots := 0, locals := 43 }
set_option maxHeartbeats 4000000 in
set_option maxRecDepth 100000 in
/-- Jx4a65c_get_915e3 -/
theorem kJx4a65c_get_915e3 (l : Launch) (G : kG) (B0 : Nat) (f : kH) (h q : Nat) (mc : Int32) (sz cap : Nat) (g0 : Nat → Option Nat) (i v : Nat) (hi : i < sz) (hsz : sz ≤ cap) (hcap : cap < 2 ^ 31) (hv : g0 i = some v) (hM : kCs f [(h, .inr (0, [.int mc, .ref q, .int (nI sz)])), (q, kaO G cap g0)]) : Met l yJx4a65c_get_915e3 wsJx4a65c_get_915e3 (rmJx4a65c_get_915e3) (kP G B0 f [.ref h, .int (nI i)]) (kQq G B0 (fun r f1 => r = some v ∧ f1 = f)) 0 0 (kAb B0) := by
  refine kMet (cc := cJx4a65c_get_915e3) (maxL := 2) (ret := (some (.object "java/lang/Object"))) (by decide) rfl (Nat.le_of_ble_eq_true rfl) ?_
  intro p e s m args below meth c H locs Q ls C hX hl hr hlocks hnm hQ
  have hl : lv_has ls 2 [(0, .ref h), (1, .int (nI i))] := hl
  refine lv_iload_n C.x C.b dJx4a65c_get_915e3_0 rfl (lv_at hl 1 rfl) ?_
  refine lv_aload_n C.x C.b dJx4a65c_get_915e3_1 rfl (lv_at hl 0 rfl) ?_
  refine k_get (X := RJx4a65c) (T := TJx4a65c) (N := 3) (v := .int (nI sz)) C hX (hM.at 0 rfl) rfl hin_Jx4a65c_get_915e3_RJx4a65c 2 (by decide) lk_Jx4a65c_get_915e3_f48 (fun _ h9 => h9) rfl dJx4a65c_get_915e3_2 ?_
  refine k_calli (va_runS (As := [.int (nI i), .int (nI sz)]) (rest := []) C.1 (kJ15_checkIndex_7cf53 l G B0 f i sz hi (by omega)) (va_cwS 2 C.ts gJx4a65c_get_915e3_J15_checkIndex_7cf53 rfl rfl rfl (hdJx4a65c_get_915e3_J15_checkIndex_7cf53) ⟨Nat.le_of_ble_eq_true rfl, Nat.le_of_ble_eq_true rfl⟩) (k_preS C hX) rfl rfl hl.1 rfl (lv_room (Nat.le_of_ble_eq_true rfl)) dJx4a65c_get_915e3_5 ⟨Nat.le_of_ble_eq_true rfl, Nat.le_of_ble_eq_true rfl⟩) hX (fun r5 f5 H locs hp5 hX => ?_)
  obtain ⟨hr5, hf5⟩ := hp5
  rw [hf5] at hX
  refine k_topi (y := (nI i)) hr5 ?_
  refine lv_pop C.x C.b dJx4a65c_get_915e3_8 rfl ?_
  refine lv_aload_n C.x C.b dJx4a65c_get_915e3_9 rfl (lv_at hl 0 rfl) ?_
  refine lv_iload_n C.x C.b dJx4a65c_get_915e3_10 rfl (lv_at hl 1 rfl) ?_
  refine k_callq (va_runV (As := [.int (nI i)]) (rest := []) C.1 (kJx4a65c_elementData_915e3 l G B0 f h q mc sz cap g0 i v hi hsz hcap hv hM) (cwV 1 C.ts gJx4a65c_get_915e3_Jx4a65c_elementData_915e3 rfl rfl rfl ⟨rfl, hdJx4a65c_get_915e3_Jx4a65c_elementData_915e3⟩ ⟨Nat.le_of_ble_eq_true rfl, Nat.le_of_ble_eq_true rfl⟩) (k_preV C hX (hM.at 0 rfl) rfl) rfl rfl hl.1 rfl (lv_room (Nat.le_of_ble_eq_true rfl)) dJx4a65c_get_915e3_11 ⟨Nat.le_of_ble_eq_true rfl, Nat.le_of_ble_eq_true rfl⟩) hX (fun r11 f11 H locs hp11 hX => ?_)
  obtain ⟨hr11, hf11⟩ := hp11
  rw [hf11] at hX
  refine k_topq (v := v) hr11 ?_
  exact k_aret (v := some v) C hX hr (Or.inl ⟨_, rfl⟩) hlocks hQ (by omega) (by omega) (⟨rfl, rfl⟩) dJx4a65c_get_915e3_14

theorem lk_Jx4a65c_set_bcc79_f48 : Cond.fieldLink RJx4a65c 48 "java/util/ArrayList" "size" "I" ∈ wsJx4a65c_set_bcc79 := by decide +kernel
theorem hin_Jx4a65c_set_bcc79_RJx4a65c : ∀ w ∈ u_ws RJx4a65c TJx4a65c 3, w ∈ wsJx4a65c_set_bcc79 := by decide +kernel
theorem hdJx4a65c_set_bcc79_J15_checkIndex_7cf53 : yJ15_checkIndex_7cf53.cls ≠ "java/lang/invoke/MethodHandle" ∧ yJ15_checkIndex_7cf53.cls ≠ "java/lang/invoke/VarHandle" ∧ (parseMethodDescriptor yJ15_checkIndex_7cf53.desc).map (fun d => d.parameters.length) = some 2 := by decide +kernel
theorem hdJx4a65c_set_bcc79_Jx4a65c_elementData_915e3 : yJx4a65c_elementData_915e3.cls ≠ "java/lang/invoke/MethodHandle" ∧ yJx4a65c_elementData_915e3.cls ≠ "java/lang/invoke/VarHandle" ∧ (parseMethodDescriptor yJx4a65c_elementData_915e3.desc).map (fun d => d.parameters.length) = some 1 := by decide +kernel
theorem lk_Jx4a65c_set_bcc79_f9 : Cond.fieldLink RJx4a65c 9 "java/util/ArrayList" "elementData" "[Ljava/lang/Object;" ∈ wsJx4a65c_set_bcc79 := by decide +kernel
abbrev rmJx4a65c_set_bcc79 : Room := { frames := 2, cells := 0, slots := 0, locals := 43 }
set_option maxHeartbeats 4000000 in
set_option maxRecDepth 100000 in
/-- Jx4a65c_set_bcc79 -/
theorem kJx4a65c_set_bcc79 (l : Launch) (G : kG) (B0 : Nat) (f : kH) (h q : Nat) (mc : Int32) (sz cap : Nat) (g0 : Nat → Option Nat) (i v : Nat) (hi : i < sz) (hsz : sz ≤ cap) (hcap : cap < 2 ^ 31) (hv : g0 i = some v) (w cw : Nat) (vs : List Value) (rw9 : vw_C) (hcw : vwCl[cw]? = some rw9) (hcas : rw9.1 ∈ kCas) (hM : kCs f [(h, .inr (0, [.int mc, .ref q, .int (nI sz)])), (q, kaO G cap g0), (w, .inr (cw, vs))]) : Met l yJx4a65c_set_bcc79 wsJx4a65c_set_bcc79 (rmJx4a65c_set_bcc79) (kP G B0 f [.ref h, .int (nI i), .ref w]) (kQq G B0 (fun r f1 => r = some v ∧ kCs f1 [(h, .inr (0, [.int mc, .ref q, .int (nI sz)])), (q, kaO G cap (va_up g0 i (some w))), (w, .inr (cw, vs))] ∧ kOff [h, q] f f1)) 0 0 (kAb B0) := by
  refine kMet (cc := cJx4a65c_set_bcc79) (maxL := 4) (ret := (some (.object "java/lang/Object"))) (by decide) rfl (Nat.le_of_ble_eq_true rfl) ?_
  intro p e s m args below meth c H locs Q ls C hX hl hr hlocks hnm hQ
  have hO : kOff [h, q] f f := kOff.rf
  have hl : lv_has ls 4 [(0, .ref h), (1, .int (nI i)), (2, .ref w)] := hl
  refine lv_iload_n C.x C.b dJx4a65c_set_bcc79_0 rfl (lv_at hl 1 rfl) ?_
  refine lv_aload_n C.x C.b dJx4a65c_set_bcc79_1 rfl (lv_at hl 0 rfl) ?_
  refine k_get (X := RJx4a65c) (T := TJx4a65c) (N := 3) (v := .int (nI sz)) C hX (hM.at 0 rfl) rfl hin_Jx4a65c_set_bcc79_RJx4a65c 2 (by decide) lk_Jx4a65c_set_bcc79_f48 (fun _ h9 => h9) rfl dJx4a65c_set_bcc79_2 ?_
  refine k_calli (va_runS (As := [.int (nI i), .int (nI sz)]) (rest := []) C.1 (kJ15_checkIndex_7cf53 l G B0 f i sz hi (by omega)) (va_cwS 2 C.ts gJx4a65c_set_bcc79_J15_checkIndex_7cf53 rfl rfl rfl (hdJx4a65c_set_bcc79_J15_checkIndex_7cf53) ⟨Nat.le_of_ble_eq_true rfl, Nat.le_of_ble_eq_true rfl⟩) (k_preS C hX) rfl rfl hl.1 rfl (lv_room (Nat.le_of_ble_eq_true rfl)) dJx4a65c_set_bcc79_5 ⟨Nat.le_of_ble_eq_true rfl, Nat.le_of_ble_eq_true rfl⟩) hX (fun r5 f5 H locs hp5 hX => ?_)
  obtain ⟨hr5, hf5⟩ := hp5
  rw [hf5] at hX
  refine k_topi (y := (nI i)) hr5 ?_
  refine lv_pop C.x C.b dJx4a65c_set_bcc79_8 rfl ?_
  refine lv_aload_n C.x C.b dJx4a65c_set_bcc79_9 rfl (lv_at hl 0 rfl) ?_
  refine lv_iload_n C.x C.b dJx4a65c_set_bcc79_10 rfl (lv_at hl 1 rfl) ?_
  refine k_callq (va_runV (As := [.int (nI i)]) (rest := []) C.1 (kJx4a65c_elementData_915e3 l G B0 f h q mc sz cap g0 i v hi hsz hcap hv (hM.pick [0, 1] (by decide) ⟨rfl, rfl, trivial⟩)) (cwV 1 C.ts gJx4a65c_set_bcc79_Jx4a65c_elementData_915e3 rfl rfl rfl ⟨rfl, hdJx4a65c_set_bcc79_Jx4a65c_elementData_915e3⟩ ⟨Nat.le_of_ble_eq_true rfl, Nat.le_of_ble_eq_true rfl⟩) (k_preV C hX (hM.at 0 rfl) rfl) rfl rfl hl.1 rfl (lv_room (Nat.le_of_ble_eq_true rfl)) dJx4a65c_set_bcc79_11 ⟨Nat.le_of_ble_eq_true rfl, Nat.le_of_ble_eq_true rfl⟩) hX (fun r11 f11 H locs hp11 hX => ?_)
  obtain ⟨hr11, hf11⟩ := hp11
  rw [hf11] at hX
  refine k_topq (v := v) hr11 ?_
  refine lv_astore_n (lv' := [(3, .ref v), (0, .ref h), (1, .int (nI i)), (2, .ref w)]) C.x C.b dJx4a65c_set_bcc79_14 rfl hl (by decide) rfl (fun ls hl => ?_)
  refine lv_aload_n C.x C.b dJx4a65c_set_bcc79_15 rfl (lv_at hl 1 rfl) ?_
  refine k_get (X := RJx4a65c) (T := TJx4a65c) (N := 3) (v := .ref q) C hX (hM.at 0 rfl) rfl hin_Jx4a65c_set_bcc79_RJx4a65c 1 (by decide) lk_Jx4a65c_set_bcc79_f9 (fun _ h9 => h9) rfl dJx4a65c_set_bcc79_16 ?_
  refine lv_iload_n C.x C.b dJx4a65c_set_bcc79_19 rfl (lv_at hl 2 rfl) ?_
  refine lv_aload_n C.x C.b dJx4a65c_set_bcc79_20 rfl (lv_at hl 3 rfl) ?_
  refine k_aast C hX (hM.at 1 rfl) (hM.at 2 rfl) hcw hcas (vp_in_nI (by omega) (by omega)) dJx4a65c_set_bcc79_21 (fun H locs hX => ?_)
  rw [nI_clamp (by omega)] at hX
  obtain ⟨g1, hX, hM, hO⟩ := kX.wr hX hM hO 1 rfl (List.mem_of_getElem? (i := 1) rfl)
  have hM : kCs g1 ([(h, .inr (0, [.int mc, .ref q, .int (nI sz)])), (q, kaO G cap (va_up g0 i (some w))), (w, .inr (cw, vs))]) := hM
  refine lv_aload_n C.x C.b dJx4a65c_set_bcc79_22 rfl (lv_at hl 0 rfl) ?_
  exact k_aret (v := some v) C hX hr (Or.inl ⟨_, rfl⟩) hlocks hQ (by omega) (by omega) (⟨rfl, hM, hO⟩) dJx4a65c_set_bcc79_23

theorem lk_Jx4a65c_clear_da8c8_sfmodCount : Cond.sameField "java/util/ArrayList" "java/util/AbstractList" "modCount" "I" ∈ wsJx4a65c_clear_da8c8 := by decide +kernel
theorem lk_Jx4a65c_clear_da8c8_f63 : Cond.fieldLink RJx4a65c 63 "java/util/ArrayList" "modCount" "I" ∈ wsJx4a65c_clear_da8c8 := by decide +kernel
theorem hin_Jx4a65c_clear_da8c8_RJx4a65c : ∀ w ∈ u_ws RJx4a65c TJx4a65c 3, w ∈ wsJx4a65c_clear_da8c8 := by decide +kernel
theorem lk_Jx4a65c_clear_da8c8_f9 : Cond.fieldLink RJx4a65c 9 "java/util/ArrayList" "elementData" "[Ljava/lang/Object;" ∈ wsJx4a65c_clear_da8c8 := by decide +kernel
theorem lk_Jx4a65c_clear_da8c8_f48 : Cond.fieldLink RJx4a65c 48 "java/util/ArrayList" "size" "I" ∈ wsJx4a65c_clear_da8c8 := by decide +kernel
abbrev rmJx4a65c_clear_da8c8_0 : Room := { frames := 0, cells := 0, slots := 0, locals := 0 }
set_option maxHeartbeats 4000000 in
set_option maxRecDepth 100000 in
/-- Jx4a65c_clear_da8c8_0 -/
theorem kJx4a65c_clear_da8c8_0 (l : Launch) (G : kG) (B0 : Nat) (f : kH) (h : Nat) (mc : Int32) (hM : kCs f [(h, .inr (0, [.int mc, .ref (G.2.2 1), .int (nI 0)]))]) : Met l yJx4a65c_clear_da8c8 wsJx4a65c_clear_da8c8 (rmJx4a65c_clear_da8c8_0) (kP G B0 f [.ref h]) (kQv G B0 (fun f1 => kCs f1 [(h, .inr (0, [.int (mc + nI 1), .ref (G.2.2 1), .int (nI 0)]))] ∧ kOff [h] f f1)) 0 0 (kAb B0) := by
  refine kMet (cc := cJx4a65c_clear_da8c8) (maxL := 4) (ret := none) (by decide) rfl (Nat.le_of_ble_eq_true rfl) ?_
  intro p e s m args below meth c H locs Q ls C hX hl hr hlocks hnm hQ
  have hO : kOff [h] f f := kOff.rf
  have hl : lv_has ls 4 [(0, .ref h)] := hl
  refine lv_aload_n C.x C.b dJx4a65c_clear_da8c8_0 rfl (lv_at hl 0 rfl) ?_
  refine lv_dup C.x C.b dJx4a65c_clear_da8c8_1 rfl ?_
  refine k_get (X := RJx4a65c) (T := TJx4a65c) (N := 3) (v := .int mc) C hX (hM.at 0 rfl) rfl hin_Jx4a65c_clear_da8c8_RJx4a65c 0 (by decide) lk_Jx4a65c_clear_da8c8_f63 (u_same (C.ts _ lk_Jx4a65c_clear_da8c8_sfmodCount)) rfl dJx4a65c_clear_da8c8_2 ?_
  refine lv_iconst (v := nI 1) C.x C.b dJx4a65c_clear_da8c8_5 (by decide) ?_
  refine lv_iadd C.x C.b dJx4a65c_clear_da8c8_6 ?_
  refine k_put (X := RJx4a65c) (T := TJx4a65c) (N := 3) (ty := .int) (v := .int (mc + (nI 1))) C hX (hM.at 0 rfl) rfl hin_Jx4a65c_clear_da8c8_RJx4a65c tyJx4a65c_ok nmJx4a65c 0 (by decide) lk_Jx4a65c_clear_da8c8_f63 (u_same (C.ts _ lk_Jx4a65c_clear_da8c8_sfmodCount)) rfl (by decide +kernel) rfl rfl (Nat.le_of_ble_eq_true rfl) dJx4a65c_clear_da8c8_7 (fun H locs hX => ?_)
  obtain ⟨g1, hX, hM, hO⟩ := kX.wr hX hM hO 0 rfl (List.mem_of_getElem? (i := 0) rfl)
  have hM : kCs g1 ([(h, .inr (0, [.int (mc + (nI 1)), .ref (G.2.2 1), .int (nI 0)]))]) := hM
  refine lv_aload_n C.x C.b dJx4a65c_clear_da8c8_10 rfl (lv_at hl 0 rfl) ?_
  refine k_get (X := RJx4a65c) (T := TJx4a65c) (N := 3) (v := .ref (G.2.2 1)) C hX (hM.at 0 rfl) rfl hin_Jx4a65c_clear_da8c8_RJx4a65c 1 (by decide) lk_Jx4a65c_clear_da8c8_f9 (fun _ h9 => h9) rfl dJx4a65c_clear_da8c8_11 ?_
  refine lv_astore_n (lv' := [(1, .ref (G.2.2 1)), (0, .ref h)]) C.x C.b dJx4a65c_clear_da8c8_14 rfl hl (by decide) rfl (fun ls hl => ?_)
  refine lv_aload_n C.x C.b dJx4a65c_clear_da8c8_15 rfl (lv_at hl 1 rfl) ?_
  refine k_get (X := RJx4a65c) (T := TJx4a65c) (N := 3) (v := .int (nI 0)) C hX (hM.at 0 rfl) rfl hin_Jx4a65c_clear_da8c8_RJx4a65c 2 (by decide) lk_Jx4a65c_clear_da8c8_f48 (fun _ h9 => h9) rfl dJx4a65c_clear_da8c8_16 ?_
  refine lv_istore_n (lv' := [(2, .int (nI 0)), (1, .ref (G.2.2 1)), (0, .ref h)]) C.x C.b dJx4a65c_clear_da8c8_19 rfl hl (by decide) rfl (fun ls hl => ?_)
  refine lv_aload_n C.x C.b dJx4a65c_clear_da8c8_20 rfl (lv_at hl 2 rfl) ?_
  refine lv_iconst (v := nI 0) C.x C.b dJx4a65c_clear_da8c8_21 (by decide) ?_
  refine lv_dup_x1 C.x C.b dJx4a65c_clear_da8c8_22 rfl rfl ?_
  refine k_put (X := RJx4a65c) (T := TJx4a65c) (N := 3) (ty := .int) (v := .int (nI 0)) C hX (hM.at 0 rfl) rfl hin_Jx4a65c_clear_da8c8_RJx4a65c tyJx4a65c_ok nmJx4a65c 2 (by decide) lk_Jx4a65c_clear_da8c8_f48 (fun _ h9 => h9) rfl (by decide +kernel) rfl rfl (Nat.le_of_ble_eq_true rfl) dJx4a65c_clear_da8c8_23 (fun H locs hX => ?_)
  obtain ⟨g2, hX, hM, hO⟩ := kX.wr hX hM hO 0 rfl (List.mem_of_getElem? (i := 0) rfl)
  have hM : kCs g2 ([(h, .inr (0, [.int (mc + (nI 1)), .ref (G.2.2 1), .int (nI 0)]))]) := hM
  refine lv_istore_n (lv' := [(3, .int (nI 0)), (2, .int (nI 0)), (1, .ref (G.2.2 1)), (0, .ref h)]) C.x C.b dJx4a65c_clear_da8c8_26 rfl hl (by decide) rfl (fun ls hl => ?_)
  refine lv_iload_n C.x C.b dJx4a65c_clear_da8c8_27 rfl (lv_at hl 0 rfl) ?_
  refine lv_iload_n C.x C.b dJx4a65c_clear_da8c8_28 rfl (lv_at hl 1 rfl) ?_
  refine lv_icmp_ge (tgt := 42) C.x C.b dJx4a65c_clear_da8c8_29 (by decide) (fun c_29 => ?_) (fun c_29 => ?_)
  rotate_left
  · skip
    have c_29 : ¬ (0 ≤ 0) := fun h9 => c_29 ((nI_leI (by omega) (by omega)).mpr h9)
    omega
  have c_29 : 0 ≤ 0 := (nI_leI (by omega) (by omega)).mp c_29
  exact k_vret C hX hr hlocks hQ (by omega) (by omega) (⟨hM, hO⟩) dJx4a65c_clear_da8c8_42

theorem lk_Jx4a65c_grow_92f84_f9 : Cond.fieldLink RJx4a65c 9 "java/util/ArrayList" "elementData" "[Ljava/lang/Object;" ∈ wsJx4a65c_grow_92f84 := by decide +kernel
theorem hin_Jx4a65c_grow_92f84_RJx4a65c : ∀ w ∈ u_ws RJx4a65c TJx4a65c 3, w ∈ wsJx4a65c_grow_92f84 := by decide +kernel
theorem lk_Jx4a65c_grow_92f84_f39 : Cond.fieldLink RJx4a65c 39 "java/util/ArrayList" "DEFAULTCAPACITY_EMPTY_ELEMENTDATA" "[Ljava/lang/Object;" ∈ wsJx4a65c_grow_92f84 := by decide +kernel
theorem lk_Jx4a65c_grow_92f84_lib79 : ∀ w ∈ [Cond.methodLink RJx4a65c 79 Lib.Math.max.name, Cond.static Lib.Math.max.name, Cond.initialized "java/lang/Math", Cond.code Lib.Math.max.name Lib.Math.max.code 2 (some .int)], w ∈ wsJx4a65c_grow_92f84 := by decide +kernel
theorem lk_Jx4a65c_grow_92f84_cl7 : Cond.classLink RJx4a65c 7 "java/lang/Object" ∈ wsJx4a65c_grow_92f84 := by decide +kernel
abbrev rmJx4a65c_grow_92f84_0 : Room := { frames := 1, cells := 1, slots := 10, locals := 14 }
set_option maxHeartbeats 4000000 in
set_option maxRecDepth 100000 in
/-- Jx4a65c_grow_92f84_0 -/
theorem kJx4a65c_grow_92f84_0 (l : Launch) (G : kG) (B0 : Nat) (f : kH) (h : Nat) (mc : Int32) (hM : kCs f [(h, .inr (0, [.int mc, .ref (G.2.2 1), .int (nI 0)]))]) : Met l yJx4a65c_grow_92f84 wsJx4a65c_grow_92f84 (rmJx4a65c_grow_92f84_0) (kP G B0 f [.ref h, .int (nI 1)]) (kQq G B0 (fun r f1 => ∃ q : Nat, r = some q ∧ f q = none ∧ kCs f1 ([(h, .inr (0, [.int mc, .ref q, .int (nI 0)]))] ++ [(q, kaO G 10 (fun _ => none))]) ∧ kKp [h] f f1)) 1 10 (kAb B0) := by
  refine kMet (cc := cJx4a65c_grow_92f84) (maxL := 4) (ret := (some (.array (.object "java/lang/Object")))) (by decide) rfl (Nat.le_of_ble_eq_true rfl) ?_
  intro p e s m args below meth c H locs Q ls C hX hl hr hlocks hnm hQ
  have hO : kKp [h] f f := kKp.rf
  have hS : ∀ a ∈ [h], (f a).isSome := by
    intro a h9
    simp only [List.mem_cons, List.not_mem_nil, or_false] at h9
    rcases h9 with rfl
    · rw [hM.at 0 rfl]; rfl
  have hl : lv_has ls 4 [(0, .ref h), (1, .int (nI 1))] := hl
  refine lv_aload_n C.x C.b dJx4a65c_grow_92f84_0 rfl (lv_at hl 0 rfl) ?_
  refine k_get (X := RJx4a65c) (T := TJx4a65c) (N := 3) (v := .ref (G.2.2 1)) C hX (hM.at 0 rfl) rfl hin_Jx4a65c_grow_92f84_RJx4a65c 1 (by decide) lk_Jx4a65c_grow_92f84_f9 (fun _ h9 => h9) rfl dJx4a65c_grow_92f84_1 ?_
  refine k_alenE C hX dJx4a65c_grow_92f84_4 ?_
  refine lv_istore_n (lv' := [(2, .int (nI 0)), (0, .ref h), (1, .int (nI 1))]) C.x C.b dJx4a65c_grow_92f84_5 rfl hl (by decide) rfl (fun ls hl => ?_)
  refine lv_iload_n C.x C.b dJx4a65c_grow_92f84_6 rfl (lv_at hl 0 rfl) ?_
  refine lv_if_gt (tgt := 20) C.x C.b dJx4a65c_grow_92f84_7 (by decide) (fun c_7 => ?_) (fun c_7 => ?_)
  · exact absurd c_7 (by decide)
  refine lv_aload_n C.x C.b dJx4a65c_grow_92f84_10 rfl (lv_at hl 1 rfl) ?_
  refine k_get (X := RJx4a65c) (T := TJx4a65c) (N := 3) (v := .ref (G.2.2 1)) C hX (hM.at 0 rfl) rfl hin_Jx4a65c_grow_92f84_RJx4a65c 1 (by decide) lk_Jx4a65c_grow_92f84_f9 (fun _ h9 => h9) rfl dJx4a65c_grow_92f84_11 ?_
  refine k_getsD C hX (C.ts _ lk_Jx4a65c_grow_92f84_f39) (fun _ h9 => h9) dJx4a65c_grow_92f84_14 ?_
  refine lv_acmp_eq (rx := some (G.2.2 1)) (ry := some (G.2.2 1)) (tgt := 45) C.x C.b dJx4a65c_grow_92f84_17 (by decide) (fun c_17 => ?_) (fun c_17 => ?_)
  rotate_left
  · exact absurd rfl c_17
  refine lv_aload_n C.x C.b dJx4a65c_grow_92f84_45 rfl (lv_at hl 1 rfl) ?_
  refine lv_bipush (v := nI 10) C.x C.b dJx4a65c_grow_92f84_46 (by decide) ?_
  refine lv_iload_n C.x C.b dJx4a65c_grow_92f84_48 rfl (lv_at hl 2 rfl) ?_
  refine k_mmax C (by rw [C.ml]; exact hl.1.symm) lk_Jx4a65c_grow_92f84_lib79 (Nat.le_of_ble_eq_true rfl) (Nat.le_of_ble_eq_true rfl) (by have h9 : rmJx4a65c_grow_92f84_0.cells = 1 := rfl; omega) (by have h9 : rmJx4a65c_grow_92f84_0.slots = 10 := rfl; omega) dJx4a65c_grow_92f84_49 ?_
  refine k_topi (y := (nI 10)) (by decide) ?_
  refine k_newq (R9 := 10) C hX (C.ts _ lk_Jx4a65c_grow_92f84_cl7) (nI_nn (by omega)) (nI_clamp (by omega)) (by omega) (by have h9 : rmJx4a65c_grow_92f84_0.cells = 1 := rfl; omega) (by have h9 : rmJx4a65c_grow_92f84_0.slots = 10 := rfl; omega) dJx4a65c_grow_92f84_52 (fun n1 H hn hX => ?_)
  obtain ⟨g2, hX, hM, hO, fr_n1, hS⟩ := kX.nwP hX hM hO hn hS
  have hM : kCs g2 ([(h, .inr (0, [.int mc, .ref (G.2.2 1), .int (nI 0)])), (n1, kaO G 10 (fun _ => none))]) := hM
  refine lv_dup_x1 C.x C.b dJx4a65c_grow_92f84_55 rfl rfl ?_
  refine k_put (X := RJx4a65c) (T := TJx4a65c) (N := 3) (ty := .array (.object "java/lang/Object")) (v := .ref n1) C hX (hM.at 0 rfl) rfl hin_Jx4a65c_grow_92f84_RJx4a65c tyJx4a65c_ok nmJx4a65c 1 (by decide) lk_Jx4a65c_grow_92f84_f9 (fun _ h9 => h9) rfl (by decide +kernel) rfl rfl (Nat.le_of_ble_eq_true rfl) dJx4a65c_grow_92f84_56 (fun H locs hX => ?_)
  obtain ⟨g3, hX, hM, hO, hS⟩ := kX.wrP hX hM hO hS 0 rfl (Or.inl (by simp))
  have hM : kCs g3 ([(h, .inr (0, [.int mc, .ref n1, .int (nI 0)])), (n1, kaO G 10 (fun _ => none))]) := hM
  exact k_aret (v := some n1) C hX hr (Or.inr ⟨_, rfl⟩) hlocks hQ (by omega) (by omega) (⟨n1, rfl, fr_n1, hM, hO⟩) dJx4a65c_grow_92f84_59

theorem lk_Jx4a65c_grow_d5877_f48 : Cond.fieldLink RJx4a65c 48 "java/util/ArrayList" "size" "I" ∈ wsJx4a65c_grow_d5877 := by decide +kernel
theorem hin_Jx4a65c_grow_d5877_RJx4a65c : ∀ w ∈ u_ws RJx4a65c TJx4a65c 3, w ∈ wsJx4a65c_grow_d5877 := by decide +kernel
theorem hdJx4a65c_grow_d5877_Jx4a65c_grow_92f84 : yJx4a65c_grow_92f84.cls ≠ "java/lang/invoke/MethodHandle" ∧ yJx4a65c_grow_92f84.cls ≠ "java/lang/invoke/VarHandle" ∧ (parseMethodDescriptor yJx4a65c_grow_92f84.desc).map (fun d => d.parameters.length) = some 1 := by decide +kernel
abbrev rmJx4a65c_grow_d5877_0 : Room := { frames := 2, cells := 1, slots := 10, locals := 37 }
set_option maxHeartbeats 4000000 in
set_option maxRecDepth 100000 in
/-- Jx4a65c_grow_d5877_0 -/
theorem kJx4a65c_grow_d5877_0 (l : Launch) (G : kG) (B0 : Nat) (f : kH) (h : Nat) (mc : Int32) (hM : kCs f [(h, .inr (0, [.int mc, .ref (G.2.2 1), .int (nI 0)]))]) : Met l yJx4a65c_grow_d5877 wsJx4a65c_grow_d5877 (rmJx4a65c_grow_d5877_0) (kP G B0 f [.ref h]) (kQq G B0 (fun r f1 => ∃ q : Nat, r = some q ∧ f q = none ∧ kCs f1 ([(h, .inr (0, [.int mc, .ref q, .int (nI 0)]))] ++ [(q, kaO G 10 (fun _ => none))]) ∧ kKp [h] f f1)) 1 10 (kAb B0) := by
  refine kMet (cc := cJx4a65c_grow_d5877) (maxL := 1) (ret := (some (.array (.object "java/lang/Object")))) (by decide) rfl (Nat.le_of_ble_eq_true rfl) ?_
  intro p e s m args below meth c H locs Q ls C hX hl hr hlocks hnm hQ
  have hO : kKp [h] f f := kKp.rf
  have hS : ∀ a ∈ [h], (f a).isSome := by
    intro a h9
    simp only [List.mem_cons, List.not_mem_nil, or_false] at h9
    rcases h9 with rfl
    · rw [hM.at 0 rfl]; rfl
  have hl : lv_has ls 1 [(0, .ref h)] := hl
  refine lv_aload_n C.x C.b dJx4a65c_grow_d5877_0 rfl (lv_at hl 0 rfl) ?_
  refine lv_aload_n C.x C.b dJx4a65c_grow_d5877_1 rfl (lv_at hl 0 rfl) ?_
  refine k_get (X := RJx4a65c) (T := TJx4a65c) (N := 3) (v := .int (nI 0)) C hX (hM.at 0 rfl) rfl hin_Jx4a65c_grow_d5877_RJx4a65c 2 (by decide) lk_Jx4a65c_grow_d5877_f48 (fun _ h9 => h9) rfl dJx4a65c_grow_d5877_2 ?_
  refine lv_iconst (v := nI 1) C.x C.b dJx4a65c_grow_d5877_5 (by decide) ?_
  refine lv_iadd C.x C.b dJx4a65c_grow_d5877_6 ?_
  refine k_topi (y := nI (0 + 1)) (nI_add _ _) ?_
  refine k_callq (va_runV (As := [.int (nI (0 + 1))]) (rest := []) C.1 (kJx4a65c_grow_92f84_0 l G B0 f h mc hM) (cwV 1 C.ts gJx4a65c_grow_d5877_Jx4a65c_grow_92f84 rfl rfl rfl ⟨rfl, hdJx4a65c_grow_d5877_Jx4a65c_grow_92f84⟩ ⟨Nat.le_of_ble_eq_true rfl, Nat.le_of_ble_eq_true rfl⟩) (k_preV C hX (hM.at 0 rfl) rfl) rfl rfl hl.1 rfl (lv_room (Nat.le_of_ble_eq_true rfl)) dJx4a65c_grow_d5877_7 ⟨Nat.le_of_ble_eq_true rfl, Nat.le_of_ble_eq_true rfl⟩) hX (fun r7 f7 H locs hp7 hX => ?_)
  obtain ⟨q7, hr7, hn7, hM9, hO9⟩ := hp7
  have fr_q7 : f q7 = none := hO.fr hS hn7
  have hM : kCs f7 ([(h, .inr (0, [.int mc, .ref q7, .int (nI 0)])), (q7, kaO G 10 (fun _ => none))]) := hM.subg hM9 hO9 hn7 [0] (by simp) ⟨rfl, trivial⟩
  have hO := hO.then (hO9) (by
      intro a h9
      simp only [List.mem_cons, List.not_mem_nil, or_false] at h9
      rcases h9 with rfl
      · exact Or.inl (by simp))
  have hS : ∀ a ∈ [h], (f7 a).isSome := by
    intro a h9
    simp only [List.mem_cons, List.not_mem_nil, or_false] at h9
    rcases h9 with rfl
    · rw [hM.at 0 rfl]; rfl
  refine k_topq (v := q7) hr7 ?_
  exact k_aret (v := some q7) C hX hr (Or.inr ⟨_, rfl⟩) hlocks hQ (by omega) (by omega) (⟨q7, rfl, fr_q7, hM, hO⟩) dJx4a65c_grow_d5877_10

theorem hdJx4a65c_add_72be8_Jx4a65c_grow_d5877 : yJx4a65c_grow_d5877.cls ≠ "java/lang/invoke/MethodHandle" ∧ yJx4a65c_grow_d5877.cls ≠ "java/lang/invoke/VarHandle" ∧ (parseMethodDescriptor yJx4a65c_grow_d5877.desc).map (fun d => d.parameters.length) = some 0 := by decide +kernel
theorem lk_Jx4a65c_add_72be8_f48 : Cond.fieldLink RJx4a65c 48 "java/util/ArrayList" "size" "I" ∈ wsJx4a65c_add_72be8 := by decide +kernel
theorem hin_Jx4a65c_add_72be8_RJx4a65c : ∀ w ∈ u_ws RJx4a65c TJx4a65c 3, w ∈ wsJx4a65c_add_72be8 := by decide +kernel
abbrev rmJx4a65c_add_72be8_0 : Room := { frames := 3, cells := 1, slots := 10, locals := 57 }
set_option maxHeartbeats 4000000 in
set_option maxRecDepth 100000 in
/-- Jx4a65c_add_72be8_0 -/
theorem kJx4a65c_add_72be8_0 (l : Launch) (G : kG) (B0 : Nat) (f : kH) (h : Nat) (mc : Int32) (w cw : Nat) (vs : List Value) (rw9 : vw_C) (hcw : vwCl[cw]? = some rw9) (hcas : rw9.1 ∈ kCas) (hM : kCs f [(h, .inr (0, [.int mc, .ref (G.2.2 1), .int (nI 0)])), (w, .inr (cw, vs))]) : Met l yJx4a65c_add_72be8 wsJx4a65c_add_72be8 (rmJx4a65c_add_72be8_0) (kP G B0 f [.ref h, .ref w, .ref (G.2.2 1), .int (nI 0)]) (kQv G B0 (fun f1 => ∃ q : Nat, f q = none ∧ kCs f1 ([(h, .inr (0, [.int mc, .ref q, .int (nI 1)])), (w, .inr (cw, vs))] ++ [(q, kaO G 10 (va_up (fun _ => none) 0 (some w)))]) ∧ kKp [h] f f1)) 1 10 (kAb B0) := by
  refine kMet (cc := cJx4a65c_add_72be8) (maxL := 4) (ret := none) (by decide) rfl (Nat.le_of_ble_eq_true rfl) ?_
  intro p e s m args below meth c H locs Q ls C hX hl hr hlocks hnm hQ
  have hO : kKp [h] f f := kKp.rf
  have hS : ∀ a ∈ [h], (f a).isSome := by
    intro a h9
    simp only [List.mem_cons, List.not_mem_nil, or_false] at h9
    rcases h9 with rfl
    · rw [hM.at 0 rfl]; rfl
  have hl : lv_has ls 4 [(0, .ref h), (1, .ref w), (2, .ref (G.2.2 1)), (3, .int (nI 0))] := hl
  refine lv_iload_n C.x C.b dJx4a65c_add_72be8_0 rfl (lv_at hl 3 rfl) ?_
  refine lv_aload_n C.x C.b dJx4a65c_add_72be8_1 rfl (lv_at hl 2 rfl) ?_
  refine k_alenE C hX dJx4a65c_add_72be8_2 ?_
  refine lv_icmp_ne (tgt := 11) C.x C.b dJx4a65c_add_72be8_3 (by decide) (fun c_3 => ?_) (fun c_3 => ?_)
  · skip
    have c_3 : ¬ (0 = 0) := fun h9 => c_3 ((nI_eq (by omega) (by omega)).mpr h9)
    exact absurd rfl c_3
  have c_3 : 0 = 0 := (nI_eq (by omega) (by omega)).mp c_3
  refine lv_aload_n C.x C.b dJx4a65c_add_72be8_6 rfl (lv_at hl 0 rfl) ?_
  have hM9 : kCs f ([(h, .inr (0, [.int mc, .ref (G.2.2 1), .int (nI 0)]))]) := hM.pick [0] (by decide) ⟨rfl, trivial⟩
  refine k_callq (va_runV (As := []) (rest := []) C.1 (kJx4a65c_grow_d5877_0 l G B0 f h mc hM9) (cwV 0 C.ts gJx4a65c_add_72be8_Jx4a65c_grow_d5877 rfl rfl rfl ⟨rfl, hdJx4a65c_add_72be8_Jx4a65c_grow_d5877⟩ ⟨Nat.le_of_ble_eq_true rfl, Nat.le_of_ble_eq_true rfl⟩) (k_preV C hX (hM.at 0 rfl) rfl) rfl rfl hl.1 rfl (lv_room (Nat.le_of_ble_eq_true rfl)) dJx4a65c_add_72be8_7 ⟨Nat.le_of_ble_eq_true rfl, Nat.le_of_ble_eq_true rfl⟩) hX (fun r7 f7 H locs hp7 hX => ?_)
  obtain ⟨q7, hr7, hn7, hM9, hO9⟩ := hp7
  have fr_q7 : f q7 = none := hO.fr hS hn7
  have hM : kCs f7 ([(h, .inr (0, [.int mc, .ref q7, .int (nI 0)])), (w, .inr (cw, vs)), (q7, kaO G 10 (fun _ => none))]) := hM.subg hM9 hO9 hn7 [0] (by simp) ⟨rfl, trivial⟩
  have hO := hO.then (hO9) (by
      intro a h9
      simp only [List.mem_cons, List.not_mem_nil, or_false] at h9
      rcases h9 with rfl
      · exact Or.inl (by simp))
  have hS : ∀ a ∈ [h], (f7 a).isSome := by
    intro a h9
    simp only [List.mem_cons, List.not_mem_nil, or_false] at h9
    rcases h9 with rfl
    · rw [hM.at 0 rfl]; rfl
  refine k_topq (v := q7) hr7 ?_
  refine lv_astore_n (lv' := [(2, .ref q7), (0, .ref h), (1, .ref w), (3, .int (nI 0))]) C.x C.b dJx4a65c_add_72be8_10 rfl hl (by decide) rfl (fun ls hl => ?_)
  refine lv_aload_n C.x C.b dJx4a65c_add_72be8_11 rfl (lv_at hl 0 rfl) ?_
  refine lv_iload_n C.x C.b dJx4a65c_add_72be8_12 rfl (lv_at hl 3 rfl) ?_
  refine lv_aload_n C.x C.b dJx4a65c_add_72be8_13 rfl (lv_at hl 2 rfl) ?_
  refine k_aast C hX (hM.at 2 rfl) (hM.at 1 rfl) hcw hcas (vp_in_nI (by omega) (by omega)) dJx4a65c_add_72be8_14 (fun H locs hX => ?_)
  rw [nI_clamp (by omega)] at hX
  obtain ⟨g1, hX, hM, hO, hS⟩ := kX.wrP hX hM hO hS 2 rfl (Or.inr fr_q7)
  have hM : kCs g1 ([(h, .inr (0, [.int mc, .ref q7, .int (nI 0)])), (w, .inr (cw, vs)), (q7, kaO G 10 (va_up (fun _ => none) 0 (some w)))]) := hM
  refine lv_aload_n C.x C.b dJx4a65c_add_72be8_15 rfl (lv_at hl 1 rfl) ?_
  refine lv_iload_n C.x C.b dJx4a65c_add_72be8_16 rfl (lv_at hl 3 rfl) ?_
  refine lv_iconst (v := nI 1) C.x C.b dJx4a65c_add_72be8_17 (by decide) ?_
  refine lv_iadd C.x C.b dJx4a65c_add_72be8_18 ?_
  refine k_topi (y := nI (0 + 1)) (nI_add _ _) ?_
  refine k_put (X := RJx4a65c) (T := TJx4a65c) (N := 3) (ty := .int) (v := .int (nI (0 + 1))) C hX (hM.at 0 rfl) rfl hin_Jx4a65c_add_72be8_RJx4a65c tyJx4a65c_ok nmJx4a65c 2 (by decide) lk_Jx4a65c_add_72be8_f48 (fun _ h9 => h9) rfl (by decide +kernel) rfl rfl (Nat.le_of_ble_eq_true rfl) dJx4a65c_add_72be8_19 (fun H locs hX => ?_)
  obtain ⟨g2, hX, hM, hO, hS⟩ := kX.wrP hX hM hO hS 0 rfl (Or.inl (by simp))
  have hM : kCs g2 ([(h, .inr (0, [.int mc, .ref q7, .int (nI (0 + 1))])), (w, .inr (cw, vs)), (q7, kaO G 10 (va_up (fun _ => none) 0 (some w)))]) := hM
  exact k_vret C hX hr hlocks hQ (by omega) (by omega) (⟨q7, fr_q7, hM, hO⟩) dJx4a65c_add_72be8_22

theorem lk_Jx4a65c_add_9ea2d_sfmodCount : Cond.sameField "java/util/ArrayList" "java/util/AbstractList" "modCount" "I" ∈ wsJx4a65c_add_9ea2d := by decide +kernel
theorem lk_Jx4a65c_add_9ea2d_f63 : Cond.fieldLink RJx4a65c 63 "java/util/ArrayList" "modCount" "I" ∈ wsJx4a65c_add_9ea2d := by decide +kernel
theorem hin_Jx4a65c_add_9ea2d_RJx4a65c : ∀ w ∈ u_ws RJx4a65c TJx4a65c 3, w ∈ wsJx4a65c_add_9ea2d := by decide +kernel
theorem lk_Jx4a65c_add_9ea2d_f9 : Cond.fieldLink RJx4a65c 9 "java/util/ArrayList" "elementData" "[Ljava/lang/Object;" ∈ wsJx4a65c_add_9ea2d := by decide +kernel
theorem lk_Jx4a65c_add_9ea2d_f48 : Cond.fieldLink RJx4a65c 48 "java/util/ArrayList" "size" "I" ∈ wsJx4a65c_add_9ea2d := by decide +kernel
theorem hdJx4a65c_add_9ea2d_Jx4a65c_add_72be8 : yJx4a65c_add_72be8.cls ≠ "java/lang/invoke/MethodHandle" ∧ yJx4a65c_add_72be8.cls ≠ "java/lang/invoke/VarHandle" ∧ (parseMethodDescriptor yJx4a65c_add_72be8.desc).map (fun d => d.parameters.length) = some 3 := by decide +kernel
abbrev rmJx4a65c_add_9ea2d_0 : Room := { frames := 4, cells := 1, slots := 10, locals := 80 }
set_option maxHeartbeats 4000000 in
set_option maxRecDepth 100000 in
/-- Jx4a65c_add_9ea2d_0 -/
theorem kJx4a65c_add_9ea2d_0 (l : Launch) (G : kG) (B0 : Nat) (f : kH) (h : Nat) (mc : Int32) (w cw : Nat) (vs : List Value) (rw9 : vw_C) (hcw : vwCl[cw]? = some rw9) (hcas : rw9.1 ∈ kCas) (hM : kCs f [(h, .inr (0, [.int mc, .ref (G.2.2 1), .int (nI 0)])), (w, .inr (cw, vs))]) : Met l yJx4a65c_add_9ea2d wsJx4a65c_add_9ea2d (rmJx4a65c_add_9ea2d_0) (kP G B0 f [.ref h, .ref w]) (kQi G B0 (fun r f1 => ∃ q : Nat, r = nI 1 ∧ f q = none ∧ kCs f1 ([(h, .inr (0, [.int (mc + nI 1), .ref q, .int (nI 1)])), (w, .inr (cw, vs))] ++ [(q, kaO G 10 (va_up (fun _ => none) 0 (some w)))]) ∧ kKp [h] f f1)) 1 10 (kAb B0) := by
  refine kMet (cc := cJx4a65c_add_9ea2d) (maxL := 2) (ret := (some .boolean)) (by decide) rfl (Nat.le_of_ble_eq_true rfl) ?_
  intro p e s m args below meth c H locs Q ls C hX hl hr hlocks hnm hQ
  have hO : kKp [h] f f := kKp.rf
  have hS : ∀ a ∈ [h], (f a).isSome := by
    intro a h9
    simp only [List.mem_cons, List.not_mem_nil, or_false] at h9
    rcases h9 with rfl
    · rw [hM.at 0 rfl]; rfl
  have hl : lv_has ls 2 [(0, .ref h), (1, .ref w)] := hl
  refine lv_aload_n C.x C.b dJx4a65c_add_9ea2d_0 rfl (lv_at hl 0 rfl) ?_
  refine lv_dup C.x C.b dJx4a65c_add_9ea2d_1 rfl ?_
  refine k_get (X := RJx4a65c) (T := TJx4a65c) (N := 3) (v := .int mc) C hX (hM.at 0 rfl) rfl hin_Jx4a65c_add_9ea2d_RJx4a65c 0 (by decide) lk_Jx4a65c_add_9ea2d_f63 (u_same (C.ts _ lk_Jx4a65c_add_9ea2d_sfmodCount)) rfl dJx4a65c_add_9ea2d_2 ?_
  refine lv_iconst (v := nI 1) C.x C.b dJx4a65c_add_9ea2d_5 (by decide) ?_
  refine lv_iadd C.x C.b dJx4a65c_add_9ea2d_6 ?_
  refine k_put (X := RJx4a65c) (T := TJx4a65c) (N := 3) (ty := .int) (v := .int (mc + (nI 1))) C hX (hM.at 0 rfl) rfl hin_Jx4a65c_add_9ea2d_RJx4a65c tyJx4a65c_ok nmJx4a65c 0 (by decide) lk_Jx4a65c_add_9ea2d_f63 (u_same (C.ts _ lk_Jx4a65c_add_9ea2d_sfmodCount)) rfl (by decide +kernel) rfl rfl (Nat.le_of_ble_eq_true rfl) dJx4a65c_add_9ea2d_7 (fun H locs hX => ?_)
  obtain ⟨g1, hX, hM, hO, hS⟩ := kX.wrP hX hM hO hS 0 rfl (Or.inl (by simp))
  have hM : kCs g1 ([(h, .inr (0, [.int (mc + (nI 1)), .ref (G.2.2 1), .int (nI 0)])), (w, .inr (cw, vs))]) := hM
  refine lv_aload_n C.x C.b dJx4a65c_add_9ea2d_10 rfl (lv_at hl 0 rfl) ?_
  refine lv_aload_n C.x C.b dJx4a65c_add_9ea2d_11 rfl (lv_at hl 1 rfl) ?_
  refine lv_aload_n C.x C.b dJx4a65c_add_9ea2d_12 rfl (lv_at hl 0 rfl) ?_
  refine k_get (X := RJx4a65c) (T := TJx4a65c) (N := 3) (v := .ref (G.2.2 1)) C hX (hM.at 0 rfl) rfl hin_Jx4a65c_add_9ea2d_RJx4a65c 1 (by decide) lk_Jx4a65c_add_9ea2d_f9 (fun _ h9 => h9) rfl dJx4a65c_add_9ea2d_13 ?_
  refine lv_aload_n C.x C.b dJx4a65c_add_9ea2d_16 rfl (lv_at hl 0 rfl) ?_
  refine k_get (X := RJx4a65c) (T := TJx4a65c) (N := 3) (v := .int (nI 0)) C hX (hM.at 0 rfl) rfl hin_Jx4a65c_add_9ea2d_RJx4a65c 2 (by decide) lk_Jx4a65c_add_9ea2d_f48 (fun _ h9 => h9) rfl dJx4a65c_add_9ea2d_17 ?_
  refine k_callv (va_runV (As := [.ref w, .ref (G.2.2 1), .int (nI 0)]) (rest := []) C.1 (kJx4a65c_add_72be8_0 l G B0 g1 h (mc + nI 1) w cw vs rw9 hcw hcas hM) (cwV 3 C.ts gJx4a65c_add_9ea2d_Jx4a65c_add_72be8 rfl rfl rfl ⟨rfl, hdJx4a65c_add_9ea2d_Jx4a65c_add_72be8⟩ ⟨Nat.le_of_ble_eq_true rfl, Nat.le_of_ble_eq_true rfl⟩) (k_preV C hX (hM.at 0 rfl) rfl) rfl rfl hl.1 rfl (lv_room (Nat.le_of_ble_eq_true rfl)) dJx4a65c_add_9ea2d_20 ⟨Nat.le_of_ble_eq_true rfl, Nat.le_of_ble_eq_true rfl⟩) hX (fun f20 H locs hp20 hX => ?_)
  obtain ⟨q20, hn20, hM9, hO9⟩ := hp20
  have fr_q20 : f q20 = none := hO.fr hS hn20
  have hM : kCs f20 ([(h, .inr (0, [.int (mc + nI 1), .ref q20, .int (nI 1)])), (w, .inr (cw, vs)), (q20, kaO G 10 (va_up (fun _ => none) 0 (some w)))]) := hM.subg hM9 hO9 hn20 [0, 1] (by simp) ⟨rfl, rfl, trivial⟩
  have hO := hO.then (hO9) (by
      intro a h9
      simp only [List.mem_cons, List.not_mem_nil, or_false] at h9
      rcases h9 with rfl
      · exact Or.inl (by simp))
  have hS : ∀ a ∈ [h], (f20 a).isSome := by
    intro a h9
    simp only [List.mem_cons, List.not_mem_nil, or_false] at h9
    rcases h9 with rfl
    · rw [hM.at 0 rfl]; rfl
  refine lv_iconst (v := nI 1) C.x C.b dJx4a65c_add_9ea2d_23 (by decide) ?_
  exact k_zret C hX hr hlocks hQ (by omega) (by omega) (by first | exact kbI_01 _ | exact Or.inl rfl | exact Or.inr rfl) (⟨q20, rfl, fr_q20, hM, hO⟩) dJx4a65c_add_9ea2d_24

abbrev rmJx4a65c_add_72be8_n : Room := { frames := 0, cells := 0, slots := 0, locals := 0 }
set_option maxHeartbeats 4000000 in
set_option maxRecDepth 100000 in
/-- Jx4a65c_add_72be8_n -/
theorem kJx4a65c_add_72be8_n (l : Launch) (G : kG) (B0 : Nat) (f : kH) (h q : Nat) (mc : Int32) (sz cap : Nat) (g0 : Nat → Option Nat) (hi : sz < cap) (hcap : cap < 2 ^ 31) (w cw : Nat) (vs : List Value) (rw9 : vw_C) (hcw : vwCl[cw]? = some rw9) (hcas : rw9.1 ∈ kCas) (hM : kCs f [(h, .inr (0, [.int mc, .ref q, .int (nI sz)])), (q, kaO G cap g0), (w, .inr (cw, vs))]) : Met l yJx4a65c_add_72be8 wsJx4a65c_add_72be8 (rmJx4a65c_add_72be8_n) (kP G B0 f [.ref h, .ref w, .ref q, .int (nI sz)]) (kQv G B0 (fun f1 => kCs f1 [(h, .inr (0, [.int mc, .ref q, .int (nI (sz + 1))])), (q, kaO G cap (va_up g0 sz (some w))), (w, .inr (cw, vs))] ∧ kOff [h, q] f f1)) 0 0 (kAb B0) := by
  refine kMet (cc := cJx4a65c_add_72be8) (maxL := 4) (ret := none) (by decide) rfl (Nat.le_of_ble_eq_true rfl) ?_
  intro p e s m args below meth c H locs Q ls C hX hl hr hlocks hnm hQ
  have hO : kOff [h, q] f f := kOff.rf
  have hl : lv_has ls 4 [(0, .ref h), (1, .ref w), (2, .ref q), (3, .int (nI sz))] := hl
  refine lv_iload_n C.x C.b dJx4a65c_add_72be8_0 rfl (lv_at hl 3 rfl) ?_
  refine lv_aload_n C.x C.b dJx4a65c_add_72be8_1 rfl (lv_at hl 2 rfl) ?_
  refine k_alenO C hX (hM.at 1 rfl) dJx4a65c_add_72be8_2 ?_
  refine lv_icmp_ne (tgt := 11) C.x C.b dJx4a65c_add_72be8_3 (by decide) (fun c_3 => ?_) (fun c_3 => ?_)
  rotate_left
  · skip
    have c_3 : sz = cap := (nI_eq (by omega) (by omega)).mp c_3
    omega
  have c_3 : ¬ (sz = cap) := fun h9 => c_3 ((nI_eq (by omega) (by omega)).mpr h9)
  refine lv_aload_n C.x C.b dJx4a65c_add_72be8_11 rfl (lv_at hl 2 rfl) ?_
  refine lv_iload_n C.x C.b dJx4a65c_add_72be8_12 rfl (lv_at hl 3 rfl) ?_
  refine lv_aload_n C.x C.b dJx4a65c_add_72be8_13 rfl (lv_at hl 1 rfl) ?_
  refine k_aast C hX (hM.at 1 rfl) (hM.at 2 rfl) hcw hcas (vp_in_nI (by omega) (by omega)) dJx4a65c_add_72be8_14 (fun H locs hX => ?_)
  rw [nI_clamp (by omega)] at hX
  obtain ⟨g1, hX, hM, hO⟩ := kX.wr hX hM hO 1 rfl (List.mem_of_getElem? (i := 1) rfl)
  have hM : kCs g1 ([(h, .inr (0, [.int mc, .ref q, .int (nI sz)])), (q, kaO G cap (va_up g0 sz (some w))), (w, .inr (cw, vs))]) := hM
  refine lv_aload_n C.x C.b dJx4a65c_add_72be8_15 rfl (lv_at hl 0 rfl) ?_
  refine lv_iload_n C.x C.b dJx4a65c_add_72be8_16 rfl (lv_at hl 3 rfl) ?_
  refine lv_iconst (v := nI 1) C.x C.b dJx4a65c_add_72be8_17 (by decide) ?_
  refine lv_iadd C.x C.b dJx4a65c_add_72be8_18 ?_
  refine k_topi (y := nI (sz + 1)) (nI_add _ _) ?_
  refine k_put (X := RJx4a65c) (T := TJx4a65c) (N := 3) (ty := .int) (v := .int (nI (sz + 1))) C hX (hM.at 0 rfl) rfl hin_Jx4a65c_add_72be8_RJx4a65c tyJx4a65c_ok nmJx4a65c 2 (by decide) lk_Jx4a65c_add_72be8_f48 (fun _ h9 => h9) rfl (by decide +kernel) rfl rfl (Nat.le_of_ble_eq_true rfl) dJx4a65c_add_72be8_19 (fun H locs hX => ?_)
  obtain ⟨g2, hX, hM, hO⟩ := kX.wr hX hM hO 0 rfl (List.mem_of_getElem? (i := 0) rfl)
  have hM : kCs g2 ([(h, .inr (0, [.int mc, .ref q, .int (nI (sz + 1))])), (q, kaO G cap (va_up g0 sz (some w))), (w, .inr (cw, vs))]) := hM
  exact k_vret C hX hr hlocks hQ (by omega) (by omega) (⟨hM, hO⟩) dJx4a65c_add_72be8_22

abbrev rmJx4a65c_add_9ea2d_n : Room := { frames := 1, cells := 0, slots := 0, locals := 23 }
set_option maxHeartbeats 4000000 in
set_option maxRecDepth 100000 in
/-- Jx4a65c_add_9ea2d_n -/
theorem kJx4a65c_add_9ea2d_n (l : Launch) (G : kG) (B0 : Nat) (f : kH) (h q : Nat) (mc : Int32) (sz cap : Nat) (g0 : Nat → Option Nat) (hi : sz < cap) (hcap : cap < 2 ^ 31) (w cw : Nat) (vs : List Value) (rw9 : vw_C) (hcw : vwCl[cw]? = some rw9) (hcas : rw9.1 ∈ kCas) (hM : kCs f [(h, .inr (0, [.int mc, .ref q, .int (nI sz)])), (q, kaO G cap g0), (w, .inr (cw, vs))]) : Met l yJx4a65c_add_9ea2d wsJx4a65c_add_9ea2d (rmJx4a65c_add_9ea2d_n) (kP G B0 f [.ref h, .ref w]) (kQi G B0 (fun r f1 => r = nI 1 ∧ kCs f1 [(h, .inr (0, [.int (mc + nI 1), .ref q, .int (nI (sz + 1))])), (q, kaO G cap (va_up g0 sz (some w))), (w, .inr (cw, vs))] ∧ kOff [h, q] f f1)) 0 0 (kAb B0) := by
  refine kMet (cc := cJx4a65c_add_9ea2d) (maxL := 2) (ret := (some .boolean)) (by decide) rfl (Nat.le_of_ble_eq_true rfl) ?_
  intro p e s m args below meth c H locs Q ls C hX hl hr hlocks hnm hQ
  have hO : kOff [h, q] f f := kOff.rf
  have hl : lv_has ls 2 [(0, .ref h), (1, .ref w)] := hl
  refine lv_aload_n C.x C.b dJx4a65c_add_9ea2d_0 rfl (lv_at hl 0 rfl) ?_
  refine lv_dup C.x C.b dJx4a65c_add_9ea2d_1 rfl ?_
  refine k_get (X := RJx4a65c) (T := TJx4a65c) (N := 3) (v := .int mc) C hX (hM.at 0 rfl) rfl hin_Jx4a65c_add_9ea2d_RJx4a65c 0 (by decide) lk_Jx4a65c_add_9ea2d_f63 (u_same (C.ts _ lk_Jx4a65c_add_9ea2d_sfmodCount)) rfl dJx4a65c_add_9ea2d_2 ?_
  refine lv_iconst (v := nI 1) C.x C.b dJx4a65c_add_9ea2d_5 (by decide) ?_
  refine lv_iadd C.x C.b dJx4a65c_add_9ea2d_6 ?_
  refine k_put (X := RJx4a65c) (T := TJx4a65c) (N := 3) (ty := .int) (v := .int (mc + (nI 1))) C hX (hM.at 0 rfl) rfl hin_Jx4a65c_add_9ea2d_RJx4a65c tyJx4a65c_ok nmJx4a65c 0 (by decide) lk_Jx4a65c_add_9ea2d_f63 (u_same (C.ts _ lk_Jx4a65c_add_9ea2d_sfmodCount)) rfl (by decide +kernel) rfl rfl (Nat.le_of_ble_eq_true rfl) dJx4a65c_add_9ea2d_7 (fun H locs hX => ?_)
  obtain ⟨g1, hX, hM, hO⟩ := kX.wr hX hM hO 0 rfl (List.mem_of_getElem? (i := 0) rfl)
  have hM : kCs g1 ([(h, .inr (0, [.int (mc + (nI 1)), .ref q, .int (nI sz)])), (q, kaO G cap g0), (w, .inr (cw, vs))]) := hM
  refine lv_aload_n C.x C.b dJx4a65c_add_9ea2d_10 rfl (lv_at hl 0 rfl) ?_
  refine lv_aload_n C.x C.b dJx4a65c_add_9ea2d_11 rfl (lv_at hl 1 rfl) ?_
  refine lv_aload_n C.x C.b dJx4a65c_add_9ea2d_12 rfl (lv_at hl 0 rfl) ?_
  refine k_get (X := RJx4a65c) (T := TJx4a65c) (N := 3) (v := .ref q) C hX (hM.at 0 rfl) rfl hin_Jx4a65c_add_9ea2d_RJx4a65c 1 (by decide) lk_Jx4a65c_add_9ea2d_f9 (fun _ h9 => h9) rfl dJx4a65c_add_9ea2d_13 ?_
  refine lv_aload_n C.x C.b dJx4a65c_add_9ea2d_16 rfl (lv_at hl 0 rfl) ?_
  refine k_get (X := RJx4a65c) (T := TJx4a65c) (N := 3) (v := .int (nI sz)) C hX (hM.at 0 rfl) rfl hin_Jx4a65c_add_9ea2d_RJx4a65c 2 (by decide) lk_Jx4a65c_add_9ea2d_f48 (fun _ h9 => h9) rfl dJx4a65c_add_9ea2d_17 ?_
  refine k_callv (va_runV (As := [.ref w, .ref q, .int (nI sz)]) (rest := []) C.1 (kJx4a65c_add_72be8_n l G B0 g1 h q (mc + nI 1) sz cap g0 hi hcap w cw vs rw9 hcw hcas hM) (cwV 3 C.ts gJx4a65c_add_9ea2d_Jx4a65c_add_72be8 rfl rfl rfl ⟨rfl, hdJx4a65c_add_9ea2d_Jx4a65c_add_72be8⟩ ⟨Nat.le_of_ble_eq_true rfl, Nat.le_of_ble_eq_true rfl⟩) (k_preV C hX (hM.at 0 rfl) rfl) rfl rfl hl.1 rfl (lv_room (Nat.le_of_ble_eq_true rfl)) dJx4a65c_add_9ea2d_20 ⟨Nat.le_of_ble_eq_true rfl, Nat.le_of_ble_eq_true rfl⟩) hX (fun f20 H locs hp20 hX => ?_)
  obtain ⟨hM, hO20⟩ := hp20
  have hO := hO.trans hO20
  have hM : kCs f20 ([(h, .inr (0, [.int (mc + nI 1), .ref q, .int (nI (sz + 1))])), (q, kaO G cap (va_up g0 sz (some w))), (w, .inr (cw, vs))]) := hM
  refine lv_iconst (v := nI 1) C.x C.b dJx4a65c_add_9ea2d_23 (by decide) ?_
  exact k_zret C hX hr hlocks hQ (by omega) (by omega) (by first | exact kbI_01 _ | exact Or.inl rfl | exact Or.inr rfl) (⟨rfl, hM, hO⟩) dJx4a65c_add_9ea2d_24

theorem lk_J8_newLength_cabcc_lib194 : ∀ w ∈ [Cond.methodLink RJ8 194 Lib.Math.max.name, Cond.static Lib.Math.max.name, Cond.initialized "java/lang/Math", Cond.code Lib.Math.max.name Lib.Math.max.code 2 (some .int)], w ∈ wsJ8_newLength_cabcc := by decide +kernel
theorem lk_J8_newLength_cabcc_c200 : Cond.constant RJ8 200 (2147483639) ∈ wsJ8_newLength_cabcc := by decide +kernel
abbrev rmJ8_newLength_cabcc : Room := { frames := 1, cells := 0, slots := 0, locals := 14 }
set_option maxHeartbeats 4000000 in
set_option maxRecDepth 100000 in
/-- J8_newLength_cabcc -/
theorem kJ8_newLength_cabcc (l : Launch) (G : kG) (B0 : Nat) (f : kH) (x y z : Nat) (hx : x < 1000) (hy : y < 1000) (hz : z < 1000) (hp : 0 < x) : Met l yJ8_newLength_cabcc wsJ8_newLength_cabcc (rmJ8_newLength_cabcc) (kP G B0 f [.int (nI x), .int (nI y), .int (nI z)]) (kQi G B0 (fun r f1 => r = nI (x + if y < z then z else y) ∧ f1 = f)) 0 0 (kAb B0) := by
  refine kMet (cc := cJ8_newLength_cabcc) (maxL := 4) (ret := (some .int)) (by decide) rfl (Nat.le_of_ble_eq_true rfl) ?_
  intro p e s m args below meth c H locs Q ls C hX hl hr hlocks hnm hQ
  have hl : lv_has ls 4 [(0, .int (nI x)), (1, .int (nI y)), (2, .int (nI z))] := hl
  refine lv_iload_n C.x C.b dJ8_newLength_cabcc_0 rfl (lv_at hl 0 rfl) ?_
  refine lv_iload_n C.x C.b dJ8_newLength_cabcc_1 rfl (lv_at hl 1 rfl) ?_
  refine lv_iload_n C.x C.b dJ8_newLength_cabcc_2 rfl (lv_at hl 2 rfl) ?_
  refine k_mmax C (by rw [C.ml]; exact hl.1.symm) lk_J8_newLength_cabcc_lib194 (Nat.le_of_ble_eq_true rfl) (Nat.le_of_ble_eq_true rfl) (by have h9 : rmJ8_newLength_cabcc.cells = 0 := rfl; omega) (by have h9 : rmJ8_newLength_cabcc.slots = 0 := rfl; omega) dJ8_newLength_cabcc_3 ?_
  refine k_topi (y := (nI (if y < z then z else y))) (by simp only [nI_ltI (show y < 2 ^ 31 by omega) (show z < 2 ^ 31 by omega)]; split <;> rfl) ?_
  refine lv_iadd C.x C.b dJ8_newLength_cabcc_6 ?_
  refine k_topi (y := nI (x + (if y < z then z else y))) (nI_add _ _) ?_
  have hb9 : x + (if y < z then z else y) < 2000 := by split <;> omega
  refine lv_istore_n (lv' := [(3, .int (nI (x + (if y < z then z else y)))), (0, .int (nI x)), (1, .int (nI y)), (2, .int (nI z))]) C.x C.b dJ8_newLength_cabcc_7 rfl hl (by decide) rfl (fun ls hl => ?_)
  refine lv_iconst (v := nI 0) C.x C.b dJ8_newLength_cabcc_8 (by decide) ?_
  refine lv_iload_n C.x C.b dJ8_newLength_cabcc_9 rfl (lv_at hl 0 rfl) ?_
  refine lv_icmp_ge (tgt := 21) C.x C.b dJ8_newLength_cabcc_10 (by decide) (fun c_10 => ?_) (fun c_10 => ?_)
  · skip
    have c_10 : x + (if y < z then z else y) ≤ 0 := (nI_leI (by omega) (by omega)).mp c_10
    omega
  have c_10 : ¬ (x + (if y < z then z else y) ≤ 0) := fun h9 => c_10 ((nI_leI (by omega) (by omega)).mpr h9)
  refine lv_iload_n C.x C.b dJ8_newLength_cabcc_13 rfl (lv_at hl 0 rfl) ?_
  refine lv_ldc (v := nI 2147483639) C.x C.b C.ow (C.ts _ lk_J8_newLength_cabcc_c200) dJ8_newLength_cabcc_14 ?_
  refine lv_icmp_gt (tgt := 21) C.x C.b dJ8_newLength_cabcc_16 (by decide) (fun c_16 => ?_) (fun c_16 => ?_)
  · skip
    have c_16 : 2147483639 < x + (if y < z then z else y) := (nI_ltI (by omega) (by omega)).mp c_16
    omega
  have c_16 : ¬ (2147483639 < x + (if y < z then z else y)) := fun h9 => c_16 ((nI_ltI (by omega) (by omega)).mpr h9)
  refine lv_iload_n C.x C.b dJ8_newLength_cabcc_19 rfl (lv_at hl 0 rfl) ?_
  exact k_iret C hX hr hlocks hQ (by omega) (by omega) (⟨rfl, rfl⟩) dJ8_newLength_cabcc_20

theorem lk_J7_copyOf_6403c_cl110 : Cond.classLink RJ7 110 "[Ljava/lang/Object;" ∈ wsJ7_copyOf_6403c := by decide +kernel
theorem lk_J7_copyOf_6403c_cl2 : Cond.classLink RJ7 2 "java/lang/Object" ∈ wsJ7_copyOf_6403c := by decide +kernel
theorem lk_J7_copyOf_6403c_lib304 : ∀ w ∈ [Cond.methodLink RJ7 304 Lib.Math.min.name, Cond.static Lib.Math.min.name, Cond.initialized "java/lang/Math", Cond.code Lib.Math.min.name Lib.Math.min.code 2 (some .int)], w ∈ wsJ7_copyOf_6403c := by decide +kernel
theorem lk_J7_copyOf_6403c_acp150 : ∀ w ∈ [Cond.methodLink RJ7 150 arraycopyName, Cond.native arraycopyName, Cond.static arraycopyName, Cond.initialized "java/lang/System"], w ∈ wsJ7_copyOf_6403c := by decide +kernel
abbrev rmJ7_copyOf_6403c : Room := { frames := 1, cells := 1, slots := 24, locals := 40 }
set_option maxHeartbeats 4000000 in
set_option maxRecDepth 100000 in
/-- J7_copyOf_6403c -/
theorem kJ7_copyOf_6403c (l : Launch) (G : kG) (B0 : Nat) (f : kH) (h q : Nat) (cap nc : Nat) (g0 : Nat → Option Nat) (hc9 : cap ≤ nc) (hn9 : nc ≤ 24) (hE : kEl f h q g0 cap) (hM : kCs f [(q, kaO G cap g0)]) : Met l yJ7_copyOf_6403c wsJ7_copyOf_6403c (rmJ7_copyOf_6403c) (kP G B0 f [.ref q, .int (nI nc), .ref (G.2.2 2)]) (kQq G B0 (fun r f1 => ∃ q2 : Nat, r = some q2 ∧ f q2 = none ∧ kCs f1 ([(q, kaO G cap g0)] ++ [(q2, kaO G nc (fun j9 => if j9 < cap then g0 j9 else none))]) ∧ kKp [] f f1)) 1 24 (kAb B0) := by
  refine kMet (cc := cJ7_copyOf_6403c) (maxL := 4) (ret := (some (.array (.object "java/lang/Object")))) (by decide) rfl (Nat.le_of_ble_eq_true rfl) ?_
  intro p e s m args below meth c H locs Q ls C hX hl hr hlocks hnm hQ
  have hO : kKp [] f f := kKp.rf
  have hS : ∀ a ∈ ([] : List Nat), (f a).isSome := by intro a h9; cases h9
  have hl : lv_has ls 4 [(0, .ref q), (1, .int (nI nc)), (2, .ref (G.2.2 2))] := hl
  refine lv_aload_n C.x C.b dJ7_copyOf_6403c_0 rfl (lv_at hl 2 rfl) ?_
  refine k_ldcM C (C.ts _ lk_J7_copyOf_6403c_cl110) dJ7_copyOf_6403c_1 ?_
  refine lv_acmp_ne (rx := some (G.2.2 2)) (ry := some (G.2.2 2)) (tgt := 13) C.x C.b dJ7_copyOf_6403c_3 (by decide) (fun c_3 => ?_) (fun c_3 => ?_)
  · exact absurd rfl c_3
  refine lv_iload_n C.x C.b dJ7_copyOf_6403c_6 rfl (lv_at hl 1 rfl) ?_
  refine k_newq (R9 := nc) C hX (C.ts _ lk_J7_copyOf_6403c_cl2) (nI_nn (by omega)) (nI_clamp (by omega)) (by omega) (by have h9 : rmJ7_copyOf_6403c.cells = 1 := rfl; omega) (by have h9 : rmJ7_copyOf_6403c.slots = 24 := rfl; omega) dJ7_copyOf_6403c_7 (fun n1 H hn hX => ?_)
  obtain ⟨g2, hX, hM, hO, fr_n1, hS⟩ := kX.nwP hX hM hO hn hS
  have hM : kCs g2 ([(q, kaO G cap g0), (n1, kaO G nc (fun _ => none))]) := hM
  refine lv_goto (tgt := 24) C.x C.b dJ7_copyOf_6403c_10 (by decide) ?_
  refine lv_astore_n (lv' := [(3, .ref n1), (0, .ref q), (1, .int (nI nc)), (2, .ref (G.2.2 2))]) C.x C.b dJ7_copyOf_6403c_24 rfl hl (by decide) rfl (fun ls hl => ?_)
  refine lv_aload_n C.x C.b dJ7_copyOf_6403c_25 rfl (lv_at hl 1 rfl) ?_
  refine lv_iconst (v := nI 0) C.x C.b dJ7_copyOf_6403c_26 (by decide) ?_
  refine lv_aload_n C.x C.b dJ7_copyOf_6403c_27 rfl (lv_at hl 0 rfl) ?_
  refine lv_iconst (v := nI 0) C.x C.b dJ7_copyOf_6403c_28 (by decide) ?_
  refine lv_aload_n C.x C.b dJ7_copyOf_6403c_29 rfl (lv_at hl 1 rfl) ?_
  refine k_alenO C hX (hM.at 0 rfl) dJ7_copyOf_6403c_30 ?_
  refine lv_iload_n C.x C.b dJ7_copyOf_6403c_31 rfl (lv_at hl 2 rfl) ?_
  refine k_mmin C (by rw [C.ml]; exact hl.1.symm) lk_J7_copyOf_6403c_lib304 (Nat.le_of_ble_eq_true rfl) (Nat.le_of_ble_eq_true rfl) (by have h9 : rmJ7_copyOf_6403c.cells = 1 := rfl; omega) (by have h9 : rmJ7_copyOf_6403c.slots = 24 := rfl; omega) dJ7_copyOf_6403c_32 ?_
  refine k_topi (y := (nI cap)) (by simp only [nI_ltI (show nc < 2 ^ 31 by omega) (show cap < 2 ^ 31 by omega)]; rw [if_neg (by omega)]) ?_
  refine k_copyO C (by rw [C.ml]; exact hl.1.symm) hX lk_J7_copyOf_6403c_acp150 (hM.at 0 rfl) (hM.at 1 rfl) (n9 := cap) (by omega) (by omega) (by omega) ((hE.kp hO (by intro a h9; cases h9)).el) (Nat.le_of_ble_eq_true rfl) (Nat.le_of_ble_eq_true rfl) dJ7_copyOf_6403c_35 (fun H locs hX => ?_)
  obtain ⟨g3, hX, hM, hO, hS⟩ := kX.wrP hX hM hO hS 1 rfl (Or.inr fr_n1)
  have hM : kCs g3 ([(q, kaO G cap g0), (n1, kaO G nc (fun j9 => if j9 < cap then g0 j9 else none))]) := hM
  refine lv_aload_n C.x C.b dJ7_copyOf_6403c_38 rfl (lv_at hl 0 rfl) ?_
  exact k_aret (v := some n1) C hX hr (Or.inr ⟨_, rfl⟩) hlocks hQ (by omega) (by omega) (⟨n1, rfl, fr_n1, hM, hO⟩) dJ7_copyOf_6403c_39

theorem lk_J7_copyOf_1904c_gc86 : ∀ w ∈ [Cond.methodLink RJ7 86 ⟨"java/lang/Object", "getClass", "()Ljava/lang/Class;"⟩, Cond.selects "[Ljava/lang/Object;" ⟨"java/lang/Object", "getClass", "()Ljava/lang/Class;"⟩ ⟨"java/lang/Object", "getClass", "()Ljava/lang/Class;"⟩, Cond.instanceMethod ⟨"java/lang/Object", "getClass", "()Ljava/lang/Class;"⟩, Cond.native ⟨"java/lang/Object", "getClass", "()Ljava/lang/Class;"⟩], w ∈ wsJ7_copyOf_1904c := by decide +kernel
theorem hdJ7_copyOf_1904c_J7_copyOf_6403c : yJ7_copyOf_6403c.cls ≠ "java/lang/invoke/MethodHandle" ∧ yJ7_copyOf_6403c.cls ≠ "java/lang/invoke/VarHandle" ∧ (parseMethodDescriptor yJ7_copyOf_6403c.desc).map (fun d => d.parameters.length) = some 3 := by decide +kernel
abbrev rmJ7_copyOf_1904c : Room := { frames := 2, cells := 1, slots := 24, locals := 63 }
set_option maxHeartbeats 4000000 in
set_option maxRecDepth 100000 in
/-- J7_copyOf_1904c -/
theorem kJ7_copyOf_1904c (l : Launch) (G : kG) (B0 : Nat) (f : kH) (h q : Nat) (cap nc : Nat) (g0 : Nat → Option Nat) (hc9 : cap ≤ nc) (hn9 : nc ≤ 24) (hE : kEl f h q g0 cap) (hM : kCs f [(q, kaO G cap g0)]) : Met l yJ7_copyOf_1904c wsJ7_copyOf_1904c (rmJ7_copyOf_1904c) (kP G B0 f [.ref q, .int (nI nc)]) (kQq G B0 (fun r f1 => ∃ q2 : Nat, r = some q2 ∧ f q2 = none ∧ kCs f1 ([(q, kaO G cap g0)] ++ [(q2, kaO G nc (fun j9 => if j9 < cap then g0 j9 else none))]) ∧ kKp [] f f1)) 1 24 (kAb B0) := by
  refine kMet (cc := cJ7_copyOf_1904c) (maxL := 2) (ret := (some (.array (.object "java/lang/Object")))) (by decide) rfl (Nat.le_of_ble_eq_true rfl) ?_
  intro p e s m args below meth c H locs Q ls C hX hl hr hlocks hnm hQ
  have hO : kKp [] f f := kKp.rf
  have hS : ∀ a ∈ ([] : List Nat), (f a).isSome := by intro a h9; cases h9
  have hl : lv_has ls 2 [(0, .ref q), (1, .int (nI nc))] := hl
  refine lv_aload_n C.x C.b dJ7_copyOf_1904c_0 rfl (lv_at hl 0 rfl) ?_
  refine lv_iload_n C.x C.b dJ7_copyOf_1904c_1 rfl (lv_at hl 1 rfl) ?_
  refine lv_aload_n C.x C.b dJ7_copyOf_1904c_2 rfl (lv_at hl 0 rfl) ?_
  refine k_getC C (by rw [C.ml]; exact hl.1.symm) hX lk_J7_copyOf_1904c_gc86 (hM.at 0 rfl) (Nat.le_of_ble_eq_true rfl) (Nat.le_of_ble_eq_true rfl) dJ7_copyOf_1904c_3 ?_
  refine k_callq (va_runS (As := [.ref q, .int (nI nc), .ref (G.2.2 2)]) (rest := []) C.1 (kJ7_copyOf_6403c l G B0 f h q cap nc g0 hc9 hn9 hE hM) (va_cwS 3 C.ts gJ7_copyOf_1904c_J7_copyOf_6403c rfl rfl rfl (hdJ7_copyOf_1904c_J7_copyOf_6403c) ⟨Nat.le_of_ble_eq_true rfl, Nat.le_of_ble_eq_true rfl⟩) (k_preS C hX) rfl rfl hl.1 rfl (lv_room (Nat.le_of_ble_eq_true rfl)) dJ7_copyOf_1904c_6 ⟨Nat.le_of_ble_eq_true rfl, Nat.le_of_ble_eq_true rfl⟩) hX (fun r6 f6 H locs hp6 hX => ?_)
  obtain ⟨q6, hr6, hn6, hM9, hO9⟩ := hp6
  have fr_q6 : f q6 = none := hO.fr hS hn6
  have hM : kCs f6 ([(q, kaO G cap g0), (q6, kaO G nc (fun j9 => if j9 < cap then g0 j9 else none))]) := hM.subg hM9 hO9 hn6 [0] (by simp) ⟨rfl, trivial⟩
  have hO := hO.then (hO9) (by intro a h9; cases h9)
  have hS : ∀ a ∈ ([] : List Nat), (f6 a).isSome := by intro a h9; cases h9
  refine k_topq (v := q6) hr6 ?_
  exact k_aret (v := some q6) C hX hr (Or.inr ⟨_, rfl⟩) hlocks hQ (by omega) (by omega) (⟨q6, rfl, fr_q6, hM, hO⟩) dJ7_copyOf_1904c_9

theorem hdJx4a65c_grow_92f84_J8_newLength_cabcc : yJ8_newLength_cabcc.cls ≠ "java/lang/invoke/MethodHandle" ∧ yJ8_newLength_cabcc.cls ≠ "java/lang/invoke/VarHandle" ∧ (parseMethodDescriptor yJ8_newLength_cabcc.desc).map (fun d => d.parameters.length) = some 3 := by decide +kernel
theorem hdJx4a65c_grow_92f84_J7_copyOf_1904c : yJ7_copyOf_1904c.cls ≠ "java/lang/invoke/MethodHandle" ∧ yJ7_copyOf_1904c.cls ≠ "java/lang/invoke/VarHandle" ∧ (parseMethodDescriptor yJ7_copyOf_1904c.desc).map (fun d => d.parameters.length) = some 2 := by decide +kernel
abbrev rmJx4a65c_grow_92f84_g : Room := { frames := 3, cells := 1, slots := 24, locals := 84 }
set_option maxHeartbeats 4000000 in
set_option maxRecDepth 100000 in
/-- Jx4a65c_grow_92f84_g -/
theorem kJx4a65c_grow_92f84_g (l : Launch) (G : kG) (B0 : Nat) (f : kH) (h q : Nat) (mc : Int32) (cap : Nat) (g0 : Nat → Option Nat) (hc2 : 2 ≤ cap) (hc9 : cap ≤ 16) (hE : kEl f h q g0 cap) (hM : kCs f [(h, .inr (0, [.int mc, .ref q, .int (nI cap)])), (q, kaO G cap g0)]) : Met l yJx4a65c_grow_92f84 wsJx4a65c_grow_92f84 (rmJx4a65c_grow_92f84_g) (kP G B0 f [.ref h, .int (nI (cap + 1))]) (kQq G B0 (fun r f1 => ∃ q2 : Nat, r = some q2 ∧ f q2 = none ∧ kCs f1 ([(h, .inr (0, [.int mc, .ref q2, .int (nI cap)])), (q, kaO G cap g0)] ++ [(q2, kaO G (cap + cap / 2) (fun j9 => if j9 < cap then g0 j9 else none))]) ∧ kKp [h] f f1)) 1 24 (kAb B0) := by
  refine kMet (cc := cJx4a65c_grow_92f84) (maxL := 4) (ret := (some (.array (.object "java/lang/Object")))) (by decide) rfl (Nat.le_of_ble_eq_true rfl) ?_
  intro p e s m args below meth c H locs Q ls C hX hl hr hlocks hnm hQ
  have hO : kKp [h] f f := kKp.rf
  have hS : ∀ a ∈ [h], (f a).isSome := by
    intro a h9
    simp only [List.mem_cons, List.not_mem_nil, or_false] at h9
    rcases h9 with rfl
    · rw [hM.at 0 rfl]; rfl
  have hl : lv_has ls 4 [(0, .ref h), (1, .int (nI (cap + 1)))] := hl
  refine lv_aload_n C.x C.b dJx4a65c_grow_92f84_0 rfl (lv_at hl 0 rfl) ?_
  refine k_get (X := RJx4a65c) (T := TJx4a65c) (N := 3) (v := .ref q) C hX (hM.at 0 rfl) rfl hin_Jx4a65c_grow_92f84_RJx4a65c 1 (by decide) lk_Jx4a65c_grow_92f84_f9 (fun _ h9 => h9) rfl dJx4a65c_grow_92f84_1 ?_
  refine k_alenO C hX (hM.at 1 rfl) dJx4a65c_grow_92f84_4 ?_
  refine lv_istore_n (lv' := [(2, .int (nI cap)), (0, .ref h), (1, .int (nI (cap + 1)))]) C.x C.b dJx4a65c_grow_92f84_5 rfl hl (by decide) rfl (fun ls hl => ?_)
  refine lv_iload_n C.x C.b dJx4a65c_grow_92f84_6 rfl (lv_at hl 0 rfl) ?_
  refine lv_if_gt (tgt := 20) C.x C.b dJx4a65c_grow_92f84_7 (by decide) (fun c_7 => ?_) (fun c_7 => ?_)
  · skip
    have c_7 : 0 < cap := (nI_ltI (a := 0) (by omega) (by omega)).mp c_7
    refine lv_iload_n C.x C.b dJx4a65c_grow_92f84_20 rfl (lv_at hl 0 rfl) ?_
    refine lv_iload_n C.x C.b dJx4a65c_grow_92f84_21 rfl (lv_at hl 2 rfl) ?_
    refine lv_iload_n C.x C.b dJx4a65c_grow_92f84_22 rfl (lv_at hl 0 rfl) ?_
    refine lv_isub C.x C.b dJx4a65c_grow_92f84_23 ?_
    refine k_topi (y := (nI 1)) ((pk_sub (by omega)).trans (congrArg nI (by omega))) ?_
    refine lv_iload_n C.x C.b dJx4a65c_grow_92f84_24 rfl (lv_at hl 0 rfl) ?_
    refine lv_iconst (v := nI 1) C.x C.b dJx4a65c_grow_92f84_25 (by decide) ?_
    refine lv_ishr C.x C.b dJx4a65c_grow_92f84_26 ?_
    refine k_topi (y := (nI (cap / 2))) (k_half _ (by omega)) ?_
    refine k_calli (va_runS (As := [.int (nI cap), .int (nI 1), .int (nI (cap / 2))]) (rest := []) C.1 (kJ8_newLength_cabcc l G B0 f cap 1 (cap / 2) (by omega) (by omega) (by omega) (by omega)) (va_cwS 3 C.ts gJx4a65c_grow_92f84_J8_newLength_cabcc rfl rfl rfl (hdJx4a65c_grow_92f84_J8_newLength_cabcc) ⟨Nat.le_of_ble_eq_true rfl, Nat.le_of_ble_eq_true rfl⟩) (k_preS C hX) rfl rfl hl.1 rfl (lv_room (Nat.le_of_ble_eq_true rfl)) dJx4a65c_grow_92f84_27 ⟨Nat.le_of_ble_eq_true rfl, Nat.le_of_ble_eq_true rfl⟩) hX (fun r27 f27 H locs hp27 hX => ?_)
    obtain ⟨hr27, hf27⟩ := hp27
    rw [hf27] at hX
    refine k_topi (y := (nI (cap + if 1 < cap / 2 then cap / 2 else 1))) hr27 ?_
    refine k_topi (y := (nI (cap + cap / 2))) (congrArg nI (by split <;> omega)) ?_
    refine lv_istore_n (lv' := [(3, .int (nI (cap + cap / 2))), (2, .int (nI cap)), (0, .ref h), (1, .int (nI (cap + 1)))]) C.x C.b dJx4a65c_grow_92f84_30 rfl hl (by decide) rfl (fun ls hl => ?_)
    refine lv_aload_n C.x C.b dJx4a65c_grow_92f84_31 rfl (lv_at hl 2 rfl) ?_
    refine lv_aload_n C.x C.b dJx4a65c_grow_92f84_32 rfl (lv_at hl 2 rfl) ?_
    refine k_get (X := RJx4a65c) (T := TJx4a65c) (N := 3) (v := .ref q) C hX (hM.at 0 rfl) rfl hin_Jx4a65c_grow_92f84_RJx4a65c 1 (by decide) lk_Jx4a65c_grow_92f84_f9 (fun _ h9 => h9) rfl dJx4a65c_grow_92f84_33 ?_
    refine lv_iload_n C.x C.b dJx4a65c_grow_92f84_36 rfl (lv_at hl 0 rfl) ?_
    have hM9 : kCs f ([(q, kaO G cap g0)]) := hM.pick [1] (by decide) ⟨rfl, trivial⟩
    refine k_callq (va_runS (As := [.ref q, .int (nI (cap + cap / 2))]) (rest := [.ref h]) C.1 (kJ7_copyOf_1904c l G B0 f h q cap (cap + cap / 2) g0 (by omega) (by omega) (hE.kp hO (by intro a h9; exact Or.inl (List.mem_singleton.mp h9))) hM9) (va_cwS 2 C.ts gJx4a65c_grow_92f84_J7_copyOf_1904c rfl rfl rfl (hdJx4a65c_grow_92f84_J7_copyOf_1904c) ⟨Nat.le_of_ble_eq_true rfl, Nat.le_of_ble_eq_true rfl⟩) (k_preS C hX) rfl rfl hl.1 rfl (lv_room (Nat.le_of_ble_eq_true rfl)) dJx4a65c_grow_92f84_37 ⟨Nat.le_of_ble_eq_true rfl, Nat.le_of_ble_eq_true rfl⟩) hX (fun r37 f37 H locs hp37 hX => ?_)
    obtain ⟨q37, hr37, hn37, hM9, hO9⟩ := hp37
    have fr_q37 : f q37 = none := hO.fr hS hn37
    have hM : kCs f37 ([(h, .inr (0, [.int mc, .ref q, .int (nI cap)])), (q, kaO G cap g0), (q37, kaO G (cap + cap / 2) (fun j9 => if j9 < cap then g0 j9 else none))]) := hM.subg hM9 hO9 hn37 [1] (by simp) ⟨rfl, trivial⟩
    have hO := hO.then (hO9) (by intro a h9; cases h9)
    have hS : ∀ a ∈ [h], (f37 a).isSome := by
      intro a h9
      simp only [List.mem_cons, List.not_mem_nil, or_false] at h9
      rcases h9 with rfl
      · rw [hM.at 0 rfl]; rfl
    refine k_topq (v := q37) hr37 ?_
    refine lv_dup_x1 C.x C.b dJx4a65c_grow_92f84_40 rfl rfl ?_
    refine k_put (X := RJx4a65c) (T := TJx4a65c) (N := 3) (ty := .array (.object "java/lang/Object")) (v := .ref q37) C hX (hM.at 0 rfl) rfl hin_Jx4a65c_grow_92f84_RJx4a65c tyJx4a65c_ok nmJx4a65c 1 (by decide) lk_Jx4a65c_grow_92f84_f9 (fun _ h9 => h9) rfl (by decide +kernel) rfl rfl (Nat.le_of_ble_eq_true rfl) dJx4a65c_grow_92f84_41 (fun H locs hX => ?_)
    obtain ⟨g1, hX, hM, hO, hS⟩ := kX.wrP hX hM hO hS 0 rfl (Or.inl (by simp))
    have hM : kCs g1 ([(h, .inr (0, [.int mc, .ref q37, .int (nI cap)])), (q, kaO G cap g0), (q37, kaO G (cap + cap / 2) (fun j9 => if j9 < cap then g0 j9 else none))]) := hM
    exact k_aret (v := some q37) C hX hr (Or.inr ⟨_, rfl⟩) hlocks hQ (by omega) (by omega) (⟨q37, rfl, fr_q37, hM, hO⟩) dJx4a65c_grow_92f84_44
  · skip
    have c_7 : cap = 0 := Nat.le_zero.mp (Nat.not_lt.mp (fun h9 => c_7 ((nI_ltI (a := 0) (by omega) (by omega)).mpr h9)))
    omega

abbrev rmJx4a65c_grow_d5877_g : Room := { frames := 4, cells := 1, slots := 24, locals := 107 }
set_option maxHeartbeats 4000000 in
set_option maxRecDepth 100000 in
/-- Jx4a65c_grow_d5877_g -/
theorem kJx4a65c_grow_d5877_g (l : Launch) (G : kG) (B0 : Nat) (f : kH) (h q : Nat) (mc : Int32) (cap : Nat) (g0 : Nat → Option Nat) (hc2 : 2 ≤ cap) (hc9 : cap ≤ 16) (hE : kEl f h q g0 cap) (hM : kCs f [(h, .inr (0, [.int mc, .ref q, .int (nI cap)])), (q, kaO G cap g0)]) : Met l yJx4a65c_grow_d5877 wsJx4a65c_grow_d5877 (rmJx4a65c_grow_d5877_g) (kP G B0 f [.ref h]) (kQq G B0 (fun r f1 => ∃ q2 : Nat, r = some q2 ∧ f q2 = none ∧ kCs f1 ([(h, .inr (0, [.int mc, .ref q2, .int (nI cap)])), (q, kaO G cap g0)] ++ [(q2, kaO G (cap + cap / 2) (fun j9 => if j9 < cap then g0 j9 else none))]) ∧ kKp [h] f f1)) 1 24 (kAb B0) := by
  refine kMet (cc := cJx4a65c_grow_d5877) (maxL := 1) (ret := (some (.array (.object "java/lang/Object")))) (by decide) rfl (Nat.le_of_ble_eq_true rfl) ?_
  intro p e s m args below meth c H locs Q ls C hX hl hr hlocks hnm hQ
  have hO : kKp [h] f f := kKp.rf
  have hS : ∀ a ∈ [h], (f a).isSome := by
    intro a h9
    simp only [List.mem_cons, List.not_mem_nil, or_false] at h9
    rcases h9 with rfl
    · rw [hM.at 0 rfl]; rfl
  have hl : lv_has ls 1 [(0, .ref h)] := hl
  refine lv_aload_n C.x C.b dJx4a65c_grow_d5877_0 rfl (lv_at hl 0 rfl) ?_
  refine lv_aload_n C.x C.b dJx4a65c_grow_d5877_1 rfl (lv_at hl 0 rfl) ?_
  refine k_get (X := RJx4a65c) (T := TJx4a65c) (N := 3) (v := .int (nI cap)) C hX (hM.at 0 rfl) rfl hin_Jx4a65c_grow_d5877_RJx4a65c 2 (by decide) lk_Jx4a65c_grow_d5877_f48 (fun _ h9 => h9) rfl dJx4a65c_grow_d5877_2 ?_
  refine lv_iconst (v := nI 1) C.x C.b dJx4a65c_grow_d5877_5 (by decide) ?_
  refine lv_iadd C.x C.b dJx4a65c_grow_d5877_6 ?_
  refine k_topi (y := nI (cap + 1)) (nI_add _ _) ?_
  refine k_callq (va_runV (As := [.int (nI (cap + 1))]) (rest := []) C.1 (kJx4a65c_grow_92f84_g l G B0 f h q mc cap g0 hc2 hc9 hE hM) (cwV 1 C.ts gJx4a65c_grow_d5877_Jx4a65c_grow_92f84 rfl rfl rfl ⟨rfl, hdJx4a65c_grow_d5877_Jx4a65c_grow_92f84⟩ ⟨Nat.le_of_ble_eq_true rfl, Nat.le_of_ble_eq_true rfl⟩) (k_preV C hX (hM.at 0 rfl) rfl) rfl rfl hl.1 rfl (lv_room (Nat.le_of_ble_eq_true rfl)) dJx4a65c_grow_d5877_7 ⟨Nat.le_of_ble_eq_true rfl, Nat.le_of_ble_eq_true rfl⟩) hX (fun r7 f7 H locs hp7 hX => ?_)
  obtain ⟨q7, hr7, hn7, hM9, hO9⟩ := hp7
  have fr_q7 : f q7 = none := hO.fr hS hn7
  have hM : kCs f7 ([(h, .inr (0, [.int mc, .ref q7, .int (nI cap)])), (q, kaO G cap g0), (q7, kaO G (cap + cap / 2) (fun j9 => if j9 < cap then g0 j9 else none))]) := hM.subg hM9 hO9 hn7 [0, 1] (by simp) ⟨rfl, rfl, trivial⟩
  have hO := hO.then (hO9) (by
      intro a h9
      simp only [List.mem_cons, List.not_mem_nil, or_false] at h9
      rcases h9 with rfl
      · exact Or.inl (by simp))
  have hS : ∀ a ∈ [h], (f7 a).isSome := by
    intro a h9
    simp only [List.mem_cons, List.not_mem_nil, or_false] at h9
    rcases h9 with rfl
    · rw [hM.at 0 rfl]; rfl
  refine k_topq (v := q7) hr7 ?_
  exact k_aret (v := some q7) C hX hr (Or.inr ⟨_, rfl⟩) hlocks hQ (by omega) (by omega) (⟨q7, rfl, fr_q7, hM, hO⟩) dJx4a65c_grow_d5877_10

abbrev rmJx4a65c_add_72be8_g : Room := { frames := 5, cells := 1, slots := 24, locals := 127 }
set_option maxHeartbeats 4000000 in
set_option maxRecDepth 100000 in
/-- Jx4a65c_add_72be8_g -/
theorem kJx4a65c_add_72be8_g (l : Launch) (G : kG) (B0 : Nat) (f : kH) (h q : Nat) (mc : Int32) (cap : Nat) (g0 : Nat → Option Nat) (hc2 : 2 ≤ cap) (hc9 : cap ≤ 16) (hE : kEl f h q g0 cap)  (w cw : Nat) (vs : List Value) (rw9 : vw_C) (hcw : vwCl[cw]? = some rw9) (hcas : rw9.1 ∈ kCas) (hM : kCs f [(h, .inr (0, [.int mc, .ref q, .int (nI cap)])), (q, kaO G cap g0), (w, .inr (cw, vs))]) : Met l yJx4a65c_add_72be8 wsJx4a65c_add_72be8 (rmJx4a65c_add_72be8_g) (kP G B0 f [.ref h, .ref w, .ref q, .int (nI cap)]) (kQv G B0 (fun f1 => ∃ q2 : Nat, f q2 = none ∧ kCs f1 ([(h, .inr (0, [.int mc, .ref q2, .int (nI (cap + 1))])), (q, kaO G cap g0), (w, .inr (cw, vs))] ++ [(q2, kaO G (cap + cap / 2) (va_up (fun j9 => if j9 < cap then g0 j9 else none) cap (some w)))]) ∧ kKp [h] f f1)) 1 24 (kAb B0) := by
  refine kMet (cc := cJx4a65c_add_72be8) (maxL := 4) (ret := none) (by decide) rfl (Nat.le_of_ble_eq_true rfl) ?_
  intro p e s m args below meth c H locs Q ls C hX hl hr hlocks hnm hQ
  have hO : kKp [h] f f := kKp.rf
  have hS : ∀ a ∈ [h], (f a).isSome := by
    intro a h9
    simp only [List.mem_cons, List.not_mem_nil, or_false] at h9
    rcases h9 with rfl
    · rw [hM.at 0 rfl]; rfl
  have hl : lv_has ls 4 [(0, .ref h), (1, .ref w), (2, .ref q), (3, .int (nI cap))] := hl
  refine lv_iload_n C.x C.b dJx4a65c_add_72be8_0 rfl (lv_at hl 3 rfl) ?_
  refine lv_aload_n C.x C.b dJx4a65c_add_72be8_1 rfl (lv_at hl 2 rfl) ?_
  refine k_alenO C hX (hM.at 1 rfl) dJx4a65c_add_72be8_2 ?_
  refine lv_icmp_ne (tgt := 11) C.x C.b dJx4a65c_add_72be8_3 (by decide) (fun c_3 => ?_) (fun c_3 => ?_)
  · skip
    have c_3 : ¬ (cap = cap) := fun h9 => c_3 ((nI_eq (by omega) (by omega)).mpr h9)
    omega
  have c_3 : cap = cap := (nI_eq (by omega) (by omega)).mp c_3
  refine lv_aload_n C.x C.b dJx4a65c_add_72be8_6 rfl (lv_at hl 0 rfl) ?_
  have hM9 : kCs f ([(h, .inr (0, [.int mc, .ref q, .int (nI cap)])), (q, kaO G cap g0)]) := hM.pick [0, 1] (by decide) ⟨rfl, rfl, trivial⟩
  refine k_callq (va_runV (As := []) (rest := []) C.1 (kJx4a65c_grow_d5877_g l G B0 f h q mc cap g0 hc2 hc9 hE hM9) (cwV 0 C.ts gJx4a65c_add_72be8_Jx4a65c_grow_d5877 rfl rfl rfl ⟨rfl, hdJx4a65c_add_72be8_Jx4a65c_grow_d5877⟩ ⟨Nat.le_of_ble_eq_true rfl, Nat.le_of_ble_eq_true rfl⟩) (k_preV C hX (hM.at 0 rfl) rfl) rfl rfl hl.1 rfl (lv_room (Nat.le_of_ble_eq_true rfl)) dJx4a65c_add_72be8_7 ⟨Nat.le_of_ble_eq_true rfl, Nat.le_of_ble_eq_true rfl⟩) hX (fun r7 f7 H locs hp7 hX => ?_)
  obtain ⟨q7, hr7, hn7, hM9, hO9⟩ := hp7
  have fr_q7 : f q7 = none := hO.fr hS hn7
  have hM : kCs f7 ([(h, .inr (0, [.int mc, .ref q7, .int (nI cap)])), (q, kaO G cap g0), (w, .inr (cw, vs)), (q7, kaO G (cap + cap / 2) (fun j9 => if j9 < cap then g0 j9 else none))]) := hM.subg hM9 hO9 hn7 [0, 1] (by simp) ⟨rfl, rfl, trivial⟩
  have hO := hO.then (hO9) (by
      intro a h9
      simp only [List.mem_cons, List.not_mem_nil, or_false] at h9
      rcases h9 with rfl
      · exact Or.inl (by simp))
  have hS : ∀ a ∈ [h], (f7 a).isSome := by
    intro a h9
    simp only [List.mem_cons, List.not_mem_nil, or_false] at h9
    rcases h9 with rfl
    · rw [hM.at 0 rfl]; rfl
  refine k_topq (v := q7) hr7 ?_
  refine lv_astore_n (lv' := [(2, .ref q7), (0, .ref h), (1, .ref w), (3, .int (nI cap))]) C.x C.b dJx4a65c_add_72be8_10 rfl hl (by decide) rfl (fun ls hl => ?_)
  refine lv_aload_n C.x C.b dJx4a65c_add_72be8_11 rfl (lv_at hl 0 rfl) ?_
  refine lv_iload_n C.x C.b dJx4a65c_add_72be8_12 rfl (lv_at hl 3 rfl) ?_
  refine lv_aload_n C.x C.b dJx4a65c_add_72be8_13 rfl (lv_at hl 2 rfl) ?_
  refine k_aast C hX (hM.at 3 rfl) (hM.at 2 rfl) hcw hcas (vp_in_nI (by omega) (by omega)) dJx4a65c_add_72be8_14 (fun H locs hX => ?_)
  rw [nI_clamp (by omega)] at hX
  obtain ⟨g1, hX, hM, hO, hS⟩ := kX.wrP hX hM hO hS 3 rfl (Or.inr fr_q7)
  have hM : kCs g1 ([(h, .inr (0, [.int mc, .ref q7, .int (nI cap)])), (q, kaO G cap g0), (w, .inr (cw, vs)), (q7, kaO G (cap + cap / 2) (va_up (fun j9 => if j9 < cap then g0 j9 else none) cap (some w)))]) := hM
  refine lv_aload_n C.x C.b dJx4a65c_add_72be8_15 rfl (lv_at hl 1 rfl) ?_
  refine lv_iload_n C.x C.b dJx4a65c_add_72be8_16 rfl (lv_at hl 3 rfl) ?_
  refine lv_iconst (v := nI 1) C.x C.b dJx4a65c_add_72be8_17 (by decide) ?_
  refine lv_iadd C.x C.b dJx4a65c_add_72be8_18 ?_
  refine k_topi (y := nI (cap + 1)) (nI_add _ _) ?_
  refine k_put (X := RJx4a65c) (T := TJx4a65c) (N := 3) (ty := .int) (v := .int (nI (cap + 1))) C hX (hM.at 0 rfl) rfl hin_Jx4a65c_add_72be8_RJx4a65c tyJx4a65c_ok nmJx4a65c 2 (by decide) lk_Jx4a65c_add_72be8_f48 (fun _ h9 => h9) rfl (by decide +kernel) rfl rfl (Nat.le_of_ble_eq_true rfl) dJx4a65c_add_72be8_19 (fun H locs hX => ?_)
  obtain ⟨g2, hX, hM, hO, hS⟩ := kX.wrP hX hM hO hS 0 rfl (Or.inl (by simp))
  have hM : kCs g2 ([(h, .inr (0, [.int mc, .ref q7, .int (nI (cap + 1))])), (q, kaO G cap g0), (w, .inr (cw, vs)), (q7, kaO G (cap + cap / 2) (va_up (fun j9 => if j9 < cap then g0 j9 else none) cap (some w)))]) := hM
  exact k_vret C hX hr hlocks hQ (by omega) (by omega) (⟨q7, fr_q7, hM, hO⟩) dJx4a65c_add_72be8_22

abbrev rmJx4a65c_add_9ea2d_g : Room := { frames := 6, cells := 1, slots := 24, locals := 150 }
set_option maxHeartbeats 4000000 in
set_option maxRecDepth 100000 in
/-- Jx4a65c_add_9ea2d_g -/
theorem kJx4a65c_add_9ea2d_g (l : Launch) (G : kG) (B0 : Nat) (f : kH) (h q : Nat) (mc : Int32) (cap : Nat) (g0 : Nat → Option Nat) (hc2 : 2 ≤ cap) (hc9 : cap ≤ 16) (hE : kEl f h q g0 cap)  (w cw : Nat) (vs : List Value) (rw9 : vw_C) (hcw : vwCl[cw]? = some rw9) (hcas : rw9.1 ∈ kCas) (hM : kCs f [(h, .inr (0, [.int mc, .ref q, .int (nI cap)])), (q, kaO G cap g0), (w, .inr (cw, vs))]) : Met l yJx4a65c_add_9ea2d wsJx4a65c_add_9ea2d (rmJx4a65c_add_9ea2d_g) (kP G B0 f [.ref h, .ref w]) (kQi G B0 (fun r f1 => ∃ q2 : Nat, r = nI 1 ∧ f q2 = none ∧ kCs f1 ([(h, .inr (0, [.int (mc + nI 1), .ref q2, .int (nI (cap + 1))])), (q, kaO G cap g0), (w, .inr (cw, vs))] ++ [(q2, kaO G (cap + cap / 2) (va_up (fun j9 => if j9 < cap then g0 j9 else none) cap (some w)))]) ∧ kKp [h] f f1)) 1 24 (kAb B0) := by
  refine kMet (cc := cJx4a65c_add_9ea2d) (maxL := 2) (ret := (some .boolean)) (by decide) rfl (Nat.le_of_ble_eq_true rfl) ?_
  intro p e s m args below meth c H locs Q ls C hX hl hr hlocks hnm hQ
  have hO : kKp [h] f f := kKp.rf
  have hS : ∀ a ∈ [h], (f a).isSome := by
    intro a h9
    simp only [List.mem_cons, List.not_mem_nil, or_false] at h9
    rcases h9 with rfl
    · rw [hM.at 0 rfl]; rfl
  have hl : lv_has ls 2 [(0, .ref h), (1, .ref w)] := hl
  refine lv_aload_n C.x C.b dJx4a65c_add_9ea2d_0 rfl (lv_at hl 0 rfl) ?_
  refine lv_dup C.x C.b dJx4a65c_add_9ea2d_1 rfl ?_
  refine k_get (X := RJx4a65c) (T := TJx4a65c) (N := 3) (v := .int mc) C hX (hM.at 0 rfl) rfl hin_Jx4a65c_add_9ea2d_RJx4a65c 0 (by decide) lk_Jx4a65c_add_9ea2d_f63 (u_same (C.ts _ lk_Jx4a65c_add_9ea2d_sfmodCount)) rfl dJx4a65c_add_9ea2d_2 ?_
  refine lv_iconst (v := nI 1) C.x C.b dJx4a65c_add_9ea2d_5 (by decide) ?_
  refine lv_iadd C.x C.b dJx4a65c_add_9ea2d_6 ?_
  refine k_put (X := RJx4a65c) (T := TJx4a65c) (N := 3) (ty := .int) (v := .int (mc + (nI 1))) C hX (hM.at 0 rfl) rfl hin_Jx4a65c_add_9ea2d_RJx4a65c tyJx4a65c_ok nmJx4a65c 0 (by decide) lk_Jx4a65c_add_9ea2d_f63 (u_same (C.ts _ lk_Jx4a65c_add_9ea2d_sfmodCount)) rfl (by decide +kernel) rfl rfl (Nat.le_of_ble_eq_true rfl) dJx4a65c_add_9ea2d_7 (fun H locs hX => ?_)
  obtain ⟨g1, hX, hM, hO, hS⟩ := kX.wrP hX hM hO hS 0 rfl (Or.inl (by simp))
  have hM : kCs g1 ([(h, .inr (0, [.int (mc + (nI 1)), .ref q, .int (nI cap)])), (q, kaO G cap g0), (w, .inr (cw, vs))]) := hM
  refine lv_aload_n C.x C.b dJx4a65c_add_9ea2d_10 rfl (lv_at hl 0 rfl) ?_
  refine lv_aload_n C.x C.b dJx4a65c_add_9ea2d_11 rfl (lv_at hl 1 rfl) ?_
  refine lv_aload_n C.x C.b dJx4a65c_add_9ea2d_12 rfl (lv_at hl 0 rfl) ?_
  refine k_get (X := RJx4a65c) (T := TJx4a65c) (N := 3) (v := .ref q) C hX (hM.at 0 rfl) rfl hin_Jx4a65c_add_9ea2d_RJx4a65c 1 (by decide) lk_Jx4a65c_add_9ea2d_f9 (fun _ h9 => h9) rfl dJx4a65c_add_9ea2d_13 ?_
  refine lv_aload_n C.x C.b dJx4a65c_add_9ea2d_16 rfl (lv_at hl 0 rfl) ?_
  refine k_get (X := RJx4a65c) (T := TJx4a65c) (N := 3) (v := .int (nI cap)) C hX (hM.at 0 rfl) rfl hin_Jx4a65c_add_9ea2d_RJx4a65c 2 (by decide) lk_Jx4a65c_add_9ea2d_f48 (fun _ h9 => h9) rfl dJx4a65c_add_9ea2d_17 ?_
  refine k_callv (va_runV (As := [.ref w, .ref q, .int (nI cap)]) (rest := []) C.1 (kJx4a65c_add_72be8_g l G B0 g1 h q (mc + nI 1) cap g0 hc2 hc9 (hE.kp hO (by intro a h9; exact Or.inl (List.mem_singleton.mp h9))) w cw vs rw9 hcw hcas hM) (cwV 3 C.ts gJx4a65c_add_9ea2d_Jx4a65c_add_72be8 rfl rfl rfl ⟨rfl, hdJx4a65c_add_9ea2d_Jx4a65c_add_72be8⟩ ⟨Nat.le_of_ble_eq_true rfl, Nat.le_of_ble_eq_true rfl⟩) (k_preV C hX (hM.at 0 rfl) rfl) rfl rfl hl.1 rfl (lv_room (Nat.le_of_ble_eq_true rfl)) dJx4a65c_add_9ea2d_20 ⟨Nat.le_of_ble_eq_true rfl, Nat.le_of_ble_eq_true rfl⟩) hX (fun f20 H locs hp20 hX => ?_)
  obtain ⟨q20, hn20, hM9, hO9⟩ := hp20
  have fr_q20 : f q20 = none := hO.fr hS hn20
  have hM : kCs f20 ([(h, .inr (0, [.int (mc + nI 1), .ref q20, .int (nI (cap + 1))])), (q, kaO G cap g0), (w, .inr (cw, vs)), (q20, kaO G (cap + cap / 2) (va_up (fun j9 => if j9 < cap then g0 j9 else none) cap (some w)))]) := hM.subg hM9 hO9 hn20 [0, 1, 2] (by simp) ⟨rfl, rfl, rfl, trivial⟩
  have hO := hO.then (hO9) (by
      intro a h9
      simp only [List.mem_cons, List.not_mem_nil, or_false] at h9
      rcases h9 with rfl
      · exact Or.inl (by simp))
  have hS : ∀ a ∈ [h], (f20 a).isSome := by
    intro a h9
    simp only [List.mem_cons, List.not_mem_nil, or_false] at h9
    rcases h9 with rfl
    · rw [hM.at 0 rfl]; rfl
  refine lv_iconst (v := nI 1) C.x C.b dJx4a65c_add_9ea2d_23 (by decide) ?_
  exact k_zret C hX hr hlocks hQ (by omega) (by omega) (by first | exact kbI_01 _ | exact Or.inl rfl | exact Or.inr rfl) (⟨q20, rfl, fr_q20, hM, hO⟩) dJx4a65c_add_9ea2d_24
