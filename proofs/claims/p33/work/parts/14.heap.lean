/-! what lay elsewhere still lies there; what is new may lie anywhere that was free -/
def kKp (as : List Nat) (f f1 : kH) : Prop := ∀ a e, a ∉ as → f a = some e → f1 a = some e
theorem kKp.rf {as : List Nat} {f : kH} : kKp as f f := fun _ _ _ h => h
theorem kKp.of {as : List Nat} {f f1 : kH} (h : kOff as f f1) : kKp as f f1 := fun a e ha h0 => by rw [h a ha]; exact h0
theorem kKp.then {as bs : List Nat} {f0 f f1 : kH} (hO : kKp as f0 f) (h1 : kKp bs f f1) (ha : ∀ a ∈ bs, a ∈ as ∨ f0 a = none) : kKp as f0 f1 := fun b e hb h0 => by
  refine h1 b e (fun z => ?_) (hO b e hb h0)
  rcases ha b z with q | q
  · exact hb q
  · rw [q] at h0; cases h0
theorem kKp.thenO {as bs : List Nat} {f0 f f1 : kH} (hO : kKp as f0 f) (h1 : kOff bs f f1) (ha : ∀ a ∈ bs, a ∈ as ∨ f0 a = none) : kKp as f0 f1 := hO.then (kKp.of h1) ha
theorem kKp.mono {as bs : List Nat} {f f1 : kH} (h : kKp as f f1) (hs : ∀ a ∈ as, a ∈ bs) : kKp bs f f1 := fun a e ha h0 => h a e (fun q => ha (hs a q)) h0
theorem kX.nwP {G : kG} {B0 : Nat} {s : State} {f0 f : kH} {H : Heap} {locs : List Loc} {q : Nat} {e : va_E} {ws : va_W} {as : List Nat} (hX : kX G B0 s (kst f q e) H locs) (hM : kCs f ws) (hO : kKp as f0 f) (hn : f q = none) (ha : ∀ a ∈ as, (f a).isSome) : ∃ f1, kX G B0 s f1 H locs ∧ kCs f1 (ws ++ [(q, e)]) ∧ kKp as f0 f1 ∧ f0 q = none ∧ ∀ a ∈ as, (f1 a).isSome := by
  have hq : ∀ b e', f b = some e' → b ≠ q := fun b e' hb z => by subst z; rw [hn] at hb; cases hb
  have hqa : q ∉ as := fun z => by have := ha q z; rw [hn] at this; cases this
  refine ⟨_, hX, ⟨fun x hx => ?_, ?_⟩, fun a e' h1 h0 => ?_, ?_, fun a h1 => ?_⟩
  · rcases List.mem_append.mp hx with z | z
    · rw [kst_n _ _ (hq _ _ (hM.1 x z))]; exact hM.1 x z
    · rw [List.mem_singleton.mp z]; exact kst_s _ _ _
  · rw [List.map_append]
    refine List.nodup_append.mpr ⟨hM.2, by simp, fun a h1 b hb => ?_⟩
    obtain ⟨x, hx, rfl⟩ := List.mem_map.mp h1
    have : b = q := by simpa using hb
    subst this
    exact hq _ _ (hM.1 x hx)
  · have h2 := hO a e' h1 h0
    rw [kst_n _ _ (hq _ _ h2)]; exact h2
  · cases h0 : f0 q with
    | none => rfl
    | some e' =>
      have := hO q e' hqa h0
      rw [hn] at this; cases this
  · have h2 := ha a h1
    obtain ⟨e', h3⟩ := Option.isSome_iff_exists.mp h2
    rw [kst_n _ _ (hq _ _ h3)]; exact h2
theorem kX.wrP {G : kG} {B0 : Nat} {s : State} {f0 f : kH} {H : Heap} {locs : List Loc} {a : Nat} {e e1 : va_E} {ws : va_W} {as : List Nat} (hX : kX G B0 s (kst f a e1) H locs) (hM : kCs f ws) (hO : kKp as f0 f) (hs : ∀ a ∈ as, (f a).isSome) (i : Nat) (hi : ws[i]? = some (a, e)) (ha : a ∈ as ∨ f0 a = none) : ∃ f1, kX G B0 s f1 H locs ∧ kCs f1 (ws.set i (a, e1)) ∧ kKp as f0 f1 ∧ ∀ a ∈ as, (f1 a).isSome := by
  refine ⟨_, hX, hM.put i hi, fun b e' hb h0 => ?_, fun b hb => ?_⟩
  · have hba : b ≠ a := fun z => by
      subst z
      rcases ha with q | q
      · exact hb q
      · rw [q] at h0; cases h0
    rw [kst_n _ _ hba]
    exact hO b e' hb h0
  · by_cases z : b = a
    · subst z; rw [kst_s]; rfl
    · rw [kst_n _ _ z]; exact hs b hb
/-- a part of the world, changed by a call: the parts at ks become qs -/
def kSub : va_W → List Nat → va_W → va_W
  | ws, k :: ks, q :: qs => kSub (ws.set k q) ks qs
  | ws, _, _ => ws
theorem kSub_ok : ∀ (ks : List Nat) (qs ws : va_W), ks.length = qs.length → (∀ (j k : Nat) (q : Nat × va_E), ks[j]? = some k → qs[j]? = some q → (ws[k]?).map Prod.fst = some q.1) → (kSub ws ks qs).map Prod.fst = ws.map Prod.fst ∧ ∀ x ∈ kSub ws ks qs, x ∈ qs ∨ x ∈ ws
  | [], [], ws, _, _ => ⟨rfl, fun x hx => Or.inr hx⟩
  | [], _ :: _, _, h, _ => nomatch h
  | _ :: _, [], _, h, _ => nomatch h
  | k :: ks, q :: qs, ws, hl, h => by
    have h0 := h 0 k q rfl rfl
    have e1 : (ws.set k q).map Prod.fst = ws.map Prod.fst := by
      apply List.ext_getElem?
      intro i
      rw [List.getElem?_map, List.getElem?_map, List.getElem?_set]
      split
      · rename_i hk
        subst hk
        split
        · rw [h0]; rfl
        · rename_i hlt; rw [List.getElem?_eq_none (by omega)]
      · rfl
    obtain ⟨i1, i2⟩ := kSub_ok ks qs (ws.set k q) (by simpa using hl) fun j k' q' h1 h2 => by
      have := h (j + 1) k' q' h1 h2
      rw [← List.getElem?_map] at this ⊢
      rw [e1]; exact this
    refine ⟨i1.trans e1, fun x hx => ?_⟩
    rcases i2 x hx with z | z
    · exact Or.inl (List.mem_cons_of_mem _ z)
    · rcases List.mem_or_eq_of_mem_set z with y | y
      · exact Or.inr y
      · exact Or.inl (by rw [y]; exact List.mem_cons_self)
def kPl : List Nat → va_W → va_W → Prop
  | k :: ks, q :: qs, ws => (ws[k]?).map Prod.fst = some q.1 ∧ kPl ks qs ws
  | [], [], _ => True
  | _, _, _ => False
theorem kPl.ok : ∀ {ks : List Nat} {qs ws : va_W}, kPl ks qs ws → ks.length = qs.length ∧ ∀ (j k : Nat) (q : Nat × va_E), ks[j]? = some k → qs[j]? = some q → (ws[k]?).map Prod.fst = some q.1
  | [], [], _, _ => ⟨rfl, fun j k q h => by simp at h⟩
  | [], _ :: _, _, h => h.elim
  | _ :: _, [], _, h => h.elim
  | k :: ks, q :: qs, ws, h => by
    obtain ⟨i1, i2⟩ := kPl.ok h.2
    refine ⟨by simp [i1], fun j k' q' h1 h2 => ?_⟩
    cases j with
    | zero => cases h1; cases h2; exact h.1
    | succ j => exact i2 j k' q' h1 h2
def kPk : List Nat → va_W → va_W → Prop
  | k :: ks, q :: qs, ws => ws[k]? = some q ∧ kPk ks qs ws
  | [], [], _ => True
  | _, _, _ => False
theorem kPk.ok : ∀ {ks : List Nat} {qs ws : va_W}, kPk ks qs ws → ∀ q ∈ qs, ∃ k ∈ ks, ws[k]? = some q
  | [], [], _, _, _, h => nomatch h
  | [], _ :: _, _, h, _, _ => h.elim
  | _ :: _, [], _, h, _, _ => h.elim
  | k :: ks, q0 :: qs, ws, h, q, hq => by
    rcases List.mem_cons.mp hq with z | z
    · exact ⟨k, List.mem_cons_self, by rw [z]; exact h.1⟩
    · obtain ⟨j, h1, h2⟩ := kPk.ok h.2 q z
      exact ⟨j, List.mem_cons_of_mem _ h1, h2⟩
theorem kPk.nd : ∀ {ks : List Nat} {qs ws : va_W}, kPk ks qs ws → ks.Nodup → (ws.map Prod.fst).Nodup → (qs.map Prod.fst).Nodup
  | [], [], _, _, _, _ => List.nodup_nil
  | [], _ :: _, _, h, _, _ => h.elim
  | _ :: _, [], _, h, _, _ => h.elim
  | k :: ks, q0 :: qs, ws, h, hk, hn => by
    rw [List.nodup_cons] at hk
    rw [List.map_cons, List.nodup_cons]
    refine ⟨fun z => ?_, kPk.nd h.2 hk.2 hn⟩
    obtain ⟨q, hq, hq1⟩ := List.mem_map.mp z
    obtain ⟨j, hj, hj1⟩ := kPk.ok h.2 q hq
    have hkj : j = k := by
      have a1 : (ws.map Prod.fst)[j]? = some q.1 := by rw [List.getElem?_map, hj1]; rfl
      have a2 : (ws.map Prod.fst)[k]? = some q.1 := by rw [List.getElem?_map, h.1, hq1]; rfl
      have hjl := (List.getElem?_eq_some_iff.mp a1).1
      exact (List.getElem?_inj hjl hn).mp (a1.trans a2.symm)
    subst hkj
    exact hk.1 hj
/-- a part of the world -/
theorem kCs.pick {f : kH} {ws qs : va_W} (hM : kCs f ws) (ks : List Nat) (hk : ks.Nodup) (h : kPk ks qs ws) : kCs f qs := ⟨fun q hq => by
  obtain ⟨k, -, h1⟩ := h.ok q hq
  exact hM.1 q (List.mem_of_getElem? h1), h.nd hk hM.2⟩
/-- a world grows -/
theorem kCs.grow {f f1 : kH} {ws : va_W} {q : Nat} {e : va_E} (hM : kCs f ws) (hK : kKp [] f f1) (hn : f q = none) (he : f1 q = some e) : kCs f1 (ws ++ [(q, e)]) := by
  refine ⟨fun x hx => ?_, ?_⟩
  · rcases List.mem_append.mp hx with z | z
    · exact hK _ _ (by simp) (hM.1 x z)
    · rw [List.mem_singleton.mp z]; exact he
  · rw [List.map_append]
    refine List.nodup_append.mpr ⟨hM.2, by simp, fun a h1 b hb => ?_⟩
    obtain ⟨x, hx, rfl⟩ := List.mem_map.mp h1
    have : b = q := by simpa using hb
    subst this
    intro z
    have := hM.1 x hx
    rw [z, hn] at this; cases this
theorem k_inj {ws : va_W} (h : (ws.map Prod.fst).Nodup) {x y : Nat × va_E} (hx : x ∈ ws) (hy : y ∈ ws) (he : x.1 = y.1) : x = y := by
  induction ws with
  | nil => cases hx
  | cons z zs ih =>
    rw [List.map_cons, List.nodup_cons] at h
    rcases List.mem_cons.mp hx with a | a <;> rcases List.mem_cons.mp hy with b | b
    · rw [a, b]
    · exact absurd (by rw [← a, he]; exact List.mem_map.mpr ⟨y, b, rfl⟩) h.1
    · exact absurd (by rw [← b, ← he]; exact List.mem_map.mpr ⟨x, a, rfl⟩) h.1
    · exact ih h.2 a b
theorem kSub_off : ∀ (ks : List Nat) (qs ws : va_W) (i : Nat), i ∉ ks → (kSub ws ks qs)[i]? = ws[i]?
  | [], [], _, _, _ => rfl
  | [], _ :: _, _, _, _ => rfl
  | _ :: _, [], _, _, _ => rfl
  | k :: ks, q :: qs, ws, i, h => by
    rw [kSub, kSub_off ks qs (ws.set k q) i (fun z => h (List.mem_cons_of_mem _ z)), List.getElem?_set_ne (fun z => h (by rw [z]; exact List.mem_cons_self))]
theorem kSub_has : ∀ (ks : List Nat) (qs ws : va_W), ks.length = qs.length → (∀ (j k : Nat) (q : Nat × va_E), ks[j]? = some k → qs[j]? = some q → (ws[k]?).map Prod.fst = some q.1) → (qs.map Prod.fst).Nodup → (ws.map Prod.fst).Nodup → ∀ q ∈ qs, q ∈ kSub ws ks qs
  | [], [], _, _, _, _, _, _, hq => nomatch hq
  | [], _ :: _, _, h, _, _, _, _, _ => nomatch h
  | _ :: _, [], _, h, _, _, _, _, _ => nomatch h
  | k :: ks, q0 :: qs, ws, hl, h, hd, hn, q, hq => by
    have h0 := h 0 k q0 rfl rfl
    have e1 : (ws.set k q0).map Prod.fst = ws.map Prod.fst := by
      apply List.ext_getElem?
      intro i
      rw [List.getElem?_map, List.getElem?_map, List.getElem?_set]
      split
      · rename_i hk
        subst hk
        split
        · rw [h0]; rfl
        · rename_i hlt; rw [List.getElem?_eq_none (by omega)]
      · rfl
    have h2 : ∀ (j k' : Nat) (q' : Nat × va_E), ks[j]? = some k' → qs[j]? = some q' → ((ws.set k q0)[k']?).map Prod.fst = some q'.1 := fun j k' q' h1 h2 => by
      have := h (j + 1) k' q' h1 h2
      rw [← List.getElem?_map] at this ⊢
      rw [e1]; exact this
    rw [List.map_cons, List.nodup_cons] at hd
    rcases List.mem_cons.mp hq with z | z
    · subst z
      have hk : k ∉ ks := fun y => by
        obtain ⟨j, hj, hj1⟩ := List.getElem_of_mem y
        have hj2 : j < qs.length := by have : (k :: ks).length = (q :: qs).length := hl; simp at this; omega
        have h3 := h (j + 1) k qs[j] (by rw [List.getElem?_cons_succ, List.getElem?_eq_getElem hj, hj1]) (by rw [List.getElem?_cons_succ, List.getElem?_eq_getElem hj2])
        rw [h0] at h3
        exact hd.1 (by rw [Option.some.inj h3]; exact List.mem_map.mpr ⟨_, List.getElem_mem hj2, rfl⟩)
      have hlt : k < ws.length := by
        cases hw : ws[k]? with
        | none => rw [hw] at h0; cases h0
        | some x => exact (List.getElem?_eq_some_iff.mp hw).1
      exact List.mem_of_getElem? (i := k) (by rw [kSub, kSub_off ks qs _ k hk, List.getElem?_set_self hlt])
    · exact kSub_has ks qs (ws.set k q0) (by simpa using hl) h2 hd.2 (by rw [e1]; exact hn) q z
/-- a call that changed a part of the world -/
theorem kCs.sub {f f1 : kH} {ws ws1 : va_W} {as : List Nat} (hM : kCs f ws) (h1 : kCs f1 ws1) (hO : kKp as f f1) (ks : List Nat) (has : ∀ a ∈ as, a ∈ ws1.map Prod.fst) (hp : kPl ks ws1 ws) : kCs f1 (kSub ws ks ws1) := by
  obtain ⟨hl, hks⟩ := hp.ok
  obtain ⟨i1, i2⟩ := kSub_ok ks ws1 ws hl hks
  refine ⟨fun x hx => ?_, by rw [i1]; exact hM.2⟩
  rcases i2 x hx with z | z
  · exact h1.1 x z
  · by_cases y : x.1 ∈ as
    · obtain ⟨q, hq, hq1⟩ := List.mem_map.mp (has _ y)
      have hq2 : q ∈ kSub ws ks ws1 := kSub_has ks ws1 ws hl hks h1.2 hM.2 q hq
      have hnd : ((kSub ws ks ws1).map Prod.fst).Nodup := by rw [i1]; exact hM.2
      have : q = x := k_inj hnd hq2 hx hq1
      subst this
      exact h1.1 _ hq
    · exact hO _ _ y (hM.1 x z)
section KR3
variable {p : Program} {l : Launch} {e : Env} {R : Room} {s : State} {m : MethodId} {args : Array Value} {below : List Frame} {meth : Method} {c : Code} {H : Heap} {locs : List Loc} {cells slots : Nat} {Q : State → Prop}
variable {cc : ByteArray} {pc : Nat} {ls : Array Slot} {rest : List Value} {G : kG} {B0 nL : Nat} {f : kH} {Ts : List Cond} {own : String} {a : Nat} {mc ms : Nat}
theorem k_new (C : kC G B0 p m c cc nL s args Ts own) (hX : kX G B0 s f H locs) {X : String} {T : u_T} {N ci index : Nat} (hin : ∀ w ∈ u_ws X T N, w ∈ Ts) {ty : Nat → FieldType} (hty : ∀ k, k < N → parseFieldDescriptor (T k).2.2.1 = some (ty k)) (hw : ∀ w ∈ [Cond.classLink own index X, Cond.instantiable X N, Cond.initialized X], w ∈ Ts) (hc : vwCl[ci]? = some (X, T, N)) {fs : List Value} (hfs : ∀ j, j < N → defaultValue (ty j) = vp_V fs j) (hcells : cells + 1 ≤ R.cells) (hslots : slots + N ≤ R.slots) (hdg : decode cc pc = .ok (.new index, 3))
    (kk : ∀ (q : Nat) (H1 : Heap), f q = none → kX G B0 s (kst f q (.inr (ci, fs))) H1 locs → W p l e R s m args below meth c H1 locs (cells + 1) (slots + N) Q (F0 m (pc + 3) ls (.ref q :: rest))) : W p l e R s m args below meth c H locs cells slots Q (F0 m pc ls rest) := by
  obtain ⟨L, hL, hP, hD⟩ := hX.P
  refine va_new (D := G.1) (cl := vwCl) C.x C.b C.ts hin ty hty C.ow (C.ts _ (hw _ (by simp))) (C.ts _ (hw _ (by simp))) (C.ts _ (hw _ (by simp))) C.K hP hD hX.2 C.ge hc hfs hcells hslots hdg fun q H1 hP1 hD1 hS1 => ?_
  obtain ⟨h1, h2⟩ := kX.push hX.1 hL hP hP1 hD1 hS1
  exact kk q H1 h1 h2
theorem k_aret {post : Option Nat → kH → Prop} {v : Option Nat} {rt : FieldType} (C : kC G B0 p m c cc nL s args Ts own) (hX : kX G B0 s f H locs) (hr : meth.sig.returnType = some rt) (hrt : (∃ n, rt = .object n) ∨ ∃ t, rt = .array t) (hlocks : meth.locks = false) (hQ : Q = MQ below (kQq G B0 post) args s mc ms (kAb B0)) (hc : cells ≤ mc) (hs : slots ≤ ms) (hp : post v f) (hdg : decode cc pc = .ok (.areturn, 1)) : W p l e R s m args below meth c H locs cells slots Q (F0 m pc ls [va_rf v]) := by
  subst hQ
  refine W.widen hc hs ?_
  exact W.aret C.x C.b hr hrt (va_rf_or v) (fun t ht _ => ⟨⟨v, f, rfl, hp, by show kW G B0 f t.heap; rw [ht]; exact hX.1⟩, hX.2.F ht⟩) hX.2.2.2 hdg hlocks
theorem k_aald (C : kC G B0 p m c cc nL s args Ts own) (hX : kX G B0 s f H locs) {n : Nat} {g : Nat → Option Nat} (ha : f a = some (kaO G n g)) {i : Int32} (hin : vp_in i n) (hdg : decode cc pc = .ok (.aaload, 1))
    (kk : W p l e R s m args below meth c H locs cells slots Q (F0 m (pc + 1) ls (va_rf (g i.toNatClampNeg) :: rest))) : W p l e R s m args below meth c H locs cells slots Q (F0 m pc ls (.int i :: .ref a :: rest)) :=
  va_aldq (D := G.1) (cl := vwCl) (C := "java/lang/Object") C.x C.b C.K (hX.1.at ha) 0 3 rfl rfl hin hdg kk
theorem k_alenO9 : True := trivial
end KR3
