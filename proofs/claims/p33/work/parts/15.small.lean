/-- a method of a class of which the machine runs some itself: this one is none of them -/
theorem k_ofWF {l : Launch} {y : MethodName} {ws ws' : List Cond} {rm : Room} {Pc : Array Value → State → Prop} {Qc : Array Value → State → Outcome → State → Prop} {mc ms : Nat} {free : Addr → Prop} {cc : ByteArray} {maxL : Nat} {ret : Option FieldType}
    (hy : plainFor y = true) (hw : ws = Cond.code y cc maxL ret :: ws')
    (body : ∀ p e s m args below meth c s₁, BodyLoose p l y (headSpec ws rm) cc maxL ret e s m args below meth c s₁ → c.maxLocals = maxL → Pc args s →
      W p l e (headSpec ws rm).room s m args below meth c s.heap [] 0 0 (MQ below Qc args s mc ms free) (entryFrame m args maxL)) : Met l y ws rm Pc Qc mc ms free := by
  refine MetFree.of_bodySF (code := cc) (maxLocals := maxL) (ret := ret) hy ?_ ?_
  · intro args s m h hn
    obtain ⟨meth, c, h1, h2, h3, h4, h5, h6, -, -⟩ := Cond.code_spec hn (atoms_spec (ws := ws) h _ (by rw [hw]; exact List.mem_cons_self))
    exact ⟨meth, c, h1, h2, h3, h4, h5, h6⟩
  · intro p e s m args below meth c s₁ B hml hP _
    have hh0 : s₁.heap = s.heap := by rw [B.state]; rfl
    obtain ⟨t, a1, o, b1, b2, b3⟩ := body p e s m args below meth c s₁ B hml hP s₁ hh0 (Stand.of_body B)
    exact ⟨t, o, a1, b1, b2, ⟨b3.1, b3.2⟩⟩
theorem kMetF {l : Launch} {y : MethodName} {ws ws' : List Cond} {rm : Room} {G : kG} {B0 : Nat} {f : kH} {av : List Value} {Qc : Array Value → State → Outcome → State → Prop} {mc ms : Nat} {cc : ByteArray} {maxL : Nat} {ret : Option FieldType} (hy : plainFor y = true) (hw : ws = Cond.code y cc maxL ret :: ws') (hav : (lg_sl av).length ≤ maxL)
    (body : ∀ (p : Program) (e : Env) (s : State) (m : MethodId) (args : Array Value) (below : List Frame) (meth : Method) (c : Code) (H : Heap) (locs : List Loc) (Q : State → Prop) (ls : Array Slot), kC G B0 p m c cc maxL s args ws y.cls → kX G B0 s f H locs → lv_has ls maxL (lv_args 0 av) → meth.sig.returnType = ret → meth.locks = false → meth.name = y.name → Q = MQ below Qc args s mc ms (kAb B0) →
      W p l e rm s m args below meth c H locs 0 0 Q (F0 m 0 ls [])) : Met l y ws rm (kP G B0 f av) Qc mc ms (kAb B0) := by
  refine k_ofWF (cc := cc) (maxL := maxL) (ret := ret) hy hw ?_
  intro p e s m args below meth c s₁ B hml hv
  obtain ⟨rfl, hW, hT, hZ⟩ := hv
  have hl := lv_entry av (n := maxL) hav
  rw [lg_entry_eq]
  exact body p e s m _ below meth c _ [] _ _ ⟨⟨B.exec, B.bytes, hml, findClass_of_methodNamed B.named, atoms_spec (ws := ws) B.pre⟩, hT, hZ⟩ ⟨hW, va_S.rf⟩ hl B.returns B.notSynchronized (name_of_methodNamed B.named B.method).1 rfl
def jFl (x y : Int64) : Int64 := if x ^^^ y < 0 ∧ ¬ x / y * y = x then x / y - 1 else x / y
abbrev jAbs (x : Int64) : Int64 := if 0 < x then x else -x
def cEu : Nat → Int64 → Int64 → Int64
  | 0, a, _ => a
  | n + 1, a, b => if b = 0 then a else cEu n b (lrem a b)
/-- the terms of the chain of the simplest between -/
def cSim : Nat → Int64 → Int64 → Int64 → Int64 → Int64 → Int64 → Int64 → Int64 → Int64 × Int64
  | 0, _, _, _, _, tt, _, bt, _ => (tt, bt)
  | n + 1, lt, lb, ht, hb, tt, tb, bt, bb =>
    if 0 < lb then
      if (jFl lt lb + 1) * hb < ht then ((jFl lt lb + 1) * tt + tb, (jFl lt lb + 1) * bt + bb)
      else cSim n hb (ht - jFl lt lb * hb) lb (lt - jFl lt lb * lb) (jFl lt lb * tt + tb) tt (jFl lt lb * bt + bb) bt
    else (tt, bt)
abbrev cIn (v most : Int64) : Prop := -most ≤ v ∧ v ≤ most
def cKind (a b c d : Int64) : Int32 := if b = 0 ∧ c = 0 ∧ a = d then nI 0 else if jAbs (a + d) ≤ 1 then nI 1 else if jAbs (a + d) = 2 then nI 2 else nI 3
theorem kLie_t {a b : Int64} (h : a = b) : nI 1 = kLie a b := by
  subst h; rw [kLie, if_neg (fun h9 => Int64.lt_irrefl h9), if_pos rfl]
theorem kFill {α : Type} (k : Nat) (v : α) (g9 : Nat → α) : (fun j => if j = k then v else (if j < k then v else g9 j)) = (fun j => if j < k + 1 then v else g9 j) := by
  funext j
  by_cases h1 : j = k
  · subst h1; simp
  · by_cases h2 : j < k
    · simp [h1, h2, Nat.lt_succ_of_lt h2]
    · rw [if_neg h1, if_neg h2, if_neg (by omega)]
theorem kFill0I (v : Int32) (g9 : Nat → Int32) : (fun j => if j < 0 then v else g9 j) = g9 := by funext j; simp
theorem kFill0J (v : Int64) (g9 : Nat → Int64) : (fun j => if j < 0 then v else g9 j) = g9 := by funext j; simp

abbrev rmJ7_fill_53178 : Room := { frames := 0, cells := 0, slots := 0, locals := 0 }
set_option maxHeartbeats 4000000 in
set_option maxRecDepth 100000 in
/-- J7_fill_53178 -/
theorem kJ7_fill_53178 (l : Launch) (G : kG) (B0 : Nat) (f : kH) (q9 z9 : Nat) (g9 : Nat → Int32) (v : Int32) (hM : kCs f [(q9, kaI G z9 g9)]) (hz : z9 < 2 ^ 31) : Met l yJ7_fill_53178 wsJ7_fill_53178 (rmJ7_fill_53178) (kP G B0 f [.ref q9, .int v]) (kQv G B0 (fun f1 => kCs f1 [(q9, kaI G z9 (fun j => if j < z9 then v else g9 j))] ∧ kOff [q9] f f1)) 0 0 (kAb B0) := by
  refine kMet (cc := cJ7_fill_53178) (maxL := 4) (ret := none) (by decide) rfl (Nat.le_of_ble_eq_true rfl) ?_
  intro p e s m args below meth c H locs Q ls C hX hl hr hlocks hnm hQ
  have hO : kOff [q9] f f := kOff.rf
  have hl : lv_has ls 4 [(0, .ref q9), (1, .int v)] := hl
  have hM : kCs f [(q9, kaI G z9 (fun j => if j < 0 then v else g9 j))] := by rw [kFill0I]; exact hM
  refine lv_iconst (v := nI 0) C.x C.b dJ7_fill_53178_0 (by decide) ?_
  refine lv_istore_n (lv' := [(2, .int (nI 0)), (0, .ref q9), (1, .int v)]) C.x C.b dJ7_fill_53178_1 rfl hl (by decide) rfl (fun ls hl => ?_)
  refine lv_aload_n C.x C.b dJ7_fill_53178_2 rfl (lv_at hl 1 rfl) ?_
  refine k_alenI C hX (hM.at 0 rfl) dJ7_fill_53178_3 ?_
  refine lv_istore_n (lv' := [(3, .int (nI z9)), (2, .int (nI 0)), (0, .ref q9), (1, .int v)]) C.x C.b dJ7_fill_53178_4 rfl hl (by decide) rfl (fun ls hl => ?_)
  have LOOP5 : ∀ (n : Nat) (k : Nat), (k ≤ z9) → (z9 - k) < n → ∀ (ls : Array Slot), lv_has ls 4 [(2, .int (nI k)), (3, .int (nI z9)), (0, .ref q9), (1, .int v)] → ∀ (fL : kH), kCs fL ([(q9, kaI G z9 (fun j => if j < k then v else g9 j))]) → kOff [q9] f fL → ∀ (H : Heap) (locs : List Loc), kX G B0 s fL H locs → W p l e (rmJ7_fill_53178) s m args below meth c H locs 0 0 Q (F0 m 5 ls []) := by
    intro n5
    induction n5 with
    | zero => intro k hk hn; exact absurd hn (Nat.not_lt_zero _)
    | succ n5 ih5 =>
      intro k hk hn ls hl fL hM hO H locs hX
      refine lv_iload_n C.x C.b dJ7_fill_53178_5 rfl (lv_at hl 0 rfl) ?_
      refine lv_iload_n C.x C.b dJ7_fill_53178_6 rfl (lv_at hl 1 rfl) ?_
      refine lv_icmp_ge (tgt := 20) C.x C.b dJ7_fill_53178_7 (by decide) (fun c_7 => ?_) (fun c_7 => ?_)
      · skip
        have c_7 : z9 ≤ k := (nI_leI (by omega) (by omega)).mp c_7
        exact k_vret C hX hr hlocks hQ (by omega) (by omega) (⟨by rw [show z9 = k by omega] at hM ⊢; exact hM, hO⟩) dJ7_fill_53178_20
      · skip
        have c_7 : ¬ (z9 ≤ k) := fun h9 => c_7 ((nI_leI (by omega) (by omega)).mpr h9)
        refine lv_aload_n C.x C.b dJ7_fill_53178_10 rfl (lv_at hl 2 rfl) ?_
        refine lv_iload_n C.x C.b dJ7_fill_53178_11 rfl (lv_at hl 0 rfl) ?_
        refine lv_iload_n C.x C.b dJ7_fill_53178_12 rfl (lv_at hl 3 rfl) ?_
        refine k_iast C hX (hM.at 0 rfl) (vp_in_nI (by omega) (by omega)) dJ7_fill_53178_13 (fun H locs hX => ?_)
        rw [nI_clamp (by omega)] at hX
        obtain ⟨g2, hX, hM, hO⟩ := kX.wr hX hM hO 0 rfl (List.mem_of_getElem? (i := 0) rfl)
        have hM : kCs g2 ([(q9, kaI G z9 (upd (fun j => if j < k then v else g9 j) k v))]) := hM
        rw [show (upd (fun j => if j < k then v else g9 j) k v) = (fun j => if j < k + 1 then v else g9 j) from kFill _ _ _] at hM
        have hM : kCs g2 ([(q9, kaI G z9 (fun j => if j < k + 1 then v else g9 j))]) := hM
        refine lv_iinc (v := (nI (k + 1))) (lv' := [(2, .int (nI (k + 1))), (3, .int (nI z9)), (0, .ref q9), (1, .int v)]) C.x C.b dJ7_fill_53178_14 hl (k := 0) rfl (nI_1 _) (by decide) rfl (fun ls hl => ?_)
        refine lv_goto (tgt := 5) C.x C.b dJ7_fill_53178_17 (by decide) ?_
        exact ih5 (k + 1) (by omega) (by omega) ls (lv_sub hl [0, 1, 2, 3] rfl) _ hM hO _ _ hX
  exact LOOP5 _ 0 (by omega) (Nat.lt_succ_self _) ls (lv_sub hl [1, 0, 2, 3] rfl) _ hM hO _ _ hX

abbrev rmJ7_fill_d0a16 : Room := { frames := 0, cells := 0, slots := 0, locals := 0 }
set_option maxHeartbeats 4000000 in
set_option maxRecDepth 100000 in
/-- J7_fill_d0a16 -/
theorem kJ7_fill_d0a16 (l : Launch) (G : kG) (B0 : Nat) (f : kH) (q9 z9 : Nat) (g9 : Nat → Int64) (v : Int64) (hM : kCs f [(q9, kaJ G z9 g9)]) (hz : z9 < 2 ^ 31) : Met l yJ7_fill_d0a16 wsJ7_fill_d0a16 (rmJ7_fill_d0a16) (kP G B0 f [.ref q9, .long v]) (kQv G B0 (fun f1 => kCs f1 [(q9, kaJ G z9 (fun j => if j < z9 then v else g9 j))] ∧ kOff [q9] f f1)) 0 0 (kAb B0) := by
  refine kMet (cc := cJ7_fill_d0a16) (maxL := 5) (ret := none) (by decide) rfl (Nat.le_of_ble_eq_true rfl) ?_
  intro p e s m args below meth c H locs Q ls C hX hl hr hlocks hnm hQ
  have hO : kOff [q9] f f := kOff.rf
  have hl : lv_has ls 5 [(0, .ref q9), (1, .long v)] := hl
  have hM : kCs f [(q9, kaJ G z9 (fun j => if j < 0 then v else g9 j))] := by rw [kFill0J]; exact hM
  refine lv_iconst (v := nI 0) C.x C.b dJ7_fill_d0a16_0 (by decide) ?_
  refine lv_istore_n (lv' := [(3, .int (nI 0)), (0, .ref q9), (1, .long v)]) C.x C.b dJ7_fill_d0a16_1 rfl hl (by decide) rfl (fun ls hl => ?_)
  refine lv_aload_n C.x C.b dJ7_fill_d0a16_2 rfl (lv_at hl 1 rfl) ?_
  refine k_alenJ C hX (hM.at 0 rfl) dJ7_fill_d0a16_3 ?_
  refine lv_istore (lv' := [(4, .int (nI z9)), (3, .int (nI 0)), (0, .ref q9), (1, .long v)]) C.x C.b dJ7_fill_d0a16_4 hl (by decide) rfl (fun ls hl => ?_)
  have LOOP6 : ∀ (n : Nat) (k : Nat), (k ≤ z9) → (z9 - k) < n → ∀ (ls : Array Slot), lv_has ls 5 [(3, .int (nI k)), (4, .int (nI z9)), (0, .ref q9), (1, .long v)] → ∀ (fL : kH), kCs fL ([(q9, kaJ G z9 (fun j => if j < k then v else g9 j))]) → kOff [q9] f fL → ∀ (H : Heap) (locs : List Loc), kX G B0 s fL H locs → W p l e (rmJ7_fill_d0a16) s m args below meth c H locs 0 0 Q (F0 m 6 ls []) := by
    intro n6
    induction n6 with
    | zero => intro k hk hn; exact absurd hn (Nat.not_lt_zero _)
    | succ n6 ih6 =>
      intro k hk hn ls hl fL hM hO H locs hX
      refine lv_iload_n C.x C.b dJ7_fill_d0a16_6 rfl (lv_at hl 0 rfl) ?_
      refine lv_iload C.x C.b dJ7_fill_d0a16_7 (lv_at hl 1 rfl) ?_
      refine lv_icmp_ge (tgt := 22) C.x C.b dJ7_fill_d0a16_9 (by decide) (fun c_9 => ?_) (fun c_9 => ?_)
      · skip
        have c_9 : z9 ≤ k := (nI_leI (by omega) (by omega)).mp c_9
        exact k_vret C hX hr hlocks hQ (by omega) (by omega) (⟨by rw [show z9 = k by omega] at hM ⊢; exact hM, hO⟩) dJ7_fill_d0a16_22
      · skip
        have c_9 : ¬ (z9 ≤ k) := fun h9 => c_9 ((nI_leI (by omega) (by omega)).mpr h9)
        refine lv_aload_n C.x C.b dJ7_fill_d0a16_12 rfl (lv_at hl 2 rfl) ?_
        refine lv_iload_n C.x C.b dJ7_fill_d0a16_13 rfl (lv_at hl 0 rfl) ?_
        refine lv_lload_n C.x C.b dJ7_fill_d0a16_14 rfl (lv_at hl 3 rfl) ?_
        refine k_last C hX (hM.at 0 rfl) (vp_in_nI (by omega) (by omega)) dJ7_fill_d0a16_15 (fun H locs hX => ?_)
        rw [nI_clamp (by omega)] at hX
        obtain ⟨g2, hX, hM, hO⟩ := kX.wr hX hM hO 0 rfl (List.mem_of_getElem? (i := 0) rfl)
        have hM : kCs g2 ([(q9, kaJ G z9 (vp_updL (fun j => if j < k then v else g9 j) k v))]) := hM
        rw [show (vp_updL (fun j => if j < k then v else g9 j) k v) = (fun j => if j < k + 1 then v else g9 j) from kFill _ _ _] at hM
        have hM : kCs g2 ([(q9, kaJ G z9 (fun j => if j < k + 1 then v else g9 j))]) := hM
        refine lv_iinc (v := (nI (k + 1))) (lv' := [(3, .int (nI (k + 1))), (4, .int (nI z9)), (0, .ref q9), (1, .long v)]) C.x C.b dJ7_fill_d0a16_16 hl (k := 0) rfl (nI_1 _) (by decide) rfl (fun ls hl => ?_)
        refine lv_goto (tgt := 6) C.x C.b dJ7_fill_d0a16_19 (by decide) ?_
        exact ih6 (k + 1) (by omega) (by omega) ls (lv_sub hl [0, 1, 2, 3] rfl) _ hM hO _ _ hX
  exact LOOP6 _ 0 (by omega) (Nat.lt_succ_self _) ls (lv_sub hl [1, 0, 2, 3] rfl) _ hM hO _ _ hX

abbrev rmX8_isWithin : Room := { frames := 0, cells := 0, slots := 0, locals := 0 }
set_option maxHeartbeats 4000000 in
set_option maxRecDepth 100000 in
/-- X8_isWithin -/
theorem kX8_isWithin (l : Launch) (G : kG) (B0 : Nat) (f : kH) (v w : Int64) : Met l yX8_isWithin wsX8_isWithin (rmX8_isWithin) (kP G B0 f [.long v, .long w]) (kQi G B0 (fun r f1 => r = kbI (cIn v w) ∧ f1 = f)) 0 0 (kAb B0) := by
  refine kMet (cc := cX8_isWithin) (maxL := 4) (ret := (some .boolean)) (by decide) rfl (Nat.le_of_ble_eq_true rfl) ?_
  intro p e s m args below meth c H locs Q ls C hX hl hr hlocks hnm hQ
  have hl : lv_has ls 4 [(0, .long v), (2, .long w)] := hl
  refine lv_lload_n C.x C.b dX8_isWithin_0 rfl (lv_at hl 0 rfl) ?_
  refine lv_lload_n C.x C.b dX8_isWithin_1 rfl (lv_at hl 1 rfl) ?_
  refine lv_lneg C.x C.b dX8_isWithin_2 ?_
  refine k_lcmp_lt (tgt := 17) C.x C.b dX8_isWithin_3 dX8_isWithin_4 (by decide) (fun c_4 => ?_) (fun c_4 => ?_)
  · skip
    refine lv_iconst (v := nI 0) C.x C.b dX8_isWithin_17 (by decide) ?_
    exact k_zret C hX hr hlocks hQ (by omega) (by omega) (by first | exact kbI_01 _ | exact Or.inl rfl | exact Or.inr rfl) (by refine ⟨?_, rfl⟩; first | exact kbI_tN ⟨Int64.not_lt.mp c_4, Int64.not_lt.mp c_10⟩ | exact kbI_fN (fun h9 => absurd c_4 (Int64.not_lt.mpr h9.1)) | exact kbI_fN (fun h9 => absurd c_10 (Int64.not_lt.mpr h9.2))) dX8_isWithin_18
  · skip
    refine lv_lload_n C.x C.b dX8_isWithin_7 rfl (lv_at hl 0 rfl) ?_
    refine lv_lload_n C.x C.b dX8_isWithin_8 rfl (lv_at hl 1 rfl) ?_
    refine k_lcmp_gt (tgt := 17) C.x C.b dX8_isWithin_9 dX8_isWithin_10 (by decide) (fun c_10 => ?_) (fun c_10 => ?_)
    · skip
      refine lv_iconst (v := nI 0) C.x C.b dX8_isWithin_17 (by decide) ?_
      exact k_zret C hX hr hlocks hQ (by omega) (by omega) (by first | exact kbI_01 _ | exact Or.inl rfl | exact Or.inr rfl) (by refine ⟨?_, rfl⟩; first | exact kbI_tN ⟨Int64.not_lt.mp c_4, Int64.not_lt.mp c_10⟩ | exact kbI_fN (fun h9 => absurd c_4 (Int64.not_lt.mpr h9.1)) | exact kbI_fN (fun h9 => absurd c_10 (Int64.not_lt.mpr h9.2))) dX8_isWithin_18
    · skip
      refine lv_iconst (v := nI 1) C.x C.b dX8_isWithin_13 (by decide) ?_
      refine lv_goto (tgt := 18) C.x C.b dX8_isWithin_14 (by decide) ?_
      exact k_zret C hX hr hlocks hQ (by omega) (by omega) (by first | exact kbI_01 _ | exact Or.inl rfl | exact Or.inr rfl) (by refine ⟨?_, rfl⟩; first | exact kbI_tN ⟨Int64.not_lt.mp c_4, Int64.not_lt.mp c_10⟩ | exact kbI_fN (fun h9 => absurd c_4 (Int64.not_lt.mpr h9.1)) | exact kbI_fN (fun h9 => absurd c_10 (Int64.not_lt.mpr h9.2))) dX8_isWithin_18

abbrev rmJ9_floorDiv_f86c9 : Room := { frames := 0, cells := 0, slots := 0, locals := 0 }
set_option maxHeartbeats 4000000 in
set_option maxRecDepth 100000 in
/-- J9_floorDiv_f86c9 -/
theorem kJ9_floorDiv_f86c9 (l : Launch) (G : kG) (B0 : Nat) (f : kH) (x y : Int64) (hy : y ≠ 0) : Met l yJ9_floorDiv_f86c9 wsJ9_floorDiv_f86c9 (rmJ9_floorDiv_f86c9) (kP G B0 f [.long x, .long y]) (kQl G B0 (fun r f1 => r = jFl x y ∧ f1 = f)) 0 0 (kAb B0) := by
  refine kMetF (cc := cJ9_floorDiv_f86c9) (maxL := 6) (ret := (some .long)) (by decide +kernel) rfl (Nat.le_of_ble_eq_true rfl) ?_
  intro p e s m args below meth c H locs Q ls C hX hl hr hlocks hnm hQ
  have hl : lv_has ls 6 [(0, .long x), (2, .long y)] := hl
  refine lv_lload_n C.x C.b dJ9_floorDiv_f86c9_0 rfl (lv_at hl 0 rfl) ?_
  refine lv_lload_n C.x C.b dJ9_floorDiv_f86c9_1 rfl (lv_at hl 1 rfl) ?_
  refine lv_ldiv C.x C.b dJ9_floorDiv_f86c9_2 (hy) ?_
  refine lv_lstore (lv' := [(4, .long (x / y)), (0, .long x), (2, .long y)]) C.x C.b dJ9_floorDiv_f86c9_3 hl (by decide) rfl (fun ls hl => ?_)
  refine lv_lload_n C.x C.b dJ9_floorDiv_f86c9_5 rfl (lv_at hl 1 rfl) ?_
  refine lv_lload_n C.x C.b dJ9_floorDiv_f86c9_6 rfl (lv_at hl 2 rfl) ?_
  refine lv_lxor C.x C.b dJ9_floorDiv_f86c9_7 ?_
  refine lv_lconst (v := 0) C.x C.b dJ9_floorDiv_f86c9_8 (by decide) ?_
  refine k_lcmp_ge (tgt := 27) C.x C.b dJ9_floorDiv_f86c9_9 dJ9_floorDiv_f86c9_10 (by decide) (fun c_10 => ?_) (fun c_10 => ?_)
  · skip
    refine lv_lload C.x C.b dJ9_floorDiv_f86c9_27 (lv_at hl 0 rfl) ?_
    exact k_lret C hX hr hlocks hQ (by omega) (by omega) (by refine ⟨?_, rfl⟩; first | (rw [jFl, if_pos ⟨c_10, c_19⟩]; done) | (rw [jFl, if_neg (fun h9 => c_10 h9.1)]; done) | (rw [jFl, if_neg (fun h9 => h9.2 c_19)]; done)) dJ9_floorDiv_f86c9_29
  · skip
    refine lv_lload C.x C.b dJ9_floorDiv_f86c9_13 (lv_at hl 0 rfl) ?_
    refine lv_lload_n C.x C.b dJ9_floorDiv_f86c9_15 rfl (lv_at hl 2 rfl) ?_
    refine lv_lmul C.x C.b dJ9_floorDiv_f86c9_16 ?_
    refine lv_lload_n C.x C.b dJ9_floorDiv_f86c9_17 rfl (lv_at hl 1 rfl) ?_
    refine k_lcmp_eq (tgt := 27) C.x C.b dJ9_floorDiv_f86c9_18 dJ9_floorDiv_f86c9_19 (by decide) (fun c_19 => ?_) (fun c_19 => ?_)
    · skip
      refine lv_lload C.x C.b dJ9_floorDiv_f86c9_27 (lv_at hl 0 rfl) ?_
      exact k_lret C hX hr hlocks hQ (by omega) (by omega) (by refine ⟨?_, rfl⟩; first | (rw [jFl, if_pos ⟨c_10, c_19⟩]; done) | (rw [jFl, if_neg (fun h9 => c_10 h9.1)]; done) | (rw [jFl, if_neg (fun h9 => h9.2 c_19)]; done)) dJ9_floorDiv_f86c9_29
    · skip
      refine lv_lload C.x C.b dJ9_floorDiv_f86c9_22 (lv_at hl 0 rfl) ?_
      refine lv_lconst (v := 1) C.x C.b dJ9_floorDiv_f86c9_24 (by decide) ?_
      refine lv_lsub C.x C.b dJ9_floorDiv_f86c9_25 ?_
      exact k_lret C hX hr hlocks hQ (by omega) (by omega) (by refine ⟨?_, rfl⟩; first | (rw [jFl, if_pos ⟨c_10, c_19⟩]; done) | (rw [jFl, if_neg (fun h9 => c_10 h9.1)]; done) | (rw [jFl, if_neg (fun h9 => h9.2 c_19)]; done)) dJ9_floorDiv_f86c9_26

abbrev rmX1_crossed : Room := { frames := 0, cells := 0, slots := 0, locals := 0 }
set_option maxHeartbeats 4000000 in
set_option maxRecDepth 100000 in
/-- X1_crossed -/
theorem kX1_crossed (l : Launch) (G : kG) (B0 : Nat) (f : kH) (x1 x2 x3 x4 : Int64) : Met l yX1_crossed wsX1_crossed (rmX1_crossed) (kP G B0 f [.long x1, .long x2, .long x3, .long x4]) (kQl G B0 (fun r f1 => r = x1 * x4 - x3 * x2 ∧ f1 = f)) 0 0 (kAb B0) := by
  refine kMet (cc := cX1_crossed) (maxL := 8) (ret := (some .long)) (by decide) rfl (Nat.le_of_ble_eq_true rfl) ?_
  intro p e s m args below meth c H locs Q ls C hX hl hr hlocks hnm hQ
  have hl : lv_has ls 8 [(0, .long x1), (2, .long x2), (4, .long x3), (6, .long x4)] := hl
  refine lv_lload_n C.x C.b dX1_crossed_0 rfl (lv_at hl 0 rfl) ?_
  refine lv_lload C.x C.b dX1_crossed_1 (lv_at hl 3 rfl) ?_
  refine lv_lmul C.x C.b dX1_crossed_3 ?_
  refine lv_lload C.x C.b dX1_crossed_4 (lv_at hl 2 rfl) ?_
  refine lv_lload_n C.x C.b dX1_crossed_6 rfl (lv_at hl 1 rfl) ?_
  refine lv_lmul C.x C.b dX1_crossed_7 ?_
  refine lv_lsub C.x C.b dX1_crossed_8 ?_
  exact k_lret C hX hr hlocks hQ (by omega) (by omega) (⟨rfl, rfl⟩) dX1_crossed_9

theorem lk_X1_isLowest_lib7 : ∀ w ∈ [Cond.methodLink RX1 7 Lib.MathLoose.abs_long.x, Cond.static Lib.MathLoose.abs_long.x, Cond.initialized "java/lang/Math", Cond.code Lib.MathLoose.abs_long.x Lib.MathLoose.abs_long.code 2 (some .long)], w ∈ wsX1_isLowest := by decide +kernel
abbrev rmX1_isLowest : Room := { frames := 1, cells := 0, slots := 0, locals := 13 }
set_option maxHeartbeats 4000000 in
set_option maxRecDepth 100000 in
/-- X1_isLowest -/
theorem kX1_isLowest (l : Launch) (G : kG) (B0 : Nat) (f : kH) (x1 x2 : Int64) : Met l yX1_isLowest wsX1_isLowest (rmX1_isLowest) (kP G B0 f [.long x1, .long x2]) (kQi G B0 (fun r f1 => r = kbI (cEu 1000 (jAbs x1) x2 = 1) ∧ f1 = f)) 0 0 (kAb B0) := by
  refine kMet (cc := cX1_isLowest) (maxL := 11) (ret := (some .boolean)) (by decide) rfl (Nat.le_of_ble_eq_true rfl) ?_
  intro p e s m args below meth c H locs Q ls C hX hl hr hlocks hnm hQ
  have hl : lv_has ls 11 [(0, .long x1), (2, .long x2)] := hl
  refine lv_lload_n C.x C.b dX1_isLowest_0 rfl (lv_at hl 0 rfl) ?_
  refine k_mabsL C (by rw [C.ml]; exact hl.1.symm) lk_X1_isLowest_lib7 (Nat.le_of_ble_eq_true rfl) (Nat.le_of_ble_eq_true rfl) (by have h9 : rmX1_isLowest.cells = 0 := rfl; omega) (by have h9 : rmX1_isLowest.slots = 0 := rfl; omega) dX1_isLowest_1 ?_
  refine lv_lstore (lv' := [(4, .long (if 0 < x1 then x1 else -x1)), (0, .long x1), (2, .long x2)]) C.x C.b dX1_isLowest_4 hl (by decide) rfl (fun ls hl => ?_)
  refine lv_lload_n C.x C.b dX1_isLowest_6 rfl (lv_at hl 2 rfl) ?_
  refine lv_lstore (lv' := [(6, .long x2), (4, .long (if 0 < x1 then x1 else -x1)), (0, .long x1), (2, .long x2)]) C.x C.b dX1_isLowest_7 hl (by decide) rfl (fun ls hl => ?_)
  refine lv_iconst (v := nI 0) C.x C.b dX1_isLowest_9 (by decide) ?_
  refine lv_istore (lv' := [(8, .int (nI 0)), (6, .long x2), (4, .long (if 0 < x1 then x1 else -x1)), (0, .long x1), (2, .long x2)]) C.x C.b dX1_isLowest_10 hl (by decide) rfl (fun ls hl => ?_)
  have LOOP12 : ∀ (n : Nat) (k : Nat) (a b : Int64), (k ≤ 1000) → (cEu (1000 - k) a b = cEu 1000 (jAbs x1) x2) → (1000 - k) < n → ∀ (ls : Array Slot), lv_has ls 11 [(4, .long a), (6, .long b), (8, .int (nI k)), (0, .long x1), (2, .long x2)] → ∀ (H : Heap) (locs : List Loc), kX G B0 s f H locs → W p l e (rmX1_isLowest) s m args below meth c H locs 0 0 Q (F0 m 12 ls []) := by
    intro n12
    induction n12 with
    | zero => intro k a b hk hv hn; exact absurd hn (Nat.not_lt_zero _)
    | succ n12 ih12 =>
      intro k a b hk hv hn ls hl H locs hX
      refine lv_iload C.x C.b dX1_isLowest_12 (lv_at hl 2 rfl) ?_
      refine lv_sipush (v := nI 1000) C.x C.b dX1_isLowest_14 (by decide) ?_
      refine lv_icmp_ge (tgt := 48) C.x C.b dX1_isLowest_17 (by decide) (fun c_17 => ?_) (fun c_17 => ?_)
      · skip
        have c_17 : 1000 ≤ k := (nI_leI (by omega) (by omega)).mp c_17
        refine lv_lload C.x C.b dX1_isLowest_48 (lv_at hl 0 rfl) ?_
        refine lv_lconst (v := 1) C.x C.b dX1_isLowest_50 (by decide) ?_
        refine k_lcmp_ne (tgt := 59) C.x C.b dX1_isLowest_51 dX1_isLowest_52 (by decide) (fun c_52 => ?_) (fun c_52 => ?_)
        · skip
          refine lv_iconst (v := nI 0) C.x C.b dX1_isLowest_59 (by decide) ?_
          exact k_zret C hX hr hlocks hQ (by omega) (by omega) (by first | exact kbI_01 _ | exact Or.inl rfl | exact Or.inr rfl) (by refine ⟨?_, rfl⟩; rw [← show a = cEu 1000 (jAbs x1) x2 from (by rw [← hv]; first | (rw [show 1000 - k = 0 by omega, cEu]; done) | (rw [show 1000 - k = (1000 - (k + 1)) + 1 by omega, cEu, if_pos c_24]; done))]; first | exact kbI_tN c_52 | exact kbI_fN c_52) dX1_isLowest_60
        · skip
          refine lv_iconst (v := nI 1) C.x C.b dX1_isLowest_55 (by decide) ?_
          refine lv_goto (tgt := 60) C.x C.b dX1_isLowest_56 (by decide) ?_
          exact k_zret C hX hr hlocks hQ (by omega) (by omega) (by first | exact kbI_01 _ | exact Or.inl rfl | exact Or.inr rfl) (by refine ⟨?_, rfl⟩; rw [← show a = cEu 1000 (jAbs x1) x2 from (by rw [← hv]; first | (rw [show 1000 - k = 0 by omega, cEu]; done) | (rw [show 1000 - k = (1000 - (k + 1)) + 1 by omega, cEu, if_pos c_24]; done))]; first | exact kbI_tN c_52 | exact kbI_fN c_52) dX1_isLowest_60
      · skip
        have c_17 : ¬ (1000 ≤ k) := fun h9 => c_17 ((nI_leI (by omega) (by omega)).mpr h9)
        refine lv_lload C.x C.b dX1_isLowest_20 (lv_at hl 1 rfl) ?_
        refine lv_lconst (v := 0) C.x C.b dX1_isLowest_22 (by decide) ?_
        refine k_lcmp_eq (tgt := 48) C.x C.b dX1_isLowest_23 dX1_isLowest_24 (by decide) (fun c_24 => ?_) (fun c_24 => ?_)
        · skip
          refine lv_lload C.x C.b dX1_isLowest_48 (lv_at hl 0 rfl) ?_
          refine lv_lconst (v := 1) C.x C.b dX1_isLowest_50 (by decide) ?_
          refine k_lcmp_ne (tgt := 59) C.x C.b dX1_isLowest_51 dX1_isLowest_52 (by decide) (fun c_52 => ?_) (fun c_52 => ?_)
          · skip
            refine lv_iconst (v := nI 0) C.x C.b dX1_isLowest_59 (by decide) ?_
            exact k_zret C hX hr hlocks hQ (by omega) (by omega) (by first | exact kbI_01 _ | exact Or.inl rfl | exact Or.inr rfl) (by refine ⟨?_, rfl⟩; rw [← show a = cEu 1000 (jAbs x1) x2 from (by rw [← hv]; first | (rw [show 1000 - k = 0 by omega, cEu]; done) | (rw [show 1000 - k = (1000 - (k + 1)) + 1 by omega, cEu, if_pos c_24]; done))]; first | exact kbI_tN c_52 | exact kbI_fN c_52) dX1_isLowest_60
          · skip
            refine lv_iconst (v := nI 1) C.x C.b dX1_isLowest_55 (by decide) ?_
            refine lv_goto (tgt := 60) C.x C.b dX1_isLowest_56 (by decide) ?_
            exact k_zret C hX hr hlocks hQ (by omega) (by omega) (by first | exact kbI_01 _ | exact Or.inl rfl | exact Or.inr rfl) (by refine ⟨?_, rfl⟩; rw [← show a = cEu 1000 (jAbs x1) x2 from (by rw [← hv]; first | (rw [show 1000 - k = 0 by omega, cEu]; done) | (rw [show 1000 - k = (1000 - (k + 1)) + 1 by omega, cEu, if_pos c_24]; done))]; first | exact kbI_tN c_52 | exact kbI_fN c_52) dX1_isLowest_60
        · skip
          refine lv_lload C.x C.b dX1_isLowest_27 (lv_at hl 0 rfl) ?_
          refine lv_lload C.x C.b dX1_isLowest_29 (lv_at hl 1 rfl) ?_
          refine lv_lrem C.x C.b dX1_isLowest_31 (c_24) ?_
          refine lv_lstore (lv' := [(9, .long (a - a / b * b)), (4, .long a), (6, .long b), (8, .int (nI k)), (0, .long x1), (2, .long x2)]) C.x C.b dX1_isLowest_32 hl (by decide) rfl (fun ls hl => ?_)
          refine lv_lload C.x C.b dX1_isLowest_34 (lv_at hl 2 rfl) ?_
          refine lv_lstore (lv' := [(4, .long b), (9, .long (a - a / b * b)), (6, .long b), (8, .int (nI k)), (0, .long x1), (2, .long x2)]) C.x C.b dX1_isLowest_36 hl (by decide) rfl (fun ls hl => ?_)
          refine lv_lload C.x C.b dX1_isLowest_38 (lv_at hl 1 rfl) ?_
          refine lv_lstore (lv' := [(6, .long (a - a / b * b)), (4, .long b), (9, .long (a - a / b * b)), (8, .int (nI k)), (0, .long x1), (2, .long x2)]) C.x C.b dX1_isLowest_40 hl (by decide) rfl (fun ls hl => ?_)
          refine lv_iinc (v := (nI (k + 1))) (lv' := [(8, .int (nI (k + 1))), (6, .long (a - a / b * b)), (4, .long b), (9, .long (a - a / b * b)), (0, .long x1), (2, .long x2)]) C.x C.b dX1_isLowest_42 hl (k := 3) rfl (nI_1 _) (by decide) rfl (fun ls hl => ?_)
          refine lv_goto (tgt := 12) C.x C.b dX1_isLowest_45 (by decide) ?_
          exact ih12 (k + 1) b (lrem a b) (by omega) (by rw [← hv, show 1000 - k = (1000 - (k + 1)) + 1 by omega, cEu, if_neg c_24]) (by omega) ls (lv_sub hl [2, 1, 0, 4, 5] rfl) _ _ hX
  exact LOOP12 _ 0 (jAbs x1) x2 (by omega) rfl (Nat.lt_succ_self _) ls (lv_sub hl [2, 1, 0, 3, 4] rfl) _ _ hX

theorem hdX1_simplest_J9_floorDiv_f86c9 : yJ9_floorDiv_f86c9.cls ≠ "java/lang/invoke/MethodHandle" ∧ yJ9_floorDiv_f86c9.cls ≠ "java/lang/invoke/VarHandle" ∧ (parseMethodDescriptor yJ9_floorDiv_f86c9.desc).map (fun d => d.parameters.length) = some 2 := by decide +kernel
abbrev rmX1_simplest : Room := { frames := 1, cells := 0, slots := 0, locals := 25 }
set_option maxHeartbeats 4000000 in
set_option maxRecDepth 100000 in
/-- X1_simplest -/
theorem kX1_simplest (l : Launch) (G : kG) (B0 : Nat) (f : kH) (x1 x2 x3 x4 : Int64) (z : Int32) : Met l yX1_simplest wsX1_simplest (rmX1_simplest) (kP G B0 f [.long x1, .long x2, .long x3, .long x4, .int z]) (kQl G B0 (fun r f1 => r = (if z = 0 then (cSim 1000 x1 x2 x3 x4 1 0 0 1).2 else (cSim 1000 x1 x2 x3 x4 1 0 0 1).1) ∧ f1 = f)) 0 0 (kAb B0) := by
  refine kMet (cc := cX1_simplest) (maxL := 39) (ret := (some .long)) (by decide) rfl (Nat.le_of_ble_eq_true rfl) ?_
  intro p e s m args below meth c H locs Q ls C hX hl hr hlocks hnm hQ
  have hl : lv_has ls 39 [(0, .long x1), (2, .long x2), (4, .long x3), (6, .long x4), (8, .int z)] := hl
  refine lv_lload_n C.x C.b dX1_simplest_0 rfl (lv_at hl 0 rfl) ?_
  refine lv_lstore (lv' := [(9, .long x1), (0, .long x1), (2, .long x2), (4, .long x3), (6, .long x4), (8, .int z)]) C.x C.b dX1_simplest_1 hl (by decide) rfl (fun ls hl => ?_)
  refine lv_lload_n C.x C.b dX1_simplest_3 rfl (lv_at hl 2 rfl) ?_
  refine lv_lstore (lv' := [(11, .long x2), (9, .long x1), (0, .long x1), (2, .long x2), (4, .long x3), (6, .long x4), (8, .int z)]) C.x C.b dX1_simplest_4 hl (by decide) rfl (fun ls hl => ?_)
  refine lv_lload C.x C.b dX1_simplest_6 (lv_at hl 4 rfl) ?_
  refine lv_lstore (lv' := [(13, .long x3), (11, .long x2), (9, .long x1), (0, .long x1), (2, .long x2), (4, .long x3), (6, .long x4), (8, .int z)]) C.x C.b dX1_simplest_8 hl (by decide) rfl (fun ls hl => ?_)
  refine lv_lload C.x C.b dX1_simplest_10 (lv_at hl 6 rfl) ?_
  refine lv_lstore (lv' := [(15, .long x4), (13, .long x3), (11, .long x2), (9, .long x1), (0, .long x1), (2, .long x2), (4, .long x3), (6, .long x4), (8, .int z)]) C.x C.b dX1_simplest_12 hl (by decide) rfl (fun ls hl => ?_)
  refine lv_lconst (v := 1) C.x C.b dX1_simplest_14 (by decide) ?_
  refine lv_lstore (lv' := [(17, .long 1), (15, .long x4), (13, .long x3), (11, .long x2), (9, .long x1), (0, .long x1), (2, .long x2), (4, .long x3), (6, .long x4), (8, .int z)]) C.x C.b dX1_simplest_15 hl (by decide) rfl (fun ls hl => ?_)
  refine lv_lconst (v := 0) C.x C.b dX1_simplest_17 (by decide) ?_
  refine lv_lstore (lv' := [(19, .long 0), (17, .long 1), (15, .long x4), (13, .long x3), (11, .long x2), (9, .long x1), (0, .long x1), (2, .long x2), (4, .long x3), (6, .long x4), (8, .int z)]) C.x C.b dX1_simplest_18 hl (by decide) rfl (fun ls hl => ?_)
  refine lv_lconst (v := 0) C.x C.b dX1_simplest_20 (by decide) ?_
  refine lv_lstore (lv' := [(21, .long 0), (19, .long 0), (17, .long 1), (15, .long x4), (13, .long x3), (11, .long x2), (9, .long x1), (0, .long x1), (2, .long x2), (4, .long x3), (6, .long x4), (8, .int z)]) C.x C.b dX1_simplest_21 hl (by decide) rfl (fun ls hl => ?_)
  refine lv_lconst (v := 1) C.x C.b dX1_simplest_23 (by decide) ?_
  refine lv_lstore (lv' := [(23, .long 1), (21, .long 0), (19, .long 0), (17, .long 1), (15, .long x4), (13, .long x3), (11, .long x2), (9, .long x1), (0, .long x1), (2, .long x2), (4, .long x3), (6, .long x4), (8, .int z)]) C.x C.b dX1_simplest_24 hl (by decide) rfl (fun ls hl => ?_)
  refine lv_iconst (v := nI 0) C.x C.b dX1_simplest_26 (by decide) ?_
  refine lv_istore (lv' := [(25, .int (nI 0)), (23, .long 1), (21, .long 0), (19, .long 0), (17, .long 1), (15, .long x4), (13, .long x3), (11, .long x2), (9, .long x1), (0, .long x1), (2, .long x2), (4, .long x3), (6, .long x4), (8, .int z)]) C.x C.b dX1_simplest_27 hl (by decide) rfl (fun ls hl => ?_)
  refine lv_iconst (v := nI 0) C.x C.b dX1_simplest_29 (by decide) ?_
  refine lv_istore (lv' := [(26, .int (nI 0)), (25, .int (nI 0)), (23, .long 1), (21, .long 0), (19, .long 0), (17, .long 1), (15, .long x4), (13, .long x3), (11, .long x2), (9, .long x1), (0, .long x1), (2, .long x2), (4, .long x3), (6, .long x4), (8, .int z)]) C.x C.b dX1_simplest_30 hl (by decide) rfl (fun ls hl => ?_)
  have LOOP32 : ∀ (n : Nat) (k : Nat) (fd : Int32) (lt lb ht hb tt tb bt bb : Int64), (k ≤ 1000) → ((fd = 0 ∧ cSim (1000 - k) lt lb ht hb tt tb bt bb = cSim 1000 x1 x2 x3 x4 1 0 0 1) ∨ (fd ≠ 0 ∧ (tt, bt) = cSim 1000 x1 x2 x3 x4 1 0 0 1)) → (1000 - k) < n → ∀ (ls : Array Slot), lv_has ls 39 [(9, .long lt), (11, .long lb), (13, .long ht), (15, .long hb), (17, .long tt), (19, .long tb), (21, .long bt), (23, .long bb), (25, .int fd), (26, .int (nI k)), (8, .int z)] → ∀ (H : Heap) (locs : List Loc), kX G B0 s f H locs → W p l e (rmX1_simplest) s m args below meth c H locs 0 0 Q (F0 m 32 ls []) := by
    intro n32
    induction n32 with
    | zero => intro k fd lt lb ht hb tt tb bt bb hk hv hn; exact absurd hn (Nat.not_lt_zero _)
    | succ n32 ih32 =>
      intro k fd lt lb ht hb tt tb bt bb hk hv hn ls hl H locs hX
      refine lv_iload C.x C.b dX1_simplest_32 (lv_at hl 9 rfl) ?_
      refine lv_sipush (v := nI 1000) C.x C.b dX1_simplest_34 (by decide) ?_
      refine lv_icmp_ge (tgt := 175) C.x C.b dX1_simplest_37 (by decide) (fun c_37 => ?_) (fun c_37 => ?_)
      · skip
        have c_37 : 1000 ≤ k := (nI_leI (by omega) (by omega)).mp c_37
        refine lv_iload C.x C.b dX1_simplest_175 (lv_at hl 10 rfl) ?_
        refine lv_if_eq (tgt := 185) C.x C.b dX1_simplest_177 (by decide) (fun c_177 => ?_) (fun c_177 => ?_)
        · skip
          refine lv_lload C.x C.b dX1_simplest_185 (lv_at hl 6 rfl) ?_
          exact k_lret C hX hr hlocks hQ (by omega) (by omega) (by refine ⟨?_, rfl⟩; rw [← show (tt, bt) = cSim 1000 x1 x2 x3 x4 1 0 0 1 from (by rcases hv with hv | hv <;> first | exact hv.2 | exact absurd hv.1 c_42 | (rw [← hv.2, show 1000 - k = 0 by omega, cSim]; done) | (rw [← hv.2, show 1000 - k = (1000 - (k + 1)) + 1 by omega, cSim, if_neg c_49]; done))]; first | (rw [if_pos c_177]; done) | (rw [if_neg c_177]; done)) dX1_simplest_187
        · skip
          refine lv_lload C.x C.b dX1_simplest_180 (lv_at hl 4 rfl) ?_
          refine lv_goto (tgt := 187) C.x C.b dX1_simplest_182 (by decide) ?_
          exact k_lret C hX hr hlocks hQ (by omega) (by omega) (by refine ⟨?_, rfl⟩; rw [← show (tt, bt) = cSim 1000 x1 x2 x3 x4 1 0 0 1 from (by rcases hv with hv | hv <;> first | exact hv.2 | exact absurd hv.1 c_42 | (rw [← hv.2, show 1000 - k = 0 by omega, cSim]; done) | (rw [← hv.2, show 1000 - k = (1000 - (k + 1)) + 1 by omega, cSim, if_neg c_49]; done))]; first | (rw [if_pos c_177]; done) | (rw [if_neg c_177]; done)) dX1_simplest_187
      · skip
        have c_37 : ¬ (1000 ≤ k) := fun h9 => c_37 ((nI_leI (by omega) (by omega)).mpr h9)
        refine lv_iload C.x C.b dX1_simplest_40 (lv_at hl 8 rfl) ?_
        refine lv_if_ne (tgt := 175) C.x C.b dX1_simplest_42 (by decide) (fun c_42 => ?_) (fun c_42 => ?_)
        · skip
          refine lv_iload C.x C.b dX1_simplest_175 (lv_at hl 10 rfl) ?_
          refine lv_if_eq (tgt := 185) C.x C.b dX1_simplest_177 (by decide) (fun c_177 => ?_) (fun c_177 => ?_)
          · skip
            refine lv_lload C.x C.b dX1_simplest_185 (lv_at hl 6 rfl) ?_
            exact k_lret C hX hr hlocks hQ (by omega) (by omega) (by refine ⟨?_, rfl⟩; rw [← show (tt, bt) = cSim 1000 x1 x2 x3 x4 1 0 0 1 from (by rcases hv with hv | hv <;> first | exact hv.2 | exact absurd hv.1 c_42 | (rw [← hv.2, show 1000 - k = 0 by omega, cSim]; done) | (rw [← hv.2, show 1000 - k = (1000 - (k + 1)) + 1 by omega, cSim, if_neg c_49]; done))]; first | (rw [if_pos c_177]; done) | (rw [if_neg c_177]; done)) dX1_simplest_187
          · skip
            refine lv_lload C.x C.b dX1_simplest_180 (lv_at hl 4 rfl) ?_
            refine lv_goto (tgt := 187) C.x C.b dX1_simplest_182 (by decide) ?_
            exact k_lret C hX hr hlocks hQ (by omega) (by omega) (by refine ⟨?_, rfl⟩; rw [← show (tt, bt) = cSim 1000 x1 x2 x3 x4 1 0 0 1 from (by rcases hv with hv | hv <;> first | exact hv.2 | exact absurd hv.1 c_42 | (rw [← hv.2, show 1000 - k = 0 by omega, cSim]; done) | (rw [← hv.2, show 1000 - k = (1000 - (k + 1)) + 1 by omega, cSim, if_neg c_49]; done))]; first | (rw [if_pos c_177]; done) | (rw [if_neg c_177]; done)) dX1_simplest_187
        · skip
          have hv1 : cSim (1000 - k) lt lb ht hb tt tb bt bb = cSim 1000 x1 x2 x3 x4 1 0 0 1 := hv.elim (fun h9 => h9.2) (fun h9 => absurd c_42 h9.1)
          refine lv_lload C.x C.b dX1_simplest_45 (lv_at hl 1 rfl) ?_
          refine lv_lconst (v := 0) C.x C.b dX1_simplest_47 (by decide) ?_
          refine k_lcmp_le (tgt := 175) C.x C.b dX1_simplest_48 dX1_simplest_49 (by decide) (fun c_49 => ?_) (fun c_49 => ?_)
          · skip
            refine lv_iload C.x C.b dX1_simplest_175 (lv_at hl 10 rfl) ?_
            refine lv_if_eq (tgt := 185) C.x C.b dX1_simplest_177 (by decide) (fun c_177 => ?_) (fun c_177 => ?_)
            · skip
              refine lv_lload C.x C.b dX1_simplest_185 (lv_at hl 6 rfl) ?_
              exact k_lret C hX hr hlocks hQ (by omega) (by omega) (by refine ⟨?_, rfl⟩; rw [← show (tt, bt) = cSim 1000 x1 x2 x3 x4 1 0 0 1 from (by rcases hv with hv | hv <;> first | exact hv.2 | exact absurd hv.1 c_42 | (rw [← hv.2, show 1000 - k = 0 by omega, cSim]; done) | (rw [← hv.2, show 1000 - k = (1000 - (k + 1)) + 1 by omega, cSim, if_neg c_49]; done))]; first | (rw [if_pos c_177]; done) | (rw [if_neg c_177]; done)) dX1_simplest_187
            · skip
              refine lv_lload C.x C.b dX1_simplest_180 (lv_at hl 4 rfl) ?_
              refine lv_goto (tgt := 187) C.x C.b dX1_simplest_182 (by decide) ?_
              exact k_lret C hX hr hlocks hQ (by omega) (by omega) (by refine ⟨?_, rfl⟩; rw [← show (tt, bt) = cSim 1000 x1 x2 x3 x4 1 0 0 1 from (by rcases hv with hv | hv <;> first | exact hv.2 | exact absurd hv.1 c_42 | (rw [← hv.2, show 1000 - k = 0 by omega, cSim]; done) | (rw [← hv.2, show 1000 - k = (1000 - (k + 1)) + 1 by omega, cSim, if_neg c_49]; done))]; first | (rw [if_pos c_177]; done) | (rw [if_neg c_177]; done)) dX1_simplest_187
          · skip
            have hne : lb ≠ 0 := fun h9 => by rw [h9] at c_49; exact absurd c_49 (by decide)
            refine lv_lload C.x C.b dX1_simplest_52 (lv_at hl 0 rfl) ?_
            refine lv_lload C.x C.b dX1_simplest_54 (lv_at hl 1 rfl) ?_
            refine k_calll (va_runS (As := [.long lt, .long lb]) (rest := []) C.1 (kJ9_floorDiv_f86c9 l G B0 f lt lb hne) (va_cwS 2 C.ts gX1_simplest_J9_floorDiv_f86c9 rfl rfl rfl (hdX1_simplest_J9_floorDiv_f86c9) ⟨Nat.le_of_ble_eq_true rfl, Nat.le_of_ble_eq_true rfl⟩) (k_preS C hX) rfl rfl hl.1 rfl (lv_room (Nat.le_of_ble_eq_true rfl)) dX1_simplest_56 ⟨Nat.le_of_ble_eq_true rfl, Nat.le_of_ble_eq_true rfl⟩) hX (fun r56 f56 H locs hp56 hX => ?_)
            obtain ⟨hr56, hf56⟩ := hp56
            rw [hf56] at hX
            refine k_topl (y := (jFl lt lb)) hr56 ?_
            refine lv_lstore (lv' := [(27, .long (jFl lt lb)), (9, .long lt), (11, .long lb), (13, .long ht), (15, .long hb), (17, .long tt), (19, .long tb), (21, .long bt), (23, .long bb), (25, .int fd), (26, .int (nI k)), (8, .int z)]) C.x C.b dX1_simplest_59 hl (by decide) rfl (fun ls hl => ?_)
            refine lv_lload C.x C.b dX1_simplest_61 (lv_at hl 0 rfl) ?_
            refine lv_lconst (v := 1) C.x C.b dX1_simplest_63 (by decide) ?_
            refine lv_ladd C.x C.b dX1_simplest_64 ?_
            refine lv_lload C.x C.b dX1_simplest_65 (lv_at hl 4 rfl) ?_
            refine lv_lmul C.x C.b dX1_simplest_67 ?_
            refine lv_lload C.x C.b dX1_simplest_68 (lv_at hl 3 rfl) ?_
            refine k_lcmp_ge (tgt := 78) C.x C.b dX1_simplest_70 dX1_simplest_71 (by decide) (fun c_71 => ?_) (fun c_71 => ?_)
            · skip
              refine lv_iconst (v := nI 0) C.x C.b dX1_simplest_78 (by decide) ?_
              refine lv_istore (lv' := [(25, .int (nI 0)), (27, .long (jFl lt lb)), (9, .long lt), (11, .long lb), (13, .long ht), (15, .long hb), (17, .long tt), (19, .long tb), (21, .long bt), (23, .long bb), (26, .int (nI k)), (8, .int z)]) C.x C.b dX1_simplest_79 hl (by decide) rfl (fun ls hl => ?_)
              refine lv_iload C.x C.b dX1_simplest_81 (lv_at hl 0 rfl) ?_
              refine lv_if_eq (tgt := 93) C.x C.b dX1_simplest_83 (by decide) (fun c_83 => ?_) (fun c_83 => ?_)
              rotate_left
              · exact absurd c_83 (by decide)
              refine lv_lload C.x C.b dX1_simplest_93 (lv_at hl 1 rfl) ?_
              refine lv_lstore (lv' := [(29, .long (jFl lt lb)), (25, .int (nI 0)), (27, .long (jFl lt lb)), (9, .long lt), (11, .long lb), (13, .long ht), (15, .long hb), (17, .long tt), (19, .long tb), (21, .long bt), (23, .long bb), (26, .int (nI k)), (8, .int z)]) C.x C.b dX1_simplest_95 hl (by decide) rfl (fun ls hl => ?_)
              refine lv_lload C.x C.b dX1_simplest_97 (lv_at hl 0 rfl) ?_
              refine lv_lload C.x C.b dX1_simplest_99 (lv_at hl 7 rfl) ?_
              refine lv_lmul C.x C.b dX1_simplest_101 ?_
              refine lv_lload C.x C.b dX1_simplest_102 (lv_at hl 8 rfl) ?_
              refine lv_ladd C.x C.b dX1_simplest_104 ?_
              refine lv_lstore (lv' := [(31, .long (((jFl lt lb) * tt) + tb)), (29, .long (jFl lt lb)), (25, .int (nI 0)), (27, .long (jFl lt lb)), (9, .long lt), (11, .long lb), (13, .long ht), (15, .long hb), (17, .long tt), (19, .long tb), (21, .long bt), (23, .long bb), (26, .int (nI k)), (8, .int z)]) C.x C.b dX1_simplest_105 hl (by decide) rfl (fun ls hl => ?_)
              refine lv_lload C.x C.b dX1_simplest_107 (lv_at hl 8 rfl) ?_
              refine lv_lstore (lv' := [(19, .long tt), (31, .long (((jFl lt lb) * tt) + tb)), (29, .long (jFl lt lb)), (25, .int (nI 0)), (27, .long (jFl lt lb)), (9, .long lt), (11, .long lb), (13, .long ht), (15, .long hb), (17, .long tt), (21, .long bt), (23, .long bb), (26, .int (nI k)), (8, .int z)]) C.x C.b dX1_simplest_109 hl (by decide) rfl (fun ls hl => ?_)
              refine lv_lload C.x C.b dX1_simplest_111 (lv_at hl 1 rfl) ?_
              refine lv_lstore (lv' := [(17, .long (((jFl lt lb) * tt) + tb)), (19, .long tt), (31, .long (((jFl lt lb) * tt) + tb)), (29, .long (jFl lt lb)), (25, .int (nI 0)), (27, .long (jFl lt lb)), (9, .long lt), (11, .long lb), (13, .long ht), (15, .long hb), (21, .long bt), (23, .long bb), (26, .int (nI k)), (8, .int z)]) C.x C.b dX1_simplest_113 hl (by decide) rfl (fun ls hl => ?_)
              refine lv_lload C.x C.b dX1_simplest_115 (lv_at hl 3 rfl) ?_
              refine lv_lload C.x C.b dX1_simplest_117 (lv_at hl 10 rfl) ?_
              refine lv_lmul C.x C.b dX1_simplest_119 ?_
              refine lv_lload C.x C.b dX1_simplest_120 (lv_at hl 11 rfl) ?_
              refine lv_ladd C.x C.b dX1_simplest_122 ?_
              refine lv_lstore (lv' := [(33, .long (((jFl lt lb) * bt) + bb)), (17, .long (((jFl lt lb) * tt) + tb)), (19, .long tt), (31, .long (((jFl lt lb) * tt) + tb)), (29, .long (jFl lt lb)), (25, .int (nI 0)), (27, .long (jFl lt lb)), (9, .long lt), (11, .long lb), (13, .long ht), (15, .long hb), (21, .long bt), (23, .long bb), (26, .int (nI k)), (8, .int z)]) C.x C.b dX1_simplest_123 hl (by decide) rfl (fun ls hl => ?_)
              refine lv_lload C.x C.b dX1_simplest_125 (lv_at hl 11 rfl) ?_
              refine lv_lstore (lv' := [(23, .long bt), (33, .long (((jFl lt lb) * bt) + bb)), (17, .long (((jFl lt lb) * tt) + tb)), (19, .long tt), (31, .long (((jFl lt lb) * tt) + tb)), (29, .long (jFl lt lb)), (25, .int (nI 0)), (27, .long (jFl lt lb)), (9, .long lt), (11, .long lb), (13, .long ht), (15, .long hb), (21, .long bt), (26, .int (nI k)), (8, .int z)]) C.x C.b dX1_simplest_127 hl (by decide) rfl (fun ls hl => ?_)
              refine lv_lload C.x C.b dX1_simplest_129 (lv_at hl 1 rfl) ?_
              refine lv_lstore (lv' := [(21, .long (((jFl lt lb) * bt) + bb)), (23, .long bt), (33, .long (((jFl lt lb) * bt) + bb)), (17, .long (((jFl lt lb) * tt) + tb)), (19, .long tt), (31, .long (((jFl lt lb) * tt) + tb)), (29, .long (jFl lt lb)), (25, .int (nI 0)), (27, .long (jFl lt lb)), (9, .long lt), (11, .long lb), (13, .long ht), (15, .long hb), (26, .int (nI k)), (8, .int z)]) C.x C.b dX1_simplest_131 hl (by decide) rfl (fun ls hl => ?_)
              refine lv_lload C.x C.b dX1_simplest_133 (lv_at hl 9 rfl) ?_
              refine lv_lload C.x C.b dX1_simplest_135 (lv_at hl 8 rfl) ?_
              refine lv_lload C.x C.b dX1_simplest_137 (lv_at hl 10 rfl) ?_
              refine lv_lmul C.x C.b dX1_simplest_139 ?_
              refine lv_lsub C.x C.b dX1_simplest_140 ?_
              refine lv_lstore (lv' := [(35, .long (lt - ((jFl lt lb) * lb))), (21, .long (((jFl lt lb) * bt) + bb)), (23, .long bt), (33, .long (((jFl lt lb) * bt) + bb)), (17, .long (((jFl lt lb) * tt) + tb)), (19, .long tt), (31, .long (((jFl lt lb) * tt) + tb)), (29, .long (jFl lt lb)), (25, .int (nI 0)), (27, .long (jFl lt lb)), (9, .long lt), (11, .long lb), (13, .long ht), (15, .long hb), (26, .int (nI k)), (8, .int z)]) C.x C.b dX1_simplest_141 hl (by decide) rfl (fun ls hl => ?_)
              refine lv_lload C.x C.b dX1_simplest_143 (lv_at hl 12 rfl) ?_
              refine lv_lload C.x C.b dX1_simplest_145 (lv_at hl 9 rfl) ?_
              refine lv_lload C.x C.b dX1_simplest_147 (lv_at hl 13 rfl) ?_
              refine lv_lmul C.x C.b dX1_simplest_149 ?_
              refine lv_lsub C.x C.b dX1_simplest_150 ?_
              refine lv_lstore (lv' := [(37, .long (ht - ((jFl lt lb) * hb))), (35, .long (lt - ((jFl lt lb) * lb))), (21, .long (((jFl lt lb) * bt) + bb)), (23, .long bt), (33, .long (((jFl lt lb) * bt) + bb)), (17, .long (((jFl lt lb) * tt) + tb)), (19, .long tt), (31, .long (((jFl lt lb) * tt) + tb)), (29, .long (jFl lt lb)), (25, .int (nI 0)), (27, .long (jFl lt lb)), (9, .long lt), (11, .long lb), (13, .long ht), (15, .long hb), (26, .int (nI k)), (8, .int z)]) C.x C.b dX1_simplest_151 hl (by decide) rfl (fun ls hl => ?_)
              refine lv_lload C.x C.b dX1_simplest_153 (lv_at hl 12 rfl) ?_
              refine lv_lstore (lv' := [(13, .long lb), (37, .long (ht - ((jFl lt lb) * hb))), (35, .long (lt - ((jFl lt lb) * lb))), (21, .long (((jFl lt lb) * bt) + bb)), (23, .long bt), (33, .long (((jFl lt lb) * bt) + bb)), (17, .long (((jFl lt lb) * tt) + tb)), (19, .long tt), (31, .long (((jFl lt lb) * tt) + tb)), (29, .long (jFl lt lb)), (25, .int (nI 0)), (27, .long (jFl lt lb)), (9, .long lt), (11, .long lb), (15, .long hb), (26, .int (nI k)), (8, .int z)]) C.x C.b dX1_simplest_155 hl (by decide) rfl (fun ls hl => ?_)
              refine lv_lload C.x C.b dX1_simplest_157 (lv_at hl 14 rfl) ?_
              refine lv_lstore (lv' := [(9, .long hb), (13, .long lb), (37, .long (ht - ((jFl lt lb) * hb))), (35, .long (lt - ((jFl lt lb) * lb))), (21, .long (((jFl lt lb) * bt) + bb)), (23, .long bt), (33, .long (((jFl lt lb) * bt) + bb)), (17, .long (((jFl lt lb) * tt) + tb)), (19, .long tt), (31, .long (((jFl lt lb) * tt) + tb)), (29, .long (jFl lt lb)), (25, .int (nI 0)), (27, .long (jFl lt lb)), (11, .long lb), (15, .long hb), (26, .int (nI k)), (8, .int z)]) C.x C.b dX1_simplest_159 hl (by decide) rfl (fun ls hl => ?_)
              refine lv_lload C.x C.b dX1_simplest_161 (lv_at hl 3 rfl) ?_
              refine lv_lstore (lv' := [(15, .long (lt - ((jFl lt lb) * lb))), (9, .long hb), (13, .long lb), (37, .long (ht - ((jFl lt lb) * hb))), (35, .long (lt - ((jFl lt lb) * lb))), (21, .long (((jFl lt lb) * bt) + bb)), (23, .long bt), (33, .long (((jFl lt lb) * bt) + bb)), (17, .long (((jFl lt lb) * tt) + tb)), (19, .long tt), (31, .long (((jFl lt lb) * tt) + tb)), (29, .long (jFl lt lb)), (25, .int (nI 0)), (27, .long (jFl lt lb)), (11, .long lb), (26, .int (nI k)), (8, .int z)]) C.x C.b dX1_simplest_163 hl (by decide) rfl (fun ls hl => ?_)
              refine lv_lload C.x C.b dX1_simplest_165 (lv_at hl 3 rfl) ?_
              refine lv_lstore (lv' := [(11, .long (ht - ((jFl lt lb) * hb))), (15, .long (lt - ((jFl lt lb) * lb))), (9, .long hb), (13, .long lb), (37, .long (ht - ((jFl lt lb) * hb))), (35, .long (lt - ((jFl lt lb) * lb))), (21, .long (((jFl lt lb) * bt) + bb)), (23, .long bt), (33, .long (((jFl lt lb) * bt) + bb)), (17, .long (((jFl lt lb) * tt) + tb)), (19, .long tt), (31, .long (((jFl lt lb) * tt) + tb)), (29, .long (jFl lt lb)), (25, .int (nI 0)), (27, .long (jFl lt lb)), (26, .int (nI k)), (8, .int z)]) C.x C.b dX1_simplest_167 hl (by decide) rfl (fun ls hl => ?_)
              refine lv_iinc (v := (nI (k + 1))) (lv' := [(26, .int (nI (k + 1))), (11, .long (ht - ((jFl lt lb) * hb))), (15, .long (lt - ((jFl lt lb) * lb))), (9, .long hb), (13, .long lb), (37, .long (ht - ((jFl lt lb) * hb))), (35, .long (lt - ((jFl lt lb) * lb))), (21, .long (((jFl lt lb) * bt) + bb)), (23, .long bt), (33, .long (((jFl lt lb) * bt) + bb)), (17, .long (((jFl lt lb) * tt) + tb)), (19, .long tt), (31, .long (((jFl lt lb) * tt) + tb)), (29, .long (jFl lt lb)), (25, .int (nI 0)), (27, .long (jFl lt lb)), (8, .int z)]) C.x C.b dX1_simplest_169 hl (k := 15) rfl (nI_1 _) (by decide) rfl (fun ls hl => ?_)
              refine lv_goto (tgt := 32) C.x C.b dX1_simplest_172 (by decide) ?_
              exact ih32 (k + 1) (nI 0) hb (ht - jFl lt lb * hb) lb (lt - jFl lt lb * lb) (jFl lt lb * tt + tb) tt (jFl lt lb * bt + bb) bt (by omega) (Or.inl ⟨rfl, by rw [← hv1, show 1000 - k = (1000 - (k + 1)) + 1 by omega, cSim, if_pos c_49, if_neg c_71]⟩) (by omega) ls (lv_sub hl [3, 1, 4, 2, 10, 11, 7, 8, 14, 0, 16] rfl) _ _ hX
            · skip
              refine lv_iconst (v := nI 1) C.x C.b dX1_simplest_74 (by decide) ?_
              refine lv_goto (tgt := 79) C.x C.b dX1_simplest_75 (by decide) ?_
              refine lv_istore (lv' := [(25, .int (nI 1)), (27, .long (jFl lt lb)), (9, .long lt), (11, .long lb), (13, .long ht), (15, .long hb), (17, .long tt), (19, .long tb), (21, .long bt), (23, .long bb), (26, .int (nI k)), (8, .int z)]) C.x C.b dX1_simplest_79 hl (by decide) rfl (fun ls hl => ?_)
              refine lv_iload C.x C.b dX1_simplest_81 (lv_at hl 0 rfl) ?_
              refine lv_if_eq (tgt := 93) C.x C.b dX1_simplest_83 (by decide) (fun c_83 => ?_) (fun c_83 => ?_)
              · exact absurd c_83 (by decide)
              refine lv_lload C.x C.b dX1_simplest_86 (lv_at hl 1 rfl) ?_
              refine lv_lconst (v := 1) C.x C.b dX1_simplest_88 (by decide) ?_
              refine lv_ladd C.x C.b dX1_simplest_89 ?_
              refine lv_goto (tgt := 95) C.x C.b dX1_simplest_90 (by decide) ?_
              refine lv_lstore (lv' := [(29, .long ((jFl lt lb) + 1)), (25, .int (nI 1)), (27, .long (jFl lt lb)), (9, .long lt), (11, .long lb), (13, .long ht), (15, .long hb), (17, .long tt), (19, .long tb), (21, .long bt), (23, .long bb), (26, .int (nI k)), (8, .int z)]) C.x C.b dX1_simplest_95 hl (by decide) rfl (fun ls hl => ?_)
              refine lv_lload C.x C.b dX1_simplest_97 (lv_at hl 0 rfl) ?_
              refine lv_lload C.x C.b dX1_simplest_99 (lv_at hl 7 rfl) ?_
              refine lv_lmul C.x C.b dX1_simplest_101 ?_
              refine lv_lload C.x C.b dX1_simplest_102 (lv_at hl 8 rfl) ?_
              refine lv_ladd C.x C.b dX1_simplest_104 ?_
              refine lv_lstore (lv' := [(31, .long ((((jFl lt lb) + 1) * tt) + tb)), (29, .long ((jFl lt lb) + 1)), (25, .int (nI 1)), (27, .long (jFl lt lb)), (9, .long lt), (11, .long lb), (13, .long ht), (15, .long hb), (17, .long tt), (19, .long tb), (21, .long bt), (23, .long bb), (26, .int (nI k)), (8, .int z)]) C.x C.b dX1_simplest_105 hl (by decide) rfl (fun ls hl => ?_)
              refine lv_lload C.x C.b dX1_simplest_107 (lv_at hl 8 rfl) ?_
              refine lv_lstore (lv' := [(19, .long tt), (31, .long ((((jFl lt lb) + 1) * tt) + tb)), (29, .long ((jFl lt lb) + 1)), (25, .int (nI 1)), (27, .long (jFl lt lb)), (9, .long lt), (11, .long lb), (13, .long ht), (15, .long hb), (17, .long tt), (21, .long bt), (23, .long bb), (26, .int (nI k)), (8, .int z)]) C.x C.b dX1_simplest_109 hl (by decide) rfl (fun ls hl => ?_)
              refine lv_lload C.x C.b dX1_simplest_111 (lv_at hl 1 rfl) ?_
              refine lv_lstore (lv' := [(17, .long ((((jFl lt lb) + 1) * tt) + tb)), (19, .long tt), (31, .long ((((jFl lt lb) + 1) * tt) + tb)), (29, .long ((jFl lt lb) + 1)), (25, .int (nI 1)), (27, .long (jFl lt lb)), (9, .long lt), (11, .long lb), (13, .long ht), (15, .long hb), (21, .long bt), (23, .long bb), (26, .int (nI k)), (8, .int z)]) C.x C.b dX1_simplest_113 hl (by decide) rfl (fun ls hl => ?_)
              refine lv_lload C.x C.b dX1_simplest_115 (lv_at hl 3 rfl) ?_
              refine lv_lload C.x C.b dX1_simplest_117 (lv_at hl 10 rfl) ?_
              refine lv_lmul C.x C.b dX1_simplest_119 ?_
              refine lv_lload C.x C.b dX1_simplest_120 (lv_at hl 11 rfl) ?_
              refine lv_ladd C.x C.b dX1_simplest_122 ?_
              refine lv_lstore (lv' := [(33, .long ((((jFl lt lb) + 1) * bt) + bb)), (17, .long ((((jFl lt lb) + 1) * tt) + tb)), (19, .long tt), (31, .long ((((jFl lt lb) + 1) * tt) + tb)), (29, .long ((jFl lt lb) + 1)), (25, .int (nI 1)), (27, .long (jFl lt lb)), (9, .long lt), (11, .long lb), (13, .long ht), (15, .long hb), (21, .long bt), (23, .long bb), (26, .int (nI k)), (8, .int z)]) C.x C.b dX1_simplest_123 hl (by decide) rfl (fun ls hl => ?_)
              refine lv_lload C.x C.b dX1_simplest_125 (lv_at hl 11 rfl) ?_
              refine lv_lstore (lv' := [(23, .long bt), (33, .long ((((jFl lt lb) + 1) * bt) + bb)), (17, .long ((((jFl lt lb) + 1) * tt) + tb)), (19, .long tt), (31, .long ((((jFl lt lb) + 1) * tt) + tb)), (29, .long ((jFl lt lb) + 1)), (25, .int (nI 1)), (27, .long (jFl lt lb)), (9, .long lt), (11, .long lb), (13, .long ht), (15, .long hb), (21, .long bt), (26, .int (nI k)), (8, .int z)]) C.x C.b dX1_simplest_127 hl (by decide) rfl (fun ls hl => ?_)
              refine lv_lload C.x C.b dX1_simplest_129 (lv_at hl 1 rfl) ?_
              refine lv_lstore (lv' := [(21, .long ((((jFl lt lb) + 1) * bt) + bb)), (23, .long bt), (33, .long ((((jFl lt lb) + 1) * bt) + bb)), (17, .long ((((jFl lt lb) + 1) * tt) + tb)), (19, .long tt), (31, .long ((((jFl lt lb) + 1) * tt) + tb)), (29, .long ((jFl lt lb) + 1)), (25, .int (nI 1)), (27, .long (jFl lt lb)), (9, .long lt), (11, .long lb), (13, .long ht), (15, .long hb), (26, .int (nI k)), (8, .int z)]) C.x C.b dX1_simplest_131 hl (by decide) rfl (fun ls hl => ?_)
              refine lv_lload C.x C.b dX1_simplest_133 (lv_at hl 9 rfl) ?_
              refine lv_lload C.x C.b dX1_simplest_135 (lv_at hl 8 rfl) ?_
              refine lv_lload C.x C.b dX1_simplest_137 (lv_at hl 10 rfl) ?_
              refine lv_lmul C.x C.b dX1_simplest_139 ?_
              refine lv_lsub C.x C.b dX1_simplest_140 ?_
              refine lv_lstore (lv' := [(35, .long (lt - ((jFl lt lb) * lb))), (21, .long ((((jFl lt lb) + 1) * bt) + bb)), (23, .long bt), (33, .long ((((jFl lt lb) + 1) * bt) + bb)), (17, .long ((((jFl lt lb) + 1) * tt) + tb)), (19, .long tt), (31, .long ((((jFl lt lb) + 1) * tt) + tb)), (29, .long ((jFl lt lb) + 1)), (25, .int (nI 1)), (27, .long (jFl lt lb)), (9, .long lt), (11, .long lb), (13, .long ht), (15, .long hb), (26, .int (nI k)), (8, .int z)]) C.x C.b dX1_simplest_141 hl (by decide) rfl (fun ls hl => ?_)
              refine lv_lload C.x C.b dX1_simplest_143 (lv_at hl 12 rfl) ?_
              refine lv_lload C.x C.b dX1_simplest_145 (lv_at hl 9 rfl) ?_
              refine lv_lload C.x C.b dX1_simplest_147 (lv_at hl 13 rfl) ?_
              refine lv_lmul C.x C.b dX1_simplest_149 ?_
              refine lv_lsub C.x C.b dX1_simplest_150 ?_
              refine lv_lstore (lv' := [(37, .long (ht - ((jFl lt lb) * hb))), (35, .long (lt - ((jFl lt lb) * lb))), (21, .long ((((jFl lt lb) + 1) * bt) + bb)), (23, .long bt), (33, .long ((((jFl lt lb) + 1) * bt) + bb)), (17, .long ((((jFl lt lb) + 1) * tt) + tb)), (19, .long tt), (31, .long ((((jFl lt lb) + 1) * tt) + tb)), (29, .long ((jFl lt lb) + 1)), (25, .int (nI 1)), (27, .long (jFl lt lb)), (9, .long lt), (11, .long lb), (13, .long ht), (15, .long hb), (26, .int (nI k)), (8, .int z)]) C.x C.b dX1_simplest_151 hl (by decide) rfl (fun ls hl => ?_)
              refine lv_lload C.x C.b dX1_simplest_153 (lv_at hl 12 rfl) ?_
              refine lv_lstore (lv' := [(13, .long lb), (37, .long (ht - ((jFl lt lb) * hb))), (35, .long (lt - ((jFl lt lb) * lb))), (21, .long ((((jFl lt lb) + 1) * bt) + bb)), (23, .long bt), (33, .long ((((jFl lt lb) + 1) * bt) + bb)), (17, .long ((((jFl lt lb) + 1) * tt) + tb)), (19, .long tt), (31, .long ((((jFl lt lb) + 1) * tt) + tb)), (29, .long ((jFl lt lb) + 1)), (25, .int (nI 1)), (27, .long (jFl lt lb)), (9, .long lt), (11, .long lb), (15, .long hb), (26, .int (nI k)), (8, .int z)]) C.x C.b dX1_simplest_155 hl (by decide) rfl (fun ls hl => ?_)
              refine lv_lload C.x C.b dX1_simplest_157 (lv_at hl 14 rfl) ?_
              refine lv_lstore (lv' := [(9, .long hb), (13, .long lb), (37, .long (ht - ((jFl lt lb) * hb))), (35, .long (lt - ((jFl lt lb) * lb))), (21, .long ((((jFl lt lb) + 1) * bt) + bb)), (23, .long bt), (33, .long ((((jFl lt lb) + 1) * bt) + bb)), (17, .long ((((jFl lt lb) + 1) * tt) + tb)), (19, .long tt), (31, .long ((((jFl lt lb) + 1) * tt) + tb)), (29, .long ((jFl lt lb) + 1)), (25, .int (nI 1)), (27, .long (jFl lt lb)), (11, .long lb), (15, .long hb), (26, .int (nI k)), (8, .int z)]) C.x C.b dX1_simplest_159 hl (by decide) rfl (fun ls hl => ?_)
              refine lv_lload C.x C.b dX1_simplest_161 (lv_at hl 3 rfl) ?_
              refine lv_lstore (lv' := [(15, .long (lt - ((jFl lt lb) * lb))), (9, .long hb), (13, .long lb), (37, .long (ht - ((jFl lt lb) * hb))), (35, .long (lt - ((jFl lt lb) * lb))), (21, .long ((((jFl lt lb) + 1) * bt) + bb)), (23, .long bt), (33, .long ((((jFl lt lb) + 1) * bt) + bb)), (17, .long ((((jFl lt lb) + 1) * tt) + tb)), (19, .long tt), (31, .long ((((jFl lt lb) + 1) * tt) + tb)), (29, .long ((jFl lt lb) + 1)), (25, .int (nI 1)), (27, .long (jFl lt lb)), (11, .long lb), (26, .int (nI k)), (8, .int z)]) C.x C.b dX1_simplest_163 hl (by decide) rfl (fun ls hl => ?_)
              refine lv_lload C.x C.b dX1_simplest_165 (lv_at hl 3 rfl) ?_
              refine lv_lstore (lv' := [(11, .long (ht - ((jFl lt lb) * hb))), (15, .long (lt - ((jFl lt lb) * lb))), (9, .long hb), (13, .long lb), (37, .long (ht - ((jFl lt lb) * hb))), (35, .long (lt - ((jFl lt lb) * lb))), (21, .long ((((jFl lt lb) + 1) * bt) + bb)), (23, .long bt), (33, .long ((((jFl lt lb) + 1) * bt) + bb)), (17, .long ((((jFl lt lb) + 1) * tt) + tb)), (19, .long tt), (31, .long ((((jFl lt lb) + 1) * tt) + tb)), (29, .long ((jFl lt lb) + 1)), (25, .int (nI 1)), (27, .long (jFl lt lb)), (26, .int (nI k)), (8, .int z)]) C.x C.b dX1_simplest_167 hl (by decide) rfl (fun ls hl => ?_)
              refine lv_iinc (v := (nI (k + 1))) (lv' := [(26, .int (nI (k + 1))), (11, .long (ht - ((jFl lt lb) * hb))), (15, .long (lt - ((jFl lt lb) * lb))), (9, .long hb), (13, .long lb), (37, .long (ht - ((jFl lt lb) * hb))), (35, .long (lt - ((jFl lt lb) * lb))), (21, .long ((((jFl lt lb) + 1) * bt) + bb)), (23, .long bt), (33, .long ((((jFl lt lb) + 1) * bt) + bb)), (17, .long ((((jFl lt lb) + 1) * tt) + tb)), (19, .long tt), (31, .long ((((jFl lt lb) + 1) * tt) + tb)), (29, .long ((jFl lt lb) + 1)), (25, .int (nI 1)), (27, .long (jFl lt lb)), (8, .int z)]) C.x C.b dX1_simplest_169 hl (k := 15) rfl (nI_1 _) (by decide) rfl (fun ls hl => ?_)
              refine lv_goto (tgt := 32) C.x C.b dX1_simplest_172 (by decide) ?_
              exact ih32 (k + 1) (nI 1) hb (ht - jFl lt lb * hb) lb (lt - jFl lt lb * lb) ((jFl lt lb + 1) * tt + tb) tt ((jFl lt lb + 1) * bt + bb) bt (by omega) (Or.inr ⟨by decide, by rw [← hv1, show 1000 - k = (1000 - (k + 1)) + 1 by omega, cSim, if_pos c_49, if_pos c_71]⟩) (by omega) ls (lv_sub hl [3, 1, 4, 2, 10, 11, 7, 8, 14, 0, 16] rfl) _ _ hX
  exact LOOP32 _ 0 (nI 0) x1 x2 x3 x4 1 0 0 1 (by omega) (Or.inl ⟨rfl, rfl⟩) (Nat.lt_succ_self _) ls (lv_sub hl [9, 8, 7, 6, 5, 4, 3, 2, 1, 0, 14] rfl) _ _ hX

theorem lk_X0_howItLies_f9 : Cond.fieldLink RX0 9 "Koebehall$Disk" "x" "J" ∈ wsX0_howItLies := by decide +kernel
theorem hin_X0_howItLies_RX0 : ∀ w ∈ u_ws RX0 TX0 3, w ∈ wsX0_howItLies := by decide +kernel
theorem lk_X0_howItLies_f15 : Cond.fieldLink RX0 15 "Koebehall$Disk" "y" "J" ∈ wsX0_howItLies := by decide +kernel
theorem lk_X0_howItLies_f18 : Cond.fieldLink RX0 18 "Koebehall$Disk" "radius" "J" ∈ wsX0_howItLies := by decide +kernel
abbrev rmX0_howItLies : Room := { frames := 0, cells := 0, slots := 0, locals := 0 }
set_option maxHeartbeats 4000000 in
set_option maxRecDepth 100000 in
/-- X0_howItLies -/
theorem kX0_howItLies (l : Launch) (G : kG) (B0 : Nat) (f : kH) (h o9 : Nat) (x1 y1 r1 x2 y2 r2 : Int64) (hM : kCs f [(h, .inr (1, [.long x1, .long y1, .long r1])), (o9, .inr (1, [.long x2, .long y2, .long r2]))]) : Met l yX0_howItLies wsX0_howItLies (rmX0_howItLies) (kP G B0 f [.ref h, .ref o9]) (kQi G B0 (fun r f1 => r = kLie (kFar x1 x2 y1 y2) (kBB r1 r2) ∧ f1 = f)) 0 0 (kAb B0) := by
  refine kMet (cc := cX0_howItLies) (maxL := 10) (ret := (some .int)) (by decide) rfl (Nat.le_of_ble_eq_true rfl) ?_
  intro p e s m args below meth c H locs Q ls C hX hl hr hlocks hnm hQ
  have hl : lv_has ls 10 [(0, .ref h), (1, .ref o9)] := hl
  refine lv_aload_n C.x C.b dX0_howItLies_0 rfl (lv_at hl 0 rfl) ?_
  refine k_get (X := RX0) (T := TX0) (N := 3) (v := .long x1) C hX (hM.at 0 rfl) rfl hin_X0_howItLies_RX0 0 (by decide) lk_X0_howItLies_f9 (fun _ h9 => h9) rfl dX0_howItLies_1 ?_
  refine lv_aload_n C.x C.b dX0_howItLies_4 rfl (lv_at hl 1 rfl) ?_
  refine k_get (X := RX0) (T := TX0) (N := 3) (v := .long x2) C hX (hM.at 1 rfl) rfl hin_X0_howItLies_RX0 0 (by decide) lk_X0_howItLies_f9 (fun _ h9 => h9) rfl dX0_howItLies_5 ?_
  refine lv_lsub C.x C.b dX0_howItLies_8 ?_
  refine lv_lstore_n (lv' := [(2, .long (x1 - x2)), (0, .ref h), (1, .ref o9)]) C.x C.b dX0_howItLies_9 rfl hl (by decide) rfl (fun ls hl => ?_)
  refine lv_aload_n C.x C.b dX0_howItLies_10 rfl (lv_at hl 1 rfl) ?_
  refine k_get (X := RX0) (T := TX0) (N := 3) (v := .long y1) C hX (hM.at 0 rfl) rfl hin_X0_howItLies_RX0 1 (by decide) lk_X0_howItLies_f15 (fun _ h9 => h9) rfl dX0_howItLies_11 ?_
  refine lv_aload_n C.x C.b dX0_howItLies_14 rfl (lv_at hl 2 rfl) ?_
  refine k_get (X := RX0) (T := TX0) (N := 3) (v := .long y2) C hX (hM.at 1 rfl) rfl hin_X0_howItLies_RX0 1 (by decide) lk_X0_howItLies_f15 (fun _ h9 => h9) rfl dX0_howItLies_15 ?_
  refine lv_lsub C.x C.b dX0_howItLies_18 ?_
  refine lv_lstore (lv' := [(4, .long (y1 - y2)), (2, .long (x1 - x2)), (0, .ref h), (1, .ref o9)]) C.x C.b dX0_howItLies_19 hl (by decide) rfl (fun ls hl => ?_)
  refine lv_aload_n C.x C.b dX0_howItLies_21 rfl (lv_at hl 2 rfl) ?_
  refine k_get (X := RX0) (T := TX0) (N := 3) (v := .long r1) C hX (hM.at 0 rfl) rfl hin_X0_howItLies_RX0 2 (by decide) lk_X0_howItLies_f18 (fun _ h9 => h9) rfl dX0_howItLies_22 ?_
  refine lv_aload_n C.x C.b dX0_howItLies_25 rfl (lv_at hl 3 rfl) ?_
  refine k_get (X := RX0) (T := TX0) (N := 3) (v := .long r2) C hX (hM.at 1 rfl) rfl hin_X0_howItLies_RX0 2 (by decide) lk_X0_howItLies_f18 (fun _ h9 => h9) rfl dX0_howItLies_26 ?_
  refine lv_ladd C.x C.b dX0_howItLies_29 ?_
  refine lv_lstore (lv' := [(6, .long (r1 + r2)), (4, .long (y1 - y2)), (2, .long (x1 - x2)), (0, .ref h), (1, .ref o9)]) C.x C.b dX0_howItLies_30 hl (by decide) rfl (fun ls hl => ?_)
  refine lv_lload_n C.x C.b dX0_howItLies_32 rfl (lv_at hl 2 rfl) ?_
  refine lv_lload_n C.x C.b dX0_howItLies_33 rfl (lv_at hl 2 rfl) ?_
  refine lv_lmul C.x C.b dX0_howItLies_34 ?_
  refine lv_lload C.x C.b dX0_howItLies_35 (lv_at hl 1 rfl) ?_
  refine lv_lload C.x C.b dX0_howItLies_37 (lv_at hl 1 rfl) ?_
  refine lv_lmul C.x C.b dX0_howItLies_39 ?_
  refine lv_ladd C.x C.b dX0_howItLies_40 ?_
  refine lv_lstore (lv' := [(8, .long (((x1 - x2) * (x1 - x2)) + ((y1 - y2) * (y1 - y2)))), (6, .long (r1 + r2)), (4, .long (y1 - y2)), (2, .long (x1 - x2)), (0, .ref h), (1, .ref o9)]) C.x C.b dX0_howItLies_41 hl (by decide) rfl (fun ls hl => ?_)
  refine lv_lload C.x C.b dX0_howItLies_43 (lv_at hl 0 rfl) ?_
  refine lv_lload C.x C.b dX0_howItLies_45 (lv_at hl 1 rfl) ?_
  refine lv_lload C.x C.b dX0_howItLies_47 (lv_at hl 1 rfl) ?_
  refine lv_lmul C.x C.b dX0_howItLies_49 ?_
  refine k_lcmp_ne (tgt := 56) C.x C.b dX0_howItLies_50 dX0_howItLies_51 (by decide) (fun c_51 => ?_) (fun c_51 => ?_)
  · skip
    refine lv_lload C.x C.b dX0_howItLies_56 (lv_at hl 0 rfl) ?_
    refine lv_lload C.x C.b dX0_howItLies_58 (lv_at hl 1 rfl) ?_
    refine lv_lload C.x C.b dX0_howItLies_60 (lv_at hl 1 rfl) ?_
    refine lv_lmul C.x C.b dX0_howItLies_62 ?_
    refine k_lcmp_le (tgt := 71) C.x C.b dX0_howItLies_63 dX0_howItLies_64 (by decide) (fun c_64 => ?_) (fun c_64 => ?_)
    · skip
      refine lv_iconst (v := nI 2) C.x C.b dX0_howItLies_71 (by decide) ?_
      exact k_iret C hX hr hlocks hQ (by omega) (by omega) (by refine ⟨?_, rfl⟩; first | exact kLie_t c_51 | (rw [kLie, if_pos c_64]; done) | (rw [kLie, if_neg c_64, if_neg c_51]; done)) dX0_howItLies_72
    · skip
      refine lv_iconst (v := nI 0) C.x C.b dX0_howItLies_67 (by decide) ?_
      refine lv_goto (tgt := 72) C.x C.b dX0_howItLies_68 (by decide) ?_
      exact k_iret C hX hr hlocks hQ (by omega) (by omega) (by refine ⟨?_, rfl⟩; first | exact kLie_t c_51 | (rw [kLie, if_pos c_64]; done) | (rw [kLie, if_neg c_64, if_neg c_51]; done)) dX0_howItLies_72
  · skip
    refine lv_iconst (v := nI 1) C.x C.b dX0_howItLies_54 (by decide) ?_
    exact k_iret C hX hr hlocks hQ (by omega) (by omega) (by refine ⟨?_, rfl⟩; first | exact kLie_t c_51 | (rw [kLie, if_pos c_64]; done) | (rw [kLie, if_neg c_64, if_neg c_51]; done)) dX0_howItLies_55

theorem lk_X0_init_m3 : Cond.methodLink RX0 3 objectInit ∈ wsX0_init := by decide +kernel
theorem lk_X0_init_oi : Cond.instanceMethod objectInit ∈ wsX0_init := by decide +kernel
theorem lk_X0_init_oc : Cond.code objectInit ⟨#[0xb1]⟩ 1 none ∈ wsX0_init := by decide +kernel
theorem lk_X0_init_f9 : Cond.fieldLink RX0 9 "Koebehall$Disk" "x" "J" ∈ wsX0_init := by decide +kernel
theorem hin_X0_init_RX0 : ∀ w ∈ u_ws RX0 TX0 3, w ∈ wsX0_init := by decide +kernel
theorem lk_X0_init_f15 : Cond.fieldLink RX0 15 "Koebehall$Disk" "y" "J" ∈ wsX0_init := by decide +kernel
theorem lk_X0_init_f18 : Cond.fieldLink RX0 18 "Koebehall$Disk" "radius" "J" ∈ wsX0_init := by decide +kernel
abbrev rmX0_init : Room := { frames := 1, cells := 0, slots := 0, locals := 12 }
set_option maxHeartbeats 4000000 in
set_option maxRecDepth 100000 in
/-- X0_init -/
theorem kX0_init (l : Launch) (G : kG) (B0 : Nat) (f : kH) (h : Nat) (x1 y1 r1 : Int64) (hM : kCs f [(h, .inr (1, [.long 0, .long 0, .long 0]))]) : Met l yX0_init wsX0_init (rmX0_init) (kP G B0 f [.ref h, .long x1, .long y1, .long r1]) (kQv G B0 (fun f1 => kCs f1 [(h, .inr (1, [.long x1, .long y1, .long r1]))] ∧ kOff [h] f f1)) 0 0 (kAb B0) := by
  refine kMet (cc := cX0_init) (maxL := 7) (ret := none) (by decide) rfl (Nat.le_of_ble_eq_true rfl) ?_
  intro p e s m args below meth c H locs Q ls C hX hl hr hlocks hnm hQ
  have hO : kOff [h] f f := kOff.rf
  have hl : lv_has ls 7 [(0, .ref h), (1, .long x1), (3, .long y1), (5, .long r1)] := hl
  refine lv_aload_n C.x C.b dX0_init_0 rfl (lv_at hl 0 rfl) ?_
  refine W.objInit C.x C.b C.ow (C.ts _ lk_X0_init_m3) (C.ts _ lk_X0_init_oi) (C.ts _ lk_X0_init_oc) rfl (by rw [C.ml]; exact hl.1) rfl dX0_init_1 (Nat.le_of_ble_eq_true rfl) (Nat.le_of_ble_eq_true rfl) ?_
  refine W.eq (g2 := F0 m 4 ls []) rfl ?_
  refine lv_aload_n C.x C.b dX0_init_4 rfl (lv_at hl 0 rfl) ?_
  refine lv_lload_n C.x C.b dX0_init_5 rfl (lv_at hl 1 rfl) ?_
  refine k_putF (X := RX0) (T := TX0) (N := 3) (ty := .long) (v := .long x1) C hX (hM.at 0 rfl) rfl hin_X0_init_RX0 tyX0_ok nmX0 0 (by decide) lk_X0_init_f9 (fun _ h9 => h9) rfl hnm rfl rfl (by decide +kernel) rfl rfl (Nat.le_of_ble_eq_true rfl) dX0_init_6 (fun H locs hX => ?_)
  obtain ⟨g1, hX, hM, hO⟩ := kX.wr hX hM hO 0 rfl (List.mem_of_getElem? (i := 0) rfl)
  have hM : kCs g1 ([(h, .inr (1, [.long x1, .long 0, .long 0]))]) := hM
  refine lv_aload_n C.x C.b dX0_init_9 rfl (lv_at hl 0 rfl) ?_
  refine lv_lload_n C.x C.b dX0_init_10 rfl (lv_at hl 2 rfl) ?_
  refine k_putF (X := RX0) (T := TX0) (N := 3) (ty := .long) (v := .long y1) C hX (hM.at 0 rfl) rfl hin_X0_init_RX0 tyX0_ok nmX0 1 (by decide) lk_X0_init_f15 (fun _ h9 => h9) rfl hnm rfl rfl (by decide +kernel) rfl rfl (Nat.le_of_ble_eq_true rfl) dX0_init_11 (fun H locs hX => ?_)
  obtain ⟨g2, hX, hM, hO⟩ := kX.wr hX hM hO 0 rfl (List.mem_of_getElem? (i := 0) rfl)
  have hM : kCs g2 ([(h, .inr (1, [.long x1, .long y1, .long 0]))]) := hM
  refine lv_aload_n C.x C.b dX0_init_14 rfl (lv_at hl 0 rfl) ?_
  refine lv_lload C.x C.b dX0_init_15 (lv_at hl 3 rfl) ?_
  refine k_putF (X := RX0) (T := TX0) (N := 3) (ty := .long) (v := .long r1) C hX (hM.at 0 rfl) rfl hin_X0_init_RX0 tyX0_ok nmX0 2 (by decide) lk_X0_init_f18 (fun _ h9 => h9) rfl hnm rfl rfl (by decide +kernel) rfl rfl (Nat.le_of_ble_eq_true rfl) dX0_init_17 (fun H locs hX => ?_)
  obtain ⟨g3, hX, hM, hO⟩ := kX.wr hX hM hO 0 rfl (List.mem_of_getElem? (i := 0) rfl)
  have hM : kCs g3 ([(h, .inr (1, [.long x1, .long y1, .long r1]))]) := hM
  exact k_vret C hX hr hlocks hQ (by omega) (by omega) (⟨hM, hO⟩) dX0_init_20

theorem lk_X6_init_m1 : Cond.methodLink RX6 1 objectInit ∈ wsX6_init := by decide +kernel
theorem lk_X6_init_oi : Cond.instanceMethod objectInit ∈ wsX6_init := by decide +kernel
theorem lk_X6_init_oc : Cond.code objectInit ⟨#[0xb1]⟩ 1 none ∈ wsX6_init := by decide +kernel
theorem lk_X6_init_f7 : Cond.fieldLink RX6 7 "Koebehall$Table" "a" "J" ∈ wsX6_init := by decide +kernel
theorem hin_X6_init_RX6 : ∀ w ∈ u_ws RX6 TX6 4, w ∈ wsX6_init := by decide +kernel
theorem lk_X6_init_f13 : Cond.fieldLink RX6 13 "Koebehall$Table" "b" "J" ∈ wsX6_init := by decide +kernel
theorem lk_X6_init_f16 : Cond.fieldLink RX6 16 "Koebehall$Table" "c" "J" ∈ wsX6_init := by decide +kernel
theorem lk_X6_init_f19 : Cond.fieldLink RX6 19 "Koebehall$Table" "d" "J" ∈ wsX6_init := by decide +kernel
abbrev rmX6_init : Room := { frames := 1, cells := 0, slots := 0, locals := 12 }
set_option maxHeartbeats 4000000 in
set_option maxRecDepth 100000 in
/-- X6_init -/
theorem kX6_init (l : Launch) (G : kG) (B0 : Nat) (f : kH) (h : Nat) (x1 x2 x3 x4 : Int64) (hM : kCs f [(h, .inr (6, [.long 0, .long 0, .long 0, .long 0]))]) : Met l yX6_init wsX6_init (rmX6_init) (kP G B0 f [.ref h, .long x1, .long x2, .long x3, .long x4]) (kQv G B0 (fun f1 => kCs f1 [(h, .inr (6, [.long x1, .long x2, .long x3, .long x4]))] ∧ kOff [h] f f1)) 0 0 (kAb B0) := by
  refine kMet (cc := cX6_init) (maxL := 9) (ret := none) (by decide) rfl (Nat.le_of_ble_eq_true rfl) ?_
  intro p e s m args below meth c H locs Q ls C hX hl hr hlocks hnm hQ
  have hO : kOff [h] f f := kOff.rf
  have hl : lv_has ls 9 [(0, .ref h), (1, .long x1), (3, .long x2), (5, .long x3), (7, .long x4)] := hl
  refine lv_aload_n C.x C.b dX6_init_0 rfl (lv_at hl 0 rfl) ?_
  refine W.objInit C.x C.b C.ow (C.ts _ lk_X6_init_m1) (C.ts _ lk_X6_init_oi) (C.ts _ lk_X6_init_oc) rfl (by rw [C.ml]; exact hl.1) rfl dX6_init_1 (Nat.le_of_ble_eq_true rfl) (Nat.le_of_ble_eq_true rfl) ?_
  refine W.eq (g2 := F0 m 4 ls []) rfl ?_
  refine lv_aload_n C.x C.b dX6_init_4 rfl (lv_at hl 0 rfl) ?_
  refine lv_lload_n C.x C.b dX6_init_5 rfl (lv_at hl 1 rfl) ?_
  refine k_putF (X := RX6) (T := TX6) (N := 4) (ty := .long) (v := .long x1) C hX (hM.at 0 rfl) rfl hin_X6_init_RX6 tyX6_ok nmX6 0 (by decide) lk_X6_init_f7 (fun _ h9 => h9) rfl hnm rfl rfl (by decide +kernel) rfl rfl (Nat.le_of_ble_eq_true rfl) dX6_init_6 (fun H locs hX => ?_)
  obtain ⟨g1, hX, hM, hO⟩ := kX.wr hX hM hO 0 rfl (List.mem_of_getElem? (i := 0) rfl)
  have hM : kCs g1 ([(h, .inr (6, [.long x1, .long 0, .long 0, .long 0]))]) := hM
  refine lv_aload_n C.x C.b dX6_init_9 rfl (lv_at hl 0 rfl) ?_
  refine lv_lload_n C.x C.b dX6_init_10 rfl (lv_at hl 2 rfl) ?_
  refine k_putF (X := RX6) (T := TX6) (N := 4) (ty := .long) (v := .long x2) C hX (hM.at 0 rfl) rfl hin_X6_init_RX6 tyX6_ok nmX6 1 (by decide) lk_X6_init_f13 (fun _ h9 => h9) rfl hnm rfl rfl (by decide +kernel) rfl rfl (Nat.le_of_ble_eq_true rfl) dX6_init_11 (fun H locs hX => ?_)
  obtain ⟨g2, hX, hM, hO⟩ := kX.wr hX hM hO 0 rfl (List.mem_of_getElem? (i := 0) rfl)
  have hM : kCs g2 ([(h, .inr (6, [.long x1, .long x2, .long 0, .long 0]))]) := hM
  refine lv_aload_n C.x C.b dX6_init_14 rfl (lv_at hl 0 rfl) ?_
  refine lv_lload C.x C.b dX6_init_15 (lv_at hl 3 rfl) ?_
  refine k_putF (X := RX6) (T := TX6) (N := 4) (ty := .long) (v := .long x3) C hX (hM.at 0 rfl) rfl hin_X6_init_RX6 tyX6_ok nmX6 2 (by decide) lk_X6_init_f16 (fun _ h9 => h9) rfl hnm rfl rfl (by decide +kernel) rfl rfl (Nat.le_of_ble_eq_true rfl) dX6_init_17 (fun H locs hX => ?_)
  obtain ⟨g3, hX, hM, hO⟩ := kX.wr hX hM hO 0 rfl (List.mem_of_getElem? (i := 0) rfl)
  have hM : kCs g3 ([(h, .inr (6, [.long x1, .long x2, .long x3, .long 0]))]) := hM
  refine lv_aload_n C.x C.b dX6_init_20 rfl (lv_at hl 0 rfl) ?_
  refine lv_lload C.x C.b dX6_init_21 (lv_at hl 4 rfl) ?_
  refine k_putF (X := RX6) (T := TX6) (N := 4) (ty := .long) (v := .long x4) C hX (hM.at 0 rfl) rfl hin_X6_init_RX6 tyX6_ok nmX6 3 (by decide) lk_X6_init_f19 (fun _ h9 => h9) rfl hnm rfl rfl (by decide +kernel) rfl rfl (Nat.le_of_ble_eq_true rfl) dX6_init_23 (fun H locs hX => ?_)
  obtain ⟨g4, hX, hM, hO⟩ := kX.wr hX hM hO 0 rfl (List.mem_of_getElem? (i := 0) rfl)
  have hM : kCs g4 ([(h, .inr (6, [.long x1, .long x2, .long x3, .long x4]))]) := hM
  exact k_vret C hX hr hlocks hQ (by omega) (by omega) (⟨hM, hO⟩) dX6_init_26

theorem lk_X7_init_m1 : Cond.methodLink RX7 1 objectInit ∈ wsX7_init := by decide +kernel
theorem lk_X7_init_oi : Cond.instanceMethod objectInit ∈ wsX7_init := by decide +kernel
theorem lk_X7_init_oc : Cond.code objectInit ⟨#[0xb1]⟩ 1 none ∈ wsX7_init := by decide +kernel
theorem lk_X7_init_f7 : Cond.fieldLink RX7 7 "Koebehall$Wire" "first" "I" ∈ wsX7_init := by decide +kernel
theorem hin_X7_init_RX7 : ∀ w ∈ u_ws RX7 TX7 2, w ∈ wsX7_init := by decide +kernel
theorem lk_X7_init_f13 : Cond.fieldLink RX7 13 "Koebehall$Wire" "second" "I" ∈ wsX7_init := by decide +kernel
abbrev rmX7_init : Room := { frames := 1, cells := 0, slots := 0, locals := 12 }
set_option maxHeartbeats 4000000 in
set_option maxRecDepth 100000 in
/-- X7_init -/
theorem kX7_init (l : Launch) (G : kG) (B0 : Nat) (f : kH) (h : Nat) (x1 x2 : Int32) (hM : kCs f [(h, .inr (7, [.int 0, .int 0]))]) : Met l yX7_init wsX7_init (rmX7_init) (kP G B0 f [.ref h, .int x1, .int x2]) (kQv G B0 (fun f1 => kCs f1 [(h, .inr (7, [.int x1, .int x2]))] ∧ kOff [h] f f1)) 0 0 (kAb B0) := by
  refine kMet (cc := cX7_init) (maxL := 3) (ret := none) (by decide) rfl (Nat.le_of_ble_eq_true rfl) ?_
  intro p e s m args below meth c H locs Q ls C hX hl hr hlocks hnm hQ
  have hO : kOff [h] f f := kOff.rf
  have hl : lv_has ls 3 [(0, .ref h), (1, .int x1), (2, .int x2)] := hl
  refine lv_aload_n C.x C.b dX7_init_0 rfl (lv_at hl 0 rfl) ?_
  refine W.objInit C.x C.b C.ow (C.ts _ lk_X7_init_m1) (C.ts _ lk_X7_init_oi) (C.ts _ lk_X7_init_oc) rfl (by rw [C.ml]; exact hl.1) rfl dX7_init_1 (Nat.le_of_ble_eq_true rfl) (Nat.le_of_ble_eq_true rfl) ?_
  refine W.eq (g2 := F0 m 4 ls []) rfl ?_
  refine lv_aload_n C.x C.b dX7_init_4 rfl (lv_at hl 0 rfl) ?_
  refine lv_iload_n C.x C.b dX7_init_5 rfl (lv_at hl 1 rfl) ?_
  refine k_putF (X := RX7) (T := TX7) (N := 2) (ty := .int) (v := .int x1) C hX (hM.at 0 rfl) rfl hin_X7_init_RX7 tyX7_ok nmX7 0 (by decide) lk_X7_init_f7 (fun _ h9 => h9) rfl hnm rfl rfl (by decide +kernel) rfl rfl (Nat.le_of_ble_eq_true rfl) dX7_init_6 (fun H locs hX => ?_)
  obtain ⟨g1, hX, hM, hO⟩ := kX.wr hX hM hO 0 rfl (List.mem_of_getElem? (i := 0) rfl)
  have hM : kCs g1 ([(h, .inr (7, [.int x1, .int 0]))]) := hM
  refine lv_aload_n C.x C.b dX7_init_9 rfl (lv_at hl 0 rfl) ?_
  refine lv_iload_n C.x C.b dX7_init_10 rfl (lv_at hl 2 rfl) ?_
  refine k_putF (X := RX7) (T := TX7) (N := 2) (ty := .int) (v := .int x2) C hX (hM.at 0 rfl) rfl hin_X7_init_RX7 tyX7_ok nmX7 1 (by decide) lk_X7_init_f13 (fun _ h9 => h9) rfl hnm rfl rfl (by decide +kernel) rfl rfl (Nat.le_of_ble_eq_true rfl) dX7_init_11 (fun H locs hX => ?_)
  obtain ⟨g2, hX, hM, hO⟩ := kX.wr hX hM hO 0 rfl (List.mem_of_getElem? (i := 0) rfl)
  have hM : kCs g2 ([(h, .inr (7, [.int x1, .int x2]))]) := hM
  exact k_vret C hX hr hlocks hQ (by omega) (by omega) (⟨hM, hO⟩) dX7_init_14

theorem lk_X6_trace_f7 : Cond.fieldLink RX6 7 "Koebehall$Table" "a" "J" ∈ wsX6_trace := by decide +kernel
theorem hin_X6_trace_RX6 : ∀ w ∈ u_ws RX6 TX6 4, w ∈ wsX6_trace := by decide +kernel
theorem lk_X6_trace_f19 : Cond.fieldLink RX6 19 "Koebehall$Table" "d" "J" ∈ wsX6_trace := by decide +kernel
abbrev rmX6_trace : Room := { frames := 0, cells := 0, slots := 0, locals := 0 }
set_option maxHeartbeats 4000000 in
set_option maxRecDepth 100000 in
/-- X6_trace -/
theorem kX6_trace (l : Launch) (G : kG) (B0 : Nat) (f : kH) (h : Nat) (a1 b1 c1 d1 : Int64) (hM : kCs f [(h, .inr (6, [.long a1, .long b1, .long c1, .long d1]))]) : Met l yX6_trace wsX6_trace (rmX6_trace) (kP G B0 f [.ref h]) (kQl G B0 (fun r f1 => r = a1 + d1 ∧ f1 = f)) 0 0 (kAb B0) := by
  refine kMet (cc := cX6_trace) (maxL := 1) (ret := (some .long)) (by decide) rfl (Nat.le_of_ble_eq_true rfl) ?_
  intro p e s m args below meth c H locs Q ls C hX hl hr hlocks hnm hQ
  have hl : lv_has ls 1 [(0, .ref h)] := hl
  refine lv_aload_n C.x C.b dX6_trace_0 rfl (lv_at hl 0 rfl) ?_
  refine k_get (X := RX6) (T := TX6) (N := 4) (v := .long a1) C hX (hM.at 0 rfl) rfl hin_X6_trace_RX6 0 (by decide) lk_X6_trace_f7 (fun _ h9 => h9) rfl dX6_trace_1 ?_
  refine lv_aload_n C.x C.b dX6_trace_4 rfl (lv_at hl 0 rfl) ?_
  refine k_get (X := RX6) (T := TX6) (N := 4) (v := .long d1) C hX (hM.at 0 rfl) rfl hin_X6_trace_RX6 3 (by decide) lk_X6_trace_f19 (fun _ h9 => h9) rfl dX6_trace_5 ?_
  refine lv_ladd C.x C.b dX6_trace_8 ?_
  exact k_lret C hX hr hlocks hQ (by omega) (by omega) (⟨rfl, rfl⟩) dX6_trace_9

theorem lk_X6_isWhollyWithin_f7 : Cond.fieldLink RX6 7 "Koebehall$Table" "a" "J" ∈ wsX6_isWhollyWithin := by decide +kernel
theorem hin_X6_isWhollyWithin_RX6 : ∀ w ∈ u_ws RX6 TX6 4, w ∈ wsX6_isWhollyWithin := by decide +kernel
theorem hdX6_isWhollyWithin_X8_isWithin : yX8_isWithin.cls ≠ "java/lang/invoke/MethodHandle" ∧ yX8_isWithin.cls ≠ "java/lang/invoke/VarHandle" ∧ (parseMethodDescriptor yX8_isWithin.desc).map (fun d => d.parameters.length) = some 2 := by decide +kernel
theorem lk_X6_isWhollyWithin_in_RX8 : Cond.initialized RX8 ∈ wsX6_isWhollyWithin := by decide +kernel
theorem lk_X6_isWhollyWithin_st_X8_isWithin : Cond.static yX8_isWithin ∈ wsX6_isWhollyWithin := by decide +kernel
theorem lk_X6_isWhollyWithin_f13 : Cond.fieldLink RX6 13 "Koebehall$Table" "b" "J" ∈ wsX6_isWhollyWithin := by decide +kernel
theorem lk_X6_isWhollyWithin_f16 : Cond.fieldLink RX6 16 "Koebehall$Table" "c" "J" ∈ wsX6_isWhollyWithin := by decide +kernel
theorem lk_X6_isWhollyWithin_f19 : Cond.fieldLink RX6 19 "Koebehall$Table" "d" "J" ∈ wsX6_isWhollyWithin := by decide +kernel
abbrev rmX6_isWhollyWithin : Room := { frames := 1, cells := 0, slots := 0, locals := 23 }
set_option maxHeartbeats 4000000 in
set_option maxRecDepth 100000 in
/-- X6_isWhollyWithin -/
theorem kX6_isWhollyWithin (l : Launch) (G : kG) (B0 : Nat) (f : kH) (h : Nat) (a1 b1 c1 d1 w9 : Int64) (hM : kCs f [(h, .inr (6, [.long a1, .long b1, .long c1, .long d1]))]) : Met l yX6_isWhollyWithin wsX6_isWhollyWithin (rmX6_isWhollyWithin) (kP G B0 f [.ref h, .long w9]) (kQi G B0 (fun r f1 => r = kbI (cIn a1 w9 ∧ cIn b1 w9 ∧ cIn c1 w9 ∧ cIn d1 w9) ∧ f1 = f)) 0 0 (kAb B0) := by
  refine kMet (cc := cX6_isWhollyWithin) (maxL := 3) (ret := (some .boolean)) (by decide) rfl (Nat.le_of_ble_eq_true rfl) ?_
  intro p e s m args below meth c H locs Q ls C hX hl hr hlocks hnm hQ
  have hl : lv_has ls 3 [(0, .ref h), (1, .long w9)] := hl
  refine lv_aload_n C.x C.b dX6_isWhollyWithin_0 rfl (lv_at hl 0 rfl) ?_
  refine k_get (X := RX6) (T := TX6) (N := 4) (v := .long a1) C hX (hM.at 0 rfl) rfl hin_X6_isWhollyWithin_RX6 0 (by decide) lk_X6_isWhollyWithin_f7 (fun _ h9 => h9) rfl dX6_isWhollyWithin_1 ?_
  refine lv_lload_n C.x C.b dX6_isWhollyWithin_4 rfl (lv_at hl 1 rfl) ?_
  refine k_calli (va_runSN (As := [.long a1, .long w9]) (rest := []) C.1 (kX8_isWithin l G B0 f a1 w9) ⟨va_cnB 2 C.ts gX6_isWhollyWithin_X8_isWithin_n25 rfl rfl rfl (C.2.1.2.2.1 _ (show ((RX6, 25, yX8_isWithin, "Koebehall") : String × Nat × MethodName × String) ∈ kNestM by decide +kernel)) (C.ts _ lk_X6_isWhollyWithin_in_RX8) hdX6_isWhollyWithin_X8_isWithin ⟨Nat.le_of_ble_eq_true rfl, Nat.le_of_ble_eq_true rfl⟩, C.ts _ lk_X6_isWhollyWithin_st_X8_isWithin, trivial⟩ (k_preS C hX) rfl rfl hl.1 rfl (lv_room (Nat.le_of_ble_eq_true rfl)) dX6_isWhollyWithin_5 ⟨Nat.le_of_ble_eq_true rfl, Nat.le_of_ble_eq_true rfl⟩) hX (fun r5 f5 H locs hp5 hX => ?_)
  obtain ⟨hr5, hf5⟩ := hp5
  rw [hf5] at hX
  refine k_topi (y := (kbI (cIn a1 w9))) hr5 ?_
  refine lv_if_eq (tgt := 48) C.x C.b dX6_isWhollyWithin_8 (by decide) (fun c_8 => ?_) (fun c_8 => ?_)
  · skip
    have c_8 := kbI_0 c_8
    refine lv_iconst (v := nI 0) C.x C.b dX6_isWhollyWithin_48 (by decide) ?_
    exact k_zret C hX hr hlocks hQ (by omega) (by omega) (by first | exact kbI_01 _ | exact Or.inl rfl | exact Or.inr rfl) (by refine ⟨?_, rfl⟩; first | exact kbI_tN ⟨c_8, c_19, c_30, c_41⟩ | exact kbI_fN (fun h9 => c_8 h9.1) | exact kbI_fN (fun h9 => c_19 h9.2.1) | exact kbI_fN (fun h9 => c_30 h9.2.2.1) | exact kbI_fN (fun h9 => c_41 h9.2.2.2)) dX6_isWhollyWithin_49
  · skip
    have c_8 := kbI_1 c_8
    refine lv_aload_n C.x C.b dX6_isWhollyWithin_11 rfl (lv_at hl 0 rfl) ?_
    refine k_get (X := RX6) (T := TX6) (N := 4) (v := .long b1) C hX (hM.at 0 rfl) rfl hin_X6_isWhollyWithin_RX6 1 (by decide) lk_X6_isWhollyWithin_f13 (fun _ h9 => h9) rfl dX6_isWhollyWithin_12 ?_
    refine lv_lload_n C.x C.b dX6_isWhollyWithin_15 rfl (lv_at hl 1 rfl) ?_
    refine k_calli (va_runSN (As := [.long b1, .long w9]) (rest := []) C.1 (kX8_isWithin l G B0 f b1 w9) ⟨va_cnB 2 C.ts gX6_isWhollyWithin_X8_isWithin_n25 rfl rfl rfl (C.2.1.2.2.1 _ (show ((RX6, 25, yX8_isWithin, "Koebehall") : String × Nat × MethodName × String) ∈ kNestM by decide +kernel)) (C.ts _ lk_X6_isWhollyWithin_in_RX8) hdX6_isWhollyWithin_X8_isWithin ⟨Nat.le_of_ble_eq_true rfl, Nat.le_of_ble_eq_true rfl⟩, C.ts _ lk_X6_isWhollyWithin_st_X8_isWithin, trivial⟩ (k_preS C hX) rfl rfl hl.1 rfl (lv_room (Nat.le_of_ble_eq_true rfl)) dX6_isWhollyWithin_16 ⟨Nat.le_of_ble_eq_true rfl, Nat.le_of_ble_eq_true rfl⟩) hX (fun r16 f16 H locs hp16 hX => ?_)
    obtain ⟨hr16, hf16⟩ := hp16
    rw [hf16] at hX
    refine k_topi (y := (kbI (cIn b1 w9))) hr16 ?_
    refine lv_if_eq (tgt := 48) C.x C.b dX6_isWhollyWithin_19 (by decide) (fun c_19 => ?_) (fun c_19 => ?_)
    · skip
      have c_19 := kbI_0 c_19
      refine lv_iconst (v := nI 0) C.x C.b dX6_isWhollyWithin_48 (by decide) ?_
      exact k_zret C hX hr hlocks hQ (by omega) (by omega) (by first | exact kbI_01 _ | exact Or.inl rfl | exact Or.inr rfl) (by refine ⟨?_, rfl⟩; first | exact kbI_tN ⟨c_8, c_19, c_30, c_41⟩ | exact kbI_fN (fun h9 => c_8 h9.1) | exact kbI_fN (fun h9 => c_19 h9.2.1) | exact kbI_fN (fun h9 => c_30 h9.2.2.1) | exact kbI_fN (fun h9 => c_41 h9.2.2.2)) dX6_isWhollyWithin_49
    · skip
      have c_19 := kbI_1 c_19
      refine lv_aload_n C.x C.b dX6_isWhollyWithin_22 rfl (lv_at hl 0 rfl) ?_
      refine k_get (X := RX6) (T := TX6) (N := 4) (v := .long c1) C hX (hM.at 0 rfl) rfl hin_X6_isWhollyWithin_RX6 2 (by decide) lk_X6_isWhollyWithin_f16 (fun _ h9 => h9) rfl dX6_isWhollyWithin_23 ?_
      refine lv_lload_n C.x C.b dX6_isWhollyWithin_26 rfl (lv_at hl 1 rfl) ?_
      refine k_calli (va_runSN (As := [.long c1, .long w9]) (rest := []) C.1 (kX8_isWithin l G B0 f c1 w9) ⟨va_cnB 2 C.ts gX6_isWhollyWithin_X8_isWithin_n25 rfl rfl rfl (C.2.1.2.2.1 _ (show ((RX6, 25, yX8_isWithin, "Koebehall") : String × Nat × MethodName × String) ∈ kNestM by decide +kernel)) (C.ts _ lk_X6_isWhollyWithin_in_RX8) hdX6_isWhollyWithin_X8_isWithin ⟨Nat.le_of_ble_eq_true rfl, Nat.le_of_ble_eq_true rfl⟩, C.ts _ lk_X6_isWhollyWithin_st_X8_isWithin, trivial⟩ (k_preS C hX) rfl rfl hl.1 rfl (lv_room (Nat.le_of_ble_eq_true rfl)) dX6_isWhollyWithin_27 ⟨Nat.le_of_ble_eq_true rfl, Nat.le_of_ble_eq_true rfl⟩) hX (fun r27 f27 H locs hp27 hX => ?_)
      obtain ⟨hr27, hf27⟩ := hp27
      rw [hf27] at hX
      refine k_topi (y := (kbI (cIn c1 w9))) hr27 ?_
      refine lv_if_eq (tgt := 48) C.x C.b dX6_isWhollyWithin_30 (by decide) (fun c_30 => ?_) (fun c_30 => ?_)
      · skip
        have c_30 := kbI_0 c_30
        refine lv_iconst (v := nI 0) C.x C.b dX6_isWhollyWithin_48 (by decide) ?_
        exact k_zret C hX hr hlocks hQ (by omega) (by omega) (by first | exact kbI_01 _ | exact Or.inl rfl | exact Or.inr rfl) (by refine ⟨?_, rfl⟩; first | exact kbI_tN ⟨c_8, c_19, c_30, c_41⟩ | exact kbI_fN (fun h9 => c_8 h9.1) | exact kbI_fN (fun h9 => c_19 h9.2.1) | exact kbI_fN (fun h9 => c_30 h9.2.2.1) | exact kbI_fN (fun h9 => c_41 h9.2.2.2)) dX6_isWhollyWithin_49
      · skip
        have c_30 := kbI_1 c_30
        refine lv_aload_n C.x C.b dX6_isWhollyWithin_33 rfl (lv_at hl 0 rfl) ?_
        refine k_get (X := RX6) (T := TX6) (N := 4) (v := .long d1) C hX (hM.at 0 rfl) rfl hin_X6_isWhollyWithin_RX6 3 (by decide) lk_X6_isWhollyWithin_f19 (fun _ h9 => h9) rfl dX6_isWhollyWithin_34 ?_
        refine lv_lload_n C.x C.b dX6_isWhollyWithin_37 rfl (lv_at hl 1 rfl) ?_
        refine k_calli (va_runSN (As := [.long d1, .long w9]) (rest := []) C.1 (kX8_isWithin l G B0 f d1 w9) ⟨va_cnB 2 C.ts gX6_isWhollyWithin_X8_isWithin_n25 rfl rfl rfl (C.2.1.2.2.1 _ (show ((RX6, 25, yX8_isWithin, "Koebehall") : String × Nat × MethodName × String) ∈ kNestM by decide +kernel)) (C.ts _ lk_X6_isWhollyWithin_in_RX8) hdX6_isWhollyWithin_X8_isWithin ⟨Nat.le_of_ble_eq_true rfl, Nat.le_of_ble_eq_true rfl⟩, C.ts _ lk_X6_isWhollyWithin_st_X8_isWithin, trivial⟩ (k_preS C hX) rfl rfl hl.1 rfl (lv_room (Nat.le_of_ble_eq_true rfl)) dX6_isWhollyWithin_38 ⟨Nat.le_of_ble_eq_true rfl, Nat.le_of_ble_eq_true rfl⟩) hX (fun r38 f38 H locs hp38 hX => ?_)
        obtain ⟨hr38, hf38⟩ := hp38
        rw [hf38] at hX
        refine k_topi (y := (kbI (cIn d1 w9))) hr38 ?_
        refine lv_if_eq (tgt := 48) C.x C.b dX6_isWhollyWithin_41 (by decide) (fun c_41 => ?_) (fun c_41 => ?_)
        · skip
          have c_41 := kbI_0 c_41
          refine lv_iconst (v := nI 0) C.x C.b dX6_isWhollyWithin_48 (by decide) ?_
          exact k_zret C hX hr hlocks hQ (by omega) (by omega) (by first | exact kbI_01 _ | exact Or.inl rfl | exact Or.inr rfl) (by refine ⟨?_, rfl⟩; first | exact kbI_tN ⟨c_8, c_19, c_30, c_41⟩ | exact kbI_fN (fun h9 => c_8 h9.1) | exact kbI_fN (fun h9 => c_19 h9.2.1) | exact kbI_fN (fun h9 => c_30 h9.2.2.1) | exact kbI_fN (fun h9 => c_41 h9.2.2.2)) dX6_isWhollyWithin_49
        · skip
          have c_41 := kbI_1 c_41
          refine lv_iconst (v := nI 1) C.x C.b dX6_isWhollyWithin_44 (by decide) ?_
          refine lv_goto (tgt := 49) C.x C.b dX6_isWhollyWithin_45 (by decide) ?_
          exact k_zret C hX hr hlocks hQ (by omega) (by omega) (by first | exact kbI_01 _ | exact Or.inl rfl | exact Or.inr rfl) (by refine ⟨?_, rfl⟩; first | exact kbI_tN ⟨c_8, c_19, c_30, c_41⟩ | exact kbI_fN (fun h9 => c_8 h9.1) | exact kbI_fN (fun h9 => c_19 h9.2.1) | exact kbI_fN (fun h9 => c_30 h9.2.2.1) | exact kbI_fN (fun h9 => c_41 h9.2.2.2)) dX6_isWhollyWithin_49

theorem lk_X6_kind_f13 : Cond.fieldLink RX6 13 "Koebehall$Table" "b" "J" ∈ wsX6_kind := by decide +kernel
theorem hin_X6_kind_RX6 : ∀ w ∈ u_ws RX6 TX6 4, w ∈ wsX6_kind := by decide +kernel
theorem hdX6_kind_X6_trace : yX6_trace.cls ≠ "java/lang/invoke/MethodHandle" ∧ yX6_trace.cls ≠ "java/lang/invoke/VarHandle" ∧ (parseMethodDescriptor yX6_trace.desc).map (fun d => d.parameters.length) = some 0 := by decide +kernel
theorem lk_X6_kind_lib35 : ∀ w ∈ [Cond.methodLink RX6 35 Lib.MathLoose.abs_long.x, Cond.static Lib.MathLoose.abs_long.x, Cond.initialized "java/lang/Math", Cond.code Lib.MathLoose.abs_long.x Lib.MathLoose.abs_long.code 2 (some .long)], w ∈ wsX6_kind := by decide +kernel
theorem lk_X6_kind_c41 : Cond.constantLong RX6 41 (2) ∈ wsX6_kind := by decide +kernel
theorem lk_X6_kind_f16 : Cond.fieldLink RX6 16 "Koebehall$Table" "c" "J" ∈ wsX6_kind := by decide +kernel
theorem lk_X6_kind_f7 : Cond.fieldLink RX6 7 "Koebehall$Table" "a" "J" ∈ wsX6_kind := by decide +kernel
theorem lk_X6_kind_f19 : Cond.fieldLink RX6 19 "Koebehall$Table" "d" "J" ∈ wsX6_kind := by decide +kernel
abbrev rmX6_kind : Room := { frames := 1, cells := 0, slots := 0, locals := 20 }
set_option maxHeartbeats 4000000 in
set_option maxRecDepth 100000 in
/-- X6_kind -/
theorem kX6_kind (l : Launch) (G : kG) (B0 : Nat) (f : kH) (h : Nat) (a1 b1 c1 d1 : Int64) (hM : kCs f [(h, .inr (6, [.long a1, .long b1, .long c1, .long d1]))]) : Met l yX6_kind wsX6_kind (rmX6_kind) (kP G B0 f [.ref h]) (kQi G B0 (fun r f1 => r = cKind a1 b1 c1 d1 ∧ f1 = f)) 0 0 (kAb B0) := by
  refine kMet (cc := cX6_kind) (maxL := 3) (ret := (some .int)) (by decide) rfl (Nat.le_of_ble_eq_true rfl) ?_
  intro p e s m args below meth c H locs Q ls C hX hl hr hlocks hnm hQ
  have hl : lv_has ls 3 [(0, .ref h)] := hl
  refine lv_aload_n C.x C.b dX6_kind_0 rfl (lv_at hl 0 rfl) ?_
  refine k_get (X := RX6) (T := TX6) (N := 4) (v := .long b1) C hX (hM.at 0 rfl) rfl hin_X6_kind_RX6 1 (by decide) lk_X6_kind_f13 (fun _ h9 => h9) rfl dX6_kind_1 ?_
  refine lv_lconst (v := 0) C.x C.b dX6_kind_4 (by decide) ?_
  refine k_lcmp_ne (tgt := 32) C.x C.b dX6_kind_5 dX6_kind_6 (by decide) (fun c_6 => ?_) (fun c_6 => ?_)
  · skip
    refine lv_aload_n C.x C.b dX6_kind_32 rfl (lv_at hl 0 rfl) ?_
    refine k_calll (va_runV (As := []) (rest := []) C.1 (kX6_trace l G B0 f h a1 b1 c1 d1 hM) (cwV 0 C.ts gX6_kind_X6_trace rfl rfl rfl ⟨rfl, hdX6_kind_X6_trace⟩ ⟨Nat.le_of_ble_eq_true rfl, Nat.le_of_ble_eq_true rfl⟩) (k_preV C hX (hM.at 0 rfl) rfl) rfl rfl hl.1 rfl (lv_room (Nat.le_of_ble_eq_true rfl)) dX6_kind_33 ⟨Nat.le_of_ble_eq_true rfl, Nat.le_of_ble_eq_true rfl⟩) hX (fun r33 f33 H locs hp33 hX => ?_)
    obtain ⟨hr33, hf33⟩ := hp33
    rw [hf33] at hX
    refine k_topl (y := (a1 + d1)) hr33 ?_
    refine k_mabsL C (by rw [C.ml]; exact hl.1.symm) lk_X6_kind_lib35 (Nat.le_of_ble_eq_true rfl) (Nat.le_of_ble_eq_true rfl) (by have h9 : rmX6_kind.cells = 0 := rfl; omega) (by have h9 : rmX6_kind.slots = 0 := rfl; omega) dX6_kind_36 ?_
    refine lv_lstore_n (lv' := [(1, .long (if 0 < (a1 + d1) then (a1 + d1) else -(a1 + d1))), (0, .ref h)]) C.x C.b dX6_kind_39 rfl hl (by decide) rfl (fun ls hl => ?_)
    refine lv_lload_n C.x C.b dX6_kind_40 rfl (lv_at hl 0 rfl) ?_
    refine lv_lconst (v := 1) C.x C.b dX6_kind_41 (by decide) ?_
    refine k_lcmp_gt (tgt := 48) C.x C.b dX6_kind_42 dX6_kind_43 (by decide) (fun c_43 => ?_) (fun c_43 => ?_)
    · skip
      refine lv_lload_n C.x C.b dX6_kind_48 rfl (lv_at hl 0 rfl) ?_
      refine lv_ldc2 (v := 2) C.x C.b C.ow (C.ts _ lk_X6_kind_c41) dX6_kind_49 ?_
      refine k_lcmp_ne (tgt := 60) C.x C.b dX6_kind_52 dX6_kind_53 (by decide) (fun c_53 => ?_) (fun c_53 => ?_)
      · skip
        refine lv_iconst (v := nI 3) C.x C.b dX6_kind_60 (by decide) ?_
        exact k_iret C hX hr hlocks hQ (by omega) (by omega) (by refine ⟨?_, rfl⟩; first | (rw [cKind, if_pos ⟨c_6, c_15, c_27⟩]; done) | (rw [cKind, if_neg (show ¬ (b1 = 0 ∧ c1 = 0 ∧ a1 = d1) from (by first | exact fun h9 => c_6 h9.1 | exact fun h9 => c_15 h9.2.1 | exact fun h9 => c_27 h9.2.2))]; first | (rw [if_pos (Int64.not_lt.mp c_43)]; done) | (rw [if_neg (Int64.not_le.mpr c_43), if_pos c_53]; done) | (rw [if_neg (Int64.not_le.mpr c_43), if_neg c_53]; done))) dX6_kind_61
      · skip
        refine lv_iconst (v := nI 2) C.x C.b dX6_kind_56 (by decide) ?_
        refine lv_goto (tgt := 61) C.x C.b dX6_kind_57 (by decide) ?_
        exact k_iret C hX hr hlocks hQ (by omega) (by omega) (by refine ⟨?_, rfl⟩; first | (rw [cKind, if_pos ⟨c_6, c_15, c_27⟩]; done) | (rw [cKind, if_neg (show ¬ (b1 = 0 ∧ c1 = 0 ∧ a1 = d1) from (by first | exact fun h9 => c_6 h9.1 | exact fun h9 => c_15 h9.2.1 | exact fun h9 => c_27 h9.2.2))]; first | (rw [if_pos (Int64.not_lt.mp c_43)]; done) | (rw [if_neg (Int64.not_le.mpr c_43), if_pos c_53]; done) | (rw [if_neg (Int64.not_le.mpr c_43), if_neg c_53]; done))) dX6_kind_61
    · skip
      refine lv_iconst (v := nI 1) C.x C.b dX6_kind_46 (by decide) ?_
      exact k_iret C hX hr hlocks hQ (by omega) (by omega) (by refine ⟨?_, rfl⟩; first | (rw [cKind, if_pos ⟨c_6, c_15, c_27⟩]; done) | (rw [cKind, if_neg (show ¬ (b1 = 0 ∧ c1 = 0 ∧ a1 = d1) from (by first | exact fun h9 => c_6 h9.1 | exact fun h9 => c_15 h9.2.1 | exact fun h9 => c_27 h9.2.2))]; first | (rw [if_pos (Int64.not_lt.mp c_43)]; done) | (rw [if_neg (Int64.not_le.mpr c_43), if_pos c_53]; done) | (rw [if_neg (Int64.not_le.mpr c_43), if_neg c_53]; done))) dX6_kind_47
  · skip
    refine lv_aload_n C.x C.b dX6_kind_9 rfl (lv_at hl 0 rfl) ?_
    refine k_get (X := RX6) (T := TX6) (N := 4) (v := .long c1) C hX (hM.at 0 rfl) rfl hin_X6_kind_RX6 2 (by decide) lk_X6_kind_f16 (fun _ h9 => h9) rfl dX6_kind_10 ?_
    refine lv_lconst (v := 0) C.x C.b dX6_kind_13 (by decide) ?_
    refine k_lcmp_ne (tgt := 32) C.x C.b dX6_kind_14 dX6_kind_15 (by decide) (fun c_15 => ?_) (fun c_15 => ?_)
    · skip
      refine lv_aload_n C.x C.b dX6_kind_32 rfl (lv_at hl 0 rfl) ?_
      refine k_calll (va_runV (As := []) (rest := []) C.1 (kX6_trace l G B0 f h a1 b1 c1 d1 hM) (cwV 0 C.ts gX6_kind_X6_trace rfl rfl rfl ⟨rfl, hdX6_kind_X6_trace⟩ ⟨Nat.le_of_ble_eq_true rfl, Nat.le_of_ble_eq_true rfl⟩) (k_preV C hX (hM.at 0 rfl) rfl) rfl rfl hl.1 rfl (lv_room (Nat.le_of_ble_eq_true rfl)) dX6_kind_33 ⟨Nat.le_of_ble_eq_true rfl, Nat.le_of_ble_eq_true rfl⟩) hX (fun r33 f33 H locs hp33 hX => ?_)
      obtain ⟨hr33, hf33⟩ := hp33
      rw [hf33] at hX
      refine k_topl (y := (a1 + d1)) hr33 ?_
      refine k_mabsL C (by rw [C.ml]; exact hl.1.symm) lk_X6_kind_lib35 (Nat.le_of_ble_eq_true rfl) (Nat.le_of_ble_eq_true rfl) (by have h9 : rmX6_kind.cells = 0 := rfl; omega) (by have h9 : rmX6_kind.slots = 0 := rfl; omega) dX6_kind_36 ?_
      refine lv_lstore_n (lv' := [(1, .long (if 0 < (a1 + d1) then (a1 + d1) else -(a1 + d1))), (0, .ref h)]) C.x C.b dX6_kind_39 rfl hl (by decide) rfl (fun ls hl => ?_)
      refine lv_lload_n C.x C.b dX6_kind_40 rfl (lv_at hl 0 rfl) ?_
      refine lv_lconst (v := 1) C.x C.b dX6_kind_41 (by decide) ?_
      refine k_lcmp_gt (tgt := 48) C.x C.b dX6_kind_42 dX6_kind_43 (by decide) (fun c_43 => ?_) (fun c_43 => ?_)
      · skip
        refine lv_lload_n C.x C.b dX6_kind_48 rfl (lv_at hl 0 rfl) ?_
        refine lv_ldc2 (v := 2) C.x C.b C.ow (C.ts _ lk_X6_kind_c41) dX6_kind_49 ?_
        refine k_lcmp_ne (tgt := 60) C.x C.b dX6_kind_52 dX6_kind_53 (by decide) (fun c_53 => ?_) (fun c_53 => ?_)
        · skip
          refine lv_iconst (v := nI 3) C.x C.b dX6_kind_60 (by decide) ?_
          exact k_iret C hX hr hlocks hQ (by omega) (by omega) (by refine ⟨?_, rfl⟩; first | (rw [cKind, if_pos ⟨c_6, c_15, c_27⟩]; done) | (rw [cKind, if_neg (show ¬ (b1 = 0 ∧ c1 = 0 ∧ a1 = d1) from (by first | exact fun h9 => c_6 h9.1 | exact fun h9 => c_15 h9.2.1 | exact fun h9 => c_27 h9.2.2))]; first | (rw [if_pos (Int64.not_lt.mp c_43)]; done) | (rw [if_neg (Int64.not_le.mpr c_43), if_pos c_53]; done) | (rw [if_neg (Int64.not_le.mpr c_43), if_neg c_53]; done))) dX6_kind_61
        · skip
          refine lv_iconst (v := nI 2) C.x C.b dX6_kind_56 (by decide) ?_
          refine lv_goto (tgt := 61) C.x C.b dX6_kind_57 (by decide) ?_
          exact k_iret C hX hr hlocks hQ (by omega) (by omega) (by refine ⟨?_, rfl⟩; first | (rw [cKind, if_pos ⟨c_6, c_15, c_27⟩]; done) | (rw [cKind, if_neg (show ¬ (b1 = 0 ∧ c1 = 0 ∧ a1 = d1) from (by first | exact fun h9 => c_6 h9.1 | exact fun h9 => c_15 h9.2.1 | exact fun h9 => c_27 h9.2.2))]; first | (rw [if_pos (Int64.not_lt.mp c_43)]; done) | (rw [if_neg (Int64.not_le.mpr c_43), if_pos c_53]; done) | (rw [if_neg (Int64.not_le.mpr c_43), if_neg c_53]; done))) dX6_kind_61
      · skip
        refine lv_iconst (v := nI 1) C.x C.b dX6_kind_46 (by decide) ?_
        exact k_iret C hX hr hlocks hQ (by omega) (by omega) (by refine ⟨?_, rfl⟩; first | (rw [cKind, if_pos ⟨c_6, c_15, c_27⟩]; done) | (rw [cKind, if_neg (show ¬ (b1 = 0 ∧ c1 = 0 ∧ a1 = d1) from (by first | exact fun h9 => c_6 h9.1 | exact fun h9 => c_15 h9.2.1 | exact fun h9 => c_27 h9.2.2))]; first | (rw [if_pos (Int64.not_lt.mp c_43)]; done) | (rw [if_neg (Int64.not_le.mpr c_43), if_pos c_53]; done) | (rw [if_neg (Int64.not_le.mpr c_43), if_neg c_53]; done))) dX6_kind_47
    · skip
      refine lv_aload_n C.x C.b dX6_kind_18 rfl (lv_at hl 0 rfl) ?_
      refine k_get (X := RX6) (T := TX6) (N := 4) (v := .long a1) C hX (hM.at 0 rfl) rfl hin_X6_kind_RX6 0 (by decide) lk_X6_kind_f7 (fun _ h9 => h9) rfl dX6_kind_19 ?_
      refine lv_aload_n C.x C.b dX6_kind_22 rfl (lv_at hl 0 rfl) ?_
      refine k_get (X := RX6) (T := TX6) (N := 4) (v := .long d1) C hX (hM.at 0 rfl) rfl hin_X6_kind_RX6 3 (by decide) lk_X6_kind_f19 (fun _ h9 => h9) rfl dX6_kind_23 ?_
      refine k_lcmp_ne (tgt := 32) C.x C.b dX6_kind_26 dX6_kind_27 (by decide) (fun c_27 => ?_) (fun c_27 => ?_)
      · skip
        refine lv_aload_n C.x C.b dX6_kind_32 rfl (lv_at hl 0 rfl) ?_
        refine k_calll (va_runV (As := []) (rest := []) C.1 (kX6_trace l G B0 f h a1 b1 c1 d1 hM) (cwV 0 C.ts gX6_kind_X6_trace rfl rfl rfl ⟨rfl, hdX6_kind_X6_trace⟩ ⟨Nat.le_of_ble_eq_true rfl, Nat.le_of_ble_eq_true rfl⟩) (k_preV C hX (hM.at 0 rfl) rfl) rfl rfl hl.1 rfl (lv_room (Nat.le_of_ble_eq_true rfl)) dX6_kind_33 ⟨Nat.le_of_ble_eq_true rfl, Nat.le_of_ble_eq_true rfl⟩) hX (fun r33 f33 H locs hp33 hX => ?_)
        obtain ⟨hr33, hf33⟩ := hp33
        rw [hf33] at hX
        refine k_topl (y := (a1 + d1)) hr33 ?_
        refine k_mabsL C (by rw [C.ml]; exact hl.1.symm) lk_X6_kind_lib35 (Nat.le_of_ble_eq_true rfl) (Nat.le_of_ble_eq_true rfl) (by have h9 : rmX6_kind.cells = 0 := rfl; omega) (by have h9 : rmX6_kind.slots = 0 := rfl; omega) dX6_kind_36 ?_
        refine lv_lstore_n (lv' := [(1, .long (if 0 < (a1 + d1) then (a1 + d1) else -(a1 + d1))), (0, .ref h)]) C.x C.b dX6_kind_39 rfl hl (by decide) rfl (fun ls hl => ?_)
        refine lv_lload_n C.x C.b dX6_kind_40 rfl (lv_at hl 0 rfl) ?_
        refine lv_lconst (v := 1) C.x C.b dX6_kind_41 (by decide) ?_
        refine k_lcmp_gt (tgt := 48) C.x C.b dX6_kind_42 dX6_kind_43 (by decide) (fun c_43 => ?_) (fun c_43 => ?_)
        · skip
          refine lv_lload_n C.x C.b dX6_kind_48 rfl (lv_at hl 0 rfl) ?_
          refine lv_ldc2 (v := 2) C.x C.b C.ow (C.ts _ lk_X6_kind_c41) dX6_kind_49 ?_
          refine k_lcmp_ne (tgt := 60) C.x C.b dX6_kind_52 dX6_kind_53 (by decide) (fun c_53 => ?_) (fun c_53 => ?_)
          · skip
            refine lv_iconst (v := nI 3) C.x C.b dX6_kind_60 (by decide) ?_
            exact k_iret C hX hr hlocks hQ (by omega) (by omega) (by refine ⟨?_, rfl⟩; first | (rw [cKind, if_pos ⟨c_6, c_15, c_27⟩]; done) | (rw [cKind, if_neg (show ¬ (b1 = 0 ∧ c1 = 0 ∧ a1 = d1) from (by first | exact fun h9 => c_6 h9.1 | exact fun h9 => c_15 h9.2.1 | exact fun h9 => c_27 h9.2.2))]; first | (rw [if_pos (Int64.not_lt.mp c_43)]; done) | (rw [if_neg (Int64.not_le.mpr c_43), if_pos c_53]; done) | (rw [if_neg (Int64.not_le.mpr c_43), if_neg c_53]; done))) dX6_kind_61
          · skip
            refine lv_iconst (v := nI 2) C.x C.b dX6_kind_56 (by decide) ?_
            refine lv_goto (tgt := 61) C.x C.b dX6_kind_57 (by decide) ?_
            exact k_iret C hX hr hlocks hQ (by omega) (by omega) (by refine ⟨?_, rfl⟩; first | (rw [cKind, if_pos ⟨c_6, c_15, c_27⟩]; done) | (rw [cKind, if_neg (show ¬ (b1 = 0 ∧ c1 = 0 ∧ a1 = d1) from (by first | exact fun h9 => c_6 h9.1 | exact fun h9 => c_15 h9.2.1 | exact fun h9 => c_27 h9.2.2))]; first | (rw [if_pos (Int64.not_lt.mp c_43)]; done) | (rw [if_neg (Int64.not_le.mpr c_43), if_pos c_53]; done) | (rw [if_neg (Int64.not_le.mpr c_43), if_neg c_53]; done))) dX6_kind_61
        · skip
          refine lv_iconst (v := nI 1) C.x C.b dX6_kind_46 (by decide) ?_
          exact k_iret C hX hr hlocks hQ (by omega) (by omega) (by refine ⟨?_, rfl⟩; first | (rw [cKind, if_pos ⟨c_6, c_15, c_27⟩]; done) | (rw [cKind, if_neg (show ¬ (b1 = 0 ∧ c1 = 0 ∧ a1 = d1) from (by first | exact fun h9 => c_6 h9.1 | exact fun h9 => c_15 h9.2.1 | exact fun h9 => c_27 h9.2.2))]; first | (rw [if_pos (Int64.not_lt.mp c_43)]; done) | (rw [if_neg (Int64.not_le.mpr c_43), if_pos c_53]; done) | (rw [if_neg (Int64.not_le.mpr c_43), if_neg c_53]; done))) dX6_kind_47
      · skip
        refine lv_iconst (v := nI 0) C.x C.b dX6_kind_30 (by decide) ?_
        exact k_iret C hX hr hlocks hQ (by omega) (by omega) (by refine ⟨?_, rfl⟩; first | (rw [cKind, if_pos ⟨c_6, c_15, c_27⟩]; done) | (rw [cKind, if_neg (show ¬ (b1 = 0 ∧ c1 = 0 ∧ a1 = d1) from (by first | exact fun h9 => c_6 h9.1 | exact fun h9 => c_15 h9.2.1 | exact fun h9 => c_27 h9.2.2))]; first | (rw [if_pos (Int64.not_lt.mp c_43)]; done) | (rw [if_neg (Int64.not_le.mpr c_43), if_pos c_53]; done) | (rw [if_neg (Int64.not_le.mpr c_43), if_neg c_53]; done))) dX6_kind_31

theorem lk_X6_undone_new8 : ∀ w ∈ [Cond.classLink RX6 8 RX6, Cond.instantiable RX6 4, Cond.initialized RX6], w ∈ wsX6_undone := by decide +kernel
theorem hin_X6_undone_RX6 : ∀ w ∈ u_ws RX6 TX6 4, w ∈ wsX6_undone := by decide +kernel
theorem lk_X6_undone_f19 : Cond.fieldLink RX6 19 "Koebehall$Table" "d" "J" ∈ wsX6_undone := by decide +kernel
theorem lk_X6_undone_f13 : Cond.fieldLink RX6 13 "Koebehall$Table" "b" "J" ∈ wsX6_undone := by decide +kernel
theorem lk_X6_undone_f16 : Cond.fieldLink RX6 16 "Koebehall$Table" "c" "J" ∈ wsX6_undone := by decide +kernel
theorem lk_X6_undone_f7 : Cond.fieldLink RX6 7 "Koebehall$Table" "a" "J" ∈ wsX6_undone := by decide +kernel
theorem hdX6_undone_X6_init : yX6_init.cls ≠ "java/lang/invoke/MethodHandle" ∧ yX6_init.cls ≠ "java/lang/invoke/VarHandle" ∧ (parseMethodDescriptor yX6_init.desc).map (fun d => d.parameters.length) = some 4 := by decide +kernel
theorem lk_X6_undone_ml22 : Cond.methodLink RX6 22 yX6_init ∈ wsX6_undone := by decide +kernel
theorem lk_X6_undone_in_RX6 : Cond.initialized RX6 ∈ wsX6_undone := by decide +kernel
theorem lk_X6_undone_im_X6_init : Cond.instanceMethod yX6_init ∈ wsX6_undone := by decide +kernel
abbrev rmX6_undone : Room := { frames := 2, cells := 1, slots := 4, locals := 40 }
set_option maxHeartbeats 4000000 in
set_option maxRecDepth 100000 in
/-- X6_undone -/
theorem kX6_undone (l : Launch) (G : kG) (B0 : Nat) (f : kH) (h : Nat) (a1 b1 c1 d1 : Int64) (hM : kCs f [(h, .inr (6, [.long a1, .long b1, .long c1, .long d1]))]) : Met l yX6_undone wsX6_undone (rmX6_undone) (kP G B0 f [.ref h]) (kQq G B0 (fun r f1 => ∃ q : Nat, r = some q ∧ f q = none ∧ f1 q = some (.inr (6, [.long (d1), .long (-b1), .long (-c1), .long (a1)])) ∧ kKp [] f f1)) 1 4 (kAb B0) := by
  refine kMet (cc := cX6_undone) (maxL := 1) (ret := (some (.object "Koebehall$Table"))) (by decide) rfl (Nat.le_of_ble_eq_true rfl) ?_
  intro p e s m args below meth c H locs Q ls C hX hl hr hlocks hnm hQ
  have hO : kKp [] f f := kKp.rf
  have hS : ∀ a ∈ ([] : List Nat), (f a).isSome := by intro a h9; cases h9
  have hl : lv_has ls 1 [(0, .ref h)] := hl
  refine k_new (X := RX6) (T := TX6) (N := 4) (ci := 6) (fs := [.long 0, .long 0, .long 0, .long 0]) C hX hin_X6_undone_RX6 tyX6_ok lk_X6_undone_new8 rfl (by decide) (by decide) (by decide) dX6_undone_0 (fun n1 H hn hX => ?_)
  obtain ⟨g2, hX, hM, hO, fr_n1, hS⟩ := kX.nwP hX hM hO hn hS
  have hM : kCs g2 ([(h, .inr (6, [.long a1, .long b1, .long c1, .long d1])), (n1, .inr (6, [.long 0, .long 0, .long 0, .long 0]))]) := hM
  refine lv_dup C.x C.b dX6_undone_3 rfl ?_
  refine lv_aload_n C.x C.b dX6_undone_4 rfl (lv_at hl 0 rfl) ?_
  refine k_get (X := RX6) (T := TX6) (N := 4) (v := .long d1) C hX (hM.at 0 rfl) rfl hin_X6_undone_RX6 3 (by decide) lk_X6_undone_f19 (fun _ h9 => h9) rfl dX6_undone_5 ?_
  refine lv_aload_n C.x C.b dX6_undone_8 rfl (lv_at hl 0 rfl) ?_
  refine k_get (X := RX6) (T := TX6) (N := 4) (v := .long b1) C hX (hM.at 0 rfl) rfl hin_X6_undone_RX6 1 (by decide) lk_X6_undone_f13 (fun _ h9 => h9) rfl dX6_undone_9 ?_
  refine lv_lneg C.x C.b dX6_undone_12 ?_
  refine lv_aload_n C.x C.b dX6_undone_13 rfl (lv_at hl 0 rfl) ?_
  refine k_get (X := RX6) (T := TX6) (N := 4) (v := .long c1) C hX (hM.at 0 rfl) rfl hin_X6_undone_RX6 2 (by decide) lk_X6_undone_f16 (fun _ h9 => h9) rfl dX6_undone_14 ?_
  refine lv_lneg C.x C.b dX6_undone_17 ?_
  refine lv_aload_n C.x C.b dX6_undone_18 rfl (lv_at hl 0 rfl) ?_
  refine k_get (X := RX6) (T := TX6) (N := 4) (v := .long a1) C hX (hM.at 0 rfl) rfl hin_X6_undone_RX6 0 (by decide) lk_X6_undone_f7 (fun _ h9 => h9) rfl dX6_undone_19 ?_
  have hM9 : kCs g2 ([(n1, .inr (6, [.long 0, .long 0, .long 0, .long 0]))]) := hM.pick [1] (by decide) ⟨rfl, trivial⟩
  refine k_callv (va_runI (As := [.long d1, .long (-b1), .long (-c1), .long a1]) (rest := [.ref n1]) C.1 (kX6_init l G B0 g2 n1 d1 (-b1) (-c1) a1 hM9) (cwI 4 C.ts gX6_undone_X6_init rfl rfl rfl (C.ts _ lk_X6_undone_in_RX6) (C.ts _ lk_X6_undone_ml22) (C.ts _ lk_X6_undone_im_X6_init) rfl (hdX6_undone_X6_init) ⟨Nat.le_of_ble_eq_true rfl, Nat.le_of_ble_eq_true rfl⟩) (k_preS C hX) rfl rfl hl.1 rfl (lv_room (Nat.le_of_ble_eq_true rfl)) dX6_undone_22 ⟨Nat.le_of_ble_eq_true rfl, Nat.le_of_ble_eq_true rfl⟩) hX (fun f22 H locs hp22 hX => ?_)
  obtain ⟨hM9, hO9⟩ := hp22
  have hM : kCs f22 ([(h, .inr (6, [.long a1, .long b1, .long c1, .long d1])), (n1, .inr (6, [.long d1, .long (-b1), .long (-c1), .long a1]))]) := hM.sub hM9 (kKp.of hO9) [1] (by simp) ⟨rfl, trivial⟩
  have hO := hO.then (kKp.of hO9) (by
      intro a h9
      simp only [List.mem_cons, List.not_mem_nil, or_false] at h9
      rcases h9 with rfl
      · exact Or.inr fr_n1)
  have hS : ∀ a ∈ ([] : List Nat), (f22 a).isSome := by intro a h9; cases h9
  exact k_aret (v := some n1) C hX hr (Or.inl ⟨_, rfl⟩) hlocks hQ (by omega) (by omega) (⟨n1, rfl, fr_n1, hM.at 1 rfl, hO⟩) dX6_undone_25

theorem lk_X6_times_new8 : ∀ w ∈ [Cond.classLink RX6 8 RX6, Cond.instantiable RX6 4, Cond.initialized RX6], w ∈ wsX6_times := by decide +kernel
theorem hin_X6_times_RX6 : ∀ w ∈ u_ws RX6 TX6 4, w ∈ wsX6_times := by decide +kernel
theorem lk_X6_times_f7 : Cond.fieldLink RX6 7 "Koebehall$Table" "a" "J" ∈ wsX6_times := by decide +kernel
theorem lk_X6_times_f13 : Cond.fieldLink RX6 13 "Koebehall$Table" "b" "J" ∈ wsX6_times := by decide +kernel
theorem lk_X6_times_f16 : Cond.fieldLink RX6 16 "Koebehall$Table" "c" "J" ∈ wsX6_times := by decide +kernel
theorem lk_X6_times_f19 : Cond.fieldLink RX6 19 "Koebehall$Table" "d" "J" ∈ wsX6_times := by decide +kernel
theorem hdX6_times_X6_init : yX6_init.cls ≠ "java/lang/invoke/MethodHandle" ∧ yX6_init.cls ≠ "java/lang/invoke/VarHandle" ∧ (parseMethodDescriptor yX6_init.desc).map (fun d => d.parameters.length) = some 4 := by decide +kernel
theorem lk_X6_times_ml22 : Cond.methodLink RX6 22 yX6_init ∈ wsX6_times := by decide +kernel
theorem lk_X6_times_in_RX6 : Cond.initialized RX6 ∈ wsX6_times := by decide +kernel
theorem lk_X6_times_im_X6_init : Cond.instanceMethod yX6_init ∈ wsX6_times := by decide +kernel
abbrev rmX6_times : Room := { frames := 2, cells := 1, slots := 4, locals := 40 }
set_option maxHeartbeats 4000000 in
set_option maxRecDepth 100000 in
/-- X6_times -/
theorem kX6_times (l : Launch) (G : kG) (B0 : Nat) (f : kH) (h o9 : Nat) (a1 b1 c1 d1 a2 b2 c2 d2 : Int64) (hM : kCs f [(h, .inr (6, [.long a1, .long b1, .long c1, .long d1])), (o9, .inr (6, [.long a2, .long b2, .long c2, .long d2]))]) : Met l yX6_times wsX6_times (rmX6_times) (kP G B0 f [.ref h, .ref o9]) (kQq G B0 (fun r f1 => ∃ q : Nat, r = some q ∧ f q = none ∧ f1 q = some (.inr (6, [.long (a1 * a2 + b1 * c2), .long (a1 * b2 + b1 * d2), .long (c1 * a2 + d1 * c2), .long (c1 * b2 + d1 * d2)])) ∧ kKp [] f f1)) 1 4 (kAb B0) := by
  refine kMet (cc := cX6_times) (maxL := 2) (ret := (some (.object "Koebehall$Table"))) (by decide) rfl (Nat.le_of_ble_eq_true rfl) ?_
  intro p e s m args below meth c H locs Q ls C hX hl hr hlocks hnm hQ
  have hO : kKp [] f f := kKp.rf
  have hS : ∀ a ∈ ([] : List Nat), (f a).isSome := by intro a h9; cases h9
  have hl : lv_has ls 2 [(0, .ref h), (1, .ref o9)] := hl
  refine k_new (X := RX6) (T := TX6) (N := 4) (ci := 6) (fs := [.long 0, .long 0, .long 0, .long 0]) C hX hin_X6_times_RX6 tyX6_ok lk_X6_times_new8 rfl (by decide) (by decide) (by decide) dX6_times_0 (fun n1 H hn hX => ?_)
  obtain ⟨g2, hX, hM, hO, fr_n1, hS⟩ := kX.nwP hX hM hO hn hS
  have hM : kCs g2 ([(h, .inr (6, [.long a1, .long b1, .long c1, .long d1])), (o9, .inr (6, [.long a2, .long b2, .long c2, .long d2])), (n1, .inr (6, [.long 0, .long 0, .long 0, .long 0]))]) := hM
  refine lv_dup C.x C.b dX6_times_3 rfl ?_
  refine lv_aload_n C.x C.b dX6_times_4 rfl (lv_at hl 0 rfl) ?_
  refine k_get (X := RX6) (T := TX6) (N := 4) (v := .long a1) C hX (hM.at 0 rfl) rfl hin_X6_times_RX6 0 (by decide) lk_X6_times_f7 (fun _ h9 => h9) rfl dX6_times_5 ?_
  refine lv_aload_n C.x C.b dX6_times_8 rfl (lv_at hl 1 rfl) ?_
  refine k_get (X := RX6) (T := TX6) (N := 4) (v := .long a2) C hX (hM.at 1 rfl) rfl hin_X6_times_RX6 0 (by decide) lk_X6_times_f7 (fun _ h9 => h9) rfl dX6_times_9 ?_
  refine lv_lmul C.x C.b dX6_times_12 ?_
  refine lv_aload_n C.x C.b dX6_times_13 rfl (lv_at hl 0 rfl) ?_
  refine k_get (X := RX6) (T := TX6) (N := 4) (v := .long b1) C hX (hM.at 0 rfl) rfl hin_X6_times_RX6 1 (by decide) lk_X6_times_f13 (fun _ h9 => h9) rfl dX6_times_14 ?_
  refine lv_aload_n C.x C.b dX6_times_17 rfl (lv_at hl 1 rfl) ?_
  refine k_get (X := RX6) (T := TX6) (N := 4) (v := .long c2) C hX (hM.at 1 rfl) rfl hin_X6_times_RX6 2 (by decide) lk_X6_times_f16 (fun _ h9 => h9) rfl dX6_times_18 ?_
  refine lv_lmul C.x C.b dX6_times_21 ?_
  refine lv_ladd C.x C.b dX6_times_22 ?_
  refine lv_aload_n C.x C.b dX6_times_23 rfl (lv_at hl 0 rfl) ?_
  refine k_get (X := RX6) (T := TX6) (N := 4) (v := .long a1) C hX (hM.at 0 rfl) rfl hin_X6_times_RX6 0 (by decide) lk_X6_times_f7 (fun _ h9 => h9) rfl dX6_times_24 ?_
  refine lv_aload_n C.x C.b dX6_times_27 rfl (lv_at hl 1 rfl) ?_
  refine k_get (X := RX6) (T := TX6) (N := 4) (v := .long b2) C hX (hM.at 1 rfl) rfl hin_X6_times_RX6 1 (by decide) lk_X6_times_f13 (fun _ h9 => h9) rfl dX6_times_28 ?_
  refine lv_lmul C.x C.b dX6_times_31 ?_
  refine lv_aload_n C.x C.b dX6_times_32 rfl (lv_at hl 0 rfl) ?_
  refine k_get (X := RX6) (T := TX6) (N := 4) (v := .long b1) C hX (hM.at 0 rfl) rfl hin_X6_times_RX6 1 (by decide) lk_X6_times_f13 (fun _ h9 => h9) rfl dX6_times_33 ?_
  refine lv_aload_n C.x C.b dX6_times_36 rfl (lv_at hl 1 rfl) ?_
  refine k_get (X := RX6) (T := TX6) (N := 4) (v := .long d2) C hX (hM.at 1 rfl) rfl hin_X6_times_RX6 3 (by decide) lk_X6_times_f19 (fun _ h9 => h9) rfl dX6_times_37 ?_
  refine lv_lmul C.x C.b dX6_times_40 ?_
  refine lv_ladd C.x C.b dX6_times_41 ?_
  refine lv_aload_n C.x C.b dX6_times_42 rfl (lv_at hl 0 rfl) ?_
  refine k_get (X := RX6) (T := TX6) (N := 4) (v := .long c1) C hX (hM.at 0 rfl) rfl hin_X6_times_RX6 2 (by decide) lk_X6_times_f16 (fun _ h9 => h9) rfl dX6_times_43 ?_
  refine lv_aload_n C.x C.b dX6_times_46 rfl (lv_at hl 1 rfl) ?_
  refine k_get (X := RX6) (T := TX6) (N := 4) (v := .long a2) C hX (hM.at 1 rfl) rfl hin_X6_times_RX6 0 (by decide) lk_X6_times_f7 (fun _ h9 => h9) rfl dX6_times_47 ?_
  refine lv_lmul C.x C.b dX6_times_50 ?_
  refine lv_aload_n C.x C.b dX6_times_51 rfl (lv_at hl 0 rfl) ?_
  refine k_get (X := RX6) (T := TX6) (N := 4) (v := .long d1) C hX (hM.at 0 rfl) rfl hin_X6_times_RX6 3 (by decide) lk_X6_times_f19 (fun _ h9 => h9) rfl dX6_times_52 ?_
  refine lv_aload_n C.x C.b dX6_times_55 rfl (lv_at hl 1 rfl) ?_
  refine k_get (X := RX6) (T := TX6) (N := 4) (v := .long c2) C hX (hM.at 1 rfl) rfl hin_X6_times_RX6 2 (by decide) lk_X6_times_f16 (fun _ h9 => h9) rfl dX6_times_56 ?_
  refine lv_lmul C.x C.b dX6_times_59 ?_
  refine lv_ladd C.x C.b dX6_times_60 ?_
  refine lv_aload_n C.x C.b dX6_times_61 rfl (lv_at hl 0 rfl) ?_
  refine k_get (X := RX6) (T := TX6) (N := 4) (v := .long c1) C hX (hM.at 0 rfl) rfl hin_X6_times_RX6 2 (by decide) lk_X6_times_f16 (fun _ h9 => h9) rfl dX6_times_62 ?_
  refine lv_aload_n C.x C.b dX6_times_65 rfl (lv_at hl 1 rfl) ?_
  refine k_get (X := RX6) (T := TX6) (N := 4) (v := .long b2) C hX (hM.at 1 rfl) rfl hin_X6_times_RX6 1 (by decide) lk_X6_times_f13 (fun _ h9 => h9) rfl dX6_times_66 ?_
  refine lv_lmul C.x C.b dX6_times_69 ?_
  refine lv_aload_n C.x C.b dX6_times_70 rfl (lv_at hl 0 rfl) ?_
  refine k_get (X := RX6) (T := TX6) (N := 4) (v := .long d1) C hX (hM.at 0 rfl) rfl hin_X6_times_RX6 3 (by decide) lk_X6_times_f19 (fun _ h9 => h9) rfl dX6_times_71 ?_
  refine lv_aload_n C.x C.b dX6_times_74 rfl (lv_at hl 1 rfl) ?_
  refine k_get (X := RX6) (T := TX6) (N := 4) (v := .long d2) C hX (hM.at 1 rfl) rfl hin_X6_times_RX6 3 (by decide) lk_X6_times_f19 (fun _ h9 => h9) rfl dX6_times_75 ?_
  refine lv_lmul C.x C.b dX6_times_78 ?_
  refine lv_ladd C.x C.b dX6_times_79 ?_
  have hM9 : kCs g2 ([(n1, .inr (6, [.long 0, .long 0, .long 0, .long 0]))]) := hM.pick [2] (by decide) ⟨rfl, trivial⟩
  refine k_callv (va_runI (As := [.long ((a1 * a2) + (b1 * c2)), .long ((a1 * b2) + (b1 * d2)), .long ((c1 * a2) + (d1 * c2)), .long ((c1 * b2) + (d1 * d2))]) (rest := [.ref n1]) C.1 (kX6_init l G B0 g2 n1 (a1 * a2 + b1 * c2) (a1 * b2 + b1 * d2) (c1 * a2 + d1 * c2) (c1 * b2 + d1 * d2) hM9) (cwI 4 C.ts gX6_times_X6_init rfl rfl rfl (C.ts _ lk_X6_times_in_RX6) (C.ts _ lk_X6_times_ml22) (C.ts _ lk_X6_times_im_X6_init) rfl (hdX6_times_X6_init) ⟨Nat.le_of_ble_eq_true rfl, Nat.le_of_ble_eq_true rfl⟩) (k_preS C hX) rfl rfl hl.1 rfl (lv_room (Nat.le_of_ble_eq_true rfl)) dX6_times_80 ⟨Nat.le_of_ble_eq_true rfl, Nat.le_of_ble_eq_true rfl⟩) hX (fun f80 H locs hp80 hX => ?_)
  obtain ⟨hM9, hO9⟩ := hp80
  have hM : kCs f80 ([(h, .inr (6, [.long a1, .long b1, .long c1, .long d1])), (o9, .inr (6, [.long a2, .long b2, .long c2, .long d2])), (n1, .inr (6, [.long (a1 * a2 + b1 * c2), .long (a1 * b2 + b1 * d2), .long (c1 * a2 + d1 * c2), .long (c1 * b2 + d1 * d2)]))]) := hM.sub hM9 (kKp.of hO9) [2] (by simp) ⟨rfl, trivial⟩
  have hO := hO.then (kKp.of hO9) (by
      intro a h9
      simp only [List.mem_cons, List.not_mem_nil, or_false] at h9
      rcases h9 with rfl
      · exact Or.inr fr_n1)
  have hS : ∀ a ∈ ([] : List Nat), (f80 a).isSome := by intro a h9; cases h9
  exact k_aret (v := some n1) C hX hr (Or.inl ⟨_, rfl⟩) hlocks hQ (by omega) (by omega) (⟨n1, rfl, fr_n1, hM.at 2 rfl, hO⟩) dX6_times_83
