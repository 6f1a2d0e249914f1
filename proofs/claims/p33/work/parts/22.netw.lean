section KR6
variable {p : Program} {l : Launch} {e : Env} {R : Room} {s : State} {m : MethodId} {args : Array Value} {below : List Frame} {meth : Method} {c : Code} {H : Heap} {locs : List Loc} {cells slots : Nat} {Q : State → Prop}
variable {cc : ByteArray} {pc : Nat} {ls : Array Slot} {rest : List Value} {G : kG} {B0 nL : Nat} {f : kH} {Ts : List Cond} {own : String} {a : Nat} {mc ms : Nat}
theorem k_rald (C : kC G B0 p m c cc nL s args Ts own) (hX : kX G B0 s f H locs) {n : Nat} {g : Nat → Option Nat} (ha : f a = some (kaR G n g)) {i : Int32} (hin : vp_in i n) (hdg : decode cc pc = .ok (.aaload, 1))
    (kk : W p l e R s m args below meth c H locs cells slots Q (F0 m (pc + 1) ls (va_rf (g i.toNatClampNeg) :: rest))) : W p l e R s m args below meth c H locs cells slots Q (F0 m pc ls (.int i :: .ref a :: rest)) := by
  have hlt : i.toNatClampNeg < n := Nat.not_le.mp fun q => hin (Or.inr q)
  exact W.aald (v := va_rf (g i.toNatClampNeg)) (ty := .array .long) C.x C.b ((hX.1.at ha) 0 _ rfl) ((C.K.2 4 (G.2.1 4, .array .long) rfl).1 n (fun j => va_rf (g j))) rfl (fun q => by cases q) (by show ¬ (i < 0 ∨ (arrV _ _ _).slots.size ≤ _); rw [arrV_size]; exact hin) (by show (arrV _ _ _).slots[_]? = _; rw [arrV_read _ _ hlt]) rfl rfl hdg kk
theorem k_rast (C : kC G B0 p m c cc nL s args Ts own) (hX : kX G B0 s f H locs) {n : Nat} {g : Nat → Option Nat} (ha : f a = some (kaR G n g)) {v nv : Nat} {gv : Nat → Int64} (hv : f v = some (kaJ G nv gv)) {i : Int32} (hin : vp_in i n) (hdg : decode cc pc = .ok (.aastore, 1))
    (kk : ∀ (H1 : Heap) (locs1 : List Loc), kX G B0 s (kst f a (kaR G n (va_up g i.toNatClampNeg (some v)))) H1 locs1 → W p l e R s m args below meth c H1 locs1 cells slots Q (F0 m (pc + 1) ls rest)) : W p l e R s m args below meth c H locs cells slots Q (F0 m pc ls (.ref v :: .int i :: .ref a :: rest)) := by
  have hlt : i.toNatClampNeg < n := Nat.not_le.mp fun q => hin (Or.inr q)
  have h0 : ¬ i < 0 := fun q => hin (Or.inl q)
  obtain ⟨L, hL, hP, hD⟩ := hX.P
  obtain ⟨hm, q0, h1, h2⟩ := kX.look ha hL
  obtain ⟨-, q1, -, h3⟩ := kX.look hv hL
  obtain ⟨comp, c4, k4, b1, b2, b3, b4⟩ := kAOA_spec C.2.1.2.2.2.2.2.2.2.2.2
  have e4 : c4 = G.2.1 4 := Option.some.inj (b4.symm.trans (C.K.2 4 (G.2.1 4, .array .long) rfl).2)
  have e1 : comp = G.2.1 1 := Option.some.inj (b1.symm.trans (C.K.2 1 (G.2.1 1, .long) rfl).2)
  subst e4
  subst e1
  obtain ⟨kJ, hkJ, -⟩ := Vm.findClass_spec b1
  refine W.aast C.x C.b (hP q0 _ h2) (fun q h => by cases h) (fun h => by cases h) b2 b3 rfl hkJ ⟨h0, by show _ < (arrV _ _ _).slots.size; rw [arrV_size]; exact hlt⟩ (hP q1 _ h3) (fun q h => by cases h) hkJ (va_asg _ _) rfl rfl hdg fun H1 e z oq => ?_
  refine kk H1 _ (kX.back hL hD hm h1 (hP.set hD h2 ?_ oq) (hD.set h2) (hX.2.put z oq (hD.2 q0 _ h2)))
  show H1[a]? = some (vp_cell _ _)
  rw [e]
  rw [vp_cell_q, vp_cell_q, arrV_store]
  congr 2
  funext q
  by_cases hq : q = i.toNatClampNeg
  · subst hq
    simp [updV, va_up, va_rf]
  · simp [updV, va_up, hq]
end KR6
/-! the network: its list of wires at wL, its table at tA with the rows at r 0 .. r 4 in the order z, the rows' numbers M -/
def mxW (G : kG) (h wL tA : Nat) (nc : Nat) (r z : Nat → Nat) (M : Nat → Nat → Int64) : va_W := [(h, .inr (4, [.ref wL, .ref tA, .int (nI nc)])), (tA, kaR G 5 (fun i9 => if i9 < 5 then some (r (z i9)) else none)), (r 0, kaJ G 5 (M 0)), (r 1, kaJ G 5 (M 1)), (r 2, kaJ G 5 (M 2)), (r 3, kaJ G 5 (M 3)), (r 4, kaJ G 5 (M 4))]
abbrev mxAs (h tA : Nat) (r : Nat → Nat) : List Nat := [h, tA, r 0, r 1, r 2, r 3, r 4]
def mxZ (z : Nat → Nat) : Prop := ∀ i : Nat, i < 5 → z i < 5
theorem mx_lt5 {k : Nat} (h : k < 5) : k = 0 ∨ k = 1 ∨ k = 2 ∨ k = 3 ∨ k = 4 := by omega
theorem mx_row {f : kH} {G : kG} {h wL tA nc : Nat} {r z : Nat → Nat} {M : Nat → Nat → Int64} (hM : kCs f (mxW G h wL tA nc r z M)) {k : Nat} (hk : k < 5) : f (r k) = some (kaJ G 5 (M k)) := by
  rcases mx_lt5 hk with rfl | rfl | rfl | rfl | rfl
  · exact hM.at 2 rfl
  · exact hM.at 3 rfl
  · exact hM.at 4 rfl
  · exact hM.at 5 rfl
  · exact hM.at 6 rfl
/-- row k of the table holds g -/
def mxSet (M : Nat → Nat → Int64) (k : Nat) (g : Nat → Int64) : Nat → Nat → Int64 := fun b => if b = k then g else M b
theorem mx_wr {G : kG} {B0 : Nat} {s : State} {f0 f : kH} {H : Heap} {locs : List Loc} {h wL tA nc : Nat} {r z : Nat → Nat} {M : Nat → Nat → Int64} {k : Nat} {g : Nat → Int64} (hX : kX G B0 s (kst f (r k) (kaJ G 5 g)) H locs) (hM : kCs f (mxW G h wL tA nc r z M)) (hO : kOff (mxAs h tA r) f0 f) (hk : k < 5) : ∃ f1, kX G B0 s f1 H locs ∧ kCs f1 (mxW G h wL tA nc r z (mxSet M k g)) ∧ kOff (mxAs h tA r) f0 f1 := by
  rcases mx_lt5 hk with rfl | rfl | rfl | rfl | rfl
  · exact kX.wr hX hM hO 2 rfl (by simp)
  · exact kX.wr hX hM hO 3 rfl (by simp)
  · exact kX.wr hX hM hO 4 rfl (by simp)
  · exact kX.wr hX hM hO 5 rfl (by simp)
  · exact kX.wr hX hM hO 6 rfl (by simp)
/-- the table as it is read: row i, column j -/
abbrev mxN (z : Nat → Nat) (M : Nat → Nat → Int64) (i j : Nat) : Int64 := M (z i) j
/-- the first row from k on, of n, whose number at st is not 0 -/
def mxPv (N : Nat → Nat → Int64) (st : Nat) : Nat → Nat → Int32
  | 0, _ => -1
  | n + 1, k => if N k st = 0 then mxPv N st n (k + 1) else nI k
def mxUp (z : Nat → Nat) (a v : Nat) : Nat → Nat := fun j => if j = a then v else z j
theorem mxUp_eq (r z : Nat → Nat) (a v : Nat) (ha : a < 5) : va_up (fun i9 => if i9 < 5 then some (r (z i9)) else none) a (some (r v)) = fun i9 => if i9 < 5 then some (r (mxUp z a v i9)) else none := by
  funext j
  simp only [va_up, mxUp]
  by_cases h : j = a
  · subst h; simp [ha]
  · simp [h]
abbrev mxSwap (z : Nat → Nat) (a b : Nat) : Nat → Nat := mxUp (mxUp z a (z b)) b (z a)
def mxAdd (z : Nat → Nat) (M : Nat → Nat → Int64) (i j : Int32) (w : Int64) : Nat → Nat → Int64 := if i = -1 ∨ j = -1 then M else mxSet M (z i.toNatClampNeg) (vp_updL (M (z i.toNatClampNeg)) j.toNatClampNeg (M (z i.toNatClampNeg) j.toNatClampNeg + w))
/-- one place below the pivot is reduced -/
abbrev mxR1 (z : Nat → Nat) (d : Int64) (st i j : Nat) (M : Nat → Nat → Int64) : Nat → Nat → Int64 := mxSet M (z i) (vp_updL (M (z i)) j ((M (z i) j * M (z st) st - M (z i) st * M (z st) j) / d))
def mxRi (z : Nat → Nat) (d : Int64) (st i : Nat) : Nat → (Nat → Nat → Int64) → (Nat → Nat → Int64)
  | 0, M => M
  | k + 1, M => mxR1 z d st i (st + 1 + k) (mxRi z d st i k M)
def mxRo (z : Nat → Nat) (d : Int64) (st w : Nat) : Nat → (Nat → Nat → Int64) → (Nat → Nat → Int64)
  | 0, M => M
  | k + 1, M => mxRi z d st (st + 1 + k) w (mxRo z d st w k M)
def mxRed (z : Nat → Nat) (d : Int64) (st sz : Nat) (M : Nat → Nat → Int64) : Nat → Nat → Int64 := if d = 0 then M else mxRo z d st (sz - (st + 1)) (sz - (st + 1)) M
/-- the determinant by steps; the order of the rows and their numbers behind it -/
def mxD (sz : Nat) : Nat → Nat → (Nat → Nat) → (Nat → Nat → Int64) → Int64 → Int64 → Int64 × (Nat → Nat) × (Nat → Nat → Int64)
  | 0, _, z, M, pb, sg => (sg * pb, z, M)
  | n + 1, k, z, M, pb, sg =>
    if mxPv (mxN z M) k (sz - k) k = -1 then (0, z, M)
    else if mxPv (mxN z M) k (sz - k) k = nI k then mxD sz n (k + 1) z (mxRed z pb k sz M) (mxRed z pb k sz M (z k) k) sg
    else mxD sz n (k + 1) (mxSwap z (mxPv (mxN z M) k (sz - k) k).toNatClampNeg k) (mxRed (mxSwap z (mxPv (mxN z M) k (sz - k) k).toNatClampNeg k) pb k sz M) (mxRed (mxSwap z (mxPv (mxN z M) k (sz - k) k).toNatClampNeg k) pb k sz M (mxSwap z (mxPv (mxN z M) k (sz - k) k).toNatClampNeg k k) k) (-sg)
theorem mxPv_in (N : Nat → Nat → Int64) (st : Nat) : ∀ n k : Nat, ¬ mxPv N st n k = -1 → ∃ t : Nat, k ≤ t ∧ t < k + n ∧ mxPv N st n k = nI t
  | 0, _, h => absurd rfl h
  | n + 1, k, h => by
    by_cases q : N k st = 0
    · have e1 : mxPv N st (n + 1) k = mxPv N st n (k + 1) := if_pos q
      rw [e1] at h ⊢
      obtain ⟨t, h1, h2, h3⟩ := mxPv_in N st n (k + 1) h
      exact ⟨t, by omega, by omega, h3⟩
    · exact ⟨k, Nat.le_refl _, by omega, if_neg q⟩
theorem mxZ_swap {z : Nat → Nat} (h : mxZ z) {a b : Nat} (ha : a < 5) (hb : b < 5) : mxZ (mxSwap z a b) := fun i hi => by
  show (if i = b then z a else if i = a then z b else z i) < 5
  split
  · exact h a ha
  · split
    · exact h b hb
    · exact h i hi
theorem mxD_0 {sz n k : Nat} {z : Nat → Nat} {M : Nat → Nat → Int64} {pb sg : Int64} (h : mxPv (mxN z M) k (sz - k) k = -1) : mxD sz (n + 1) k z M pb sg = (0, z, M) := if_pos h
theorem mxD_e {sz n k : Nat} {z : Nat → Nat} {M : Nat → Nat → Int64} {pb sg : Int64} (h1 : ¬ mxPv (mxN z M) k (sz - k) k = -1) (h : mxPv (mxN z M) k (sz - k) k = nI k) : mxD sz (n + 1) k z M pb sg = mxD sz n (k + 1) z (mxRed z pb k sz M) (mxRed z pb k sz M (z k) k) sg := (if_neg h1).trans (if_pos h)
theorem mxD_s {sz n k t : Nat} {z : Nat → Nat} {M : Nat → Nat → Int64} {pb sg : Int64} (h1 : ¬ mxPv (mxN z M) k (sz - k) k = -1) (h : mxPv (mxN z M) k (sz - k) k = nI t) (h2 : ¬ t = k) (ht : t < 2 ^ 31) (hk : k < 2 ^ 31) : mxD sz (n + 1) k z M pb sg = mxD sz n (k + 1) (mxSwap z t k) (mxRed (mxSwap z t k) pb k sz M) (mxRed (mxSwap z t k) pb k sz M (mxSwap z t k k) k) (-sg) := by
  have h3 : ¬ mxPv (mxN z M) k (sz - k) k = nI k := by rw [h]; exact fun h9 => h2 ((nI_eq ht hk).mp h9)
  refine ((if_neg h1).trans (if_neg h3)).trans ?_
  rw [h, nI_clamp ht]

theorem lk_X4_pivotRow_f20 : Cond.fieldLink RX4 20 "Koebehall$Network" "rows" "[[J" ∈ wsX4_pivotRow := by decide +kernel
theorem hin_X4_pivotRow_RX4 : ∀ w ∈ u_ws RX4 TX4 3, w ∈ wsX4_pivotRow := by decide +kernel
abbrev rmX4_pivotRow : Room := { frames := 0, cells := 0, slots := 0, locals := 0 }
set_option maxHeartbeats 4000000 in
set_option maxRecDepth 100000 in
/-- X4_pivotRow -/
theorem kX4_pivotRow (l : Launch) (G : kG) (B0 : Nat) (f : kH) (h wL tA nc : Nat) (r z : Nat → Nat) (M : Nat → Nat → Int64) (st sz : Nat) (hM : kCs f (mxW G h wL tA nc r z M)) (hz : mxZ z) (hst : st < sz) (hsz : sz ≤ 5) : Met l yX4_pivotRow wsX4_pivotRow (rmX4_pivotRow) (kP G B0 f [.ref h, .int (nI st), .int (nI sz)]) (kQi G B0 (fun r9 f1 => r9 = mxPv (mxN z M) st (sz - st) st ∧ f1 = f)) 0 0 (kAb B0) := by
  refine kMet (cc := cX4_pivotRow) (maxL := 4) (ret := (some .int)) (by decide) rfl (Nat.le_of_ble_eq_true rfl) ?_
  intro p e s m args below meth c H locs Q ls C hX hl hr hlocks hnm hQ
  have hl : lv_has ls 4 [(0, .ref h), (1, .int (nI st)), (2, .int (nI sz))] := hl
  refine lv_iload_n C.x C.b dX4_pivotRow_0 rfl (lv_at hl 1 rfl) ?_
  refine lv_istore_n (lv' := [(3, .int (nI st)), (0, .ref h), (1, .int (nI st)), (2, .int (nI sz))]) C.x C.b dX4_pivotRow_1 rfl hl (by decide) rfl (fun ls hl => ?_)
  have LOOP2 : ∀ (n : Nat) (k : Nat), (k ≤ sz) → (mxPv (mxN z M) st (sz - k) k = mxPv (mxN z M) st (sz - st) st) → (sz - k) < n → ∀ (ls : Array Slot), lv_has ls 4 [(3, .int (nI k)), (0, .ref h), (1, .int (nI st)), (2, .int (nI sz))] → ∀ (H : Heap) (locs : List Loc), kX G B0 s f H locs → W p l e (rmX4_pivotRow) s m args below meth c H locs 0 0 Q (F0 m 2 ls []) := by
    intro n2
    induction n2 with
    | zero => intro k hk hv hn; exact absurd hn (Nat.not_lt_zero _)
    | succ n2 ih2 =>
      intro k hk hv hn ls hl H locs hX
      refine lv_iload_n C.x C.b dX4_pivotRow_2 rfl (lv_at hl 0 rfl) ?_
      refine lv_iload_n C.x C.b dX4_pivotRow_3 rfl (lv_at hl 3 rfl) ?_
      refine lv_icmp_ge (tgt := 28) C.x C.b dX4_pivotRow_4 (by decide) (fun c_4 => ?_) (fun c_4 => ?_)
      · skip
        have c_4 : sz ≤ k := (nI_leI (by omega) (by omega)).mp c_4
        refine lv_iconst (v := -1) C.x C.b dX4_pivotRow_28 (by decide) ?_
        exact k_iret C hX hr hlocks hQ (by omega) (by omega) (by refine ⟨?_, rfl⟩; rw [← hv]; first | (rw [show sz - k = 0 by omega, mxPv]; done) | (rw [show sz - k = (sz - (k + 1)) + 1 by omega, mxPv, if_neg c_17]; done)) dX4_pivotRow_29
      · skip
        have c_4 : ¬ (sz ≤ k) := fun h9 => c_4 ((nI_leI (by omega) (by omega)).mpr h9)
        refine lv_aload_n C.x C.b dX4_pivotRow_7 rfl (lv_at hl 1 rfl) ?_
        refine k_get (X := RX4) (T := TX4) (N := 3) (v := .ref tA) C hX (hM.at 0 rfl) rfl hin_X4_pivotRow_RX4 1 (by decide) lk_X4_pivotRow_f20 (fun _ h9 => h9) rfl dX4_pivotRow_8 ?_
        refine lv_iload_n C.x C.b dX4_pivotRow_11 rfl (lv_at hl 0 rfl) ?_
        refine k_rald C hX (hM.at 1 rfl) (vp_in_nI (by omega) (by omega)) dX4_pivotRow_12 ?_
        rw [nI_clamp (by omega)]
        refine k_topq (v := r (z k)) (if_pos (by omega)) ?_
        refine lv_iload_n C.x C.b dX4_pivotRow_13 rfl (lv_at hl 2 rfl) ?_
        refine k_lald C hX (mx_row hM (hz _ (by omega))) (vp_in_nI (by omega) (by omega)) dX4_pivotRow_14 ?_
        refine k_topl (y := (M (z k)) st) (by rw [nI_clamp (by omega)]) ?_
        refine lv_lconst (v := 0) C.x C.b dX4_pivotRow_15 (by decide) ?_
        refine k_lcmp_eq (tgt := 22) C.x C.b dX4_pivotRow_16 dX4_pivotRow_17 (by decide) (fun c_17 => ?_) (fun c_17 => ?_)
        · skip
          refine lv_iinc (v := (nI (k + 1))) (lv' := [(3, .int (nI (k + 1))), (0, .ref h), (1, .int (nI st)), (2, .int (nI sz))]) C.x C.b dX4_pivotRow_22 hl (k := 0) rfl (nI_1 _) (by decide) rfl (fun ls hl => ?_)
          refine lv_goto (tgt := 2) C.x C.b dX4_pivotRow_25 (by decide) ?_
          exact ih2 (k + 1) (by omega) (by rw [← hv, show sz - k = (sz - (k + 1)) + 1 by omega, mxPv, if_pos c_17]) (by omega) ls (lv_sub hl [0, 1, 2, 3] rfl) _ _ hX
        · skip
          refine lv_iload_n C.x C.b dX4_pivotRow_20 rfl (lv_at hl 0 rfl) ?_
          exact k_iret C hX hr hlocks hQ (by omega) (by omega) (by refine ⟨?_, rfl⟩; rw [← hv]; first | (rw [show sz - k = 0 by omega, mxPv]; done) | (rw [show sz - k = (sz - (k + 1)) + 1 by omega, mxPv, if_neg c_17]; done)) dX4_pivotRow_21
  exact LOOP2 _ st (by omega) rfl (Nat.lt_succ_self _) ls (lv_sub hl [0, 1, 2, 3] rfl) _ _ hX

theorem lk_X4_swapRows_f20 : Cond.fieldLink RX4 20 "Koebehall$Network" "rows" "[[J" ∈ wsX4_swapRows := by decide +kernel
theorem hin_X4_swapRows_RX4 : ∀ w ∈ u_ws RX4 TX4 3, w ∈ wsX4_swapRows := by decide +kernel
abbrev rmX4_swapRows : Room := { frames := 0, cells := 0, slots := 0, locals := 0 }
set_option maxHeartbeats 4000000 in
set_option maxRecDepth 100000 in
/-- X4_swapRows -/
theorem kX4_swapRows (l : Launch) (G : kG) (B0 : Nat) (f : kH) (h wL tA nc : Nat) (r z : Nat → Nat) (M : Nat → Nat → Int64) (x y : Nat) (hM : kCs f (mxW G h wL tA nc r z M)) (hz : mxZ z) (hx : x < 5) (hy : y < 5) : Met l yX4_swapRows wsX4_swapRows (rmX4_swapRows) (kP G B0 f [.ref h, .int (nI x), .int (nI y)]) (kQv G B0 (fun f1 => kCs f1 (mxW G h wL tA nc r (mxSwap z x y) M) ∧ kOff (mxAs h tA r) f f1)) 0 0 (kAb B0) := by
  refine kMet (cc := cX4_swapRows) (maxL := 4) (ret := none) (by decide) rfl (Nat.le_of_ble_eq_true rfl) ?_
  intro p e s m args below meth c H locs Q ls C hX hl hr hlocks hnm hQ
  have hO : kOff (mxAs h tA r) f f := kOff.rf
  have hl : lv_has ls 4 [(0, .ref h), (1, .int (nI x)), (2, .int (nI y))] := hl
  refine lv_aload_n C.x C.b dX4_swapRows_0 rfl (lv_at hl 0 rfl) ?_
  refine k_get (X := RX4) (T := TX4) (N := 3) (v := .ref tA) C hX (hM.at 0 rfl) rfl hin_X4_swapRows_RX4 1 (by decide) lk_X4_swapRows_f20 (fun _ h9 => h9) rfl dX4_swapRows_1 ?_
  refine lv_iload_n C.x C.b dX4_swapRows_4 rfl (lv_at hl 1 rfl) ?_
  refine k_rald C hX (hM.at 1 rfl) (vp_in_nI (by omega) (by omega)) dX4_swapRows_5 ?_
  rw [nI_clamp (by omega)]
  refine k_topq (v := r (z x)) (if_pos (by omega)) ?_
  refine lv_astore_n (lv' := [(3, .ref (r (z x))), (0, .ref h), (1, .int (nI x)), (2, .int (nI y))]) C.x C.b dX4_swapRows_6 rfl hl (by decide) rfl (fun ls hl => ?_)
  refine lv_aload_n C.x C.b dX4_swapRows_7 rfl (lv_at hl 1 rfl) ?_
  refine k_get (X := RX4) (T := TX4) (N := 3) (v := .ref tA) C hX (hM.at 0 rfl) rfl hin_X4_swapRows_RX4 1 (by decide) lk_X4_swapRows_f20 (fun _ h9 => h9) rfl dX4_swapRows_8 ?_
  refine lv_iload_n C.x C.b dX4_swapRows_11 rfl (lv_at hl 2 rfl) ?_
  refine lv_aload_n C.x C.b dX4_swapRows_12 rfl (lv_at hl 1 rfl) ?_
  refine k_get (X := RX4) (T := TX4) (N := 3) (v := .ref tA) C hX (hM.at 0 rfl) rfl hin_X4_swapRows_RX4 1 (by decide) lk_X4_swapRows_f20 (fun _ h9 => h9) rfl dX4_swapRows_13 ?_
  refine lv_iload_n C.x C.b dX4_swapRows_16 rfl (lv_at hl 3 rfl) ?_
  refine k_rald C hX (hM.at 1 rfl) (vp_in_nI (by omega) (by omega)) dX4_swapRows_17 ?_
  rw [nI_clamp (by omega)]
  refine k_topq (v := r (z y)) (if_pos (by omega)) ?_
  refine k_rast C hX (hM.at 1 rfl) (mx_row hM (hz _ (by omega))) (vp_in_nI (by omega) (by omega)) dX4_swapRows_18 (fun H locs hX => ?_)
  rw [nI_clamp (by omega)] at hX
  rw [mxUp_eq r z x (z y) (by omega)] at hX
  obtain ⟨g1, hX, hM, hO⟩ := kX.wr hX hM hO 1 rfl (List.mem_of_getElem? (i := 1) rfl)
  have hM : kCs g1 (mxW G h wL tA nc r (mxUp z x (z y)) M) := hM
  refine lv_aload_n C.x C.b dX4_swapRows_19 rfl (lv_at hl 1 rfl) ?_
  refine k_get (X := RX4) (T := TX4) (N := 3) (v := .ref tA) C hX (hM.at 0 rfl) rfl hin_X4_swapRows_RX4 1 (by decide) lk_X4_swapRows_f20 (fun _ h9 => h9) rfl dX4_swapRows_20 ?_
  refine lv_iload_n C.x C.b dX4_swapRows_23 rfl (lv_at hl 3 rfl) ?_
  refine lv_aload_n C.x C.b dX4_swapRows_24 rfl (lv_at hl 0 rfl) ?_
  refine k_rast C hX (hM.at 1 rfl) (mx_row hM (hz _ (by omega))) (vp_in_nI (by omega) (by omega)) dX4_swapRows_25 (fun H locs hX => ?_)
  rw [nI_clamp (by omega)] at hX
  rw [mxUp_eq r (mxUp z x (z y)) y (z x) (by omega)] at hX
  obtain ⟨g2, hX, hM, hO⟩ := kX.wr hX hM hO 1 rfl (List.mem_of_getElem? (i := 1) rfl)
  have hM : kCs g2 (mxW G h wL tA nc r (mxUp (mxUp z x (z y)) y (z x)) M) := hM
  exact k_vret C hX hr hlocks hQ (by omega) (by omega) (⟨hM, hO⟩) dX4_swapRows_26

theorem lk_X4_addToTable_f20 : Cond.fieldLink RX4 20 "Koebehall$Network" "rows" "[[J" ∈ wsX4_addToTable := by decide +kernel
theorem hin_X4_addToTable_RX4 : ∀ w ∈ u_ws RX4 TX4 3, w ∈ wsX4_addToTable := by decide +kernel
abbrev rmX4_addToTable : Room := { frames := 0, cells := 0, slots := 0, locals := 0 }
set_option maxHeartbeats 4000000 in
set_option maxRecDepth 100000 in
/-- X4_addToTable -/
theorem kX4_addToTable (l : Launch) (G : kG) (B0 : Nat) (f : kH) (h wL tA nc : Nat) (r z : Nat → Nat) (M : Nat → Nat → Int64) (i j : Int32) (w : Int64) (hM : kCs f (mxW G h wL tA nc r z M)) (hz : mxZ z) (hi : i = -1 ∨ mIn i 5) (hj : j = -1 ∨ mIn j 5) : Met l yX4_addToTable wsX4_addToTable (rmX4_addToTable) (kP G B0 f [.ref h, .int i, .int j, .long w]) (kQv G B0 (fun f1 => kCs f1 (mxW G h wL tA nc r z (mxAdd z M i j w)) ∧ kOff (mxAs h tA r) f f1)) 0 0 (kAb B0) := by
  refine kMet (cc := cX4_addToTable) (maxL := 5) (ret := none) (by decide) rfl (Nat.le_of_ble_eq_true rfl) ?_
  intro p e s m args below meth c H locs Q ls C hX hl hr hlocks hnm hQ
  have hO : kOff (mxAs h tA r) f f := kOff.rf
  have hl : lv_has ls 5 [(0, .ref h), (1, .int i), (2, .int j), (3, .long w)] := hl
  refine lv_iload_n C.x C.b dX4_addToTable_0 rfl (lv_at hl 1 rfl) ?_
  refine lv_iconst (v := -1) C.x C.b dX4_addToTable_1 (by decide) ?_
  refine lv_icmp_eq (tgt := 22) C.x C.b dX4_addToTable_2 (by decide) (fun c_2 => ?_) (fun c_2 => ?_)
  · skip
    exact k_vret C hX hr hlocks hQ (by omega) (by omega) (by refine ⟨?_, hO⟩; rw [mxAdd]; first | (rw [if_pos (Or.inl c_2)]; exact hM) | (rw [if_pos (Or.inr c_7)]; exact hM) | (rw [if_neg (fun h9 => h9.elim c_2 c_7), ex, ey, nI_clamp (by omega), nI_clamp (by omega)]; exact hM)) dX4_addToTable_22
  · skip
    obtain ⟨x, hx, ex⟩ := mIn_of (hi.resolve_left c_2) (by decide)
    refine lv_iload_n C.x C.b dX4_addToTable_5 rfl (lv_at hl 2 rfl) ?_
    refine lv_iconst (v := -1) C.x C.b dX4_addToTable_6 (by decide) ?_
    refine lv_icmp_eq (tgt := 22) C.x C.b dX4_addToTable_7 (by decide) (fun c_7 => ?_) (fun c_7 => ?_)
    · skip
      exact k_vret C hX hr hlocks hQ (by omega) (by omega) (by refine ⟨?_, hO⟩; rw [mxAdd]; first | (rw [if_pos (Or.inl c_2)]; exact hM) | (rw [if_pos (Or.inr c_7)]; exact hM) | (rw [if_neg (fun h9 => h9.elim c_2 c_7), ex, ey, nI_clamp (by omega), nI_clamp (by omega)]; exact hM)) dX4_addToTable_22
    · skip
      obtain ⟨y, hy, ey⟩ := mIn_of (hj.resolve_left c_7) (by decide)
      rw [show i = (nI x) from ex] at hl
      rw [show j = (nI y) from ey] at hl
      refine lv_aload_n C.x C.b dX4_addToTable_10 rfl (lv_at hl 0 rfl) ?_
      refine k_get (X := RX4) (T := TX4) (N := 3) (v := .ref tA) C hX (hM.at 0 rfl) rfl hin_X4_addToTable_RX4 1 (by decide) lk_X4_addToTable_f20 (fun _ h9 => h9) rfl dX4_addToTable_11 ?_
      refine lv_iload_n C.x C.b dX4_addToTable_14 rfl (lv_at hl 1 rfl) ?_
      refine k_rald C hX (hM.at 1 rfl) (vp_in_nI (by omega) (by omega)) dX4_addToTable_15 ?_
      rw [nI_clamp (by omega)]
      refine k_topq (v := r (z x)) (if_pos (by omega)) ?_
      refine lv_iload_n C.x C.b dX4_addToTable_16 rfl (lv_at hl 2 rfl) ?_
      refine lv_dup2_11 C.x C.b dX4_addToTable_17 rfl rfl ?_
      refine k_lald C hX (mx_row hM (hz _ (by omega))) (vp_in_nI (by omega) (by omega)) dX4_addToTable_18 ?_
      refine k_topl (y := (M (z x)) y) (by rw [nI_clamp (by omega)]) ?_
      refine lv_lload_n C.x C.b dX4_addToTable_19 rfl (lv_at hl 3 rfl) ?_
      refine lv_ladd C.x C.b dX4_addToTable_20 ?_
      refine k_last C hX (mx_row hM (hz _ (by omega))) (vp_in_nI (by omega) (by omega)) dX4_addToTable_21 (fun H locs hX => ?_)
      rw [nI_clamp (by omega)] at hX
      obtain ⟨g1, hX, hM, hO⟩ := mx_wr hX hM hO (hz _ (by omega))
      have hM : kCs g1 (mxW G h wL tA nc r z (mxSet M (z x) (vp_updL (M (z x)) y (((M (z x)) y) + w)))) := hM
      exact k_vret C hX hr hlocks hQ (by omega) (by omega) (by refine ⟨?_, hO⟩; rw [mxAdd]; first | (rw [if_pos (Or.inl c_2)]; exact hM) | (rw [if_pos (Or.inr c_7)]; exact hM) | (rw [if_neg (fun h9 => h9.elim c_2 c_7), ex, ey, nI_clamp (by omega), nI_clamp (by omega)]; exact hM)) dX4_addToTable_22

theorem lk_X4_reduceBelow_f20 : Cond.fieldLink RX4 20 "Koebehall$Network" "rows" "[[J" ∈ wsX4_reduceBelow := by decide +kernel
theorem hin_X4_reduceBelow_RX4 : ∀ w ∈ u_ws RX4 TX4 3, w ∈ wsX4_reduceBelow := by decide +kernel
abbrev rmX4_reduceBelow : Room := { frames := 0, cells := 0, slots := 0, locals := 0 }
set_option maxHeartbeats 4000000 in
set_option maxRecDepth 100000 in
/-- X4_reduceBelow -/
theorem kX4_reduceBelow (l : Launch) (G : kG) (B0 : Nat) (f : kH) (h wL tA nc : Nat) (r z : Nat → Nat) (M : Nat → Nat → Int64) (st sz : Nat) (d : Int64) (hM : kCs f (mxW G h wL tA nc r z M)) (hz : mxZ z) (hst : st < sz) (hsz : sz ≤ 5) : Met l yX4_reduceBelow wsX4_reduceBelow (rmX4_reduceBelow) (kP G B0 f [.ref h, .int (nI st), .int (nI sz), .long d]) (kQv G B0 (fun f1 => kCs f1 (mxW G h wL tA nc r z (mxRed z d st sz M)) ∧ kOff (mxAs h tA r) f f1)) 0 0 (kAb B0) := by
  refine kMet (cc := cX4_reduceBelow) (maxL := 9) (ret := none) (by decide) rfl (Nat.le_of_ble_eq_true rfl) ?_
  intro p e s m args below meth c H locs Q ls C hX hl hr hlocks hnm hQ
  have hO : kOff (mxAs h tA r) f f := kOff.rf
  have hl : lv_has ls 9 [(0, .ref h), (1, .int (nI st)), (2, .int (nI sz)), (3, .long d)] := hl
  refine lv_lload_n C.x C.b dX4_reduceBelow_0 rfl (lv_at hl 3 rfl) ?_
  refine lv_lconst (v := 0) C.x C.b dX4_reduceBelow_1 (by decide) ?_
  refine k_lcmp_ne (tgt := 7) C.x C.b dX4_reduceBelow_2 dX4_reduceBelow_3 (by decide) (fun c_3 => ?_) (fun c_3 => ?_)
  · skip
    refine lv_iload_n C.x C.b dX4_reduceBelow_7 rfl (lv_at hl 1 rfl) ?_
    refine lv_iconst (v := nI 1) C.x C.b dX4_reduceBelow_8 (by decide) ?_
    refine lv_iadd C.x C.b dX4_reduceBelow_9 ?_
    refine k_topi (y := nI (st + 1)) (nI_add _ _) ?_
    refine lv_istore (lv' := [(5, .int (nI (st + 1))), (0, .ref h), (1, .int (nI st)), (2, .int (nI sz)), (3, .long d)]) C.x C.b dX4_reduceBelow_10 hl (by decide) rfl (fun ls hl => ?_)
    have LOOP12 : ∀ (n : Nat) (k : Nat) (Mo : Nat → Nat → Int64), (k ≤ (sz - (st + 1))) → (Mo = mxRo z d st (sz - (st + 1)) k M) → (sz - k) < n → ∀ (ls : Array Slot), lv_has ls 9 [(5, .int (nI (st + 1 + k))), (0, .ref h), (1, .int (nI st)), (2, .int (nI sz)), (3, .long d)] → ∀ (fL : kH), kCs fL (mxW G h wL tA nc r z Mo) → kOff (mxAs h tA r) f fL → ∀ (H : Heap) (locs : List Loc), kX G B0 s fL H locs → W p l e (rmX4_reduceBelow) s m args below meth c H locs 0 0 Q (F0 m 12 ls []) := by
      intro n12
      induction n12 with
      | zero => intro k Mo hk hMo hn; exact absurd hn (Nat.not_lt_zero _)
      | succ n12 ih12 =>
        intro k Mo hk hMo hn ls hl fL hM hO H locs hX
        refine lv_iload C.x C.b dX4_reduceBelow_12 (lv_at hl 0 rfl) ?_
        refine lv_iload_n C.x C.b dX4_reduceBelow_14 rfl (lv_at hl 3 rfl) ?_
        refine lv_icmp_ge (tgt := 96) C.x C.b dX4_reduceBelow_15 (by decide) (fun c_15 => ?_) (fun c_15 => ?_)
        · skip
          have c_15 : sz ≤ st + 1 + k := (nI_leI (by omega) (by omega)).mp c_15
          exact k_vret C hX hr hlocks hQ (by omega) (by omega) (by first | (rw [mxRed, if_pos c_3]; exact ⟨hM, hO⟩) | (rw [mxRed, if_neg c_3, show mxRo z d st (sz - (st + 1)) (sz - (st + 1)) M = Mo from (by rw [hMo, show k = (sz - (st + 1)) from (by omega)])]; exact ⟨hM, hO⟩)) dX4_reduceBelow_96
        · skip
          have c_15 : ¬ (sz ≤ st + 1 + k) := fun h9 => c_15 ((nI_leI (by omega) (by omega)).mpr h9)
          refine lv_iload_n C.x C.b dX4_reduceBelow_18 rfl (lv_at hl 2 rfl) ?_
          refine lv_iconst (v := nI 1) C.x C.b dX4_reduceBelow_19 (by decide) ?_
          refine lv_iadd C.x C.b dX4_reduceBelow_20 ?_
          refine k_topi (y := nI (st + 1)) (nI_add _ _) ?_
          refine lv_istore (lv' := [(6, .int (nI (st + 1))), (5, .int (nI (st + 1 + k))), (0, .ref h), (1, .int (nI st)), (2, .int (nI sz)), (3, .long d)]) C.x C.b dX4_reduceBelow_21 hl (by decide) rfl (fun ls hl => ?_)
          have LOOP23 : ∀ (n : Nat) (j : Nat) (Mi : Nat → Nat → Int64), (j ≤ (sz - (st + 1))) → (Mi = mxRi z d st (st + 1 + k) j Mo) → (sz - j) < n → ∀ (ls : Array Slot), lv_has ls 9 [(6, .int (nI (st + 1 + j))), (5, .int (nI (st + 1 + k))), (0, .ref h), (1, .int (nI st)), (2, .int (nI sz)), (3, .long d)] → ∀ (fL : kH), kCs fL (mxW G h wL tA nc r z Mi) → kOff (mxAs h tA r) f fL → ∀ (H : Heap) (locs : List Loc), kX G B0 s fL H locs → W p l e (rmX4_reduceBelow) s m args below meth c H locs 0 0 Q (F0 m 23 ls []) := by
            intro n23
            induction n23 with
            | zero => intro j Mi hj hMi hn; exact absurd hn (Nat.not_lt_zero _)
            | succ n23 ih23 =>
              intro j Mi hj hMi hn ls hl fL hM hO H locs hX
              refine lv_iload C.x C.b dX4_reduceBelow_23 (lv_at hl 0 rfl) ?_
              refine lv_iload_n C.x C.b dX4_reduceBelow_25 rfl (lv_at hl 4 rfl) ?_
              refine lv_icmp_ge (tgt := 90) C.x C.b dX4_reduceBelow_26 (by decide) (fun c_26 => ?_) (fun c_26 => ?_)
              · skip
                have c_26 : sz ≤ st + 1 + j := (nI_leI (by omega) (by omega)).mp c_26
                refine lv_iinc (v := (nI (st + 1 + k + 1))) (lv' := [(5, .int (nI (st + 1 + k + 1))), (6, .int (nI (st + 1 + j))), (0, .ref h), (1, .int (nI st)), (2, .int (nI sz)), (3, .long d)]) C.x C.b dX4_reduceBelow_90 hl (k := 1) rfl (nI_1 _) (by decide) rfl (fun ls hl => ?_)
                refine lv_goto (tgt := 12) C.x C.b dX4_reduceBelow_93 (by decide) ?_
                exact ih12 (k + 1) Mi (by omega) (by rw [mxRo, ← hMo, hMi, show j = (sz - (st + 1)) by omega]) (by omega) ls (lv_sub hl [0, 2, 3, 4, 5] rfl) _ hM hO _ _ hX
              · skip
                have c_26 : ¬ (sz ≤ st + 1 + j) := fun h9 => c_26 ((nI_leI (by omega) (by omega)).mpr h9)
                refine lv_aload_n C.x C.b dX4_reduceBelow_29 rfl (lv_at hl 2 rfl) ?_
                refine k_get (X := RX4) (T := TX4) (N := 3) (v := .ref tA) C hX (hM.at 0 rfl) rfl hin_X4_reduceBelow_RX4 1 (by decide) lk_X4_reduceBelow_f20 (fun _ h9 => h9) rfl dX4_reduceBelow_30 ?_
                refine lv_iload C.x C.b dX4_reduceBelow_33 (lv_at hl 1 rfl) ?_
                refine k_rald C hX (hM.at 1 rfl) (vp_in_nI (by omega) (by omega)) dX4_reduceBelow_35 ?_
                rw [nI_clamp (by omega)]
                refine k_topq (v := r (z (st + 1 + k))) (if_pos (by omega)) ?_
                refine lv_iload C.x C.b dX4_reduceBelow_36 (lv_at hl 0 rfl) ?_
                refine k_lald C hX (mx_row hM (hz _ (by omega))) (vp_in_nI (by omega) (by omega)) dX4_reduceBelow_38 ?_
                refine k_topl (y := (Mi (z (st + 1 + k))) (st + 1 + j)) (by rw [nI_clamp (by omega)]) ?_
                refine lv_aload_n C.x C.b dX4_reduceBelow_39 rfl (lv_at hl 2 rfl) ?_
                refine k_get (X := RX4) (T := TX4) (N := 3) (v := .ref tA) C hX (hM.at 0 rfl) rfl hin_X4_reduceBelow_RX4 1 (by decide) lk_X4_reduceBelow_f20 (fun _ h9 => h9) rfl dX4_reduceBelow_40 ?_
                refine lv_iload_n C.x C.b dX4_reduceBelow_43 rfl (lv_at hl 3 rfl) ?_
                refine k_rald C hX (hM.at 1 rfl) (vp_in_nI (by omega) (by omega)) dX4_reduceBelow_44 ?_
                rw [nI_clamp (by omega)]
                refine k_topq (v := r (z st)) (if_pos (by omega)) ?_
                refine lv_iload_n C.x C.b dX4_reduceBelow_45 rfl (lv_at hl 3 rfl) ?_
                refine k_lald C hX (mx_row hM (hz _ (by omega))) (vp_in_nI (by omega) (by omega)) dX4_reduceBelow_46 ?_
                refine k_topl (y := (Mi (z st)) st) (by rw [nI_clamp (by omega)]) ?_
                refine lv_lmul C.x C.b dX4_reduceBelow_47 ?_
                refine lv_aload_n C.x C.b dX4_reduceBelow_48 rfl (lv_at hl 2 rfl) ?_
                refine k_get (X := RX4) (T := TX4) (N := 3) (v := .ref tA) C hX (hM.at 0 rfl) rfl hin_X4_reduceBelow_RX4 1 (by decide) lk_X4_reduceBelow_f20 (fun _ h9 => h9) rfl dX4_reduceBelow_49 ?_
                refine lv_iload C.x C.b dX4_reduceBelow_52 (lv_at hl 1 rfl) ?_
                refine k_rald C hX (hM.at 1 rfl) (vp_in_nI (by omega) (by omega)) dX4_reduceBelow_54 ?_
                rw [nI_clamp (by omega)]
                refine k_topq (v := r (z (st + 1 + k))) (if_pos (by omega)) ?_
                refine lv_iload_n C.x C.b dX4_reduceBelow_55 rfl (lv_at hl 3 rfl) ?_
                refine k_lald C hX (mx_row hM (hz _ (by omega))) (vp_in_nI (by omega) (by omega)) dX4_reduceBelow_56 ?_
                refine k_topl (y := (Mi (z (st + 1 + k))) st) (by rw [nI_clamp (by omega)]) ?_
                refine lv_aload_n C.x C.b dX4_reduceBelow_57 rfl (lv_at hl 2 rfl) ?_
                refine k_get (X := RX4) (T := TX4) (N := 3) (v := .ref tA) C hX (hM.at 0 rfl) rfl hin_X4_reduceBelow_RX4 1 (by decide) lk_X4_reduceBelow_f20 (fun _ h9 => h9) rfl dX4_reduceBelow_58 ?_
                refine lv_iload_n C.x C.b dX4_reduceBelow_61 rfl (lv_at hl 3 rfl) ?_
                refine k_rald C hX (hM.at 1 rfl) (vp_in_nI (by omega) (by omega)) dX4_reduceBelow_62 ?_
                rw [nI_clamp (by omega)]
                refine k_topq (v := r (z st)) (if_pos (by omega)) ?_
                refine lv_iload C.x C.b dX4_reduceBelow_63 (lv_at hl 0 rfl) ?_
                refine k_lald C hX (mx_row hM (hz _ (by omega))) (vp_in_nI (by omega) (by omega)) dX4_reduceBelow_65 ?_
                refine k_topl (y := (Mi (z st)) (st + 1 + j)) (by rw [nI_clamp (by omega)]) ?_
                refine lv_lmul C.x C.b dX4_reduceBelow_66 ?_
                refine lv_lsub C.x C.b dX4_reduceBelow_67 ?_
                refine lv_lstore (lv' := [(7, .long ((((Mi (z (st + 1 + k))) (st + 1 + j)) * ((Mi (z st)) st)) - (((Mi (z (st + 1 + k))) st) * ((Mi (z st)) (st + 1 + j))))), (6, .int (nI (st + 1 + j))), (5, .int (nI (st + 1 + k))), (0, .ref h), (1, .int (nI st)), (2, .int (nI sz)), (3, .long d)]) C.x C.b dX4_reduceBelow_68 hl (by decide) rfl (fun ls hl => ?_)
                refine lv_aload_n C.x C.b dX4_reduceBelow_70 rfl (lv_at hl 3 rfl) ?_
                refine k_get (X := RX4) (T := TX4) (N := 3) (v := .ref tA) C hX (hM.at 0 rfl) rfl hin_X4_reduceBelow_RX4 1 (by decide) lk_X4_reduceBelow_f20 (fun _ h9 => h9) rfl dX4_reduceBelow_71 ?_
                refine lv_iload C.x C.b dX4_reduceBelow_74 (lv_at hl 2 rfl) ?_
                refine k_rald C hX (hM.at 1 rfl) (vp_in_nI (by omega) (by omega)) dX4_reduceBelow_76 ?_
                rw [nI_clamp (by omega)]
                refine k_topq (v := r (z (st + 1 + k))) (if_pos (by omega)) ?_
                refine lv_iload C.x C.b dX4_reduceBelow_77 (lv_at hl 1 rfl) ?_
                refine lv_lload C.x C.b dX4_reduceBelow_79 (lv_at hl 0 rfl) ?_
                refine lv_lload_n C.x C.b dX4_reduceBelow_81 rfl (lv_at hl 6 rfl) ?_
                refine lv_ldiv C.x C.b dX4_reduceBelow_82 (c_3) ?_
                refine k_last C hX (mx_row hM (hz _ (by omega))) (vp_in_nI (by omega) (by omega)) dX4_reduceBelow_83 (fun H locs hX => ?_)
                rw [nI_clamp (by omega)] at hX
                obtain ⟨g3, hX, hM, hO⟩ := mx_wr hX hM hO (hz _ (by omega))
                have hM : kCs g3 (mxW G h wL tA nc r z (mxSet Mi (z (st + 1 + k)) (vp_updL (Mi (z (st + 1 + k))) (st + 1 + j) (((((Mi (z (st + 1 + k))) (st + 1 + j)) * ((Mi (z st)) st)) - (((Mi (z (st + 1 + k))) st) * ((Mi (z st)) (st + 1 + j)))) / d)))) := hM
                refine lv_iinc (v := (nI (st + 1 + j + 1))) (lv' := [(6, .int (nI (st + 1 + j + 1))), (7, .long ((((Mi (z (st + 1 + k))) (st + 1 + j)) * ((Mi (z st)) st)) - (((Mi (z (st + 1 + k))) st) * ((Mi (z st)) (st + 1 + j))))), (5, .int (nI (st + 1 + k))), (0, .ref h), (1, .int (nI st)), (2, .int (nI sz)), (3, .long d)]) C.x C.b dX4_reduceBelow_84 hl (k := 1) rfl (nI_1 _) (by decide) rfl (fun ls hl => ?_)
                refine lv_goto (tgt := 23) C.x C.b dX4_reduceBelow_87 (by decide) ?_
                exact ih23 (j + 1) (mxSet Mi (z (st + 1 + k)) (vp_updL (Mi (z (st + 1 + k))) (st + 1 + j) (((((Mi (z (st + 1 + k))) (st + 1 + j)) * ((Mi (z st)) st)) - (((Mi (z (st + 1 + k))) st) * ((Mi (z st)) (st + 1 + j)))) / d))) (by omega) (by rw [mxRi, ← hMi]) (by omega) ls (lv_sub hl [0, 2, 3, 4, 5, 6] rfl) _ hM hO _ _ hX
          exact LOOP23 _ 0 Mo (by omega) rfl (Nat.lt_succ_self _) ls (lv_sub hl [0, 1, 2, 3, 4, 5] rfl) _ hM hO _ _ hX
    exact LOOP12 _ 0 M (by omega) rfl (Nat.lt_succ_self _) ls (lv_sub hl [0, 1, 2, 3, 4] rfl) _ hM hO _ _ hX
  · skip
    exact k_vret C hX hr hlocks hQ (by omega) (by omega) (by first | (rw [mxRed, if_pos c_3]; exact ⟨hM, hO⟩) | (rw [mxRed, if_neg c_3, show mxRo z d st (sz - (st + 1)) (sz - (st + 1)) M = Mo from (by rw [hMo, show k = (sz - (st + 1)) from (by omega)])]; exact ⟨hM, hO⟩)) dX4_reduceBelow_6

theorem hdX4_determinant_X4_pivotRow : yX4_pivotRow.cls ≠ "java/lang/invoke/MethodHandle" ∧ yX4_pivotRow.cls ≠ "java/lang/invoke/VarHandle" ∧ (parseMethodDescriptor yX4_pivotRow.desc).map (fun d => d.parameters.length) = some 2 := by decide +kernel
theorem hdX4_determinant_X4_reduceBelow : yX4_reduceBelow.cls ≠ "java/lang/invoke/MethodHandle" ∧ yX4_reduceBelow.cls ≠ "java/lang/invoke/VarHandle" ∧ (parseMethodDescriptor yX4_reduceBelow.desc).map (fun d => d.parameters.length) = some 3 := by decide +kernel
theorem lk_X4_determinant_f20 : Cond.fieldLink RX4 20 "Koebehall$Network" "rows" "[[J" ∈ wsX4_determinant := by decide +kernel
theorem hin_X4_determinant_RX4 : ∀ w ∈ u_ws RX4 TX4 3, w ∈ wsX4_determinant := by decide +kernel
theorem hdX4_determinant_X4_swapRows : yX4_swapRows.cls ≠ "java/lang/invoke/MethodHandle" ∧ yX4_swapRows.cls ≠ "java/lang/invoke/VarHandle" ∧ (parseMethodDescriptor yX4_swapRows.desc).map (fun d => d.parameters.length) = some 2 := by decide +kernel
abbrev rmX4_determinant : Room := { frames := 1, cells := 0, slots := 0, locals := 28 }
set_option maxHeartbeats 4000000 in
set_option maxRecDepth 100000 in
/-- X4_determinant -/
theorem kX4_determinant (l : Launch) (G : kG) (B0 : Nat) (f : kH) (h wL tA nc : Nat) (r z : Nat → Nat) (M : Nat → Nat → Int64) (sz : Nat) (hM : kCs f (mxW G h wL tA nc r z M)) (hz : mxZ z) (hsz : sz ≤ 5) : Met l yX4_determinant wsX4_determinant (rmX4_determinant) (kP G B0 f [.ref h, .int (nI sz)]) (kQl G B0 (fun r9 f1 => r9 = (mxD sz sz 0 z M 1 1).1 ∧ kCs f1 (mxW G h wL tA nc r ((mxD sz sz 0 z M 1 1).2.1) ((mxD sz sz 0 z M 1 1).2.2)) ∧ kOff (mxAs h tA r) f f1)) 0 0 (kAb B0) := by
  refine kMet (cc := cX4_determinant) (maxL := 8) (ret := (some .long)) (by decide) rfl (Nat.le_of_ble_eq_true rfl) ?_
  intro p e s m args below meth c H locs Q ls C hX hl hr hlocks hnm hQ
  have hO : kOff (mxAs h tA r) f f := kOff.rf
  have hl : lv_has ls 8 [(0, .ref h), (1, .int (nI sz))] := hl
  refine lv_lconst (v := 1) C.x C.b dX4_determinant_0 (by decide) ?_
  refine lv_lstore_n (lv' := [(2, .long 1), (0, .ref h), (1, .int (nI sz))]) C.x C.b dX4_determinant_1 rfl hl (by decide) rfl (fun ls hl => ?_)
  refine lv_lconst (v := 1) C.x C.b dX4_determinant_2 (by decide) ?_
  refine lv_lstore (lv' := [(4, .long 1), (2, .long 1), (0, .ref h), (1, .int (nI sz))]) C.x C.b dX4_determinant_3 hl (by decide) rfl (fun ls hl => ?_)
  refine lv_iconst (v := nI 0) C.x C.b dX4_determinant_5 (by decide) ?_
  refine lv_istore (lv' := [(6, .int (nI 0)), (4, .long 1), (2, .long 1), (0, .ref h), (1, .int (nI sz))]) C.x C.b dX4_determinant_6 hl (by decide) rfl (fun ls hl => ?_)
  have LOOP8 : ∀ (n : Nat) (k : Nat) (zz : Nat → Nat) (Mm : Nat → Nat → Int64) (pb sg : Int64), (k ≤ sz) → (mxZ zz) → (mxD sz (sz - k) k zz Mm pb sg = mxD sz sz 0 z M 1 1) → (sz - k) < n → ∀ (ls : Array Slot), lv_has ls 8 [(2, .long pb), (4, .long sg), (6, .int (nI k)), (0, .ref h), (1, .int (nI sz))] → ∀ (fL : kH), kCs fL (mxW G h wL tA nc r zz Mm) → kOff (mxAs h tA r) f fL → ∀ (H : Heap) (locs : List Loc), kX G B0 s fL H locs → W p l e (rmX4_determinant) s m args below meth c H locs 0 0 Q (F0 m 8 ls []) := by
    intro n8
    induction n8 with
    | zero => intro k zz Mm pb sg hk hzz hv hn; exact absurd hn (Nat.not_lt_zero _)
    | succ n8 ih8 =>
      intro k zz Mm pb sg hk hzz hv hn ls hl fL hM hO H locs hX
      refine lv_iload C.x C.b dX4_determinant_8 (lv_at hl 2 rfl) ?_
      refine lv_iload_n C.x C.b dX4_determinant_10 rfl (lv_at hl 4 rfl) ?_
      refine lv_icmp_ge (tgt := 76) C.x C.b dX4_determinant_11 (by decide) (fun c_11 => ?_) (fun c_11 => ?_)
      · skip
        have c_11 : sz ≤ k := (nI_leI (by omega) (by omega)).mp c_11
        refine lv_lload C.x C.b dX4_determinant_76 (lv_at hl 1 rfl) ?_
        refine lv_lload_n C.x C.b dX4_determinant_78 rfl (lv_at hl 0 rfl) ?_
        refine lv_lmul C.x C.b dX4_determinant_79 ?_
        exact k_lret C hX hr hlocks hQ (by omega) (by omega) (by first | (rw [← hv, show sz - k = 0 by omega, mxD]; exact ⟨rfl, hM, hO⟩) | (rw [← hv, show sz - k = (sz - (k + 1)) + 1 by omega, mxD_0 c_26]; exact ⟨rfl, hM, hO⟩)) dX4_determinant_80
      · skip
        have c_11 : ¬ (sz ≤ k) := fun h9 => c_11 ((nI_leI (by omega) (by omega)).mpr h9)
        refine lv_aload_n C.x C.b dX4_determinant_14 rfl (lv_at hl 3 rfl) ?_
        refine lv_iload C.x C.b dX4_determinant_15 (lv_at hl 2 rfl) ?_
        refine lv_iload_n C.x C.b dX4_determinant_17 rfl (lv_at hl 4 rfl) ?_
        refine k_calli (va_runV (As := [.int (nI k), .int (nI sz)]) (rest := []) C.1 (kX4_pivotRow l G B0 fL h wL tA nc r zz Mm k sz hM hzz (by omega) hsz) (cwV 2 C.ts gX4_determinant_X4_pivotRow rfl rfl rfl ⟨rfl, hdX4_determinant_X4_pivotRow⟩ ⟨Nat.le_of_ble_eq_true rfl, Nat.le_of_ble_eq_true rfl⟩) (k_preV C hX (hM.at 0 rfl) rfl) rfl rfl hl.1 rfl (lv_room (Nat.le_of_ble_eq_true rfl)) dX4_determinant_18 ⟨Nat.le_of_ble_eq_true rfl, Nat.le_of_ble_eq_true rfl⟩) hX (fun r18 f18 H locs hp18 hX => ?_)
        obtain ⟨hr18, hf18⟩ := hp18
        rw [hf18] at hX
        refine k_topi (y := (mxPv (mxN zz Mm) k (sz - k) k)) hr18 ?_
        refine lv_istore (lv' := [(7, .int (mxPv (mxN zz Mm) k (sz - k) k)), (2, .long pb), (4, .long sg), (6, .int (nI k)), (0, .ref h), (1, .int (nI sz))]) C.x C.b dX4_determinant_21 hl (by decide) rfl (fun ls hl => ?_)
        refine lv_iload C.x C.b dX4_determinant_23 (lv_at hl 0 rfl) ?_
        refine lv_iconst (v := -1) C.x C.b dX4_determinant_25 (by decide) ?_
        refine lv_icmp_ne (tgt := 31) C.x C.b dX4_determinant_26 (by decide) (fun c_26 => ?_) (fun c_26 => ?_)
        · skip
          obtain ⟨t, ht1, ht2, et⟩ := mxPv_in (mxN zz Mm) k (sz - k) k c_26
          rw [show (mxPv (mxN zz Mm) k (sz - k) k) = (nI t) from et] at hl
          refine lv_iload C.x C.b dX4_determinant_31 (lv_at hl 0 rfl) ?_
          refine lv_iload C.x C.b dX4_determinant_33 (lv_at hl 3 rfl) ?_
          refine lv_icmp_eq (tgt := 51) C.x C.b dX4_determinant_35 (by decide) (fun c_35 => ?_) (fun c_35 => ?_)
          · skip
            have c_35 : t = k := (nI_eq (by omega) (by omega)).mp c_35
            refine lv_aload_n C.x C.b dX4_determinant_51 rfl (lv_at hl 4 rfl) ?_
            refine lv_iload C.x C.b dX4_determinant_52 (lv_at hl 3 rfl) ?_
            refine lv_iload_n C.x C.b dX4_determinant_54 rfl (lv_at hl 5 rfl) ?_
            refine lv_lload_n C.x C.b dX4_determinant_55 rfl (lv_at hl 1 rfl) ?_
            refine k_callv (va_runV (As := [.int (nI k), .int (nI sz), .long pb]) (rest := []) C.1 (kX4_reduceBelow l G B0 fL h wL tA nc r zz Mm k sz pb hM hzz (by omega) hsz) (cwV 3 C.ts gX4_determinant_X4_reduceBelow rfl rfl rfl ⟨rfl, hdX4_determinant_X4_reduceBelow⟩ ⟨Nat.le_of_ble_eq_true rfl, Nat.le_of_ble_eq_true rfl⟩) (k_preV C hX (hM.at 0 rfl) rfl) rfl rfl hl.1 rfl (lv_room (Nat.le_of_ble_eq_true rfl)) dX4_determinant_56 ⟨Nat.le_of_ble_eq_true rfl, Nat.le_of_ble_eq_true rfl⟩) hX (fun f56 H locs hp56 hX => ?_)
            obtain ⟨hM, hO56⟩ := hp56
            have hO := hO.trans hO56
            have hM : kCs f56 (mxW G h wL tA nc r zz (mxRed zz pb k sz Mm)) := hM
            refine lv_aload_n C.x C.b dX4_determinant_59 rfl (lv_at hl 4 rfl) ?_
            refine k_get (X := RX4) (T := TX4) (N := 3) (v := .ref tA) C hX (hM.at 0 rfl) rfl hin_X4_determinant_RX4 1 (by decide) lk_X4_determinant_f20 (fun _ h9 => h9) rfl dX4_determinant_60 ?_
            refine lv_iload C.x C.b dX4_determinant_63 (lv_at hl 3 rfl) ?_
            refine k_rald C hX (hM.at 1 rfl) (vp_in_nI (by omega) (by omega)) dX4_determinant_65 ?_
            rw [nI_clamp (by omega)]
            refine k_topq (v := r (zz k)) (if_pos (by omega)) ?_
            refine lv_iload C.x C.b dX4_determinant_66 (lv_at hl 3 rfl) ?_
            refine k_lald C hX (mx_row hM (hzz _ (by omega))) (vp_in_nI (by omega) (by omega)) dX4_determinant_68 ?_
            refine k_topl (y := ((mxRed zz pb k sz Mm) (zz k)) k) (by rw [nI_clamp (by omega)]) ?_
            refine lv_lstore_n (lv' := [(2, .long (((mxRed zz pb k sz Mm) (zz k)) k)), (7, .int (nI t)), (4, .long sg), (6, .int (nI k)), (0, .ref h), (1, .int (nI sz))]) C.x C.b dX4_determinant_69 rfl hl (by decide) rfl (fun ls hl => ?_)
            refine lv_iinc (v := (nI (k + 1))) (lv' := [(6, .int (nI (k + 1))), (2, .long (((mxRed zz pb k sz Mm) (zz k)) k)), (7, .int (nI t)), (4, .long sg), (0, .ref h), (1, .int (nI sz))]) C.x C.b dX4_determinant_70 hl (k := 3) rfl (nI_1 _) (by decide) rfl (fun ls hl => ?_)
            refine lv_goto (tgt := 8) C.x C.b dX4_determinant_73 (by decide) ?_
            exact ih8 (k + 1) (zz) (mxRed zz pb k sz Mm) (((mxRed zz pb k sz Mm) (zz k)) k) (sg) (by omega) hzz (by rw [← hv, show sz - k = (sz - (k + 1)) + 1 by omega, mxD_e c_26 (by rw [et, c_35])]) (by omega) ls (lv_sub hl [1, 3, 0, 4, 5] rfl) _ hM hO _ _ hX
          · skip
            have c_35 : ¬ (t = k) := fun h9 => c_35 ((nI_eq (by omega) (by omega)).mpr h9)
            refine lv_aload_n C.x C.b dX4_determinant_38 rfl (lv_at hl 4 rfl) ?_
            refine lv_iload C.x C.b dX4_determinant_39 (lv_at hl 0 rfl) ?_
            refine lv_iload C.x C.b dX4_determinant_41 (lv_at hl 3 rfl) ?_
            refine k_callv (va_runV (As := [.int (nI t), .int (nI k)]) (rest := []) C.1 (kX4_swapRows l G B0 fL h wL tA nc r zz Mm t k hM hzz (by omega) (by omega)) (cwV 2 C.ts gX4_determinant_X4_swapRows rfl rfl rfl ⟨rfl, hdX4_determinant_X4_swapRows⟩ ⟨Nat.le_of_ble_eq_true rfl, Nat.le_of_ble_eq_true rfl⟩) (k_preV C hX (hM.at 0 rfl) rfl) rfl rfl hl.1 rfl (lv_room (Nat.le_of_ble_eq_true rfl)) dX4_determinant_43 ⟨Nat.le_of_ble_eq_true rfl, Nat.le_of_ble_eq_true rfl⟩) hX (fun f43 H locs hp43 hX => ?_)
            obtain ⟨hM, hO43⟩ := hp43
            have hO := hO.trans hO43
            have hM : kCs f43 (mxW G h wL tA nc r (mxSwap zz t k) Mm) := hM
            have hzs := mxZ_swap hzz (show t < 5 by omega) (show k < 5 by omega)
            refine lv_lload C.x C.b dX4_determinant_46 (lv_at hl 2 rfl) ?_
            refine lv_lneg C.x C.b dX4_determinant_48 ?_
            refine lv_lstore (lv' := [(4, .long (-sg)), (7, .int (nI t)), (2, .long pb), (6, .int (nI k)), (0, .ref h), (1, .int (nI sz))]) C.x C.b dX4_determinant_49 hl (by decide) rfl (fun ls hl => ?_)
            refine lv_aload_n C.x C.b dX4_determinant_51 rfl (lv_at hl 4 rfl) ?_
            refine lv_iload C.x C.b dX4_determinant_52 (lv_at hl 3 rfl) ?_
            refine lv_iload_n C.x C.b dX4_determinant_54 rfl (lv_at hl 5 rfl) ?_
            refine lv_lload_n C.x C.b dX4_determinant_55 rfl (lv_at hl 2 rfl) ?_
            refine k_callv (va_runV (As := [.int (nI k), .int (nI sz), .long pb]) (rest := []) C.1 (kX4_reduceBelow l G B0 f43 h wL tA nc r (mxSwap zz t k) Mm k sz pb hM hzs (by omega) hsz) (cwV 3 C.ts gX4_determinant_X4_reduceBelow rfl rfl rfl ⟨rfl, hdX4_determinant_X4_reduceBelow⟩ ⟨Nat.le_of_ble_eq_true rfl, Nat.le_of_ble_eq_true rfl⟩) (k_preV C hX (hM.at 0 rfl) rfl) rfl rfl hl.1 rfl (lv_room (Nat.le_of_ble_eq_true rfl)) dX4_determinant_56 ⟨Nat.le_of_ble_eq_true rfl, Nat.le_of_ble_eq_true rfl⟩) hX (fun f56 H locs hp56 hX => ?_)
            obtain ⟨hM, hO56⟩ := hp56
            have hO := hO.trans hO56
            have hM : kCs f56 (mxW G h wL tA nc r (mxSwap zz t k) (mxRed (mxSwap zz t k) pb k sz Mm)) := hM
            refine lv_aload_n C.x C.b dX4_determinant_59 rfl (lv_at hl 4 rfl) ?_
            refine k_get (X := RX4) (T := TX4) (N := 3) (v := .ref tA) C hX (hM.at 0 rfl) rfl hin_X4_determinant_RX4 1 (by decide) lk_X4_determinant_f20 (fun _ h9 => h9) rfl dX4_determinant_60 ?_
            refine lv_iload C.x C.b dX4_determinant_63 (lv_at hl 3 rfl) ?_
            refine k_rald C hX (hM.at 1 rfl) (vp_in_nI (by omega) (by omega)) dX4_determinant_65 ?_
            rw [nI_clamp (by omega)]
            refine k_topq (v := r ((mxSwap zz t k) k)) (if_pos (by omega)) ?_
            refine lv_iload C.x C.b dX4_determinant_66 (lv_at hl 3 rfl) ?_
            refine k_lald C hX (mx_row hM (hzs _ (by omega))) (vp_in_nI (by omega) (by omega)) dX4_determinant_68 ?_
            refine k_topl (y := ((mxRed (mxSwap zz t k) pb k sz Mm) ((mxSwap zz t k) k)) k) (by rw [nI_clamp (by omega)]) ?_
            refine lv_lstore_n (lv' := [(2, .long (((mxRed (mxSwap zz t k) pb k sz Mm) ((mxSwap zz t k) k)) k)), (4, .long (-sg)), (7, .int (nI t)), (6, .int (nI k)), (0, .ref h), (1, .int (nI sz))]) C.x C.b dX4_determinant_69 rfl hl (by decide) rfl (fun ls hl => ?_)
            refine lv_iinc (v := (nI (k + 1))) (lv' := [(6, .int (nI (k + 1))), (2, .long (((mxRed (mxSwap zz t k) pb k sz Mm) ((mxSwap zz t k) k)) k)), (4, .long (-sg)), (7, .int (nI t)), (0, .ref h), (1, .int (nI sz))]) C.x C.b dX4_determinant_70 hl (k := 3) rfl (nI_1 _) (by decide) rfl (fun ls hl => ?_)
            refine lv_goto (tgt := 8) C.x C.b dX4_determinant_73 (by decide) ?_
            exact ih8 (k + 1) (mxSwap zz t k) (mxRed (mxSwap zz t k) pb k sz Mm) (((mxRed (mxSwap zz t k) pb k sz Mm) ((mxSwap zz t k) k)) k) (-sg) (by omega) hzs (by rw [← hv, show sz - k = (sz - (k + 1)) + 1 by omega, mxD_s c_26 et c_35 (by omega) (by omega)]) (by omega) ls (lv_sub hl [1, 2, 0, 4, 5] rfl) _ hM hO _ _ hX
        · skip
          refine lv_lconst (v := 0) C.x C.b dX4_determinant_29 (by decide) ?_
          exact k_lret C hX hr hlocks hQ (by omega) (by omega) (by first | (rw [← hv, show sz - k = 0 by omega, mxD]; exact ⟨rfl, hM, hO⟩) | (rw [← hv, show sz - k = (sz - (k + 1)) + 1 by omega, mxD_0 c_26]; exact ⟨rfl, hM, hO⟩)) dX4_determinant_30
  exact LOOP8 _ 0 z M 1 1 (by omega) hz rfl (Nat.lt_succ_self _) ls (lv_sub hl [2, 1, 0, 3, 4] rfl) _ hM hO _ _ hX
