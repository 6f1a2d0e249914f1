/-- the four behind a turn at p -/
def mTrn (g : Nat → Int64) (p : Nat) : Nat → Int64 := fun k => if k = p then mTurned g 0 p else g k
/-- over the r last places: one more, and what T counts behind it, where the place is not la and the turn stays within the bound -/
def mTJ (T : (Nat → Int64) → Nat → Nat) (bd : Int64) (g : Nat → Int64) (la : Nat) : Nat → Nat
  | 0 => 0
  | r + 1 => (if ¬ 3 - r = la ∧ ¬ bd < mTurned g 0 (3 - r) then 1 + T (mTrn g (3 - r)) (3 - r) else 0) + mTJ T bd g la r
def mTree (bd : Int64) : Nat → (Nat → Int64) → Nat → Nat
  | 0 => fun _ _ => 0
  | n + 1 => fun g la => mTJ (mTree bd n) bd g la 4
def mFin (bd : Int64) : Nat → (Nat → Int64) → Nat → Prop
  | 0 => fun _ _ => False
  | n + 1 => fun g la => ∀ p, p < 4 → ¬ p = la → ¬ bd < mTurned g 0 p → mFin bd n (mTrn g p) p
theorem mTree_m1 {bd : Int64} {m : Nat} {g : Nat → Int64} {la : Nat} (h : mFin bd m g la) : mTJ (mTree bd (m - 1)) bd g la (4 - 0) = mTree bd m g la := by
  cases m with
  | zero => exact h.elim
  | succ m => rfl
theorem mTJ_no {T : (Nat → Int64) → Nat → Nat} {bd : Int64} {g : Nat → Int64} {la j : Nat} (hj : j < 4) (h : ¬ (¬ j = la ∧ ¬ bd < mTurned g 0 j)) : mTJ T bd g la (4 - j) = mTJ T bd g la (4 - (j + 1)) := by
  rw [show 4 - j = (4 - (j + 1)) + 1 by omega]
  simp only [mTJ]
  rw [show 3 - (4 - (j + 1)) = j by omega, if_neg h, Nat.zero_add]
theorem mTJ_yes {T : (Nat → Int64) → Nat → Nat} {bd : Int64} {g : Nat → Int64} {la j : Nat} (hj : j < 4) (h : ¬ j = la ∧ ¬ bd < mTurned g 0 j) : mTJ T bd g la (4 - j) = 1 + T (mTrn g j) j + mTJ T bd g la (4 - (j + 1)) := by
  rw [show 4 - j = (4 - (j + 1)) + 1 by omega]
  simp only [mTJ]
  rw [show 3 - (4 - (j + 1)) = j by omega, if_pos h]
theorem mTurned_c {B g : Nat → Int64} {v j : Nat} (h : ∀ k, k < 4 → B (4 * v + k) = g k) (hj : j < 4) : mTurned B (4 * v) j = mTurned g 0 j := by
  have h0 := h 0 (by omega)
  have h1 := h 1 (by omega)
  have h2 := h 2 (by omega)
  have h3 := h 3 (by omega)
  rw [Nat.add_zero] at h0
  show 2 * (B (4 * v) + B (4 * v + 1) + B (4 * v + 2) + B (4 * v + 3) - B (4 * v + j)) - B (4 * v + j) = 2 * (g 0 + g (0 + 1) + g (0 + 2) + g (0 + 3) - g (0 + j)) - g (0 + j)
  rw [h0, h1, h2, h3, h j hj, Nat.zero_add, Nat.zero_add, Nat.zero_add, Nat.zero_add]
theorem mCopy0_lt (g src : Nat → Int64) : ∀ n k, k < n → mCopy0 g src n k = src k
  | 0, k, h => absurd h (Nat.not_lt_zero _)
  | n + 1, k, h => by
    simp only [mCopy0, vp_updL]
    split
    · rename_i e; rw [e]
    · exact mCopy0_lt g src n k (by omega)
def mLa (la : Nat) : Int32 := if la = 4 then -1 else nI la
theorem mLa_eq {j la : Nat} (hj : j < 4) (hl : la ≤ 4) : nI j = mLa la ↔ j = la := by
  unfold mLa
  split
  · rename_i e
    subst e
    exact ⟨fun q => absurd (show (nI j).toInt = (-1 : Int32).toInt by rw [q]) (by rw [nI_toInt (by omega), show (-1 : Int32).toInt = -1 from rfl]; omega), fun q => by omega⟩
  · exact nI_eq (by omega) (by omega)
abbrev mCount (R : Nat → Int64) (bd : Int64) (fu : Nat) : Nat := kCnt (fun x9 => ¬ bd < R x9) 4 + mTree bd fu R 4

theorem hdX9_counts_X9_isGasket : yX9_isGasket.cls ≠ "java/lang/invoke/MethodHandle" ∧ yX9_isGasket.cls ≠ "java/lang/invoke/VarHandle" ∧ (parseMethodDescriptor yX9_isGasket.desc).map (fun d => d.parameters.length) = some 1 := by decide +kernel
theorem lk_X9_counts_f80 : Cond.fieldLink RX9 80 "KoebehallModel" "thrown" "I" ∈ wsX9_counts := by decide +kernel
theorem hin_X9_counts_RX9 : ∀ w ∈ u_ws RX9 TX9 28, w ∈ wsX9_counts := by decide +kernel
abbrev rmX9_counts_b1 : Room := { frames := 2, cells := 0, slots := 0, locals := 46 }
set_option maxHeartbeats 4000000 in
set_option maxRecDepth 100000 in
/-- X9_counts_b1 -/
theorem kX9_counts_b1 (l : Launch) (G : kG) (B0 : Nat) (f : kH) (h : Nat) (q : Nat → Nat) (i0 i1 i3 i7 i18 i22 i23 i27 : Int32) (j16 j17 : Int64) (a2 : Nat → Int32) (a4 : Nat → Int32) (a5 : Nat → Int32) (a6 : Nat → Int32) (b8 : Nat → Int64) (b9 : Nat → Int64) (b10 : Nat → Int64) (a11 : Nat → Int32) (a12 : Nat → Int32) (a13 : Nat → Int32) (a14 : Nat → Int32) (b15 : Nat → Int64) (b19 : Nat → Int64) (b20 : Nat → Int64) (b21 : Nat → Int64) (a24 : Nat → Int32) (a25 : Nat → Int32) (a26 : Nat → Int32) (a b : Int32) (g9 : Nat) (hM : kCs f (mC G h q i0 i1 i3 i7 i18 i22 i23 i27 j16 j17 a2 a4 a5 a6 b8 b9 b10 a11 a12 a13 a14 b15 b19 b20 b21 a24 a25 a26)) (hg0 : i7 = nI g9) (hg9 : g9 ≤ 8) (hv : ¬ mIn a g9) : Met l yX9_counts wsX9_counts (rmX9_counts_b1) (kP G B0 f [.ref h, .int a, .int b]) (kQi G B0 (fun r f1 => r = nI 0 ∧ kCs f1 (mC G h q i0 i1 i3 i7 i18 i22 i23 (nI 1) j16 j17 a2 a4 a5 a6 b8 b9 b10 a11 a12 a13 a14 b15 b19 b20 b21 a24 a25 a26) ∧ kOff (mAs h q) f f1)) 0 0 (kAb B0) := by
  refine kMet (cc := cX9_counts) (maxL := 7) (ret := (some .int)) (by decide) rfl (Nat.le_of_ble_eq_true rfl) ?_
  intro p e s m args below meth c H locs Q ls C hX hl hr hlocks hnm hQ
  have hO : kOff (mAs h q) f f := kOff.rf
  have hl : lv_has ls 7 [(0, .ref h), (1, .int a), (2, .int b)] := hl
  refine lv_aload_n C.x C.b dX9_counts_0 rfl (lv_at hl 0 rfl) ?_
  refine lv_aload_n C.x C.b dX9_counts_1 rfl (lv_at hl 0 rfl) ?_
  refine lv_iload_n C.x C.b dX9_counts_2 rfl (lv_at hl 1 rfl) ?_
  refine k_calli (va_runV (As := [.int a]) (rest := [.ref h]) C.1 (kX9_isGasket l G B0 f h q i0 i1 i3 i7 i18 i22 i23 i27 j16 j17 a2 a4 a5 a6 b8 b9 b10 a11 a12 a13 a14 b15 b19 b20 b21 a24 a25 a26 a g9 hM hg0 (by omega)) (cwV 1 C.ts gX9_counts_X9_isGasket rfl rfl rfl ⟨rfl, hdX9_counts_X9_isGasket⟩ ⟨Nat.le_of_ble_eq_true rfl, Nat.le_of_ble_eq_true rfl⟩) (k_preV C hX (hM.at 0 rfl) rfl) rfl rfl hl.1 rfl (lv_room (Nat.le_of_ble_eq_true rfl)) dX9_counts_3 ⟨Nat.le_of_ble_eq_true rfl, Nat.le_of_ble_eq_true rfl⟩) hX (fun r3 f3 H locs hp3 hX => ?_)
  obtain ⟨hr3, hf3⟩ := hp3
  rw [hf3] at hX
  refine k_topi (y := (kbI (mIn a g9))) hr3 ?_
  refine lv_if_ne (tgt := 13) C.x C.b dX9_counts_6 (by decide) (fun c_6 => ?_) (fun c_6 => ?_)
  · exact absurd (kbI_1 c_6) (hv)
  refine lv_iconst (v := nI 1) C.x C.b dX9_counts_9 (by decide) ?_
  refine lv_goto (tgt := 30) C.x C.b dX9_counts_10 (by decide) ?_
  refine k_put (X := RX9) (T := TX9) (N := 28) (ty := .int) (v := .int (nI 1)) C hX (hM.at 0 rfl) rfl hin_X9_counts_RX9 tyX9_ok nmX9 27 (by decide) lk_X9_counts_f80 (fun _ h9 => h9) rfl (by decide +kernel) rfl rfl (Nat.le_of_ble_eq_true rfl) dX9_counts_30 (fun H locs hX => ?_)
  obtain ⟨g1, hX, hM, hO⟩ := kX.wr hX hM hO 0 rfl (List.mem_of_getElem? (i := 0) rfl)
  have hM : kCs g1 (mC G h q i0 i1 i3 i7 i18 i22 i23 (nI 1) j16 j17 a2 a4 a5 a6 b8 b9 b10 a11 a12 a13 a14 b15 b19 b20 b21 a24 a25 a26) := hM
  refine lv_aload_n C.x C.b dX9_counts_33 rfl (lv_at hl 0 rfl) ?_
  refine k_get (X := RX9) (T := TX9) (N := 28) (v := .int (nI 1)) C hX (hM.at 0 rfl) rfl hin_X9_counts_RX9 27 (by decide) lk_X9_counts_f80 (fun _ h9 => h9) rfl dX9_counts_34 ?_
  refine lv_if_le (tgt := 42) C.x C.b dX9_counts_37 (by decide) (fun c_37 => ?_) (fun c_37 => ?_)
  · exact absurd c_37 (by decide)
  refine lv_iconst (v := nI 0) C.x C.b dX9_counts_40 (by decide) ?_
  exact k_iret C hX hr hlocks hQ (by omega) (by omega) (⟨rfl, hM, hO⟩) dX9_counts_41

theorem lk_X9_counts_c159 : Cond.constantLong RX9 159 (1000) ∈ wsX9_counts := by decide +kernel
theorem hdX9_counts_X9_isIn : yX9_isIn.cls ≠ "java/lang/invoke/MethodHandle" ∧ yX9_isIn.cls ≠ "java/lang/invoke/VarHandle" ∧ (parseMethodDescriptor yX9_isIn.desc).map (fun d => d.parameters.length) = some 3 := by decide +kernel
abbrev rmX9_counts_b2 : Room := { frames := 2, cells := 0, slots := 0, locals := 46 }
set_option maxHeartbeats 4000000 in
set_option maxRecDepth 100000 in
/-- X9_counts_b2 -/
theorem kX9_counts_b2 (l : Launch) (G : kG) (B0 : Nat) (f : kH) (h : Nat) (q : Nat → Nat) (i0 i1 i3 i7 i18 i22 i23 i27 : Int32) (j16 j17 : Int64) (a2 : Nat → Int32) (a4 : Nat → Int32) (a5 : Nat → Int32) (a6 : Nat → Int32) (b8 : Nat → Int64) (b9 : Nat → Int64) (b10 : Nat → Int64) (a11 : Nat → Int32) (a12 : Nat → Int32) (a13 : Nat → Int32) (a14 : Nat → Int32) (b15 : Nat → Int64) (b19 : Nat → Int64) (b20 : Nat → Int64) (b21 : Nat → Int64) (a24 : Nat → Int32) (a25 : Nat → Int32) (a26 : Nat → Int32) (a b : Int32) (g9 : Nat) (hM : kCs f (mC G h q i0 i1 i3 i7 i18 i22 i23 i27 j16 j17 a2 a4 a5 a6 b8 b9 b10 a11 a12 a13 a14 b15 b19 b20 b21 a24 a25 a26)) (hg0 : i7 = nI g9) (hg9 : g9 ≤ 8) (hv : mIn a g9) (hw : ¬ mRg b (1) 1000) : Met l yX9_counts wsX9_counts (rmX9_counts_b2) (kP G B0 f [.ref h, .int a, .int b]) (kQi G B0 (fun r f1 => r = nI 0 ∧ kCs f1 (mC G h q i0 i1 i3 i7 i18 i22 i23 (nI 2) j16 j17 a2 a4 a5 a6 b8 b9 b10 a11 a12 a13 a14 b15 b19 b20 b21 a24 a25 a26) ∧ kOff (mAs h q) f f1)) 0 0 (kAb B0) := by
  refine kMet (cc := cX9_counts) (maxL := 7) (ret := (some .int)) (by decide) rfl (Nat.le_of_ble_eq_true rfl) ?_
  intro p e s m args below meth c H locs Q ls C hX hl hr hlocks hnm hQ
  have hO : kOff (mAs h q) f f := kOff.rf
  have hl : lv_has ls 7 [(0, .ref h), (1, .int a), (2, .int b)] := hl
  refine lv_aload_n C.x C.b dX9_counts_0 rfl (lv_at hl 0 rfl) ?_
  refine lv_aload_n C.x C.b dX9_counts_1 rfl (lv_at hl 0 rfl) ?_
  refine lv_iload_n C.x C.b dX9_counts_2 rfl (lv_at hl 1 rfl) ?_
  refine k_calli (va_runV (As := [.int a]) (rest := [.ref h]) C.1 (kX9_isGasket l G B0 f h q i0 i1 i3 i7 i18 i22 i23 i27 j16 j17 a2 a4 a5 a6 b8 b9 b10 a11 a12 a13 a14 b15 b19 b20 b21 a24 a25 a26 a g9 hM hg0 (by omega)) (cwV 1 C.ts gX9_counts_X9_isGasket rfl rfl rfl ⟨rfl, hdX9_counts_X9_isGasket⟩ ⟨Nat.le_of_ble_eq_true rfl, Nat.le_of_ble_eq_true rfl⟩) (k_preV C hX (hM.at 0 rfl) rfl) rfl rfl hl.1 rfl (lv_room (Nat.le_of_ble_eq_true rfl)) dX9_counts_3 ⟨Nat.le_of_ble_eq_true rfl, Nat.le_of_ble_eq_true rfl⟩) hX (fun r3 f3 H locs hp3 hX => ?_)
  obtain ⟨hr3, hf3⟩ := hp3
  rw [hf3] at hX
  refine k_topi (y := (kbI (mIn a g9))) hr3 ?_
  refine lv_if_ne (tgt := 13) C.x C.b dX9_counts_6 (by decide) (fun c_6 => ?_) (fun c_6 => ?_)
  rotate_left
  · exact absurd (hv) (kbI_0 c_6)
  refine lv_iload_n C.x C.b dX9_counts_13 rfl (lv_at hl 2 rfl) ?_
  refine lv_i2l (v := b.toInt64) C.x C.b dX9_counts_14 rfl ?_
  refine lv_lconst (v := 1) C.x C.b dX9_counts_15 (by decide) ?_
  refine lv_ldc2 (v := 1000) C.x C.b C.ow (C.ts _ lk_X9_counts_c159) dX9_counts_16 ?_
  refine k_calli (va_runS (As := [.long b.toInt64, .long 1, .long 1000]) (rest := [.ref h]) C.1 (kX9_isIn l G B0 f b.toInt64 1 1000) (va_cwS 3 C.ts gX9_counts_X9_isIn rfl rfl rfl (hdX9_counts_X9_isIn) ⟨Nat.le_of_ble_eq_true rfl, Nat.le_of_ble_eq_true rfl⟩) (k_preS C hX) rfl rfl hl.1 rfl (lv_room (Nat.le_of_ble_eq_true rfl)) dX9_counts_19 ⟨Nat.le_of_ble_eq_true rfl, Nat.le_of_ble_eq_true rfl⟩) hX (fun r19 f19 H locs hp19 hX => ?_)
  obtain ⟨hr19, hf19⟩ := hp19
  rw [hf19] at hX
  refine k_topi (y := (kbI ((1 : Int64) ≤ b.toInt64 ∧ b.toInt64 ≤ 1000))) hr19 ?_
  refine k_topi (y := (kbI (mRg b (1) 1000))) (kbI_c (m_rg (by decide) (by decide))) ?_
  refine lv_if_ne (tgt := 29) C.x C.b dX9_counts_22 (by decide) (fun c_22 => ?_) (fun c_22 => ?_)
  · exact absurd (kbI_1 c_22) (hw)
  refine lv_iconst (v := nI 2) C.x C.b dX9_counts_25 (by decide) ?_
  refine lv_goto (tgt := 30) C.x C.b dX9_counts_26 (by decide) ?_
  refine k_put (X := RX9) (T := TX9) (N := 28) (ty := .int) (v := .int (nI 2)) C hX (hM.at 0 rfl) rfl hin_X9_counts_RX9 tyX9_ok nmX9 27 (by decide) lk_X9_counts_f80 (fun _ h9 => h9) rfl (by decide +kernel) rfl rfl (Nat.le_of_ble_eq_true rfl) dX9_counts_30 (fun H locs hX => ?_)
  obtain ⟨g1, hX, hM, hO⟩ := kX.wr hX hM hO 0 rfl (List.mem_of_getElem? (i := 0) rfl)
  have hM : kCs g1 (mC G h q i0 i1 i3 i7 i18 i22 i23 (nI 2) j16 j17 a2 a4 a5 a6 b8 b9 b10 a11 a12 a13 a14 b15 b19 b20 b21 a24 a25 a26) := hM
  refine lv_aload_n C.x C.b dX9_counts_33 rfl (lv_at hl 0 rfl) ?_
  refine k_get (X := RX9) (T := TX9) (N := 28) (v := .int (nI 2)) C hX (hM.at 0 rfl) rfl hin_X9_counts_RX9 27 (by decide) lk_X9_counts_f80 (fun _ h9 => h9) rfl dX9_counts_34 ?_
  refine lv_if_le (tgt := 42) C.x C.b dX9_counts_37 (by decide) (fun c_37 => ?_) (fun c_37 => ?_)
  · exact absurd c_37 (by decide)
  refine lv_iconst (v := nI 0) C.x C.b dX9_counts_40 (by decide) ?_
  exact k_iret C hX hr hlocks hQ (by omega) (by omega) (⟨rfl, hM, hO⟩) dX9_counts_41

theorem hdX9_counts_X9_findsRoot : yX9_findsRoot.cls ≠ "java/lang/invoke/MethodHandle" ∧ yX9_findsRoot.cls ≠ "java/lang/invoke/VarHandle" ∧ (parseMethodDescriptor yX9_findsRoot.desc).map (fun d => d.parameters.length) = some 1 := by decide +kernel
theorem lk_X9_counts_f33 : Cond.fieldLink RX9 33 "KoebehallModel" "roots" "[J" ∈ wsX9_counts := by decide +kernel
abbrev rmX9_counts_b3 : Room := { frames := 2, cells := 0, slots := 0, locals := 50 }
set_option maxHeartbeats 4000000 in
set_option maxRecDepth 100000 in
/-- X9_counts_b3 -/
theorem kX9_counts_b3 (l : Launch) (G : kG) (B0 : Nat) (f : kH) (h : Nat) (q : Nat → Nat) (i0 i1 i3 i7 i18 i22 i23 i27 : Int32) (j16 j17 : Int64) (a2 : Nat → Int32) (a4 : Nat → Int32) (a5 : Nat → Int32) (a6 : Nat → Int32) (b8 : Nat → Int64) (b9 : Nat → Int64) (b10 : Nat → Int64) (a11 : Nat → Int32) (a12 : Nat → Int32) (a13 : Nat → Int32) (a14 : Nat → Int32) (b15 : Nat → Int64) (b19 : Nat → Int64) (b20 : Nat → Int64) (b21 : Nat → Int64) (a24 : Nat → Int32) (a25 : Nat → Int32) (a26 : Nat → Int32) (t b g9 N : Nat) (hM : kCs f (mC G h q i0 i1 i3 i7 i18 i22 i23 i27 j16 j17 a2 a4 a5 a6 b8 b9 b10 a11 a12 a13 a14 b15 b19 b20 b21 a24 a25 a26)) (hg0 : i7 = nI g9) (hg9 : g9 ≤ 8) (ht : t < g9) (hb1 : 1 ≤ b) (hb2 : b ≤ 1000) (hN : mRooted (mCopy b9 b8 (4 * t) 4) N) (hx : ¬ (mRoot b8 b9 t N) 0 < 0) : Met l yX9_counts wsX9_counts (rmX9_counts_b3) (kP G B0 f [.ref h, .int (nI t), .int (nI b)]) (kQi G B0 (fun r f1 => r = nI 0 ∧ kCs f1 (mC G h q i0 i1 i3 i7 i18 i22 i23 (nI 3) j16 j17 a2 a4 a5 a6 b8 (mRoot b8 b9 t N) b10 a11 a12 a13 a14 b15 b19 b20 b21 a24 a25 a26) ∧ kOff (mAs h q) f f1)) 0 0 (kAb B0) := by
  refine kMet (cc := cX9_counts) (maxL := 7) (ret := (some .int)) (by decide) rfl (Nat.le_of_ble_eq_true rfl) ?_
  intro p e s m args below meth c H locs Q ls C hX hl hr hlocks hnm hQ
  have hO : kOff (mAs h q) f f := kOff.rf
  have hl : lv_has ls 7 [(0, .ref h), (1, .int (nI t)), (2, .int (nI b))] := hl
  refine lv_aload_n C.x C.b dX9_counts_0 rfl (lv_at hl 0 rfl) ?_
  refine lv_aload_n C.x C.b dX9_counts_1 rfl (lv_at hl 0 rfl) ?_
  refine lv_iload_n C.x C.b dX9_counts_2 rfl (lv_at hl 1 rfl) ?_
  refine k_calli (va_runV (As := [.int (nI t)]) (rest := [.ref h]) C.1 (kX9_isGasket l G B0 f h q i0 i1 i3 i7 i18 i22 i23 i27 j16 j17 a2 a4 a5 a6 b8 b9 b10 a11 a12 a13 a14 b15 b19 b20 b21 a24 a25 a26 (nI t) g9 hM hg0 (by omega)) (cwV 1 C.ts gX9_counts_X9_isGasket rfl rfl rfl ⟨rfl, hdX9_counts_X9_isGasket⟩ ⟨Nat.le_of_ble_eq_true rfl, Nat.le_of_ble_eq_true rfl⟩) (k_preV C hX (hM.at 0 rfl) rfl) rfl rfl hl.1 rfl (lv_room (Nat.le_of_ble_eq_true rfl)) dX9_counts_3 ⟨Nat.le_of_ble_eq_true rfl, Nat.le_of_ble_eq_true rfl⟩) hX (fun r3 f3 H locs hp3 hX => ?_)
  obtain ⟨hr3, hf3⟩ := hp3
  rw [hf3] at hX
  refine k_topi (y := (kbI (mIn (nI t) g9))) hr3 ?_
  refine lv_if_ne (tgt := 13) C.x C.b dX9_counts_6 (by decide) (fun c_6 => ?_) (fun c_6 => ?_)
  rotate_left
  · exact absurd ((mIn_nI (by omega)).mpr ht) (kbI_0 c_6)
  refine lv_iload_n C.x C.b dX9_counts_13 rfl (lv_at hl 2 rfl) ?_
  refine lv_i2l (v := (nI b).toInt64) C.x C.b dX9_counts_14 rfl ?_
  refine lv_lconst (v := 1) C.x C.b dX9_counts_15 (by decide) ?_
  refine lv_ldc2 (v := 1000) C.x C.b C.ow (C.ts _ lk_X9_counts_c159) dX9_counts_16 ?_
  refine k_calli (va_runS (As := [.long ((nI b).toInt64), .long 1, .long 1000]) (rest := [.ref h]) C.1 (kX9_isIn l G B0 f ((nI b).toInt64) 1 1000) (va_cwS 3 C.ts gX9_counts_X9_isIn rfl rfl rfl (hdX9_counts_X9_isIn) ⟨Nat.le_of_ble_eq_true rfl, Nat.le_of_ble_eq_true rfl⟩) (k_preS C hX) rfl rfl hl.1 rfl (lv_room (Nat.le_of_ble_eq_true rfl)) dX9_counts_19 ⟨Nat.le_of_ble_eq_true rfl, Nat.le_of_ble_eq_true rfl⟩) hX (fun r19 f19 H locs hp19 hX => ?_)
  obtain ⟨hr19, hf19⟩ := hp19
  rw [hf19] at hX
  refine k_topi (y := (kbI ((1 : Int64) ≤ (nI b).toInt64 ∧ (nI b).toInt64 ≤ 1000))) hr19 ?_
  refine k_topi (y := (kbI (mRg (nI b) (1) 1000))) (kbI_c (m_rg (by decide) (by decide))) ?_
  refine lv_if_ne (tgt := 29) C.x C.b dX9_counts_22 (by decide) (fun c_22 => ?_) (fun c_22 => ?_)
  rotate_left
  · exact absurd ((by rw [mRg, nI_toInt (by omega)]; omega)) (kbI_0 c_22)
  refine lv_iconst (v := nI 0) C.x C.b dX9_counts_29 (by decide) ?_
  refine k_put (X := RX9) (T := TX9) (N := 28) (ty := .int) (v := .int (nI 0)) C hX (hM.at 0 rfl) rfl hin_X9_counts_RX9 tyX9_ok nmX9 27 (by decide) lk_X9_counts_f80 (fun _ h9 => h9) rfl (by decide +kernel) rfl rfl (Nat.le_of_ble_eq_true rfl) dX9_counts_30 (fun H locs hX => ?_)
  obtain ⟨g1, hX, hM, hO⟩ := kX.wr hX hM hO 0 rfl (List.mem_of_getElem? (i := 0) rfl)
  have hM : kCs g1 (mC G h q i0 i1 i3 i7 i18 i22 i23 (nI 0) j16 j17 a2 a4 a5 a6 b8 b9 b10 a11 a12 a13 a14 b15 b19 b20 b21 a24 a25 a26) := hM
  refine lv_aload_n C.x C.b dX9_counts_33 rfl (lv_at hl 0 rfl) ?_
  refine k_get (X := RX9) (T := TX9) (N := 28) (v := .int (nI 0)) C hX (hM.at 0 rfl) rfl hin_X9_counts_RX9 27 (by decide) lk_X9_counts_f80 (fun _ h9 => h9) rfl dX9_counts_34 ?_
  refine lv_if_le (tgt := 42) C.x C.b dX9_counts_37 (by decide) (fun c_37 => ?_) (fun c_37 => ?_)
  rotate_left
  · exact absurd c_37 (by decide)
  refine lv_aload_n C.x C.b dX9_counts_42 rfl (lv_at hl 0 rfl) ?_
  refine lv_iload_n C.x C.b dX9_counts_43 rfl (lv_at hl 1 rfl) ?_
  refine k_callv (va_runV (As := [.int (nI t)]) (rest := []) C.1 (kX9_findsRoot l G B0 g1 h q i0 i1 i3 i7 i18 i22 i23 (nI 0) j16 j17 a2 a4 a5 a6 b8 b9 b10 a11 a12 a13 a14 b15 b19 b20 b21 a24 a25 a26 t N hM (by omega) hN) (cwV 1 C.ts gX9_counts_X9_findsRoot rfl rfl rfl ⟨rfl, hdX9_counts_X9_findsRoot⟩ ⟨Nat.le_of_ble_eq_true rfl, Nat.le_of_ble_eq_true rfl⟩) (k_preV C hX (hM.at 0 rfl) rfl) rfl rfl hl.1 rfl (lv_room (Nat.le_of_ble_eq_true rfl)) dX9_counts_44 ⟨Nat.le_of_ble_eq_true rfl, Nat.le_of_ble_eq_true rfl⟩) hX (fun f44 H locs hp44 hX => ?_)
  obtain ⟨hM, hO44⟩ := hp44
  have hO := hO.trans hO44
  have hM : kCs f44 (mC G h q i0 i1 i3 i7 i18 i22 i23 (nI 0) j16 j17 a2 a4 a5 a6 b8 (mRoot b8 b9 t N) b10 a11 a12 a13 a14 b15 b19 b20 b21 a24 a25 a26) := hM
  refine lv_aload_n C.x C.b dX9_counts_47 rfl (lv_at hl 0 rfl) ?_
  refine lv_aload_n C.x C.b dX9_counts_48 rfl (lv_at hl 0 rfl) ?_
  refine k_get (X := RX9) (T := TX9) (N := 28) (v := .ref (q 9)) C hX (hM.at 0 rfl) rfl hin_X9_counts_RX9 9 (by decide) lk_X9_counts_f33 (fun _ h9 => h9) rfl dX9_counts_49 ?_
  refine lv_iconst (v := nI 0) C.x C.b dX9_counts_52 (by decide) ?_
  refine k_lald C hX (hM.at 6 rfl) (vp_in_nI (by omega) (by omega)) dX9_counts_53 ?_
  refine k_topl (y := (mRoot b8 b9 t N) 0) (by rw [nI_clamp (by omega)]) ?_
  refine lv_lconst (v := 0) C.x C.b dX9_counts_54 (by decide) ?_
  refine k_lcmp_lt (tgt := 63) C.x C.b dX9_counts_55 dX9_counts_56 (by decide) (fun c_56 => ?_) (fun c_56 => ?_)
  · skip
    exact absurd c_56 hx
  · skip
    refine lv_iconst (v := nI 3) C.x C.b dX9_counts_59 (by decide) ?_
    refine lv_goto (tgt := 64) C.x C.b dX9_counts_60 (by decide) ?_
    refine k_put (X := RX9) (T := TX9) (N := 28) (ty := .int) (v := .int (nI 3)) C hX (hM.at 0 rfl) rfl hin_X9_counts_RX9 tyX9_ok nmX9 27 (by decide) lk_X9_counts_f80 (fun _ h9 => h9) rfl (by decide +kernel) rfl rfl (Nat.le_of_ble_eq_true rfl) dX9_counts_64 (fun H locs hX => ?_)
    obtain ⟨g2, hX, hM, hO⟩ := kX.wr hX hM hO 0 rfl (List.mem_of_getElem? (i := 0) rfl)
    have hM : kCs g2 (mC G h q i0 i1 i3 i7 i18 i22 i23 (nI 3) j16 j17 a2 a4 a5 a6 b8 (mRoot b8 b9 t N) b10 a11 a12 a13 a14 b15 b19 b20 b21 a24 a25 a26) := hM
    refine lv_aload_n C.x C.b dX9_counts_67 rfl (lv_at hl 0 rfl) ?_
    refine k_get (X := RX9) (T := TX9) (N := 28) (v := .int (nI 3)) C hX (hM.at 0 rfl) rfl hin_X9_counts_RX9 27 (by decide) lk_X9_counts_f80 (fun _ h9 => h9) rfl dX9_counts_68 ?_
    refine lv_if_le (tgt := 76) C.x C.b dX9_counts_71 (by decide) (fun c_71 => ?_) (fun c_71 => ?_)
    · exact absurd c_71 (by decide)
    refine lv_iconst (v := nI 0) C.x C.b dX9_counts_74 (by decide) ?_
    exact k_iret C hX hr hlocks hQ (by omega) (by omega) (⟨rfl, hM, hO⟩) dX9_counts_75

theorem lk_X9_counts_f39 : Cond.fieldLink RX9 39 "KoebehallModel" "nextTurn" "[I" ∈ wsX9_counts := by decide +kernel
theorem lk_X9_counts_f42 : Cond.fieldLink RX9 42 "KoebehallModel" "lastTurn" "[I" ∈ wsX9_counts := by decide +kernel
theorem lk_X9_counts_f36 : Cond.fieldLink RX9 36 "KoebehallModel" "steps" "[J" ∈ wsX9_counts := by decide +kernel
theorem hdX9_counts_X9_turned : yX9_turned.cls ≠ "java/lang/invoke/MethodHandle" ∧ yX9_turned.cls ≠ "java/lang/invoke/VarHandle" ∧ (parseMethodDescriptor yX9_turned.desc).map (fun d => d.parameters.length) = some 3 := by decide +kernel
abbrev rmX9_counts : Room := { frames := 2, cells := 0, slots := 0, locals := 50 }
set_option maxHeartbeats 4000000 in
set_option maxRecDepth 100000 in
/-- X9_counts -/
theorem kX9_counts (l : Launch) (G : kG) (B0 : Nat) (f : kH) (h : Nat) (q : Nat → Nat) (i0 i1 i3 i7 i18 i22 i23 i27 : Int32) (j16 j17 : Int64) (a2 : Nat → Int32) (a4 : Nat → Int32) (a5 : Nat → Int32) (a6 : Nat → Int32) (b8 : Nat → Int64) (b9 : Nat → Int64) (b10 : Nat → Int64) (a11 : Nat → Int32) (a12 : Nat → Int32) (a13 : Nat → Int32) (a14 : Nat → Int32) (b15 : Nat → Int64) (b19 : Nat → Int64) (b20 : Nat → Int64) (b21 : Nat → Int64) (a24 : Nat → Int32) (a25 : Nat → Int32) (a26 : Nat → Int32) (t b g9 N : Nat) (hM : kCs f (mC G h q i0 i1 i3 i7 i18 i22 i23 i27 j16 j17 a2 a4 a5 a6 b8 b9 b10 a11 a12 a13 a14 b15 b19 b20 b21 a24 a25 a26)) (hg0 : i7 = nI g9) (hg9 : g9 ≤ 8) (ht : t < g9) (hb1 : 1 ≤ b) (hb2 : b ≤ 1000) (hN : mRooted (mCopy b9 b8 (4 * t) 4) N) (fu : Nat) (hx : (mRoot b8 b9 t N) 0 < 0) (hfin : mFin (nI b).toInt64 fu (mRoot b8 b9 t N) 4) (hfu : fu ≤ 255) : Met l yX9_counts wsX9_counts (rmX9_counts) (kP G B0 f [.ref h, .int (nI t), .int (nI b)]) (kQi G B0 (fun r f1 => r = nI (mCount (mRoot b8 b9 t N) (nI b).toInt64 fu) ∧ ∃ (B9 : Nat → Int64) (C1 C2 : Nat → Int32), kCs f1 (mC G h q i0 i1 i3 i7 i18 i22 i23 (nI 0) j16 j17 a2 a4 a5 a6 b8 (mRoot b8 b9 t N) B9 C1 C2 a13 a14 b15 b19 b20 b21 a24 a25 a26) ∧ kOff (mAs h q) f f1)) 0 0 (kAb B0) := by
  refine kMet (cc := cX9_counts) (maxL := 7) (ret := (some .int)) (by decide) rfl (Nat.le_of_ble_eq_true rfl) ?_
  intro p e s m args below meth c H locs Q ls C hX hl hr hlocks hnm hQ
  have hO : kOff (mAs h q) f f := kOff.rf
  have hl : lv_has ls 7 [(0, .ref h), (1, .int (nI t)), (2, .int (nI b))] := hl
  refine lv_aload_n C.x C.b dX9_counts_0 rfl (lv_at hl 0 rfl) ?_
  refine lv_aload_n C.x C.b dX9_counts_1 rfl (lv_at hl 0 rfl) ?_
  refine lv_iload_n C.x C.b dX9_counts_2 rfl (lv_at hl 1 rfl) ?_
  refine k_calli (va_runV (As := [.int (nI t)]) (rest := [.ref h]) C.1 (kX9_isGasket l G B0 f h q i0 i1 i3 i7 i18 i22 i23 i27 j16 j17 a2 a4 a5 a6 b8 b9 b10 a11 a12 a13 a14 b15 b19 b20 b21 a24 a25 a26 (nI t) g9 hM hg0 (by omega)) (cwV 1 C.ts gX9_counts_X9_isGasket rfl rfl rfl ⟨rfl, hdX9_counts_X9_isGasket⟩ ⟨Nat.le_of_ble_eq_true rfl, Nat.le_of_ble_eq_true rfl⟩) (k_preV C hX (hM.at 0 rfl) rfl) rfl rfl hl.1 rfl (lv_room (Nat.le_of_ble_eq_true rfl)) dX9_counts_3 ⟨Nat.le_of_ble_eq_true rfl, Nat.le_of_ble_eq_true rfl⟩) hX (fun r3 f3 H locs hp3 hX => ?_)
  obtain ⟨hr3, hf3⟩ := hp3
  rw [hf3] at hX
  refine k_topi (y := (kbI (mIn (nI t) g9))) hr3 ?_
  refine lv_if_ne (tgt := 13) C.x C.b dX9_counts_6 (by decide) (fun c_6 => ?_) (fun c_6 => ?_)
  rotate_left
  · exact absurd ((mIn_nI (by omega)).mpr ht) (kbI_0 c_6)
  refine lv_iload_n C.x C.b dX9_counts_13 rfl (lv_at hl 2 rfl) ?_
  refine lv_i2l (v := (nI b).toInt64) C.x C.b dX9_counts_14 rfl ?_
  refine lv_lconst (v := 1) C.x C.b dX9_counts_15 (by decide) ?_
  refine lv_ldc2 (v := 1000) C.x C.b C.ow (C.ts _ lk_X9_counts_c159) dX9_counts_16 ?_
  refine k_calli (va_runS (As := [.long ((nI b).toInt64), .long 1, .long 1000]) (rest := [.ref h]) C.1 (kX9_isIn l G B0 f ((nI b).toInt64) 1 1000) (va_cwS 3 C.ts gX9_counts_X9_isIn rfl rfl rfl (hdX9_counts_X9_isIn) ⟨Nat.le_of_ble_eq_true rfl, Nat.le_of_ble_eq_true rfl⟩) (k_preS C hX) rfl rfl hl.1 rfl (lv_room (Nat.le_of_ble_eq_true rfl)) dX9_counts_19 ⟨Nat.le_of_ble_eq_true rfl, Nat.le_of_ble_eq_true rfl⟩) hX (fun r19 f19 H locs hp19 hX => ?_)
  obtain ⟨hr19, hf19⟩ := hp19
  rw [hf19] at hX
  refine k_topi (y := (kbI ((1 : Int64) ≤ (nI b).toInt64 ∧ (nI b).toInt64 ≤ 1000))) hr19 ?_
  refine k_topi (y := (kbI (mRg (nI b) (1) 1000))) (kbI_c (m_rg (by decide) (by decide))) ?_
  refine lv_if_ne (tgt := 29) C.x C.b dX9_counts_22 (by decide) (fun c_22 => ?_) (fun c_22 => ?_)
  rotate_left
  · exact absurd ((by rw [mRg, nI_toInt (by omega)]; omega)) (kbI_0 c_22)
  refine lv_iconst (v := nI 0) C.x C.b dX9_counts_29 (by decide) ?_
  refine k_put (X := RX9) (T := TX9) (N := 28) (ty := .int) (v := .int (nI 0)) C hX (hM.at 0 rfl) rfl hin_X9_counts_RX9 tyX9_ok nmX9 27 (by decide) lk_X9_counts_f80 (fun _ h9 => h9) rfl (by decide +kernel) rfl rfl (Nat.le_of_ble_eq_true rfl) dX9_counts_30 (fun H locs hX => ?_)
  obtain ⟨g1, hX, hM, hO⟩ := kX.wr hX hM hO 0 rfl (List.mem_of_getElem? (i := 0) rfl)
  have hM : kCs g1 (mC G h q i0 i1 i3 i7 i18 i22 i23 (nI 0) j16 j17 a2 a4 a5 a6 b8 b9 b10 a11 a12 a13 a14 b15 b19 b20 b21 a24 a25 a26) := hM
  refine lv_aload_n C.x C.b dX9_counts_33 rfl (lv_at hl 0 rfl) ?_
  refine k_get (X := RX9) (T := TX9) (N := 28) (v := .int (nI 0)) C hX (hM.at 0 rfl) rfl hin_X9_counts_RX9 27 (by decide) lk_X9_counts_f80 (fun _ h9 => h9) rfl dX9_counts_34 ?_
  refine lv_if_le (tgt := 42) C.x C.b dX9_counts_37 (by decide) (fun c_37 => ?_) (fun c_37 => ?_)
  rotate_left
  · exact absurd c_37 (by decide)
  refine lv_aload_n C.x C.b dX9_counts_42 rfl (lv_at hl 0 rfl) ?_
  refine lv_iload_n C.x C.b dX9_counts_43 rfl (lv_at hl 1 rfl) ?_
  refine k_callv (va_runV (As := [.int (nI t)]) (rest := []) C.1 (kX9_findsRoot l G B0 g1 h q i0 i1 i3 i7 i18 i22 i23 (nI 0) j16 j17 a2 a4 a5 a6 b8 b9 b10 a11 a12 a13 a14 b15 b19 b20 b21 a24 a25 a26 t N hM (by omega) hN) (cwV 1 C.ts gX9_counts_X9_findsRoot rfl rfl rfl ⟨rfl, hdX9_counts_X9_findsRoot⟩ ⟨Nat.le_of_ble_eq_true rfl, Nat.le_of_ble_eq_true rfl⟩) (k_preV C hX (hM.at 0 rfl) rfl) rfl rfl hl.1 rfl (lv_room (Nat.le_of_ble_eq_true rfl)) dX9_counts_44 ⟨Nat.le_of_ble_eq_true rfl, Nat.le_of_ble_eq_true rfl⟩) hX (fun f44 H locs hp44 hX => ?_)
  obtain ⟨hM, hO44⟩ := hp44
  have hO := hO.trans hO44
  have hM : kCs f44 (mC G h q i0 i1 i3 i7 i18 i22 i23 (nI 0) j16 j17 a2 a4 a5 a6 b8 (mRoot b8 b9 t N) b10 a11 a12 a13 a14 b15 b19 b20 b21 a24 a25 a26) := hM
  refine lv_aload_n C.x C.b dX9_counts_47 rfl (lv_at hl 0 rfl) ?_
  refine lv_aload_n C.x C.b dX9_counts_48 rfl (lv_at hl 0 rfl) ?_
  refine k_get (X := RX9) (T := TX9) (N := 28) (v := .ref (q 9)) C hX (hM.at 0 rfl) rfl hin_X9_counts_RX9 9 (by decide) lk_X9_counts_f33 (fun _ h9 => h9) rfl dX9_counts_49 ?_
  refine lv_iconst (v := nI 0) C.x C.b dX9_counts_52 (by decide) ?_
  refine k_lald C hX (hM.at 6 rfl) (vp_in_nI (by omega) (by omega)) dX9_counts_53 ?_
  refine k_topl (y := (mRoot b8 b9 t N) 0) (by rw [nI_clamp (by omega)]) ?_
  refine lv_lconst (v := 0) C.x C.b dX9_counts_54 (by decide) ?_
  refine k_lcmp_lt (tgt := 63) C.x C.b dX9_counts_55 dX9_counts_56 (by decide) (fun c_56 => ?_) (fun c_56 => ?_)
  · skip
    refine lv_iconst (v := nI 0) C.x C.b dX9_counts_63 (by decide) ?_
    refine k_put (X := RX9) (T := TX9) (N := 28) (ty := .int) (v := .int (nI 0)) C hX (hM.at 0 rfl) rfl hin_X9_counts_RX9 tyX9_ok nmX9 27 (by decide) lk_X9_counts_f80 (fun _ h9 => h9) rfl (by decide +kernel) rfl rfl (Nat.le_of_ble_eq_true rfl) dX9_counts_64 (fun H locs hX => ?_)
    obtain ⟨g2, hX, hM, hO⟩ := kX.wr hX hM hO 0 rfl (List.mem_of_getElem? (i := 0) rfl)
    have hM : kCs g2 (mC G h q i0 i1 i3 i7 i18 i22 i23 (nI 0) j16 j17 a2 a4 a5 a6 b8 (mRoot b8 b9 t N) b10 a11 a12 a13 a14 b15 b19 b20 b21 a24 a25 a26) := hM
    refine lv_aload_n C.x C.b dX9_counts_67 rfl (lv_at hl 0 rfl) ?_
    refine k_get (X := RX9) (T := TX9) (N := 28) (v := .int (nI 0)) C hX (hM.at 0 rfl) rfl hin_X9_counts_RX9 27 (by decide) lk_X9_counts_f80 (fun _ h9 => h9) rfl dX9_counts_68 ?_
    refine lv_if_le (tgt := 76) C.x C.b dX9_counts_71 (by decide) (fun c_71 => ?_) (fun c_71 => ?_)
    rotate_left
    · exact absurd c_71 (by decide)
    refine lv_iconst (v := nI 0) C.x C.b dX9_counts_76 (by decide) ?_
    refine lv_istore_n (lv' := [(3, .int (nI 0)), (0, .ref h), (1, .int (nI t)), (2, .int (nI b))]) C.x C.b dX9_counts_77 rfl hl (by decide) rfl (fun ls hl => ?_)
    refine lv_iconst (v := nI 0) C.x C.b dX9_counts_78 (by decide) ?_
    refine lv_istore (lv' := [(4, .int (nI 0)), (3, .int (nI 0)), (0, .ref h), (1, .int (nI t)), (2, .int (nI b))]) C.x C.b dX9_counts_79 hl (by decide) rfl (fun ls hl => ?_)
    have LOOP81 : ∀ (n : Nat) (k : Nat), (k ≤ 4) → (4 - k) < n → ∀ (ls : Array Slot), lv_has ls 7 [(3, .int (nI (kCnt (fun x9 => ¬ (nI b).toInt64 < (mRoot b8 b9 t N) x9) k))), (4, .int (nI k)), (0, .ref h), (1, .int (nI t)), (2, .int (nI b))] → ∀ (fL : kH), kCs fL (mC G h q i0 i1 i3 i7 i18 i22 i23 (nI 0) j16 j17 a2 a4 a5 a6 b8 (mRoot b8 b9 t N) (mCopy0 b10 (mRoot b8 b9 t N) k) a11 a12 a13 a14 b15 b19 b20 b21 a24 a25 a26) → kOff (mAs h q) f fL → ∀ (H : Heap) (locs : List Loc), kX G B0 s fL H locs → W p l e (rmX9_counts) s m args below meth c H locs 0 0 Q (F0 m 81 ls []) := by
      intro n81
      induction n81 with
      | zero => intro k hk hn; exact absurd hn (Nat.not_lt_zero _)
      | succ n81 ih81 =>
        intro k hk hn ls hl fL hM hO H locs hX
        refine lv_iload C.x C.b dX9_counts_81 (lv_at hl 1 rfl) ?_
        refine lv_iconst (v := nI 4) C.x C.b dX9_counts_83 (by decide) ?_
        refine lv_icmp_ge (tgt := 128) C.x C.b dX9_counts_84 (by decide) (fun c_84 => ?_) (fun c_84 => ?_)
        · skip
          have c_84 : 4 ≤ k := (nI_leI (by omega) (by omega)).mp c_84
          have hk9 : 4 = k := by omega
          subst hk9
          refine lv_iconst (v := nI 0) C.x C.b dX9_counts_128 (by decide) ?_
          refine lv_istore (lv' := [(4, .int (nI 0)), (3, .int (nI (kCnt (fun x9 => ¬ (nI b).toInt64 < (mRoot b8 b9 t N) x9) 4))), (0, .ref h), (1, .int (nI t)), (2, .int (nI b))]) C.x C.b dX9_counts_129 hl (by decide) rfl (fun ls hl => ?_)
          refine lv_aload_n C.x C.b dX9_counts_131 rfl (lv_at hl 2 rfl) ?_
          refine k_get (X := RX9) (T := TX9) (N := 28) (v := .ref (q 11)) C hX (hM.at 0 rfl) rfl hin_X9_counts_RX9 11 (by decide) lk_X9_counts_f39 (fun _ h9 => h9) rfl dX9_counts_132 ?_
          refine lv_iconst (v := nI 0) C.x C.b dX9_counts_135 (by decide) ?_
          refine lv_iconst (v := nI 0) C.x C.b dX9_counts_136 (by decide) ?_
          refine k_iast C hX (hM.at 8 rfl) (vp_in_nI (by omega) (by omega)) dX9_counts_137 (fun H locs hX => ?_)
          rw [nI_clamp (by omega)] at hX
          obtain ⟨g4, hX, hM, hO⟩ := kX.wr hX hM hO 8 rfl (List.mem_of_getElem? (i := 8) rfl)
          have hM : kCs g4 (mC G h q i0 i1 i3 i7 i18 i22 i23 (nI 0) j16 j17 a2 a4 a5 a6 b8 (mRoot b8 b9 t N) (mCopy0 b10 (mRoot b8 b9 t N) 4) (upd a11 0 (nI 0)) a12 a13 a14 b15 b19 b20 b21 a24 a25 a26) := hM
          refine lv_aload_n C.x C.b dX9_counts_138 rfl (lv_at hl 2 rfl) ?_
          refine k_get (X := RX9) (T := TX9) (N := 28) (v := .ref (q 12)) C hX (hM.at 0 rfl) rfl hin_X9_counts_RX9 12 (by decide) lk_X9_counts_f42 (fun _ h9 => h9) rfl dX9_counts_139 ?_
          refine lv_iconst (v := nI 0) C.x C.b dX9_counts_142 (by decide) ?_
          refine lv_iconst (v := -1) C.x C.b dX9_counts_143 (by decide) ?_
          refine k_iast C hX (hM.at 9 rfl) (vp_in_nI (by omega) (by omega)) dX9_counts_144 (fun H locs hX => ?_)
          rw [nI_clamp (by omega)] at hX
          obtain ⟨g5, hX, hM, hO⟩ := kX.wr hX hM hO 9 rfl (List.mem_of_getElem? (i := 9) rfl)
          have hM : kCs g5 (mC G h q i0 i1 i3 i7 i18 i22 i23 (nI 0) j16 j17 a2 a4 a5 a6 b8 (mRoot b8 b9 t N) (mCopy0 b10 (mRoot b8 b9 t N) 4) (upd a11 0 (nI 0)) (upd a12 0 (-1)) a13 a14 b15 b19 b20 b21 a24 a25 a26) := hM
          have LOOP145 : ∀ (n fu lev j sum la : Nat) (g : Nat → Int64) (B10 : Nat → Int64) (A11 A12 : Nat → Int32), mFin (nI b).toInt64 fu g la → lev + fu ≤ 255 → j ≤ 4 → la ≤ 4 → A11 lev = nI j → A12 lev = mLa la → (∀ k, k < 4 → B10 (4 * lev + k) = g k) → (∀ (ls : Array Slot), lv_has ls 7 [(3, .int (nI (sum + mTJ (mTree (nI b).toInt64 (fu - 1)) (nI b).toInt64 g la (4 - j)))), (4, .int (nI lev + -1)), (0, .ref h), (1, .int (nI t)), (2, .int (nI b))] → ∀ (fK : kH) (B9 : Nat → Int64) (C1 C2 : Nat → Int32), (∀ i, i < lev → C1 i = A11 i ∧ C2 i = A12 i) → (∀ i, i < 4 * lev → B9 i = B10 i) → kCs fK (mC G h q i0 i1 i3 i7 i18 i22 i23 (nI 0) j16 j17 a2 a4 a5 a6 b8 (mRoot b8 b9 t N) B9 C1 C2 a13 a14 b15 b19 b20 b21 a24 a25 a26) → kOff (mAs h q) f fK → ∀ (H : Heap) (locs : List Loc), kX G B0 s fK H locs → W p l e rmX9_counts s m args below meth c H locs 0 0 Q (F0 m 145 ls [])) → fu * 5 + (4 - j) < n → ∀ (ls : Array Slot), lv_has ls 7 [(3, .int (nI sum)), (4, .int (nI lev)), (0, .ref h), (1, .int (nI t)), (2, .int (nI b))] → ∀ (fL : kH), kCs fL (mC G h q i0 i1 i3 i7 i18 i22 i23 (nI 0) j16 j17 a2 a4 a5 a6 b8 (mRoot b8 b9 t N) B10 A11 A12 a13 a14 b15 b19 b20 b21 a24 a25 a26) → kOff (mAs h q) f fL → ∀ (H : Heap) (locs : List Loc), kX G B0 s fL H locs → W p l e rmX9_counts s m args below meth c H locs 0 0 Q (F0 m 145 ls []) := by
            intro n
            induction n with
            | zero => intro fu lev j sum la g B10 A11 A12 _ _ _ _ _ _ _ _ hn; exact absurd hn (Nat.not_lt_zero _)
            | succ n ih145 =>
              intro fu lev j sum la g B10 A11 A12 hfin hsz hj hla hA1 hA2 hB hK hn ls hl fL hM hO H locs hX
              obtain ⟨m9, rfl⟩ : ∃ m9, fu = m9 + 1 := by cases fu with | zero => exact hfin.elim | succ m9 => exact ⟨m9, rfl⟩
              refine lv_iload C.x C.b dX9_counts_145 (lv_at hl 1 rfl) ?_
              refine lv_if_lt (tgt := 303) C.x C.b dX9_counts_147 (by decide) (fun c_147 => ?_) (fun c_147 => ?_)
              · skip
                exact absurd c_147 (nI_pos (by omega))
              · skip
                refine lv_aload_n C.x C.b dX9_counts_150 rfl (lv_at hl 2 rfl) ?_
                refine k_get (X := RX9) (T := TX9) (N := 28) (v := .ref (q 11)) C hX (hM.at 0 rfl) rfl hin_X9_counts_RX9 11 (by decide) lk_X9_counts_f39 (fun _ h9 => h9) rfl dX9_counts_151 ?_
                refine lv_iload C.x C.b dX9_counts_154 (lv_at hl 1 rfl) ?_
                refine k_iald C hX (hM.at 8 rfl) (vp_in_nI (by omega) (by omega)) dX9_counts_156 ?_
                refine k_topi (y := A11 lev) (by rw [nI_clamp (by omega)]) ?_
                refine k_topi (y := (nI j)) (hA1) ?_
                refine lv_istore (lv' := [(5, .int (nI j)), (3, .int (nI sum)), (4, .int (nI lev)), (0, .ref h), (1, .int (nI t)), (2, .int (nI b))]) C.x C.b dX9_counts_157 hl (by decide) rfl (fun ls hl => ?_)
                refine lv_aload_n C.x C.b dX9_counts_159 rfl (lv_at hl 3 rfl) ?_
                refine k_get (X := RX9) (T := TX9) (N := 28) (v := .ref (q 11)) C hX (hM.at 0 rfl) rfl hin_X9_counts_RX9 11 (by decide) lk_X9_counts_f39 (fun _ h9 => h9) rfl dX9_counts_160 ?_
                refine lv_iload C.x C.b dX9_counts_163 (lv_at hl 2 rfl) ?_
                refine lv_dup2_11 C.x C.b dX9_counts_165 rfl rfl ?_
                refine k_iald C hX (hM.at 8 rfl) (vp_in_nI (by omega) (by omega)) dX9_counts_166 ?_
                refine k_topi (y := A11 lev) (by rw [nI_clamp (by omega)]) ?_
                refine k_topi (y := (nI j)) (hA1) ?_
                refine lv_iconst (v := nI 1) C.x C.b dX9_counts_167 (by decide) ?_
                refine lv_iadd C.x C.b dX9_counts_168 ?_
                refine k_topi (y := nI (j + 1)) (nI_add _ _) ?_
                refine k_iast C hX (hM.at 8 rfl) (vp_in_nI (by omega) (by omega)) dX9_counts_169 (fun H locs hX => ?_)
                rw [nI_clamp (by omega)] at hX
                obtain ⟨g6, hX, hM, hO⟩ := kX.wr hX hM hO 8 rfl (List.mem_of_getElem? (i := 8) rfl)
                have hM : kCs g6 (mC G h q i0 i1 i3 i7 i18 i22 i23 (nI 0) j16 j17 a2 a4 a5 a6 b8 (mRoot b8 b9 t N) B10 (upd A11 lev (nI (j + 1))) A12 a13 a14 b15 b19 b20 b21 a24 a25 a26) := hM
                refine lv_iload C.x C.b dX9_counts_170 (lv_at hl 0 rfl) ?_
                refine lv_iconst (v := nI 4) C.x C.b dX9_counts_172 (by decide) ?_
                refine lv_icmp_ne (tgt := 182) C.x C.b dX9_counts_173 (by decide) (fun c_173 => ?_) (fun c_173 => ?_)
                · skip
                  have c_173 : ¬ (j = 4) := fun h9 => c_173 ((nI_eq (by omega) (by omega)).mpr h9)
                  have hj4 : j < 4 := by omega
                  refine lv_iload C.x C.b dX9_counts_182 (lv_at hl 0 rfl) ?_
                  refine lv_aload_n C.x C.b dX9_counts_184 rfl (lv_at hl 3 rfl) ?_
                  refine k_get (X := RX9) (T := TX9) (N := 28) (v := .ref (q 12)) C hX (hM.at 0 rfl) rfl hin_X9_counts_RX9 12 (by decide) lk_X9_counts_f42 (fun _ h9 => h9) rfl dX9_counts_185 ?_
                  refine lv_iload C.x C.b dX9_counts_188 (lv_at hl 2 rfl) ?_
                  refine k_iald C hX (hM.at 9 rfl) (vp_in_nI (by omega) (by omega)) dX9_counts_190 ?_
                  refine k_topi (y := A12 lev) (by rw [nI_clamp (by omega)]) ?_
                  refine k_topi (y := (mLa la)) (hA2) ?_
                  refine lv_icmp_eq (tgt := 300) C.x C.b dX9_counts_191 (by decide) (fun c_191 => ?_) (fun c_191 => ?_)
                  · skip
                    refine lv_goto (tgt := 145) C.x C.b dX9_counts_300 (by decide) ?_
                    have ej : mTJ (mTree (nI b).toInt64 m9) (nI b).toInt64 g la (4 - j) = mTJ (mTree (nI b).toInt64 m9) (nI b).toInt64 g la (4 - (j + 1)) := mTJ_no hj4 (fun z => z.1 ((mLa_eq hj4 hla).mp c_191))
                    exact ih145 (m9 + 1) lev (j + 1) sum la g B10 _ _ hfin hsz (by omega) hla (by simp [upd]) hA2 hB (fun ls hl fK B9 C1 C2 h1 h2 => hK ls (by rw [show m9 + 1 - 1 = m9 from rfl, ej]; exact hl) fK B9 C1 C2 (fun i hi => ⟨(h1 i hi).1.trans (by rw [upd, if_neg (by omega)]), (h1 i hi).2⟩) h2) (by omega) ls (lv_sub hl [1, 2, 3, 4, 5] rfl) _ hM hO _ _ hX
                  · skip
                    refine lv_aload_n C.x C.b dX9_counts_194 rfl (lv_at hl 3 rfl) ?_
                    refine k_get (X := RX9) (T := TX9) (N := 28) (v := .ref (q 10)) C hX (hM.at 0 rfl) rfl hin_X9_counts_RX9 10 (by decide) lk_X9_counts_f36 (fun _ h9 => h9) rfl dX9_counts_195 ?_
                    refine lv_iconst (v := nI 4) C.x C.b dX9_counts_198 (by decide) ?_
                    refine lv_iload C.x C.b dX9_counts_199 (lv_at hl 2 rfl) ?_
                    refine lv_imul C.x C.b dX9_counts_201 ?_
                    refine k_topi (y := nI (4 * lev)) (pk_mul _ _) ?_
                    refine lv_iload C.x C.b dX9_counts_202 (lv_at hl 0 rfl) ?_
                    refine k_calll (va_runS (As := [.ref (q 10), .int (nI (4 * lev)), .int (nI j)]) (rest := []) C.1 (kX9_turned l G B0 g6 (q 10) 1024 B10 (4 * lev) j (kCs.one (hM.at 7 rfl)) (by omega) (by omega) (by omega)) (va_cwS 3 C.ts gX9_counts_X9_turned rfl rfl rfl (hdX9_counts_X9_turned) ⟨Nat.le_of_ble_eq_true rfl, Nat.le_of_ble_eq_true rfl⟩) (k_preS C hX) rfl rfl hl.1 rfl (lv_room (Nat.le_of_ble_eq_true rfl)) dX9_counts_204 ⟨Nat.le_of_ble_eq_true rfl, Nat.le_of_ble_eq_true rfl⟩) hX (fun r204 f204 H locs hp204 hX => ?_)
                    obtain ⟨hr204, hf204⟩ := hp204
                    rw [hf204] at hX
                    refine k_topl (y := (mTurned B10 (4 * lev) j)) hr204 ?_
                    refine k_topl (y := (mTurned g 0 j)) (mTurned_c hB hj4) ?_
                    refine lv_iload_n C.x C.b dX9_counts_207 rfl (lv_at hl 5 rfl) ?_
                    refine lv_i2l (v := (nI b).toInt64) C.x C.b dX9_counts_208 rfl ?_
                    refine k_lcmp_gt (tgt := 300) C.x C.b dX9_counts_209 dX9_counts_210 (by decide) (fun c_210 => ?_) (fun c_210 => ?_)
                    · skip
                      refine lv_goto (tgt := 145) C.x C.b dX9_counts_300 (by decide) ?_
                      have ej : mTJ (mTree (nI b).toInt64 m9) (nI b).toInt64 g la (4 - j) = mTJ (mTree (nI b).toInt64 m9) (nI b).toInt64 g la (4 - (j + 1)) := mTJ_no hj4 (fun z => z.2 c_210)
                      exact ih145 (m9 + 1) lev (j + 1) sum la g B10 _ _ hfin hsz (by omega) hla (by simp [upd]) hA2 hB (fun ls hl fK B9 C1 C2 h1 h2 => hK ls (by rw [show m9 + 1 - 1 = m9 from rfl, ej]; exact hl) fK B9 C1 C2 (fun i hi => ⟨(h1 i hi).1.trans (by rw [upd, if_neg (by omega)]), (h1 i hi).2⟩) h2) (by omega) ls (lv_sub hl [1, 2, 3, 4, 5] rfl) _ hM hO _ _ hX
                    · skip
                      refine lv_iinc (v := (nI (sum + 1))) (lv' := [(3, .int (nI (sum + 1))), (5, .int (nI j)), (4, .int (nI lev)), (0, .ref h), (1, .int (nI t)), (2, .int (nI b))]) C.x C.b dX9_counts_213 hl (k := 1) rfl (nI_1 _) (by decide) rfl (fun ls hl => ?_)
                      refine lv_iconst (v := nI 0) C.x C.b dX9_counts_216 (by decide) ?_
                      refine lv_istore (lv' := [(6, .int (nI 0)), (3, .int (nI (sum + 1))), (5, .int (nI j)), (4, .int (nI lev)), (0, .ref h), (1, .int (nI t)), (2, .int (nI b))]) C.x C.b dX9_counts_217 hl (by decide) rfl (fun ls hl => ?_)
                      have LOOP219 : ∀ (n : Nat) (k : Nat) (B2 : Nat → Int64), (k ≤ 4) → (∀ i, i < 4 * lev + 4 → B2 i = B10 i) → (∀ i, i < k → B2 (4 * (lev + 1) + i) = mTrn g j i) → (4 - k) < n → ∀ (ls : Array Slot), lv_has ls 7 [(6, .int (nI k)), (3, .int (nI (sum + 1))), (4, .int (nI lev)), (5, .int (nI j)), (0, .ref h), (1, .int (nI t)), (2, .int (nI b))] → ∀ (fL : kH), kCs fL (mC G h q i0 i1 i3 i7 i18 i22 i23 (nI 0) j16 j17 a2 a4 a5 a6 b8 (mRoot b8 b9 t N) B2 (upd A11 lev (nI (j + 1))) A12 a13 a14 b15 b19 b20 b21 a24 a25 a26) → kOff (mAs h q) f fL → ∀ (H : Heap) (locs : List Loc), kX G B0 s fL H locs → W p l e (rmX9_counts) s m args below meth c H locs 0 0 Q (F0 m 219 ls []) := by
                        intro n219
                        induction n219 with
                        | zero => intro k B2 hk hB2 hB3 hn; exact absurd hn (Nat.not_lt_zero _)
                        | succ n219 ih219 =>
                          intro k B2 hk hB2 hB3 hn ls hl fL hM hO H locs hX
                          refine lv_iload C.x C.b dX9_counts_219 (lv_at hl 0 rfl) ?_
                          refine lv_iconst (v := nI 4) C.x C.b dX9_counts_221 (by decide) ?_
                          refine lv_icmp_ge (tgt := 280) C.x C.b dX9_counts_222 (by decide) (fun c_222 => ?_) (fun c_222 => ?_)
                          · skip
                            have c_222 : 4 ≤ k := (nI_leI (by omega) (by omega)).mp c_222
                            have hk9 : 4 = k := by omega
                            subst hk9
                            refine lv_iinc (v := (nI (lev + 1))) (lv' := [(4, .int (nI (lev + 1))), (6, .int (nI 4)), (3, .int (nI (sum + 1))), (5, .int (nI j)), (0, .ref h), (1, .int (nI t)), (2, .int (nI b))]) C.x C.b dX9_counts_280 hl (k := 2) rfl (nI_1 _) (by decide) rfl (fun ls hl => ?_)
                            refine lv_aload_n C.x C.b dX9_counts_283 rfl (lv_at hl 4 rfl) ?_
                            refine k_get (X := RX9) (T := TX9) (N := 28) (v := .ref (q 11)) C hX (hM.at 0 rfl) rfl hin_X9_counts_RX9 11 (by decide) lk_X9_counts_f39 (fun _ h9 => h9) rfl dX9_counts_284 ?_
                            refine lv_iload C.x C.b dX9_counts_287 (lv_at hl 0 rfl) ?_
                            refine lv_iconst (v := nI 0) C.x C.b dX9_counts_289 (by decide) ?_
                            refine k_iast C hX (hM.at 8 rfl) (vp_in_nI (by omega) (by omega)) dX9_counts_290 (fun H locs hX => ?_)
                            rw [nI_clamp (by omega)] at hX
                            obtain ⟨g8, hX, hM, hO⟩ := kX.wr hX hM hO 8 rfl (List.mem_of_getElem? (i := 8) rfl)
                            have hM : kCs g8 (mC G h q i0 i1 i3 i7 i18 i22 i23 (nI 0) j16 j17 a2 a4 a5 a6 b8 (mRoot b8 b9 t N) B2 (upd (upd A11 lev (nI (j + 1))) (lev + 1) (nI 0)) A12 a13 a14 b15 b19 b20 b21 a24 a25 a26) := hM
                            refine lv_aload_n C.x C.b dX9_counts_291 rfl (lv_at hl 4 rfl) ?_
                            refine k_get (X := RX9) (T := TX9) (N := 28) (v := .ref (q 12)) C hX (hM.at 0 rfl) rfl hin_X9_counts_RX9 12 (by decide) lk_X9_counts_f42 (fun _ h9 => h9) rfl dX9_counts_292 ?_
                            refine lv_iload C.x C.b dX9_counts_295 (lv_at hl 0 rfl) ?_
                            refine lv_iload C.x C.b dX9_counts_297 (lv_at hl 3 rfl) ?_
                            refine k_iast C hX (hM.at 9 rfl) (vp_in_nI (by omega) (by omega)) dX9_counts_299 (fun H locs hX => ?_)
                            rw [nI_clamp (by omega)] at hX
                            obtain ⟨g9, hX, hM, hO⟩ := kX.wr hX hM hO 9 rfl (List.mem_of_getElem? (i := 9) rfl)
                            have hM : kCs g9 (mC G h q i0 i1 i3 i7 i18 i22 i23 (nI 0) j16 j17 a2 a4 a5 a6 b8 (mRoot b8 b9 t N) B2 (upd (upd A11 lev (nI (j + 1))) (lev + 1) (nI 0)) (upd A12 (lev + 1) (nI j)) a13 a14 b15 b19 b20 b21 a24 a25 a26) := hM
                            refine lv_goto (tgt := 145) C.x C.b dX9_counts_300 (by decide) ?_
                            have hne : ¬ j = la := fun z => c_191 ((mLa_eq hj4 hla).mpr z)
                            have hf2 := hfin j hj4 hne c_210
                            have ej := mTJ_yes (T := mTree (nI b).toInt64 m9) (bd := (nI b).toInt64) (g := g) (la := la) hj4 ⟨hne, c_210⟩
                            refine ih145 m9 (lev + 1) 0 (sum + 1) j (mTrn g j) B2 _ _ hf2 (by omega) (by omega) (by omega) (by simp [upd]) (by simp only [upd, if_true]; rw [mLa, if_neg (by omega)]) (fun k hk => hB3 k hk) ?_ (by omega) ls (lv_sub hl [2, 0, 4, 5, 6] rfl) _ hM hO _ _ hX
                            intro ls hl fK B9 C1 C2 h1 h2 hM hO H locs hX
                            rw [pk_m1, mTree_m1 hf2] at hl
                            have hC1 : C1 lev = nI (j + 1) := (h1 lev (by omega)).1.trans (by simp [upd])
                            have hC2 : C2 lev = mLa la := (h1 lev (by omega)).2.trans (by rw [upd, if_neg (by omega)]; exact hA2)
                            refine ih145 (m9 + 1) lev (j + 1) (sum + 1 + mTree (nI b).toInt64 m9 (mTrn g j) j) la g B9 C1 C2 hfin hsz (by omega) hla hC1 hC2 (fun k hk => (h2 _ (by omega)).trans ((hB2 _ (by omega)).trans (hB k hk))) ?_ (by omega) ls hl _ hM hO _ _ hX
                            intro ls hl fK B8 D1 D2 g1 g2
                            refine hK ls ?_ fK B8 D1 D2 (fun i hi => ⟨(g1 i hi).1.trans ((h1 i (by omega)).1.trans (by rw [upd, if_neg (by omega), upd, if_neg (by omega)])), (g1 i hi).2.trans ((h1 i (by omega)).2.trans (by rw [upd, if_neg (by omega)]))⟩) (fun i hi => (g2 i hi).trans ((h2 i (by omega)).trans (hB2 i (by omega))))
                            rw [show m9 + 1 - 1 = m9 from rfl] at hl ⊢
                            rw [ej, show sum + (1 + mTree (nI b).toInt64 m9 (mTrn g j) j + mTJ (mTree (nI b).toInt64 m9) (nI b).toInt64 g la (4 - (j + 1))) = sum + 1 + mTree (nI b).toInt64 m9 (mTrn g j) j + mTJ (mTree (nI b).toInt64 m9) (nI b).toInt64 g la (4 - (j + 1)) by omega]
                            exact hl
                          · skip
                            have c_222 : ¬ (4 ≤ k) := fun h9 => c_222 ((nI_leI (by omega) (by omega)).mpr h9)
                            have hk4 : k < 4 := by omega
                            refine lv_aload_n C.x C.b dX9_counts_225 rfl (lv_at hl 4 rfl) ?_
                            refine k_get (X := RX9) (T := TX9) (N := 28) (v := .ref (q 10)) C hX (hM.at 0 rfl) rfl hin_X9_counts_RX9 10 (by decide) lk_X9_counts_f36 (fun _ h9 => h9) rfl dX9_counts_226 ?_
                            refine lv_iconst (v := nI 4) C.x C.b dX9_counts_229 (by decide) ?_
                            refine lv_iload C.x C.b dX9_counts_230 (lv_at hl 2 rfl) ?_
                            refine lv_imul C.x C.b dX9_counts_232 ?_
                            refine k_topi (y := nI (4 * lev)) (pk_mul _ _) ?_
                            refine lv_iconst (v := nI 4) C.x C.b dX9_counts_233 (by decide) ?_
                            refine lv_iadd C.x C.b dX9_counts_234 ?_
                            refine k_topi (y := nI ((4 * lev) + 4)) (nI_add _ _) ?_
                            refine lv_iload C.x C.b dX9_counts_235 (lv_at hl 0 rfl) ?_
                            refine lv_iadd C.x C.b dX9_counts_237 ?_
                            refine k_topi (y := nI (((4 * lev) + 4) + k)) (nI_add _ _) ?_
                            refine lv_iload C.x C.b dX9_counts_238 (lv_at hl 0 rfl) ?_
                            refine lv_iload C.x C.b dX9_counts_240 (lv_at hl 3 rfl) ?_
                            have J273 : ∀ (ls : Array Slot), lv_has ls 7 [(6, .int (nI k)), (3, .int (nI (sum + 1))), (4, .int (nI lev)), (5, .int (nI j)), (0, .ref h), (1, .int (nI t)), (2, .int (nI b))] → ∀ (H : Heap) (locs : List Loc), kX G B0 s fL H locs → W p l e (rmX9_counts) s m args below meth c H locs 0 0 Q (F0 m 273 ls [.long (mTrn g j k), .int (nI (((4 * lev) + 4) + k)), .ref (q 10)]) := by
                              intro ls hl H locs hX
                              refine k_last C hX (hM.at 7 rfl) (vp_in_nI (by omega) (by omega)) dX9_counts_273 (fun H locs hX => ?_)
                              rw [nI_clamp (by omega)] at hX
                              obtain ⟨g10, hX, hM, hO⟩ := kX.wr hX hM hO 7 rfl (List.mem_of_getElem? (i := 7) rfl)
                              have hM : kCs g10 (mC G h q i0 i1 i3 i7 i18 i22 i23 (nI 0) j16 j17 a2 a4 a5 a6 b8 (mRoot b8 b9 t N) (vp_updL B2 (((4 * lev) + 4) + k) (mTrn g j k)) (upd A11 lev (nI (j + 1))) A12 a13 a14 b15 b19 b20 b21 a24 a25 a26) := hM
                              refine lv_iinc (v := (nI (k + 1))) (lv' := [(6, .int (nI (k + 1))), (3, .int (nI (sum + 1))), (4, .int (nI lev)), (5, .int (nI j)), (0, .ref h), (1, .int (nI t)), (2, .int (nI b))]) C.x C.b dX9_counts_274 hl (k := 0) rfl (nI_1 _) (by decide) rfl (fun ls hl => ?_)
                              refine lv_goto (tgt := 219) C.x C.b dX9_counts_277 (by decide) ?_
                              exact ih219 (k + 1) _ (by omega) (fun i hi => by rw [vp_updL, if_neg (by omega)]; exact hB2 i hi) (fun i hi => by rw [vp_updL]; split; (rw [show i = k by omega]); (exact hB3 i (by omega))) (by omega) ls (lv_sub hl [0, 1, 2, 3, 4, 5, 6] rfl) _ hM hO _ _ hX
                            refine lv_icmp_ne (tgt := 261) C.x C.b dX9_counts_242 (by decide) (fun c_242 => ?_) (fun c_242 => ?_)
                            · skip
                              have c_242 : ¬ (k = j) := fun h9 => c_242 ((nI_eq (by omega) (by omega)).mpr h9)
                              refine lv_aload_n C.x C.b dX9_counts_261 rfl (lv_at hl 4 rfl) ?_
                              refine k_get (X := RX9) (T := TX9) (N := 28) (v := .ref (q 10)) C hX (hM.at 0 rfl) rfl hin_X9_counts_RX9 10 (by decide) lk_X9_counts_f36 (fun _ h9 => h9) rfl dX9_counts_262 ?_
                              refine lv_iconst (v := nI 4) C.x C.b dX9_counts_265 (by decide) ?_
                              refine lv_iload C.x C.b dX9_counts_266 (lv_at hl 2 rfl) ?_
                              refine lv_imul C.x C.b dX9_counts_268 ?_
                              refine k_topi (y := nI (4 * lev)) (pk_mul _ _) ?_
                              refine lv_iload C.x C.b dX9_counts_269 (lv_at hl 0 rfl) ?_
                              refine lv_iadd C.x C.b dX9_counts_271 ?_
                              refine k_topi (y := nI ((4 * lev) + k)) (nI_add _ _) ?_
                              refine k_lald C hX (hM.at 7 rfl) (vp_in_nI (by omega) (by omega)) dX9_counts_272 ?_
                              refine k_topl (y := B2 ((4 * lev) + k)) (by rw [nI_clamp (by omega)]) ?_
                              refine k_topl (y := (g k)) ((hB2 _ (by omega)).trans (hB k hk4)) ?_
                              refine k_topl (y := (mTrn g j k)) (by first | (rw [mTrn, if_neg c_242]; done) | (rw [mTrn, if_pos c_242]; done)) ?_
                              exact J273 ls (lv_sub hl [0, 1, 2, 3, 4, 5, 6] rfl) _ _ hX
                            · skip
                              have c_242 : k = j := (nI_eq (by omega) (by omega)).mp c_242
                              refine lv_aload_n C.x C.b dX9_counts_245 rfl (lv_at hl 4 rfl) ?_
                              refine k_get (X := RX9) (T := TX9) (N := 28) (v := .ref (q 10)) C hX (hM.at 0 rfl) rfl hin_X9_counts_RX9 10 (by decide) lk_X9_counts_f36 (fun _ h9 => h9) rfl dX9_counts_246 ?_
                              refine lv_iconst (v := nI 4) C.x C.b dX9_counts_249 (by decide) ?_
                              refine lv_iload C.x C.b dX9_counts_250 (lv_at hl 2 rfl) ?_
                              refine lv_imul C.x C.b dX9_counts_252 ?_
                              refine k_topi (y := nI (4 * lev)) (pk_mul _ _) ?_
                              refine lv_iload C.x C.b dX9_counts_253 (lv_at hl 3 rfl) ?_
                              refine k_calll (va_runS (As := [.ref (q 10), .int (nI (4 * lev)), .int (nI j)]) (rest := [.int (nI (((4 * lev) + 4) + k)), .ref (q 10)]) C.1 (kX9_turned l G B0 fL (q 10) 1024 B2 (4 * lev) j (kCs.one (hM.at 7 rfl)) (by omega) (by omega) (by omega)) (va_cwS 3 C.ts gX9_counts_X9_turned rfl rfl rfl (hdX9_counts_X9_turned) ⟨Nat.le_of_ble_eq_true rfl, Nat.le_of_ble_eq_true rfl⟩) (k_preS C hX) rfl rfl hl.1 rfl (lv_room (Nat.le_of_ble_eq_true rfl)) dX9_counts_255 ⟨Nat.le_of_ble_eq_true rfl, Nat.le_of_ble_eq_true rfl⟩) hX (fun r255 f255 H locs hp255 hX => ?_)
                              obtain ⟨hr255, hf255⟩ := hp255
                              rw [hf255] at hX
                              refine k_topl (y := (mTurned B2 (4 * lev) j)) hr255 ?_
                              refine k_topl (y := (mTurned g 0 j)) (mTurned_c (fun k hk => (hB2 _ (by omega)).trans (hB k hk)) hj4) ?_
                              refine lv_goto (tgt := 273) C.x C.b dX9_counts_258 (by decide) ?_
                              refine k_topl (y := (mTrn g j k)) (by first | (rw [mTrn, if_neg c_242]; done) | (rw [mTrn, if_pos c_242]; done)) ?_
                              exact J273 ls (lv_sub hl [0, 1, 2, 3, 4, 5, 6] rfl) _ _ hX
                      exact LOOP219 _ 0 _ (by omega) (fun _ _ => rfl) (fun i hi => absurd hi (Nat.not_lt_zero _)) (Nat.lt_succ_self _) ls (lv_sub hl [0, 1, 3, 2, 4, 5, 6] rfl) _ hM hO _ _ hX
                · skip
                  have c_173 : j = 4 := (nI_eq (by omega) (by omega)).mp c_173
                  refine lv_iinc (v := ((nI lev) + -1)) (lv' := [(4, .int ((nI lev) + -1)), (5, .int (nI j)), (3, .int (nI sum)), (0, .ref h), (1, .int (nI t)), (2, .int (nI b))]) C.x C.b dX9_counts_176 hl (k := 2) rfl (rfl) (by decide) rfl (fun ls hl => ?_)
                  refine lv_goto (tgt := 300) C.x C.b dX9_counts_179 (by decide) ?_
                  refine lv_goto (tgt := 145) C.x C.b dX9_counts_300 (by decide) ?_
                  have ej : j = 4 := c_173
                  rw [ej] at hK
                  exact hK ls (lv_sub hl [2, 0, 3, 4, 5] rfl) _ _ _ _ (fun i hi => ⟨by rw [upd, if_neg (by omega)], rfl⟩) (fun _ _ => rfl) hM hO _ _ hX
          have K0 : ∀ (ls : Array Slot), lv_has ls 7 [(3, .int (nI (kCnt (fun x9 => ¬ (nI b).toInt64 < (mRoot b8 b9 t N) x9) 4 + mTJ (mTree (nI b).toInt64 (fu - 1)) (nI b).toInt64 (mRoot b8 b9 t N) 4 (4 - 0)))), (4, .int (nI 0 + -1)), (0, .ref h), (1, .int (nI t)), (2, .int (nI b))] → ∀ (fK : kH) (B9 : Nat → Int64) (C1 C2 : Nat → Int32), (∀ i, i < 0 → C1 i = (upd a11 0 (nI 0)) i ∧ C2 i = (upd a12 0 (-1)) i) → (∀ i, i < 4 * 0 → B9 i = (mCopy0 b10 (mRoot b8 b9 t N) 4) i) → kCs fK (mC G h q i0 i1 i3 i7 i18 i22 i23 (nI 0) j16 j17 a2 a4 a5 a6 b8 (mRoot b8 b9 t N) B9 C1 C2 a13 a14 b15 b19 b20 b21 a24 a25 a26) → kOff (mAs h q) f fK → ∀ (H : Heap) (locs : List Loc), kX G B0 s fK H locs → W p l e rmX9_counts s m args below meth c H locs 0 0 Q (F0 m 145 ls []) := by
            intro ls hl fK B9 C1 C2 _ _ hM hO H locs hX
            refine lv_iload C.x C.b dX9_counts_145 (lv_at hl 1 rfl) ?_
            refine lv_if_lt (tgt := 303) C.x C.b dX9_counts_147 (by decide) (fun c_147 => ?_) (fun c_147 => ?_)
            · skip
              refine lv_iload_n C.x C.b dX9_counts_303 rfl (lv_at hl 0 rfl) ?_
              exact k_iret C hX hr hlocks hQ (by omega) (by omega) (⟨by rw [mCount, ← mTree_m1 hfin], B9, C1, C2, hM, hO⟩) dX9_counts_304
            · skip
              exact absurd (by decide) c_147
          exact LOOP145 _ fu 0 0 _ 4 (mRoot b8 b9 t N) (mCopy0 b10 (mRoot b8 b9 t N) 4) (upd a11 0 (nI 0)) (upd a12 0 (-1)) hfin (by omega) (by omega) (by omega) rfl rfl (fun k hk => by rw [Nat.mul_zero, Nat.zero_add]; exact mCopy0_lt _ _ _ _ hk) K0 (Nat.lt_succ_self _) ls (lv_sub hl [1, 0, 2, 3, 4] rfl) _ hM hO _ _ hX
        · skip
          have c_84 : ¬ (4 ≤ k) := fun h9 => c_84 ((nI_leI (by omega) (by omega)).mpr h9)
          refine lv_aload_n C.x C.b dX9_counts_87 rfl (lv_at hl 2 rfl) ?_
          refine k_get (X := RX9) (T := TX9) (N := 28) (v := .ref (q 10)) C hX (hM.at 0 rfl) rfl hin_X9_counts_RX9 10 (by decide) lk_X9_counts_f36 (fun _ h9 => h9) rfl dX9_counts_88 ?_
          refine lv_iload C.x C.b dX9_counts_91 (lv_at hl 1 rfl) ?_
          refine lv_aload_n C.x C.b dX9_counts_93 rfl (lv_at hl 2 rfl) ?_
          refine k_get (X := RX9) (T := TX9) (N := 28) (v := .ref (q 9)) C hX (hM.at 0 rfl) rfl hin_X9_counts_RX9 9 (by decide) lk_X9_counts_f33 (fun _ h9 => h9) rfl dX9_counts_94 ?_
          refine lv_iload C.x C.b dX9_counts_97 (lv_at hl 1 rfl) ?_
          refine k_lald C hX (hM.at 6 rfl) (vp_in_nI (by omega) (by omega)) dX9_counts_99 ?_
          refine k_topl (y := (mRoot b8 b9 t N) k) (by rw [nI_clamp (by omega)]) ?_
          refine k_last C hX (hM.at 7 rfl) (vp_in_nI (by omega) (by omega)) dX9_counts_100 (fun H locs hX => ?_)
          rw [nI_clamp (by omega)] at hX
          obtain ⟨g11, hX, hM, hO⟩ := kX.wr hX hM hO 7 rfl (List.mem_of_getElem? (i := 7) rfl)
          have hM : kCs g11 (mC G h q i0 i1 i3 i7 i18 i22 i23 (nI 0) j16 j17 a2 a4 a5 a6 b8 (mRoot b8 b9 t N) (vp_updL (mCopy0 b10 (mRoot b8 b9 t N) k) k ((mRoot b8 b9 t N) k)) a11 a12 a13 a14 b15 b19 b20 b21 a24 a25 a26) := hM
          refine lv_iload_n C.x C.b dX9_counts_101 rfl (lv_at hl 0 rfl) ?_
          refine lv_aload_n C.x C.b dX9_counts_102 rfl (lv_at hl 2 rfl) ?_
          refine k_get (X := RX9) (T := TX9) (N := 28) (v := .ref (q 9)) C hX (hM.at 0 rfl) rfl hin_X9_counts_RX9 9 (by decide) lk_X9_counts_f33 (fun _ h9 => h9) rfl dX9_counts_103 ?_
          refine lv_iload C.x C.b dX9_counts_106 (lv_at hl 1 rfl) ?_
          refine k_lald C hX (hM.at 6 rfl) (vp_in_nI (by omega) (by omega)) dX9_counts_108 ?_
          refine k_topl (y := (mRoot b8 b9 t N) k) (by rw [nI_clamp (by omega)]) ?_
          refine lv_iload_n C.x C.b dX9_counts_109 rfl (lv_at hl 4 rfl) ?_
          refine lv_i2l (v := (nI b).toInt64) C.x C.b dX9_counts_110 rfl ?_
          have J120 : ∀ (ls : Array Slot), lv_has ls 7 [(3, .int (nI (kCnt (fun x9 => ¬ (nI b).toInt64 < (mRoot b8 b9 t N) x9) k))), (4, .int (nI k)), (0, .ref h), (1, .int (nI t)), (2, .int (nI b))] → ∀ (H : Heap) (locs : List Loc), kX G B0 s g11 H locs → W p l e (rmX9_counts) s m args below meth c H locs 0 0 Q (F0 m 120 ls [.int (nI (if ¬ (nI b).toInt64 < (mRoot b8 b9 t N) k then 1 else 0)), .int (nI (kCnt (fun x9 => ¬ (nI b).toInt64 < (mRoot b8 b9 t N) x9) k))]) := by
            intro ls hl H locs hX
            refine lv_iadd C.x C.b dX9_counts_120 ?_
            refine k_topi (y := nI ((kCnt (fun x9 => ¬ (nI b).toInt64 < (mRoot b8 b9 t N) x9) k) + (if ¬ (nI b).toInt64 < (mRoot b8 b9 t N) k then 1 else 0))) (nI_add _ _) ?_
            refine lv_istore_n (lv' := [(3, .int (nI ((kCnt (fun x9 => ¬ (nI b).toInt64 < (mRoot b8 b9 t N) x9) k) + (if ¬ (nI b).toInt64 < (mRoot b8 b9 t N) k then 1 else 0)))), (4, .int (nI k)), (0, .ref h), (1, .int (nI t)), (2, .int (nI b))]) C.x C.b dX9_counts_121 rfl hl (by decide) rfl (fun ls hl => ?_)
            refine lv_iinc (v := (nI (k + 1))) (lv' := [(4, .int (nI (k + 1))), (3, .int (nI ((kCnt (fun x9 => ¬ (nI b).toInt64 < (mRoot b8 b9 t N) x9) k) + (if ¬ (nI b).toInt64 < (mRoot b8 b9 t N) k then 1 else 0)))), (0, .ref h), (1, .int (nI t)), (2, .int (nI b))]) C.x C.b dX9_counts_122 hl (k := 1) rfl (nI_1 _) (by decide) rfl (fun ls hl => ?_)
            refine lv_goto (tgt := 81) C.x C.b dX9_counts_125 (by decide) ?_
            exact ih81 (k + 1) (by omega) (by omega) ls (lv_sub hl [1, 0, 2, 3, 4] rfl) _ hM hO _ _ hX
          refine k_lcmp_gt (tgt := 119) C.x C.b dX9_counts_111 dX9_counts_112 (by decide) (fun c_112 => ?_) (fun c_112 => ?_)
          · skip
            refine lv_iconst (v := nI 0) C.x C.b dX9_counts_119 (by decide) ?_
            refine k_topi (y := (nI (if ¬ (nI b).toInt64 < (mRoot b8 b9 t N) k then 1 else 0))) (by first | (rw [if_neg (fun z => z c_112)]; done) | (rw [if_pos c_112]; done)) ?_
            exact J120 ls (lv_sub hl [0, 1, 2, 3, 4] rfl) _ _ hX
          · skip
            refine lv_iconst (v := nI 1) C.x C.b dX9_counts_115 (by decide) ?_
            refine lv_goto (tgt := 120) C.x C.b dX9_counts_116 (by decide) ?_
            refine k_topi (y := (nI (if ¬ (nI b).toInt64 < (mRoot b8 b9 t N) k then 1 else 0))) (by first | (rw [if_neg (fun z => z c_112)]; done) | (rw [if_pos c_112]; done)) ?_
            exact J120 ls (lv_sub hl [0, 1, 2, 3, 4] rfl) _ _ hX
    exact LOOP81 _ 0 (by omega) (Nat.lt_succ_self _) ls (lv_sub hl [1, 0, 2, 3, 4] rfl) _ hM hO _ _ hX
  · skip
    exact absurd hx c_56
