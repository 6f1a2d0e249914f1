theorem fb_rng0 (x : Int32) : -2147483648 ≤ x.toInt ∧ x.toInt < 2147483648 := ⟨Int32.le_toInt x, Int32.toInt_lt x⟩
abbrev mTd (a : Int32) : Prop := mRg a (-1000) 1000
abbrev lrem (x y : Int64) : Int64 := x - x / y * y
abbrev mRest (x : Int64) (b : Nat) : Int32 := (lrem (lrem x (nI b).toInt64 + (nI b).toInt64) (nI b).toInt64).toInt32
def mFloor (x y : Int64) : Int64 := if x < 0 ∧ ¬ lrem x y = 0 then x / y - 1 else x / y
def mAbs (x : Int64) : Int64 := if x < 0 then -x else x
def mEu (x y : Int64) : Nat → Int64 × Int64
  | 0 => (x, y)
  | n + 1 => ((mEu x y n).2, lrem (mEu x y n).1 (mEu x y n).2)
theorem mEu_s (x y : Int64) : ∀ n, mEu x y (n + 1) = mEu y (lrem x y) n
  | 0 => rfl
  | n + 1 => by
    have h := mEu_s x y n
    show ((mEu x y (n + 1)).2, lrem (mEu x y (n + 1)).1 (mEu x y (n + 1)).2) = _
    rw [h]
    rfl
theorem mEu_gcd : ∀ (b a : Nat), a < 2 ^ 63 → b < 2 ^ 63 → ∃ N, (∀ i, i < N → ¬ (mEu (lN a) (lN b) i).2 = 0) ∧ mEu (lN a) (lN b) N = (lN (Nat.gcd a b), 0) := by
  intro b
  induction b using Nat.strongRecOn with
  | _ b ih =>
    intro a ha hb
    rcases Nat.eq_zero_or_pos b with h0 | h0
    · subst h0
      exact ⟨0, fun i hi => absurd hi (Nat.not_lt_zero _), by simp [mEu]; rfl⟩
    · have hr : lrem (lN a) (lN b) = lN (a % b) := pk_lRem ha h0 hb
      obtain ⟨N, h1, h2⟩ := ih (a % b) (Nat.mod_lt _ h0) b hb (Nat.lt_trans (Nat.mod_lt _ h0) hb)
      refine ⟨N + 1, fun i hi => ?_, ?_⟩
      · cases i with
        | zero =>
          intro q
          have := (pk_lEQ (b := 0) hb (by omega)).mp q
          omega
        | succ i => rw [mEu_s, hr]; exact h1 i (by omega)
      · rw [mEu_s, hr, h2, Nat.gcd_comm a b, Nat.gcd_comm b (a % b), ← Nat.gcd_rec]
theorem mAbs_at (p : Int32) : mAbs p.toInt64 = lN p.toInt.natAbs := by
  have h1 := fb_rng0 p
  apply Int64.toInt_inj.mp
  unfold mAbs
  rw [pk_lT (by omega)]
  split
  · rename_i h
    rw [Int64.lt_iff_toInt_lt, Int32.toInt_toInt64, show (0 : Int64).toInt = 0 from rfl] at h
    rw [Int64.toInt_neg, Int32.toInt_toInt64, Int.bmod_eq_of_le] <;> omega
  · rename_i h
    rw [Int64.lt_iff_toInt_lt, Int32.toInt_toInt64, show (0 : Int64).toInt = 0 from rfl] at h
    rw [Int32.toInt_toInt64]; omega
theorem mGcd_at (p q : Int32) : ∃ N, (∀ i, i < N → ¬ (mEu (mAbs p.toInt64) (mAbs q.toInt64) i).2 = 0) ∧ mEu (mAbs p.toInt64) (mAbs q.toInt64) N = (lN (Nat.gcd p.toInt.natAbs q.toInt.natAbs), 0) := by
  rw [mAbs_at, mAbs_at]
  have h1 := fb_rng0 p
  have h2 := fb_rng0 q
  exact mEu_gcd _ _ (by omega) (by omega)
abbrev mFr (p q : Int32) (lo : Int) : Prop := mRg p (-1000000000) 1000000000 ∧ mRg q lo 1000000000 ∧ Nat.gcd p.toInt.natAbs q.toInt.natAbs = 1
abbrev mCross (p q r s : Int32) : Int64 := p.toInt64 * s.toInt64 - q.toInt64 * r.toInt64
def mFord (x : Int64) : Int32 := if x = 0 then nI 2 else if x = 1 ∨ x = -1 then nI 1 else nI 0
theorem mGcd_1 {n : Nat} (h : n < 2 ^ 63) : lN n = 1 ↔ n = 1 := pk_lEQ (b := 1) h (by omega)
theorem mGcd_lt (p q : Int32) : Nat.gcd p.toInt.natAbs q.toInt.natAbs < 2 ^ 63 := by
  have h1 := fb_rng0 p
  have h2 := fb_rng0 q
  rcases Nat.eq_zero_or_pos p.toInt.natAbs with h0 | h0
  · rw [h0, Nat.gcd_zero_left]; omega
  · have := Nat.gcd_le_left q.toInt.natAbs h0
    omega
def mCopy (g src : Nat → Int64) (off : Nat) : Nat → Nat → Int64
  | 0 => g
  | n + 1 => vp_updL (mCopy g src off n) n (src (off + n))
abbrev mTl (a b c d : Int32) : Prop := mTd a ∧ mTd b ∧ mTd c ∧ mTd d ∧ a * d - b * c = nI 1
abbrev mRl (x : Int64) : Prop := (-1000000000) ≤ x ∧ x ≤ 1000000000
theorem vp_selfL (g : Nat → Int64) (k : Nat) : vp_updL g k (g k) = g := by
  funext j
  unfold vp_updL
  split
  · rename_i h; rw [h]
  · rfl
def mKind (W : Nat → Int64) : Nat := if W 1 = 0 ∧ W 2 = 0 ∧ W 0 = W 3 then 0 else if (-1) ≤ W 0 + W 3 ∧ W 0 + W 3 ≤ 1 then 1 else if (-2) ≤ W 0 + W 3 ∧ W 0 + W 3 ≤ 2 then 2 else 3
abbrev mTop (W : Nat → Int64) (p q : Int32) : Int64 := W 0 * p.toInt64 + W 1 * q.toInt64
abbrev mBot (W : Nat → Int64) (p q : Int32) : Int64 := W 2 * p.toInt64 + W 3 * q.toInt64
abbrev mTurn (W : Nat → Int64) (p q : Int32) : Prop := mBot W p q < 0 ∨ mBot W p q = 0 ∧ mTop W p q < 0
def mHome (W : Nat → Int64) : Nat → Nat → Int64
  | 0 => W
  | k + 1 => vp_updL (mHome W k) k (if k % 3 = 0 then 1 else 0)

theorem lk_X9_isCurve_c131 : Cond.constantLong RX9 131 (-1000000) ∈ wsX9_isCurve := by decide +kernel
theorem lk_X9_isCurve_c133 : Cond.constantLong RX9 133 (1000000) ∈ wsX9_isCurve := by decide +kernel
theorem hdX9_isCurve_X9_isIn : yX9_isIn.cls ≠ "java/lang/invoke/MethodHandle" ∧ yX9_isIn.cls ≠ "java/lang/invoke/VarHandle" ∧ (parseMethodDescriptor yX9_isIn.desc).map (fun d => d.parameters.length) = some 3 := by decide +kernel
abbrev rmX9_isCurve : Room := { frames := 1, cells := 0, slots := 0, locals := 25 }
set_option maxHeartbeats 4000000 in
set_option maxRecDepth 100000 in
/-- X9_isCurve -/
theorem kX9_isCurve (l : Launch) (G : kG) (B0 : Nat) (f : kH) (a : Int32) : Met l yX9_isCurve wsX9_isCurve (rmX9_isCurve) (kP G B0 f [.int a]) (kQi G B0 (fun r f1 => r = kbI (mCv a) ∧ f1 = f)) 0 0 (kAb B0) := by
  refine kMet (cc := cX9_isCurve) (maxL := 1) (ret := (some .boolean)) (by decide) rfl (Nat.le_of_ble_eq_true rfl) ?_
  intro p e s m args below meth c H locs Q ls C hX hl hr hlocks hnm hQ
  have hl : lv_has ls 1 [(0, .int a)] := hl
  refine lv_iload_n C.x C.b dX9_isCurve_0 rfl (lv_at hl 0 rfl) ?_
  refine lv_i2l (v := a.toInt64) C.x C.b dX9_isCurve_1 rfl ?_
  refine lv_ldc2 (v := -1000000) C.x C.b C.ow (C.ts _ lk_X9_isCurve_c131) dX9_isCurve_2 ?_
  refine lv_ldc2 (v := 1000000) C.x C.b C.ow (C.ts _ lk_X9_isCurve_c133) dX9_isCurve_5 ?_
  refine k_calli (va_runS (As := [.long a.toInt64, .long (-1000000), .long 1000000]) (rest := []) C.1 (kX9_isIn l G B0 f a.toInt64 (-1000000) 1000000) (va_cwS 3 C.ts gX9_isCurve_X9_isIn rfl rfl rfl (hdX9_isCurve_X9_isIn) ⟨Nat.le_of_ble_eq_true rfl, Nat.le_of_ble_eq_true rfl⟩) (k_preS C hX) rfl rfl hl.1 rfl (lv_room (Nat.le_of_ble_eq_true rfl)) dX9_isCurve_8 ⟨Nat.le_of_ble_eq_true rfl, Nat.le_of_ble_eq_true rfl⟩) hX (fun r8 f8 H locs hp8 hX => ?_)
  obtain ⟨hr8, hf8⟩ := hp8
  rw [hf8] at hX
  refine k_topi (y := (kbI (((-1000000) : Int64) ≤ a.toInt64 ∧ a.toInt64 ≤ 1000000))) hr8 ?_
  refine k_topi (y := (kbI (mRg a (-1000000) 1000000))) (kbI_c (m_rg (by decide) (by decide))) ?_
  exact k_zret C hX hr hlocks hQ (by omega) (by omega) (by first | exact kbI_01 _ | exact Or.inl rfl | exact Or.inr rfl) (⟨rfl, rfl⟩) dX9_isCurve_11

theorem lk_X9_isTold_c197 : Cond.constantLong RX9 197 (-1000) ∈ wsX9_isTold := by decide +kernel
theorem lk_X9_isTold_c159 : Cond.constantLong RX9 159 (1000) ∈ wsX9_isTold := by decide +kernel
theorem hdX9_isTold_X9_isIn : yX9_isIn.cls ≠ "java/lang/invoke/MethodHandle" ∧ yX9_isIn.cls ≠ "java/lang/invoke/VarHandle" ∧ (parseMethodDescriptor yX9_isIn.desc).map (fun d => d.parameters.length) = some 3 := by decide +kernel
abbrev rmX9_isTold : Room := { frames := 1, cells := 0, slots := 0, locals := 25 }
set_option maxHeartbeats 4000000 in
set_option maxRecDepth 100000 in
/-- X9_isTold -/
theorem kX9_isTold (l : Launch) (G : kG) (B0 : Nat) (f : kH) (a : Int32) : Met l yX9_isTold wsX9_isTold (rmX9_isTold) (kP G B0 f [.int a]) (kQi G B0 (fun r f1 => r = kbI (mTd a) ∧ f1 = f)) 0 0 (kAb B0) := by
  refine kMet (cc := cX9_isTold) (maxL := 1) (ret := (some .boolean)) (by decide) rfl (Nat.le_of_ble_eq_true rfl) ?_
  intro p e s m args below meth c H locs Q ls C hX hl hr hlocks hnm hQ
  have hl : lv_has ls 1 [(0, .int a)] := hl
  refine lv_iload_n C.x C.b dX9_isTold_0 rfl (lv_at hl 0 rfl) ?_
  refine lv_i2l (v := a.toInt64) C.x C.b dX9_isTold_1 rfl ?_
  refine lv_ldc2 (v := -1000) C.x C.b C.ow (C.ts _ lk_X9_isTold_c197) dX9_isTold_2 ?_
  refine lv_ldc2 (v := 1000) C.x C.b C.ow (C.ts _ lk_X9_isTold_c159) dX9_isTold_5 ?_
  refine k_calli (va_runS (As := [.long a.toInt64, .long (-1000), .long 1000]) (rest := []) C.1 (kX9_isIn l G B0 f a.toInt64 (-1000) 1000) (va_cwS 3 C.ts gX9_isTold_X9_isIn rfl rfl rfl (hdX9_isTold_X9_isIn) ⟨Nat.le_of_ble_eq_true rfl, Nat.le_of_ble_eq_true rfl⟩) (k_preS C hX) rfl rfl hl.1 rfl (lv_room (Nat.le_of_ble_eq_true rfl)) dX9_isTold_8 ⟨Nat.le_of_ble_eq_true rfl, Nat.le_of_ble_eq_true rfl⟩) hX (fun r8 f8 H locs hp8 hX => ?_)
  obtain ⟨hr8, hf8⟩ := hp8
  rw [hf8] at hX
  refine k_topi (y := (kbI (((-1000) : Int64) ≤ a.toInt64 ∧ a.toInt64 ≤ 1000))) hr8 ?_
  refine k_topi (y := (kbI (mRg a (-1000) 1000))) (kbI_c (m_rg (by decide) (by decide))) ?_
  exact k_zret C hX hr hlocks hQ (by omega) (by omega) (by first | exact kbI_01 _ | exact Or.inl rfl | exact Or.inr rfl) (⟨rfl, rfl⟩) dX9_isTold_11

theorem lk_X9_thrown_f80 : Cond.fieldLink RX9 80 "KoebehallModel" "thrown" "I" ∈ wsX9_thrown := by decide +kernel
theorem hin_X9_thrown_RX9 : ∀ w ∈ u_ws RX9 TX9 28, w ∈ wsX9_thrown := by decide +kernel
abbrev rmX9_thrown : Room := { frames := 0, cells := 0, slots := 0, locals := 0 }
set_option maxHeartbeats 4000000 in
set_option maxRecDepth 100000 in
/-- X9_thrown -/
theorem kX9_thrown (l : Launch) (G : kG) (B0 : Nat) (f : kH) (h : Nat) (q : Nat → Nat) (i0 i1 i3 i7 i18 i22 i23 i27 : Int32) (j16 j17 : Int64) (a2 : Nat → Int32) (a4 : Nat → Int32) (a5 : Nat → Int32) (a6 : Nat → Int32) (b8 : Nat → Int64) (b9 : Nat → Int64) (b10 : Nat → Int64) (a11 : Nat → Int32) (a12 : Nat → Int32) (a13 : Nat → Int32) (a14 : Nat → Int32) (b15 : Nat → Int64) (b19 : Nat → Int64) (b20 : Nat → Int64) (b21 : Nat → Int64) (a24 : Nat → Int32) (a25 : Nat → Int32) (a26 : Nat → Int32) (hM : kCs f (mC G h q i0 i1 i3 i7 i18 i22 i23 i27 j16 j17 a2 a4 a5 a6 b8 b9 b10 a11 a12 a13 a14 b15 b19 b20 b21 a24 a25 a26)) : Met l yX9_thrown wsX9_thrown (rmX9_thrown) (kP G B0 f [.ref h]) (kQi G B0 (fun r f1 => r = i27 ∧ f1 = f)) 0 0 (kAb B0) := by
  refine kMet (cc := cX9_thrown) (maxL := 1) (ret := (some .int)) (by decide) rfl (Nat.le_of_ble_eq_true rfl) ?_
  intro p e s m args below meth c H locs Q ls C hX hl hr hlocks hnm hQ
  have hl : lv_has ls 1 [(0, .ref h)] := hl
  refine lv_aload_n C.x C.b dX9_thrown_0 rfl (lv_at hl 0 rfl) ?_
  refine k_get (X := RX9) (T := TX9) (N := 28) (v := .int i27) C hX (hM.at 0 rfl) rfl hin_X9_thrown_RX9 27 (by decide) lk_X9_thrown_f80 (fun _ h9 => h9) rfl dX9_thrown_1 ?_
  exact k_iret C hX hr hlocks hQ (by omega) (by omega) (⟨rfl, rfl⟩) dX9_thrown_4

theorem hdX9_gasket_X9_isCurve : yX9_isCurve.cls ≠ "java/lang/invoke/MethodHandle" ∧ yX9_isCurve.cls ≠ "java/lang/invoke/VarHandle" ∧ (parseMethodDescriptor yX9_isCurve.desc).map (fun d => d.parameters.length) = some 1 := by decide +kernel
theorem lk_X9_gasket_f80 : Cond.fieldLink RX9 80 "KoebehallModel" "thrown" "I" ∈ wsX9_gasket := by decide +kernel
theorem hin_X9_gasket_RX9 : ∀ w ∈ u_ws RX9 TX9 28, w ∈ wsX9_gasket := by decide +kernel
theorem lk_X9_gasket_c109 : Cond.constantLong RX9 109 (2) ∈ wsX9_gasket := by decide +kernel
abbrev rmX9_gasket_b1 : Room := { frames := 2, cells := 0, slots := 0, locals := 45 }
set_option maxHeartbeats 4000000 in
set_option maxRecDepth 100000 in
/-- X9_gasket_b1 -/
theorem kX9_gasket_b1 (l : Launch) (G : kG) (B0 : Nat) (f : kH) (h : Nat) (q : Nat → Nat) (i0 i1 i3 i7 i18 i22 i23 i27 : Int32) (j16 j17 : Int64) (a2 : Nat → Int32) (a4 : Nat → Int32) (a5 : Nat → Int32) (a6 : Nat → Int32) (b8 : Nat → Int64) (b9 : Nat → Int64) (b10 : Nat → Int64) (a11 : Nat → Int32) (a12 : Nat → Int32) (a13 : Nat → Int32) (a14 : Nat → Int32) (b15 : Nat → Int64) (b19 : Nat → Int64) (b20 : Nat → Int64) (b21 : Nat → Int64) (a24 : Nat → Int32) (a25 : Nat → Int32) (a26 : Nat → Int32) (a b c9 e9 : Int32) (g9 : Nat) (hM : kCs f (mC G h q i0 i1 i3 i7 i18 i22 i23 i27 j16 j17 a2 a4 a5 a6 b8 b9 b10 a11 a12 a13 a14 b15 b19 b20 b21 a24 a25 a26)) (hg0 : i7 = nI g9) (hg9 : g9 ≤ 8) (hv : ¬ mGk a b c9 e9) : Met l yX9_gasket wsX9_gasket (rmX9_gasket_b1) (kP G B0 f [.ref h, .int a, .int b, .int c9, .int e9]) (kQi G B0 (fun r f1 => r = nI 0 ∧ kCs f1 (mC G h q i0 i1 i3 i7 i18 i22 i23 (nI 1) j16 j17 a2 a4 a5 a6 b8 b9 b10 a11 a12 a13 a14 b15 b19 b20 b21 a24 a25 a26) ∧ kOff (mAs h q) f f1)) 0 0 (kAb B0) := by
  refine kMet (cc := cX9_gasket) (maxL := 10) (ret := (some .int)) (by decide) rfl (Nat.le_of_ble_eq_true rfl) ?_
  intro p e s m args below meth c H locs Q ls C hX hl hr hlocks hnm hQ
  have hO : kOff (mAs h q) f f := kOff.rf
  have hl : lv_has ls 10 [(0, .ref h), (1, .int a), (2, .int b), (3, .int c9), (4, .int e9)] := hl
  refine lv_iload_n C.x C.b dX9_gasket_0 rfl (lv_at hl 1 rfl) ?_
  refine lv_i2l (v := a.toInt64) C.x C.b dX9_gasket_1 rfl ?_
  refine lv_iload_n C.x C.b dX9_gasket_2 rfl (lv_at hl 2 rfl) ?_
  refine lv_i2l (v := b.toInt64) C.x C.b dX9_gasket_3 rfl ?_
  refine lv_ladd C.x C.b dX9_gasket_4 ?_
  refine lv_iload_n C.x C.b dX9_gasket_5 rfl (lv_at hl 3 rfl) ?_
  refine lv_i2l (v := c9.toInt64) C.x C.b dX9_gasket_6 rfl ?_
  refine lv_ladd C.x C.b dX9_gasket_7 ?_
  refine lv_iload C.x C.b dX9_gasket_8 (lv_at hl 4 rfl) ?_
  refine lv_i2l (v := e9.toInt64) C.x C.b dX9_gasket_10 rfl ?_
  refine lv_ladd C.x C.b dX9_gasket_11 ?_
  refine lv_lstore (lv' := [(5, .long (((a.toInt64 + b.toInt64) + c9.toInt64) + e9.toInt64)), (0, .ref h), (1, .int a), (2, .int b), (3, .int c9), (4, .int e9)]) C.x C.b dX9_gasket_12 hl (by decide) rfl (fun ls hl => ?_)
  refine lv_iload_n C.x C.b dX9_gasket_14 rfl (lv_at hl 2 rfl) ?_
  refine lv_i2l (v := a.toInt64) C.x C.b dX9_gasket_15 rfl ?_
  refine lv_iload_n C.x C.b dX9_gasket_16 rfl (lv_at hl 2 rfl) ?_
  refine lv_i2l (v := a.toInt64) C.x C.b dX9_gasket_17 rfl ?_
  refine lv_lmul C.x C.b dX9_gasket_18 ?_
  refine lv_iload_n C.x C.b dX9_gasket_19 rfl (lv_at hl 3 rfl) ?_
  refine lv_i2l (v := b.toInt64) C.x C.b dX9_gasket_20 rfl ?_
  refine lv_iload_n C.x C.b dX9_gasket_21 rfl (lv_at hl 3 rfl) ?_
  refine lv_i2l (v := b.toInt64) C.x C.b dX9_gasket_22 rfl ?_
  refine lv_lmul C.x C.b dX9_gasket_23 ?_
  refine lv_ladd C.x C.b dX9_gasket_24 ?_
  refine lv_iload_n C.x C.b dX9_gasket_25 rfl (lv_at hl 4 rfl) ?_
  refine lv_i2l (v := c9.toInt64) C.x C.b dX9_gasket_26 rfl ?_
  refine lv_iload_n C.x C.b dX9_gasket_27 rfl (lv_at hl 4 rfl) ?_
  refine lv_i2l (v := c9.toInt64) C.x C.b dX9_gasket_28 rfl ?_
  refine lv_lmul C.x C.b dX9_gasket_29 ?_
  refine lv_ladd C.x C.b dX9_gasket_30 ?_
  refine lv_iload C.x C.b dX9_gasket_31 (lv_at hl 5 rfl) ?_
  refine lv_i2l (v := e9.toInt64) C.x C.b dX9_gasket_33 rfl ?_
  refine lv_iload C.x C.b dX9_gasket_34 (lv_at hl 5 rfl) ?_
  refine lv_i2l (v := e9.toInt64) C.x C.b dX9_gasket_36 rfl ?_
  refine lv_lmul C.x C.b dX9_gasket_37 ?_
  refine lv_ladd C.x C.b dX9_gasket_38 ?_
  refine lv_lstore (lv' := [(7, .long ((((a.toInt64 * a.toInt64) + (b.toInt64 * b.toInt64)) + (c9.toInt64 * c9.toInt64)) + (e9.toInt64 * e9.toInt64))), (5, .long (((a.toInt64 + b.toInt64) + c9.toInt64) + e9.toInt64)), (0, .ref h), (1, .int a), (2, .int b), (3, .int c9), (4, .int e9)]) C.x C.b dX9_gasket_39 hl (by decide) rfl (fun ls hl => ?_)
  refine lv_iload_n C.x C.b dX9_gasket_41 rfl (lv_at hl 3 rfl) ?_
  refine k_calli (va_runS (As := [.int a]) (rest := []) C.1 (kX9_isCurve l G B0 f a) (va_cwS 1 C.ts gX9_gasket_X9_isCurve rfl rfl rfl (hdX9_gasket_X9_isCurve) ⟨Nat.le_of_ble_eq_true rfl, Nat.le_of_ble_eq_true rfl⟩) (k_preS C hX) rfl rfl hl.1 rfl (lv_room (Nat.le_of_ble_eq_true rfl)) dX9_gasket_42 ⟨Nat.le_of_ble_eq_true rfl, Nat.le_of_ble_eq_true rfl⟩) hX (fun r42 f42 H locs hp42 hX => ?_)
  obtain ⟨hr42, hf42⟩ := hp42
  rw [hf42] at hX
  refine k_topi (y := (kbI (mCv a))) hr42 ?_
  have J97 : ∀ (ls : Array Slot), lv_has ls 10 [(7, .long ((((a.toInt64 * a.toInt64) + (b.toInt64 * b.toInt64)) + (c9.toInt64 * c9.toInt64)) + (e9.toInt64 * e9.toInt64))), (5, .long (((a.toInt64 + b.toInt64) + c9.toInt64) + e9.toInt64)), (0, .ref h), (1, .int a), (2, .int b), (3, .int c9), (4, .int e9)] → ∀ (H : Heap) (locs : List Loc), kX G B0 s f H locs → W p l e (rmX9_gasket_b1) s m args below meth c H locs 0 0 Q (F0 m 97 ls [.int (kbI (mGk a b c9 e9))]) := by
    intro ls hl H locs hX
    refine lv_istore (lv' := [(9, .int (kbI (mGk a b c9 e9))), (7, .long ((((a.toInt64 * a.toInt64) + (b.toInt64 * b.toInt64)) + (c9.toInt64 * c9.toInt64)) + (e9.toInt64 * e9.toInt64))), (5, .long (((a.toInt64 + b.toInt64) + c9.toInt64) + e9.toInt64)), (0, .ref h), (1, .int a), (2, .int b), (3, .int c9), (4, .int e9)]) C.x C.b dX9_gasket_97 hl (by decide) rfl (fun ls hl => ?_)
    refine lv_aload_n C.x C.b dX9_gasket_99 rfl (lv_at hl 3 rfl) ?_
    refine lv_iload C.x C.b dX9_gasket_100 (lv_at hl 0 rfl) ?_
    refine lv_if_ne (tgt := 109) C.x C.b dX9_gasket_102 (by decide) (fun c_102 => ?_) (fun c_102 => ?_)
    · exact absurd (kbI_1 c_102) (hv)
    refine lv_iconst (v := nI 1) C.x C.b dX9_gasket_105 (by decide) ?_
    refine lv_goto (tgt := 123) C.x C.b dX9_gasket_106 (by decide) ?_
    refine k_put (X := RX9) (T := TX9) (N := 28) (ty := .int) (v := .int (nI 1)) C hX (hM.at 0 rfl) rfl hin_X9_gasket_RX9 tyX9_ok nmX9 27 (by decide) lk_X9_gasket_f80 (fun _ h9 => h9) rfl (by decide +kernel) rfl rfl (Nat.le_of_ble_eq_true rfl) dX9_gasket_123 (fun H locs hX => ?_)
    obtain ⟨g1, hX, hM, hO⟩ := kX.wr hX hM hO 0 rfl (List.mem_of_getElem? (i := 0) rfl)
    have hM : kCs g1 (mC G h q i0 i1 i3 i7 i18 i22 i23 (nI 1) j16 j17 a2 a4 a5 a6 b8 b9 b10 a11 a12 a13 a14 b15 b19 b20 b21 a24 a25 a26) := hM
    refine lv_aload_n C.x C.b dX9_gasket_126 rfl (lv_at hl 3 rfl) ?_
    refine k_get (X := RX9) (T := TX9) (N := 28) (v := .int (nI 1)) C hX (hM.at 0 rfl) rfl hin_X9_gasket_RX9 27 (by decide) lk_X9_gasket_f80 (fun _ h9 => h9) rfl dX9_gasket_127 ?_
    refine lv_if_le (tgt := 135) C.x C.b dX9_gasket_130 (by decide) (fun c_130 => ?_) (fun c_130 => ?_)
    · exact absurd c_130 (by decide)
    refine lv_iconst (v := nI 0) C.x C.b dX9_gasket_133 (by decide) ?_
    exact k_iret C hX hr hlocks hQ (by omega) (by omega) (⟨rfl, hM, hO⟩) dX9_gasket_134
  refine lv_if_eq (tgt := 96) C.x C.b dX9_gasket_45 (by decide) (fun c_45 => ?_) (fun c_45 => ?_)
  · skip
    have c_45 := kbI_0 c_45
    refine lv_iconst (v := nI 0) C.x C.b dX9_gasket_96 (by decide) ?_
    refine k_topi (y := (kbI (mGk a b c9 e9))) (by first | exact kbI_tN ⟨c_45, c_52, c_59, c_67, c_82, c_89⟩ | exact kbI_fN (fun z => c_45 z.1) | exact kbI_fN (fun z => c_52 z.2.1) | exact kbI_fN (fun z => c_59 z.2.2.1) | exact kbI_fN (fun z => c_67 z.2.2.2.1) | exact kbI_fN (fun z => c_82 z.2.2.2.2.1) | exact kbI_fN (fun z => c_89 z.2.2.2.2.2)) ?_
    exact J97 ls (lv_sub hl [0, 1, 2, 3, 4, 5, 6] rfl) _ _ hX
  · skip
    have c_45 := kbI_1 c_45
    refine lv_iload_n C.x C.b dX9_gasket_48 rfl (lv_at hl 4 rfl) ?_
    refine k_calli (va_runS (As := [.int b]) (rest := []) C.1 (kX9_isCurve l G B0 f b) (va_cwS 1 C.ts gX9_gasket_X9_isCurve rfl rfl rfl (hdX9_gasket_X9_isCurve) ⟨Nat.le_of_ble_eq_true rfl, Nat.le_of_ble_eq_true rfl⟩) (k_preS C hX) rfl rfl hl.1 rfl (lv_room (Nat.le_of_ble_eq_true rfl)) dX9_gasket_49 ⟨Nat.le_of_ble_eq_true rfl, Nat.le_of_ble_eq_true rfl⟩) hX (fun r49 f49 H locs hp49 hX => ?_)
    obtain ⟨hr49, hf49⟩ := hp49
    rw [hf49] at hX
    refine k_topi (y := (kbI (mCv b))) hr49 ?_
    refine lv_if_eq (tgt := 96) C.x C.b dX9_gasket_52 (by decide) (fun c_52 => ?_) (fun c_52 => ?_)
    · skip
      have c_52 := kbI_0 c_52
      refine lv_iconst (v := nI 0) C.x C.b dX9_gasket_96 (by decide) ?_
      refine k_topi (y := (kbI (mGk a b c9 e9))) (by first | exact kbI_tN ⟨c_45, c_52, c_59, c_67, c_82, c_89⟩ | exact kbI_fN (fun z => c_45 z.1) | exact kbI_fN (fun z => c_52 z.2.1) | exact kbI_fN (fun z => c_59 z.2.2.1) | exact kbI_fN (fun z => c_67 z.2.2.2.1) | exact kbI_fN (fun z => c_82 z.2.2.2.2.1) | exact kbI_fN (fun z => c_89 z.2.2.2.2.2)) ?_
      exact J97 ls (lv_sub hl [0, 1, 2, 3, 4, 5, 6] rfl) _ _ hX
    · skip
      have c_52 := kbI_1 c_52
      refine lv_iload_n C.x C.b dX9_gasket_55 rfl (lv_at hl 5 rfl) ?_
      refine k_calli (va_runS (As := [.int c9]) (rest := []) C.1 (kX9_isCurve l G B0 f c9) (va_cwS 1 C.ts gX9_gasket_X9_isCurve rfl rfl rfl (hdX9_gasket_X9_isCurve) ⟨Nat.le_of_ble_eq_true rfl, Nat.le_of_ble_eq_true rfl⟩) (k_preS C hX) rfl rfl hl.1 rfl (lv_room (Nat.le_of_ble_eq_true rfl)) dX9_gasket_56 ⟨Nat.le_of_ble_eq_true rfl, Nat.le_of_ble_eq_true rfl⟩) hX (fun r56 f56 H locs hp56 hX => ?_)
      obtain ⟨hr56, hf56⟩ := hp56
      rw [hf56] at hX
      refine k_topi (y := (kbI (mCv c9))) hr56 ?_
      refine lv_if_eq (tgt := 96) C.x C.b dX9_gasket_59 (by decide) (fun c_59 => ?_) (fun c_59 => ?_)
      · skip
        have c_59 := kbI_0 c_59
        refine lv_iconst (v := nI 0) C.x C.b dX9_gasket_96 (by decide) ?_
        refine k_topi (y := (kbI (mGk a b c9 e9))) (by first | exact kbI_tN ⟨c_45, c_52, c_59, c_67, c_82, c_89⟩ | exact kbI_fN (fun z => c_45 z.1) | exact kbI_fN (fun z => c_52 z.2.1) | exact kbI_fN (fun z => c_59 z.2.2.1) | exact kbI_fN (fun z => c_67 z.2.2.2.1) | exact kbI_fN (fun z => c_82 z.2.2.2.2.1) | exact kbI_fN (fun z => c_89 z.2.2.2.2.2)) ?_
        exact J97 ls (lv_sub hl [0, 1, 2, 3, 4, 5, 6] rfl) _ _ hX
      · skip
        have c_59 := kbI_1 c_59
        refine lv_iload C.x C.b dX9_gasket_62 (lv_at hl 6 rfl) ?_
        refine k_calli (va_runS (As := [.int e9]) (rest := []) C.1 (kX9_isCurve l G B0 f e9) (va_cwS 1 C.ts gX9_gasket_X9_isCurve rfl rfl rfl (hdX9_gasket_X9_isCurve) ⟨Nat.le_of_ble_eq_true rfl, Nat.le_of_ble_eq_true rfl⟩) (k_preS C hX) rfl rfl hl.1 rfl (lv_room (Nat.le_of_ble_eq_true rfl)) dX9_gasket_64 ⟨Nat.le_of_ble_eq_true rfl, Nat.le_of_ble_eq_true rfl⟩) hX (fun r64 f64 H locs hp64 hX => ?_)
        obtain ⟨hr64, hf64⟩ := hp64
        rw [hf64] at hX
        refine k_topi (y := (kbI (mCv e9))) hr64 ?_
        refine lv_if_eq (tgt := 96) C.x C.b dX9_gasket_67 (by decide) (fun c_67 => ?_) (fun c_67 => ?_)
        · skip
          have c_67 := kbI_0 c_67
          refine lv_iconst (v := nI 0) C.x C.b dX9_gasket_96 (by decide) ?_
          refine k_topi (y := (kbI (mGk a b c9 e9))) (by first | exact kbI_tN ⟨c_45, c_52, c_59, c_67, c_82, c_89⟩ | exact kbI_fN (fun z => c_45 z.1) | exact kbI_fN (fun z => c_52 z.2.1) | exact kbI_fN (fun z => c_59 z.2.2.1) | exact kbI_fN (fun z => c_67 z.2.2.2.1) | exact kbI_fN (fun z => c_82 z.2.2.2.2.1) | exact kbI_fN (fun z => c_89 z.2.2.2.2.2)) ?_
          exact J97 ls (lv_sub hl [0, 1, 2, 3, 4, 5, 6] rfl) _ _ hX
        · skip
          have c_67 := kbI_1 c_67
          refine lv_lload C.x C.b dX9_gasket_70 (lv_at hl 1 rfl) ?_
          refine lv_lload C.x C.b dX9_gasket_72 (lv_at hl 1 rfl) ?_
          refine lv_lmul C.x C.b dX9_gasket_74 ?_
          refine lv_ldc2 (v := 2) C.x C.b C.ow (C.ts _ lk_X9_gasket_c109) dX9_gasket_75 ?_
          refine lv_lload C.x C.b dX9_gasket_78 (lv_at hl 0 rfl) ?_
          refine lv_lmul C.x C.b dX9_gasket_80 ?_
          refine k_lcmp_ne (tgt := 96) C.x C.b dX9_gasket_81 dX9_gasket_82 (by decide) (fun c_82 => ?_) (fun c_82 => ?_)
          · skip
            refine lv_iconst (v := nI 0) C.x C.b dX9_gasket_96 (by decide) ?_
            refine k_topi (y := (kbI (mGk a b c9 e9))) (by first | exact kbI_tN ⟨c_45, c_52, c_59, c_67, c_82, c_89⟩ | exact kbI_fN (fun z => c_45 z.1) | exact kbI_fN (fun z => c_52 z.2.1) | exact kbI_fN (fun z => c_59 z.2.2.1) | exact kbI_fN (fun z => c_67 z.2.2.2.1) | exact kbI_fN (fun z => c_82 z.2.2.2.2.1) | exact kbI_fN (fun z => c_89 z.2.2.2.2.2)) ?_
            exact J97 ls (lv_sub hl [0, 1, 2, 3, 4, 5, 6] rfl) _ _ hX
          · skip
            refine lv_lload C.x C.b dX9_gasket_85 (lv_at hl 1 rfl) ?_
            refine lv_lconst (v := 0) C.x C.b dX9_gasket_87 (by decide) ?_
            refine k_lcmp_le (tgt := 96) C.x C.b dX9_gasket_88 dX9_gasket_89 (by decide) (fun c_89 => ?_) (fun c_89 => ?_)
            · skip
              refine lv_iconst (v := nI 0) C.x C.b dX9_gasket_96 (by decide) ?_
              refine k_topi (y := (kbI (mGk a b c9 e9))) (by first | exact kbI_tN ⟨c_45, c_52, c_59, c_67, c_82, c_89⟩ | exact kbI_fN (fun z => c_45 z.1) | exact kbI_fN (fun z => c_52 z.2.1) | exact kbI_fN (fun z => c_59 z.2.2.1) | exact kbI_fN (fun z => c_67 z.2.2.2.1) | exact kbI_fN (fun z => c_82 z.2.2.2.2.1) | exact kbI_fN (fun z => c_89 z.2.2.2.2.2)) ?_
              exact J97 ls (lv_sub hl [0, 1, 2, 3, 4, 5, 6] rfl) _ _ hX
            · skip
              refine lv_iconst (v := nI 1) C.x C.b dX9_gasket_92 (by decide) ?_
              refine lv_goto (tgt := 97) C.x C.b dX9_gasket_93 (by decide) ?_
              refine k_topi (y := (kbI (mGk a b c9 e9))) (by first | exact kbI_tN ⟨c_45, c_52, c_59, c_67, c_82, c_89⟩ | exact kbI_fN (fun z => c_45 z.1) | exact kbI_fN (fun z => c_52 z.2.1) | exact kbI_fN (fun z => c_59 z.2.2.1) | exact kbI_fN (fun z => c_67 z.2.2.2.1) | exact kbI_fN (fun z => c_82 z.2.2.2.2.1) | exact kbI_fN (fun z => c_89 z.2.2.2.2.2)) ?_
              exact J97 ls (lv_sub hl [0, 1, 2, 3, 4, 5, 6] rfl) _ _ hX

theorem lk_X9_gasket_f138 : Cond.fieldLink RX9 138 "KoebehallModel" "gaskets" "I" ∈ wsX9_gasket := by decide +kernel
abbrev rmX9_gasket_b2 : Room := { frames := 2, cells := 0, slots := 0, locals := 45 }
set_option maxHeartbeats 4000000 in
set_option maxRecDepth 100000 in
/-- X9_gasket_b2 -/
theorem kX9_gasket_b2 (l : Launch) (G : kG) (B0 : Nat) (f : kH) (h : Nat) (q : Nat → Nat) (i0 i1 i3 i7 i18 i22 i23 i27 : Int32) (j16 j17 : Int64) (a2 : Nat → Int32) (a4 : Nat → Int32) (a5 : Nat → Int32) (a6 : Nat → Int32) (b8 : Nat → Int64) (b9 : Nat → Int64) (b10 : Nat → Int64) (a11 : Nat → Int32) (a12 : Nat → Int32) (a13 : Nat → Int32) (a14 : Nat → Int32) (b15 : Nat → Int64) (b19 : Nat → Int64) (b20 : Nat → Int64) (b21 : Nat → Int64) (a24 : Nat → Int32) (a25 : Nat → Int32) (a26 : Nat → Int32) (a b c9 e9 : Int32) (g9 : Nat) (hM : kCs f (mC G h q i0 i1 i3 i7 i18 i22 i23 i27 j16 j17 a2 a4 a5 a6 b8 b9 b10 a11 a12 a13 a14 b15 b19 b20 b21 a24 a25 a26)) (hg0 : i7 = nI g9) (hg9 : g9 ≤ 8) (hv : mGk a b c9 e9) (h8 : g9 = 8) : Met l yX9_gasket wsX9_gasket (rmX9_gasket_b2) (kP G B0 f [.ref h, .int a, .int b, .int c9, .int e9]) (kQi G B0 (fun r f1 => r = nI 0 ∧ kCs f1 (mC G h q i0 i1 i3 i7 i18 i22 i23 (nI 2) j16 j17 a2 a4 a5 a6 b8 b9 b10 a11 a12 a13 a14 b15 b19 b20 b21 a24 a25 a26) ∧ kOff (mAs h q) f f1)) 0 0 (kAb B0) := by
  refine kMet (cc := cX9_gasket) (maxL := 10) (ret := (some .int)) (by decide) rfl (Nat.le_of_ble_eq_true rfl) ?_
  intro p e s m args below meth c H locs Q ls C hX hl hr hlocks hnm hQ
  have hO : kOff (mAs h q) f f := kOff.rf
  have hl : lv_has ls 10 [(0, .ref h), (1, .int a), (2, .int b), (3, .int c9), (4, .int e9)] := hl
  refine lv_iload_n C.x C.b dX9_gasket_0 rfl (lv_at hl 1 rfl) ?_
  refine lv_i2l (v := a.toInt64) C.x C.b dX9_gasket_1 rfl ?_
  refine lv_iload_n C.x C.b dX9_gasket_2 rfl (lv_at hl 2 rfl) ?_
  refine lv_i2l (v := b.toInt64) C.x C.b dX9_gasket_3 rfl ?_
  refine lv_ladd C.x C.b dX9_gasket_4 ?_
  refine lv_iload_n C.x C.b dX9_gasket_5 rfl (lv_at hl 3 rfl) ?_
  refine lv_i2l (v := c9.toInt64) C.x C.b dX9_gasket_6 rfl ?_
  refine lv_ladd C.x C.b dX9_gasket_7 ?_
  refine lv_iload C.x C.b dX9_gasket_8 (lv_at hl 4 rfl) ?_
  refine lv_i2l (v := e9.toInt64) C.x C.b dX9_gasket_10 rfl ?_
  refine lv_ladd C.x C.b dX9_gasket_11 ?_
  refine lv_lstore (lv' := [(5, .long (((a.toInt64 + b.toInt64) + c9.toInt64) + e9.toInt64)), (0, .ref h), (1, .int a), (2, .int b), (3, .int c9), (4, .int e9)]) C.x C.b dX9_gasket_12 hl (by decide) rfl (fun ls hl => ?_)
  refine lv_iload_n C.x C.b dX9_gasket_14 rfl (lv_at hl 2 rfl) ?_
  refine lv_i2l (v := a.toInt64) C.x C.b dX9_gasket_15 rfl ?_
  refine lv_iload_n C.x C.b dX9_gasket_16 rfl (lv_at hl 2 rfl) ?_
  refine lv_i2l (v := a.toInt64) C.x C.b dX9_gasket_17 rfl ?_
  refine lv_lmul C.x C.b dX9_gasket_18 ?_
  refine lv_iload_n C.x C.b dX9_gasket_19 rfl (lv_at hl 3 rfl) ?_
  refine lv_i2l (v := b.toInt64) C.x C.b dX9_gasket_20 rfl ?_
  refine lv_iload_n C.x C.b dX9_gasket_21 rfl (lv_at hl 3 rfl) ?_
  refine lv_i2l (v := b.toInt64) C.x C.b dX9_gasket_22 rfl ?_
  refine lv_lmul C.x C.b dX9_gasket_23 ?_
  refine lv_ladd C.x C.b dX9_gasket_24 ?_
  refine lv_iload_n C.x C.b dX9_gasket_25 rfl (lv_at hl 4 rfl) ?_
  refine lv_i2l (v := c9.toInt64) C.x C.b dX9_gasket_26 rfl ?_
  refine lv_iload_n C.x C.b dX9_gasket_27 rfl (lv_at hl 4 rfl) ?_
  refine lv_i2l (v := c9.toInt64) C.x C.b dX9_gasket_28 rfl ?_
  refine lv_lmul C.x C.b dX9_gasket_29 ?_
  refine lv_ladd C.x C.b dX9_gasket_30 ?_
  refine lv_iload C.x C.b dX9_gasket_31 (lv_at hl 5 rfl) ?_
  refine lv_i2l (v := e9.toInt64) C.x C.b dX9_gasket_33 rfl ?_
  refine lv_iload C.x C.b dX9_gasket_34 (lv_at hl 5 rfl) ?_
  refine lv_i2l (v := e9.toInt64) C.x C.b dX9_gasket_36 rfl ?_
  refine lv_lmul C.x C.b dX9_gasket_37 ?_
  refine lv_ladd C.x C.b dX9_gasket_38 ?_
  refine lv_lstore (lv' := [(7, .long ((((a.toInt64 * a.toInt64) + (b.toInt64 * b.toInt64)) + (c9.toInt64 * c9.toInt64)) + (e9.toInt64 * e9.toInt64))), (5, .long (((a.toInt64 + b.toInt64) + c9.toInt64) + e9.toInt64)), (0, .ref h), (1, .int a), (2, .int b), (3, .int c9), (4, .int e9)]) C.x C.b dX9_gasket_39 hl (by decide) rfl (fun ls hl => ?_)
  refine lv_iload_n C.x C.b dX9_gasket_41 rfl (lv_at hl 3 rfl) ?_
  refine k_calli (va_runS (As := [.int a]) (rest := []) C.1 (kX9_isCurve l G B0 f a) (va_cwS 1 C.ts gX9_gasket_X9_isCurve rfl rfl rfl (hdX9_gasket_X9_isCurve) ⟨Nat.le_of_ble_eq_true rfl, Nat.le_of_ble_eq_true rfl⟩) (k_preS C hX) rfl rfl hl.1 rfl (lv_room (Nat.le_of_ble_eq_true rfl)) dX9_gasket_42 ⟨Nat.le_of_ble_eq_true rfl, Nat.le_of_ble_eq_true rfl⟩) hX (fun r42 f42 H locs hp42 hX => ?_)
  obtain ⟨hr42, hf42⟩ := hp42
  rw [hf42] at hX
  refine k_topi (y := (kbI (mCv a))) hr42 ?_
  have J97 : ∀ (ls : Array Slot), lv_has ls 10 [(7, .long ((((a.toInt64 * a.toInt64) + (b.toInt64 * b.toInt64)) + (c9.toInt64 * c9.toInt64)) + (e9.toInt64 * e9.toInt64))), (5, .long (((a.toInt64 + b.toInt64) + c9.toInt64) + e9.toInt64)), (0, .ref h), (1, .int a), (2, .int b), (3, .int c9), (4, .int e9)] → ∀ (H : Heap) (locs : List Loc), kX G B0 s f H locs → W p l e (rmX9_gasket_b2) s m args below meth c H locs 0 0 Q (F0 m 97 ls [.int (kbI (mGk a b c9 e9))]) := by
    intro ls hl H locs hX
    refine lv_istore (lv' := [(9, .int (kbI (mGk a b c9 e9))), (7, .long ((((a.toInt64 * a.toInt64) + (b.toInt64 * b.toInt64)) + (c9.toInt64 * c9.toInt64)) + (e9.toInt64 * e9.toInt64))), (5, .long (((a.toInt64 + b.toInt64) + c9.toInt64) + e9.toInt64)), (0, .ref h), (1, .int a), (2, .int b), (3, .int c9), (4, .int e9)]) C.x C.b dX9_gasket_97 hl (by decide) rfl (fun ls hl => ?_)
    refine lv_aload_n C.x C.b dX9_gasket_99 rfl (lv_at hl 3 rfl) ?_
    refine lv_iload C.x C.b dX9_gasket_100 (lv_at hl 0 rfl) ?_
    refine lv_if_ne (tgt := 109) C.x C.b dX9_gasket_102 (by decide) (fun c_102 => ?_) (fun c_102 => ?_)
    rotate_left
    · exact absurd (hv) (kbI_0 c_102)
    refine lv_aload_n C.x C.b dX9_gasket_109 rfl (lv_at hl 3 rfl) ?_
    refine k_get (X := RX9) (T := TX9) (N := 28) (v := .int i7) C hX (hM.at 0 rfl) rfl hin_X9_gasket_RX9 7 (by decide) lk_X9_gasket_f138 (fun _ h9 => h9) rfl dX9_gasket_110 ?_
    refine k_topi (y := (nI g9)) (hg0) ?_
    refine lv_bipush (v := nI 8) C.x C.b dX9_gasket_113 (by decide) ?_
    refine lv_icmp_ne (tgt := 122) C.x C.b dX9_gasket_115 (by decide) (fun c_115 => ?_) (fun c_115 => ?_)
    · skip
      have c_115 : ¬ (g9 = 8) := fun h9 => c_115 ((nI_eq (by omega) (by omega)).mpr h9)
      omega
    have c_115 : g9 = 8 := (nI_eq (by omega) (by omega)).mp c_115
    refine lv_iconst (v := nI 2) C.x C.b dX9_gasket_118 (by decide) ?_
    refine lv_goto (tgt := 123) C.x C.b dX9_gasket_119 (by decide) ?_
    refine k_put (X := RX9) (T := TX9) (N := 28) (ty := .int) (v := .int (nI 2)) C hX (hM.at 0 rfl) rfl hin_X9_gasket_RX9 tyX9_ok nmX9 27 (by decide) lk_X9_gasket_f80 (fun _ h9 => h9) rfl (by decide +kernel) rfl rfl (Nat.le_of_ble_eq_true rfl) dX9_gasket_123 (fun H locs hX => ?_)
    obtain ⟨g1, hX, hM, hO⟩ := kX.wr hX hM hO 0 rfl (List.mem_of_getElem? (i := 0) rfl)
    have hM : kCs g1 (mC G h q i0 i1 i3 i7 i18 i22 i23 (nI 2) j16 j17 a2 a4 a5 a6 b8 b9 b10 a11 a12 a13 a14 b15 b19 b20 b21 a24 a25 a26) := hM
    refine lv_aload_n C.x C.b dX9_gasket_126 rfl (lv_at hl 3 rfl) ?_
    refine k_get (X := RX9) (T := TX9) (N := 28) (v := .int (nI 2)) C hX (hM.at 0 rfl) rfl hin_X9_gasket_RX9 27 (by decide) lk_X9_gasket_f80 (fun _ h9 => h9) rfl dX9_gasket_127 ?_
    refine lv_if_le (tgt := 135) C.x C.b dX9_gasket_130 (by decide) (fun c_130 => ?_) (fun c_130 => ?_)
    · exact absurd c_130 (by decide)
    refine lv_iconst (v := nI 0) C.x C.b dX9_gasket_133 (by decide) ?_
    exact k_iret C hX hr hlocks hQ (by omega) (by omega) (⟨rfl, hM, hO⟩) dX9_gasket_134
  refine lv_if_eq (tgt := 96) C.x C.b dX9_gasket_45 (by decide) (fun c_45 => ?_) (fun c_45 => ?_)
  · skip
    have c_45 := kbI_0 c_45
    refine lv_iconst (v := nI 0) C.x C.b dX9_gasket_96 (by decide) ?_
    refine k_topi (y := (kbI (mGk a b c9 e9))) (by first | exact kbI_tN ⟨c_45, c_52, c_59, c_67, c_82, c_89⟩ | exact kbI_fN (fun z => c_45 z.1) | exact kbI_fN (fun z => c_52 z.2.1) | exact kbI_fN (fun z => c_59 z.2.2.1) | exact kbI_fN (fun z => c_67 z.2.2.2.1) | exact kbI_fN (fun z => c_82 z.2.2.2.2.1) | exact kbI_fN (fun z => c_89 z.2.2.2.2.2)) ?_
    exact J97 ls (lv_sub hl [0, 1, 2, 3, 4, 5, 6] rfl) _ _ hX
  · skip
    have c_45 := kbI_1 c_45
    refine lv_iload_n C.x C.b dX9_gasket_48 rfl (lv_at hl 4 rfl) ?_
    refine k_calli (va_runS (As := [.int b]) (rest := []) C.1 (kX9_isCurve l G B0 f b) (va_cwS 1 C.ts gX9_gasket_X9_isCurve rfl rfl rfl (hdX9_gasket_X9_isCurve) ⟨Nat.le_of_ble_eq_true rfl, Nat.le_of_ble_eq_true rfl⟩) (k_preS C hX) rfl rfl hl.1 rfl (lv_room (Nat.le_of_ble_eq_true rfl)) dX9_gasket_49 ⟨Nat.le_of_ble_eq_true rfl, Nat.le_of_ble_eq_true rfl⟩) hX (fun r49 f49 H locs hp49 hX => ?_)
    obtain ⟨hr49, hf49⟩ := hp49
    rw [hf49] at hX
    refine k_topi (y := (kbI (mCv b))) hr49 ?_
    refine lv_if_eq (tgt := 96) C.x C.b dX9_gasket_52 (by decide) (fun c_52 => ?_) (fun c_52 => ?_)
    · skip
      have c_52 := kbI_0 c_52
      refine lv_iconst (v := nI 0) C.x C.b dX9_gasket_96 (by decide) ?_
      refine k_topi (y := (kbI (mGk a b c9 e9))) (by first | exact kbI_tN ⟨c_45, c_52, c_59, c_67, c_82, c_89⟩ | exact kbI_fN (fun z => c_45 z.1) | exact kbI_fN (fun z => c_52 z.2.1) | exact kbI_fN (fun z => c_59 z.2.2.1) | exact kbI_fN (fun z => c_67 z.2.2.2.1) | exact kbI_fN (fun z => c_82 z.2.2.2.2.1) | exact kbI_fN (fun z => c_89 z.2.2.2.2.2)) ?_
      exact J97 ls (lv_sub hl [0, 1, 2, 3, 4, 5, 6] rfl) _ _ hX
    · skip
      have c_52 := kbI_1 c_52
      refine lv_iload_n C.x C.b dX9_gasket_55 rfl (lv_at hl 5 rfl) ?_
      refine k_calli (va_runS (As := [.int c9]) (rest := []) C.1 (kX9_isCurve l G B0 f c9) (va_cwS 1 C.ts gX9_gasket_X9_isCurve rfl rfl rfl (hdX9_gasket_X9_isCurve) ⟨Nat.le_of_ble_eq_true rfl, Nat.le_of_ble_eq_true rfl⟩) (k_preS C hX) rfl rfl hl.1 rfl (lv_room (Nat.le_of_ble_eq_true rfl)) dX9_gasket_56 ⟨Nat.le_of_ble_eq_true rfl, Nat.le_of_ble_eq_true rfl⟩) hX (fun r56 f56 H locs hp56 hX => ?_)
      obtain ⟨hr56, hf56⟩ := hp56
      rw [hf56] at hX
      refine k_topi (y := (kbI (mCv c9))) hr56 ?_
      refine lv_if_eq (tgt := 96) C.x C.b dX9_gasket_59 (by decide) (fun c_59 => ?_) (fun c_59 => ?_)
      · skip
        have c_59 := kbI_0 c_59
        refine lv_iconst (v := nI 0) C.x C.b dX9_gasket_96 (by decide) ?_
        refine k_topi (y := (kbI (mGk a b c9 e9))) (by first | exact kbI_tN ⟨c_45, c_52, c_59, c_67, c_82, c_89⟩ | exact kbI_fN (fun z => c_45 z.1) | exact kbI_fN (fun z => c_52 z.2.1) | exact kbI_fN (fun z => c_59 z.2.2.1) | exact kbI_fN (fun z => c_67 z.2.2.2.1) | exact kbI_fN (fun z => c_82 z.2.2.2.2.1) | exact kbI_fN (fun z => c_89 z.2.2.2.2.2)) ?_
        exact J97 ls (lv_sub hl [0, 1, 2, 3, 4, 5, 6] rfl) _ _ hX
      · skip
        have c_59 := kbI_1 c_59
        refine lv_iload C.x C.b dX9_gasket_62 (lv_at hl 6 rfl) ?_
        refine k_calli (va_runS (As := [.int e9]) (rest := []) C.1 (kX9_isCurve l G B0 f e9) (va_cwS 1 C.ts gX9_gasket_X9_isCurve rfl rfl rfl (hdX9_gasket_X9_isCurve) ⟨Nat.le_of_ble_eq_true rfl, Nat.le_of_ble_eq_true rfl⟩) (k_preS C hX) rfl rfl hl.1 rfl (lv_room (Nat.le_of_ble_eq_true rfl)) dX9_gasket_64 ⟨Nat.le_of_ble_eq_true rfl, Nat.le_of_ble_eq_true rfl⟩) hX (fun r64 f64 H locs hp64 hX => ?_)
        obtain ⟨hr64, hf64⟩ := hp64
        rw [hf64] at hX
        refine k_topi (y := (kbI (mCv e9))) hr64 ?_
        refine lv_if_eq (tgt := 96) C.x C.b dX9_gasket_67 (by decide) (fun c_67 => ?_) (fun c_67 => ?_)
        · skip
          have c_67 := kbI_0 c_67
          refine lv_iconst (v := nI 0) C.x C.b dX9_gasket_96 (by decide) ?_
          refine k_topi (y := (kbI (mGk a b c9 e9))) (by first | exact kbI_tN ⟨c_45, c_52, c_59, c_67, c_82, c_89⟩ | exact kbI_fN (fun z => c_45 z.1) | exact kbI_fN (fun z => c_52 z.2.1) | exact kbI_fN (fun z => c_59 z.2.2.1) | exact kbI_fN (fun z => c_67 z.2.2.2.1) | exact kbI_fN (fun z => c_82 z.2.2.2.2.1) | exact kbI_fN (fun z => c_89 z.2.2.2.2.2)) ?_
          exact J97 ls (lv_sub hl [0, 1, 2, 3, 4, 5, 6] rfl) _ _ hX
        · skip
          have c_67 := kbI_1 c_67
          refine lv_lload C.x C.b dX9_gasket_70 (lv_at hl 1 rfl) ?_
          refine lv_lload C.x C.b dX9_gasket_72 (lv_at hl 1 rfl) ?_
          refine lv_lmul C.x C.b dX9_gasket_74 ?_
          refine lv_ldc2 (v := 2) C.x C.b C.ow (C.ts _ lk_X9_gasket_c109) dX9_gasket_75 ?_
          refine lv_lload C.x C.b dX9_gasket_78 (lv_at hl 0 rfl) ?_
          refine lv_lmul C.x C.b dX9_gasket_80 ?_
          refine k_lcmp_ne (tgt := 96) C.x C.b dX9_gasket_81 dX9_gasket_82 (by decide) (fun c_82 => ?_) (fun c_82 => ?_)
          · skip
            refine lv_iconst (v := nI 0) C.x C.b dX9_gasket_96 (by decide) ?_
            refine k_topi (y := (kbI (mGk a b c9 e9))) (by first | exact kbI_tN ⟨c_45, c_52, c_59, c_67, c_82, c_89⟩ | exact kbI_fN (fun z => c_45 z.1) | exact kbI_fN (fun z => c_52 z.2.1) | exact kbI_fN (fun z => c_59 z.2.2.1) | exact kbI_fN (fun z => c_67 z.2.2.2.1) | exact kbI_fN (fun z => c_82 z.2.2.2.2.1) | exact kbI_fN (fun z => c_89 z.2.2.2.2.2)) ?_
            exact J97 ls (lv_sub hl [0, 1, 2, 3, 4, 5, 6] rfl) _ _ hX
          · skip
            refine lv_lload C.x C.b dX9_gasket_85 (lv_at hl 1 rfl) ?_
            refine lv_lconst (v := 0) C.x C.b dX9_gasket_87 (by decide) ?_
            refine k_lcmp_le (tgt := 96) C.x C.b dX9_gasket_88 dX9_gasket_89 (by decide) (fun c_89 => ?_) (fun c_89 => ?_)
            · skip
              refine lv_iconst (v := nI 0) C.x C.b dX9_gasket_96 (by decide) ?_
              refine k_topi (y := (kbI (mGk a b c9 e9))) (by first | exact kbI_tN ⟨c_45, c_52, c_59, c_67, c_82, c_89⟩ | exact kbI_fN (fun z => c_45 z.1) | exact kbI_fN (fun z => c_52 z.2.1) | exact kbI_fN (fun z => c_59 z.2.2.1) | exact kbI_fN (fun z => c_67 z.2.2.2.1) | exact kbI_fN (fun z => c_82 z.2.2.2.2.1) | exact kbI_fN (fun z => c_89 z.2.2.2.2.2)) ?_
              exact J97 ls (lv_sub hl [0, 1, 2, 3, 4, 5, 6] rfl) _ _ hX
            · skip
              refine lv_iconst (v := nI 1) C.x C.b dX9_gasket_92 (by decide) ?_
              refine lv_goto (tgt := 97) C.x C.b dX9_gasket_93 (by decide) ?_
              refine k_topi (y := (kbI (mGk a b c9 e9))) (by first | exact kbI_tN ⟨c_45, c_52, c_59, c_67, c_82, c_89⟩ | exact kbI_fN (fun z => c_45 z.1) | exact kbI_fN (fun z => c_52 z.2.1) | exact kbI_fN (fun z => c_59 z.2.2.1) | exact kbI_fN (fun z => c_67 z.2.2.2.1) | exact kbI_fN (fun z => c_82 z.2.2.2.2.1) | exact kbI_fN (fun z => c_89 z.2.2.2.2.2)) ?_
              exact J97 ls (lv_sub hl [0, 1, 2, 3, 4, 5, 6] rfl) _ _ hX

theorem lk_X9_gasket_f29 : Cond.fieldLink RX9 29 "KoebehallModel" "curves" "[J" ∈ wsX9_gasket := by decide +kernel
abbrev rmX9_gasket : Room := { frames := 2, cells := 0, slots := 0, locals := 45 }
set_option maxHeartbeats 4000000 in
set_option maxRecDepth 100000 in
/-- X9_gasket -/
theorem kX9_gasket (l : Launch) (G : kG) (B0 : Nat) (f : kH) (h : Nat) (q : Nat → Nat) (i0 i1 i3 i7 i18 i22 i23 i27 : Int32) (j16 j17 : Int64) (a2 : Nat → Int32) (a4 : Nat → Int32) (a5 : Nat → Int32) (a6 : Nat → Int32) (b8 : Nat → Int64) (b9 : Nat → Int64) (b10 : Nat → Int64) (a11 : Nat → Int32) (a12 : Nat → Int32) (a13 : Nat → Int32) (a14 : Nat → Int32) (b15 : Nat → Int64) (b19 : Nat → Int64) (b20 : Nat → Int64) (b21 : Nat → Int64) (a24 : Nat → Int32) (a25 : Nat → Int32) (a26 : Nat → Int32) (a b c9 e9 : Int32) (g9 : Nat) (hM : kCs f (mC G h q i0 i1 i3 i7 i18 i22 i23 i27 j16 j17 a2 a4 a5 a6 b8 b9 b10 a11 a12 a13 a14 b15 b19 b20 b21 a24 a25 a26)) (hg0 : i7 = nI g9) (hg9 : g9 ≤ 8) (hv : mGk a b c9 e9) (h8 : g9 < 8) : Met l yX9_gasket wsX9_gasket (rmX9_gasket) (kP G B0 f [.ref h, .int a, .int b, .int c9, .int e9]) (kQi G B0 (fun r f1 => r = nI g9 ∧ kCs f1 (mC G h q i0 i1 i3 (nI (g9 + 1)) i18 i22 i23 (nI 0) j16 j17 a2 a4 a5 a6 (vp_updL (vp_updL (vp_updL (vp_updL b8 (4 * g9) a.toInt64) (4 * g9 + 1) b.toInt64) (4 * g9 + 2) c9.toInt64) (4 * g9 + 3) e9.toInt64) b9 b10 a11 a12 a13 a14 b15 b19 b20 b21 a24 a25 a26) ∧ kOff (mAs h q) f f1)) 0 0 (kAb B0) := by
  refine kMet (cc := cX9_gasket) (maxL := 10) (ret := (some .int)) (by decide) rfl (Nat.le_of_ble_eq_true rfl) ?_
  intro p e s m args below meth c H locs Q ls C hX hl hr hlocks hnm hQ
  have hO : kOff (mAs h q) f f := kOff.rf
  have hl : lv_has ls 10 [(0, .ref h), (1, .int a), (2, .int b), (3, .int c9), (4, .int e9)] := hl
  refine lv_iload_n C.x C.b dX9_gasket_0 rfl (lv_at hl 1 rfl) ?_
  refine lv_i2l (v := a.toInt64) C.x C.b dX9_gasket_1 rfl ?_
  refine lv_iload_n C.x C.b dX9_gasket_2 rfl (lv_at hl 2 rfl) ?_
  refine lv_i2l (v := b.toInt64) C.x C.b dX9_gasket_3 rfl ?_
  refine lv_ladd C.x C.b dX9_gasket_4 ?_
  refine lv_iload_n C.x C.b dX9_gasket_5 rfl (lv_at hl 3 rfl) ?_
  refine lv_i2l (v := c9.toInt64) C.x C.b dX9_gasket_6 rfl ?_
  refine lv_ladd C.x C.b dX9_gasket_7 ?_
  refine lv_iload C.x C.b dX9_gasket_8 (lv_at hl 4 rfl) ?_
  refine lv_i2l (v := e9.toInt64) C.x C.b dX9_gasket_10 rfl ?_
  refine lv_ladd C.x C.b dX9_gasket_11 ?_
  refine lv_lstore (lv' := [(5, .long (((a.toInt64 + b.toInt64) + c9.toInt64) + e9.toInt64)), (0, .ref h), (1, .int a), (2, .int b), (3, .int c9), (4, .int e9)]) C.x C.b dX9_gasket_12 hl (by decide) rfl (fun ls hl => ?_)
  refine lv_iload_n C.x C.b dX9_gasket_14 rfl (lv_at hl 2 rfl) ?_
  refine lv_i2l (v := a.toInt64) C.x C.b dX9_gasket_15 rfl ?_
  refine lv_iload_n C.x C.b dX9_gasket_16 rfl (lv_at hl 2 rfl) ?_
  refine lv_i2l (v := a.toInt64) C.x C.b dX9_gasket_17 rfl ?_
  refine lv_lmul C.x C.b dX9_gasket_18 ?_
  refine lv_iload_n C.x C.b dX9_gasket_19 rfl (lv_at hl 3 rfl) ?_
  refine lv_i2l (v := b.toInt64) C.x C.b dX9_gasket_20 rfl ?_
  refine lv_iload_n C.x C.b dX9_gasket_21 rfl (lv_at hl 3 rfl) ?_
  refine lv_i2l (v := b.toInt64) C.x C.b dX9_gasket_22 rfl ?_
  refine lv_lmul C.x C.b dX9_gasket_23 ?_
  refine lv_ladd C.x C.b dX9_gasket_24 ?_
  refine lv_iload_n C.x C.b dX9_gasket_25 rfl (lv_at hl 4 rfl) ?_
  refine lv_i2l (v := c9.toInt64) C.x C.b dX9_gasket_26 rfl ?_
  refine lv_iload_n C.x C.b dX9_gasket_27 rfl (lv_at hl 4 rfl) ?_
  refine lv_i2l (v := c9.toInt64) C.x C.b dX9_gasket_28 rfl ?_
  refine lv_lmul C.x C.b dX9_gasket_29 ?_
  refine lv_ladd C.x C.b dX9_gasket_30 ?_
  refine lv_iload C.x C.b dX9_gasket_31 (lv_at hl 5 rfl) ?_
  refine lv_i2l (v := e9.toInt64) C.x C.b dX9_gasket_33 rfl ?_
  refine lv_iload C.x C.b dX9_gasket_34 (lv_at hl 5 rfl) ?_
  refine lv_i2l (v := e9.toInt64) C.x C.b dX9_gasket_36 rfl ?_
  refine lv_lmul C.x C.b dX9_gasket_37 ?_
  refine lv_ladd C.x C.b dX9_gasket_38 ?_
  refine lv_lstore (lv' := [(7, .long ((((a.toInt64 * a.toInt64) + (b.toInt64 * b.toInt64)) + (c9.toInt64 * c9.toInt64)) + (e9.toInt64 * e9.toInt64))), (5, .long (((a.toInt64 + b.toInt64) + c9.toInt64) + e9.toInt64)), (0, .ref h), (1, .int a), (2, .int b), (3, .int c9), (4, .int e9)]) C.x C.b dX9_gasket_39 hl (by decide) rfl (fun ls hl => ?_)
  refine lv_iload_n C.x C.b dX9_gasket_41 rfl (lv_at hl 3 rfl) ?_
  refine k_calli (va_runS (As := [.int a]) (rest := []) C.1 (kX9_isCurve l G B0 f a) (va_cwS 1 C.ts gX9_gasket_X9_isCurve rfl rfl rfl (hdX9_gasket_X9_isCurve) ⟨Nat.le_of_ble_eq_true rfl, Nat.le_of_ble_eq_true rfl⟩) (k_preS C hX) rfl rfl hl.1 rfl (lv_room (Nat.le_of_ble_eq_true rfl)) dX9_gasket_42 ⟨Nat.le_of_ble_eq_true rfl, Nat.le_of_ble_eq_true rfl⟩) hX (fun r42 f42 H locs hp42 hX => ?_)
  obtain ⟨hr42, hf42⟩ := hp42
  rw [hf42] at hX
  refine k_topi (y := (kbI (mCv a))) hr42 ?_
  have J97 : ∀ (ls : Array Slot), lv_has ls 10 [(7, .long ((((a.toInt64 * a.toInt64) + (b.toInt64 * b.toInt64)) + (c9.toInt64 * c9.toInt64)) + (e9.toInt64 * e9.toInt64))), (5, .long (((a.toInt64 + b.toInt64) + c9.toInt64) + e9.toInt64)), (0, .ref h), (1, .int a), (2, .int b), (3, .int c9), (4, .int e9)] → ∀ (H : Heap) (locs : List Loc), kX G B0 s f H locs → W p l e (rmX9_gasket) s m args below meth c H locs 0 0 Q (F0 m 97 ls [.int (kbI (mGk a b c9 e9))]) := by
    intro ls hl H locs hX
    refine lv_istore (lv' := [(9, .int (kbI (mGk a b c9 e9))), (7, .long ((((a.toInt64 * a.toInt64) + (b.toInt64 * b.toInt64)) + (c9.toInt64 * c9.toInt64)) + (e9.toInt64 * e9.toInt64))), (5, .long (((a.toInt64 + b.toInt64) + c9.toInt64) + e9.toInt64)), (0, .ref h), (1, .int a), (2, .int b), (3, .int c9), (4, .int e9)]) C.x C.b dX9_gasket_97 hl (by decide) rfl (fun ls hl => ?_)
    refine lv_aload_n C.x C.b dX9_gasket_99 rfl (lv_at hl 3 rfl) ?_
    refine lv_iload C.x C.b dX9_gasket_100 (lv_at hl 0 rfl) ?_
    refine lv_if_ne (tgt := 109) C.x C.b dX9_gasket_102 (by decide) (fun c_102 => ?_) (fun c_102 => ?_)
    rotate_left
    · exact absurd (hv) (kbI_0 c_102)
    refine lv_aload_n C.x C.b dX9_gasket_109 rfl (lv_at hl 3 rfl) ?_
    refine k_get (X := RX9) (T := TX9) (N := 28) (v := .int i7) C hX (hM.at 0 rfl) rfl hin_X9_gasket_RX9 7 (by decide) lk_X9_gasket_f138 (fun _ h9 => h9) rfl dX9_gasket_110 ?_
    refine k_topi (y := (nI g9)) (hg0) ?_
    refine lv_bipush (v := nI 8) C.x C.b dX9_gasket_113 (by decide) ?_
    refine lv_icmp_ne (tgt := 122) C.x C.b dX9_gasket_115 (by decide) (fun c_115 => ?_) (fun c_115 => ?_)
    rotate_left
    · skip
      have c_115 : g9 = 8 := (nI_eq (by omega) (by omega)).mp c_115
      omega
    have c_115 : ¬ (g9 = 8) := fun h9 => c_115 ((nI_eq (by omega) (by omega)).mpr h9)
    refine lv_iconst (v := nI 0) C.x C.b dX9_gasket_122 (by decide) ?_
    refine k_put (X := RX9) (T := TX9) (N := 28) (ty := .int) (v := .int (nI 0)) C hX (hM.at 0 rfl) rfl hin_X9_gasket_RX9 tyX9_ok nmX9 27 (by decide) lk_X9_gasket_f80 (fun _ h9 => h9) rfl (by decide +kernel) rfl rfl (Nat.le_of_ble_eq_true rfl) dX9_gasket_123 (fun H locs hX => ?_)
    obtain ⟨g1, hX, hM, hO⟩ := kX.wr hX hM hO 0 rfl (List.mem_of_getElem? (i := 0) rfl)
    have hM : kCs g1 (mC G h q i0 i1 i3 i7 i18 i22 i23 (nI 0) j16 j17 a2 a4 a5 a6 b8 b9 b10 a11 a12 a13 a14 b15 b19 b20 b21 a24 a25 a26) := hM
    refine lv_aload_n C.x C.b dX9_gasket_126 rfl (lv_at hl 3 rfl) ?_
    refine k_get (X := RX9) (T := TX9) (N := 28) (v := .int (nI 0)) C hX (hM.at 0 rfl) rfl hin_X9_gasket_RX9 27 (by decide) lk_X9_gasket_f80 (fun _ h9 => h9) rfl dX9_gasket_127 ?_
    refine lv_if_le (tgt := 135) C.x C.b dX9_gasket_130 (by decide) (fun c_130 => ?_) (fun c_130 => ?_)
    rotate_left
    · exact absurd c_130 (by decide)
    refine lv_aload_n C.x C.b dX9_gasket_135 rfl (lv_at hl 3 rfl) ?_
    refine k_get (X := RX9) (T := TX9) (N := 28) (v := .ref (q 8)) C hX (hM.at 0 rfl) rfl hin_X9_gasket_RX9 8 (by decide) lk_X9_gasket_f29 (fun _ h9 => h9) rfl dX9_gasket_136 ?_
    refine lv_iconst (v := nI 4) C.x C.b dX9_gasket_139 (by decide) ?_
    refine lv_aload_n C.x C.b dX9_gasket_140 rfl (lv_at hl 3 rfl) ?_
    refine k_get (X := RX9) (T := TX9) (N := 28) (v := .int i7) C hX (hM.at 0 rfl) rfl hin_X9_gasket_RX9 7 (by decide) lk_X9_gasket_f138 (fun _ h9 => h9) rfl dX9_gasket_141 ?_
    refine k_topi (y := (nI g9)) (hg0) ?_
    refine lv_imul C.x C.b dX9_gasket_144 ?_
    refine k_topi (y := nI (4 * g9)) (pk_mul _ _) ?_
    refine lv_iload_n C.x C.b dX9_gasket_145 rfl (lv_at hl 4 rfl) ?_
    refine lv_i2l (v := a.toInt64) C.x C.b dX9_gasket_146 rfl ?_
    refine k_last C hX (hM.at 5 rfl) (vp_in_nI (by omega) (by omega)) dX9_gasket_147 (fun H locs hX => ?_)
    rw [nI_clamp (by omega)] at hX
    obtain ⟨g2, hX, hM, hO⟩ := kX.wr hX hM hO 5 rfl (List.mem_of_getElem? (i := 5) rfl)
    have hM : kCs g2 (mC G h q i0 i1 i3 i7 i18 i22 i23 (nI 0) j16 j17 a2 a4 a5 a6 (vp_updL b8 (4 * g9) a.toInt64) b9 b10 a11 a12 a13 a14 b15 b19 b20 b21 a24 a25 a26) := hM
    refine lv_aload_n C.x C.b dX9_gasket_148 rfl (lv_at hl 3 rfl) ?_
    refine k_get (X := RX9) (T := TX9) (N := 28) (v := .ref (q 8)) C hX (hM.at 0 rfl) rfl hin_X9_gasket_RX9 8 (by decide) lk_X9_gasket_f29 (fun _ h9 => h9) rfl dX9_gasket_149 ?_
    refine lv_iconst (v := nI 4) C.x C.b dX9_gasket_152 (by decide) ?_
    refine lv_aload_n C.x C.b dX9_gasket_153 rfl (lv_at hl 3 rfl) ?_
    refine k_get (X := RX9) (T := TX9) (N := 28) (v := .int i7) C hX (hM.at 0 rfl) rfl hin_X9_gasket_RX9 7 (by decide) lk_X9_gasket_f138 (fun _ h9 => h9) rfl dX9_gasket_154 ?_
    refine k_topi (y := (nI g9)) (hg0) ?_
    refine lv_imul C.x C.b dX9_gasket_157 ?_
    refine k_topi (y := nI (4 * g9)) (pk_mul _ _) ?_
    refine lv_iconst (v := nI 1) C.x C.b dX9_gasket_158 (by decide) ?_
    refine lv_iadd C.x C.b dX9_gasket_159 ?_
    refine k_topi (y := nI ((4 * g9) + 1)) (nI_add _ _) ?_
    refine lv_iload_n C.x C.b dX9_gasket_160 rfl (lv_at hl 5 rfl) ?_
    refine lv_i2l (v := b.toInt64) C.x C.b dX9_gasket_161 rfl ?_
    refine k_last C hX (hM.at 5 rfl) (vp_in_nI (by omega) (by omega)) dX9_gasket_162 (fun H locs hX => ?_)
    rw [nI_clamp (by omega)] at hX
    obtain ⟨g3, hX, hM, hO⟩ := kX.wr hX hM hO 5 rfl (List.mem_of_getElem? (i := 5) rfl)
    have hM : kCs g3 (mC G h q i0 i1 i3 i7 i18 i22 i23 (nI 0) j16 j17 a2 a4 a5 a6 (vp_updL (vp_updL b8 (4 * g9) a.toInt64) ((4 * g9) + 1) b.toInt64) b9 b10 a11 a12 a13 a14 b15 b19 b20 b21 a24 a25 a26) := hM
    refine lv_aload_n C.x C.b dX9_gasket_163 rfl (lv_at hl 3 rfl) ?_
    refine k_get (X := RX9) (T := TX9) (N := 28) (v := .ref (q 8)) C hX (hM.at 0 rfl) rfl hin_X9_gasket_RX9 8 (by decide) lk_X9_gasket_f29 (fun _ h9 => h9) rfl dX9_gasket_164 ?_
    refine lv_iconst (v := nI 4) C.x C.b dX9_gasket_167 (by decide) ?_
    refine lv_aload_n C.x C.b dX9_gasket_168 rfl (lv_at hl 3 rfl) ?_
    refine k_get (X := RX9) (T := TX9) (N := 28) (v := .int i7) C hX (hM.at 0 rfl) rfl hin_X9_gasket_RX9 7 (by decide) lk_X9_gasket_f138 (fun _ h9 => h9) rfl dX9_gasket_169 ?_
    refine k_topi (y := (nI g9)) (hg0) ?_
    refine lv_imul C.x C.b dX9_gasket_172 ?_
    refine k_topi (y := nI (4 * g9)) (pk_mul _ _) ?_
    refine lv_iconst (v := nI 2) C.x C.b dX9_gasket_173 (by decide) ?_
    refine lv_iadd C.x C.b dX9_gasket_174 ?_
    refine k_topi (y := nI ((4 * g9) + 2)) (nI_add _ _) ?_
    refine lv_iload_n C.x C.b dX9_gasket_175 rfl (lv_at hl 6 rfl) ?_
    refine lv_i2l (v := c9.toInt64) C.x C.b dX9_gasket_176 rfl ?_
    refine k_last C hX (hM.at 5 rfl) (vp_in_nI (by omega) (by omega)) dX9_gasket_177 (fun H locs hX => ?_)
    rw [nI_clamp (by omega)] at hX
    obtain ⟨g4, hX, hM, hO⟩ := kX.wr hX hM hO 5 rfl (List.mem_of_getElem? (i := 5) rfl)
    have hM : kCs g4 (mC G h q i0 i1 i3 i7 i18 i22 i23 (nI 0) j16 j17 a2 a4 a5 a6 (vp_updL (vp_updL (vp_updL b8 (4 * g9) a.toInt64) ((4 * g9) + 1) b.toInt64) ((4 * g9) + 2) c9.toInt64) b9 b10 a11 a12 a13 a14 b15 b19 b20 b21 a24 a25 a26) := hM
    refine lv_aload_n C.x C.b dX9_gasket_178 rfl (lv_at hl 3 rfl) ?_
    refine k_get (X := RX9) (T := TX9) (N := 28) (v := .ref (q 8)) C hX (hM.at 0 rfl) rfl hin_X9_gasket_RX9 8 (by decide) lk_X9_gasket_f29 (fun _ h9 => h9) rfl dX9_gasket_179 ?_
    refine lv_iconst (v := nI 4) C.x C.b dX9_gasket_182 (by decide) ?_
    refine lv_aload_n C.x C.b dX9_gasket_183 rfl (lv_at hl 3 rfl) ?_
    refine k_get (X := RX9) (T := TX9) (N := 28) (v := .int i7) C hX (hM.at 0 rfl) rfl hin_X9_gasket_RX9 7 (by decide) lk_X9_gasket_f138 (fun _ h9 => h9) rfl dX9_gasket_184 ?_
    refine k_topi (y := (nI g9)) (hg0) ?_
    refine lv_imul C.x C.b dX9_gasket_187 ?_
    refine k_topi (y := nI (4 * g9)) (pk_mul _ _) ?_
    refine lv_iconst (v := nI 3) C.x C.b dX9_gasket_188 (by decide) ?_
    refine lv_iadd C.x C.b dX9_gasket_189 ?_
    refine k_topi (y := nI ((4 * g9) + 3)) (nI_add _ _) ?_
    refine lv_iload C.x C.b dX9_gasket_190 (lv_at hl 7 rfl) ?_
    refine lv_i2l (v := e9.toInt64) C.x C.b dX9_gasket_192 rfl ?_
    refine k_last C hX (hM.at 5 rfl) (vp_in_nI (by omega) (by omega)) dX9_gasket_193 (fun H locs hX => ?_)
    rw [nI_clamp (by omega)] at hX
    obtain ⟨g5, hX, hM, hO⟩ := kX.wr hX hM hO 5 rfl (List.mem_of_getElem? (i := 5) rfl)
    have hM : kCs g5 (mC G h q i0 i1 i3 i7 i18 i22 i23 (nI 0) j16 j17 a2 a4 a5 a6 (vp_updL (vp_updL (vp_updL (vp_updL b8 (4 * g9) a.toInt64) ((4 * g9) + 1) b.toInt64) ((4 * g9) + 2) c9.toInt64) ((4 * g9) + 3) e9.toInt64) b9 b10 a11 a12 a13 a14 b15 b19 b20 b21 a24 a25 a26) := hM
    refine lv_aload_n C.x C.b dX9_gasket_194 rfl (lv_at hl 3 rfl) ?_
    refine lv_dup C.x C.b dX9_gasket_195 rfl ?_
    refine k_get (X := RX9) (T := TX9) (N := 28) (v := .int i7) C hX (hM.at 0 rfl) rfl hin_X9_gasket_RX9 7 (by decide) lk_X9_gasket_f138 (fun _ h9 => h9) rfl dX9_gasket_196 ?_
    refine k_topi (y := (nI g9)) (hg0) ?_
    refine lv_iconst (v := nI 1) C.x C.b dX9_gasket_199 (by decide) ?_
    refine lv_iadd C.x C.b dX9_gasket_200 ?_
    refine k_topi (y := nI (g9 + 1)) (nI_add _ _) ?_
    refine k_put (X := RX9) (T := TX9) (N := 28) (ty := .int) (v := .int (nI (g9 + 1))) C hX (hM.at 0 rfl) rfl hin_X9_gasket_RX9 tyX9_ok nmX9 7 (by decide) lk_X9_gasket_f138 (fun _ h9 => h9) rfl (by decide +kernel) rfl rfl (Nat.le_of_ble_eq_true rfl) dX9_gasket_201 (fun H locs hX => ?_)
    obtain ⟨g6, hX, hM, hO⟩ := kX.wr hX hM hO 0 rfl (List.mem_of_getElem? (i := 0) rfl)
    have hM : kCs g6 (mC G h q i0 i1 i3 (nI (g9 + 1)) i18 i22 i23 (nI 0) j16 j17 a2 a4 a5 a6 (vp_updL (vp_updL (vp_updL (vp_updL b8 (4 * g9) a.toInt64) ((4 * g9) + 1) b.toInt64) ((4 * g9) + 2) c9.toInt64) ((4 * g9) + 3) e9.toInt64) b9 b10 a11 a12 a13 a14 b15 b19 b20 b21 a24 a25 a26) := hM
    refine lv_aload_n C.x C.b dX9_gasket_204 rfl (lv_at hl 3 rfl) ?_
    refine k_get (X := RX9) (T := TX9) (N := 28) (v := .int (nI (g9 + 1))) C hX (hM.at 0 rfl) rfl hin_X9_gasket_RX9 7 (by decide) lk_X9_gasket_f138 (fun _ h9 => h9) rfl dX9_gasket_205 ?_
    refine lv_iconst (v := nI 1) C.x C.b dX9_gasket_208 (by decide) ?_
    refine lv_isub C.x C.b dX9_gasket_209 ?_
    refine k_topi (y := (nI g9)) (pk_sub (by omega)) ?_
    exact k_iret C hX hr hlocks hQ (by omega) (by omega) (⟨rfl, hM, hO⟩) dX9_gasket_210
  refine lv_if_eq (tgt := 96) C.x C.b dX9_gasket_45 (by decide) (fun c_45 => ?_) (fun c_45 => ?_)
  · skip
    have c_45 := kbI_0 c_45
    refine lv_iconst (v := nI 0) C.x C.b dX9_gasket_96 (by decide) ?_
    refine k_topi (y := (kbI (mGk a b c9 e9))) (by first | exact kbI_tN ⟨c_45, c_52, c_59, c_67, c_82, c_89⟩ | exact kbI_fN (fun z => c_45 z.1) | exact kbI_fN (fun z => c_52 z.2.1) | exact kbI_fN (fun z => c_59 z.2.2.1) | exact kbI_fN (fun z => c_67 z.2.2.2.1) | exact kbI_fN (fun z => c_82 z.2.2.2.2.1) | exact kbI_fN (fun z => c_89 z.2.2.2.2.2)) ?_
    exact J97 ls (lv_sub hl [0, 1, 2, 3, 4, 5, 6] rfl) _ _ hX
  · skip
    have c_45 := kbI_1 c_45
    refine lv_iload_n C.x C.b dX9_gasket_48 rfl (lv_at hl 4 rfl) ?_
    refine k_calli (va_runS (As := [.int b]) (rest := []) C.1 (kX9_isCurve l G B0 f b) (va_cwS 1 C.ts gX9_gasket_X9_isCurve rfl rfl rfl (hdX9_gasket_X9_isCurve) ⟨Nat.le_of_ble_eq_true rfl, Nat.le_of_ble_eq_true rfl⟩) (k_preS C hX) rfl rfl hl.1 rfl (lv_room (Nat.le_of_ble_eq_true rfl)) dX9_gasket_49 ⟨Nat.le_of_ble_eq_true rfl, Nat.le_of_ble_eq_true rfl⟩) hX (fun r49 f49 H locs hp49 hX => ?_)
    obtain ⟨hr49, hf49⟩ := hp49
    rw [hf49] at hX
    refine k_topi (y := (kbI (mCv b))) hr49 ?_
    refine lv_if_eq (tgt := 96) C.x C.b dX9_gasket_52 (by decide) (fun c_52 => ?_) (fun c_52 => ?_)
    · skip
      have c_52 := kbI_0 c_52
      refine lv_iconst (v := nI 0) C.x C.b dX9_gasket_96 (by decide) ?_
      refine k_topi (y := (kbI (mGk a b c9 e9))) (by first | exact kbI_tN ⟨c_45, c_52, c_59, c_67, c_82, c_89⟩ | exact kbI_fN (fun z => c_45 z.1) | exact kbI_fN (fun z => c_52 z.2.1) | exact kbI_fN (fun z => c_59 z.2.2.1) | exact kbI_fN (fun z => c_67 z.2.2.2.1) | exact kbI_fN (fun z => c_82 z.2.2.2.2.1) | exact kbI_fN (fun z => c_89 z.2.2.2.2.2)) ?_
      exact J97 ls (lv_sub hl [0, 1, 2, 3, 4, 5, 6] rfl) _ _ hX
    · skip
      have c_52 := kbI_1 c_52
      refine lv_iload_n C.x C.b dX9_gasket_55 rfl (lv_at hl 5 rfl) ?_
      refine k_calli (va_runS (As := [.int c9]) (rest := []) C.1 (kX9_isCurve l G B0 f c9) (va_cwS 1 C.ts gX9_gasket_X9_isCurve rfl rfl rfl (hdX9_gasket_X9_isCurve) ⟨Nat.le_of_ble_eq_true rfl, Nat.le_of_ble_eq_true rfl⟩) (k_preS C hX) rfl rfl hl.1 rfl (lv_room (Nat.le_of_ble_eq_true rfl)) dX9_gasket_56 ⟨Nat.le_of_ble_eq_true rfl, Nat.le_of_ble_eq_true rfl⟩) hX (fun r56 f56 H locs hp56 hX => ?_)
      obtain ⟨hr56, hf56⟩ := hp56
      rw [hf56] at hX
      refine k_topi (y := (kbI (mCv c9))) hr56 ?_
      refine lv_if_eq (tgt := 96) C.x C.b dX9_gasket_59 (by decide) (fun c_59 => ?_) (fun c_59 => ?_)
      · skip
        have c_59 := kbI_0 c_59
        refine lv_iconst (v := nI 0) C.x C.b dX9_gasket_96 (by decide) ?_
        refine k_topi (y := (kbI (mGk a b c9 e9))) (by first | exact kbI_tN ⟨c_45, c_52, c_59, c_67, c_82, c_89⟩ | exact kbI_fN (fun z => c_45 z.1) | exact kbI_fN (fun z => c_52 z.2.1) | exact kbI_fN (fun z => c_59 z.2.2.1) | exact kbI_fN (fun z => c_67 z.2.2.2.1) | exact kbI_fN (fun z => c_82 z.2.2.2.2.1) | exact kbI_fN (fun z => c_89 z.2.2.2.2.2)) ?_
        exact J97 ls (lv_sub hl [0, 1, 2, 3, 4, 5, 6] rfl) _ _ hX
      · skip
        have c_59 := kbI_1 c_59
        refine lv_iload C.x C.b dX9_gasket_62 (lv_at hl 6 rfl) ?_
        refine k_calli (va_runS (As := [.int e9]) (rest := []) C.1 (kX9_isCurve l G B0 f e9) (va_cwS 1 C.ts gX9_gasket_X9_isCurve rfl rfl rfl (hdX9_gasket_X9_isCurve) ⟨Nat.le_of_ble_eq_true rfl, Nat.le_of_ble_eq_true rfl⟩) (k_preS C hX) rfl rfl hl.1 rfl (lv_room (Nat.le_of_ble_eq_true rfl)) dX9_gasket_64 ⟨Nat.le_of_ble_eq_true rfl, Nat.le_of_ble_eq_true rfl⟩) hX (fun r64 f64 H locs hp64 hX => ?_)
        obtain ⟨hr64, hf64⟩ := hp64
        rw [hf64] at hX
        refine k_topi (y := (kbI (mCv e9))) hr64 ?_
        refine lv_if_eq (tgt := 96) C.x C.b dX9_gasket_67 (by decide) (fun c_67 => ?_) (fun c_67 => ?_)
        · skip
          have c_67 := kbI_0 c_67
          refine lv_iconst (v := nI 0) C.x C.b dX9_gasket_96 (by decide) ?_
          refine k_topi (y := (kbI (mGk a b c9 e9))) (by first | exact kbI_tN ⟨c_45, c_52, c_59, c_67, c_82, c_89⟩ | exact kbI_fN (fun z => c_45 z.1) | exact kbI_fN (fun z => c_52 z.2.1) | exact kbI_fN (fun z => c_59 z.2.2.1) | exact kbI_fN (fun z => c_67 z.2.2.2.1) | exact kbI_fN (fun z => c_82 z.2.2.2.2.1) | exact kbI_fN (fun z => c_89 z.2.2.2.2.2)) ?_
          exact J97 ls (lv_sub hl [0, 1, 2, 3, 4, 5, 6] rfl) _ _ hX
        · skip
          have c_67 := kbI_1 c_67
          refine lv_lload C.x C.b dX9_gasket_70 (lv_at hl 1 rfl) ?_
          refine lv_lload C.x C.b dX9_gasket_72 (lv_at hl 1 rfl) ?_
          refine lv_lmul C.x C.b dX9_gasket_74 ?_
          refine lv_ldc2 (v := 2) C.x C.b C.ow (C.ts _ lk_X9_gasket_c109) dX9_gasket_75 ?_
          refine lv_lload C.x C.b dX9_gasket_78 (lv_at hl 0 rfl) ?_
          refine lv_lmul C.x C.b dX9_gasket_80 ?_
          refine k_lcmp_ne (tgt := 96) C.x C.b dX9_gasket_81 dX9_gasket_82 (by decide) (fun c_82 => ?_) (fun c_82 => ?_)
          · skip
            refine lv_iconst (v := nI 0) C.x C.b dX9_gasket_96 (by decide) ?_
            refine k_topi (y := (kbI (mGk a b c9 e9))) (by first | exact kbI_tN ⟨c_45, c_52, c_59, c_67, c_82, c_89⟩ | exact kbI_fN (fun z => c_45 z.1) | exact kbI_fN (fun z => c_52 z.2.1) | exact kbI_fN (fun z => c_59 z.2.2.1) | exact kbI_fN (fun z => c_67 z.2.2.2.1) | exact kbI_fN (fun z => c_82 z.2.2.2.2.1) | exact kbI_fN (fun z => c_89 z.2.2.2.2.2)) ?_
            exact J97 ls (lv_sub hl [0, 1, 2, 3, 4, 5, 6] rfl) _ _ hX
          · skip
            refine lv_lload C.x C.b dX9_gasket_85 (lv_at hl 1 rfl) ?_
            refine lv_lconst (v := 0) C.x C.b dX9_gasket_87 (by decide) ?_
            refine k_lcmp_le (tgt := 96) C.x C.b dX9_gasket_88 dX9_gasket_89 (by decide) (fun c_89 => ?_) (fun c_89 => ?_)
            · skip
              refine lv_iconst (v := nI 0) C.x C.b dX9_gasket_96 (by decide) ?_
              refine k_topi (y := (kbI (mGk a b c9 e9))) (by first | exact kbI_tN ⟨c_45, c_52, c_59, c_67, c_82, c_89⟩ | exact kbI_fN (fun z => c_45 z.1) | exact kbI_fN (fun z => c_52 z.2.1) | exact kbI_fN (fun z => c_59 z.2.2.1) | exact kbI_fN (fun z => c_67 z.2.2.2.1) | exact kbI_fN (fun z => c_82 z.2.2.2.2.1) | exact kbI_fN (fun z => c_89 z.2.2.2.2.2)) ?_
              exact J97 ls (lv_sub hl [0, 1, 2, 3, 4, 5, 6] rfl) _ _ hX
            · skip
              refine lv_iconst (v := nI 1) C.x C.b dX9_gasket_92 (by decide) ?_
              refine lv_goto (tgt := 97) C.x C.b dX9_gasket_93 (by decide) ?_
              refine k_topi (y := (kbI (mGk a b c9 e9))) (by first | exact kbI_tN ⟨c_45, c_52, c_59, c_67, c_82, c_89⟩ | exact kbI_fN (fun z => c_45 z.1) | exact kbI_fN (fun z => c_52 z.2.1) | exact kbI_fN (fun z => c_59 z.2.2.1) | exact kbI_fN (fun z => c_67 z.2.2.2.1) | exact kbI_fN (fun z => c_82 z.2.2.2.2.1) | exact kbI_fN (fun z => c_89 z.2.2.2.2.2)) ?_
              exact J97 ls (lv_sub hl [0, 1, 2, 3, 4, 5, 6] rfl) _ _ hX

theorem lk_X9_turned_c109 : Cond.constantLong RX9 109 (2) ∈ wsX9_turned := by decide +kernel
abbrev rmX9_turned : Room := { frames := 0, cells := 0, slots := 0, locals := 0 }
set_option maxHeartbeats 4000000 in
set_option maxRecDepth 100000 in
/-- X9_turned -/
theorem kX9_turned (l : Launch) (G : kG) (B0 : Nat) (f : kH) (x n : Nat) (g9 : Nat → Int64) (at9 pl : Nat) (hM : kCs f [(x, kaJ G n g9)]) (h1 : at9 + 3 < n) (h2 : at9 + pl < n) (hn : n < 2 ^ 31) : Met l yX9_turned wsX9_turned (rmX9_turned) (kP G B0 f [.ref x, .int (nI at9), .int (nI pl)]) (kQl G B0 (fun r f1 => r = mTurned g9 at9 pl ∧ f1 = f)) 0 0 (kAb B0) := by
  refine kMet (cc := cX9_turned) (maxL := 5) (ret := (some .long)) (by decide) rfl (Nat.le_of_ble_eq_true rfl) ?_
  intro p e s m args below meth c H locs Q ls C hX hl hr hlocks hnm hQ
  have hl : lv_has ls 5 [(0, .ref x), (1, .int (nI at9)), (2, .int (nI pl))] := hl
  refine lv_aload_n C.x C.b dX9_turned_0 rfl (lv_at hl 0 rfl) ?_
  refine lv_iload_n C.x C.b dX9_turned_1 rfl (lv_at hl 1 rfl) ?_
  refine k_lald C hX (hM.at 0 rfl) (vp_in_nI (by omega) (by omega)) dX9_turned_2 ?_
  refine k_topl (y := g9 at9) (by rw [nI_clamp (by omega)]) ?_
  refine lv_aload_n C.x C.b dX9_turned_3 rfl (lv_at hl 0 rfl) ?_
  refine lv_iload_n C.x C.b dX9_turned_4 rfl (lv_at hl 1 rfl) ?_
  refine lv_iconst (v := nI 1) C.x C.b dX9_turned_5 (by decide) ?_
  refine lv_iadd C.x C.b dX9_turned_6 ?_
  refine k_topi (y := nI (at9 + 1)) (nI_add _ _) ?_
  refine k_lald C hX (hM.at 0 rfl) (vp_in_nI (by omega) (by omega)) dX9_turned_7 ?_
  refine k_topl (y := g9 (at9 + 1)) (by rw [nI_clamp (by omega)]) ?_
  refine lv_ladd C.x C.b dX9_turned_8 ?_
  refine lv_aload_n C.x C.b dX9_turned_9 rfl (lv_at hl 0 rfl) ?_
  refine lv_iload_n C.x C.b dX9_turned_10 rfl (lv_at hl 1 rfl) ?_
  refine lv_iconst (v := nI 2) C.x C.b dX9_turned_11 (by decide) ?_
  refine lv_iadd C.x C.b dX9_turned_12 ?_
  refine k_topi (y := nI (at9 + 2)) (nI_add _ _) ?_
  refine k_lald C hX (hM.at 0 rfl) (vp_in_nI (by omega) (by omega)) dX9_turned_13 ?_
  refine k_topl (y := g9 (at9 + 2)) (by rw [nI_clamp (by omega)]) ?_
  refine lv_ladd C.x C.b dX9_turned_14 ?_
  refine lv_aload_n C.x C.b dX9_turned_15 rfl (lv_at hl 0 rfl) ?_
  refine lv_iload_n C.x C.b dX9_turned_16 rfl (lv_at hl 1 rfl) ?_
  refine lv_iconst (v := nI 3) C.x C.b dX9_turned_17 (by decide) ?_
  refine lv_iadd C.x C.b dX9_turned_18 ?_
  refine k_topi (y := nI (at9 + 3)) (nI_add _ _) ?_
  refine k_lald C hX (hM.at 0 rfl) (vp_in_nI (by omega) (by omega)) dX9_turned_19 ?_
  refine k_topl (y := g9 (at9 + 3)) (by rw [nI_clamp (by omega)]) ?_
  refine lv_ladd C.x C.b dX9_turned_20 ?_
  refine lv_lstore_n (lv' := [(3, .long ((((g9 at9) + (g9 (at9 + 1))) + (g9 (at9 + 2))) + (g9 (at9 + 3)))), (0, .ref x), (1, .int (nI at9)), (2, .int (nI pl))]) C.x C.b dX9_turned_21 rfl hl (by decide) rfl (fun ls hl => ?_)
  refine lv_ldc2 (v := 2) C.x C.b C.ow (C.ts _ lk_X9_turned_c109) dX9_turned_22 ?_
  refine lv_lload_n C.x C.b dX9_turned_25 rfl (lv_at hl 0 rfl) ?_
  refine lv_aload_n C.x C.b dX9_turned_26 rfl (lv_at hl 1 rfl) ?_
  refine lv_iload_n C.x C.b dX9_turned_27 rfl (lv_at hl 2 rfl) ?_
  refine lv_iload_n C.x C.b dX9_turned_28 rfl (lv_at hl 3 rfl) ?_
  refine lv_iadd C.x C.b dX9_turned_29 ?_
  refine k_topi (y := nI (at9 + pl)) (nI_add _ _) ?_
  refine k_lald C hX (hM.at 0 rfl) (vp_in_nI (by omega) (by omega)) dX9_turned_30 ?_
  refine k_topl (y := g9 (at9 + pl)) (by rw [nI_clamp (by omega)]) ?_
  refine lv_lsub C.x C.b dX9_turned_31 ?_
  refine lv_lmul C.x C.b dX9_turned_32 ?_
  refine lv_aload_n C.x C.b dX9_turned_33 rfl (lv_at hl 1 rfl) ?_
  refine lv_iload_n C.x C.b dX9_turned_34 rfl (lv_at hl 2 rfl) ?_
  refine lv_iload_n C.x C.b dX9_turned_35 rfl (lv_at hl 3 rfl) ?_
  refine lv_iadd C.x C.b dX9_turned_36 ?_
  refine k_topi (y := nI (at9 + pl)) (nI_add _ _) ?_
  refine k_lald C hX (hM.at 0 rfl) (vp_in_nI (by omega) (by omega)) dX9_turned_37 ?_
  refine k_topl (y := g9 (at9 + pl)) (by rw [nI_clamp (by omega)]) ?_
  refine lv_lsub C.x C.b dX9_turned_38 ?_
  exact k_lret C hX hr hlocks hQ (by omega) (by omega) (⟨rfl, rfl⟩) dX9_turned_39

theorem hdX9_isPlace_X9_isGasket : yX9_isGasket.cls ≠ "java/lang/invoke/MethodHandle" ∧ yX9_isGasket.cls ≠ "java/lang/invoke/VarHandle" ∧ (parseMethodDescriptor yX9_isGasket.desc).map (fun d => d.parameters.length) = some 1 := by decide +kernel
theorem lk_X9_isPlace_c144 : Cond.constantLong RX9 144 (3) ∈ wsX9_isPlace := by decide +kernel
theorem hdX9_isPlace_X9_isIn : yX9_isIn.cls ≠ "java/lang/invoke/MethodHandle" ∧ yX9_isIn.cls ≠ "java/lang/invoke/VarHandle" ∧ (parseMethodDescriptor yX9_isIn.desc).map (fun d => d.parameters.length) = some 3 := by decide +kernel
abbrev rmX9_isPlace : Room := { frames := 2, cells := 0, slots := 0, locals := 46 }
set_option maxHeartbeats 4000000 in
set_option maxRecDepth 100000 in
/-- X9_isPlace -/
theorem kX9_isPlace (l : Launch) (G : kG) (B0 : Nat) (f : kH) (h : Nat) (q : Nat → Nat) (i0 i1 i3 i7 i18 i22 i23 i27 : Int32) (j16 j17 : Int64) (a2 : Nat → Int32) (a4 : Nat → Int32) (a5 : Nat → Int32) (a6 : Nat → Int32) (b8 : Nat → Int64) (b9 : Nat → Int64) (b10 : Nat → Int64) (a11 : Nat → Int32) (a12 : Nat → Int32) (a13 : Nat → Int32) (a14 : Nat → Int32) (b15 : Nat → Int64) (b19 : Nat → Int64) (b20 : Nat → Int64) (b21 : Nat → Int64) (a24 : Nat → Int32) (a25 : Nat → Int32) (a26 : Nat → Int32) (a b : Int32) (g9 : Nat) (hM : kCs f (mC G h q i0 i1 i3 i7 i18 i22 i23 i27 j16 j17 a2 a4 a5 a6 b8 b9 b10 a11 a12 a13 a14 b15 b19 b20 b21 a24 a25 a26)) (hg0 : i7 = nI g9) (hg9 : g9 ≤ 8) : Met l yX9_isPlace wsX9_isPlace (rmX9_isPlace) (kP G B0 f [.ref h, .int a, .int b]) (kQi G B0 (fun r f1 => r = kbI (mIn a g9 ∧ mRg b (0) 3) ∧ f1 = f)) 0 0 (kAb B0) := by
  refine kMet (cc := cX9_isPlace) (maxL := 3) (ret := (some .boolean)) (by decide) rfl (Nat.le_of_ble_eq_true rfl) ?_
  intro p e s m args below meth c H locs Q ls C hX hl hr hlocks hnm hQ
  have hl : lv_has ls 3 [(0, .ref h), (1, .int a), (2, .int b)] := hl
  refine lv_aload_n C.x C.b dX9_isPlace_0 rfl (lv_at hl 0 rfl) ?_
  refine lv_iload_n C.x C.b dX9_isPlace_1 rfl (lv_at hl 1 rfl) ?_
  refine k_calli (va_runV (As := [.int a]) (rest := []) C.1 (kX9_isGasket l G B0 f h q i0 i1 i3 i7 i18 i22 i23 i27 j16 j17 a2 a4 a5 a6 b8 b9 b10 a11 a12 a13 a14 b15 b19 b20 b21 a24 a25 a26 a g9 hM hg0 (by omega)) (cwV 1 C.ts gX9_isPlace_X9_isGasket rfl rfl rfl ⟨rfl, hdX9_isPlace_X9_isGasket⟩ ⟨Nat.le_of_ble_eq_true rfl, Nat.le_of_ble_eq_true rfl⟩) (k_preV C hX (hM.at 0 rfl) rfl) rfl rfl hl.1 rfl (lv_room (Nat.le_of_ble_eq_true rfl)) dX9_isPlace_2 ⟨Nat.le_of_ble_eq_true rfl, Nat.le_of_ble_eq_true rfl⟩) hX (fun r2 f2 H locs hp2 hX => ?_)
  obtain ⟨hr2, hf2⟩ := hp2
  rw [hf2] at hX
  refine k_topi (y := (kbI (mIn a g9))) hr2 ?_
  refine lv_if_eq (tgt := 24) C.x C.b dX9_isPlace_5 (by decide) (fun c_5 => ?_) (fun c_5 => ?_)
  · skip
    have c_5 := kbI_0 c_5
    refine lv_iconst (v := nI 0) C.x C.b dX9_isPlace_24 (by decide) ?_
    exact k_zret C hX hr hlocks hQ (by omega) (by omega) (by first | exact kbI_01 _ | exact Or.inl rfl | exact Or.inr rfl) (by refine ⟨?_, rfl⟩; first | exact kbI_tN ⟨c_5, c_17⟩ | exact kbI_fN (fun h9 => c_5 h9.1) | exact kbI_fN (fun h9 => c_17 h9.2)) dX9_isPlace_25
  · skip
    have c_5 := kbI_1 c_5
    refine lv_iload_n C.x C.b dX9_isPlace_8 rfl (lv_at hl 2 rfl) ?_
    refine lv_i2l (v := b.toInt64) C.x C.b dX9_isPlace_9 rfl ?_
    refine lv_lconst (v := 0) C.x C.b dX9_isPlace_10 (by decide) ?_
    refine lv_ldc2 (v := 3) C.x C.b C.ow (C.ts _ lk_X9_isPlace_c144) dX9_isPlace_11 ?_
    refine k_calli (va_runS (As := [.long b.toInt64, .long 0, .long 3]) (rest := []) C.1 (kX9_isIn l G B0 f b.toInt64 0 3) (va_cwS 3 C.ts gX9_isPlace_X9_isIn rfl rfl rfl (hdX9_isPlace_X9_isIn) ⟨Nat.le_of_ble_eq_true rfl, Nat.le_of_ble_eq_true rfl⟩) (k_preS C hX) rfl rfl hl.1 rfl (lv_room (Nat.le_of_ble_eq_true rfl)) dX9_isPlace_14 ⟨Nat.le_of_ble_eq_true rfl, Nat.le_of_ble_eq_true rfl⟩) hX (fun r14 f14 H locs hp14 hX => ?_)
    obtain ⟨hr14, hf14⟩ := hp14
    rw [hf14] at hX
    refine k_topi (y := (kbI ((0 : Int64) ≤ b.toInt64 ∧ b.toInt64 ≤ 3))) hr14 ?_
    refine k_topi (y := (kbI (mRg b (0) 3))) (kbI_c (m_rg (by decide) (by decide))) ?_
    refine lv_if_eq (tgt := 24) C.x C.b dX9_isPlace_17 (by decide) (fun c_17 => ?_) (fun c_17 => ?_)
    · skip
      have c_17 := kbI_0 c_17
      refine lv_iconst (v := nI 0) C.x C.b dX9_isPlace_24 (by decide) ?_
      exact k_zret C hX hr hlocks hQ (by omega) (by omega) (by first | exact kbI_01 _ | exact Or.inl rfl | exact Or.inr rfl) (by refine ⟨?_, rfl⟩; first | exact kbI_tN ⟨c_5, c_17⟩ | exact kbI_fN (fun h9 => c_5 h9.1) | exact kbI_fN (fun h9 => c_17 h9.2)) dX9_isPlace_25
    · skip
      have c_17 := kbI_1 c_17
      refine lv_iconst (v := nI 1) C.x C.b dX9_isPlace_20 (by decide) ?_
      refine lv_goto (tgt := 25) C.x C.b dX9_isPlace_21 (by decide) ?_
      exact k_zret C hX hr hlocks hQ (by omega) (by omega) (by first | exact kbI_01 _ | exact Or.inl rfl | exact Or.inr rfl) (by refine ⟨?_, rfl⟩; first | exact kbI_tN ⟨c_5, c_17⟩ | exact kbI_fN (fun h9 => c_5 h9.1) | exact kbI_fN (fun h9 => c_17 h9.2)) dX9_isPlace_25

theorem hdX9_turn_X9_isPlace : yX9_isPlace.cls ≠ "java/lang/invoke/MethodHandle" ∧ yX9_isPlace.cls ≠ "java/lang/invoke/VarHandle" ∧ (parseMethodDescriptor yX9_isPlace.desc).map (fun d => d.parameters.length) = some 2 := by decide +kernel
theorem lk_X9_turn_f80 : Cond.fieldLink RX9 80 "KoebehallModel" "thrown" "I" ∈ wsX9_turn := by decide +kernel
theorem hin_X9_turn_RX9 : ∀ w ∈ u_ws RX9 TX9 28, w ∈ wsX9_turn := by decide +kernel
abbrev rmX9_turn_b1 : Room := { frames := 3, cells := 0, slots := 0, locals := 68 }
set_option maxHeartbeats 4000000 in
set_option maxRecDepth 100000 in
/-- X9_turn_b1 -/
theorem kX9_turn_b1 (l : Launch) (G : kG) (B0 : Nat) (f : kH) (h : Nat) (q : Nat → Nat) (i0 i1 i3 i7 i18 i22 i23 i27 : Int32) (j16 j17 : Int64) (a2 : Nat → Int32) (a4 : Nat → Int32) (a5 : Nat → Int32) (a6 : Nat → Int32) (b8 : Nat → Int64) (b9 : Nat → Int64) (b10 : Nat → Int64) (a11 : Nat → Int32) (a12 : Nat → Int32) (a13 : Nat → Int32) (a14 : Nat → Int32) (b15 : Nat → Int64) (b19 : Nat → Int64) (b20 : Nat → Int64) (b21 : Nat → Int64) (a24 : Nat → Int32) (a25 : Nat → Int32) (a26 : Nat → Int32) (a b : Int32) (g9 : Nat) (hM : kCs f (mC G h q i0 i1 i3 i7 i18 i22 i23 i27 j16 j17 a2 a4 a5 a6 b8 b9 b10 a11 a12 a13 a14 b15 b19 b20 b21 a24 a25 a26)) (hg0 : i7 = nI g9) (hg9 : g9 ≤ 8) (hv : ¬ (mIn a g9 ∧ mRg b (0) 3)) : Met l yX9_turn wsX9_turn (rmX9_turn_b1) (kP G B0 f [.ref h, .int a, .int b]) (kQl G B0 (fun r f1 => r = 0 ∧ kCs f1 (mC G h q i0 i1 i3 i7 i18 i22 i23 (nI 1) j16 j17 a2 a4 a5 a6 b8 b9 b10 a11 a12 a13 a14 b15 b19 b20 b21 a24 a25 a26) ∧ kOff (mAs h q) f f1)) 0 0 (kAb B0) := by
  refine kMet (cc := cX9_turn) (maxL := 3) (ret := (some .long)) (by decide) rfl (Nat.le_of_ble_eq_true rfl) ?_
  intro p e s m args below meth c H locs Q ls C hX hl hr hlocks hnm hQ
  have hO : kOff (mAs h q) f f := kOff.rf
  have hl : lv_has ls 3 [(0, .ref h), (1, .int a), (2, .int b)] := hl
  refine lv_aload_n C.x C.b dX9_turn_0 rfl (lv_at hl 0 rfl) ?_
  refine lv_aload_n C.x C.b dX9_turn_1 rfl (lv_at hl 0 rfl) ?_
  refine lv_iload_n C.x C.b dX9_turn_2 rfl (lv_at hl 1 rfl) ?_
  refine lv_iload_n C.x C.b dX9_turn_3 rfl (lv_at hl 2 rfl) ?_
  refine k_calli (va_runV (As := [.int a, .int b]) (rest := [.ref h]) C.1 (kX9_isPlace l G B0 f h q i0 i1 i3 i7 i18 i22 i23 i27 j16 j17 a2 a4 a5 a6 b8 b9 b10 a11 a12 a13 a14 b15 b19 b20 b21 a24 a25 a26 a b g9 hM hg0 hg9) (cwV 2 C.ts gX9_turn_X9_isPlace rfl rfl rfl ⟨rfl, hdX9_turn_X9_isPlace⟩ ⟨Nat.le_of_ble_eq_true rfl, Nat.le_of_ble_eq_true rfl⟩) (k_preV C hX (hM.at 0 rfl) rfl) rfl rfl hl.1 rfl (lv_room (Nat.le_of_ble_eq_true rfl)) dX9_turn_4 ⟨Nat.le_of_ble_eq_true rfl, Nat.le_of_ble_eq_true rfl⟩) hX (fun r4 f4 H locs hp4 hX => ?_)
  obtain ⟨hr4, hf4⟩ := hp4
  rw [hf4] at hX
  refine k_topi (y := (kbI (mIn a g9 ∧ mRg b (0) 3))) hr4 ?_
  refine lv_if_ne (tgt := 14) C.x C.b dX9_turn_7 (by decide) (fun c_7 => ?_) (fun c_7 => ?_)
  · exact absurd (kbI_1 c_7) (hv)
  refine lv_iconst (v := nI 1) C.x C.b dX9_turn_10 (by decide) ?_
  refine lv_goto (tgt := 37) C.x C.b dX9_turn_11 (by decide) ?_
  refine k_put (X := RX9) (T := TX9) (N := 28) (ty := .int) (v := .int (nI 1)) C hX (hM.at 0 rfl) rfl hin_X9_turn_RX9 tyX9_ok nmX9 27 (by decide) lk_X9_turn_f80 (fun _ h9 => h9) rfl (by decide +kernel) rfl rfl (Nat.le_of_ble_eq_true rfl) dX9_turn_37 (fun H locs hX => ?_)
  obtain ⟨g1, hX, hM, hO⟩ := kX.wr hX hM hO 0 rfl (List.mem_of_getElem? (i := 0) rfl)
  have hM : kCs g1 (mC G h q i0 i1 i3 i7 i18 i22 i23 (nI 1) j16 j17 a2 a4 a5 a6 b8 b9 b10 a11 a12 a13 a14 b15 b19 b20 b21 a24 a25 a26) := hM
  refine lv_aload_n C.x C.b dX9_turn_40 rfl (lv_at hl 0 rfl) ?_
  refine k_get (X := RX9) (T := TX9) (N := 28) (v := .int (nI 1)) C hX (hM.at 0 rfl) rfl hin_X9_turn_RX9 27 (by decide) lk_X9_turn_f80 (fun _ h9 => h9) rfl dX9_turn_41 ?_
  refine lv_if_le (tgt := 49) C.x C.b dX9_turn_44 (by decide) (fun c_44 => ?_) (fun c_44 => ?_)
  · exact absurd c_44 (by decide)
  refine lv_lconst (v := 0) C.x C.b dX9_turn_47 (by decide) ?_
  exact k_lret C hX hr hlocks hQ (by omega) (by omega) (⟨rfl, hM, hO⟩) dX9_turn_48

theorem lk_X9_turn_f29 : Cond.fieldLink RX9 29 "KoebehallModel" "curves" "[J" ∈ wsX9_turn := by decide +kernel
theorem hdX9_turn_X9_turned : yX9_turned.cls ≠ "java/lang/invoke/MethodHandle" ∧ yX9_turned.cls ≠ "java/lang/invoke/VarHandle" ∧ (parseMethodDescriptor yX9_turned.desc).map (fun d => d.parameters.length) = some 3 := by decide +kernel
theorem lk_X9_turn_c153 : Cond.constantLong RX9 153 (1000000000000000) ∈ wsX9_turn := by decide +kernel
abbrev rmX9_turn_b2 : Room := { frames := 3, cells := 0, slots := 0, locals := 68 }
set_option maxHeartbeats 4000000 in
set_option maxRecDepth 100000 in
/-- X9_turn_b2 -/
theorem kX9_turn_b2 (l : Launch) (G : kG) (B0 : Nat) (f : kH) (h : Nat) (q : Nat → Nat) (i0 i1 i3 i7 i18 i22 i23 i27 : Int32) (j16 j17 : Int64) (a2 : Nat → Int32) (a4 : Nat → Int32) (a5 : Nat → Int32) (a6 : Nat → Int32) (b8 : Nat → Int64) (b9 : Nat → Int64) (b10 : Nat → Int64) (a11 : Nat → Int32) (a12 : Nat → Int32) (a13 : Nat → Int32) (a14 : Nat → Int32) (b15 : Nat → Int64) (b19 : Nat → Int64) (b20 : Nat → Int64) (b21 : Nat → Int64) (a24 : Nat → Int32) (a25 : Nat → Int32) (a26 : Nat → Int32) (t k : Nat) (g9 : Nat) (hM : kCs f (mC G h q i0 i1 i3 i7 i18 i22 i23 i27 j16 j17 a2 a4 a5 a6 b8 b9 b10 a11 a12 a13 a14 b15 b19 b20 b21 a24 a25 a26)) (hg0 : i7 = nI g9) (hg9 : g9 ≤ 8) (ht : t < g9) (hk : k < 4) (hb : 1000000000000000 < mTurned b8 (4 * t) k) : Met l yX9_turn wsX9_turn (rmX9_turn_b2) (kP G B0 f [.ref h, .int (nI t), .int (nI k)]) (kQl G B0 (fun r f1 => r = 0 ∧ kCs f1 (mC G h q i0 i1 i3 i7 i18 i22 i23 (nI 2) j16 j17 a2 a4 a5 a6 b8 b9 b10 a11 a12 a13 a14 b15 b19 b20 b21 a24 a25 a26) ∧ kOff (mAs h q) f f1)) 0 0 (kAb B0) := by
  refine kMet (cc := cX9_turn) (maxL := 3) (ret := (some .long)) (by decide) rfl (Nat.le_of_ble_eq_true rfl) ?_
  intro p e s m args below meth c H locs Q ls C hX hl hr hlocks hnm hQ
  have hO : kOff (mAs h q) f f := kOff.rf
  have hl : lv_has ls 3 [(0, .ref h), (1, .int (nI t)), (2, .int (nI k))] := hl
  refine lv_aload_n C.x C.b dX9_turn_0 rfl (lv_at hl 0 rfl) ?_
  refine lv_aload_n C.x C.b dX9_turn_1 rfl (lv_at hl 0 rfl) ?_
  refine lv_iload_n C.x C.b dX9_turn_2 rfl (lv_at hl 1 rfl) ?_
  refine lv_iload_n C.x C.b dX9_turn_3 rfl (lv_at hl 2 rfl) ?_
  refine k_calli (va_runV (As := [.int (nI t), .int (nI k)]) (rest := [.ref h]) C.1 (kX9_isPlace l G B0 f h q i0 i1 i3 i7 i18 i22 i23 i27 j16 j17 a2 a4 a5 a6 b8 b9 b10 a11 a12 a13 a14 b15 b19 b20 b21 a24 a25 a26 (nI t) (nI k) g9 hM hg0 hg9) (cwV 2 C.ts gX9_turn_X9_isPlace rfl rfl rfl ⟨rfl, hdX9_turn_X9_isPlace⟩ ⟨Nat.le_of_ble_eq_true rfl, Nat.le_of_ble_eq_true rfl⟩) (k_preV C hX (hM.at 0 rfl) rfl) rfl rfl hl.1 rfl (lv_room (Nat.le_of_ble_eq_true rfl)) dX9_turn_4 ⟨Nat.le_of_ble_eq_true rfl, Nat.le_of_ble_eq_true rfl⟩) hX (fun r4 f4 H locs hp4 hX => ?_)
  obtain ⟨hr4, hf4⟩ := hp4
  rw [hf4] at hX
  refine k_topi (y := (kbI (mIn (nI t) g9 ∧ mRg (nI k) (0) 3))) hr4 ?_
  refine lv_if_ne (tgt := 14) C.x C.b dX9_turn_7 (by decide) (fun c_7 => ?_) (fun c_7 => ?_)
  rotate_left
  · exact absurd ((And.intro ((mIn_nI (by omega)).mpr ht) (by rw [mRg, nI_toInt (by omega)]; omega))) (kbI_0 c_7)
  refine lv_aload_n C.x C.b dX9_turn_14 rfl (lv_at hl 0 rfl) ?_
  refine k_get (X := RX9) (T := TX9) (N := 28) (v := .ref (q 8)) C hX (hM.at 0 rfl) rfl hin_X9_turn_RX9 8 (by decide) lk_X9_turn_f29 (fun _ h9 => h9) rfl dX9_turn_15 ?_
  refine lv_iconst (v := nI 4) C.x C.b dX9_turn_18 (by decide) ?_
  refine lv_iload_n C.x C.b dX9_turn_19 rfl (lv_at hl 1 rfl) ?_
  refine lv_imul C.x C.b dX9_turn_20 ?_
  refine k_topi (y := nI (4 * t)) (pk_mul _ _) ?_
  refine lv_iload_n C.x C.b dX9_turn_21 rfl (lv_at hl 2 rfl) ?_
  refine k_calll (va_runS (As := [.ref (q 8), .int (nI (4 * t)), .int (nI k)]) (rest := [.ref h]) C.1 (kX9_turned l G B0 f (q 8) 32 b8 (4 * t) k (kCs.one (hM.at 5 rfl)) (by omega) (by omega) (by omega)) (va_cwS 3 C.ts gX9_turn_X9_turned rfl rfl rfl (hdX9_turn_X9_turned) ⟨Nat.le_of_ble_eq_true rfl, Nat.le_of_ble_eq_true rfl⟩) (k_preS C hX) rfl rfl hl.1 rfl (lv_room (Nat.le_of_ble_eq_true rfl)) dX9_turn_22 ⟨Nat.le_of_ble_eq_true rfl, Nat.le_of_ble_eq_true rfl⟩) hX (fun r22 f22 H locs hp22 hX => ?_)
  obtain ⟨hr22, hf22⟩ := hp22
  rw [hf22] at hX
  refine k_topl (y := (mTurned b8 (4 * t) k)) hr22 ?_
  refine lv_ldc2 (v := 1000000000000000) C.x C.b C.ow (C.ts _ lk_X9_turn_c153) dX9_turn_25 ?_
  refine k_lcmp_le (tgt := 36) C.x C.b dX9_turn_28 dX9_turn_29 (by decide) (fun c_29 => ?_) (fun c_29 => ?_)
  · skip
    exact absurd hb c_29
  · skip
    refine lv_iconst (v := nI 2) C.x C.b dX9_turn_32 (by decide) ?_
    refine lv_goto (tgt := 37) C.x C.b dX9_turn_33 (by decide) ?_
    refine k_put (X := RX9) (T := TX9) (N := 28) (ty := .int) (v := .int (nI 2)) C hX (hM.at 0 rfl) rfl hin_X9_turn_RX9 tyX9_ok nmX9 27 (by decide) lk_X9_turn_f80 (fun _ h9 => h9) rfl (by decide +kernel) rfl rfl (Nat.le_of_ble_eq_true rfl) dX9_turn_37 (fun H locs hX => ?_)
    obtain ⟨g1, hX, hM, hO⟩ := kX.wr hX hM hO 0 rfl (List.mem_of_getElem? (i := 0) rfl)
    have hM : kCs g1 (mC G h q i0 i1 i3 i7 i18 i22 i23 (nI 2) j16 j17 a2 a4 a5 a6 b8 b9 b10 a11 a12 a13 a14 b15 b19 b20 b21 a24 a25 a26) := hM
    refine lv_aload_n C.x C.b dX9_turn_40 rfl (lv_at hl 0 rfl) ?_
    refine k_get (X := RX9) (T := TX9) (N := 28) (v := .int (nI 2)) C hX (hM.at 0 rfl) rfl hin_X9_turn_RX9 27 (by decide) lk_X9_turn_f80 (fun _ h9 => h9) rfl dX9_turn_41 ?_
    refine lv_if_le (tgt := 49) C.x C.b dX9_turn_44 (by decide) (fun c_44 => ?_) (fun c_44 => ?_)
    · exact absurd c_44 (by decide)
    refine lv_lconst (v := 0) C.x C.b dX9_turn_47 (by decide) ?_
    exact k_lret C hX hr hlocks hQ (by omega) (by omega) (⟨rfl, hM, hO⟩) dX9_turn_48

abbrev rmX9_turn : Room := { frames := 3, cells := 0, slots := 0, locals := 68 }
set_option maxHeartbeats 4000000 in
set_option maxRecDepth 100000 in
/-- X9_turn -/
theorem kX9_turn (l : Launch) (G : kG) (B0 : Nat) (f : kH) (h : Nat) (q : Nat → Nat) (i0 i1 i3 i7 i18 i22 i23 i27 : Int32) (j16 j17 : Int64) (a2 : Nat → Int32) (a4 : Nat → Int32) (a5 : Nat → Int32) (a6 : Nat → Int32) (b8 : Nat → Int64) (b9 : Nat → Int64) (b10 : Nat → Int64) (a11 : Nat → Int32) (a12 : Nat → Int32) (a13 : Nat → Int32) (a14 : Nat → Int32) (b15 : Nat → Int64) (b19 : Nat → Int64) (b20 : Nat → Int64) (b21 : Nat → Int64) (a24 : Nat → Int32) (a25 : Nat → Int32) (a26 : Nat → Int32) (t k : Nat) (g9 : Nat) (hM : kCs f (mC G h q i0 i1 i3 i7 i18 i22 i23 i27 j16 j17 a2 a4 a5 a6 b8 b9 b10 a11 a12 a13 a14 b15 b19 b20 b21 a24 a25 a26)) (hg0 : i7 = nI g9) (hg9 : g9 ≤ 8) (ht : t < g9) (hk : k < 4) (hb : ¬ 1000000000000000 < mTurned b8 (4 * t) k) : Met l yX9_turn wsX9_turn (rmX9_turn) (kP G B0 f [.ref h, .int (nI t), .int (nI k)]) (kQl G B0 (fun r f1 => r = mTurned b8 (4 * t) k ∧ kCs f1 (mC G h q i0 i1 i3 i7 i18 i22 i23 (nI 0) j16 j17 a2 a4 a5 a6 (vp_updL b8 (4 * t + k) (mTurned b8 (4 * t) k)) b9 b10 a11 a12 a13 a14 b15 b19 b20 b21 a24 a25 a26) ∧ kOff (mAs h q) f f1)) 0 0 (kAb B0) := by
  refine kMet (cc := cX9_turn) (maxL := 3) (ret := (some .long)) (by decide) rfl (Nat.le_of_ble_eq_true rfl) ?_
  intro p e s m args below meth c H locs Q ls C hX hl hr hlocks hnm hQ
  have hO : kOff (mAs h q) f f := kOff.rf
  have hl : lv_has ls 3 [(0, .ref h), (1, .int (nI t)), (2, .int (nI k))] := hl
  refine lv_aload_n C.x C.b dX9_turn_0 rfl (lv_at hl 0 rfl) ?_
  refine lv_aload_n C.x C.b dX9_turn_1 rfl (lv_at hl 0 rfl) ?_
  refine lv_iload_n C.x C.b dX9_turn_2 rfl (lv_at hl 1 rfl) ?_
  refine lv_iload_n C.x C.b dX9_turn_3 rfl (lv_at hl 2 rfl) ?_
  refine k_calli (va_runV (As := [.int (nI t), .int (nI k)]) (rest := [.ref h]) C.1 (kX9_isPlace l G B0 f h q i0 i1 i3 i7 i18 i22 i23 i27 j16 j17 a2 a4 a5 a6 b8 b9 b10 a11 a12 a13 a14 b15 b19 b20 b21 a24 a25 a26 (nI t) (nI k) g9 hM hg0 hg9) (cwV 2 C.ts gX9_turn_X9_isPlace rfl rfl rfl ⟨rfl, hdX9_turn_X9_isPlace⟩ ⟨Nat.le_of_ble_eq_true rfl, Nat.le_of_ble_eq_true rfl⟩) (k_preV C hX (hM.at 0 rfl) rfl) rfl rfl hl.1 rfl (lv_room (Nat.le_of_ble_eq_true rfl)) dX9_turn_4 ⟨Nat.le_of_ble_eq_true rfl, Nat.le_of_ble_eq_true rfl⟩) hX (fun r4 f4 H locs hp4 hX => ?_)
  obtain ⟨hr4, hf4⟩ := hp4
  rw [hf4] at hX
  refine k_topi (y := (kbI (mIn (nI t) g9 ∧ mRg (nI k) (0) 3))) hr4 ?_
  refine lv_if_ne (tgt := 14) C.x C.b dX9_turn_7 (by decide) (fun c_7 => ?_) (fun c_7 => ?_)
  rotate_left
  · exact absurd ((And.intro ((mIn_nI (by omega)).mpr ht) (by rw [mRg, nI_toInt (by omega)]; omega))) (kbI_0 c_7)
  refine lv_aload_n C.x C.b dX9_turn_14 rfl (lv_at hl 0 rfl) ?_
  refine k_get (X := RX9) (T := TX9) (N := 28) (v := .ref (q 8)) C hX (hM.at 0 rfl) rfl hin_X9_turn_RX9 8 (by decide) lk_X9_turn_f29 (fun _ h9 => h9) rfl dX9_turn_15 ?_
  refine lv_iconst (v := nI 4) C.x C.b dX9_turn_18 (by decide) ?_
  refine lv_iload_n C.x C.b dX9_turn_19 rfl (lv_at hl 1 rfl) ?_
  refine lv_imul C.x C.b dX9_turn_20 ?_
  refine k_topi (y := nI (4 * t)) (pk_mul _ _) ?_
  refine lv_iload_n C.x C.b dX9_turn_21 rfl (lv_at hl 2 rfl) ?_
  refine k_calll (va_runS (As := [.ref (q 8), .int (nI (4 * t)), .int (nI k)]) (rest := [.ref h]) C.1 (kX9_turned l G B0 f (q 8) 32 b8 (4 * t) k (kCs.one (hM.at 5 rfl)) (by omega) (by omega) (by omega)) (va_cwS 3 C.ts gX9_turn_X9_turned rfl rfl rfl (hdX9_turn_X9_turned) ⟨Nat.le_of_ble_eq_true rfl, Nat.le_of_ble_eq_true rfl⟩) (k_preS C hX) rfl rfl hl.1 rfl (lv_room (Nat.le_of_ble_eq_true rfl)) dX9_turn_22 ⟨Nat.le_of_ble_eq_true rfl, Nat.le_of_ble_eq_true rfl⟩) hX (fun r22 f22 H locs hp22 hX => ?_)
  obtain ⟨hr22, hf22⟩ := hp22
  rw [hf22] at hX
  refine k_topl (y := (mTurned b8 (4 * t) k)) hr22 ?_
  refine lv_ldc2 (v := 1000000000000000) C.x C.b C.ow (C.ts _ lk_X9_turn_c153) dX9_turn_25 ?_
  refine k_lcmp_le (tgt := 36) C.x C.b dX9_turn_28 dX9_turn_29 (by decide) (fun c_29 => ?_) (fun c_29 => ?_)
  · skip
    refine lv_iconst (v := nI 0) C.x C.b dX9_turn_36 (by decide) ?_
    refine k_put (X := RX9) (T := TX9) (N := 28) (ty := .int) (v := .int (nI 0)) C hX (hM.at 0 rfl) rfl hin_X9_turn_RX9 tyX9_ok nmX9 27 (by decide) lk_X9_turn_f80 (fun _ h9 => h9) rfl (by decide +kernel) rfl rfl (Nat.le_of_ble_eq_true rfl) dX9_turn_37 (fun H locs hX => ?_)
    obtain ⟨g1, hX, hM, hO⟩ := kX.wr hX hM hO 0 rfl (List.mem_of_getElem? (i := 0) rfl)
    have hM : kCs g1 (mC G h q i0 i1 i3 i7 i18 i22 i23 (nI 0) j16 j17 a2 a4 a5 a6 b8 b9 b10 a11 a12 a13 a14 b15 b19 b20 b21 a24 a25 a26) := hM
    refine lv_aload_n C.x C.b dX9_turn_40 rfl (lv_at hl 0 rfl) ?_
    refine k_get (X := RX9) (T := TX9) (N := 28) (v := .int (nI 0)) C hX (hM.at 0 rfl) rfl hin_X9_turn_RX9 27 (by decide) lk_X9_turn_f80 (fun _ h9 => h9) rfl dX9_turn_41 ?_
    refine lv_if_le (tgt := 49) C.x C.b dX9_turn_44 (by decide) (fun c_44 => ?_) (fun c_44 => ?_)
    rotate_left
    · exact absurd c_44 (by decide)
    refine lv_aload_n C.x C.b dX9_turn_49 rfl (lv_at hl 0 rfl) ?_
    refine k_get (X := RX9) (T := TX9) (N := 28) (v := .ref (q 8)) C hX (hM.at 0 rfl) rfl hin_X9_turn_RX9 8 (by decide) lk_X9_turn_f29 (fun _ h9 => h9) rfl dX9_turn_50 ?_
    refine lv_iconst (v := nI 4) C.x C.b dX9_turn_53 (by decide) ?_
    refine lv_iload_n C.x C.b dX9_turn_54 rfl (lv_at hl 1 rfl) ?_
    refine lv_imul C.x C.b dX9_turn_55 ?_
    refine k_topi (y := nI (4 * t)) (pk_mul _ _) ?_
    refine lv_iload_n C.x C.b dX9_turn_56 rfl (lv_at hl 2 rfl) ?_
    refine lv_iadd C.x C.b dX9_turn_57 ?_
    refine k_topi (y := nI ((4 * t) + k)) (nI_add _ _) ?_
    refine lv_aload_n C.x C.b dX9_turn_58 rfl (lv_at hl 0 rfl) ?_
    refine k_get (X := RX9) (T := TX9) (N := 28) (v := .ref (q 8)) C hX (hM.at 0 rfl) rfl hin_X9_turn_RX9 8 (by decide) lk_X9_turn_f29 (fun _ h9 => h9) rfl dX9_turn_59 ?_
    refine lv_iconst (v := nI 4) C.x C.b dX9_turn_62 (by decide) ?_
    refine lv_iload_n C.x C.b dX9_turn_63 rfl (lv_at hl 1 rfl) ?_
    refine lv_imul C.x C.b dX9_turn_64 ?_
    refine k_topi (y := nI (4 * t)) (pk_mul _ _) ?_
    refine lv_iload_n C.x C.b dX9_turn_65 rfl (lv_at hl 2 rfl) ?_
    refine k_calll (va_runS (As := [.ref (q 8), .int (nI (4 * t)), .int (nI k)]) (rest := [.int (nI ((4 * t) + k)), .ref (q 8)]) C.1 (kX9_turned l G B0 g1 (q 8) 32 b8 (4 * t) k (kCs.one (hM.at 5 rfl)) (by omega) (by omega) (by omega)) (va_cwS 3 C.ts gX9_turn_X9_turned rfl rfl rfl (hdX9_turn_X9_turned) ⟨Nat.le_of_ble_eq_true rfl, Nat.le_of_ble_eq_true rfl⟩) (k_preS C hX) rfl rfl hl.1 rfl (lv_room (Nat.le_of_ble_eq_true rfl)) dX9_turn_66 ⟨Nat.le_of_ble_eq_true rfl, Nat.le_of_ble_eq_true rfl⟩) hX (fun r66 f66 H locs hp66 hX => ?_)
    obtain ⟨hr66, hf66⟩ := hp66
    rw [hf66] at hX
    refine k_topl (y := (mTurned b8 (4 * t) k)) hr66 ?_
    refine k_last C hX (hM.at 5 rfl) (vp_in_nI (by omega) (by omega)) dX9_turn_69 (fun H locs hX => ?_)
    rw [nI_clamp (by omega)] at hX
    obtain ⟨g2, hX, hM, hO⟩ := kX.wr hX hM hO 5 rfl (List.mem_of_getElem? (i := 5) rfl)
    have hM : kCs g2 (mC G h q i0 i1 i3 i7 i18 i22 i23 (nI 0) j16 j17 a2 a4 a5 a6 (vp_updL b8 ((4 * t) + k) (mTurned b8 (4 * t) k)) b9 b10 a11 a12 a13 a14 b15 b19 b20 b21 a24 a25 a26) := hM
    refine lv_aload_n C.x C.b dX9_turn_70 rfl (lv_at hl 0 rfl) ?_
    refine k_get (X := RX9) (T := TX9) (N := 28) (v := .ref (q 8)) C hX (hM.at 0 rfl) rfl hin_X9_turn_RX9 8 (by decide) lk_X9_turn_f29 (fun _ h9 => h9) rfl dX9_turn_71 ?_
    refine lv_iconst (v := nI 4) C.x C.b dX9_turn_74 (by decide) ?_
    refine lv_iload_n C.x C.b dX9_turn_75 rfl (lv_at hl 1 rfl) ?_
    refine lv_imul C.x C.b dX9_turn_76 ?_
    refine k_topi (y := nI (4 * t)) (pk_mul _ _) ?_
    refine lv_iload_n C.x C.b dX9_turn_77 rfl (lv_at hl 2 rfl) ?_
    refine lv_iadd C.x C.b dX9_turn_78 ?_
    refine k_topi (y := nI ((4 * t) + k)) (nI_add _ _) ?_
    refine k_lald C hX (hM.at 5 rfl) (vp_in_nI (by omega) (by omega)) dX9_turn_79 ?_
    refine k_topl (y := (vp_updL b8 ((4 * t) + k) (mTurned b8 (4 * t) k)) ((4 * t) + k)) (by rw [nI_clamp (by omega)]) ?_
    exact k_lret C hX hr hlocks hQ (by omega) (by omega) (⟨by simp [vp_updL], hM, hO⟩) dX9_turn_80
  · skip
    exact absurd c_29 hb

theorem hdX9_curvature_X9_isPlace : yX9_isPlace.cls ≠ "java/lang/invoke/MethodHandle" ∧ yX9_isPlace.cls ≠ "java/lang/invoke/VarHandle" ∧ (parseMethodDescriptor yX9_isPlace.desc).map (fun d => d.parameters.length) = some 2 := by decide +kernel
theorem lk_X9_curvature_f80 : Cond.fieldLink RX9 80 "KoebehallModel" "thrown" "I" ∈ wsX9_curvature := by decide +kernel
theorem hin_X9_curvature_RX9 : ∀ w ∈ u_ws RX9 TX9 28, w ∈ wsX9_curvature := by decide +kernel
abbrev rmX9_curvature_b1 : Room := { frames := 3, cells := 0, slots := 0, locals := 68 }
set_option maxHeartbeats 4000000 in
set_option maxRecDepth 100000 in
/-- X9_curvature_b1 -/
theorem kX9_curvature_b1 (l : Launch) (G : kG) (B0 : Nat) (f : kH) (h : Nat) (q : Nat → Nat) (i0 i1 i3 i7 i18 i22 i23 i27 : Int32) (j16 j17 : Int64) (a2 : Nat → Int32) (a4 : Nat → Int32) (a5 : Nat → Int32) (a6 : Nat → Int32) (b8 : Nat → Int64) (b9 : Nat → Int64) (b10 : Nat → Int64) (a11 : Nat → Int32) (a12 : Nat → Int32) (a13 : Nat → Int32) (a14 : Nat → Int32) (b15 : Nat → Int64) (b19 : Nat → Int64) (b20 : Nat → Int64) (b21 : Nat → Int64) (a24 : Nat → Int32) (a25 : Nat → Int32) (a26 : Nat → Int32) (a b : Int32) (g9 : Nat) (hM : kCs f (mC G h q i0 i1 i3 i7 i18 i22 i23 i27 j16 j17 a2 a4 a5 a6 b8 b9 b10 a11 a12 a13 a14 b15 b19 b20 b21 a24 a25 a26)) (hg0 : i7 = nI g9) (hg9 : g9 ≤ 8) (hv : ¬ (mIn a g9 ∧ mRg b (0) 3)) : Met l yX9_curvature wsX9_curvature (rmX9_curvature_b1) (kP G B0 f [.ref h, .int a, .int b]) (kQl G B0 (fun r f1 => r = 0 ∧ kCs f1 (mC G h q i0 i1 i3 i7 i18 i22 i23 (nI 1) j16 j17 a2 a4 a5 a6 b8 b9 b10 a11 a12 a13 a14 b15 b19 b20 b21 a24 a25 a26) ∧ kOff (mAs h q) f f1)) 0 0 (kAb B0) := by
  refine kMet (cc := cX9_curvature) (maxL := 3) (ret := (some .long)) (by decide) rfl (Nat.le_of_ble_eq_true rfl) ?_
  intro p e s m args below meth c H locs Q ls C hX hl hr hlocks hnm hQ
  have hO : kOff (mAs h q) f f := kOff.rf
  have hl : lv_has ls 3 [(0, .ref h), (1, .int a), (2, .int b)] := hl
  refine lv_aload_n C.x C.b dX9_curvature_0 rfl (lv_at hl 0 rfl) ?_
  refine lv_aload_n C.x C.b dX9_curvature_1 rfl (lv_at hl 0 rfl) ?_
  refine lv_iload_n C.x C.b dX9_curvature_2 rfl (lv_at hl 1 rfl) ?_
  refine lv_iload_n C.x C.b dX9_curvature_3 rfl (lv_at hl 2 rfl) ?_
  refine k_calli (va_runV (As := [.int a, .int b]) (rest := [.ref h]) C.1 (kX9_isPlace l G B0 f h q i0 i1 i3 i7 i18 i22 i23 i27 j16 j17 a2 a4 a5 a6 b8 b9 b10 a11 a12 a13 a14 b15 b19 b20 b21 a24 a25 a26 a b g9 hM hg0 hg9) (cwV 2 C.ts gX9_curvature_X9_isPlace rfl rfl rfl ⟨rfl, hdX9_curvature_X9_isPlace⟩ ⟨Nat.le_of_ble_eq_true rfl, Nat.le_of_ble_eq_true rfl⟩) (k_preV C hX (hM.at 0 rfl) rfl) rfl rfl hl.1 rfl (lv_room (Nat.le_of_ble_eq_true rfl)) dX9_curvature_4 ⟨Nat.le_of_ble_eq_true rfl, Nat.le_of_ble_eq_true rfl⟩) hX (fun r4 f4 H locs hp4 hX => ?_)
  obtain ⟨hr4, hf4⟩ := hp4
  rw [hf4] at hX
  refine k_topi (y := (kbI (mIn a g9 ∧ mRg b (0) 3))) hr4 ?_
  refine lv_if_eq (tgt := 14) C.x C.b dX9_curvature_7 (by decide) (fun c_7 => ?_) (fun c_7 => ?_)
  rotate_left
  · exact absurd (kbI_1 c_7) (hv)
  refine lv_iconst (v := nI 1) C.x C.b dX9_curvature_14 (by decide) ?_
  refine k_put (X := RX9) (T := TX9) (N := 28) (ty := .int) (v := .int (nI 1)) C hX (hM.at 0 rfl) rfl hin_X9_curvature_RX9 tyX9_ok nmX9 27 (by decide) lk_X9_curvature_f80 (fun _ h9 => h9) rfl (by decide +kernel) rfl rfl (Nat.le_of_ble_eq_true rfl) dX9_curvature_15 (fun H locs hX => ?_)
  obtain ⟨g1, hX, hM, hO⟩ := kX.wr hX hM hO 0 rfl (List.mem_of_getElem? (i := 0) rfl)
  have hM : kCs g1 (mC G h q i0 i1 i3 i7 i18 i22 i23 (nI 1) j16 j17 a2 a4 a5 a6 b8 b9 b10 a11 a12 a13 a14 b15 b19 b20 b21 a24 a25 a26) := hM
  refine lv_aload_n C.x C.b dX9_curvature_18 rfl (lv_at hl 0 rfl) ?_
  refine k_get (X := RX9) (T := TX9) (N := 28) (v := .int (nI 1)) C hX (hM.at 0 rfl) rfl hin_X9_curvature_RX9 27 (by decide) lk_X9_curvature_f80 (fun _ h9 => h9) rfl dX9_curvature_19 ?_
  refine lv_if_le (tgt := 29) C.x C.b dX9_curvature_22 (by decide) (fun c_22 => ?_) (fun c_22 => ?_)
  · exact absurd c_22 (by decide)
  refine lv_lconst (v := 0) C.x C.b dX9_curvature_25 (by decide) ?_
  refine lv_goto (tgt := 39) C.x C.b dX9_curvature_26 (by decide) ?_
  exact k_lret C hX hr hlocks hQ (by omega) (by omega) (⟨rfl, hM, hO⟩) dX9_curvature_39

theorem lk_X9_curvature_f29 : Cond.fieldLink RX9 29 "KoebehallModel" "curves" "[J" ∈ wsX9_curvature := by decide +kernel
abbrev rmX9_curvature : Room := { frames := 3, cells := 0, slots := 0, locals := 68 }
set_option maxHeartbeats 4000000 in
set_option maxRecDepth 100000 in
/-- X9_curvature -/
theorem kX9_curvature (l : Launch) (G : kG) (B0 : Nat) (f : kH) (h : Nat) (q : Nat → Nat) (i0 i1 i3 i7 i18 i22 i23 i27 : Int32) (j16 j17 : Int64) (a2 : Nat → Int32) (a4 : Nat → Int32) (a5 : Nat → Int32) (a6 : Nat → Int32) (b8 : Nat → Int64) (b9 : Nat → Int64) (b10 : Nat → Int64) (a11 : Nat → Int32) (a12 : Nat → Int32) (a13 : Nat → Int32) (a14 : Nat → Int32) (b15 : Nat → Int64) (b19 : Nat → Int64) (b20 : Nat → Int64) (b21 : Nat → Int64) (a24 : Nat → Int32) (a25 : Nat → Int32) (a26 : Nat → Int32) (t k : Nat) (g9 : Nat) (hM : kCs f (mC G h q i0 i1 i3 i7 i18 i22 i23 i27 j16 j17 a2 a4 a5 a6 b8 b9 b10 a11 a12 a13 a14 b15 b19 b20 b21 a24 a25 a26)) (hg0 : i7 = nI g9) (hg9 : g9 ≤ 8) (ht : t < g9) (hk : k < 4) : Met l yX9_curvature wsX9_curvature (rmX9_curvature) (kP G B0 f [.ref h, .int (nI t), .int (nI k)]) (kQl G B0 (fun r f1 => r = b8 (4 * t + k) ∧ kCs f1 (mC G h q i0 i1 i3 i7 i18 i22 i23 (nI 0) j16 j17 a2 a4 a5 a6 b8 b9 b10 a11 a12 a13 a14 b15 b19 b20 b21 a24 a25 a26) ∧ kOff (mAs h q) f f1)) 0 0 (kAb B0) := by
  refine kMet (cc := cX9_curvature) (maxL := 3) (ret := (some .long)) (by decide) rfl (Nat.le_of_ble_eq_true rfl) ?_
  intro p e s m args below meth c H locs Q ls C hX hl hr hlocks hnm hQ
  have hO : kOff (mAs h q) f f := kOff.rf
  have hl : lv_has ls 3 [(0, .ref h), (1, .int (nI t)), (2, .int (nI k))] := hl
  refine lv_aload_n C.x C.b dX9_curvature_0 rfl (lv_at hl 0 rfl) ?_
  refine lv_aload_n C.x C.b dX9_curvature_1 rfl (lv_at hl 0 rfl) ?_
  refine lv_iload_n C.x C.b dX9_curvature_2 rfl (lv_at hl 1 rfl) ?_
  refine lv_iload_n C.x C.b dX9_curvature_3 rfl (lv_at hl 2 rfl) ?_
  refine k_calli (va_runV (As := [.int (nI t), .int (nI k)]) (rest := [.ref h]) C.1 (kX9_isPlace l G B0 f h q i0 i1 i3 i7 i18 i22 i23 i27 j16 j17 a2 a4 a5 a6 b8 b9 b10 a11 a12 a13 a14 b15 b19 b20 b21 a24 a25 a26 (nI t) (nI k) g9 hM hg0 hg9) (cwV 2 C.ts gX9_curvature_X9_isPlace rfl rfl rfl ⟨rfl, hdX9_curvature_X9_isPlace⟩ ⟨Nat.le_of_ble_eq_true rfl, Nat.le_of_ble_eq_true rfl⟩) (k_preV C hX (hM.at 0 rfl) rfl) rfl rfl hl.1 rfl (lv_room (Nat.le_of_ble_eq_true rfl)) dX9_curvature_4 ⟨Nat.le_of_ble_eq_true rfl, Nat.le_of_ble_eq_true rfl⟩) hX (fun r4 f4 H locs hp4 hX => ?_)
  obtain ⟨hr4, hf4⟩ := hp4
  rw [hf4] at hX
  refine k_topi (y := (kbI (mIn (nI t) g9 ∧ mRg (nI k) (0) 3))) hr4 ?_
  refine lv_if_eq (tgt := 14) C.x C.b dX9_curvature_7 (by decide) (fun c_7 => ?_) (fun c_7 => ?_)
  · exact absurd ((And.intro ((mIn_nI (by omega)).mpr ht) (by rw [mRg, nI_toInt (by omega)]; omega))) (kbI_0 c_7)
  refine lv_iconst (v := nI 0) C.x C.b dX9_curvature_10 (by decide) ?_
  refine lv_goto (tgt := 15) C.x C.b dX9_curvature_11 (by decide) ?_
  refine k_put (X := RX9) (T := TX9) (N := 28) (ty := .int) (v := .int (nI 0)) C hX (hM.at 0 rfl) rfl hin_X9_curvature_RX9 tyX9_ok nmX9 27 (by decide) lk_X9_curvature_f80 (fun _ h9 => h9) rfl (by decide +kernel) rfl rfl (Nat.le_of_ble_eq_true rfl) dX9_curvature_15 (fun H locs hX => ?_)
  obtain ⟨g1, hX, hM, hO⟩ := kX.wr hX hM hO 0 rfl (List.mem_of_getElem? (i := 0) rfl)
  have hM : kCs g1 (mC G h q i0 i1 i3 i7 i18 i22 i23 (nI 0) j16 j17 a2 a4 a5 a6 b8 b9 b10 a11 a12 a13 a14 b15 b19 b20 b21 a24 a25 a26) := hM
  refine lv_aload_n C.x C.b dX9_curvature_18 rfl (lv_at hl 0 rfl) ?_
  refine k_get (X := RX9) (T := TX9) (N := 28) (v := .int (nI 0)) C hX (hM.at 0 rfl) rfl hin_X9_curvature_RX9 27 (by decide) lk_X9_curvature_f80 (fun _ h9 => h9) rfl dX9_curvature_19 ?_
  refine lv_if_le (tgt := 29) C.x C.b dX9_curvature_22 (by decide) (fun c_22 => ?_) (fun c_22 => ?_)
  rotate_left
  · exact absurd c_22 (by decide)
  refine lv_aload_n C.x C.b dX9_curvature_29 rfl (lv_at hl 0 rfl) ?_
  refine k_get (X := RX9) (T := TX9) (N := 28) (v := .ref (q 8)) C hX (hM.at 0 rfl) rfl hin_X9_curvature_RX9 8 (by decide) lk_X9_curvature_f29 (fun _ h9 => h9) rfl dX9_curvature_30 ?_
  refine lv_iconst (v := nI 4) C.x C.b dX9_curvature_33 (by decide) ?_
  refine lv_iload_n C.x C.b dX9_curvature_34 rfl (lv_at hl 1 rfl) ?_
  refine lv_imul C.x C.b dX9_curvature_35 ?_
  refine k_topi (y := nI (4 * t)) (pk_mul _ _) ?_
  refine lv_iload_n C.x C.b dX9_curvature_36 rfl (lv_at hl 2 rfl) ?_
  refine lv_iadd C.x C.b dX9_curvature_37 ?_
  refine k_topi (y := nI ((4 * t) + k)) (nI_add _ _) ?_
  refine k_lald C hX (hM.at 5 rfl) (vp_in_nI (by omega) (by omega)) dX9_curvature_38 ?_
  refine k_topl (y := b8 ((4 * t) + k)) (by rw [nI_clamp (by omega)]) ?_
  exact k_lret C hX hr hlocks hQ (by omega) (by omega) (⟨rfl, hM, hO⟩) dX9_curvature_39

abbrev rmX9_rest : Room := { frames := 0, cells := 0, slots := 0, locals := 0 }
set_option maxHeartbeats 4000000 in
set_option maxRecDepth 100000 in
/-- X9_rest -/
theorem kX9_rest (l : Launch) (G : kG) (B0 : Nat) (f : kH) (x : Int64) (b : Nat) (hb : ¬ (nI b).toInt64 = 0) : Met l yX9_rest wsX9_rest (rmX9_rest) (kP G B0 f [.long x, .int (nI b)]) (kQi G B0 (fun r f1 => r = mRest x b ∧ f1 = f)) 0 0 (kAb B0) := by
  refine kMet (cc := cX9_rest) (maxL := 3) (ret := (some .int)) (by decide) rfl (Nat.le_of_ble_eq_true rfl) ?_
  intro p e s m args below meth c H locs Q ls C hX hl hr hlocks hnm hQ
  have hl : lv_has ls 3 [(0, .long x), (2, .int (nI b))] := hl
  refine lv_lload_n C.x C.b dX9_rest_0 rfl (lv_at hl 0 rfl) ?_
  refine lv_iload_n C.x C.b dX9_rest_1 rfl (lv_at hl 1 rfl) ?_
  refine lv_i2l (v := (nI b).toInt64) C.x C.b dX9_rest_2 rfl ?_
  refine lv_lrem C.x C.b dX9_rest_3 (hb) ?_
  refine lv_iload_n C.x C.b dX9_rest_4 rfl (lv_at hl 1 rfl) ?_
  refine lv_i2l (v := (nI b).toInt64) C.x C.b dX9_rest_5 rfl ?_
  refine lv_ladd C.x C.b dX9_rest_6 ?_
  refine lv_iload_n C.x C.b dX9_rest_7 rfl (lv_at hl 1 rfl) ?_
  refine lv_i2l (v := (nI b).toInt64) C.x C.b dX9_rest_8 rfl ?_
  refine lv_lrem C.x C.b dX9_rest_9 (hb) ?_
  refine lv_l2i (v := (((x - x / ((nI b).toInt64) * ((nI b).toInt64)) + ((nI b).toInt64)) - ((x - x / ((nI b).toInt64) * ((nI b).toInt64)) + ((nI b).toInt64)) / ((nI b).toInt64) * ((nI b).toInt64)).toInt32) C.x C.b dX9_rest_10 rfl ?_
  exact k_iret C hX hr hlocks hQ (by omega) (by omega) (⟨rfl, rfl⟩) dX9_rest_11

abbrev rmX9_cross : Room := { frames := 0, cells := 0, slots := 0, locals := 0 }
set_option maxHeartbeats 4000000 in
set_option maxRecDepth 100000 in
/-- X9_cross -/
theorem kX9_cross (l : Launch) (G : kG) (B0 : Nat) (f : kH) (a b c9 e9 : Int32) : Met l yX9_cross wsX9_cross (rmX9_cross) (kP G B0 f [.int a, .int b, .int c9, .int e9]) (kQl G B0 (fun r f1 => r = mCross a b c9 e9 ∧ f1 = f)) 0 0 (kAb B0) := by
  refine kMet (cc := cX9_cross) (maxL := 4) (ret := (some .long)) (by decide) rfl (Nat.le_of_ble_eq_true rfl) ?_
  intro p e s m args below meth c H locs Q ls C hX hl hr hlocks hnm hQ
  have hl : lv_has ls 4 [(0, .int a), (1, .int b), (2, .int c9), (3, .int e9)] := hl
  refine lv_iload_n C.x C.b dX9_cross_0 rfl (lv_at hl 0 rfl) ?_
  refine lv_i2l (v := a.toInt64) C.x C.b dX9_cross_1 rfl ?_
  refine lv_iload_n C.x C.b dX9_cross_2 rfl (lv_at hl 3 rfl) ?_
  refine lv_i2l (v := e9.toInt64) C.x C.b dX9_cross_3 rfl ?_
  refine lv_lmul C.x C.b dX9_cross_4 ?_
  refine lv_iload_n C.x C.b dX9_cross_5 rfl (lv_at hl 1 rfl) ?_
  refine lv_i2l (v := b.toInt64) C.x C.b dX9_cross_6 rfl ?_
  refine lv_iload_n C.x C.b dX9_cross_7 rfl (lv_at hl 2 rfl) ?_
  refine lv_i2l (v := c9.toInt64) C.x C.b dX9_cross_8 rfl ?_
  refine lv_lmul C.x C.b dX9_cross_9 ?_
  refine lv_lsub C.x C.b dX9_cross_10 ?_
  exact k_lret C hX hr hlocks hQ (by omega) (by omega) (⟨rfl, rfl⟩) dX9_cross_11

abbrev rmX9_floor : Room := { frames := 0, cells := 0, slots := 0, locals := 0 }
set_option maxHeartbeats 4000000 in
set_option maxRecDepth 100000 in
/-- X9_floor -/
theorem kX9_floor (l : Launch) (G : kG) (B0 : Nat) (f : kH) (x y : Int64) (hy : ¬ y = 0) : Met l yX9_floor wsX9_floor (rmX9_floor) (kP G B0 f [.long x, .long y]) (kQl G B0 (fun r f1 => r = mFloor x y ∧ f1 = f)) 0 0 (kAb B0) := by
  refine kMet (cc := cX9_floor) (maxL := 4) (ret := (some .long)) (by decide) rfl (Nat.le_of_ble_eq_true rfl) ?_
  intro p e s m args below meth c H locs Q ls C hX hl hr hlocks hnm hQ
  have hl : lv_has ls 4 [(0, .long x), (2, .long y)] := hl
  refine lv_lload_n C.x C.b dX9_floor_0 rfl (lv_at hl 0 rfl) ?_
  refine lv_lconst (v := 0) C.x C.b dX9_floor_1 (by decide) ?_
  refine k_lcmp_ge (tgt := 14) C.x C.b dX9_floor_2 dX9_floor_3 (by decide) (fun c_3 => ?_) (fun c_3 => ?_)
  · skip
    refine lv_lload_n C.x C.b dX9_floor_14 rfl (lv_at hl 0 rfl) ?_
    refine lv_lload_n C.x C.b dX9_floor_15 rfl (lv_at hl 1 rfl) ?_
    refine lv_ldiv C.x C.b dX9_floor_16 (hy) ?_
    refine lv_goto (tgt := 25) C.x C.b dX9_floor_17 (by decide) ?_
    exact k_lret C hX hr hlocks hQ (by omega) (by omega) (by refine ⟨?_, rfl⟩; first | (rw [mFloor, if_pos ⟨c_3, c_11⟩]; done) | (rw [mFloor, if_neg (fun z => absurd z.1 c_3)]; done) | (rw [mFloor, if_neg (fun z => z.2 c_11)]; done)) dX9_floor_25
  · skip
    refine lv_lload_n C.x C.b dX9_floor_6 rfl (lv_at hl 0 rfl) ?_
    refine lv_lload_n C.x C.b dX9_floor_7 rfl (lv_at hl 1 rfl) ?_
    refine lv_lrem C.x C.b dX9_floor_8 (hy) ?_
    refine lv_lconst (v := 0) C.x C.b dX9_floor_9 (by decide) ?_
    refine k_lcmp_ne (tgt := 20) C.x C.b dX9_floor_10 dX9_floor_11 (by decide) (fun c_11 => ?_) (fun c_11 => ?_)
    · skip
      refine lv_lload_n C.x C.b dX9_floor_20 rfl (lv_at hl 0 rfl) ?_
      refine lv_lload_n C.x C.b dX9_floor_21 rfl (lv_at hl 1 rfl) ?_
      refine lv_ldiv C.x C.b dX9_floor_22 (hy) ?_
      refine lv_lconst (v := 1) C.x C.b dX9_floor_23 (by decide) ?_
      refine lv_lsub C.x C.b dX9_floor_24 ?_
      exact k_lret C hX hr hlocks hQ (by omega) (by omega) (by refine ⟨?_, rfl⟩; first | (rw [mFloor, if_pos ⟨c_3, c_11⟩]; done) | (rw [mFloor, if_neg (fun z => absurd z.1 c_3)]; done) | (rw [mFloor, if_neg (fun z => z.2 c_11)]; done)) dX9_floor_25
    · skip
      refine lv_lload_n C.x C.b dX9_floor_14 rfl (lv_at hl 0 rfl) ?_
      refine lv_lload_n C.x C.b dX9_floor_15 rfl (lv_at hl 1 rfl) ?_
      refine lv_ldiv C.x C.b dX9_floor_16 (hy) ?_
      refine lv_goto (tgt := 25) C.x C.b dX9_floor_17 (by decide) ?_
      exact k_lret C hX hr hlocks hQ (by omega) (by omega) (by refine ⟨?_, rfl⟩; first | (rw [mFloor, if_pos ⟨c_3, c_11⟩]; done) | (rw [mFloor, if_neg (fun z => absurd z.1 c_3)]; done) | (rw [mFloor, if_neg (fun z => z.2 c_11)]; done)) dX9_floor_25

abbrev rmX9_divisor : Room := { frames := 0, cells := 0, slots := 0, locals := 0 }
set_option maxHeartbeats 4000000 in
set_option maxRecDepth 100000 in
/-- X9_divisor -/
theorem kX9_divisor (l : Launch) (G : kG) (B0 : Nat) (f : kH) (x y : Int64) (N : Nat) (h1 : ∀ i, i < N → ¬ (mEu (mAbs x) (mAbs y) i).2 = 0) (h2 : (mEu (mAbs x) (mAbs y) N).2 = 0) : Met l yX9_divisor wsX9_divisor (rmX9_divisor) (kP G B0 f [.long x, .long y]) (kQl G B0 (fun r f1 => r = (mEu (mAbs x) (mAbs y) N).1 ∧ f1 = f)) 0 0 (kAb B0) := by
  refine kMet (cc := cX9_divisor) (maxL := 10) (ret := (some .long)) (by decide) rfl (Nat.le_of_ble_eq_true rfl) ?_
  intro p e s m args below meth c H locs Q ls C hX hl hr hlocks hnm hQ
  have hl : lv_has ls 10 [(0, .long x), (2, .long y)] := hl
  refine lv_lload_n C.x C.b dX9_divisor_0 rfl (lv_at hl 0 rfl) ?_
  refine lv_lconst (v := 0) C.x C.b dX9_divisor_1 (by decide) ?_
  have J12 : ∀ (ls : Array Slot), lv_has ls 10 [(0, .long x), (2, .long y)] → ∀ (H : Heap) (locs : List Loc), kX G B0 s f H locs → W p l e (rmX9_divisor) s m args below meth c H locs 0 0 Q (F0 m 12 ls [.long (mAbs x)]) := by
    intro ls hl H locs hX
    refine lv_lstore (lv' := [(4, .long (mAbs x)), (0, .long x), (2, .long y)]) C.x C.b dX9_divisor_12 hl (by decide) rfl (fun ls hl => ?_)
    refine lv_lload_n C.x C.b dX9_divisor_14 rfl (lv_at hl 2 rfl) ?_
    refine lv_lconst (v := 0) C.x C.b dX9_divisor_15 (by decide) ?_
    have J26 : ∀ (ls : Array Slot), lv_has ls 10 [(4, .long (mAbs x)), (0, .long x), (2, .long y)] → ∀ (H : Heap) (locs : List Loc), kX G B0 s f H locs → W p l e (rmX9_divisor) s m args below meth c H locs 0 0 Q (F0 m 26 ls [.long (mAbs y)]) := by
      intro ls hl H locs hX
      refine lv_lstore (lv' := [(6, .long (mAbs y)), (4, .long (mAbs x)), (0, .long x), (2, .long y)]) C.x C.b dX9_divisor_26 hl (by decide) rfl (fun ls hl => ?_)
      have LOOP28 : ∀ (n : Nat) (i : Nat), (i ≤ N) → (N - i) < n → ∀ (ls : Array Slot), lv_has ls 10 [(4, .long ((mEu (mAbs x) (mAbs y) i).1)), (6, .long ((mEu (mAbs x) (mAbs y) i).2))] → ∀ (H : Heap) (locs : List Loc), kX G B0 s f H locs → W p l e (rmX9_divisor) s m args below meth c H locs 0 0 Q (F0 m 28 ls []) := by
        intro n28
        induction n28 with
        | zero => intro i hi hn; exact absurd hn (Nat.not_lt_zero _)
        | succ n28 ih28 =>
          intro i hi hn ls hl H locs hX
          refine lv_lload C.x C.b dX9_divisor_28 (lv_at hl 1 rfl) ?_
          refine lv_lconst (v := 0) C.x C.b dX9_divisor_30 (by decide) ?_
          refine k_lcmp_eq (tgt := 53) C.x C.b dX9_divisor_31 dX9_divisor_32 (by decide) (fun c_32 => ?_) (fun c_32 => ?_)
          · skip
            have hi9 : i = N := by rcases Nat.lt_or_ge i N with q9 | q9; exact absurd c_32 (h1 i q9); omega
            refine lv_lload C.x C.b dX9_divisor_53 (lv_at hl 0 rfl) ?_
            exact k_lret C hX hr hlocks hQ (by omega) (by omega) (⟨by rw [hi9], rfl⟩) dX9_divisor_55
          · skip
            have hlt : i < N := by rcases Nat.lt_or_ge i N with q9 | q9; exact q9; exact absurd (by rw [show i = N by omega]; exact h2) c_32
            refine lv_lload C.x C.b dX9_divisor_35 (lv_at hl 0 rfl) ?_
            refine lv_lload C.x C.b dX9_divisor_37 (lv_at hl 1 rfl) ?_
            refine lv_lrem C.x C.b dX9_divisor_39 (c_32) ?_
            refine lv_lstore (lv' := [(8, .long (((mEu (mAbs x) (mAbs y) i).1) - ((mEu (mAbs x) (mAbs y) i).1) / ((mEu (mAbs x) (mAbs y) i).2) * ((mEu (mAbs x) (mAbs y) i).2))), (4, .long ((mEu (mAbs x) (mAbs y) i).1)), (6, .long ((mEu (mAbs x) (mAbs y) i).2))]) C.x C.b dX9_divisor_40 hl (by decide) rfl (fun ls hl => ?_)
            refine lv_lload C.x C.b dX9_divisor_42 (lv_at hl 2 rfl) ?_
            refine lv_lstore (lv' := [(4, .long ((mEu (mAbs x) (mAbs y) i).2)), (8, .long (((mEu (mAbs x) (mAbs y) i).1) - ((mEu (mAbs x) (mAbs y) i).1) / ((mEu (mAbs x) (mAbs y) i).2) * ((mEu (mAbs x) (mAbs y) i).2))), (6, .long ((mEu (mAbs x) (mAbs y) i).2))]) C.x C.b dX9_divisor_44 hl (by decide) rfl (fun ls hl => ?_)
            refine lv_lload C.x C.b dX9_divisor_46 (lv_at hl 1 rfl) ?_
            refine lv_lstore (lv' := [(6, .long (((mEu (mAbs x) (mAbs y) i).1) - ((mEu (mAbs x) (mAbs y) i).1) / ((mEu (mAbs x) (mAbs y) i).2) * ((mEu (mAbs x) (mAbs y) i).2))), (4, .long ((mEu (mAbs x) (mAbs y) i).2)), (8, .long (((mEu (mAbs x) (mAbs y) i).1) - ((mEu (mAbs x) (mAbs y) i).1) / ((mEu (mAbs x) (mAbs y) i).2) * ((mEu (mAbs x) (mAbs y) i).2)))]) C.x C.b dX9_divisor_48 hl (by decide) rfl (fun ls hl => ?_)
            refine lv_goto (tgt := 28) C.x C.b dX9_divisor_50 (by decide) ?_
            exact ih28 (i + 1) (by omega) (by omega) ls (lv_sub hl [1, 0] rfl) _ _ hX
      exact LOOP28 _ 0 (Nat.zero_le _) (Nat.lt_succ_self _) ls (lv_sub hl [1, 0] rfl) _ _ hX
    refine k_lcmp_ge (tgt := 25) C.x C.b dX9_divisor_16 dX9_divisor_17 (by decide) (fun c_17 => ?_) (fun c_17 => ?_)
    · skip
      refine lv_lload_n C.x C.b dX9_divisor_25 rfl (lv_at hl 2 rfl) ?_
      refine k_topl (y := (mAbs y)) (by first | (rw [mAbs, if_pos c_17]) | (rw [mAbs, if_neg c_17])) ?_
      exact J26 ls (lv_sub hl [0, 1, 2] rfl) _ _ hX
    · skip
      refine lv_lload_n C.x C.b dX9_divisor_20 rfl (lv_at hl 2 rfl) ?_
      refine lv_lneg C.x C.b dX9_divisor_21 ?_
      refine lv_goto (tgt := 26) C.x C.b dX9_divisor_22 (by decide) ?_
      refine k_topl (y := (mAbs y)) (by first | (rw [mAbs, if_pos c_17]) | (rw [mAbs, if_neg c_17])) ?_
      exact J26 ls (lv_sub hl [0, 1, 2] rfl) _ _ hX
  refine k_lcmp_ge (tgt := 11) C.x C.b dX9_divisor_2 dX9_divisor_3 (by decide) (fun c_3 => ?_) (fun c_3 => ?_)
  · skip
    refine lv_lload_n C.x C.b dX9_divisor_11 rfl (lv_at hl 0 rfl) ?_
    refine k_topl (y := (mAbs x)) (by first | (rw [mAbs, if_pos c_3]) | (rw [mAbs, if_neg c_3])) ?_
    exact J12 ls (lv_sub hl [0, 1] rfl) _ _ hX
  · skip
    refine lv_lload_n C.x C.b dX9_divisor_6 rfl (lv_at hl 0 rfl) ?_
    refine lv_lneg C.x C.b dX9_divisor_7 ?_
    refine lv_goto (tgt := 12) C.x C.b dX9_divisor_8 (by decide) ?_
    refine k_topl (y := (mAbs x)) (by first | (rw [mAbs, if_pos c_3]) | (rw [mAbs, if_neg c_3])) ?_
    exact J12 ls (lv_sub hl [0, 1] rfl) _ _ hX

theorem lk_X9_isFraction_c117 : Cond.constantLong RX9 117 (-1000000000) ∈ wsX9_isFraction := by decide +kernel
theorem lk_X9_isFraction_c119 : Cond.constantLong RX9 119 (1000000000) ∈ wsX9_isFraction := by decide +kernel
theorem hdX9_isFraction_X9_isIn : yX9_isIn.cls ≠ "java/lang/invoke/MethodHandle" ∧ yX9_isIn.cls ≠ "java/lang/invoke/VarHandle" ∧ (parseMethodDescriptor yX9_isIn.desc).map (fun d => d.parameters.length) = some 3 := by decide +kernel
theorem hdX9_isFraction_X9_divisor : yX9_divisor.cls ≠ "java/lang/invoke/MethodHandle" ∧ yX9_divisor.cls ≠ "java/lang/invoke/VarHandle" ∧ (parseMethodDescriptor yX9_divisor.desc).map (fun d => d.parameters.length) = some 2 := by decide +kernel
abbrev rmX9_isFraction : Room := { frames := 1, cells := 0, slots := 0, locals := 29 }
set_option maxHeartbeats 4000000 in
set_option maxRecDepth 100000 in
/-- X9_isFraction -/
theorem kX9_isFraction (l : Launch) (G : kG) (B0 : Nat) (f : kH) (a b : Int32) (m9 : Nat) (hm : m9 < 2 ^ 31) : Met l yX9_isFraction wsX9_isFraction (rmX9_isFraction) (kP G B0 f [.int a, .int b, .int (nI m9)]) (kQi G B0 (fun r f1 => r = kbI (mFr a b m9) ∧ f1 = f)) 0 0 (kAb B0) := by
  refine kMet (cc := cX9_isFraction) (maxL := 3) (ret := (some .boolean)) (by decide) rfl (Nat.le_of_ble_eq_true rfl) ?_
  intro p e s m args below meth c H locs Q ls C hX hl hr hlocks hnm hQ
  have hl : lv_has ls 3 [(0, .int a), (1, .int b), (2, .int (nI m9))] := hl
  refine lv_iload_n C.x C.b dX9_isFraction_0 rfl (lv_at hl 0 rfl) ?_
  refine lv_i2l (v := a.toInt64) C.x C.b dX9_isFraction_1 rfl ?_
  refine lv_ldc2 (v := -1000000000) C.x C.b C.ow (C.ts _ lk_X9_isFraction_c117) dX9_isFraction_2 ?_
  refine lv_ldc2 (v := 1000000000) C.x C.b C.ow (C.ts _ lk_X9_isFraction_c119) dX9_isFraction_5 ?_
  refine k_calli (va_runS (As := [.long a.toInt64, .long (-1000000000), .long 1000000000]) (rest := []) C.1 (kX9_isIn l G B0 f a.toInt64 (-1000000000) 1000000000) (va_cwS 3 C.ts gX9_isFraction_X9_isIn rfl rfl rfl (hdX9_isFraction_X9_isIn) ⟨Nat.le_of_ble_eq_true rfl, Nat.le_of_ble_eq_true rfl⟩) (k_preS C hX) rfl rfl hl.1 rfl (lv_room (Nat.le_of_ble_eq_true rfl)) dX9_isFraction_8 ⟨Nat.le_of_ble_eq_true rfl, Nat.le_of_ble_eq_true rfl⟩) hX (fun r8 f8 H locs hp8 hX => ?_)
  obtain ⟨hr8, hf8⟩ := hp8
  rw [hf8] at hX
  refine k_topi (y := (kbI (((-1000000000) : Int64) ≤ a.toInt64 ∧ a.toInt64 ≤ 1000000000))) hr8 ?_
  refine k_topi (y := (kbI (mRg a (-1000000000) 1000000000))) (kbI_c (m_rg (by decide) (by decide))) ?_
  refine lv_if_eq (tgt := 43) C.x C.b dX9_isFraction_11 (by decide) (fun c_11 => ?_) (fun c_11 => ?_)
  · skip
    have c_11 := kbI_0 c_11
    refine lv_iconst (v := nI 0) C.x C.b dX9_isFraction_43 (by decide) ?_
    exact k_zret C hX hr hlocks hQ (by omega) (by omega) (by first | exact kbI_01 _ | exact Or.inl rfl | exact Or.inr rfl) (by refine ⟨?_, rfl⟩; first | exact kbI_tN ⟨c_11, c_24, (mGcd_1 (mGcd_lt a b)).mp c_36⟩ | exact kbI_fN (fun h9 => c_11 h9.1) | exact kbI_fN (fun h9 => c_24 h9.2.1) | exact kbI_fN (fun h9 => c_36 ((mGcd_1 (mGcd_lt a b)).mpr h9.2.2))) dX9_isFraction_44
  · skip
    have c_11 := kbI_1 c_11
    refine lv_iload_n C.x C.b dX9_isFraction_14 rfl (lv_at hl 1 rfl) ?_
    refine lv_i2l (v := b.toInt64) C.x C.b dX9_isFraction_15 rfl ?_
    refine lv_iload_n C.x C.b dX9_isFraction_16 rfl (lv_at hl 2 rfl) ?_
    refine lv_i2l (v := (nI m9).toInt64) C.x C.b dX9_isFraction_17 rfl ?_
    refine lv_ldc2 (v := 1000000000) C.x C.b C.ow (C.ts _ lk_X9_isFraction_c119) dX9_isFraction_18 ?_
    refine k_calli (va_runS (As := [.long b.toInt64, .long ((nI m9).toInt64), .long 1000000000]) (rest := []) C.1 (kX9_isIn l G B0 f b.toInt64 ((nI m9).toInt64) 1000000000) (va_cwS 3 C.ts gX9_isFraction_X9_isIn rfl rfl rfl (hdX9_isFraction_X9_isIn) ⟨Nat.le_of_ble_eq_true rfl, Nat.le_of_ble_eq_true rfl⟩) (k_preS C hX) rfl rfl hl.1 rfl (lv_room (Nat.le_of_ble_eq_true rfl)) dX9_isFraction_21 ⟨Nat.le_of_ble_eq_true rfl, Nat.le_of_ble_eq_true rfl⟩) hX (fun r21 f21 H locs hp21 hX => ?_)
    obtain ⟨hr21, hf21⟩ := hp21
    rw [hf21] at hX
    refine k_topi (y := (kbI (((nI m9).toInt64 : Int64) ≤ b.toInt64 ∧ b.toInt64 ≤ 1000000000))) hr21 ?_
    refine k_topi (y := (kbI (mRg b m9 1000000000))) (kbI_c (m_rg (by rw [Int32.toInt_toInt64, nI_toInt hm]) (by decide))) ?_
    refine lv_if_eq (tgt := 43) C.x C.b dX9_isFraction_24 (by decide) (fun c_24 => ?_) (fun c_24 => ?_)
    · skip
      have c_24 := kbI_0 c_24
      refine lv_iconst (v := nI 0) C.x C.b dX9_isFraction_43 (by decide) ?_
      exact k_zret C hX hr hlocks hQ (by omega) (by omega) (by first | exact kbI_01 _ | exact Or.inl rfl | exact Or.inr rfl) (by refine ⟨?_, rfl⟩; first | exact kbI_tN ⟨c_11, c_24, (mGcd_1 (mGcd_lt a b)).mp c_36⟩ | exact kbI_fN (fun h9 => c_11 h9.1) | exact kbI_fN (fun h9 => c_24 h9.2.1) | exact kbI_fN (fun h9 => c_36 ((mGcd_1 (mGcd_lt a b)).mpr h9.2.2))) dX9_isFraction_44
    · skip
      have c_24 := kbI_1 c_24
      obtain ⟨N, hN1, hN2⟩ := mGcd_at a b
      refine lv_iload_n C.x C.b dX9_isFraction_27 rfl (lv_at hl 0 rfl) ?_
      refine lv_i2l (v := a.toInt64) C.x C.b dX9_isFraction_28 rfl ?_
      refine lv_iload_n C.x C.b dX9_isFraction_29 rfl (lv_at hl 1 rfl) ?_
      refine lv_i2l (v := b.toInt64) C.x C.b dX9_isFraction_30 rfl ?_
      refine k_calll (va_runS (As := [.long a.toInt64, .long b.toInt64]) (rest := []) C.1 (kX9_divisor l G B0 f a.toInt64 b.toInt64 N hN1 (by rw [hN2])) (va_cwS 2 C.ts gX9_isFraction_X9_divisor rfl rfl rfl (hdX9_isFraction_X9_divisor) ⟨Nat.le_of_ble_eq_true rfl, Nat.le_of_ble_eq_true rfl⟩) (k_preS C hX) rfl rfl hl.1 rfl (lv_room (Nat.le_of_ble_eq_true rfl)) dX9_isFraction_31 ⟨Nat.le_of_ble_eq_true rfl, Nat.le_of_ble_eq_true rfl⟩) hX (fun r31 f31 H locs hp31 hX => ?_)
      obtain ⟨hr31, hf31⟩ := hp31
      rw [hf31] at hX
      refine k_topl (y := ((mEu (mAbs a.toInt64) (mAbs b.toInt64) N).1)) hr31 ?_
      refine k_topl (y := (lN (Nat.gcd a.toInt.natAbs b.toInt.natAbs))) (by rw [hN2]) ?_
      refine lv_lconst (v := 1) C.x C.b dX9_isFraction_34 (by decide) ?_
      refine k_lcmp_ne (tgt := 43) C.x C.b dX9_isFraction_35 dX9_isFraction_36 (by decide) (fun c_36 => ?_) (fun c_36 => ?_)
      · skip
        refine lv_iconst (v := nI 0) C.x C.b dX9_isFraction_43 (by decide) ?_
        exact k_zret C hX hr hlocks hQ (by omega) (by omega) (by first | exact kbI_01 _ | exact Or.inl rfl | exact Or.inr rfl) (by refine ⟨?_, rfl⟩; first | exact kbI_tN ⟨c_11, c_24, (mGcd_1 (mGcd_lt a b)).mp c_36⟩ | exact kbI_fN (fun h9 => c_11 h9.1) | exact kbI_fN (fun h9 => c_24 h9.2.1) | exact kbI_fN (fun h9 => c_36 ((mGcd_1 (mGcd_lt a b)).mpr h9.2.2))) dX9_isFraction_44
      · skip
        refine lv_iconst (v := nI 1) C.x C.b dX9_isFraction_39 (by decide) ?_
        refine lv_goto (tgt := 44) C.x C.b dX9_isFraction_40 (by decide) ?_
        exact k_zret C hX hr hlocks hQ (by omega) (by omega) (by first | exact kbI_01 _ | exact Or.inl rfl | exact Or.inr rfl) (by refine ⟨?_, rfl⟩; first | exact kbI_tN ⟨c_11, c_24, (mGcd_1 (mGcd_lt a b)).mp c_36⟩ | exact kbI_fN (fun h9 => c_11 h9.1) | exact kbI_fN (fun h9 => c_24 h9.2.1) | exact kbI_fN (fun h9 => c_36 ((mGcd_1 (mGcd_lt a b)).mpr h9.2.2))) dX9_isFraction_44

theorem hdX9_ford_X9_isFraction : yX9_isFraction.cls ≠ "java/lang/invoke/MethodHandle" ∧ yX9_isFraction.cls ≠ "java/lang/invoke/VarHandle" ∧ (parseMethodDescriptor yX9_isFraction.desc).map (fun d => d.parameters.length) = some 3 := by decide +kernel
theorem lk_X9_ford_f80 : Cond.fieldLink RX9 80 "KoebehallModel" "thrown" "I" ∈ wsX9_ford := by decide +kernel
theorem hin_X9_ford_RX9 : ∀ w ∈ u_ws RX9 TX9 28, w ∈ wsX9_ford := by decide +kernel
abbrev rmX9_ford_b1 : Room := { frames := 2, cells := 0, slots := 0, locals := 51 }
set_option maxHeartbeats 4000000 in
set_option maxRecDepth 100000 in
/-- X9_ford_b1 -/
theorem kX9_ford_b1 (l : Launch) (G : kG) (B0 : Nat) (f : kH) (h : Nat) (q : Nat → Nat) (i0 i1 i3 i7 i18 i22 i23 i27 : Int32) (j16 j17 : Int64) (a2 : Nat → Int32) (a4 : Nat → Int32) (a5 : Nat → Int32) (a6 : Nat → Int32) (b8 : Nat → Int64) (b9 : Nat → Int64) (b10 : Nat → Int64) (a11 : Nat → Int32) (a12 : Nat → Int32) (a13 : Nat → Int32) (a14 : Nat → Int32) (b15 : Nat → Int64) (b19 : Nat → Int64) (b20 : Nat → Int64) (b21 : Nat → Int64) (a24 : Nat → Int32) (a25 : Nat → Int32) (a26 : Nat → Int32) (a b c9 e9 : Int32) (hM : kCs f (mC G h q i0 i1 i3 i7 i18 i22 i23 i27 j16 j17 a2 a4 a5 a6 b8 b9 b10 a11 a12 a13 a14 b15 b19 b20 b21 a24 a25 a26)) (hv : ¬ (mFr a b 1 ∧ mFr c9 e9 1)) : Met l yX9_ford wsX9_ford (rmX9_ford_b1) (kP G B0 f [.ref h, .int a, .int b, .int c9, .int e9]) (kQi G B0 (fun r f1 => r = nI 0 ∧ kCs f1 (mC G h q i0 i1 i3 i7 i18 i22 i23 (nI 1) j16 j17 a2 a4 a5 a6 b8 b9 b10 a11 a12 a13 a14 b15 b19 b20 b21 a24 a25 a26) ∧ kOff (mAs h q) f f1)) 0 0 (kAb B0) := by
  refine kMet (cc := cX9_ford) (maxL := 7) (ret := (some .int)) (by decide) rfl (Nat.le_of_ble_eq_true rfl) ?_
  intro p e s m args below meth c H locs Q ls C hX hl hr hlocks hnm hQ
  have hO : kOff (mAs h q) f f := kOff.rf
  have hl : lv_has ls 7 [(0, .ref h), (1, .int a), (2, .int b), (3, .int c9), (4, .int e9)] := hl
  refine lv_aload_n C.x C.b dX9_ford_0 rfl (lv_at hl 0 rfl) ?_
  refine lv_iload_n C.x C.b dX9_ford_1 rfl (lv_at hl 1 rfl) ?_
  refine lv_iload_n C.x C.b dX9_ford_2 rfl (lv_at hl 2 rfl) ?_
  refine lv_iconst (v := nI 1) C.x C.b dX9_ford_3 (by decide) ?_
  refine k_calli (va_runS (As := [.int a, .int b, .int (nI 1)]) (rest := [.ref h]) C.1 (kX9_isFraction l G B0 f a b 1 (by omega)) (va_cwS 3 C.ts gX9_ford_X9_isFraction rfl rfl rfl (hdX9_ford_X9_isFraction) ⟨Nat.le_of_ble_eq_true rfl, Nat.le_of_ble_eq_true rfl⟩) (k_preS C hX) rfl rfl hl.1 rfl (lv_room (Nat.le_of_ble_eq_true rfl)) dX9_ford_4 ⟨Nat.le_of_ble_eq_true rfl, Nat.le_of_ble_eq_true rfl⟩) hX (fun r4 f4 H locs hp4 hX => ?_)
  obtain ⟨hr4, hf4⟩ := hp4
  rw [hf4] at hX
  refine k_topi (y := (kbI (mFr a b 1))) hr4 ?_
  refine lv_if_eq (tgt := 24) C.x C.b dX9_ford_7 (by decide) (fun c_7 => ?_) (fun c_7 => ?_)
  · skip
    have c_7 := kbI_0 c_7
    refine lv_iconst (v := nI 1) C.x C.b dX9_ford_24 (by decide) ?_
    refine k_put (X := RX9) (T := TX9) (N := 28) (ty := .int) (v := .int (nI 1)) C hX (hM.at 0 rfl) rfl hin_X9_ford_RX9 tyX9_ok nmX9 27 (by decide) lk_X9_ford_f80 (fun _ h9 => h9) rfl (by decide +kernel) rfl rfl (Nat.le_of_ble_eq_true rfl) dX9_ford_25 (fun H locs hX => ?_)
    obtain ⟨g1, hX, hM, hO⟩ := kX.wr hX hM hO 0 rfl (List.mem_of_getElem? (i := 0) rfl)
    have hM : kCs g1 (mC G h q i0 i1 i3 i7 i18 i22 i23 (nI 1) j16 j17 a2 a4 a5 a6 b8 b9 b10 a11 a12 a13 a14 b15 b19 b20 b21 a24 a25 a26) := hM
    refine lv_aload_n C.x C.b dX9_ford_28 rfl (lv_at hl 0 rfl) ?_
    refine k_get (X := RX9) (T := TX9) (N := 28) (v := .int (nI 1)) C hX (hM.at 0 rfl) rfl hin_X9_ford_RX9 27 (by decide) lk_X9_ford_f80 (fun _ h9 => h9) rfl dX9_ford_29 ?_
    refine lv_if_le (tgt := 39) C.x C.b dX9_ford_32 (by decide) (fun c_32 => ?_) (fun c_32 => ?_)
    · exact absurd c_32 (by decide)
    refine lv_lconst (v := 0) C.x C.b dX9_ford_35 (by decide) ?_
    refine lv_goto (tgt := 47) C.x C.b dX9_ford_36 (by decide) ?_
    refine lv_lstore (lv' := [(5, .long 0), (0, .ref h), (1, .int a), (2, .int b), (3, .int c9), (4, .int e9)]) C.x C.b dX9_ford_47 hl (by decide) rfl (fun ls hl => ?_)
    refine lv_aload_n C.x C.b dX9_ford_49 rfl (lv_at hl 1 rfl) ?_
    refine k_get (X := RX9) (T := TX9) (N := 28) (v := .int (nI 1)) C hX (hM.at 0 rfl) rfl hin_X9_ford_RX9 27 (by decide) lk_X9_ford_f80 (fun _ h9 => h9) rfl dX9_ford_50 ?_
    refine lv_if_le (tgt := 60) C.x C.b dX9_ford_53 (by decide) (fun c_53 => ?_) (fun c_53 => ?_)
    · exact absurd c_53 (by decide)
    refine lv_iconst (v := nI 0) C.x C.b dX9_ford_56 (by decide) ?_
    refine lv_goto (tgt := 92) C.x C.b dX9_ford_57 (by decide) ?_
    exact k_iret C hX hr hlocks hQ (by omega) (by omega) (⟨rfl, hM, hO⟩) dX9_ford_92
  · skip
    have c_7 := kbI_1 c_7
    refine lv_iload_n C.x C.b dX9_ford_10 rfl (lv_at hl 3 rfl) ?_
    refine lv_iload C.x C.b dX9_ford_11 (lv_at hl 4 rfl) ?_
    refine lv_iconst (v := nI 1) C.x C.b dX9_ford_13 (by decide) ?_
    refine k_calli (va_runS (As := [.int c9, .int e9, .int (nI 1)]) (rest := [.ref h]) C.1 (kX9_isFraction l G B0 f c9 e9 1 (by omega)) (va_cwS 3 C.ts gX9_ford_X9_isFraction rfl rfl rfl (hdX9_ford_X9_isFraction) ⟨Nat.le_of_ble_eq_true rfl, Nat.le_of_ble_eq_true rfl⟩) (k_preS C hX) rfl rfl hl.1 rfl (lv_room (Nat.le_of_ble_eq_true rfl)) dX9_ford_14 ⟨Nat.le_of_ble_eq_true rfl, Nat.le_of_ble_eq_true rfl⟩) hX (fun r14 f14 H locs hp14 hX => ?_)
    obtain ⟨hr14, hf14⟩ := hp14
    rw [hf14] at hX
    refine k_topi (y := (kbI (mFr c9 e9 1))) hr14 ?_
    refine lv_if_eq (tgt := 24) C.x C.b dX9_ford_17 (by decide) (fun c_17 => ?_) (fun c_17 => ?_)
    · skip
      have c_17 := kbI_0 c_17
      refine lv_iconst (v := nI 1) C.x C.b dX9_ford_24 (by decide) ?_
      refine k_put (X := RX9) (T := TX9) (N := 28) (ty := .int) (v := .int (nI 1)) C hX (hM.at 0 rfl) rfl hin_X9_ford_RX9 tyX9_ok nmX9 27 (by decide) lk_X9_ford_f80 (fun _ h9 => h9) rfl (by decide +kernel) rfl rfl (Nat.le_of_ble_eq_true rfl) dX9_ford_25 (fun H locs hX => ?_)
      obtain ⟨g2, hX, hM, hO⟩ := kX.wr hX hM hO 0 rfl (List.mem_of_getElem? (i := 0) rfl)
      have hM : kCs g2 (mC G h q i0 i1 i3 i7 i18 i22 i23 (nI 1) j16 j17 a2 a4 a5 a6 b8 b9 b10 a11 a12 a13 a14 b15 b19 b20 b21 a24 a25 a26) := hM
      refine lv_aload_n C.x C.b dX9_ford_28 rfl (lv_at hl 0 rfl) ?_
      refine k_get (X := RX9) (T := TX9) (N := 28) (v := .int (nI 1)) C hX (hM.at 0 rfl) rfl hin_X9_ford_RX9 27 (by decide) lk_X9_ford_f80 (fun _ h9 => h9) rfl dX9_ford_29 ?_
      refine lv_if_le (tgt := 39) C.x C.b dX9_ford_32 (by decide) (fun c_32 => ?_) (fun c_32 => ?_)
      · exact absurd c_32 (by decide)
      refine lv_lconst (v := 0) C.x C.b dX9_ford_35 (by decide) ?_
      refine lv_goto (tgt := 47) C.x C.b dX9_ford_36 (by decide) ?_
      refine lv_lstore (lv' := [(5, .long 0), (0, .ref h), (1, .int a), (2, .int b), (3, .int c9), (4, .int e9)]) C.x C.b dX9_ford_47 hl (by decide) rfl (fun ls hl => ?_)
      refine lv_aload_n C.x C.b dX9_ford_49 rfl (lv_at hl 1 rfl) ?_
      refine k_get (X := RX9) (T := TX9) (N := 28) (v := .int (nI 1)) C hX (hM.at 0 rfl) rfl hin_X9_ford_RX9 27 (by decide) lk_X9_ford_f80 (fun _ h9 => h9) rfl dX9_ford_50 ?_
      refine lv_if_le (tgt := 60) C.x C.b dX9_ford_53 (by decide) (fun c_53 => ?_) (fun c_53 => ?_)
      · exact absurd c_53 (by decide)
      refine lv_iconst (v := nI 0) C.x C.b dX9_ford_56 (by decide) ?_
      refine lv_goto (tgt := 92) C.x C.b dX9_ford_57 (by decide) ?_
      exact k_iret C hX hr hlocks hQ (by omega) (by omega) (⟨rfl, hM, hO⟩) dX9_ford_92
    · skip
      have c_17 := kbI_1 c_17
      exact absurd ⟨c_7, c_17⟩ hv

theorem hdX9_ford_X9_cross : yX9_cross.cls ≠ "java/lang/invoke/MethodHandle" ∧ yX9_cross.cls ≠ "java/lang/invoke/VarHandle" ∧ (parseMethodDescriptor yX9_cross.desc).map (fun d => d.parameters.length) = some 4 := by decide +kernel
theorem lk_X9_ford_c181 : Cond.constantLong RX9 181 (-1) ∈ wsX9_ford := by decide +kernel
abbrev rmX9_ford : Room := { frames := 2, cells := 0, slots := 0, locals := 51 }
set_option maxHeartbeats 4000000 in
set_option maxRecDepth 100000 in
/-- X9_ford -/
theorem kX9_ford (l : Launch) (G : kG) (B0 : Nat) (f : kH) (h : Nat) (q : Nat → Nat) (i0 i1 i3 i7 i18 i22 i23 i27 : Int32) (j16 j17 : Int64) (a2 : Nat → Int32) (a4 : Nat → Int32) (a5 : Nat → Int32) (a6 : Nat → Int32) (b8 : Nat → Int64) (b9 : Nat → Int64) (b10 : Nat → Int64) (a11 : Nat → Int32) (a12 : Nat → Int32) (a13 : Nat → Int32) (a14 : Nat → Int32) (b15 : Nat → Int64) (b19 : Nat → Int64) (b20 : Nat → Int64) (b21 : Nat → Int64) (a24 : Nat → Int32) (a25 : Nat → Int32) (a26 : Nat → Int32) (a b c9 e9 : Int32) (hM : kCs f (mC G h q i0 i1 i3 i7 i18 i22 i23 i27 j16 j17 a2 a4 a5 a6 b8 b9 b10 a11 a12 a13 a14 b15 b19 b20 b21 a24 a25 a26)) (hv : mFr a b 1 ∧ mFr c9 e9 1) : Met l yX9_ford wsX9_ford (rmX9_ford) (kP G B0 f [.ref h, .int a, .int b, .int c9, .int e9]) (kQi G B0 (fun r f1 => r = mFord (mCross a b c9 e9) ∧ kCs f1 (mC G h q i0 i1 i3 i7 i18 i22 i23 (nI 0) j16 j17 a2 a4 a5 a6 b8 b9 b10 a11 a12 a13 a14 b15 b19 b20 b21 a24 a25 a26) ∧ kOff (mAs h q) f f1)) 0 0 (kAb B0) := by
  refine kMet (cc := cX9_ford) (maxL := 7) (ret := (some .int)) (by decide) rfl (Nat.le_of_ble_eq_true rfl) ?_
  intro p e s m args below meth c H locs Q ls C hX hl hr hlocks hnm hQ
  have hO : kOff (mAs h q) f f := kOff.rf
  have hl : lv_has ls 7 [(0, .ref h), (1, .int a), (2, .int b), (3, .int c9), (4, .int e9)] := hl
  refine lv_aload_n C.x C.b dX9_ford_0 rfl (lv_at hl 0 rfl) ?_
  refine lv_iload_n C.x C.b dX9_ford_1 rfl (lv_at hl 1 rfl) ?_
  refine lv_iload_n C.x C.b dX9_ford_2 rfl (lv_at hl 2 rfl) ?_
  refine lv_iconst (v := nI 1) C.x C.b dX9_ford_3 (by decide) ?_
  refine k_calli (va_runS (As := [.int a, .int b, .int (nI 1)]) (rest := [.ref h]) C.1 (kX9_isFraction l G B0 f a b 1 (by omega)) (va_cwS 3 C.ts gX9_ford_X9_isFraction rfl rfl rfl (hdX9_ford_X9_isFraction) ⟨Nat.le_of_ble_eq_true rfl, Nat.le_of_ble_eq_true rfl⟩) (k_preS C hX) rfl rfl hl.1 rfl (lv_room (Nat.le_of_ble_eq_true rfl)) dX9_ford_4 ⟨Nat.le_of_ble_eq_true rfl, Nat.le_of_ble_eq_true rfl⟩) hX (fun r4 f4 H locs hp4 hX => ?_)
  obtain ⟨hr4, hf4⟩ := hp4
  rw [hf4] at hX
  refine k_topi (y := (kbI (mFr a b 1))) hr4 ?_
  refine lv_if_eq (tgt := 24) C.x C.b dX9_ford_7 (by decide) (fun c_7 => ?_) (fun c_7 => ?_)
  · exact absurd (hv.1) (kbI_0 c_7)
  refine lv_iload_n C.x C.b dX9_ford_10 rfl (lv_at hl 3 rfl) ?_
  refine lv_iload C.x C.b dX9_ford_11 (lv_at hl 4 rfl) ?_
  refine lv_iconst (v := nI 1) C.x C.b dX9_ford_13 (by decide) ?_
  refine k_calli (va_runS (As := [.int c9, .int e9, .int (nI 1)]) (rest := [.ref h]) C.1 (kX9_isFraction l G B0 f c9 e9 1 (by omega)) (va_cwS 3 C.ts gX9_ford_X9_isFraction rfl rfl rfl (hdX9_ford_X9_isFraction) ⟨Nat.le_of_ble_eq_true rfl, Nat.le_of_ble_eq_true rfl⟩) (k_preS C hX) rfl rfl hl.1 rfl (lv_room (Nat.le_of_ble_eq_true rfl)) dX9_ford_14 ⟨Nat.le_of_ble_eq_true rfl, Nat.le_of_ble_eq_true rfl⟩) hX (fun r14 f14 H locs hp14 hX => ?_)
  obtain ⟨hr14, hf14⟩ := hp14
  rw [hf14] at hX
  refine k_topi (y := (kbI (mFr c9 e9 1))) hr14 ?_
  refine lv_if_eq (tgt := 24) C.x C.b dX9_ford_17 (by decide) (fun c_17 => ?_) (fun c_17 => ?_)
  · exact absurd (hv.2) (kbI_0 c_17)
  refine lv_iconst (v := nI 0) C.x C.b dX9_ford_20 (by decide) ?_
  refine lv_goto (tgt := 25) C.x C.b dX9_ford_21 (by decide) ?_
  refine k_put (X := RX9) (T := TX9) (N := 28) (ty := .int) (v := .int (nI 0)) C hX (hM.at 0 rfl) rfl hin_X9_ford_RX9 tyX9_ok nmX9 27 (by decide) lk_X9_ford_f80 (fun _ h9 => h9) rfl (by decide +kernel) rfl rfl (Nat.le_of_ble_eq_true rfl) dX9_ford_25 (fun H locs hX => ?_)
  obtain ⟨g1, hX, hM, hO⟩ := kX.wr hX hM hO 0 rfl (List.mem_of_getElem? (i := 0) rfl)
  have hM : kCs g1 (mC G h q i0 i1 i3 i7 i18 i22 i23 (nI 0) j16 j17 a2 a4 a5 a6 b8 b9 b10 a11 a12 a13 a14 b15 b19 b20 b21 a24 a25 a26) := hM
  refine lv_aload_n C.x C.b dX9_ford_28 rfl (lv_at hl 0 rfl) ?_
  refine k_get (X := RX9) (T := TX9) (N := 28) (v := .int (nI 0)) C hX (hM.at 0 rfl) rfl hin_X9_ford_RX9 27 (by decide) lk_X9_ford_f80 (fun _ h9 => h9) rfl dX9_ford_29 ?_
  refine lv_if_le (tgt := 39) C.x C.b dX9_ford_32 (by decide) (fun c_32 => ?_) (fun c_32 => ?_)
  rotate_left
  · exact absurd c_32 (by decide)
  refine lv_iload_n C.x C.b dX9_ford_39 rfl (lv_at hl 1 rfl) ?_
  refine lv_iload_n C.x C.b dX9_ford_40 rfl (lv_at hl 2 rfl) ?_
  refine lv_iload_n C.x C.b dX9_ford_41 rfl (lv_at hl 3 rfl) ?_
  refine lv_iload C.x C.b dX9_ford_42 (lv_at hl 4 rfl) ?_
  refine k_calll (va_runS (As := [.int a, .int b, .int c9, .int e9]) (rest := []) C.1 (kX9_cross l G B0 g1 a b c9 e9) (va_cwS 4 C.ts gX9_ford_X9_cross rfl rfl rfl (hdX9_ford_X9_cross) ⟨Nat.le_of_ble_eq_true rfl, Nat.le_of_ble_eq_true rfl⟩) (k_preS C hX) rfl rfl hl.1 rfl (lv_room (Nat.le_of_ble_eq_true rfl)) dX9_ford_44 ⟨Nat.le_of_ble_eq_true rfl, Nat.le_of_ble_eq_true rfl⟩) hX (fun r44 f44 H locs hp44 hX => ?_)
  obtain ⟨hr44, hf44⟩ := hp44
  rw [hf44] at hX
  refine k_topl (y := (mCross a b c9 e9)) hr44 ?_
  refine lv_lstore (lv' := [(5, .long (mCross a b c9 e9)), (0, .ref h), (1, .int a), (2, .int b), (3, .int c9), (4, .int e9)]) C.x C.b dX9_ford_47 hl (by decide) rfl (fun ls hl => ?_)
  refine lv_aload_n C.x C.b dX9_ford_49 rfl (lv_at hl 1 rfl) ?_
  refine k_get (X := RX9) (T := TX9) (N := 28) (v := .int (nI 0)) C hX (hM.at 0 rfl) rfl hin_X9_ford_RX9 27 (by decide) lk_X9_ford_f80 (fun _ h9 => h9) rfl dX9_ford_50 ?_
  refine lv_if_le (tgt := 60) C.x C.b dX9_ford_53 (by decide) (fun c_53 => ?_) (fun c_53 => ?_)
  rotate_left
  · exact absurd c_53 (by decide)
  refine lv_lload C.x C.b dX9_ford_60 (lv_at hl 0 rfl) ?_
  refine lv_lconst (v := 0) C.x C.b dX9_ford_62 (by decide) ?_
  refine k_lcmp_ne (tgt := 71) C.x C.b dX9_ford_63 dX9_ford_64 (by decide) (fun c_64 => ?_) (fun c_64 => ?_)
  · skip
    refine lv_lload C.x C.b dX9_ford_71 (lv_at hl 0 rfl) ?_
    refine lv_lconst (v := 1) C.x C.b dX9_ford_73 (by decide) ?_
    refine k_lcmp_eq (tgt := 87) C.x C.b dX9_ford_74 dX9_ford_75 (by decide) (fun c_75 => ?_) (fun c_75 => ?_)
    · skip
      refine lv_iconst (v := nI 1) C.x C.b dX9_ford_87 (by decide) ?_
      refine lv_goto (tgt := 92) C.x C.b dX9_ford_88 (by decide) ?_
      exact k_iret C hX hr hlocks hQ (by omega) (by omega) (by refine ⟨?_, hM, hO⟩; first | (rw [mFord, if_pos c_64]) | (rw [mFord, if_neg c_64, if_pos (Or.inl c_75)]) | (rw [mFord, if_neg c_64, if_pos (Or.inr c_84)]) | (rw [mFord, if_neg c_64, if_neg (fun z => z.elim c_75 c_84)])) dX9_ford_92
    · skip
      refine lv_lload C.x C.b dX9_ford_78 (lv_at hl 0 rfl) ?_
      refine lv_ldc2 (v := -1) C.x C.b C.ow (C.ts _ lk_X9_ford_c181) dX9_ford_80 ?_
      refine k_lcmp_ne (tgt := 91) C.x C.b dX9_ford_83 dX9_ford_84 (by decide) (fun c_84 => ?_) (fun c_84 => ?_)
      · skip
        refine lv_iconst (v := nI 0) C.x C.b dX9_ford_91 (by decide) ?_
        exact k_iret C hX hr hlocks hQ (by omega) (by omega) (by refine ⟨?_, hM, hO⟩; first | (rw [mFord, if_pos c_64]) | (rw [mFord, if_neg c_64, if_pos (Or.inl c_75)]) | (rw [mFord, if_neg c_64, if_pos (Or.inr c_84)]) | (rw [mFord, if_neg c_64, if_neg (fun z => z.elim c_75 c_84)])) dX9_ford_92
      · skip
        refine lv_iconst (v := nI 1) C.x C.b dX9_ford_87 (by decide) ?_
        refine lv_goto (tgt := 92) C.x C.b dX9_ford_88 (by decide) ?_
        exact k_iret C hX hr hlocks hQ (by omega) (by omega) (by refine ⟨?_, hM, hO⟩; first | (rw [mFord, if_pos c_64]) | (rw [mFord, if_neg c_64, if_pos (Or.inl c_75)]) | (rw [mFord, if_neg c_64, if_pos (Or.inr c_84)]) | (rw [mFord, if_neg c_64, if_neg (fun z => z.elim c_75 c_84)])) dX9_ford_92
  · skip
    refine lv_iconst (v := nI 2) C.x C.b dX9_ford_67 (by decide) ?_
    refine lv_goto (tgt := 92) C.x C.b dX9_ford_68 (by decide) ?_
    exact k_iret C hX hr hlocks hQ (by omega) (by omega) (by refine ⟨?_, hM, hO⟩; first | (rw [mFord, if_pos c_64]) | (rw [mFord, if_neg c_64, if_pos (Or.inl c_75)]) | (rw [mFord, if_neg c_64, if_pos (Or.inr c_84)]) | (rw [mFord, if_neg c_64, if_neg (fun z => z.elim c_75 c_84)])) dX9_ford_92

theorem hdX9_tell_X9_isTold : yX9_isTold.cls ≠ "java/lang/invoke/MethodHandle" ∧ yX9_isTold.cls ≠ "java/lang/invoke/VarHandle" ∧ (parseMethodDescriptor yX9_isTold.desc).map (fun d => d.parameters.length) = some 1 := by decide +kernel
theorem lk_X9_tell_f80 : Cond.fieldLink RX9 80 "KoebehallModel" "thrown" "I" ∈ wsX9_tell := by decide +kernel
theorem hin_X9_tell_RX9 : ∀ w ∈ u_ws RX9 TX9 28, w ∈ wsX9_tell := by decide +kernel
abbrev rmX9_tell_b1 : Room := { frames := 2, cells := 0, slots := 0, locals := 45 }
set_option maxHeartbeats 4000000 in
set_option maxRecDepth 100000 in
/-- X9_tell_b1 -/
theorem kX9_tell_b1 (l : Launch) (G : kG) (B0 : Nat) (f : kH) (h : Nat) (q : Nat → Nat) (i0 i1 i3 i7 i18 i22 i23 i27 : Int32) (j16 j17 : Int64) (a2 : Nat → Int32) (a4 : Nat → Int32) (a5 : Nat → Int32) (a6 : Nat → Int32) (b8 : Nat → Int64) (b9 : Nat → Int64) (b10 : Nat → Int64) (a11 : Nat → Int32) (a12 : Nat → Int32) (a13 : Nat → Int32) (a14 : Nat → Int32) (b15 : Nat → Int64) (b19 : Nat → Int64) (b20 : Nat → Int64) (b21 : Nat → Int64) (a24 : Nat → Int32) (a25 : Nat → Int32) (a26 : Nat → Int32) (a b c9 e9 : Int32) (g9 : Nat) (hM : kCs f (mC G h q i0 i1 i3 i7 i18 i22 i23 i27 j16 j17 a2 a4 a5 a6 b8 b9 b10 a11 a12 a13 a14 b15 b19 b20 b21 a24 a25 a26)) (hg0 : i18 = nI g9) (hg9 : g9 ≤ 4) (hv : ¬ mTl a b c9 e9) : Met l yX9_tell wsX9_tell (rmX9_tell_b1) (kP G B0 f [.ref h, .int a, .int b, .int c9, .int e9]) (kQi G B0 (fun r f1 => r = nI 0 ∧ kCs f1 (mC G h q i0 i1 i3 i7 i18 i22 i23 (nI 1) j16 j17 a2 a4 a5 a6 b8 b9 b10 a11 a12 a13 a14 b15 b19 b20 b21 a24 a25 a26) ∧ kOff (mAs h q) f f1)) 0 0 (kAb B0) := by
  refine kMet (cc := cX9_tell) (maxL := 6) (ret := (some .int)) (by decide) rfl (Nat.le_of_ble_eq_true rfl) ?_
  intro p e s m args below meth c H locs Q ls C hX hl hr hlocks hnm hQ
  have hO : kOff (mAs h q) f f := kOff.rf
  have hl : lv_has ls 6 [(0, .ref h), (1, .int a), (2, .int b), (3, .int c9), (4, .int e9)] := hl
  refine lv_iload_n C.x C.b dX9_tell_0 rfl (lv_at hl 1 rfl) ?_
  refine k_calli (va_runS (As := [.int a]) (rest := []) C.1 (kX9_isTold l G B0 f a) (va_cwS 1 C.ts gX9_tell_X9_isTold rfl rfl rfl (hdX9_tell_X9_isTold) ⟨Nat.le_of_ble_eq_true rfl, Nat.le_of_ble_eq_true rfl⟩) (k_preS C hX) rfl rfl hl.1 rfl (lv_room (Nat.le_of_ble_eq_true rfl)) dX9_tell_1 ⟨Nat.le_of_ble_eq_true rfl, Nat.le_of_ble_eq_true rfl⟩) hX (fun r1 f1 H locs hp1 hX => ?_)
  obtain ⟨hr1, hf1⟩ := hp1
  rw [hf1] at hX
  refine k_topi (y := (kbI (mTd a))) hr1 ?_
  have J46 : ∀ (ls : Array Slot), lv_has ls 6 [(0, .ref h), (1, .int a), (2, .int b), (3, .int c9), (4, .int e9)] → ∀ (H : Heap) (locs : List Loc), kX G B0 s f H locs → W p l e (rmX9_tell_b1) s m args below meth c H locs 0 0 Q (F0 m 46 ls [.int (kbI (mTl a b c9 e9))]) := by
    intro ls hl H locs hX
    refine lv_istore (lv' := [(5, .int (kbI (mTl a b c9 e9))), (0, .ref h), (1, .int a), (2, .int b), (3, .int c9), (4, .int e9)]) C.x C.b dX9_tell_46 hl (by decide) rfl (fun ls hl => ?_)
    refine lv_aload_n C.x C.b dX9_tell_48 rfl (lv_at hl 1 rfl) ?_
    refine lv_iload C.x C.b dX9_tell_49 (lv_at hl 0 rfl) ?_
    refine lv_if_ne (tgt := 58) C.x C.b dX9_tell_51 (by decide) (fun c_51 => ?_) (fun c_51 => ?_)
    · exact absurd (kbI_1 c_51) (hv)
    refine lv_iconst (v := nI 1) C.x C.b dX9_tell_54 (by decide) ?_
    refine lv_goto (tgt := 71) C.x C.b dX9_tell_55 (by decide) ?_
    refine k_put (X := RX9) (T := TX9) (N := 28) (ty := .int) (v := .int (nI 1)) C hX (hM.at 0 rfl) rfl hin_X9_tell_RX9 tyX9_ok nmX9 27 (by decide) lk_X9_tell_f80 (fun _ h9 => h9) rfl (by decide +kernel) rfl rfl (Nat.le_of_ble_eq_true rfl) dX9_tell_71 (fun H locs hX => ?_)
    obtain ⟨g1, hX, hM, hO⟩ := kX.wr hX hM hO 0 rfl (List.mem_of_getElem? (i := 0) rfl)
    have hM : kCs g1 (mC G h q i0 i1 i3 i7 i18 i22 i23 (nI 1) j16 j17 a2 a4 a5 a6 b8 b9 b10 a11 a12 a13 a14 b15 b19 b20 b21 a24 a25 a26) := hM
    refine lv_aload_n C.x C.b dX9_tell_74 rfl (lv_at hl 1 rfl) ?_
    refine k_get (X := RX9) (T := TX9) (N := 28) (v := .int (nI 1)) C hX (hM.at 0 rfl) rfl hin_X9_tell_RX9 27 (by decide) lk_X9_tell_f80 (fun _ h9 => h9) rfl dX9_tell_75 ?_
    refine lv_if_le (tgt := 83) C.x C.b dX9_tell_78 (by decide) (fun c_78 => ?_) (fun c_78 => ?_)
    · exact absurd c_78 (by decide)
    refine lv_iconst (v := nI 0) C.x C.b dX9_tell_81 (by decide) ?_
    exact k_iret C hX hr hlocks hQ (by omega) (by omega) (⟨rfl, hM, hO⟩) dX9_tell_82
  refine lv_if_eq (tgt := 45) C.x C.b dX9_tell_4 (by decide) (fun c_4 => ?_) (fun c_4 => ?_)
  · skip
    have c_4 := kbI_0 c_4
    refine lv_iconst (v := nI 0) C.x C.b dX9_tell_45 (by decide) ?_
    refine k_topi (y := (kbI (mTl a b c9 e9))) (by first | exact kbI_tN ⟨c_4, c_11, c_18, c_26, c_38⟩ | exact kbI_fN (fun z => c_4 z.1) | exact kbI_fN (fun z => c_11 z.2.1) | exact kbI_fN (fun z => c_18 z.2.2.1) | exact kbI_fN (fun z => c_26 z.2.2.2.1) | exact kbI_fN (fun z => c_38 z.2.2.2.2)) ?_
    exact J46 ls (lv_sub hl [0, 1, 2, 3, 4] rfl) _ _ hX
  · skip
    have c_4 := kbI_1 c_4
    refine lv_iload_n C.x C.b dX9_tell_7 rfl (lv_at hl 2 rfl) ?_
    refine k_calli (va_runS (As := [.int b]) (rest := []) C.1 (kX9_isTold l G B0 f b) (va_cwS 1 C.ts gX9_tell_X9_isTold rfl rfl rfl (hdX9_tell_X9_isTold) ⟨Nat.le_of_ble_eq_true rfl, Nat.le_of_ble_eq_true rfl⟩) (k_preS C hX) rfl rfl hl.1 rfl (lv_room (Nat.le_of_ble_eq_true rfl)) dX9_tell_8 ⟨Nat.le_of_ble_eq_true rfl, Nat.le_of_ble_eq_true rfl⟩) hX (fun r8 f8 H locs hp8 hX => ?_)
    obtain ⟨hr8, hf8⟩ := hp8
    rw [hf8] at hX
    refine k_topi (y := (kbI (mTd b))) hr8 ?_
    refine lv_if_eq (tgt := 45) C.x C.b dX9_tell_11 (by decide) (fun c_11 => ?_) (fun c_11 => ?_)
    · skip
      have c_11 := kbI_0 c_11
      refine lv_iconst (v := nI 0) C.x C.b dX9_tell_45 (by decide) ?_
      refine k_topi (y := (kbI (mTl a b c9 e9))) (by first | exact kbI_tN ⟨c_4, c_11, c_18, c_26, c_38⟩ | exact kbI_fN (fun z => c_4 z.1) | exact kbI_fN (fun z => c_11 z.2.1) | exact kbI_fN (fun z => c_18 z.2.2.1) | exact kbI_fN (fun z => c_26 z.2.2.2.1) | exact kbI_fN (fun z => c_38 z.2.2.2.2)) ?_
      exact J46 ls (lv_sub hl [0, 1, 2, 3, 4] rfl) _ _ hX
    · skip
      have c_11 := kbI_1 c_11
      refine lv_iload_n C.x C.b dX9_tell_14 rfl (lv_at hl 3 rfl) ?_
      refine k_calli (va_runS (As := [.int c9]) (rest := []) C.1 (kX9_isTold l G B0 f c9) (va_cwS 1 C.ts gX9_tell_X9_isTold rfl rfl rfl (hdX9_tell_X9_isTold) ⟨Nat.le_of_ble_eq_true rfl, Nat.le_of_ble_eq_true rfl⟩) (k_preS C hX) rfl rfl hl.1 rfl (lv_room (Nat.le_of_ble_eq_true rfl)) dX9_tell_15 ⟨Nat.le_of_ble_eq_true rfl, Nat.le_of_ble_eq_true rfl⟩) hX (fun r15 f15 H locs hp15 hX => ?_)
      obtain ⟨hr15, hf15⟩ := hp15
      rw [hf15] at hX
      refine k_topi (y := (kbI (mTd c9))) hr15 ?_
      refine lv_if_eq (tgt := 45) C.x C.b dX9_tell_18 (by decide) (fun c_18 => ?_) (fun c_18 => ?_)
      · skip
        have c_18 := kbI_0 c_18
        refine lv_iconst (v := nI 0) C.x C.b dX9_tell_45 (by decide) ?_
        refine k_topi (y := (kbI (mTl a b c9 e9))) (by first | exact kbI_tN ⟨c_4, c_11, c_18, c_26, c_38⟩ | exact kbI_fN (fun z => c_4 z.1) | exact kbI_fN (fun z => c_11 z.2.1) | exact kbI_fN (fun z => c_18 z.2.2.1) | exact kbI_fN (fun z => c_26 z.2.2.2.1) | exact kbI_fN (fun z => c_38 z.2.2.2.2)) ?_
        exact J46 ls (lv_sub hl [0, 1, 2, 3, 4] rfl) _ _ hX
      · skip
        have c_18 := kbI_1 c_18
        refine lv_iload C.x C.b dX9_tell_21 (lv_at hl 4 rfl) ?_
        refine k_calli (va_runS (As := [.int e9]) (rest := []) C.1 (kX9_isTold l G B0 f e9) (va_cwS 1 C.ts gX9_tell_X9_isTold rfl rfl rfl (hdX9_tell_X9_isTold) ⟨Nat.le_of_ble_eq_true rfl, Nat.le_of_ble_eq_true rfl⟩) (k_preS C hX) rfl rfl hl.1 rfl (lv_room (Nat.le_of_ble_eq_true rfl)) dX9_tell_23 ⟨Nat.le_of_ble_eq_true rfl, Nat.le_of_ble_eq_true rfl⟩) hX (fun r23 f23 H locs hp23 hX => ?_)
        obtain ⟨hr23, hf23⟩ := hp23
        rw [hf23] at hX
        refine k_topi (y := (kbI (mTd e9))) hr23 ?_
        refine lv_if_eq (tgt := 45) C.x C.b dX9_tell_26 (by decide) (fun c_26 => ?_) (fun c_26 => ?_)
        · skip
          have c_26 := kbI_0 c_26
          refine lv_iconst (v := nI 0) C.x C.b dX9_tell_45 (by decide) ?_
          refine k_topi (y := (kbI (mTl a b c9 e9))) (by first | exact kbI_tN ⟨c_4, c_11, c_18, c_26, c_38⟩ | exact kbI_fN (fun z => c_4 z.1) | exact kbI_fN (fun z => c_11 z.2.1) | exact kbI_fN (fun z => c_18 z.2.2.1) | exact kbI_fN (fun z => c_26 z.2.2.2.1) | exact kbI_fN (fun z => c_38 z.2.2.2.2)) ?_
          exact J46 ls (lv_sub hl [0, 1, 2, 3, 4] rfl) _ _ hX
        · skip
          have c_26 := kbI_1 c_26
          refine lv_iload_n C.x C.b dX9_tell_29 rfl (lv_at hl 1 rfl) ?_
          refine lv_iload C.x C.b dX9_tell_30 (lv_at hl 4 rfl) ?_
          refine lv_imul C.x C.b dX9_tell_32 ?_
          refine lv_iload_n C.x C.b dX9_tell_33 rfl (lv_at hl 2 rfl) ?_
          refine lv_iload_n C.x C.b dX9_tell_34 rfl (lv_at hl 3 rfl) ?_
          refine lv_imul C.x C.b dX9_tell_35 ?_
          refine lv_isub C.x C.b dX9_tell_36 ?_
          refine lv_iconst (v := nI 1) C.x C.b dX9_tell_37 (by decide) ?_
          refine lv_icmp_ne (tgt := 45) C.x C.b dX9_tell_38 (by decide) (fun c_38 => ?_) (fun c_38 => ?_)
          · skip
            refine lv_iconst (v := nI 0) C.x C.b dX9_tell_45 (by decide) ?_
            refine k_topi (y := (kbI (mTl a b c9 e9))) (by first | exact kbI_tN ⟨c_4, c_11, c_18, c_26, c_38⟩ | exact kbI_fN (fun z => c_4 z.1) | exact kbI_fN (fun z => c_11 z.2.1) | exact kbI_fN (fun z => c_18 z.2.2.1) | exact kbI_fN (fun z => c_26 z.2.2.2.1) | exact kbI_fN (fun z => c_38 z.2.2.2.2)) ?_
            exact J46 ls (lv_sub hl [0, 1, 2, 3, 4] rfl) _ _ hX
          · skip
            refine lv_iconst (v := nI 1) C.x C.b dX9_tell_41 (by decide) ?_
            refine lv_goto (tgt := 46) C.x C.b dX9_tell_42 (by decide) ?_
            refine k_topi (y := (kbI (mTl a b c9 e9))) (by first | exact kbI_tN ⟨c_4, c_11, c_18, c_26, c_38⟩ | exact kbI_fN (fun z => c_4 z.1) | exact kbI_fN (fun z => c_11 z.2.1) | exact kbI_fN (fun z => c_18 z.2.2.1) | exact kbI_fN (fun z => c_26 z.2.2.2.1) | exact kbI_fN (fun z => c_38 z.2.2.2.2)) ?_
            exact J46 ls (lv_sub hl [0, 1, 2, 3, 4] rfl) _ _ hX

theorem lk_X9_tell_f202 : Cond.fieldLink RX9 202 "KoebehallModel" "moves" "I" ∈ wsX9_tell := by decide +kernel
abbrev rmX9_tell_b2 : Room := { frames := 2, cells := 0, slots := 0, locals := 45 }
set_option maxHeartbeats 4000000 in
set_option maxRecDepth 100000 in
/-- X9_tell_b2 -/
theorem kX9_tell_b2 (l : Launch) (G : kG) (B0 : Nat) (f : kH) (h : Nat) (q : Nat → Nat) (i0 i1 i3 i7 i18 i22 i23 i27 : Int32) (j16 j17 : Int64) (a2 : Nat → Int32) (a4 : Nat → Int32) (a5 : Nat → Int32) (a6 : Nat → Int32) (b8 : Nat → Int64) (b9 : Nat → Int64) (b10 : Nat → Int64) (a11 : Nat → Int32) (a12 : Nat → Int32) (a13 : Nat → Int32) (a14 : Nat → Int32) (b15 : Nat → Int64) (b19 : Nat → Int64) (b20 : Nat → Int64) (b21 : Nat → Int64) (a24 : Nat → Int32) (a25 : Nat → Int32) (a26 : Nat → Int32) (a b c9 e9 : Int32) (g9 : Nat) (hM : kCs f (mC G h q i0 i1 i3 i7 i18 i22 i23 i27 j16 j17 a2 a4 a5 a6 b8 b9 b10 a11 a12 a13 a14 b15 b19 b20 b21 a24 a25 a26)) (hg0 : i18 = nI g9) (hg9 : g9 ≤ 4) (hv : mTl a b c9 e9) (h8 : g9 = 4) : Met l yX9_tell wsX9_tell (rmX9_tell_b2) (kP G B0 f [.ref h, .int a, .int b, .int c9, .int e9]) (kQi G B0 (fun r f1 => r = nI 0 ∧ kCs f1 (mC G h q i0 i1 i3 i7 i18 i22 i23 (nI 2) j16 j17 a2 a4 a5 a6 b8 b9 b10 a11 a12 a13 a14 b15 b19 b20 b21 a24 a25 a26) ∧ kOff (mAs h q) f f1)) 0 0 (kAb B0) := by
  refine kMet (cc := cX9_tell) (maxL := 6) (ret := (some .int)) (by decide) rfl (Nat.le_of_ble_eq_true rfl) ?_
  intro p e s m args below meth c H locs Q ls C hX hl hr hlocks hnm hQ
  have hO : kOff (mAs h q) f f := kOff.rf
  have hl : lv_has ls 6 [(0, .ref h), (1, .int a), (2, .int b), (3, .int c9), (4, .int e9)] := hl
  refine lv_iload_n C.x C.b dX9_tell_0 rfl (lv_at hl 1 rfl) ?_
  refine k_calli (va_runS (As := [.int a]) (rest := []) C.1 (kX9_isTold l G B0 f a) (va_cwS 1 C.ts gX9_tell_X9_isTold rfl rfl rfl (hdX9_tell_X9_isTold) ⟨Nat.le_of_ble_eq_true rfl, Nat.le_of_ble_eq_true rfl⟩) (k_preS C hX) rfl rfl hl.1 rfl (lv_room (Nat.le_of_ble_eq_true rfl)) dX9_tell_1 ⟨Nat.le_of_ble_eq_true rfl, Nat.le_of_ble_eq_true rfl⟩) hX (fun r1 f1 H locs hp1 hX => ?_)
  obtain ⟨hr1, hf1⟩ := hp1
  rw [hf1] at hX
  refine k_topi (y := (kbI (mTd a))) hr1 ?_
  have J46 : ∀ (ls : Array Slot), lv_has ls 6 [(0, .ref h), (1, .int a), (2, .int b), (3, .int c9), (4, .int e9)] → ∀ (H : Heap) (locs : List Loc), kX G B0 s f H locs → W p l e (rmX9_tell_b2) s m args below meth c H locs 0 0 Q (F0 m 46 ls [.int (kbI (mTl a b c9 e9))]) := by
    intro ls hl H locs hX
    refine lv_istore (lv' := [(5, .int (kbI (mTl a b c9 e9))), (0, .ref h), (1, .int a), (2, .int b), (3, .int c9), (4, .int e9)]) C.x C.b dX9_tell_46 hl (by decide) rfl (fun ls hl => ?_)
    refine lv_aload_n C.x C.b dX9_tell_48 rfl (lv_at hl 1 rfl) ?_
    refine lv_iload C.x C.b dX9_tell_49 (lv_at hl 0 rfl) ?_
    refine lv_if_ne (tgt := 58) C.x C.b dX9_tell_51 (by decide) (fun c_51 => ?_) (fun c_51 => ?_)
    rotate_left
    · exact absurd (hv) (kbI_0 c_51)
    refine lv_aload_n C.x C.b dX9_tell_58 rfl (lv_at hl 1 rfl) ?_
    refine k_get (X := RX9) (T := TX9) (N := 28) (v := .int i18) C hX (hM.at 0 rfl) rfl hin_X9_tell_RX9 18 (by decide) lk_X9_tell_f202 (fun _ h9 => h9) rfl dX9_tell_59 ?_
    refine k_topi (y := (nI g9)) (hg0) ?_
    refine lv_iconst (v := nI 4) C.x C.b dX9_tell_62 (by decide) ?_
    refine lv_icmp_ne (tgt := 70) C.x C.b dX9_tell_63 (by decide) (fun c_63 => ?_) (fun c_63 => ?_)
    · skip
      have c_63 : ¬ (g9 = 4) := fun h9 => c_63 ((nI_eq (by omega) (by omega)).mpr h9)
      omega
    have c_63 : g9 = 4 := (nI_eq (by omega) (by omega)).mp c_63
    refine lv_iconst (v := nI 2) C.x C.b dX9_tell_66 (by decide) ?_
    refine lv_goto (tgt := 71) C.x C.b dX9_tell_67 (by decide) ?_
    refine k_put (X := RX9) (T := TX9) (N := 28) (ty := .int) (v := .int (nI 2)) C hX (hM.at 0 rfl) rfl hin_X9_tell_RX9 tyX9_ok nmX9 27 (by decide) lk_X9_tell_f80 (fun _ h9 => h9) rfl (by decide +kernel) rfl rfl (Nat.le_of_ble_eq_true rfl) dX9_tell_71 (fun H locs hX => ?_)
    obtain ⟨g1, hX, hM, hO⟩ := kX.wr hX hM hO 0 rfl (List.mem_of_getElem? (i := 0) rfl)
    have hM : kCs g1 (mC G h q i0 i1 i3 i7 i18 i22 i23 (nI 2) j16 j17 a2 a4 a5 a6 b8 b9 b10 a11 a12 a13 a14 b15 b19 b20 b21 a24 a25 a26) := hM
    refine lv_aload_n C.x C.b dX9_tell_74 rfl (lv_at hl 1 rfl) ?_
    refine k_get (X := RX9) (T := TX9) (N := 28) (v := .int (nI 2)) C hX (hM.at 0 rfl) rfl hin_X9_tell_RX9 27 (by decide) lk_X9_tell_f80 (fun _ h9 => h9) rfl dX9_tell_75 ?_
    refine lv_if_le (tgt := 83) C.x C.b dX9_tell_78 (by decide) (fun c_78 => ?_) (fun c_78 => ?_)
    · exact absurd c_78 (by decide)
    refine lv_iconst (v := nI 0) C.x C.b dX9_tell_81 (by decide) ?_
    exact k_iret C hX hr hlocks hQ (by omega) (by omega) (⟨rfl, hM, hO⟩) dX9_tell_82
  refine lv_if_eq (tgt := 45) C.x C.b dX9_tell_4 (by decide) (fun c_4 => ?_) (fun c_4 => ?_)
  · skip
    have c_4 := kbI_0 c_4
    refine lv_iconst (v := nI 0) C.x C.b dX9_tell_45 (by decide) ?_
    refine k_topi (y := (kbI (mTl a b c9 e9))) (by first | exact kbI_tN ⟨c_4, c_11, c_18, c_26, c_38⟩ | exact kbI_fN (fun z => c_4 z.1) | exact kbI_fN (fun z => c_11 z.2.1) | exact kbI_fN (fun z => c_18 z.2.2.1) | exact kbI_fN (fun z => c_26 z.2.2.2.1) | exact kbI_fN (fun z => c_38 z.2.2.2.2)) ?_
    exact J46 ls (lv_sub hl [0, 1, 2, 3, 4] rfl) _ _ hX
  · skip
    have c_4 := kbI_1 c_4
    refine lv_iload_n C.x C.b dX9_tell_7 rfl (lv_at hl 2 rfl) ?_
    refine k_calli (va_runS (As := [.int b]) (rest := []) C.1 (kX9_isTold l G B0 f b) (va_cwS 1 C.ts gX9_tell_X9_isTold rfl rfl rfl (hdX9_tell_X9_isTold) ⟨Nat.le_of_ble_eq_true rfl, Nat.le_of_ble_eq_true rfl⟩) (k_preS C hX) rfl rfl hl.1 rfl (lv_room (Nat.le_of_ble_eq_true rfl)) dX9_tell_8 ⟨Nat.le_of_ble_eq_true rfl, Nat.le_of_ble_eq_true rfl⟩) hX (fun r8 f8 H locs hp8 hX => ?_)
    obtain ⟨hr8, hf8⟩ := hp8
    rw [hf8] at hX
    refine k_topi (y := (kbI (mTd b))) hr8 ?_
    refine lv_if_eq (tgt := 45) C.x C.b dX9_tell_11 (by decide) (fun c_11 => ?_) (fun c_11 => ?_)
    · skip
      have c_11 := kbI_0 c_11
      refine lv_iconst (v := nI 0) C.x C.b dX9_tell_45 (by decide) ?_
      refine k_topi (y := (kbI (mTl a b c9 e9))) (by first | exact kbI_tN ⟨c_4, c_11, c_18, c_26, c_38⟩ | exact kbI_fN (fun z => c_4 z.1) | exact kbI_fN (fun z => c_11 z.2.1) | exact kbI_fN (fun z => c_18 z.2.2.1) | exact kbI_fN (fun z => c_26 z.2.2.2.1) | exact kbI_fN (fun z => c_38 z.2.2.2.2)) ?_
      exact J46 ls (lv_sub hl [0, 1, 2, 3, 4] rfl) _ _ hX
    · skip
      have c_11 := kbI_1 c_11
      refine lv_iload_n C.x C.b dX9_tell_14 rfl (lv_at hl 3 rfl) ?_
      refine k_calli (va_runS (As := [.int c9]) (rest := []) C.1 (kX9_isTold l G B0 f c9) (va_cwS 1 C.ts gX9_tell_X9_isTold rfl rfl rfl (hdX9_tell_X9_isTold) ⟨Nat.le_of_ble_eq_true rfl, Nat.le_of_ble_eq_true rfl⟩) (k_preS C hX) rfl rfl hl.1 rfl (lv_room (Nat.le_of_ble_eq_true rfl)) dX9_tell_15 ⟨Nat.le_of_ble_eq_true rfl, Nat.le_of_ble_eq_true rfl⟩) hX (fun r15 f15 H locs hp15 hX => ?_)
      obtain ⟨hr15, hf15⟩ := hp15
      rw [hf15] at hX
      refine k_topi (y := (kbI (mTd c9))) hr15 ?_
      refine lv_if_eq (tgt := 45) C.x C.b dX9_tell_18 (by decide) (fun c_18 => ?_) (fun c_18 => ?_)
      · skip
        have c_18 := kbI_0 c_18
        refine lv_iconst (v := nI 0) C.x C.b dX9_tell_45 (by decide) ?_
        refine k_topi (y := (kbI (mTl a b c9 e9))) (by first | exact kbI_tN ⟨c_4, c_11, c_18, c_26, c_38⟩ | exact kbI_fN (fun z => c_4 z.1) | exact kbI_fN (fun z => c_11 z.2.1) | exact kbI_fN (fun z => c_18 z.2.2.1) | exact kbI_fN (fun z => c_26 z.2.2.2.1) | exact kbI_fN (fun z => c_38 z.2.2.2.2)) ?_
        exact J46 ls (lv_sub hl [0, 1, 2, 3, 4] rfl) _ _ hX
      · skip
        have c_18 := kbI_1 c_18
        refine lv_iload C.x C.b dX9_tell_21 (lv_at hl 4 rfl) ?_
        refine k_calli (va_runS (As := [.int e9]) (rest := []) C.1 (kX9_isTold l G B0 f e9) (va_cwS 1 C.ts gX9_tell_X9_isTold rfl rfl rfl (hdX9_tell_X9_isTold) ⟨Nat.le_of_ble_eq_true rfl, Nat.le_of_ble_eq_true rfl⟩) (k_preS C hX) rfl rfl hl.1 rfl (lv_room (Nat.le_of_ble_eq_true rfl)) dX9_tell_23 ⟨Nat.le_of_ble_eq_true rfl, Nat.le_of_ble_eq_true rfl⟩) hX (fun r23 f23 H locs hp23 hX => ?_)
        obtain ⟨hr23, hf23⟩ := hp23
        rw [hf23] at hX
        refine k_topi (y := (kbI (mTd e9))) hr23 ?_
        refine lv_if_eq (tgt := 45) C.x C.b dX9_tell_26 (by decide) (fun c_26 => ?_) (fun c_26 => ?_)
        · skip
          have c_26 := kbI_0 c_26
          refine lv_iconst (v := nI 0) C.x C.b dX9_tell_45 (by decide) ?_
          refine k_topi (y := (kbI (mTl a b c9 e9))) (by first | exact kbI_tN ⟨c_4, c_11, c_18, c_26, c_38⟩ | exact kbI_fN (fun z => c_4 z.1) | exact kbI_fN (fun z => c_11 z.2.1) | exact kbI_fN (fun z => c_18 z.2.2.1) | exact kbI_fN (fun z => c_26 z.2.2.2.1) | exact kbI_fN (fun z => c_38 z.2.2.2.2)) ?_
          exact J46 ls (lv_sub hl [0, 1, 2, 3, 4] rfl) _ _ hX
        · skip
          have c_26 := kbI_1 c_26
          refine lv_iload_n C.x C.b dX9_tell_29 rfl (lv_at hl 1 rfl) ?_
          refine lv_iload C.x C.b dX9_tell_30 (lv_at hl 4 rfl) ?_
          refine lv_imul C.x C.b dX9_tell_32 ?_
          refine lv_iload_n C.x C.b dX9_tell_33 rfl (lv_at hl 2 rfl) ?_
          refine lv_iload_n C.x C.b dX9_tell_34 rfl (lv_at hl 3 rfl) ?_
          refine lv_imul C.x C.b dX9_tell_35 ?_
          refine lv_isub C.x C.b dX9_tell_36 ?_
          refine lv_iconst (v := nI 1) C.x C.b dX9_tell_37 (by decide) ?_
          refine lv_icmp_ne (tgt := 45) C.x C.b dX9_tell_38 (by decide) (fun c_38 => ?_) (fun c_38 => ?_)
          · skip
            refine lv_iconst (v := nI 0) C.x C.b dX9_tell_45 (by decide) ?_
            refine k_topi (y := (kbI (mTl a b c9 e9))) (by first | exact kbI_tN ⟨c_4, c_11, c_18, c_26, c_38⟩ | exact kbI_fN (fun z => c_4 z.1) | exact kbI_fN (fun z => c_11 z.2.1) | exact kbI_fN (fun z => c_18 z.2.2.1) | exact kbI_fN (fun z => c_26 z.2.2.2.1) | exact kbI_fN (fun z => c_38 z.2.2.2.2)) ?_
            exact J46 ls (lv_sub hl [0, 1, 2, 3, 4] rfl) _ _ hX
          · skip
            refine lv_iconst (v := nI 1) C.x C.b dX9_tell_41 (by decide) ?_
            refine lv_goto (tgt := 46) C.x C.b dX9_tell_42 (by decide) ?_
            refine k_topi (y := (kbI (mTl a b c9 e9))) (by first | exact kbI_tN ⟨c_4, c_11, c_18, c_26, c_38⟩ | exact kbI_fN (fun z => c_4 z.1) | exact kbI_fN (fun z => c_11 z.2.1) | exact kbI_fN (fun z => c_18 z.2.2.1) | exact kbI_fN (fun z => c_26 z.2.2.2.1) | exact kbI_fN (fun z => c_38 z.2.2.2.2)) ?_
            exact J46 ls (lv_sub hl [0, 1, 2, 3, 4] rfl) _ _ hX

theorem lk_X9_tell_f55 : Cond.fieldLink RX9 55 "KoebehallModel" "tables" "[J" ∈ wsX9_tell := by decide +kernel
abbrev rmX9_tell : Room := { frames := 2, cells := 0, slots := 0, locals := 45 }
set_option maxHeartbeats 4000000 in
set_option maxRecDepth 100000 in
/-- X9_tell -/
theorem kX9_tell (l : Launch) (G : kG) (B0 : Nat) (f : kH) (h : Nat) (q : Nat → Nat) (i0 i1 i3 i7 i18 i22 i23 i27 : Int32) (j16 j17 : Int64) (a2 : Nat → Int32) (a4 : Nat → Int32) (a5 : Nat → Int32) (a6 : Nat → Int32) (b8 : Nat → Int64) (b9 : Nat → Int64) (b10 : Nat → Int64) (a11 : Nat → Int32) (a12 : Nat → Int32) (a13 : Nat → Int32) (a14 : Nat → Int32) (b15 : Nat → Int64) (b19 : Nat → Int64) (b20 : Nat → Int64) (b21 : Nat → Int64) (a24 : Nat → Int32) (a25 : Nat → Int32) (a26 : Nat → Int32) (a b c9 e9 : Int32) (g9 : Nat) (hM : kCs f (mC G h q i0 i1 i3 i7 i18 i22 i23 i27 j16 j17 a2 a4 a5 a6 b8 b9 b10 a11 a12 a13 a14 b15 b19 b20 b21 a24 a25 a26)) (hg0 : i18 = nI g9) (hg9 : g9 ≤ 4) (hv : mTl a b c9 e9) (h8 : g9 < 4) : Met l yX9_tell wsX9_tell (rmX9_tell) (kP G B0 f [.ref h, .int a, .int b, .int c9, .int e9]) (kQi G B0 (fun r f1 => r = nI g9 ∧ kCs f1 (mC G h q i0 i1 i3 i7 (nI (g9 + 1)) i22 i23 (nI 0) j16 j17 a2 a4 a5 a6 b8 b9 b10 a11 a12 a13 a14 b15 (vp_updL (vp_updL (vp_updL (vp_updL b19 (4 * g9) a.toInt64) (4 * g9 + 1) b.toInt64) (4 * g9 + 2) c9.toInt64) (4 * g9 + 3) e9.toInt64) b20 b21 a24 a25 a26) ∧ kOff (mAs h q) f f1)) 0 0 (kAb B0) := by
  refine kMet (cc := cX9_tell) (maxL := 6) (ret := (some .int)) (by decide) rfl (Nat.le_of_ble_eq_true rfl) ?_
  intro p e s m args below meth c H locs Q ls C hX hl hr hlocks hnm hQ
  have hO : kOff (mAs h q) f f := kOff.rf
  have hl : lv_has ls 6 [(0, .ref h), (1, .int a), (2, .int b), (3, .int c9), (4, .int e9)] := hl
  refine lv_iload_n C.x C.b dX9_tell_0 rfl (lv_at hl 1 rfl) ?_
  refine k_calli (va_runS (As := [.int a]) (rest := []) C.1 (kX9_isTold l G B0 f a) (va_cwS 1 C.ts gX9_tell_X9_isTold rfl rfl rfl (hdX9_tell_X9_isTold) ⟨Nat.le_of_ble_eq_true rfl, Nat.le_of_ble_eq_true rfl⟩) (k_preS C hX) rfl rfl hl.1 rfl (lv_room (Nat.le_of_ble_eq_true rfl)) dX9_tell_1 ⟨Nat.le_of_ble_eq_true rfl, Nat.le_of_ble_eq_true rfl⟩) hX (fun r1 f1 H locs hp1 hX => ?_)
  obtain ⟨hr1, hf1⟩ := hp1
  rw [hf1] at hX
  refine k_topi (y := (kbI (mTd a))) hr1 ?_
  have J46 : ∀ (ls : Array Slot), lv_has ls 6 [(0, .ref h), (1, .int a), (2, .int b), (3, .int c9), (4, .int e9)] → ∀ (H : Heap) (locs : List Loc), kX G B0 s f H locs → W p l e (rmX9_tell) s m args below meth c H locs 0 0 Q (F0 m 46 ls [.int (kbI (mTl a b c9 e9))]) := by
    intro ls hl H locs hX
    refine lv_istore (lv' := [(5, .int (kbI (mTl a b c9 e9))), (0, .ref h), (1, .int a), (2, .int b), (3, .int c9), (4, .int e9)]) C.x C.b dX9_tell_46 hl (by decide) rfl (fun ls hl => ?_)
    refine lv_aload_n C.x C.b dX9_tell_48 rfl (lv_at hl 1 rfl) ?_
    refine lv_iload C.x C.b dX9_tell_49 (lv_at hl 0 rfl) ?_
    refine lv_if_ne (tgt := 58) C.x C.b dX9_tell_51 (by decide) (fun c_51 => ?_) (fun c_51 => ?_)
    rotate_left
    · exact absurd (hv) (kbI_0 c_51)
    refine lv_aload_n C.x C.b dX9_tell_58 rfl (lv_at hl 1 rfl) ?_
    refine k_get (X := RX9) (T := TX9) (N := 28) (v := .int i18) C hX (hM.at 0 rfl) rfl hin_X9_tell_RX9 18 (by decide) lk_X9_tell_f202 (fun _ h9 => h9) rfl dX9_tell_59 ?_
    refine k_topi (y := (nI g9)) (hg0) ?_
    refine lv_iconst (v := nI 4) C.x C.b dX9_tell_62 (by decide) ?_
    refine lv_icmp_ne (tgt := 70) C.x C.b dX9_tell_63 (by decide) (fun c_63 => ?_) (fun c_63 => ?_)
    rotate_left
    · skip
      have c_63 : g9 = 4 := (nI_eq (by omega) (by omega)).mp c_63
      omega
    have c_63 : ¬ (g9 = 4) := fun h9 => c_63 ((nI_eq (by omega) (by omega)).mpr h9)
    refine lv_iconst (v := nI 0) C.x C.b dX9_tell_70 (by decide) ?_
    refine k_put (X := RX9) (T := TX9) (N := 28) (ty := .int) (v := .int (nI 0)) C hX (hM.at 0 rfl) rfl hin_X9_tell_RX9 tyX9_ok nmX9 27 (by decide) lk_X9_tell_f80 (fun _ h9 => h9) rfl (by decide +kernel) rfl rfl (Nat.le_of_ble_eq_true rfl) dX9_tell_71 (fun H locs hX => ?_)
    obtain ⟨g1, hX, hM, hO⟩ := kX.wr hX hM hO 0 rfl (List.mem_of_getElem? (i := 0) rfl)
    have hM : kCs g1 (mC G h q i0 i1 i3 i7 i18 i22 i23 (nI 0) j16 j17 a2 a4 a5 a6 b8 b9 b10 a11 a12 a13 a14 b15 b19 b20 b21 a24 a25 a26) := hM
    refine lv_aload_n C.x C.b dX9_tell_74 rfl (lv_at hl 1 rfl) ?_
    refine k_get (X := RX9) (T := TX9) (N := 28) (v := .int (nI 0)) C hX (hM.at 0 rfl) rfl hin_X9_tell_RX9 27 (by decide) lk_X9_tell_f80 (fun _ h9 => h9) rfl dX9_tell_75 ?_
    refine lv_if_le (tgt := 83) C.x C.b dX9_tell_78 (by decide) (fun c_78 => ?_) (fun c_78 => ?_)
    rotate_left
    · exact absurd c_78 (by decide)
    refine lv_aload_n C.x C.b dX9_tell_83 rfl (lv_at hl 1 rfl) ?_
    refine k_get (X := RX9) (T := TX9) (N := 28) (v := .ref (q 19)) C hX (hM.at 0 rfl) rfl hin_X9_tell_RX9 19 (by decide) lk_X9_tell_f55 (fun _ h9 => h9) rfl dX9_tell_84 ?_
    refine lv_iconst (v := nI 4) C.x C.b dX9_tell_87 (by decide) ?_
    refine lv_aload_n C.x C.b dX9_tell_88 rfl (lv_at hl 1 rfl) ?_
    refine k_get (X := RX9) (T := TX9) (N := 28) (v := .int i18) C hX (hM.at 0 rfl) rfl hin_X9_tell_RX9 18 (by decide) lk_X9_tell_f202 (fun _ h9 => h9) rfl dX9_tell_89 ?_
    refine k_topi (y := (nI g9)) (hg0) ?_
    refine lv_imul C.x C.b dX9_tell_92 ?_
    refine k_topi (y := nI (4 * g9)) (pk_mul _ _) ?_
    refine lv_iload_n C.x C.b dX9_tell_93 rfl (lv_at hl 2 rfl) ?_
    refine lv_i2l (v := a.toInt64) C.x C.b dX9_tell_94 rfl ?_
    refine k_last C hX (hM.at 13 rfl) (vp_in_nI (by omega) (by omega)) dX9_tell_95 (fun H locs hX => ?_)
    rw [nI_clamp (by omega)] at hX
    obtain ⟨g2, hX, hM, hO⟩ := kX.wr hX hM hO 13 rfl (List.mem_of_getElem? (i := 13) rfl)
    have hM : kCs g2 (mC G h q i0 i1 i3 i7 i18 i22 i23 (nI 0) j16 j17 a2 a4 a5 a6 b8 b9 b10 a11 a12 a13 a14 b15 (vp_updL b19 (4 * g9) a.toInt64) b20 b21 a24 a25 a26) := hM
    refine lv_aload_n C.x C.b dX9_tell_96 rfl (lv_at hl 1 rfl) ?_
    refine k_get (X := RX9) (T := TX9) (N := 28) (v := .ref (q 19)) C hX (hM.at 0 rfl) rfl hin_X9_tell_RX9 19 (by decide) lk_X9_tell_f55 (fun _ h9 => h9) rfl dX9_tell_97 ?_
    refine lv_iconst (v := nI 4) C.x C.b dX9_tell_100 (by decide) ?_
    refine lv_aload_n C.x C.b dX9_tell_101 rfl (lv_at hl 1 rfl) ?_
    refine k_get (X := RX9) (T := TX9) (N := 28) (v := .int i18) C hX (hM.at 0 rfl) rfl hin_X9_tell_RX9 18 (by decide) lk_X9_tell_f202 (fun _ h9 => h9) rfl dX9_tell_102 ?_
    refine k_topi (y := (nI g9)) (hg0) ?_
    refine lv_imul C.x C.b dX9_tell_105 ?_
    refine k_topi (y := nI (4 * g9)) (pk_mul _ _) ?_
    refine lv_iconst (v := nI 1) C.x C.b dX9_tell_106 (by decide) ?_
    refine lv_iadd C.x C.b dX9_tell_107 ?_
    refine k_topi (y := nI ((4 * g9) + 1)) (nI_add _ _) ?_
    refine lv_iload_n C.x C.b dX9_tell_108 rfl (lv_at hl 3 rfl) ?_
    refine lv_i2l (v := b.toInt64) C.x C.b dX9_tell_109 rfl ?_
    refine k_last C hX (hM.at 13 rfl) (vp_in_nI (by omega) (by omega)) dX9_tell_110 (fun H locs hX => ?_)
    rw [nI_clamp (by omega)] at hX
    obtain ⟨g3, hX, hM, hO⟩ := kX.wr hX hM hO 13 rfl (List.mem_of_getElem? (i := 13) rfl)
    have hM : kCs g3 (mC G h q i0 i1 i3 i7 i18 i22 i23 (nI 0) j16 j17 a2 a4 a5 a6 b8 b9 b10 a11 a12 a13 a14 b15 (vp_updL (vp_updL b19 (4 * g9) a.toInt64) ((4 * g9) + 1) b.toInt64) b20 b21 a24 a25 a26) := hM
    refine lv_aload_n C.x C.b dX9_tell_111 rfl (lv_at hl 1 rfl) ?_
    refine k_get (X := RX9) (T := TX9) (N := 28) (v := .ref (q 19)) C hX (hM.at 0 rfl) rfl hin_X9_tell_RX9 19 (by decide) lk_X9_tell_f55 (fun _ h9 => h9) rfl dX9_tell_112 ?_
    refine lv_iconst (v := nI 4) C.x C.b dX9_tell_115 (by decide) ?_
    refine lv_aload_n C.x C.b dX9_tell_116 rfl (lv_at hl 1 rfl) ?_
    refine k_get (X := RX9) (T := TX9) (N := 28) (v := .int i18) C hX (hM.at 0 rfl) rfl hin_X9_tell_RX9 18 (by decide) lk_X9_tell_f202 (fun _ h9 => h9) rfl dX9_tell_117 ?_
    refine k_topi (y := (nI g9)) (hg0) ?_
    refine lv_imul C.x C.b dX9_tell_120 ?_
    refine k_topi (y := nI (4 * g9)) (pk_mul _ _) ?_
    refine lv_iconst (v := nI 2) C.x C.b dX9_tell_121 (by decide) ?_
    refine lv_iadd C.x C.b dX9_tell_122 ?_
    refine k_topi (y := nI ((4 * g9) + 2)) (nI_add _ _) ?_
    refine lv_iload_n C.x C.b dX9_tell_123 rfl (lv_at hl 4 rfl) ?_
    refine lv_i2l (v := c9.toInt64) C.x C.b dX9_tell_124 rfl ?_
    refine k_last C hX (hM.at 13 rfl) (vp_in_nI (by omega) (by omega)) dX9_tell_125 (fun H locs hX => ?_)
    rw [nI_clamp (by omega)] at hX
    obtain ⟨g4, hX, hM, hO⟩ := kX.wr hX hM hO 13 rfl (List.mem_of_getElem? (i := 13) rfl)
    have hM : kCs g4 (mC G h q i0 i1 i3 i7 i18 i22 i23 (nI 0) j16 j17 a2 a4 a5 a6 b8 b9 b10 a11 a12 a13 a14 b15 (vp_updL (vp_updL (vp_updL b19 (4 * g9) a.toInt64) ((4 * g9) + 1) b.toInt64) ((4 * g9) + 2) c9.toInt64) b20 b21 a24 a25 a26) := hM
    refine lv_aload_n C.x C.b dX9_tell_126 rfl (lv_at hl 1 rfl) ?_
    refine k_get (X := RX9) (T := TX9) (N := 28) (v := .ref (q 19)) C hX (hM.at 0 rfl) rfl hin_X9_tell_RX9 19 (by decide) lk_X9_tell_f55 (fun _ h9 => h9) rfl dX9_tell_127 ?_
    refine lv_iconst (v := nI 4) C.x C.b dX9_tell_130 (by decide) ?_
    refine lv_aload_n C.x C.b dX9_tell_131 rfl (lv_at hl 1 rfl) ?_
    refine k_get (X := RX9) (T := TX9) (N := 28) (v := .int i18) C hX (hM.at 0 rfl) rfl hin_X9_tell_RX9 18 (by decide) lk_X9_tell_f202 (fun _ h9 => h9) rfl dX9_tell_132 ?_
    refine k_topi (y := (nI g9)) (hg0) ?_
    refine lv_imul C.x C.b dX9_tell_135 ?_
    refine k_topi (y := nI (4 * g9)) (pk_mul _ _) ?_
    refine lv_iconst (v := nI 3) C.x C.b dX9_tell_136 (by decide) ?_
    refine lv_iadd C.x C.b dX9_tell_137 ?_
    refine k_topi (y := nI ((4 * g9) + 3)) (nI_add _ _) ?_
    refine lv_iload C.x C.b dX9_tell_138 (lv_at hl 5 rfl) ?_
    refine lv_i2l (v := e9.toInt64) C.x C.b dX9_tell_140 rfl ?_
    refine k_last C hX (hM.at 13 rfl) (vp_in_nI (by omega) (by omega)) dX9_tell_141 (fun H locs hX => ?_)
    rw [nI_clamp (by omega)] at hX
    obtain ⟨g5, hX, hM, hO⟩ := kX.wr hX hM hO 13 rfl (List.mem_of_getElem? (i := 13) rfl)
    have hM : kCs g5 (mC G h q i0 i1 i3 i7 i18 i22 i23 (nI 0) j16 j17 a2 a4 a5 a6 b8 b9 b10 a11 a12 a13 a14 b15 (vp_updL (vp_updL (vp_updL (vp_updL b19 (4 * g9) a.toInt64) ((4 * g9) + 1) b.toInt64) ((4 * g9) + 2) c9.toInt64) ((4 * g9) + 3) e9.toInt64) b20 b21 a24 a25 a26) := hM
    refine lv_aload_n C.x C.b dX9_tell_142 rfl (lv_at hl 1 rfl) ?_
    refine lv_dup C.x C.b dX9_tell_143 rfl ?_
    refine k_get (X := RX9) (T := TX9) (N := 28) (v := .int i18) C hX (hM.at 0 rfl) rfl hin_X9_tell_RX9 18 (by decide) lk_X9_tell_f202 (fun _ h9 => h9) rfl dX9_tell_144 ?_
    refine k_topi (y := (nI g9)) (hg0) ?_
    refine lv_iconst (v := nI 1) C.x C.b dX9_tell_147 (by decide) ?_
    refine lv_iadd C.x C.b dX9_tell_148 ?_
    refine k_topi (y := nI (g9 + 1)) (nI_add _ _) ?_
    refine k_put (X := RX9) (T := TX9) (N := 28) (ty := .int) (v := .int (nI (g9 + 1))) C hX (hM.at 0 rfl) rfl hin_X9_tell_RX9 tyX9_ok nmX9 18 (by decide) lk_X9_tell_f202 (fun _ h9 => h9) rfl (by decide +kernel) rfl rfl (Nat.le_of_ble_eq_true rfl) dX9_tell_149 (fun H locs hX => ?_)
    obtain ⟨g6, hX, hM, hO⟩ := kX.wr hX hM hO 0 rfl (List.mem_of_getElem? (i := 0) rfl)
    have hM : kCs g6 (mC G h q i0 i1 i3 i7 (nI (g9 + 1)) i22 i23 (nI 0) j16 j17 a2 a4 a5 a6 b8 b9 b10 a11 a12 a13 a14 b15 (vp_updL (vp_updL (vp_updL (vp_updL b19 (4 * g9) a.toInt64) ((4 * g9) + 1) b.toInt64) ((4 * g9) + 2) c9.toInt64) ((4 * g9) + 3) e9.toInt64) b20 b21 a24 a25 a26) := hM
    refine lv_aload_n C.x C.b dX9_tell_152 rfl (lv_at hl 1 rfl) ?_
    refine k_get (X := RX9) (T := TX9) (N := 28) (v := .int (nI (g9 + 1))) C hX (hM.at 0 rfl) rfl hin_X9_tell_RX9 18 (by decide) lk_X9_tell_f202 (fun _ h9 => h9) rfl dX9_tell_153 ?_
    refine lv_iconst (v := nI 1) C.x C.b dX9_tell_156 (by decide) ?_
    refine lv_isub C.x C.b dX9_tell_157 ?_
    refine k_topi (y := (nI g9)) (pk_sub (by omega)) ?_
    exact k_iret C hX hr hlocks hQ (by omega) (by omega) (⟨rfl, hM, hO⟩) dX9_tell_158
  refine lv_if_eq (tgt := 45) C.x C.b dX9_tell_4 (by decide) (fun c_4 => ?_) (fun c_4 => ?_)
  · skip
    have c_4 := kbI_0 c_4
    refine lv_iconst (v := nI 0) C.x C.b dX9_tell_45 (by decide) ?_
    refine k_topi (y := (kbI (mTl a b c9 e9))) (by first | exact kbI_tN ⟨c_4, c_11, c_18, c_26, c_38⟩ | exact kbI_fN (fun z => c_4 z.1) | exact kbI_fN (fun z => c_11 z.2.1) | exact kbI_fN (fun z => c_18 z.2.2.1) | exact kbI_fN (fun z => c_26 z.2.2.2.1) | exact kbI_fN (fun z => c_38 z.2.2.2.2)) ?_
    exact J46 ls (lv_sub hl [0, 1, 2, 3, 4] rfl) _ _ hX
  · skip
    have c_4 := kbI_1 c_4
    refine lv_iload_n C.x C.b dX9_tell_7 rfl (lv_at hl 2 rfl) ?_
    refine k_calli (va_runS (As := [.int b]) (rest := []) C.1 (kX9_isTold l G B0 f b) (va_cwS 1 C.ts gX9_tell_X9_isTold rfl rfl rfl (hdX9_tell_X9_isTold) ⟨Nat.le_of_ble_eq_true rfl, Nat.le_of_ble_eq_true rfl⟩) (k_preS C hX) rfl rfl hl.1 rfl (lv_room (Nat.le_of_ble_eq_true rfl)) dX9_tell_8 ⟨Nat.le_of_ble_eq_true rfl, Nat.le_of_ble_eq_true rfl⟩) hX (fun r8 f8 H locs hp8 hX => ?_)
    obtain ⟨hr8, hf8⟩ := hp8
    rw [hf8] at hX
    refine k_topi (y := (kbI (mTd b))) hr8 ?_
    refine lv_if_eq (tgt := 45) C.x C.b dX9_tell_11 (by decide) (fun c_11 => ?_) (fun c_11 => ?_)
    · skip
      have c_11 := kbI_0 c_11
      refine lv_iconst (v := nI 0) C.x C.b dX9_tell_45 (by decide) ?_
      refine k_topi (y := (kbI (mTl a b c9 e9))) (by first | exact kbI_tN ⟨c_4, c_11, c_18, c_26, c_38⟩ | exact kbI_fN (fun z => c_4 z.1) | exact kbI_fN (fun z => c_11 z.2.1) | exact kbI_fN (fun z => c_18 z.2.2.1) | exact kbI_fN (fun z => c_26 z.2.2.2.1) | exact kbI_fN (fun z => c_38 z.2.2.2.2)) ?_
      exact J46 ls (lv_sub hl [0, 1, 2, 3, 4] rfl) _ _ hX
    · skip
      have c_11 := kbI_1 c_11
      refine lv_iload_n C.x C.b dX9_tell_14 rfl (lv_at hl 3 rfl) ?_
      refine k_calli (va_runS (As := [.int c9]) (rest := []) C.1 (kX9_isTold l G B0 f c9) (va_cwS 1 C.ts gX9_tell_X9_isTold rfl rfl rfl (hdX9_tell_X9_isTold) ⟨Nat.le_of_ble_eq_true rfl, Nat.le_of_ble_eq_true rfl⟩) (k_preS C hX) rfl rfl hl.1 rfl (lv_room (Nat.le_of_ble_eq_true rfl)) dX9_tell_15 ⟨Nat.le_of_ble_eq_true rfl, Nat.le_of_ble_eq_true rfl⟩) hX (fun r15 f15 H locs hp15 hX => ?_)
      obtain ⟨hr15, hf15⟩ := hp15
      rw [hf15] at hX
      refine k_topi (y := (kbI (mTd c9))) hr15 ?_
      refine lv_if_eq (tgt := 45) C.x C.b dX9_tell_18 (by decide) (fun c_18 => ?_) (fun c_18 => ?_)
      · skip
        have c_18 := kbI_0 c_18
        refine lv_iconst (v := nI 0) C.x C.b dX9_tell_45 (by decide) ?_
        refine k_topi (y := (kbI (mTl a b c9 e9))) (by first | exact kbI_tN ⟨c_4, c_11, c_18, c_26, c_38⟩ | exact kbI_fN (fun z => c_4 z.1) | exact kbI_fN (fun z => c_11 z.2.1) | exact kbI_fN (fun z => c_18 z.2.2.1) | exact kbI_fN (fun z => c_26 z.2.2.2.1) | exact kbI_fN (fun z => c_38 z.2.2.2.2)) ?_
        exact J46 ls (lv_sub hl [0, 1, 2, 3, 4] rfl) _ _ hX
      · skip
        have c_18 := kbI_1 c_18
        refine lv_iload C.x C.b dX9_tell_21 (lv_at hl 4 rfl) ?_
        refine k_calli (va_runS (As := [.int e9]) (rest := []) C.1 (kX9_isTold l G B0 f e9) (va_cwS 1 C.ts gX9_tell_X9_isTold rfl rfl rfl (hdX9_tell_X9_isTold) ⟨Nat.le_of_ble_eq_true rfl, Nat.le_of_ble_eq_true rfl⟩) (k_preS C hX) rfl rfl hl.1 rfl (lv_room (Nat.le_of_ble_eq_true rfl)) dX9_tell_23 ⟨Nat.le_of_ble_eq_true rfl, Nat.le_of_ble_eq_true rfl⟩) hX (fun r23 f23 H locs hp23 hX => ?_)
        obtain ⟨hr23, hf23⟩ := hp23
        rw [hf23] at hX
        refine k_topi (y := (kbI (mTd e9))) hr23 ?_
        refine lv_if_eq (tgt := 45) C.x C.b dX9_tell_26 (by decide) (fun c_26 => ?_) (fun c_26 => ?_)
        · skip
          have c_26 := kbI_0 c_26
          refine lv_iconst (v := nI 0) C.x C.b dX9_tell_45 (by decide) ?_
          refine k_topi (y := (kbI (mTl a b c9 e9))) (by first | exact kbI_tN ⟨c_4, c_11, c_18, c_26, c_38⟩ | exact kbI_fN (fun z => c_4 z.1) | exact kbI_fN (fun z => c_11 z.2.1) | exact kbI_fN (fun z => c_18 z.2.2.1) | exact kbI_fN (fun z => c_26 z.2.2.2.1) | exact kbI_fN (fun z => c_38 z.2.2.2.2)) ?_
          exact J46 ls (lv_sub hl [0, 1, 2, 3, 4] rfl) _ _ hX
        · skip
          have c_26 := kbI_1 c_26
          refine lv_iload_n C.x C.b dX9_tell_29 rfl (lv_at hl 1 rfl) ?_
          refine lv_iload C.x C.b dX9_tell_30 (lv_at hl 4 rfl) ?_
          refine lv_imul C.x C.b dX9_tell_32 ?_
          refine lv_iload_n C.x C.b dX9_tell_33 rfl (lv_at hl 2 rfl) ?_
          refine lv_iload_n C.x C.b dX9_tell_34 rfl (lv_at hl 3 rfl) ?_
          refine lv_imul C.x C.b dX9_tell_35 ?_
          refine lv_isub C.x C.b dX9_tell_36 ?_
          refine lv_iconst (v := nI 1) C.x C.b dX9_tell_37 (by decide) ?_
          refine lv_icmp_ne (tgt := 45) C.x C.b dX9_tell_38 (by decide) (fun c_38 => ?_) (fun c_38 => ?_)
          · skip
            refine lv_iconst (v := nI 0) C.x C.b dX9_tell_45 (by decide) ?_
            refine k_topi (y := (kbI (mTl a b c9 e9))) (by first | exact kbI_tN ⟨c_4, c_11, c_18, c_26, c_38⟩ | exact kbI_fN (fun z => c_4 z.1) | exact kbI_fN (fun z => c_11 z.2.1) | exact kbI_fN (fun z => c_18 z.2.2.1) | exact kbI_fN (fun z => c_26 z.2.2.2.1) | exact kbI_fN (fun z => c_38 z.2.2.2.2)) ?_
            exact J46 ls (lv_sub hl [0, 1, 2, 3, 4] rfl) _ _ hX
          · skip
            refine lv_iconst (v := nI 1) C.x C.b dX9_tell_41 (by decide) ?_
            refine lv_goto (tgt := 46) C.x C.b dX9_tell_42 (by decide) ?_
            refine k_topi (y := (kbI (mTl a b c9 e9))) (by first | exact kbI_tN ⟨c_4, c_11, c_18, c_26, c_38⟩ | exact kbI_fN (fun z => c_4 z.1) | exact kbI_fN (fun z => c_11 z.2.1) | exact kbI_fN (fun z => c_18 z.2.2.1) | exact kbI_fN (fun z => c_26 z.2.2.2.1) | exact kbI_fN (fun z => c_38 z.2.2.2.2)) ?_
            exact J46 ls (lv_sub hl [0, 1, 2, 3, 4] rfl) _ _ hX

theorem lk_X9_home_f80 : Cond.fieldLink RX9 80 "KoebehallModel" "thrown" "I" ∈ wsX9_home := by decide +kernel
theorem hin_X9_home_RX9 : ∀ w ∈ u_ws RX9 TX9 28, w ∈ wsX9_home := by decide +kernel
theorem lk_X9_home_f58 : Cond.fieldLink RX9 58 "KoebehallModel" "word" "[J" ∈ wsX9_home := by decide +kernel
abbrev rmX9_home : Room := { frames := 0, cells := 0, slots := 0, locals := 0 }
set_option maxHeartbeats 4000000 in
set_option maxRecDepth 100000 in
/-- X9_home -/
theorem kX9_home (l : Launch) (G : kG) (B0 : Nat) (f : kH) (h : Nat) (q : Nat → Nat) (i0 i1 i3 i7 i18 i22 i23 i27 : Int32) (j16 j17 : Int64) (a2 : Nat → Int32) (a4 : Nat → Int32) (a5 : Nat → Int32) (a6 : Nat → Int32) (b8 : Nat → Int64) (b9 : Nat → Int64) (b10 : Nat → Int64) (a11 : Nat → Int32) (a12 : Nat → Int32) (a13 : Nat → Int32) (a14 : Nat → Int32) (b15 : Nat → Int64) (b19 : Nat → Int64) (b20 : Nat → Int64) (b21 : Nat → Int64) (a24 : Nat → Int32) (a25 : Nat → Int32) (a26 : Nat → Int32) (hM : kCs f (mC G h q i0 i1 i3 i7 i18 i22 i23 i27 j16 j17 a2 a4 a5 a6 b8 b9 b10 a11 a12 a13 a14 b15 b19 b20 b21 a24 a25 a26)) : Met l yX9_home wsX9_home (rmX9_home) (kP G B0 f [.ref h]) (kQi G B0 (fun r f1 => r = (b20 0 + b20 3).toInt32 ∧ kCs f1 (mC G h q i0 i1 i3 i7 i18 i22 i23 (nI 0) j16 j17 a2 a4 a5 a6 b8 b9 b10 a11 a12 a13 a14 b15 b19 (mHome b20 4) b21 a24 a25 a26) ∧ kOff (mAs h q) f f1)) 0 0 (kAb B0) := by
  refine kMet (cc := cX9_home) (maxL := 3) (ret := (some .int)) (by decide) rfl (Nat.le_of_ble_eq_true rfl) ?_
  intro p e s m args below meth c H locs Q ls C hX hl hr hlocks hnm hQ
  have hO : kOff (mAs h q) f f := kOff.rf
  have hl : lv_has ls 3 [(0, .ref h)] := hl
  refine lv_aload_n C.x C.b dX9_home_0 rfl (lv_at hl 0 rfl) ?_
  refine lv_iconst (v := nI 0) C.x C.b dX9_home_1 (by decide) ?_
  refine k_put (X := RX9) (T := TX9) (N := 28) (ty := .int) (v := .int (nI 0)) C hX (hM.at 0 rfl) rfl hin_X9_home_RX9 tyX9_ok nmX9 27 (by decide) lk_X9_home_f80 (fun _ h9 => h9) rfl (by decide +kernel) rfl rfl (Nat.le_of_ble_eq_true rfl) dX9_home_2 (fun H locs hX => ?_)
  obtain ⟨g1, hX, hM, hO⟩ := kX.wr hX hM hO 0 rfl (List.mem_of_getElem? (i := 0) rfl)
  have hM : kCs g1 (mC G h q i0 i1 i3 i7 i18 i22 i23 (nI 0) j16 j17 a2 a4 a5 a6 b8 b9 b10 a11 a12 a13 a14 b15 b19 b20 b21 a24 a25 a26) := hM
  refine lv_aload_n C.x C.b dX9_home_5 rfl (lv_at hl 0 rfl) ?_
  refine k_get (X := RX9) (T := TX9) (N := 28) (v := .ref (q 20)) C hX (hM.at 0 rfl) rfl hin_X9_home_RX9 20 (by decide) lk_X9_home_f58 (fun _ h9 => h9) rfl dX9_home_6 ?_
  refine lv_iconst (v := nI 0) C.x C.b dX9_home_9 (by decide) ?_
  refine k_lald C hX (hM.at 14 rfl) (vp_in_nI (by omega) (by omega)) dX9_home_10 ?_
  refine k_topl (y := b20 0) (by rw [nI_clamp (by omega)]) ?_
  refine lv_aload_n C.x C.b dX9_home_11 rfl (lv_at hl 0 rfl) ?_
  refine k_get (X := RX9) (T := TX9) (N := 28) (v := .ref (q 20)) C hX (hM.at 0 rfl) rfl hin_X9_home_RX9 20 (by decide) lk_X9_home_f58 (fun _ h9 => h9) rfl dX9_home_12 ?_
  refine lv_iconst (v := nI 3) C.x C.b dX9_home_15 (by decide) ?_
  refine k_lald C hX (hM.at 14 rfl) (vp_in_nI (by omega) (by omega)) dX9_home_16 ?_
  refine k_topl (y := b20 3) (by rw [nI_clamp (by omega)]) ?_
  refine lv_ladd C.x C.b dX9_home_17 ?_
  refine lv_l2i (v := ((b20 0) + (b20 3)).toInt32) C.x C.b dX9_home_18 rfl ?_
  refine lv_istore_n (lv' := [(1, .int (((b20 0) + (b20 3)).toInt32)), (0, .ref h)]) C.x C.b dX9_home_19 rfl hl (by decide) rfl (fun ls hl => ?_)
  refine lv_iconst (v := nI 0) C.x C.b dX9_home_20 (by decide) ?_
  refine lv_istore_n (lv' := [(2, .int (nI 0)), (1, .int (((b20 0) + (b20 3)).toInt32)), (0, .ref h)]) C.x C.b dX9_home_21 rfl hl (by decide) rfl (fun ls hl => ?_)
  have LOOP22 : ∀ (n : Nat) (k : Nat), (k ≤ 4) → (4 - k) < n → ∀ (ls : Array Slot), lv_has ls 3 [(1, .int ((b20 0 + b20 3).toInt32)), (2, .int (nI k)), (0, .ref h)] → ∀ (fL : kH), kCs fL (mC G h q i0 i1 i3 i7 i18 i22 i23 (nI 0) j16 j17 a2 a4 a5 a6 b8 b9 b10 a11 a12 a13 a14 b15 b19 (mHome b20 k) b21 a24 a25 a26) → kOff (mAs h q) f fL → ∀ (H : Heap) (locs : List Loc), kX G B0 s fL H locs → W p l e (rmX9_home) s m args below meth c H locs 0 0 Q (F0 m 22 ls []) := by
    intro n22
    induction n22 with
    | zero => intro k hk hn; exact absurd hn (Nat.not_lt_zero _)
    | succ n22 ih22 =>
      intro k hk hn ls hl fL hM hO H locs hX
      refine lv_iload_n C.x C.b dX9_home_22 rfl (lv_at hl 1 rfl) ?_
      refine lv_iconst (v := nI 4) C.x C.b dX9_home_23 (by decide) ?_
      refine lv_icmp_ge (tgt := 50) C.x C.b dX9_home_24 (by decide) (fun c_24 => ?_) (fun c_24 => ?_)
      · skip
        have c_24 : 4 ≤ k := (nI_leI (by omega) (by omega)).mp c_24
        have hk9 : 4 = k := by omega
        subst hk9
        refine lv_iload_n C.x C.b dX9_home_50 rfl (lv_at hl 0 rfl) ?_
        exact k_iret C hX hr hlocks hQ (by omega) (by omega) (⟨rfl, hM, hO⟩) dX9_home_51
      · skip
        have c_24 : ¬ (4 ≤ k) := fun h9 => c_24 ((nI_leI (by omega) (by omega)).mpr h9)
        refine lv_aload_n C.x C.b dX9_home_27 rfl (lv_at hl 2 rfl) ?_
        refine k_get (X := RX9) (T := TX9) (N := 28) (v := .ref (q 20)) C hX (hM.at 0 rfl) rfl hin_X9_home_RX9 20 (by decide) lk_X9_home_f58 (fun _ h9 => h9) rfl dX9_home_28 ?_
        refine lv_iload_n C.x C.b dX9_home_31 rfl (lv_at hl 1 rfl) ?_
        refine lv_iload_n C.x C.b dX9_home_32 rfl (lv_at hl 1 rfl) ?_
        refine lv_iconst (v := nI 3) C.x C.b dX9_home_33 (by decide) ?_
        refine lv_irem C.x C.b dX9_home_34 (by decide) ?_
        refine k_topi (y := nI (k % 3)) (pk_rem (by omega) (by omega) (by omega)) ?_
        have J43 : ∀ (ls : Array Slot), lv_has ls 3 [(1, .int ((b20 0 + b20 3).toInt32)), (2, .int (nI k)), (0, .ref h)] → ∀ (H : Heap) (locs : List Loc), kX G B0 s fL H locs → W p l e (rmX9_home) s m args below meth c H locs 0 0 Q (F0 m 43 ls [.long (if k % 3 = 0 then 1 else 0), .int (nI k), .ref (q 20)]) := by
          intro ls hl H locs hX
          refine k_last C hX (hM.at 14 rfl) (vp_in_nI (by omega) (by omega)) dX9_home_43 (fun H locs hX => ?_)
          rw [nI_clamp (by omega)] at hX
          obtain ⟨g3, hX, hM, hO⟩ := kX.wr hX hM hO 14 rfl (List.mem_of_getElem? (i := 14) rfl)
          have hM : kCs g3 (mC G h q i0 i1 i3 i7 i18 i22 i23 (nI 0) j16 j17 a2 a4 a5 a6 b8 b9 b10 a11 a12 a13 a14 b15 b19 (vp_updL (mHome b20 k) k (if k % 3 = 0 then 1 else 0)) b21 a24 a25 a26) := hM
          refine lv_iinc (v := (nI (k + 1))) (lv' := [(2, .int (nI (k + 1))), (1, .int ((b20 0 + b20 3).toInt32)), (0, .ref h)]) C.x C.b dX9_home_44 hl (k := 1) rfl (nI_1 _) (by decide) rfl (fun ls hl => ?_)
          refine lv_goto (tgt := 22) C.x C.b dX9_home_47 (by decide) ?_
          exact ih22 (k + 1) (by omega) (by omega) ls (lv_sub hl [1, 0, 2] rfl) _ hM hO _ _ hX
        refine lv_if_ne (tgt := 42) C.x C.b dX9_home_35 (by decide) (fun c_35 => ?_) (fun c_35 => ?_)
        · skip
          have c_35 : ¬ k % 3 = 0 := fun h9 => c_35 ((nI_eq (b := 0) (by omega) (by omega)).mpr h9)
          refine lv_lconst (v := 0) C.x C.b dX9_home_42 (by decide) ?_
          refine k_topl (y := (if k % 3 = 0 then 1 else 0)) (by first | rw [if_pos c_35] | rw [if_neg c_35]) ?_
          exact J43 ls (lv_sub hl [0, 1, 2] rfl) _ _ hX
        · skip
          have c_35 : k % 3 = 0 := (nI_eq (b := 0) (by omega) (by omega)).mp c_35
          refine lv_lconst (v := 1) C.x C.b dX9_home_38 (by decide) ?_
          refine lv_goto (tgt := 43) C.x C.b dX9_home_39 (by decide) ?_
          refine k_topl (y := (if k % 3 = 0 then 1 else 0)) (by first | rw [if_pos c_35] | rw [if_neg c_35]) ?_
          exact J43 ls (lv_sub hl [0, 1, 2] rfl) _ _ hX
  exact LOOP22 _ 0 (by omega) (Nat.lt_succ_self _) ls (lv_sub hl [1, 0, 2] rfl) _ hM hO _ _ hX

theorem lk_X9_nodes_c109 : Cond.constantLong RX9 109 (2) ∈ wsX9_nodes := by decide +kernel
theorem lk_X9_nodes_c207 : Cond.constantLong RX9 207 (6) ∈ wsX9_nodes := by decide +kernel
theorem hdX9_nodes_X9_isIn : yX9_isIn.cls ≠ "java/lang/invoke/MethodHandle" ∧ yX9_isIn.cls ≠ "java/lang/invoke/VarHandle" ∧ (parseMethodDescriptor yX9_isIn.desc).map (fun d => d.parameters.length) = some 3 := by decide +kernel
theorem lk_X9_nodes_f80 : Cond.fieldLink RX9 80 "KoebehallModel" "thrown" "I" ∈ wsX9_nodes := by decide +kernel
theorem hin_X9_nodes_RX9 : ∀ w ∈ u_ws RX9 TX9 28, w ∈ wsX9_nodes := by decide +kernel
abbrev rmX9_nodes_b1 : Room := { frames := 1, cells := 0, slots := 0, locals := 25 }
set_option maxHeartbeats 4000000 in
set_option maxRecDepth 100000 in
/-- X9_nodes_b1 -/
theorem kX9_nodes_b1 (l : Launch) (G : kG) (B0 : Nat) (f : kH) (h : Nat) (q : Nat → Nat) (i0 i1 i3 i7 i18 i22 i23 i27 : Int32) (j16 j17 : Int64) (a2 : Nat → Int32) (a4 : Nat → Int32) (a5 : Nat → Int32) (a6 : Nat → Int32) (b8 : Nat → Int64) (b9 : Nat → Int64) (b10 : Nat → Int64) (a11 : Nat → Int32) (a12 : Nat → Int32) (a13 : Nat → Int32) (a14 : Nat → Int32) (b15 : Nat → Int64) (b19 : Nat → Int64) (b20 : Nat → Int64) (b21 : Nat → Int64) (a24 : Nat → Int32) (a25 : Nat → Int32) (a26 : Nat → Int32) (a : Int32) (hM : kCs f (mC G h q i0 i1 i3 i7 i18 i22 i23 i27 j16 j17 a2 a4 a5 a6 b8 b9 b10 a11 a12 a13 a14 b15 b19 b20 b21 a24 a25 a26)) (hv : ¬ mRg a (2) 6) : Met l yX9_nodes wsX9_nodes (rmX9_nodes_b1) (kP G B0 f [.ref h, .int a]) (kQi G B0 (fun r f1 => r = nI 0 ∧ kCs f1 (mC G h q i0 i1 i3 i7 i18 i22 i23 (nI 1) j16 j17 a2 a4 a5 a6 b8 b9 b10 a11 a12 a13 a14 b15 b19 b20 b21 a24 a25 a26) ∧ kOff (mAs h q) f f1)) 0 0 (kAb B0) := by
  refine kMet (cc := cX9_nodes) (maxL := 3) (ret := (some .int)) (by decide) rfl (Nat.le_of_ble_eq_true rfl) ?_
  intro p e s m args below meth c H locs Q ls C hX hl hr hlocks hnm hQ
  have hO : kOff (mAs h q) f f := kOff.rf
  have hl : lv_has ls 3 [(0, .ref h), (1, .int a)] := hl
  refine lv_aload_n C.x C.b dX9_nodes_0 rfl (lv_at hl 0 rfl) ?_
  refine lv_iload_n C.x C.b dX9_nodes_1 rfl (lv_at hl 1 rfl) ?_
  refine lv_i2l (v := a.toInt64) C.x C.b dX9_nodes_2 rfl ?_
  refine lv_ldc2 (v := 2) C.x C.b C.ow (C.ts _ lk_X9_nodes_c109) dX9_nodes_3 ?_
  refine lv_ldc2 (v := 6) C.x C.b C.ow (C.ts _ lk_X9_nodes_c207) dX9_nodes_6 ?_
  refine k_calli (va_runS (As := [.long a.toInt64, .long 2, .long 6]) (rest := [.ref h]) C.1 (kX9_isIn l G B0 f a.toInt64 2 6) (va_cwS 3 C.ts gX9_nodes_X9_isIn rfl rfl rfl (hdX9_nodes_X9_isIn) ⟨Nat.le_of_ble_eq_true rfl, Nat.le_of_ble_eq_true rfl⟩) (k_preS C hX) rfl rfl hl.1 rfl (lv_room (Nat.le_of_ble_eq_true rfl)) dX9_nodes_9 ⟨Nat.le_of_ble_eq_true rfl, Nat.le_of_ble_eq_true rfl⟩) hX (fun r9 f9 H locs hp9 hX => ?_)
  obtain ⟨hr9, hf9⟩ := hp9
  rw [hf9] at hX
  refine k_topi (y := (kbI ((2 : Int64) ≤ a.toInt64 ∧ a.toInt64 ≤ 6))) hr9 ?_
  refine k_topi (y := (kbI (mRg a (2) 6))) (kbI_c (m_rg (by decide) (by decide))) ?_
  refine lv_if_eq (tgt := 19) C.x C.b dX9_nodes_12 (by decide) (fun c_12 => ?_) (fun c_12 => ?_)
  rotate_left
  · exact absurd (kbI_1 c_12) (hv)
  refine lv_iconst (v := nI 1) C.x C.b dX9_nodes_19 (by decide) ?_
  refine k_put (X := RX9) (T := TX9) (N := 28) (ty := .int) (v := .int (nI 1)) C hX (hM.at 0 rfl) rfl hin_X9_nodes_RX9 tyX9_ok nmX9 27 (by decide) lk_X9_nodes_f80 (fun _ h9 => h9) rfl (by decide +kernel) rfl rfl (Nat.le_of_ble_eq_true rfl) dX9_nodes_20 (fun H locs hX => ?_)
  obtain ⟨g1, hX, hM, hO⟩ := kX.wr hX hM hO 0 rfl (List.mem_of_getElem? (i := 0) rfl)
  have hM : kCs g1 (mC G h q i0 i1 i3 i7 i18 i22 i23 (nI 1) j16 j17 a2 a4 a5 a6 b8 b9 b10 a11 a12 a13 a14 b15 b19 b20 b21 a24 a25 a26) := hM
  refine lv_aload_n C.x C.b dX9_nodes_23 rfl (lv_at hl 0 rfl) ?_
  refine k_get (X := RX9) (T := TX9) (N := 28) (v := .int (nI 1)) C hX (hM.at 0 rfl) rfl hin_X9_nodes_RX9 27 (by decide) lk_X9_nodes_f80 (fun _ h9 => h9) rfl dX9_nodes_24 ?_
  refine lv_if_le (tgt := 32) C.x C.b dX9_nodes_27 (by decide) (fun c_27 => ?_) (fun c_27 => ?_)
  · exact absurd c_27 (by decide)
  refine lv_iconst (v := nI 0) C.x C.b dX9_nodes_30 (by decide) ?_
  exact k_iret C hX hr hlocks hQ (by omega) (by omega) (⟨rfl, hM, hO⟩) dX9_nodes_31

theorem lk_X9_nodes_f64 : Cond.fieldLink RX9 64 "KoebehallModel" "nodes" "I" ∈ wsX9_nodes := by decide +kernel
theorem lk_X9_nodes_f209 : Cond.fieldLink RX9 209 "KoebehallModel" "wires" "I" ∈ wsX9_nodes := by decide +kernel
abbrev rmX9_nodes : Room := { frames := 1, cells := 0, slots := 0, locals := 25 }
set_option maxHeartbeats 4000000 in
set_option maxRecDepth 100000 in
/-- X9_nodes -/
theorem kX9_nodes (l : Launch) (G : kG) (B0 : Nat) (f : kH) (h : Nat) (q : Nat → Nat) (i0 i1 i3 i7 i18 i22 i23 i27 : Int32) (j16 j17 : Int64) (a2 : Nat → Int32) (a4 : Nat → Int32) (a5 : Nat → Int32) (a6 : Nat → Int32) (b8 : Nat → Int64) (b9 : Nat → Int64) (b10 : Nat → Int64) (a11 : Nat → Int32) (a12 : Nat → Int32) (a13 : Nat → Int32) (a14 : Nat → Int32) (b15 : Nat → Int64) (b19 : Nat → Int64) (b20 : Nat → Int64) (b21 : Nat → Int64) (a24 : Nat → Int32) (a25 : Nat → Int32) (a26 : Nat → Int32) (a : Int32) (hM : kCs f (mC G h q i0 i1 i3 i7 i18 i22 i23 i27 j16 j17 a2 a4 a5 a6 b8 b9 b10 a11 a12 a13 a14 b15 b19 b20 b21 a24 a25 a26)) (hv : mRg a (2) 6) : Met l yX9_nodes wsX9_nodes (rmX9_nodes) (kP G B0 f [.ref h, .int a]) (kQi G B0 (fun r f1 => r = i22 ∧ kCs f1 (mC G h q i0 i1 i3 i7 i18 a (nI 0) (nI 0) j16 j17 a2 a4 a5 a6 b8 b9 b10 a11 a12 a13 a14 b15 b19 b20 b21 a24 a25 a26) ∧ kOff (mAs h q) f f1)) 0 0 (kAb B0) := by
  refine kMet (cc := cX9_nodes) (maxL := 3) (ret := (some .int)) (by decide) rfl (Nat.le_of_ble_eq_true rfl) ?_
  intro p e s m args below meth c H locs Q ls C hX hl hr hlocks hnm hQ
  have hO : kOff (mAs h q) f f := kOff.rf
  have hl : lv_has ls 3 [(0, .ref h), (1, .int a)] := hl
  refine lv_aload_n C.x C.b dX9_nodes_0 rfl (lv_at hl 0 rfl) ?_
  refine lv_iload_n C.x C.b dX9_nodes_1 rfl (lv_at hl 1 rfl) ?_
  refine lv_i2l (v := a.toInt64) C.x C.b dX9_nodes_2 rfl ?_
  refine lv_ldc2 (v := 2) C.x C.b C.ow (C.ts _ lk_X9_nodes_c109) dX9_nodes_3 ?_
  refine lv_ldc2 (v := 6) C.x C.b C.ow (C.ts _ lk_X9_nodes_c207) dX9_nodes_6 ?_
  refine k_calli (va_runS (As := [.long a.toInt64, .long 2, .long 6]) (rest := [.ref h]) C.1 (kX9_isIn l G B0 f a.toInt64 2 6) (va_cwS 3 C.ts gX9_nodes_X9_isIn rfl rfl rfl (hdX9_nodes_X9_isIn) ⟨Nat.le_of_ble_eq_true rfl, Nat.le_of_ble_eq_true rfl⟩) (k_preS C hX) rfl rfl hl.1 rfl (lv_room (Nat.le_of_ble_eq_true rfl)) dX9_nodes_9 ⟨Nat.le_of_ble_eq_true rfl, Nat.le_of_ble_eq_true rfl⟩) hX (fun r9 f9 H locs hp9 hX => ?_)
  obtain ⟨hr9, hf9⟩ := hp9
  rw [hf9] at hX
  refine k_topi (y := (kbI ((2 : Int64) ≤ a.toInt64 ∧ a.toInt64 ≤ 6))) hr9 ?_
  refine k_topi (y := (kbI (mRg a (2) 6))) (kbI_c (m_rg (by decide) (by decide))) ?_
  refine lv_if_eq (tgt := 19) C.x C.b dX9_nodes_12 (by decide) (fun c_12 => ?_) (fun c_12 => ?_)
  · exact absurd (hv) (kbI_0 c_12)
  refine lv_iconst (v := nI 0) C.x C.b dX9_nodes_15 (by decide) ?_
  refine lv_goto (tgt := 20) C.x C.b dX9_nodes_16 (by decide) ?_
  refine k_put (X := RX9) (T := TX9) (N := 28) (ty := .int) (v := .int (nI 0)) C hX (hM.at 0 rfl) rfl hin_X9_nodes_RX9 tyX9_ok nmX9 27 (by decide) lk_X9_nodes_f80 (fun _ h9 => h9) rfl (by decide +kernel) rfl rfl (Nat.le_of_ble_eq_true rfl) dX9_nodes_20 (fun H locs hX => ?_)
  obtain ⟨g1, hX, hM, hO⟩ := kX.wr hX hM hO 0 rfl (List.mem_of_getElem? (i := 0) rfl)
  have hM : kCs g1 (mC G h q i0 i1 i3 i7 i18 i22 i23 (nI 0) j16 j17 a2 a4 a5 a6 b8 b9 b10 a11 a12 a13 a14 b15 b19 b20 b21 a24 a25 a26) := hM
  refine lv_aload_n C.x C.b dX9_nodes_23 rfl (lv_at hl 0 rfl) ?_
  refine k_get (X := RX9) (T := TX9) (N := 28) (v := .int (nI 0)) C hX (hM.at 0 rfl) rfl hin_X9_nodes_RX9 27 (by decide) lk_X9_nodes_f80 (fun _ h9 => h9) rfl dX9_nodes_24 ?_
  refine lv_if_le (tgt := 32) C.x C.b dX9_nodes_27 (by decide) (fun c_27 => ?_) (fun c_27 => ?_)
  rotate_left
  · exact absurd c_27 (by decide)
  refine lv_aload_n C.x C.b dX9_nodes_32 rfl (lv_at hl 0 rfl) ?_
  refine k_get (X := RX9) (T := TX9) (N := 28) (v := .int i22) C hX (hM.at 0 rfl) rfl hin_X9_nodes_RX9 22 (by decide) lk_X9_nodes_f64 (fun _ h9 => h9) rfl dX9_nodes_33 ?_
  refine lv_istore_n (lv' := [(2, .int i22), (0, .ref h), (1, .int a)]) C.x C.b dX9_nodes_36 rfl hl (by decide) rfl (fun ls hl => ?_)
  refine lv_aload_n C.x C.b dX9_nodes_37 rfl (lv_at hl 1 rfl) ?_
  refine lv_iload_n C.x C.b dX9_nodes_38 rfl (lv_at hl 2 rfl) ?_
  refine k_put (X := RX9) (T := TX9) (N := 28) (ty := .int) (v := .int a) C hX (hM.at 0 rfl) rfl hin_X9_nodes_RX9 tyX9_ok nmX9 22 (by decide) lk_X9_nodes_f64 (fun _ h9 => h9) rfl (by decide +kernel) rfl rfl (Nat.le_of_ble_eq_true rfl) dX9_nodes_39 (fun H locs hX => ?_)
  obtain ⟨g2, hX, hM, hO⟩ := kX.wr hX hM hO 0 rfl (List.mem_of_getElem? (i := 0) rfl)
  have hM : kCs g2 (mC G h q i0 i1 i3 i7 i18 a i23 (nI 0) j16 j17 a2 a4 a5 a6 b8 b9 b10 a11 a12 a13 a14 b15 b19 b20 b21 a24 a25 a26) := hM
  refine lv_aload_n C.x C.b dX9_nodes_42 rfl (lv_at hl 1 rfl) ?_
  refine lv_iconst (v := nI 0) C.x C.b dX9_nodes_43 (by decide) ?_
  refine k_put (X := RX9) (T := TX9) (N := 28) (ty := .int) (v := .int (nI 0)) C hX (hM.at 0 rfl) rfl hin_X9_nodes_RX9 tyX9_ok nmX9 23 (by decide) lk_X9_nodes_f209 (fun _ h9 => h9) rfl (by decide +kernel) rfl rfl (Nat.le_of_ble_eq_true rfl) dX9_nodes_44 (fun H locs hX => ?_)
  obtain ⟨g3, hX, hM, hO⟩ := kX.wr hX hM hO 0 rfl (List.mem_of_getElem? (i := 0) rfl)
  have hM : kCs g3 (mC G h q i0 i1 i3 i7 i18 a (nI 0) (nI 0) j16 j17 a2 a4 a5 a6 b8 b9 b10 a11 a12 a13 a14 b15 b19 b20 b21 a24 a25 a26) := hM
  refine lv_iload_n C.x C.b dX9_nodes_47 rfl (lv_at hl 0 rfl) ?_
  exact k_iret C hX hr hlocks hQ (by omega) (by omega) (⟨rfl, hM, hO⟩) dX9_nodes_48

theorem hdX9_wire_X9_isNode : yX9_isNode.cls ≠ "java/lang/invoke/MethodHandle" ∧ yX9_isNode.cls ≠ "java/lang/invoke/VarHandle" ∧ (parseMethodDescriptor yX9_isNode.desc).map (fun d => d.parameters.length) = some 1 := by decide +kernel
theorem lk_X9_wire_f80 : Cond.fieldLink RX9 80 "KoebehallModel" "thrown" "I" ∈ wsX9_wire := by decide +kernel
theorem hin_X9_wire_RX9 : ∀ w ∈ u_ws RX9 TX9 28, w ∈ wsX9_wire := by decide +kernel
abbrev rmX9_wire_b1 : Room := { frames := 2, cells := 0, slots := 0, locals := 46 }
set_option maxHeartbeats 4000000 in
set_option maxRecDepth 100000 in
/-- X9_wire_b1 -/
theorem kX9_wire_b1 (l : Launch) (G : kG) (B0 : Nat) (f : kH) (h : Nat) (q : Nat → Nat) (i0 i1 i3 i7 i18 i22 i23 i27 : Int32) (j16 j17 : Int64) (a2 : Nat → Int32) (a4 : Nat → Int32) (a5 : Nat → Int32) (a6 : Nat → Int32) (b8 : Nat → Int64) (b9 : Nat → Int64) (b10 : Nat → Int64) (a11 : Nat → Int32) (a12 : Nat → Int32) (a13 : Nat → Int32) (a14 : Nat → Int32) (b15 : Nat → Int64) (b19 : Nat → Int64) (b20 : Nat → Int64) (b21 : Nat → Int64) (a24 : Nat → Int32) (a25 : Nat → Int32) (a26 : Nat → Int32) (a b : Int32) (n9 w9 : Nat) (hM : kCs f (mC G h q i0 i1 i3 i7 i18 i22 i23 i27 j16 j17 a2 a4 a5 a6 b8 b9 b10 a11 a12 a13 a14 b15 b19 b20 b21 a24 a25 a26)) (hn0 : i22 = nI n9) (hn9 : n9 ≤ 6) (hw0 : i23 = nI w9) (hw9 : w9 ≤ 10) (hv : ¬ (mIn a n9 ∧ mIn b n9)) : Met l yX9_wire wsX9_wire (rmX9_wire_b1) (kP G B0 f [.ref h, .int a, .int b]) (kQi G B0 (fun r f1 => r = nI 0 ∧ kCs f1 (mC G h q i0 i1 i3 i7 i18 i22 i23 (nI 1) j16 j17 a2 a4 a5 a6 b8 b9 b10 a11 a12 a13 a14 b15 b19 b20 b21 a24 a25 a26) ∧ kOff (mAs h q) f f1)) 0 0 (kAb B0) := by
  refine kMet (cc := cX9_wire) (maxL := 3) (ret := (some .int)) (by decide) rfl (Nat.le_of_ble_eq_true rfl) ?_
  intro p e s m args below meth c H locs Q ls C hX hl hr hlocks hnm hQ
  have hO : kOff (mAs h q) f f := kOff.rf
  have hl : lv_has ls 3 [(0, .ref h), (1, .int a), (2, .int b)] := hl
  refine lv_aload_n C.x C.b dX9_wire_0 rfl (lv_at hl 0 rfl) ?_
  refine lv_aload_n C.x C.b dX9_wire_1 rfl (lv_at hl 0 rfl) ?_
  refine lv_iload_n C.x C.b dX9_wire_2 rfl (lv_at hl 1 rfl) ?_
  refine k_calli (va_runV (As := [.int a]) (rest := [.ref h]) C.1 (kX9_isNode l G B0 f h q i0 i1 i3 i7 i18 i22 i23 i27 j16 j17 a2 a4 a5 a6 b8 b9 b10 a11 a12 a13 a14 b15 b19 b20 b21 a24 a25 a26 a n9 hM hn0 (by omega)) (cwV 1 C.ts gX9_wire_X9_isNode rfl rfl rfl ⟨rfl, hdX9_wire_X9_isNode⟩ ⟨Nat.le_of_ble_eq_true rfl, Nat.le_of_ble_eq_true rfl⟩) (k_preV C hX (hM.at 0 rfl) rfl) rfl rfl hl.1 rfl (lv_room (Nat.le_of_ble_eq_true rfl)) dX9_wire_3 ⟨Nat.le_of_ble_eq_true rfl, Nat.le_of_ble_eq_true rfl⟩) hX (fun r3 f3 H locs hp3 hX => ?_)
  obtain ⟨hr3, hf3⟩ := hp3
  rw [hf3] at hX
  refine k_topi (y := (kbI (mIn a n9))) hr3 ?_
  refine lv_if_eq (tgt := 17) C.x C.b dX9_wire_6 (by decide) (fun c_6 => ?_) (fun c_6 => ?_)
  · skip
    have c_6 := kbI_0 c_6
    refine lv_iconst (v := nI 1) C.x C.b dX9_wire_17 (by decide) ?_
    refine lv_goto (tgt := 44) C.x C.b dX9_wire_18 (by decide) ?_
    refine k_put (X := RX9) (T := TX9) (N := 28) (ty := .int) (v := .int (nI 1)) C hX (hM.at 0 rfl) rfl hin_X9_wire_RX9 tyX9_ok nmX9 27 (by decide) lk_X9_wire_f80 (fun _ h9 => h9) rfl (by decide +kernel) rfl rfl (Nat.le_of_ble_eq_true rfl) dX9_wire_44 (fun H locs hX => ?_)
    obtain ⟨g1, hX, hM, hO⟩ := kX.wr hX hM hO 0 rfl (List.mem_of_getElem? (i := 0) rfl)
    have hM : kCs g1 (mC G h q i0 i1 i3 i7 i18 i22 i23 (nI 1) j16 j17 a2 a4 a5 a6 b8 b9 b10 a11 a12 a13 a14 b15 b19 b20 b21 a24 a25 a26) := hM
    refine lv_aload_n C.x C.b dX9_wire_47 rfl (lv_at hl 0 rfl) ?_
    refine k_get (X := RX9) (T := TX9) (N := 28) (v := .int (nI 1)) C hX (hM.at 0 rfl) rfl hin_X9_wire_RX9 27 (by decide) lk_X9_wire_f80 (fun _ h9 => h9) rfl dX9_wire_48 ?_
    refine lv_if_le (tgt := 56) C.x C.b dX9_wire_51 (by decide) (fun c_51 => ?_) (fun c_51 => ?_)
    · exact absurd c_51 (by decide)
    refine lv_iconst (v := nI 0) C.x C.b dX9_wire_54 (by decide) ?_
    exact k_iret C hX hr hlocks hQ (by omega) (by omega) (⟨rfl, hM, hO⟩) dX9_wire_55
  · skip
    have c_6 := kbI_1 c_6
    refine lv_aload_n C.x C.b dX9_wire_9 rfl (lv_at hl 0 rfl) ?_
    refine lv_iload_n C.x C.b dX9_wire_10 rfl (lv_at hl 2 rfl) ?_
    refine k_calli (va_runV (As := [.int b]) (rest := [.ref h]) C.1 (kX9_isNode l G B0 f h q i0 i1 i3 i7 i18 i22 i23 i27 j16 j17 a2 a4 a5 a6 b8 b9 b10 a11 a12 a13 a14 b15 b19 b20 b21 a24 a25 a26 b n9 hM hn0 (by omega)) (cwV 1 C.ts gX9_wire_X9_isNode rfl rfl rfl ⟨rfl, hdX9_wire_X9_isNode⟩ ⟨Nat.le_of_ble_eq_true rfl, Nat.le_of_ble_eq_true rfl⟩) (k_preV C hX (hM.at 0 rfl) rfl) rfl rfl hl.1 rfl (lv_room (Nat.le_of_ble_eq_true rfl)) dX9_wire_11 ⟨Nat.le_of_ble_eq_true rfl, Nat.le_of_ble_eq_true rfl⟩) hX (fun r11 f11 H locs hp11 hX => ?_)
    obtain ⟨hr11, hf11⟩ := hp11
    rw [hf11] at hX
    refine k_topi (y := (kbI (mIn b n9))) hr11 ?_
    refine lv_if_ne (tgt := 21) C.x C.b dX9_wire_14 (by decide) (fun c_14 => ?_) (fun c_14 => ?_)
    · skip
      have c_14 := kbI_1 c_14
      exact absurd ⟨c_6, c_14⟩ hv
    · skip
      have c_14 := kbI_0 c_14
      refine lv_iconst (v := nI 1) C.x C.b dX9_wire_17 (by decide) ?_
      refine lv_goto (tgt := 44) C.x C.b dX9_wire_18 (by decide) ?_
      refine k_put (X := RX9) (T := TX9) (N := 28) (ty := .int) (v := .int (nI 1)) C hX (hM.at 0 rfl) rfl hin_X9_wire_RX9 tyX9_ok nmX9 27 (by decide) lk_X9_wire_f80 (fun _ h9 => h9) rfl (by decide +kernel) rfl rfl (Nat.le_of_ble_eq_true rfl) dX9_wire_44 (fun H locs hX => ?_)
      obtain ⟨g2, hX, hM, hO⟩ := kX.wr hX hM hO 0 rfl (List.mem_of_getElem? (i := 0) rfl)
      have hM : kCs g2 (mC G h q i0 i1 i3 i7 i18 i22 i23 (nI 1) j16 j17 a2 a4 a5 a6 b8 b9 b10 a11 a12 a13 a14 b15 b19 b20 b21 a24 a25 a26) := hM
      refine lv_aload_n C.x C.b dX9_wire_47 rfl (lv_at hl 0 rfl) ?_
      refine k_get (X := RX9) (T := TX9) (N := 28) (v := .int (nI 1)) C hX (hM.at 0 rfl) rfl hin_X9_wire_RX9 27 (by decide) lk_X9_wire_f80 (fun _ h9 => h9) rfl dX9_wire_48 ?_
      refine lv_if_le (tgt := 56) C.x C.b dX9_wire_51 (by decide) (fun c_51 => ?_) (fun c_51 => ?_)
      · exact absurd c_51 (by decide)
      refine lv_iconst (v := nI 0) C.x C.b dX9_wire_54 (by decide) ?_
      exact k_iret C hX hr hlocks hQ (by omega) (by omega) (⟨rfl, hM, hO⟩) dX9_wire_55

abbrev rmX9_wire_b2 : Room := { frames := 2, cells := 0, slots := 0, locals := 46 }
set_option maxHeartbeats 4000000 in
set_option maxRecDepth 100000 in
/-- X9_wire_b2 -/
theorem kX9_wire_b2 (l : Launch) (G : kG) (B0 : Nat) (f : kH) (h : Nat) (q : Nat → Nat) (i0 i1 i3 i7 i18 i22 i23 i27 : Int32) (j16 j17 : Int64) (a2 : Nat → Int32) (a4 : Nat → Int32) (a5 : Nat → Int32) (a6 : Nat → Int32) (b8 : Nat → Int64) (b9 : Nat → Int64) (b10 : Nat → Int64) (a11 : Nat → Int32) (a12 : Nat → Int32) (a13 : Nat → Int32) (a14 : Nat → Int32) (b15 : Nat → Int64) (b19 : Nat → Int64) (b20 : Nat → Int64) (b21 : Nat → Int64) (a24 : Nat → Int32) (a25 : Nat → Int32) (a26 : Nat → Int32) (a b : Int32) (n9 w9 : Nat) (hM : kCs f (mC G h q i0 i1 i3 i7 i18 i22 i23 i27 j16 j17 a2 a4 a5 a6 b8 b9 b10 a11 a12 a13 a14 b15 b19 b20 b21 a24 a25 a26)) (hn0 : i22 = nI n9) (hn9 : n9 ≤ 6) (hw0 : i23 = nI w9) (hw9 : w9 ≤ 10) (hv : mIn a n9 ∧ mIn b n9) (hab : a = b) : Met l yX9_wire wsX9_wire (rmX9_wire_b2) (kP G B0 f [.ref h, .int a, .int b]) (kQi G B0 (fun r f1 => r = nI 0 ∧ kCs f1 (mC G h q i0 i1 i3 i7 i18 i22 i23 (nI 2) j16 j17 a2 a4 a5 a6 b8 b9 b10 a11 a12 a13 a14 b15 b19 b20 b21 a24 a25 a26) ∧ kOff (mAs h q) f f1)) 0 0 (kAb B0) := by
  refine kMet (cc := cX9_wire) (maxL := 3) (ret := (some .int)) (by decide) rfl (Nat.le_of_ble_eq_true rfl) ?_
  intro p e s m args below meth c H locs Q ls C hX hl hr hlocks hnm hQ
  have hO : kOff (mAs h q) f f := kOff.rf
  have hl : lv_has ls 3 [(0, .ref h), (1, .int a), (2, .int b)] := hl
  refine lv_aload_n C.x C.b dX9_wire_0 rfl (lv_at hl 0 rfl) ?_
  refine lv_aload_n C.x C.b dX9_wire_1 rfl (lv_at hl 0 rfl) ?_
  refine lv_iload_n C.x C.b dX9_wire_2 rfl (lv_at hl 1 rfl) ?_
  refine k_calli (va_runV (As := [.int a]) (rest := [.ref h]) C.1 (kX9_isNode l G B0 f h q i0 i1 i3 i7 i18 i22 i23 i27 j16 j17 a2 a4 a5 a6 b8 b9 b10 a11 a12 a13 a14 b15 b19 b20 b21 a24 a25 a26 a n9 hM hn0 (by omega)) (cwV 1 C.ts gX9_wire_X9_isNode rfl rfl rfl ⟨rfl, hdX9_wire_X9_isNode⟩ ⟨Nat.le_of_ble_eq_true rfl, Nat.le_of_ble_eq_true rfl⟩) (k_preV C hX (hM.at 0 rfl) rfl) rfl rfl hl.1 rfl (lv_room (Nat.le_of_ble_eq_true rfl)) dX9_wire_3 ⟨Nat.le_of_ble_eq_true rfl, Nat.le_of_ble_eq_true rfl⟩) hX (fun r3 f3 H locs hp3 hX => ?_)
  obtain ⟨hr3, hf3⟩ := hp3
  rw [hf3] at hX
  refine k_topi (y := (kbI (mIn a n9))) hr3 ?_
  refine lv_if_eq (tgt := 17) C.x C.b dX9_wire_6 (by decide) (fun c_6 => ?_) (fun c_6 => ?_)
  · exact absurd (hv.1) (kbI_0 c_6)
  refine lv_aload_n C.x C.b dX9_wire_9 rfl (lv_at hl 0 rfl) ?_
  refine lv_iload_n C.x C.b dX9_wire_10 rfl (lv_at hl 2 rfl) ?_
  refine k_calli (va_runV (As := [.int b]) (rest := [.ref h]) C.1 (kX9_isNode l G B0 f h q i0 i1 i3 i7 i18 i22 i23 i27 j16 j17 a2 a4 a5 a6 b8 b9 b10 a11 a12 a13 a14 b15 b19 b20 b21 a24 a25 a26 b n9 hM hn0 (by omega)) (cwV 1 C.ts gX9_wire_X9_isNode rfl rfl rfl ⟨rfl, hdX9_wire_X9_isNode⟩ ⟨Nat.le_of_ble_eq_true rfl, Nat.le_of_ble_eq_true rfl⟩) (k_preV C hX (hM.at 0 rfl) rfl) rfl rfl hl.1 rfl (lv_room (Nat.le_of_ble_eq_true rfl)) dX9_wire_11 ⟨Nat.le_of_ble_eq_true rfl, Nat.le_of_ble_eq_true rfl⟩) hX (fun r11 f11 H locs hp11 hX => ?_)
  obtain ⟨hr11, hf11⟩ := hp11
  rw [hf11] at hX
  refine k_topi (y := (kbI (mIn b n9))) hr11 ?_
  refine lv_if_ne (tgt := 21) C.x C.b dX9_wire_14 (by decide) (fun c_14 => ?_) (fun c_14 => ?_)
  rotate_left
  · exact absurd (hv.2) (kbI_0 c_14)
  refine lv_iload_n C.x C.b dX9_wire_21 rfl (lv_at hl 1 rfl) ?_
  refine lv_iload_n C.x C.b dX9_wire_22 rfl (lv_at hl 2 rfl) ?_
  refine lv_icmp_ne (tgt := 30) C.x C.b dX9_wire_23 (by decide) (fun c_23 => ?_) (fun c_23 => ?_)
  · skip
    exact absurd hab c_23
  refine lv_iconst (v := nI 2) C.x C.b dX9_wire_26 (by decide) ?_
  refine lv_goto (tgt := 44) C.x C.b dX9_wire_27 (by decide) ?_
  refine k_put (X := RX9) (T := TX9) (N := 28) (ty := .int) (v := .int (nI 2)) C hX (hM.at 0 rfl) rfl hin_X9_wire_RX9 tyX9_ok nmX9 27 (by decide) lk_X9_wire_f80 (fun _ h9 => h9) rfl (by decide +kernel) rfl rfl (Nat.le_of_ble_eq_true rfl) dX9_wire_44 (fun H locs hX => ?_)
  obtain ⟨g1, hX, hM, hO⟩ := kX.wr hX hM hO 0 rfl (List.mem_of_getElem? (i := 0) rfl)
  have hM : kCs g1 (mC G h q i0 i1 i3 i7 i18 i22 i23 (nI 2) j16 j17 a2 a4 a5 a6 b8 b9 b10 a11 a12 a13 a14 b15 b19 b20 b21 a24 a25 a26) := hM
  refine lv_aload_n C.x C.b dX9_wire_47 rfl (lv_at hl 0 rfl) ?_
  refine k_get (X := RX9) (T := TX9) (N := 28) (v := .int (nI 2)) C hX (hM.at 0 rfl) rfl hin_X9_wire_RX9 27 (by decide) lk_X9_wire_f80 (fun _ h9 => h9) rfl dX9_wire_48 ?_
  refine lv_if_le (tgt := 56) C.x C.b dX9_wire_51 (by decide) (fun c_51 => ?_) (fun c_51 => ?_)
  · exact absurd c_51 (by decide)
  refine lv_iconst (v := nI 0) C.x C.b dX9_wire_54 (by decide) ?_
  exact k_iret C hX hr hlocks hQ (by omega) (by omega) (⟨rfl, hM, hO⟩) dX9_wire_55

theorem lk_X9_wire_f209 : Cond.fieldLink RX9 209 "KoebehallModel" "wires" "I" ∈ wsX9_wire := by decide +kernel
abbrev rmX9_wire_b3 : Room := { frames := 2, cells := 0, slots := 0, locals := 46 }
set_option maxHeartbeats 4000000 in
set_option maxRecDepth 100000 in
/-- X9_wire_b3 -/
theorem kX9_wire_b3 (l : Launch) (G : kG) (B0 : Nat) (f : kH) (h : Nat) (q : Nat → Nat) (i0 i1 i3 i7 i18 i22 i23 i27 : Int32) (j16 j17 : Int64) (a2 : Nat → Int32) (a4 : Nat → Int32) (a5 : Nat → Int32) (a6 : Nat → Int32) (b8 : Nat → Int64) (b9 : Nat → Int64) (b10 : Nat → Int64) (a11 : Nat → Int32) (a12 : Nat → Int32) (a13 : Nat → Int32) (a14 : Nat → Int32) (b15 : Nat → Int64) (b19 : Nat → Int64) (b20 : Nat → Int64) (b21 : Nat → Int64) (a24 : Nat → Int32) (a25 : Nat → Int32) (a26 : Nat → Int32) (a b : Int32) (n9 w9 : Nat) (hM : kCs f (mC G h q i0 i1 i3 i7 i18 i22 i23 i27 j16 j17 a2 a4 a5 a6 b8 b9 b10 a11 a12 a13 a14 b15 b19 b20 b21 a24 a25 a26)) (hn0 : i22 = nI n9) (hn9 : n9 ≤ 6) (hw0 : i23 = nI w9) (hw9 : w9 ≤ 10) (hv : mIn a n9 ∧ mIn b n9) (hab : ¬ a = b) (h10 : w9 = 10) : Met l yX9_wire wsX9_wire (rmX9_wire_b3) (kP G B0 f [.ref h, .int a, .int b]) (kQi G B0 (fun r f1 => r = nI 0 ∧ kCs f1 (mC G h q i0 i1 i3 i7 i18 i22 i23 (nI 3) j16 j17 a2 a4 a5 a6 b8 b9 b10 a11 a12 a13 a14 b15 b19 b20 b21 a24 a25 a26) ∧ kOff (mAs h q) f f1)) 0 0 (kAb B0) := by
  refine kMet (cc := cX9_wire) (maxL := 3) (ret := (some .int)) (by decide) rfl (Nat.le_of_ble_eq_true rfl) ?_
  intro p e s m args below meth c H locs Q ls C hX hl hr hlocks hnm hQ
  have hO : kOff (mAs h q) f f := kOff.rf
  have hl : lv_has ls 3 [(0, .ref h), (1, .int a), (2, .int b)] := hl
  refine lv_aload_n C.x C.b dX9_wire_0 rfl (lv_at hl 0 rfl) ?_
  refine lv_aload_n C.x C.b dX9_wire_1 rfl (lv_at hl 0 rfl) ?_
  refine lv_iload_n C.x C.b dX9_wire_2 rfl (lv_at hl 1 rfl) ?_
  refine k_calli (va_runV (As := [.int a]) (rest := [.ref h]) C.1 (kX9_isNode l G B0 f h q i0 i1 i3 i7 i18 i22 i23 i27 j16 j17 a2 a4 a5 a6 b8 b9 b10 a11 a12 a13 a14 b15 b19 b20 b21 a24 a25 a26 a n9 hM hn0 (by omega)) (cwV 1 C.ts gX9_wire_X9_isNode rfl rfl rfl ⟨rfl, hdX9_wire_X9_isNode⟩ ⟨Nat.le_of_ble_eq_true rfl, Nat.le_of_ble_eq_true rfl⟩) (k_preV C hX (hM.at 0 rfl) rfl) rfl rfl hl.1 rfl (lv_room (Nat.le_of_ble_eq_true rfl)) dX9_wire_3 ⟨Nat.le_of_ble_eq_true rfl, Nat.le_of_ble_eq_true rfl⟩) hX (fun r3 f3 H locs hp3 hX => ?_)
  obtain ⟨hr3, hf3⟩ := hp3
  rw [hf3] at hX
  refine k_topi (y := (kbI (mIn a n9))) hr3 ?_
  refine lv_if_eq (tgt := 17) C.x C.b dX9_wire_6 (by decide) (fun c_6 => ?_) (fun c_6 => ?_)
  · exact absurd (hv.1) (kbI_0 c_6)
  refine lv_aload_n C.x C.b dX9_wire_9 rfl (lv_at hl 0 rfl) ?_
  refine lv_iload_n C.x C.b dX9_wire_10 rfl (lv_at hl 2 rfl) ?_
  refine k_calli (va_runV (As := [.int b]) (rest := [.ref h]) C.1 (kX9_isNode l G B0 f h q i0 i1 i3 i7 i18 i22 i23 i27 j16 j17 a2 a4 a5 a6 b8 b9 b10 a11 a12 a13 a14 b15 b19 b20 b21 a24 a25 a26 b n9 hM hn0 (by omega)) (cwV 1 C.ts gX9_wire_X9_isNode rfl rfl rfl ⟨rfl, hdX9_wire_X9_isNode⟩ ⟨Nat.le_of_ble_eq_true rfl, Nat.le_of_ble_eq_true rfl⟩) (k_preV C hX (hM.at 0 rfl) rfl) rfl rfl hl.1 rfl (lv_room (Nat.le_of_ble_eq_true rfl)) dX9_wire_11 ⟨Nat.le_of_ble_eq_true rfl, Nat.le_of_ble_eq_true rfl⟩) hX (fun r11 f11 H locs hp11 hX => ?_)
  obtain ⟨hr11, hf11⟩ := hp11
  rw [hf11] at hX
  refine k_topi (y := (kbI (mIn b n9))) hr11 ?_
  refine lv_if_ne (tgt := 21) C.x C.b dX9_wire_14 (by decide) (fun c_14 => ?_) (fun c_14 => ?_)
  rotate_left
  · exact absurd (hv.2) (kbI_0 c_14)
  refine lv_iload_n C.x C.b dX9_wire_21 rfl (lv_at hl 1 rfl) ?_
  refine lv_iload_n C.x C.b dX9_wire_22 rfl (lv_at hl 2 rfl) ?_
  refine lv_icmp_ne (tgt := 30) C.x C.b dX9_wire_23 (by decide) (fun c_23 => ?_) (fun c_23 => ?_)
  rotate_left
  · skip
    exact absurd c_23 hab
  refine lv_aload_n C.x C.b dX9_wire_30 rfl (lv_at hl 0 rfl) ?_
  refine k_get (X := RX9) (T := TX9) (N := 28) (v := .int i23) C hX (hM.at 0 rfl) rfl hin_X9_wire_RX9 23 (by decide) lk_X9_wire_f209 (fun _ h9 => h9) rfl dX9_wire_31 ?_
  refine k_topi (y := (nI w9)) (hw0) ?_
  refine lv_bipush (v := nI 10) C.x C.b dX9_wire_34 (by decide) ?_
  refine lv_icmp_ne (tgt := 43) C.x C.b dX9_wire_36 (by decide) (fun c_36 => ?_) (fun c_36 => ?_)
  · skip
    have c_36 : ¬ (w9 = 10) := fun h9 => c_36 ((nI_eq (by omega) (by omega)).mpr h9)
    omega
  have c_36 : w9 = 10 := (nI_eq (by omega) (by omega)).mp c_36
  refine lv_iconst (v := nI 3) C.x C.b dX9_wire_39 (by decide) ?_
  refine lv_goto (tgt := 44) C.x C.b dX9_wire_40 (by decide) ?_
  refine k_put (X := RX9) (T := TX9) (N := 28) (ty := .int) (v := .int (nI 3)) C hX (hM.at 0 rfl) rfl hin_X9_wire_RX9 tyX9_ok nmX9 27 (by decide) lk_X9_wire_f80 (fun _ h9 => h9) rfl (by decide +kernel) rfl rfl (Nat.le_of_ble_eq_true rfl) dX9_wire_44 (fun H locs hX => ?_)
  obtain ⟨g1, hX, hM, hO⟩ := kX.wr hX hM hO 0 rfl (List.mem_of_getElem? (i := 0) rfl)
  have hM : kCs g1 (mC G h q i0 i1 i3 i7 i18 i22 i23 (nI 3) j16 j17 a2 a4 a5 a6 b8 b9 b10 a11 a12 a13 a14 b15 b19 b20 b21 a24 a25 a26) := hM
  refine lv_aload_n C.x C.b dX9_wire_47 rfl (lv_at hl 0 rfl) ?_
  refine k_get (X := RX9) (T := TX9) (N := 28) (v := .int (nI 3)) C hX (hM.at 0 rfl) rfl hin_X9_wire_RX9 27 (by decide) lk_X9_wire_f80 (fun _ h9 => h9) rfl dX9_wire_48 ?_
  refine lv_if_le (tgt := 56) C.x C.b dX9_wire_51 (by decide) (fun c_51 => ?_) (fun c_51 => ?_)
  · exact absurd c_51 (by decide)
  refine lv_iconst (v := nI 0) C.x C.b dX9_wire_54 (by decide) ?_
  exact k_iret C hX hr hlocks hQ (by omega) (by omega) (⟨rfl, hM, hO⟩) dX9_wire_55

theorem lk_X9_wire_f67 : Cond.fieldLink RX9 67 "KoebehallModel" "ends" "[I" ∈ wsX9_wire := by decide +kernel
theorem lk_X9_wire_f70 : Cond.fieldLink RX9 70 "KoebehallModel" "others" "[I" ∈ wsX9_wire := by decide +kernel
abbrev rmX9_wire : Room := { frames := 2, cells := 0, slots := 0, locals := 46 }
set_option maxHeartbeats 4000000 in
set_option maxRecDepth 100000 in
/-- X9_wire -/
theorem kX9_wire (l : Launch) (G : kG) (B0 : Nat) (f : kH) (h : Nat) (q : Nat → Nat) (i0 i1 i3 i7 i18 i22 i23 i27 : Int32) (j16 j17 : Int64) (a2 : Nat → Int32) (a4 : Nat → Int32) (a5 : Nat → Int32) (a6 : Nat → Int32) (b8 : Nat → Int64) (b9 : Nat → Int64) (b10 : Nat → Int64) (a11 : Nat → Int32) (a12 : Nat → Int32) (a13 : Nat → Int32) (a14 : Nat → Int32) (b15 : Nat → Int64) (b19 : Nat → Int64) (b20 : Nat → Int64) (b21 : Nat → Int64) (a24 : Nat → Int32) (a25 : Nat → Int32) (a26 : Nat → Int32) (a b : Int32) (n9 w9 : Nat) (hM : kCs f (mC G h q i0 i1 i3 i7 i18 i22 i23 i27 j16 j17 a2 a4 a5 a6 b8 b9 b10 a11 a12 a13 a14 b15 b19 b20 b21 a24 a25 a26)) (hn0 : i22 = nI n9) (hn9 : n9 ≤ 6) (hw0 : i23 = nI w9) (hw9 : w9 ≤ 10) (hv : mIn a n9 ∧ mIn b n9) (hab : ¬ a = b) (h10 : w9 < 10) : Met l yX9_wire wsX9_wire (rmX9_wire) (kP G B0 f [.ref h, .int a, .int b]) (kQi G B0 (fun r f1 => r = nI w9 ∧ kCs f1 (mC G h q i0 i1 i3 i7 i18 i22 (nI (w9 + 1)) (nI 0) j16 j17 a2 a4 a5 a6 b8 b9 b10 a11 a12 a13 a14 b15 b19 b20 b21 (upd a24 w9 a) (upd a25 w9 b) a26) ∧ kOff (mAs h q) f f1)) 0 0 (kAb B0) := by
  refine kMet (cc := cX9_wire) (maxL := 3) (ret := (some .int)) (by decide) rfl (Nat.le_of_ble_eq_true rfl) ?_
  intro p e s m args below meth c H locs Q ls C hX hl hr hlocks hnm hQ
  have hO : kOff (mAs h q) f f := kOff.rf
  have hl : lv_has ls 3 [(0, .ref h), (1, .int a), (2, .int b)] := hl
  refine lv_aload_n C.x C.b dX9_wire_0 rfl (lv_at hl 0 rfl) ?_
  refine lv_aload_n C.x C.b dX9_wire_1 rfl (lv_at hl 0 rfl) ?_
  refine lv_iload_n C.x C.b dX9_wire_2 rfl (lv_at hl 1 rfl) ?_
  refine k_calli (va_runV (As := [.int a]) (rest := [.ref h]) C.1 (kX9_isNode l G B0 f h q i0 i1 i3 i7 i18 i22 i23 i27 j16 j17 a2 a4 a5 a6 b8 b9 b10 a11 a12 a13 a14 b15 b19 b20 b21 a24 a25 a26 a n9 hM hn0 (by omega)) (cwV 1 C.ts gX9_wire_X9_isNode rfl rfl rfl ⟨rfl, hdX9_wire_X9_isNode⟩ ⟨Nat.le_of_ble_eq_true rfl, Nat.le_of_ble_eq_true rfl⟩) (k_preV C hX (hM.at 0 rfl) rfl) rfl rfl hl.1 rfl (lv_room (Nat.le_of_ble_eq_true rfl)) dX9_wire_3 ⟨Nat.le_of_ble_eq_true rfl, Nat.le_of_ble_eq_true rfl⟩) hX (fun r3 f3 H locs hp3 hX => ?_)
  obtain ⟨hr3, hf3⟩ := hp3
  rw [hf3] at hX
  refine k_topi (y := (kbI (mIn a n9))) hr3 ?_
  refine lv_if_eq (tgt := 17) C.x C.b dX9_wire_6 (by decide) (fun c_6 => ?_) (fun c_6 => ?_)
  · exact absurd (hv.1) (kbI_0 c_6)
  refine lv_aload_n C.x C.b dX9_wire_9 rfl (lv_at hl 0 rfl) ?_
  refine lv_iload_n C.x C.b dX9_wire_10 rfl (lv_at hl 2 rfl) ?_
  refine k_calli (va_runV (As := [.int b]) (rest := [.ref h]) C.1 (kX9_isNode l G B0 f h q i0 i1 i3 i7 i18 i22 i23 i27 j16 j17 a2 a4 a5 a6 b8 b9 b10 a11 a12 a13 a14 b15 b19 b20 b21 a24 a25 a26 b n9 hM hn0 (by omega)) (cwV 1 C.ts gX9_wire_X9_isNode rfl rfl rfl ⟨rfl, hdX9_wire_X9_isNode⟩ ⟨Nat.le_of_ble_eq_true rfl, Nat.le_of_ble_eq_true rfl⟩) (k_preV C hX (hM.at 0 rfl) rfl) rfl rfl hl.1 rfl (lv_room (Nat.le_of_ble_eq_true rfl)) dX9_wire_11 ⟨Nat.le_of_ble_eq_true rfl, Nat.le_of_ble_eq_true rfl⟩) hX (fun r11 f11 H locs hp11 hX => ?_)
  obtain ⟨hr11, hf11⟩ := hp11
  rw [hf11] at hX
  refine k_topi (y := (kbI (mIn b n9))) hr11 ?_
  refine lv_if_ne (tgt := 21) C.x C.b dX9_wire_14 (by decide) (fun c_14 => ?_) (fun c_14 => ?_)
  rotate_left
  · exact absurd (hv.2) (kbI_0 c_14)
  refine lv_iload_n C.x C.b dX9_wire_21 rfl (lv_at hl 1 rfl) ?_
  refine lv_iload_n C.x C.b dX9_wire_22 rfl (lv_at hl 2 rfl) ?_
  refine lv_icmp_ne (tgt := 30) C.x C.b dX9_wire_23 (by decide) (fun c_23 => ?_) (fun c_23 => ?_)
  rotate_left
  · skip
    exact absurd c_23 hab
  refine lv_aload_n C.x C.b dX9_wire_30 rfl (lv_at hl 0 rfl) ?_
  refine k_get (X := RX9) (T := TX9) (N := 28) (v := .int i23) C hX (hM.at 0 rfl) rfl hin_X9_wire_RX9 23 (by decide) lk_X9_wire_f209 (fun _ h9 => h9) rfl dX9_wire_31 ?_
  refine k_topi (y := (nI w9)) (hw0) ?_
  refine lv_bipush (v := nI 10) C.x C.b dX9_wire_34 (by decide) ?_
  refine lv_icmp_ne (tgt := 43) C.x C.b dX9_wire_36 (by decide) (fun c_36 => ?_) (fun c_36 => ?_)
  rotate_left
  · skip
    have c_36 : w9 = 10 := (nI_eq (by omega) (by omega)).mp c_36
    omega
  have c_36 : ¬ (w9 = 10) := fun h9 => c_36 ((nI_eq (by omega) (by omega)).mpr h9)
  refine lv_iconst (v := nI 0) C.x C.b dX9_wire_43 (by decide) ?_
  refine k_put (X := RX9) (T := TX9) (N := 28) (ty := .int) (v := .int (nI 0)) C hX (hM.at 0 rfl) rfl hin_X9_wire_RX9 tyX9_ok nmX9 27 (by decide) lk_X9_wire_f80 (fun _ h9 => h9) rfl (by decide +kernel) rfl rfl (Nat.le_of_ble_eq_true rfl) dX9_wire_44 (fun H locs hX => ?_)
  obtain ⟨g1, hX, hM, hO⟩ := kX.wr hX hM hO 0 rfl (List.mem_of_getElem? (i := 0) rfl)
  have hM : kCs g1 (mC G h q i0 i1 i3 i7 i18 i22 i23 (nI 0) j16 j17 a2 a4 a5 a6 b8 b9 b10 a11 a12 a13 a14 b15 b19 b20 b21 a24 a25 a26) := hM
  refine lv_aload_n C.x C.b dX9_wire_47 rfl (lv_at hl 0 rfl) ?_
  refine k_get (X := RX9) (T := TX9) (N := 28) (v := .int (nI 0)) C hX (hM.at 0 rfl) rfl hin_X9_wire_RX9 27 (by decide) lk_X9_wire_f80 (fun _ h9 => h9) rfl dX9_wire_48 ?_
  refine lv_if_le (tgt := 56) C.x C.b dX9_wire_51 (by decide) (fun c_51 => ?_) (fun c_51 => ?_)
  rotate_left
  · exact absurd c_51 (by decide)
  refine lv_aload_n C.x C.b dX9_wire_56 rfl (lv_at hl 0 rfl) ?_
  refine k_get (X := RX9) (T := TX9) (N := 28) (v := .ref (q 24)) C hX (hM.at 0 rfl) rfl hin_X9_wire_RX9 24 (by decide) lk_X9_wire_f67 (fun _ h9 => h9) rfl dX9_wire_57 ?_
  refine lv_aload_n C.x C.b dX9_wire_60 rfl (lv_at hl 0 rfl) ?_
  refine k_get (X := RX9) (T := TX9) (N := 28) (v := .int i23) C hX (hM.at 0 rfl) rfl hin_X9_wire_RX9 23 (by decide) lk_X9_wire_f209 (fun _ h9 => h9) rfl dX9_wire_61 ?_
  refine k_topi (y := (nI w9)) (hw0) ?_
  refine lv_iload_n C.x C.b dX9_wire_64 rfl (lv_at hl 1 rfl) ?_
  refine k_iast C hX (hM.at 16 rfl) (vp_in_nI (by omega) (by omega)) dX9_wire_65 (fun H locs hX => ?_)
  rw [nI_clamp (by omega)] at hX
  obtain ⟨g2, hX, hM, hO⟩ := kX.wr hX hM hO 16 rfl (List.mem_of_getElem? (i := 16) rfl)
  have hM : kCs g2 (mC G h q i0 i1 i3 i7 i18 i22 i23 (nI 0) j16 j17 a2 a4 a5 a6 b8 b9 b10 a11 a12 a13 a14 b15 b19 b20 b21 (upd a24 w9 a) a25 a26) := hM
  refine lv_aload_n C.x C.b dX9_wire_66 rfl (lv_at hl 0 rfl) ?_
  refine k_get (X := RX9) (T := TX9) (N := 28) (v := .ref (q 25)) C hX (hM.at 0 rfl) rfl hin_X9_wire_RX9 25 (by decide) lk_X9_wire_f70 (fun _ h9 => h9) rfl dX9_wire_67 ?_
  refine lv_aload_n C.x C.b dX9_wire_70 rfl (lv_at hl 0 rfl) ?_
  refine k_get (X := RX9) (T := TX9) (N := 28) (v := .int i23) C hX (hM.at 0 rfl) rfl hin_X9_wire_RX9 23 (by decide) lk_X9_wire_f209 (fun _ h9 => h9) rfl dX9_wire_71 ?_
  refine k_topi (y := (nI w9)) (hw0) ?_
  refine lv_iload_n C.x C.b dX9_wire_74 rfl (lv_at hl 2 rfl) ?_
  refine k_iast C hX (hM.at 17 rfl) (vp_in_nI (by omega) (by omega)) dX9_wire_75 (fun H locs hX => ?_)
  rw [nI_clamp (by omega)] at hX
  obtain ⟨g3, hX, hM, hO⟩ := kX.wr hX hM hO 17 rfl (List.mem_of_getElem? (i := 17) rfl)
  have hM : kCs g3 (mC G h q i0 i1 i3 i7 i18 i22 i23 (nI 0) j16 j17 a2 a4 a5 a6 b8 b9 b10 a11 a12 a13 a14 b15 b19 b20 b21 (upd a24 w9 a) (upd a25 w9 b) a26) := hM
  refine lv_aload_n C.x C.b dX9_wire_76 rfl (lv_at hl 0 rfl) ?_
  refine lv_dup C.x C.b dX9_wire_77 rfl ?_
  refine k_get (X := RX9) (T := TX9) (N := 28) (v := .int i23) C hX (hM.at 0 rfl) rfl hin_X9_wire_RX9 23 (by decide) lk_X9_wire_f209 (fun _ h9 => h9) rfl dX9_wire_78 ?_
  refine k_topi (y := (nI w9)) (hw0) ?_
  refine lv_iconst (v := nI 1) C.x C.b dX9_wire_81 (by decide) ?_
  refine lv_iadd C.x C.b dX9_wire_82 ?_
  refine k_topi (y := nI (w9 + 1)) (nI_add _ _) ?_
  refine k_put (X := RX9) (T := TX9) (N := 28) (ty := .int) (v := .int (nI (w9 + 1))) C hX (hM.at 0 rfl) rfl hin_X9_wire_RX9 tyX9_ok nmX9 23 (by decide) lk_X9_wire_f209 (fun _ h9 => h9) rfl (by decide +kernel) rfl rfl (Nat.le_of_ble_eq_true rfl) dX9_wire_83 (fun H locs hX => ?_)
  obtain ⟨g4, hX, hM, hO⟩ := kX.wr hX hM hO 0 rfl (List.mem_of_getElem? (i := 0) rfl)
  have hM : kCs g4 (mC G h q i0 i1 i3 i7 i18 i22 (nI (w9 + 1)) (nI 0) j16 j17 a2 a4 a5 a6 b8 b9 b10 a11 a12 a13 a14 b15 b19 b20 b21 (upd a24 w9 a) (upd a25 w9 b) a26) := hM
  refine lv_aload_n C.x C.b dX9_wire_86 rfl (lv_at hl 0 rfl) ?_
  refine k_get (X := RX9) (T := TX9) (N := 28) (v := .int (nI (w9 + 1))) C hX (hM.at 0 rfl) rfl hin_X9_wire_RX9 23 (by decide) lk_X9_wire_f209 (fun _ h9 => h9) rfl dX9_wire_87 ?_
  refine lv_iconst (v := nI 1) C.x C.b dX9_wire_90 (by decide) ?_
  refine lv_isub C.x C.b dX9_wire_91 ?_
  refine k_topi (y := (nI w9)) (pk_sub (by omega)) ?_
  exact k_iret C hX hr hlocks hQ (by omega) (by omega) (⟨rfl, hM, hO⟩) dX9_wire_92
