/-! the reference's state: its ints i.., longs j.. by slot, its int and long arrays a.., b.. by slot, the arrays' addresses q by slot -/
def mC (G : kG) (h : Nat) (q : Nat → Nat) (i0 i1 i3 i7 i18 i22 i23 i27 : Int32) (j16 j17 : Int64) (a2 : Nat → Int32) (a4 : Nat → Int32) (a5 : Nat → Int32) (a6 : Nat → Int32) (b8 : Nat → Int64) (b9 : Nat → Int64) (b10 : Nat → Int64) (a11 : Nat → Int32) (a12 : Nat → Int32) (a13 : Nat → Int32) (a14 : Nat → Int32) (b15 : Nat → Int64) (b19 : Nat → Int64) (b20 : Nat → Int64) (b21 : Nat → Int64) (a24 : Nat → Int32) (a25 : Nat → Int32) (a26 : Nat → Int32) : va_W := [(h, .inr (9, [.int i0, .int i1, .ref (q 2), .int i3, .ref (q 4), .ref (q 5), .ref (q 6), .int i7, .ref (q 8), .ref (q 9), .ref (q 10), .ref (q 11), .ref (q 12), .ref (q 13), .ref (q 14), .ref (q 15), .long j16, .long j17, .int i18, .ref (q 19), .ref (q 20), .ref (q 21), .int i22, .int i23, .ref (q 24), .ref (q 25), .ref (q 26), .int i27])), (q 2, kaI G 84 a2), (q 4, kaI G 16 a4), (q 5, kaI G 16 a5), (q 6, kaI G 16 a6), (q 8, kaJ G 32 b8), (q 9, kaJ G 4 b9), (q 10, kaJ G 1024 b10), (q 11, kaI G 256 a11), (q 12, kaI G 256 a12), (q 13, kaZ G 4096 a13), (q 14, kaI G 4096 a14), (q 15, kaJ G 128 b15), (q 19, kaJ G 16 b19), (q 20, kaJ G 4 b20), (q 21, kaJ G 4 b21), (q 24, kaI G 10 a24), (q 25, kaI G 10 a25), (q 26, kaI G 6 a26)]
def mNx (k : Nat) : Nat := if k % 3 = 2 then k - 2 else k + 1
/-- the last spot below n at which b is named behind a, as a face -/
def mFaceOf (F : Nat → Int32) (a b : Int32) : Nat → Int32
  | 0 => -1
  | k + 1 => if F k = a ∧ F (mNx k) = b then nI (k / 3) else mFaceOf F a b k
/-- the last of n corners from t on that is neither a nor b -/
def mThird (F : Nat → Int32) (t : Nat) (a b : Int32) : Nat → Int32
  | 0 => -1
  | k + 1 => if F (t + k) ≠ a ∧ F (t + k) ≠ b then F (t + k) else mThird F t a b k
def mAs (h : Nat) (q : Nat → Nat) : List Nat := [h, q 2, q 4, q 5, q 6, q 8, q 9, q 10, q 11, q 12, q 13, q 14, q 15, q 19, q 20, q 21, q 24, q 25, q 26]
def mP0 (a b c : Int32) : Int32 := if a < b ∧ a < c then a else if b < a ∧ b < c then b else c
def mP1 (a b c : Int32) : Int32 := if a < b ∧ a < c then b else if b < a ∧ b < c then c else a
def mP2 (a b c : Int32) : Int32 := if a < b ∧ a < c then c else if b < a ∧ b < c then a else b
def mPut (F : Nat → Int32) (t : Nat) (a b c : Int32) : Nat → Int32 := upd (upd (upd F (3 * t) (mP0 a b c)) (3 * t + 1) (mP1 a b c)) (3 * t + 2) (mP2 a b c)
/-- x is one of the n first -/
abbrev mIn (x : Int32) (n : Nat) : Prop := 0 ≤ x.toInt ∧ x.toInt < n
theorem mIn_of {x : Int32} {n : Nat} (h : mIn x n) (hn : n < 2 ^ 31) : ∃ t, t < n ∧ x = nI t := by
  obtain ⟨j, h1, h2⟩ := vp_in_of (vp_in_iff.mpr h) hn
  exact ⟨j, h1, h2⟩
theorem mIn_nI {t n : Nat} (h : t < 2 ^ 31) : mIn (nI t) n ↔ t < n := by
  unfold mIn
  rw [nI_toInt h]
  omega
theorem m_in {x : Int32} {n : Nat} (hn : n < 2 ^ 31) : ((0 : Int64) ≤ x.toInt64 ∧ x.toInt64 ≤ (nI n - nI 1).toInt64) ↔ mIn x n := by
  have h1 : (nI n - nI 1).toInt = (n : Int) - 1 := by
    rw [Int32.toInt_sub, nI_toInt hn, nI_toInt (by omega : 1 < 2 ^ 31)]
    have h2 := Int32.toInt_lt (nI n)
    rw [nI_toInt hn] at h2
    rw [Int.bmod_eq_of_le] <;> omega
  rw [Int64.le_iff_toInt_le, Int64.le_iff_toInt_le, Int32.toInt_toInt64, Int32.toInt_toInt64, h1]
  unfold mIn
  rw [show (0 : Int64).toInt = 0 from rfl]
  omega
abbrev mRg (x : Int32) (a b : Int) : Prop := a ≤ x.toInt ∧ x.toInt ≤ b
theorem m_rg {x : Int32} {lo hi : Int64} {a b : Int} (h1 : lo.toInt = a) (h2 : hi.toInt = b) : (lo ≤ x.toInt64 ∧ x.toInt64 ≤ hi) ↔ mRg x a b := by
  rw [Int64.le_iff_toInt_le, Int64.le_iff_toInt_le, Int32.toInt_toInt64, h1, h2]
/-- counting -/
def kCnt (p : Nat → Prop) [DecidablePred p] : Nat → Nat
  | 0 => 0
  | k + 1 => kCnt p k + (if p k then 1 else 0)
def kCnt2 (p : Nat → Nat → Prop) [∀ a b, Decidable (p a b)] : Nat → Nat
  | 0 => 0
  | a + 1 => kCnt2 p a + kCnt (p a) a
theorem kCnt_le (p : Nat → Prop) [DecidablePred p] : ∀ n, kCnt p n ≤ n
  | 0 => Nat.le_refl 0
  | k + 1 => by
    have := kCnt_le p k
    simp only [kCnt]
    split <;> omega
theorem kCnt2_le (p : Nat → Nat → Prop) [∀ a b, Decidable (p a b)] : ∀ n, kCnt2 p n ≤ n * n
  | 0 => Nat.le_refl 0
  | k + 1 => by
    have h1 := kCnt2_le p k
    have h2 := kCnt_le (p k) k
    have h3 : (k + 1) * (k + 1) = k * k + 2 * k + 1 := by rw [Nat.add_mul, Nat.mul_add]; omega
    simp only [kCnt2]
    omega
theorem mFaceOf_in {FF : Nat → Int32} {a b : Int32} : ∀ {n : Nat}, mFaceOf FF a b n ≠ -1 → ∃ k, k < n ∧ FF k = a ∧ FF (mNx k) = b ∧ mFaceOf FF a b n = nI (k / 3)
  | 0, h => absurd rfl h
  | n + 1, h => by
    by_cases q : FF n = a ∧ FF (mNx n) = b
    · exact ⟨n, Nat.lt_succ_self n, q.1, q.2, by simp [mFaceOf, q]⟩
    · have e1 : mFaceOf FF a b (n + 1) = mFaceOf FF a b n := by simp only [mFaceOf]; rw [if_neg q]
      rw [e1] at h ⊢
      obtain ⟨k, h1, h2⟩ := mFaceOf_in h
      exact ⟨k, Nat.lt_succ_of_lt h1, h2⟩
abbrev mAdj (FF : Nat → Int32) (F : Nat) (a b : Int32) : Prop := ¬ mFaceOf FF a b (3 * F) = -1
theorem mAdj_face {FF : Nat → Int32} {F : Nat} {a b : Int32} (h : mAdj FF F a b) (hF : F ≤ 28) : ∃ t, t < F ∧ mFaceOf FF a b (3 * F) = nI t := by
  obtain ⟨k, h1, -, -, h2⟩ := mFaceOf_in h
  exact ⟨k / 3, by omega, h2⟩
theorem mThird_c {FF : Nat → Int32} {t : Nat} {a b : Int32} : ∀ n, mThird FF t a b n = mThird FF t b a n
  | 0 => rfl
  | n + 1 => by simp only [mThird, mThird_c n, and_comm]
/-- the third corner of the face in which b is named behind a -/
def mOpp (FF : Nat → Int32) (F : Nat) (a b : Int32) : Int32 := mThird FF (3 * (mFaceOf FF a b (3 * F)).toNatClampNeg) a b 3
theorem mOpp_at {FF : Nat → Int32} {F t : Nat} {a b : Int32} (h : mFaceOf FF a b (3 * F) = nI t) (ht : t < 2 ^ 31) : mThird FF (3 * t) a b 3 = mOpp FF F a b := by rw [mOpp, h, nI_clamp ht]
theorem mOpp_at2 {FF : Nat → Int32} {F t : Nat} {a b : Int32} (h : mFaceOf FF b a (3 * F) = nI t) (ht : t < 2 ^ 31) : mThird FF (3 * t) a b 3 = mOpp FF F b a := by rw [mThird_c, mOpp, h, nI_clamp ht]
abbrev mCanFlip (FF : Nat → Int32) (F : Nat) (a b : Int32) : Prop := mAdj FF F a b ∧ ¬ mAdj FF F (mOpp FF F a b) (mOpp FF F b a)
def mFlipV (x y : Int32) : Int32 := if x < y then nI 100 * x + y else nI 100 * y + x
/-- n steps around a, from x on -/
def mWalk (FF : Nat → Int32) (F : Nat) (a x : Int32) : Nat → Int32
  | 0 => x
  | n + 1 => mOpp FF F a (mWalk FF F a x n)
abbrev mDeg (FF : Nat → Int32) (F : Nat) (a : Int32) (n : Nat) : Nat := kCnt (fun k => mAdj FF F a (nI k)) n
def mMost (FF : Nat → Int32) (F cc : Nat) : Nat → Nat
  | 0 => 0
  | n + 1 => if mMost FF F cc n < mDeg FF F (nI n) cc then mDeg FF F (nI n) cc else mMost FF F cc n
theorem mMost_le (FF : Nat → Int32) (F cc : Nat) : ∀ n, mMost FF F cc n ≤ cc
  | 0 => Nat.zero_le _
  | n + 1 => by
    have h1 := mMost_le FF F cc n
    have h2 := kCnt_le (fun k => mAdj FF F (nI n) (nI k)) cc
    simp only [mMost]
    split <;> assumption
def mNet (FF : Nat → Int32) (F cc : Nat) (what : Nat) : Nat := if what = 0 then cc else if what = 1 then 3 * cc - 6 else if what = 2 then F else if what = 3 then kCnt2 (fun a b => mCanFlip FF F (nI a) (nI b)) cc else mMost FF F cc cc

abbrev rmX9_isIn : Room := { frames := 0, cells := 0, slots := 0, locals := 0 }
set_option maxHeartbeats 4000000 in
set_option maxRecDepth 100000 in
/-- X9_isIn -/
theorem kX9_isIn (l : Launch) (G : kG) (B0 : Nat) (f : kH) (a b c9 : Int64) : Met l yX9_isIn wsX9_isIn (rmX9_isIn) (kP G B0 f [.long a, .long b, .long c9]) (kQi G B0 (fun r f1 => r = kbI (b ≤ a ∧ a ≤ c9) ∧ f1 = f)) 0 0 (kAb B0) := by
  refine kMet (cc := cX9_isIn) (maxL := 6) (ret := (some .boolean)) (by decide) rfl (Nat.le_of_ble_eq_true rfl) ?_
  intro p e s m args below meth c H locs Q ls C hX hl hr hlocks hnm hQ
  have hl : lv_has ls 6 [(0, .long a), (2, .long b), (4, .long c9)] := hl
  refine lv_lload_n C.x C.b dX9_isIn_0 rfl (lv_at hl 0 rfl) ?_
  refine lv_lload_n C.x C.b dX9_isIn_1 rfl (lv_at hl 1 rfl) ?_
  refine k_lcmp_lt (tgt := 17) C.x C.b dX9_isIn_2 dX9_isIn_3 (by decide) (fun c_3 => ?_) (fun c_3 => ?_)
  · skip
    refine lv_iconst (v := nI 0) C.x C.b dX9_isIn_17 (by decide) ?_
    exact k_zret C hX hr hlocks hQ (by omega) (by omega) (by first | exact kbI_01 _ | exact Or.inl rfl | exact Or.inr rfl) (by refine ⟨?_, rfl⟩; first | exact kbI_tN ⟨Int64.not_lt.mp c_3, Int64.not_lt.mp c_10⟩ | exact kbI_fN (fun h9 => absurd c_3 (Int64.not_lt.mpr h9.1)) | exact kbI_fN (fun h9 => absurd c_10 (Int64.not_lt.mpr h9.2))) dX9_isIn_18
  · skip
    refine lv_lload_n C.x C.b dX9_isIn_6 rfl (lv_at hl 0 rfl) ?_
    refine lv_lload C.x C.b dX9_isIn_7 (lv_at hl 2 rfl) ?_
    refine k_lcmp_gt (tgt := 17) C.x C.b dX9_isIn_9 dX9_isIn_10 (by decide) (fun c_10 => ?_) (fun c_10 => ?_)
    · skip
      refine lv_iconst (v := nI 0) C.x C.b dX9_isIn_17 (by decide) ?_
      exact k_zret C hX hr hlocks hQ (by omega) (by omega) (by first | exact kbI_01 _ | exact Or.inl rfl | exact Or.inr rfl) (by refine ⟨?_, rfl⟩; first | exact kbI_tN ⟨Int64.not_lt.mp c_3, Int64.not_lt.mp c_10⟩ | exact kbI_fN (fun h9 => absurd c_3 (Int64.not_lt.mpr h9.1)) | exact kbI_fN (fun h9 => absurd c_10 (Int64.not_lt.mpr h9.2))) dX9_isIn_18
    · skip
      refine lv_iconst (v := nI 1) C.x C.b dX9_isIn_13 (by decide) ?_
      refine lv_goto (tgt := 18) C.x C.b dX9_isIn_14 (by decide) ?_
      exact k_zret C hX hr hlocks hQ (by omega) (by omega) (by first | exact kbI_01 _ | exact Or.inl rfl | exact Or.inr rfl) (by refine ⟨?_, rfl⟩; first | exact kbI_tN ⟨Int64.not_lt.mp c_3, Int64.not_lt.mp c_10⟩ | exact kbI_fN (fun h9 => absurd c_3 (Int64.not_lt.mpr h9.1)) | exact kbI_fN (fun h9 => absurd c_10 (Int64.not_lt.mpr h9.2))) dX9_isIn_18

theorem lk_X9_faceOf_f13 : Cond.fieldLink RX9 13 "KoebehallModel" "faces" "I" ∈ wsX9_faceOf := by decide +kernel
theorem hin_X9_faceOf_RX9 : ∀ w ∈ u_ws RX9 TX9 28, w ∈ wsX9_faceOf := by decide +kernel
theorem lk_X9_faceOf_f16 : Cond.fieldLink RX9 16 "KoebehallModel" "face" "[I" ∈ wsX9_faceOf := by decide +kernel
abbrev rmX9_faceOf : Room := { frames := 0, cells := 0, slots := 0, locals := 0 }
set_option maxHeartbeats 4000000 in
set_option maxRecDepth 100000 in
/-- X9_faceOf -/
theorem kX9_faceOf (l : Launch) (G : kG) (B0 : Nat) (f : kH) (h : Nat) (q : Nat → Nat) (i0 i1 i3 i7 i18 i22 i23 i27 : Int32) (j16 j17 : Int64) (a2 : Nat → Int32) (a4 : Nat → Int32) (a5 : Nat → Int32) (a6 : Nat → Int32) (b8 : Nat → Int64) (b9 : Nat → Int64) (b10 : Nat → Int64) (a11 : Nat → Int32) (a12 : Nat → Int32) (a13 : Nat → Int32) (a14 : Nat → Int32) (b15 : Nat → Int64) (b19 : Nat → Int64) (b20 : Nat → Int64) (b21 : Nat → Int64) (a24 : Nat → Int32) (a25 : Nat → Int32) (a26 : Nat → Int32) (a b : Int32) (F : Nat) (hM : kCs f (mC G h q i0 i1 i3 i7 i18 i22 i23 i27 j16 j17 a2 a4 a5 a6 b8 b9 b10 a11 a12 a13 a14 b15 b19 b20 b21 a24 a25 a26)) (hF : i1 = nI F) (hF9 : F ≤ 28) : Met l yX9_faceOf wsX9_faceOf (rmX9_faceOf) (kP G B0 f [.ref h, .int a, .int b]) (kQi G B0 (fun r f1 => r = mFaceOf a2 a b (3 * F) ∧ f1 = f)) 0 0 (kAb B0) := by
  refine kMet (cc := cX9_faceOf) (maxL := 6) (ret := (some .int)) (by decide) rfl (Nat.le_of_ble_eq_true rfl) ?_
  intro p e s m args below meth c H locs Q ls C hX hl hr hlocks hnm hQ
  have hl : lv_has ls 6 [(0, .ref h), (1, .int a), (2, .int b)] := hl
  refine lv_iconst (v := -1) C.x C.b dX9_faceOf_0 (by decide) ?_
  refine lv_istore_n (lv' := [(3, .int (-1)), (0, .ref h), (1, .int a), (2, .int b)]) C.x C.b dX9_faceOf_1 rfl hl (by decide) rfl (fun ls hl => ?_)
  refine lv_iconst (v := nI 0) C.x C.b dX9_faceOf_2 (by decide) ?_
  refine lv_istore (lv' := [(4, .int (nI 0)), (3, .int (-1)), (0, .ref h), (1, .int a), (2, .int b)]) C.x C.b dX9_faceOf_3 hl (by decide) rfl (fun ls hl => ?_)
  have LOOP5 : ∀ (n : Nat) (k : Nat), (k ≤ 3 * F) → (3 * F - k) < n → ∀ (ls : Array Slot), lv_has ls 6 [(3, .int (mFaceOf a2 a b k)), (4, .int (nI k)), (0, .ref h), (1, .int a), (2, .int b)] → ∀ (H : Heap) (locs : List Loc), kX G B0 s f H locs → W p l e (rmX9_faceOf) s m args below meth c H locs 0 0 Q (F0 m 5 ls []) := by
    intro n5
    induction n5 with
    | zero => intro k hk hn; exact absurd hn (Nat.not_lt_zero _)
    | succ n5 ih5 =>
      intro k hk hn ls hl H locs hX
      refine lv_iload C.x C.b dX9_faceOf_5 (lv_at hl 1 rfl) ?_
      refine lv_iconst (v := nI 3) C.x C.b dX9_faceOf_7 (by decide) ?_
      refine lv_aload_n C.x C.b dX9_faceOf_8 rfl (lv_at hl 2 rfl) ?_
      refine k_get (X := RX9) (T := TX9) (N := 28) (v := .int i1) C hX (hM.at 0 rfl) rfl hin_X9_faceOf_RX9 1 (by decide) lk_X9_faceOf_f13 (fun _ h9 => h9) rfl dX9_faceOf_9 ?_
      refine k_topi (y := (nI F)) (hF) ?_
      refine lv_imul C.x C.b dX9_faceOf_12 ?_
      refine k_topi (y := nI (3 * F)) (pk_mul _ _) ?_
      refine lv_icmp_ge (tgt := 74) C.x C.b dX9_faceOf_13 (by decide) (fun c_13 => ?_) (fun c_13 => ?_)
      · skip
        have c_13 : 3 * F ≤ k := (nI_leI (by omega) (by omega)).mp c_13
        refine lv_iload_n C.x C.b dX9_faceOf_74 rfl (lv_at hl 0 rfl) ?_
        exact k_iret C hX hr hlocks hQ (by omega) (by omega) (⟨congrArg _ (by omega), rfl⟩) dX9_faceOf_75
      · skip
        have c_13 : ¬ (3 * F ≤ k) := fun h9 => c_13 ((nI_leI (by omega) (by omega)).mpr h9)
        refine lv_iload C.x C.b dX9_faceOf_16 (lv_at hl 1 rfl) ?_
        refine lv_iconst (v := nI 3) C.x C.b dX9_faceOf_18 (by decide) ?_
        refine lv_irem C.x C.b dX9_faceOf_19 (by decide) ?_
        refine k_topi (y := nI (k % 3)) (pk_rem (by omega) (by omega) (by omega)) ?_
        refine lv_iconst (v := nI 2) C.x C.b dX9_faceOf_20 (by decide) ?_
        have J35 : ∀ (ls : Array Slot), lv_has ls 6 [(3, .int (mFaceOf a2 a b k)), (4, .int (nI k)), (0, .ref h), (1, .int a), (2, .int b)] → ∀ (H : Heap) (locs : List Loc), kX G B0 s f H locs → W p l e (rmX9_faceOf) s m args below meth c H locs 0 0 Q (F0 m 35 ls [.int (nI (mNx k))]) := by
          intro ls hl H locs hX
          refine lv_istore (lv' := [(5, .int (nI (mNx k))), (3, .int (mFaceOf a2 a b k)), (4, .int (nI k)), (0, .ref h), (1, .int a), (2, .int b)]) C.x C.b dX9_faceOf_35 hl (by decide) rfl (fun ls hl => ?_)
          have hnx : mNx k < 84 := by unfold mNx; split <;> omega
          refine lv_aload_n C.x C.b dX9_faceOf_37 rfl (lv_at hl 3 rfl) ?_
          refine k_get (X := RX9) (T := TX9) (N := 28) (v := .ref (q 2)) C hX (hM.at 0 rfl) rfl hin_X9_faceOf_RX9 2 (by decide) lk_X9_faceOf_f16 (fun _ h9 => h9) rfl dX9_faceOf_38 ?_
          refine lv_iload C.x C.b dX9_faceOf_41 (lv_at hl 2 rfl) ?_
          refine k_iald C hX (hM.at 1 rfl) (vp_in_nI (by omega) (by omega)) dX9_faceOf_43 ?_
          refine k_topi (y := a2 k) (by rw [nI_clamp (by omega)]) ?_
          refine lv_iload_n C.x C.b dX9_faceOf_44 rfl (lv_at hl 4 rfl) ?_
          have J67 : ∀ (ls : Array Slot), lv_has ls 6 [(5, .int (nI (mNx k))), (3, .int (mFaceOf a2 a b k)), (4, .int (nI k)), (0, .ref h), (1, .int a), (2, .int b)] → ∀ (H : Heap) (locs : List Loc), kX G B0 s f H locs → W p l e (rmX9_faceOf) s m args below meth c H locs 0 0 Q (F0 m 67 ls [.int (mFaceOf a2 a b (k + 1))]) := by
            intro ls hl H locs hX
            refine lv_istore_n (lv' := [(3, .int (mFaceOf a2 a b (k + 1))), (5, .int (nI (mNx k))), (4, .int (nI k)), (0, .ref h), (1, .int a), (2, .int b)]) C.x C.b dX9_faceOf_67 rfl hl (by decide) rfl (fun ls hl => ?_)
            refine lv_iinc (v := (nI (k + 1))) (lv' := [(4, .int (nI (k + 1))), (3, .int (mFaceOf a2 a b (k + 1))), (5, .int (nI (mNx k))), (0, .ref h), (1, .int a), (2, .int b)]) C.x C.b dX9_faceOf_68 hl (k := 2) rfl (nI_1 _) (by decide) rfl (fun ls hl => ?_)
            refine lv_goto (tgt := 5) C.x C.b dX9_faceOf_71 (by decide) ?_
            exact ih5 (k + 1) (by omega) (by omega) ls (lv_sub hl [1, 0, 3, 4, 5] rfl) _ _ hX
          refine lv_icmp_ne (tgt := 66) C.x C.b dX9_faceOf_45 (by decide) (fun c_45 => ?_) (fun c_45 => ?_)
          · skip
            refine lv_iload_n C.x C.b dX9_faceOf_66 rfl (lv_at hl 1 rfl) ?_
            refine k_topi (y := (mFaceOf a2 a b (k + 1))) (by first | simp [mFaceOf, c_45, c_56]; done | simp [mFaceOf, c_45]; done | simp [mFaceOf, c_56]; done) ?_
            exact J67 ls (lv_sub hl [0, 1, 2, 3, 4, 5] rfl) _ _ hX
          · skip
            refine lv_aload_n C.x C.b dX9_faceOf_48 rfl (lv_at hl 3 rfl) ?_
            refine k_get (X := RX9) (T := TX9) (N := 28) (v := .ref (q 2)) C hX (hM.at 0 rfl) rfl hin_X9_faceOf_RX9 2 (by decide) lk_X9_faceOf_f16 (fun _ h9 => h9) rfl dX9_faceOf_49 ?_
            refine lv_iload C.x C.b dX9_faceOf_52 (lv_at hl 0 rfl) ?_
            refine k_iald C hX (hM.at 1 rfl) (vp_in_nI (by omega) (by omega)) dX9_faceOf_54 ?_
            refine k_topi (y := a2 (mNx k)) (by rw [nI_clamp (by omega)]) ?_
            refine lv_iload_n C.x C.b dX9_faceOf_55 rfl (lv_at hl 5 rfl) ?_
            refine lv_icmp_ne (tgt := 66) C.x C.b dX9_faceOf_56 (by decide) (fun c_56 => ?_) (fun c_56 => ?_)
            · skip
              refine lv_iload_n C.x C.b dX9_faceOf_66 rfl (lv_at hl 1 rfl) ?_
              refine k_topi (y := (mFaceOf a2 a b (k + 1))) (by first | simp [mFaceOf, c_45, c_56]; done | simp [mFaceOf, c_45]; done | simp [mFaceOf, c_56]; done) ?_
              exact J67 ls (lv_sub hl [0, 1, 2, 3, 4, 5] rfl) _ _ hX
            · skip
              refine lv_iload C.x C.b dX9_faceOf_59 (lv_at hl 2 rfl) ?_
              refine lv_iconst (v := nI 3) C.x C.b dX9_faceOf_61 (by decide) ?_
              refine lv_idiv C.x C.b dX9_faceOf_62 (by decide) ?_
              refine k_topi (y := nI (k / 3)) (pk_div (by omega) (by omega) (by omega)) ?_
              refine lv_goto (tgt := 67) C.x C.b dX9_faceOf_63 (by decide) ?_
              refine k_topi (y := (mFaceOf a2 a b (k + 1))) (by first | simp [mFaceOf, c_45, c_56]; done | simp [mFaceOf, c_45]; done | simp [mFaceOf, c_56]; done) ?_
              exact J67 ls (lv_sub hl [0, 1, 2, 3, 4, 5] rfl) _ _ hX
        refine lv_icmp_ne (tgt := 31) C.x C.b dX9_faceOf_21 (by decide) (fun c_21 => ?_) (fun c_21 => ?_)
        · skip
          have c_21 : ¬ (k % 3 = 2) := fun h9 => c_21 ((nI_eq (by omega) (by omega)).mpr h9)
          refine lv_iload C.x C.b dX9_faceOf_31 (lv_at hl 1 rfl) ?_
          refine lv_iconst (v := nI 1) C.x C.b dX9_faceOf_33 (by decide) ?_
          refine lv_iadd C.x C.b dX9_faceOf_34 ?_
          refine k_topi (y := nI (k + 1)) (nI_add _ _) ?_
          refine k_topi (y := (nI (mNx k))) (congrArg nI (by unfold mNx; split <;> omega)) ?_
          exact J35 ls (lv_sub hl [0, 1, 2, 3, 4] rfl) _ _ hX
        · skip
          have c_21 : k % 3 = 2 := (nI_eq (by omega) (by omega)).mp c_21
          refine lv_iload C.x C.b dX9_faceOf_24 (lv_at hl 1 rfl) ?_
          refine lv_iconst (v := nI 2) C.x C.b dX9_faceOf_26 (by decide) ?_
          refine lv_isub C.x C.b dX9_faceOf_27 ?_
          refine k_topi (y := (nI (k - 2))) (pk_sub (by omega)) ?_
          refine lv_goto (tgt := 35) C.x C.b dX9_faceOf_28 (by decide) ?_
          refine k_topi (y := (nI (mNx k))) (congrArg nI (by unfold mNx; split <;> omega)) ?_
          exact J35 ls (lv_sub hl [0, 1, 2, 3, 4] rfl) _ _ hX
  exact LOOP5 _ 0 (by omega) (Nat.lt_succ_self _) ls (lv_sub hl [1, 0, 2, 3, 4] rfl) _ _ hX

theorem lk_X9_puts_f16 : Cond.fieldLink RX9 16 "KoebehallModel" "face" "[I" ∈ wsX9_puts := by decide +kernel
theorem hin_X9_puts_RX9 : ∀ w ∈ u_ws RX9 TX9 28, w ∈ wsX9_puts := by decide +kernel
abbrev rmX9_puts : Room := { frames := 0, cells := 0, slots := 0, locals := 0 }
set_option maxHeartbeats 4000000 in
set_option maxRecDepth 100000 in
/-- X9_puts -/
theorem kX9_puts (l : Launch) (G : kG) (B0 : Nat) (f : kH) (h : Nat) (q : Nat → Nat) (i0 i1 i3 i7 i18 i22 i23 i27 : Int32) (j16 j17 : Int64) (a2 : Nat → Int32) (a4 : Nat → Int32) (a5 : Nat → Int32) (a6 : Nat → Int32) (b8 : Nat → Int64) (b9 : Nat → Int64) (b10 : Nat → Int64) (a11 : Nat → Int32) (a12 : Nat → Int32) (a13 : Nat → Int32) (a14 : Nat → Int32) (b15 : Nat → Int64) (b19 : Nat → Int64) (b20 : Nat → Int64) (b21 : Nat → Int64) (a24 : Nat → Int32) (a25 : Nat → Int32) (a26 : Nat → Int32) (t : Nat) (a b c9 : Int32) (hM : kCs f (mC G h q i0 i1 i3 i7 i18 i22 i23 i27 j16 j17 a2 a4 a5 a6 b8 b9 b10 a11 a12 a13 a14 b15 b19 b20 b21 a24 a25 a26)) (ht : t < 28) : Met l yX9_puts wsX9_puts (rmX9_puts) (kP G B0 f [.ref h, .int (nI t), .int a, .int b, .int c9]) (kQv G B0 (fun f1 => kCs f1 (mC G h q i0 i1 i3 i7 i18 i22 i23 i27 j16 j17 (mPut a2 t a b c9) a4 a5 a6 b8 b9 b10 a11 a12 a13 a14 b15 b19 b20 b21 a24 a25 a26) ∧ kOff (mAs h q) f f1)) 0 0 (kAb B0) := by
  refine kMet (cc := cX9_puts) (maxL := 7) (ret := none) (by decide) rfl (Nat.le_of_ble_eq_true rfl) ?_
  intro p e s m args below meth c H locs Q ls C hX hl hr hlocks hnm hQ
  have hO : kOff (mAs h q) f f := kOff.rf
  have hl : lv_has ls 7 [(0, .ref h), (1, .int (nI t)), (2, .int a), (3, .int b), (4, .int c9)] := hl
  refine lv_iload_n C.x C.b dX9_puts_0 rfl (lv_at hl 2 rfl) ?_
  refine lv_iload_n C.x C.b dX9_puts_1 rfl (lv_at hl 3 rfl) ?_
  have J16 : ∀ (ls : Array Slot), lv_has ls 7 [(0, .ref h), (1, .int (nI t)), (2, .int a), (3, .int b), (4, .int c9)] → ∀ (H : Heap) (locs : List Loc), kX G B0 s f H locs → W p l e (rmX9_puts) s m args below meth c H locs 0 0 Q (F0 m 16 ls [.int (kbI (a < b ∧ a < c9))]) := by
    intro ls hl H locs hX
    refine lv_istore (lv' := [(5, .int (kbI (a < b ∧ a < c9))), (0, .ref h), (1, .int (nI t)), (2, .int a), (3, .int b), (4, .int c9)]) C.x C.b dX9_puts_16 hl (by decide) rfl (fun ls hl => ?_)
    refine lv_iload_n C.x C.b dX9_puts_18 rfl (lv_at hl 4 rfl) ?_
    refine lv_iload_n C.x C.b dX9_puts_19 rfl (lv_at hl 3 rfl) ?_
    have J34 : ∀ (ls : Array Slot), lv_has ls 7 [(5, .int (kbI (a < b ∧ a < c9))), (0, .ref h), (1, .int (nI t)), (2, .int a), (3, .int b), (4, .int c9)] → ∀ (H : Heap) (locs : List Loc), kX G B0 s f H locs → W p l e (rmX9_puts) s m args below meth c H locs 0 0 Q (F0 m 34 ls [.int (kbI (b < a ∧ b < c9))]) := by
      intro ls hl H locs hX
      refine lv_istore (lv' := [(6, .int (kbI (b < a ∧ b < c9))), (5, .int (kbI (a < b ∧ a < c9))), (0, .ref h), (1, .int (nI t)), (2, .int a), (3, .int b), (4, .int c9)]) C.x C.b dX9_puts_34 hl (by decide) rfl (fun ls hl => ?_)
      refine lv_aload_n C.x C.b dX9_puts_36 rfl (lv_at hl 2 rfl) ?_
      refine k_get (X := RX9) (T := TX9) (N := 28) (v := .ref (q 2)) C hX (hM.at 0 rfl) rfl hin_X9_puts_RX9 2 (by decide) lk_X9_puts_f16 (fun _ h9 => h9) rfl dX9_puts_37 ?_
      refine lv_iconst (v := nI 3) C.x C.b dX9_puts_40 (by decide) ?_
      refine lv_iload_n C.x C.b dX9_puts_41 rfl (lv_at hl 3 rfl) ?_
      refine lv_imul C.x C.b dX9_puts_42 ?_
      refine k_topi (y := nI (3 * t)) (pk_mul _ _) ?_
      refine lv_iload C.x C.b dX9_puts_43 (lv_at hl 1 rfl) ?_
      have J63 : ∀ (ls : Array Slot), lv_has ls 7 [(6, .int (kbI (b < a ∧ b < c9))), (5, .int (kbI (a < b ∧ a < c9))), (0, .ref h), (1, .int (nI t)), (2, .int a), (3, .int b), (4, .int c9)] → ∀ (H : Heap) (locs : List Loc), kX G B0 s f H locs → W p l e (rmX9_puts) s m args below meth c H locs 0 0 Q (F0 m 63 ls [.int (mP0 a b c9), .int (nI (3 * t)), .ref (q 2)]) := by
        intro ls hl H locs hX
        refine k_iast C hX (hM.at 1 rfl) (vp_in_nI (by omega) (by omega)) dX9_puts_63 (fun H locs hX => ?_)
        rw [nI_clamp (by omega)] at hX
        obtain ⟨g1, hX, hM, hO⟩ := kX.wr hX hM hO 1 rfl (List.mem_of_getElem? (i := 1) rfl)
        have hM : kCs g1 (mC G h q i0 i1 i3 i7 i18 i22 i23 i27 j16 j17 (upd a2 (3 * t) (mP0 a b c9)) a4 a5 a6 b8 b9 b10 a11 a12 a13 a14 b15 b19 b20 b21 a24 a25 a26) := hM
        refine lv_aload_n C.x C.b dX9_puts_64 rfl (lv_at hl 2 rfl) ?_
        refine k_get (X := RX9) (T := TX9) (N := 28) (v := .ref (q 2)) C hX (hM.at 0 rfl) rfl hin_X9_puts_RX9 2 (by decide) lk_X9_puts_f16 (fun _ h9 => h9) rfl dX9_puts_65 ?_
        refine lv_iconst (v := nI 3) C.x C.b dX9_puts_68 (by decide) ?_
        refine lv_iload_n C.x C.b dX9_puts_69 rfl (lv_at hl 3 rfl) ?_
        refine lv_imul C.x C.b dX9_puts_70 ?_
        refine k_topi (y := nI (3 * t)) (pk_mul _ _) ?_
        refine lv_iconst (v := nI 1) C.x C.b dX9_puts_71 (by decide) ?_
        refine lv_iadd C.x C.b dX9_puts_72 ?_
        refine k_topi (y := nI ((3 * t) + 1)) (nI_add _ _) ?_
        refine lv_iload C.x C.b dX9_puts_73 (lv_at hl 1 rfl) ?_
        have J93 : ∀ (ls : Array Slot), lv_has ls 7 [(6, .int (kbI (b < a ∧ b < c9))), (5, .int (kbI (a < b ∧ a < c9))), (0, .ref h), (1, .int (nI t)), (2, .int a), (3, .int b), (4, .int c9)] → ∀ (H : Heap) (locs : List Loc), kX G B0 s g1 H locs → W p l e (rmX9_puts) s m args below meth c H locs 0 0 Q (F0 m 93 ls [.int (mP1 a b c9), .int (nI ((3 * t) + 1)), .ref (q 2)]) := by
          intro ls hl H locs hX
          refine k_iast C hX (hM.at 1 rfl) (vp_in_nI (by omega) (by omega)) dX9_puts_93 (fun H locs hX => ?_)
          rw [nI_clamp (by omega)] at hX
          obtain ⟨g2, hX, hM, hO⟩ := kX.wr hX hM hO 1 rfl (List.mem_of_getElem? (i := 1) rfl)
          have hM : kCs g2 (mC G h q i0 i1 i3 i7 i18 i22 i23 i27 j16 j17 (upd (upd a2 (3 * t) (mP0 a b c9)) ((3 * t) + 1) (mP1 a b c9)) a4 a5 a6 b8 b9 b10 a11 a12 a13 a14 b15 b19 b20 b21 a24 a25 a26) := hM
          refine lv_aload_n C.x C.b dX9_puts_94 rfl (lv_at hl 2 rfl) ?_
          refine k_get (X := RX9) (T := TX9) (N := 28) (v := .ref (q 2)) C hX (hM.at 0 rfl) rfl hin_X9_puts_RX9 2 (by decide) lk_X9_puts_f16 (fun _ h9 => h9) rfl dX9_puts_95 ?_
          refine lv_iconst (v := nI 3) C.x C.b dX9_puts_98 (by decide) ?_
          refine lv_iload_n C.x C.b dX9_puts_99 rfl (lv_at hl 3 rfl) ?_
          refine lv_imul C.x C.b dX9_puts_100 ?_
          refine k_topi (y := nI (3 * t)) (pk_mul _ _) ?_
          refine lv_iconst (v := nI 2) C.x C.b dX9_puts_101 (by decide) ?_
          refine lv_iadd C.x C.b dX9_puts_102 ?_
          refine k_topi (y := nI ((3 * t) + 2)) (nI_add _ _) ?_
          refine lv_iload C.x C.b dX9_puts_103 (lv_at hl 1 rfl) ?_
          have J123 : ∀ (ls : Array Slot), lv_has ls 7 [(6, .int (kbI (b < a ∧ b < c9))), (5, .int (kbI (a < b ∧ a < c9))), (0, .ref h), (1, .int (nI t)), (2, .int a), (3, .int b), (4, .int c9)] → ∀ (H : Heap) (locs : List Loc), kX G B0 s g2 H locs → W p l e (rmX9_puts) s m args below meth c H locs 0 0 Q (F0 m 123 ls [.int (mP2 a b c9), .int (nI ((3 * t) + 2)), .ref (q 2)]) := by
            intro ls hl H locs hX
            refine k_iast C hX (hM.at 1 rfl) (vp_in_nI (by omega) (by omega)) dX9_puts_123 (fun H locs hX => ?_)
            rw [nI_clamp (by omega)] at hX
            obtain ⟨g3, hX, hM, hO⟩ := kX.wr hX hM hO 1 rfl (List.mem_of_getElem? (i := 1) rfl)
            have hM : kCs g3 (mC G h q i0 i1 i3 i7 i18 i22 i23 i27 j16 j17 (upd (upd (upd a2 (3 * t) (mP0 a b c9)) ((3 * t) + 1) (mP1 a b c9)) ((3 * t) + 2) (mP2 a b c9)) a4 a5 a6 b8 b9 b10 a11 a12 a13 a14 b15 b19 b20 b21 a24 a25 a26) := hM
            exact k_vret C hX hr hlocks hQ (by omega) (by omega) (⟨hM, hO⟩) dX9_puts_124
          refine lv_if_eq (tgt := 113) C.x C.b dX9_puts_105 (by decide) (fun c_105 => ?_) (fun c_105 => ?_)
          · skip
            have c_105 := kbI_0 c_105
            refine lv_iload C.x C.b dX9_puts_113 (lv_at hl 0 rfl) ?_
            refine lv_if_eq (tgt := 122) C.x C.b dX9_puts_115 (by decide) (fun c_115 => ?_) (fun c_115 => ?_)
            · skip
              have c_115 := kbI_0 c_115
              refine lv_iload_n C.x C.b dX9_puts_122 rfl (lv_at hl 5 rfl) ?_
              refine k_topi (y := (mP2 a b c9)) (by first | (simp [mP2, c_105]; done) | (simp [mP2, c_105, c_115]; done)) ?_
              exact J123 ls (lv_sub hl [0, 1, 2, 3, 4, 5, 6] rfl) _ _ hX
            · skip
              have c_115 := kbI_1 c_115
              refine lv_iload_n C.x C.b dX9_puts_118 rfl (lv_at hl 4 rfl) ?_
              refine lv_goto (tgt := 123) C.x C.b dX9_puts_119 (by decide) ?_
              refine k_topi (y := (mP2 a b c9)) (by first | (simp [mP2, c_105]; done) | (simp [mP2, c_105, c_115]; done)) ?_
              exact J123 ls (lv_sub hl [0, 1, 2, 3, 4, 5, 6] rfl) _ _ hX
          · skip
            have c_105 := kbI_1 c_105
            refine lv_iload C.x C.b dX9_puts_108 (lv_at hl 6 rfl) ?_
            refine lv_goto (tgt := 123) C.x C.b dX9_puts_110 (by decide) ?_
            refine k_topi (y := (mP2 a b c9)) (by first | (simp [mP2, c_105]; done) | (simp [mP2, c_105, c_115]; done)) ?_
            exact J123 ls (lv_sub hl [0, 1, 2, 3, 4, 5, 6] rfl) _ _ hX
        refine lv_if_eq (tgt := 82) C.x C.b dX9_puts_75 (by decide) (fun c_75 => ?_) (fun c_75 => ?_)
        · skip
          have c_75 := kbI_0 c_75
          refine lv_iload C.x C.b dX9_puts_82 (lv_at hl 0 rfl) ?_
          refine lv_if_eq (tgt := 92) C.x C.b dX9_puts_84 (by decide) (fun c_84 => ?_) (fun c_84 => ?_)
          · skip
            have c_84 := kbI_0 c_84
            refine lv_iload_n C.x C.b dX9_puts_92 rfl (lv_at hl 4 rfl) ?_
            refine k_topi (y := (mP1 a b c9)) (by first | (simp [mP1, c_75]; done) | (simp [mP1, c_75, c_84]; done)) ?_
            exact J93 ls (lv_sub hl [0, 1, 2, 3, 4, 5, 6] rfl) _ _ hX
          · skip
            have c_84 := kbI_1 c_84
            refine lv_iload C.x C.b dX9_puts_87 (lv_at hl 6 rfl) ?_
            refine lv_goto (tgt := 93) C.x C.b dX9_puts_89 (by decide) ?_
            refine k_topi (y := (mP1 a b c9)) (by first | (simp [mP1, c_75]; done) | (simp [mP1, c_75, c_84]; done)) ?_
            exact J93 ls (lv_sub hl [0, 1, 2, 3, 4, 5, 6] rfl) _ _ hX
        · skip
          have c_75 := kbI_1 c_75
          refine lv_iload_n C.x C.b dX9_puts_78 rfl (lv_at hl 5 rfl) ?_
          refine lv_goto (tgt := 93) C.x C.b dX9_puts_79 (by decide) ?_
          refine k_topi (y := (mP1 a b c9)) (by first | (simp [mP1, c_75]; done) | (simp [mP1, c_75, c_84]; done)) ?_
          exact J93 ls (lv_sub hl [0, 1, 2, 3, 4, 5, 6] rfl) _ _ hX
      refine lv_if_eq (tgt := 52) C.x C.b dX9_puts_45 (by decide) (fun c_45 => ?_) (fun c_45 => ?_)
      · skip
        have c_45 := kbI_0 c_45
        refine lv_iload C.x C.b dX9_puts_52 (lv_at hl 0 rfl) ?_
        refine lv_if_eq (tgt := 61) C.x C.b dX9_puts_54 (by decide) (fun c_54 => ?_) (fun c_54 => ?_)
        · skip
          have c_54 := kbI_0 c_54
          refine lv_iload C.x C.b dX9_puts_61 (lv_at hl 6 rfl) ?_
          refine k_topi (y := (mP0 a b c9)) (by first | (simp [mP0, c_45]; done) | (simp [mP0, c_45, c_54]; done)) ?_
          exact J63 ls (lv_sub hl [0, 1, 2, 3, 4, 5, 6] rfl) _ _ hX
        · skip
          have c_54 := kbI_1 c_54
          refine lv_iload_n C.x C.b dX9_puts_57 rfl (lv_at hl 5 rfl) ?_
          refine lv_goto (tgt := 63) C.x C.b dX9_puts_58 (by decide) ?_
          refine k_topi (y := (mP0 a b c9)) (by first | (simp [mP0, c_45]; done) | (simp [mP0, c_45, c_54]; done)) ?_
          exact J63 ls (lv_sub hl [0, 1, 2, 3, 4, 5, 6] rfl) _ _ hX
      · skip
        have c_45 := kbI_1 c_45
        refine lv_iload_n C.x C.b dX9_puts_48 rfl (lv_at hl 4 rfl) ?_
        refine lv_goto (tgt := 63) C.x C.b dX9_puts_49 (by decide) ?_
        refine k_topi (y := (mP0 a b c9)) (by first | (simp [mP0, c_45]; done) | (simp [mP0, c_45, c_54]; done)) ?_
        exact J63 ls (lv_sub hl [0, 1, 2, 3, 4, 5, 6] rfl) _ _ hX
    refine lv_icmp_ge (tgt := 33) C.x C.b dX9_puts_20 (by decide) (fun c_20 => ?_) (fun c_20 => ?_)
    · skip
      refine lv_iconst (v := nI 0) C.x C.b dX9_puts_33 (by decide) ?_
      refine k_topi (y := (kbI (b < a ∧ b < c9))) (by first | exact kbI_tN ⟨Int32.not_le.mp c_20, Int32.not_le.mp c_26⟩ | exact kbI_fN (fun h9 => absurd h9.1 (Int32.not_lt.mpr c_20)) | exact kbI_fN (fun h9 => absurd h9.2 (Int32.not_lt.mpr c_26))) ?_
      exact J34 ls (lv_sub hl [0, 1, 2, 3, 4, 5] rfl) _ _ hX
    · skip
      refine lv_iload_n C.x C.b dX9_puts_23 rfl (lv_at hl 4 rfl) ?_
      refine lv_iload C.x C.b dX9_puts_24 (lv_at hl 5 rfl) ?_
      refine lv_icmp_ge (tgt := 33) C.x C.b dX9_puts_26 (by decide) (fun c_26 => ?_) (fun c_26 => ?_)
      · skip
        refine lv_iconst (v := nI 0) C.x C.b dX9_puts_33 (by decide) ?_
        refine k_topi (y := (kbI (b < a ∧ b < c9))) (by first | exact kbI_tN ⟨Int32.not_le.mp c_20, Int32.not_le.mp c_26⟩ | exact kbI_fN (fun h9 => absurd h9.1 (Int32.not_lt.mpr c_20)) | exact kbI_fN (fun h9 => absurd h9.2 (Int32.not_lt.mpr c_26))) ?_
        exact J34 ls (lv_sub hl [0, 1, 2, 3, 4, 5] rfl) _ _ hX
      · skip
        refine lv_iconst (v := nI 1) C.x C.b dX9_puts_29 (by decide) ?_
        refine lv_goto (tgt := 34) C.x C.b dX9_puts_30 (by decide) ?_
        refine k_topi (y := (kbI (b < a ∧ b < c9))) (by first | exact kbI_tN ⟨Int32.not_le.mp c_20, Int32.not_le.mp c_26⟩ | exact kbI_fN (fun h9 => absurd h9.1 (Int32.not_lt.mpr c_20)) | exact kbI_fN (fun h9 => absurd h9.2 (Int32.not_lt.mpr c_26))) ?_
        exact J34 ls (lv_sub hl [0, 1, 2, 3, 4, 5] rfl) _ _ hX
  refine lv_icmp_ge (tgt := 15) C.x C.b dX9_puts_2 (by decide) (fun c_2 => ?_) (fun c_2 => ?_)
  · skip
    refine lv_iconst (v := nI 0) C.x C.b dX9_puts_15 (by decide) ?_
    refine k_topi (y := (kbI (a < b ∧ a < c9))) (by first | exact kbI_tN ⟨Int32.not_le.mp c_2, Int32.not_le.mp c_8⟩ | exact kbI_fN (fun h9 => absurd h9.1 (Int32.not_lt.mpr c_2)) | exact kbI_fN (fun h9 => absurd h9.2 (Int32.not_lt.mpr c_8))) ?_
    exact J16 ls (lv_sub hl [0, 1, 2, 3, 4] rfl) _ _ hX
  · skip
    refine lv_iload_n C.x C.b dX9_puts_5 rfl (lv_at hl 2 rfl) ?_
    refine lv_iload C.x C.b dX9_puts_6 (lv_at hl 4 rfl) ?_
    refine lv_icmp_ge (tgt := 15) C.x C.b dX9_puts_8 (by decide) (fun c_8 => ?_) (fun c_8 => ?_)
    · skip
      refine lv_iconst (v := nI 0) C.x C.b dX9_puts_15 (by decide) ?_
      refine k_topi (y := (kbI (a < b ∧ a < c9))) (by first | exact kbI_tN ⟨Int32.not_le.mp c_2, Int32.not_le.mp c_8⟩ | exact kbI_fN (fun h9 => absurd h9.1 (Int32.not_lt.mpr c_2)) | exact kbI_fN (fun h9 => absurd h9.2 (Int32.not_lt.mpr c_8))) ?_
      exact J16 ls (lv_sub hl [0, 1, 2, 3, 4] rfl) _ _ hX
    · skip
      refine lv_iconst (v := nI 1) C.x C.b dX9_puts_11 (by decide) ?_
      refine lv_goto (tgt := 16) C.x C.b dX9_puts_12 (by decide) ?_
      refine k_topi (y := (kbI (a < b ∧ a < c9))) (by first | exact kbI_tN ⟨Int32.not_le.mp c_2, Int32.not_le.mp c_8⟩ | exact kbI_fN (fun h9 => absurd h9.1 (Int32.not_lt.mpr c_2)) | exact kbI_fN (fun h9 => absurd h9.2 (Int32.not_lt.mpr c_8))) ?_
      exact J16 ls (lv_sub hl [0, 1, 2, 3, 4] rfl) _ _ hX

theorem lk_X9_isCorner_f7 : Cond.fieldLink RX9 7 "KoebehallModel" "corners" "I" ∈ wsX9_isCorner := by decide +kernel
theorem hin_X9_isCorner_RX9 : ∀ w ∈ u_ws RX9 TX9 28, w ∈ wsX9_isCorner := by decide +kernel
theorem hdX9_isCorner_X9_isIn : yX9_isIn.cls ≠ "java/lang/invoke/MethodHandle" ∧ yX9_isIn.cls ≠ "java/lang/invoke/VarHandle" ∧ (parseMethodDescriptor yX9_isIn.desc).map (fun d => d.parameters.length) = some 3 := by decide +kernel
abbrev rmX9_isCorner : Room := { frames := 1, cells := 0, slots := 0, locals := 25 }
set_option maxHeartbeats 4000000 in
set_option maxRecDepth 100000 in
/-- X9_isCorner -/
theorem kX9_isCorner (l : Launch) (G : kG) (B0 : Nat) (f : kH) (h : Nat) (q : Nat → Nat) (i0 i1 i3 i7 i18 i22 i23 i27 : Int32) (j16 j17 : Int64) (a2 : Nat → Int32) (a4 : Nat → Int32) (a5 : Nat → Int32) (a6 : Nat → Int32) (b8 : Nat → Int64) (b9 : Nat → Int64) (b10 : Nat → Int64) (a11 : Nat → Int32) (a12 : Nat → Int32) (a13 : Nat → Int32) (a14 : Nat → Int32) (b15 : Nat → Int64) (b19 : Nat → Int64) (b20 : Nat → Int64) (b21 : Nat → Int64) (a24 : Nat → Int32) (a25 : Nat → Int32) (a26 : Nat → Int32) (a : Int32) (n9 : Nat) (hM : kCs f (mC G h q i0 i1 i3 i7 i18 i22 i23 i27 j16 j17 a2 a4 a5 a6 b8 b9 b10 a11 a12 a13 a14 b15 b19 b20 b21 a24 a25 a26)) (hn9 : i0 = nI n9) (hn : n9 < 2 ^ 31) : Met l yX9_isCorner wsX9_isCorner (rmX9_isCorner) (kP G B0 f [.ref h, .int a]) (kQi G B0 (fun r f1 => r = kbI (mIn a n9) ∧ f1 = f)) 0 0 (kAb B0) := by
  refine kMet (cc := cX9_isCorner) (maxL := 2) (ret := (some .boolean)) (by decide) rfl (Nat.le_of_ble_eq_true rfl) ?_
  intro p e s m args below meth c H locs Q ls C hX hl hr hlocks hnm hQ
  have hl : lv_has ls 2 [(0, .ref h), (1, .int a)] := hl
  refine lv_iload_n C.x C.b dX9_isCorner_0 rfl (lv_at hl 1 rfl) ?_
  refine lv_i2l (v := a.toInt64) C.x C.b dX9_isCorner_1 rfl ?_
  refine lv_lconst (v := 0) C.x C.b dX9_isCorner_2 (by decide) ?_
  refine lv_aload_n C.x C.b dX9_isCorner_3 rfl (lv_at hl 0 rfl) ?_
  refine k_get (X := RX9) (T := TX9) (N := 28) (v := .int i0) C hX (hM.at 0 rfl) rfl hin_X9_isCorner_RX9 0 (by decide) lk_X9_isCorner_f7 (fun _ h9 => h9) rfl dX9_isCorner_4 ?_
  refine k_topi (y := (nI n9)) (hn9) ?_
  refine lv_iconst (v := nI 1) C.x C.b dX9_isCorner_7 (by decide) ?_
  refine lv_isub C.x C.b dX9_isCorner_8 ?_
  refine lv_i2l (v := ((nI n9) - (nI 1)).toInt64) C.x C.b dX9_isCorner_9 rfl ?_
  refine k_calli (va_runS (As := [.long a.toInt64, .long 0, .long (((nI n9) - (nI 1)).toInt64)]) (rest := []) C.1 (kX9_isIn l G B0 f a.toInt64 0 ((nI n9 - nI 1).toInt64)) (va_cwS 3 C.ts gX9_isCorner_X9_isIn rfl rfl rfl (hdX9_isCorner_X9_isIn) ⟨Nat.le_of_ble_eq_true rfl, Nat.le_of_ble_eq_true rfl⟩) (k_preS C hX) rfl rfl hl.1 rfl (lv_room (Nat.le_of_ble_eq_true rfl)) dX9_isCorner_10 ⟨Nat.le_of_ble_eq_true rfl, Nat.le_of_ble_eq_true rfl⟩) hX (fun r10 f10 H locs hp10 hX => ?_)
  obtain ⟨hr10, hf10⟩ := hp10
  rw [hf10] at hX
  refine k_topi (y := (kbI ((0 : Int64) ≤ a.toInt64 ∧ a.toInt64 ≤ (nI n9 - nI 1).toInt64))) hr10 ?_
  refine k_topi (y := (kbI (mIn a n9))) (kbI_c (m_in hn)) ?_
  exact k_zret C hX hr hlocks hQ (by omega) (by omega) (by first | exact kbI_01 _ | exact Or.inl rfl | exact Or.inr rfl) (⟨rfl, rfl⟩) dX9_isCorner_13

theorem lk_X9_isFace_f13 : Cond.fieldLink RX9 13 "KoebehallModel" "faces" "I" ∈ wsX9_isFace := by decide +kernel
theorem hin_X9_isFace_RX9 : ∀ w ∈ u_ws RX9 TX9 28, w ∈ wsX9_isFace := by decide +kernel
theorem hdX9_isFace_X9_isIn : yX9_isIn.cls ≠ "java/lang/invoke/MethodHandle" ∧ yX9_isIn.cls ≠ "java/lang/invoke/VarHandle" ∧ (parseMethodDescriptor yX9_isIn.desc).map (fun d => d.parameters.length) = some 3 := by decide +kernel
abbrev rmX9_isFace : Room := { frames := 1, cells := 0, slots := 0, locals := 25 }
set_option maxHeartbeats 4000000 in
set_option maxRecDepth 100000 in
/-- X9_isFace -/
theorem kX9_isFace (l : Launch) (G : kG) (B0 : Nat) (f : kH) (h : Nat) (q : Nat → Nat) (i0 i1 i3 i7 i18 i22 i23 i27 : Int32) (j16 j17 : Int64) (a2 : Nat → Int32) (a4 : Nat → Int32) (a5 : Nat → Int32) (a6 : Nat → Int32) (b8 : Nat → Int64) (b9 : Nat → Int64) (b10 : Nat → Int64) (a11 : Nat → Int32) (a12 : Nat → Int32) (a13 : Nat → Int32) (a14 : Nat → Int32) (b15 : Nat → Int64) (b19 : Nat → Int64) (b20 : Nat → Int64) (b21 : Nat → Int64) (a24 : Nat → Int32) (a25 : Nat → Int32) (a26 : Nat → Int32) (a : Int32) (n9 : Nat) (hM : kCs f (mC G h q i0 i1 i3 i7 i18 i22 i23 i27 j16 j17 a2 a4 a5 a6 b8 b9 b10 a11 a12 a13 a14 b15 b19 b20 b21 a24 a25 a26)) (hn9 : i1 = nI n9) (hn : n9 < 2 ^ 31) : Met l yX9_isFace wsX9_isFace (rmX9_isFace) (kP G B0 f [.ref h, .int a]) (kQi G B0 (fun r f1 => r = kbI (mIn a n9) ∧ f1 = f)) 0 0 (kAb B0) := by
  refine kMet (cc := cX9_isFace) (maxL := 2) (ret := (some .boolean)) (by decide) rfl (Nat.le_of_ble_eq_true rfl) ?_
  intro p e s m args below meth c H locs Q ls C hX hl hr hlocks hnm hQ
  have hl : lv_has ls 2 [(0, .ref h), (1, .int a)] := hl
  refine lv_iload_n C.x C.b dX9_isFace_0 rfl (lv_at hl 1 rfl) ?_
  refine lv_i2l (v := a.toInt64) C.x C.b dX9_isFace_1 rfl ?_
  refine lv_lconst (v := 0) C.x C.b dX9_isFace_2 (by decide) ?_
  refine lv_aload_n C.x C.b dX9_isFace_3 rfl (lv_at hl 0 rfl) ?_
  refine k_get (X := RX9) (T := TX9) (N := 28) (v := .int i1) C hX (hM.at 0 rfl) rfl hin_X9_isFace_RX9 1 (by decide) lk_X9_isFace_f13 (fun _ h9 => h9) rfl dX9_isFace_4 ?_
  refine k_topi (y := (nI n9)) (hn9) ?_
  refine lv_iconst (v := nI 1) C.x C.b dX9_isFace_7 (by decide) ?_
  refine lv_isub C.x C.b dX9_isFace_8 ?_
  refine lv_i2l (v := ((nI n9) - (nI 1)).toInt64) C.x C.b dX9_isFace_9 rfl ?_
  refine k_calli (va_runS (As := [.long a.toInt64, .long 0, .long (((nI n9) - (nI 1)).toInt64)]) (rest := []) C.1 (kX9_isIn l G B0 f a.toInt64 0 ((nI n9 - nI 1).toInt64)) (va_cwS 3 C.ts gX9_isFace_X9_isIn rfl rfl rfl (hdX9_isFace_X9_isIn) ⟨Nat.le_of_ble_eq_true rfl, Nat.le_of_ble_eq_true rfl⟩) (k_preS C hX) rfl rfl hl.1 rfl (lv_room (Nat.le_of_ble_eq_true rfl)) dX9_isFace_10 ⟨Nat.le_of_ble_eq_true rfl, Nat.le_of_ble_eq_true rfl⟩) hX (fun r10 f10 H locs hp10 hX => ?_)
  obtain ⟨hr10, hf10⟩ := hp10
  rw [hf10] at hX
  refine k_topi (y := (kbI ((0 : Int64) ≤ a.toInt64 ∧ a.toInt64 ≤ (nI n9 - nI 1).toInt64))) hr10 ?_
  refine k_topi (y := (kbI (mIn a n9))) (kbI_c (m_in hn)) ?_
  exact k_zret C hX hr hlocks hQ (by omega) (by omega) (by first | exact kbI_01 _ | exact Or.inl rfl | exact Or.inr rfl) (⟨rfl, rfl⟩) dX9_isFace_13

theorem lk_X9_isGasket_f138 : Cond.fieldLink RX9 138 "KoebehallModel" "gaskets" "I" ∈ wsX9_isGasket := by decide +kernel
theorem hin_X9_isGasket_RX9 : ∀ w ∈ u_ws RX9 TX9 28, w ∈ wsX9_isGasket := by decide +kernel
theorem hdX9_isGasket_X9_isIn : yX9_isIn.cls ≠ "java/lang/invoke/MethodHandle" ∧ yX9_isIn.cls ≠ "java/lang/invoke/VarHandle" ∧ (parseMethodDescriptor yX9_isIn.desc).map (fun d => d.parameters.length) = some 3 := by decide +kernel
abbrev rmX9_isGasket : Room := { frames := 1, cells := 0, slots := 0, locals := 25 }
set_option maxHeartbeats 4000000 in
set_option maxRecDepth 100000 in
/-- X9_isGasket -/
theorem kX9_isGasket (l : Launch) (G : kG) (B0 : Nat) (f : kH) (h : Nat) (q : Nat → Nat) (i0 i1 i3 i7 i18 i22 i23 i27 : Int32) (j16 j17 : Int64) (a2 : Nat → Int32) (a4 : Nat → Int32) (a5 : Nat → Int32) (a6 : Nat → Int32) (b8 : Nat → Int64) (b9 : Nat → Int64) (b10 : Nat → Int64) (a11 : Nat → Int32) (a12 : Nat → Int32) (a13 : Nat → Int32) (a14 : Nat → Int32) (b15 : Nat → Int64) (b19 : Nat → Int64) (b20 : Nat → Int64) (b21 : Nat → Int64) (a24 : Nat → Int32) (a25 : Nat → Int32) (a26 : Nat → Int32) (a : Int32) (n9 : Nat) (hM : kCs f (mC G h q i0 i1 i3 i7 i18 i22 i23 i27 j16 j17 a2 a4 a5 a6 b8 b9 b10 a11 a12 a13 a14 b15 b19 b20 b21 a24 a25 a26)) (hn9 : i7 = nI n9) (hn : n9 < 2 ^ 31) : Met l yX9_isGasket wsX9_isGasket (rmX9_isGasket) (kP G B0 f [.ref h, .int a]) (kQi G B0 (fun r f1 => r = kbI (mIn a n9) ∧ f1 = f)) 0 0 (kAb B0) := by
  refine kMet (cc := cX9_isGasket) (maxL := 2) (ret := (some .boolean)) (by decide) rfl (Nat.le_of_ble_eq_true rfl) ?_
  intro p e s m args below meth c H locs Q ls C hX hl hr hlocks hnm hQ
  have hl : lv_has ls 2 [(0, .ref h), (1, .int a)] := hl
  refine lv_iload_n C.x C.b dX9_isGasket_0 rfl (lv_at hl 1 rfl) ?_
  refine lv_i2l (v := a.toInt64) C.x C.b dX9_isGasket_1 rfl ?_
  refine lv_lconst (v := 0) C.x C.b dX9_isGasket_2 (by decide) ?_
  refine lv_aload_n C.x C.b dX9_isGasket_3 rfl (lv_at hl 0 rfl) ?_
  refine k_get (X := RX9) (T := TX9) (N := 28) (v := .int i7) C hX (hM.at 0 rfl) rfl hin_X9_isGasket_RX9 7 (by decide) lk_X9_isGasket_f138 (fun _ h9 => h9) rfl dX9_isGasket_4 ?_
  refine k_topi (y := (nI n9)) (hn9) ?_
  refine lv_iconst (v := nI 1) C.x C.b dX9_isGasket_7 (by decide) ?_
  refine lv_isub C.x C.b dX9_isGasket_8 ?_
  refine lv_i2l (v := ((nI n9) - (nI 1)).toInt64) C.x C.b dX9_isGasket_9 rfl ?_
  refine k_calli (va_runS (As := [.long a.toInt64, .long 0, .long (((nI n9) - (nI 1)).toInt64)]) (rest := []) C.1 (kX9_isIn l G B0 f a.toInt64 0 ((nI n9 - nI 1).toInt64)) (va_cwS 3 C.ts gX9_isGasket_X9_isIn rfl rfl rfl (hdX9_isGasket_X9_isIn) ⟨Nat.le_of_ble_eq_true rfl, Nat.le_of_ble_eq_true rfl⟩) (k_preS C hX) rfl rfl hl.1 rfl (lv_room (Nat.le_of_ble_eq_true rfl)) dX9_isGasket_10 ⟨Nat.le_of_ble_eq_true rfl, Nat.le_of_ble_eq_true rfl⟩) hX (fun r10 f10 H locs hp10 hX => ?_)
  obtain ⟨hr10, hf10⟩ := hp10
  rw [hf10] at hX
  refine k_topi (y := (kbI ((0 : Int64) ≤ a.toInt64 ∧ a.toInt64 ≤ (nI n9 - nI 1).toInt64))) hr10 ?_
  refine k_topi (y := (kbI (mIn a n9))) (kbI_c (m_in hn)) ?_
  exact k_zret C hX hr hlocks hQ (by omega) (by omega) (by first | exact kbI_01 _ | exact Or.inl rfl | exact Or.inr rfl) (⟨rfl, rfl⟩) dX9_isGasket_13

theorem lk_X9_isNode_f64 : Cond.fieldLink RX9 64 "KoebehallModel" "nodes" "I" ∈ wsX9_isNode := by decide +kernel
theorem hin_X9_isNode_RX9 : ∀ w ∈ u_ws RX9 TX9 28, w ∈ wsX9_isNode := by decide +kernel
theorem hdX9_isNode_X9_isIn : yX9_isIn.cls ≠ "java/lang/invoke/MethodHandle" ∧ yX9_isIn.cls ≠ "java/lang/invoke/VarHandle" ∧ (parseMethodDescriptor yX9_isIn.desc).map (fun d => d.parameters.length) = some 3 := by decide +kernel
abbrev rmX9_isNode : Room := { frames := 1, cells := 0, slots := 0, locals := 25 }
set_option maxHeartbeats 4000000 in
set_option maxRecDepth 100000 in
/-- X9_isNode -/
theorem kX9_isNode (l : Launch) (G : kG) (B0 : Nat) (f : kH) (h : Nat) (q : Nat → Nat) (i0 i1 i3 i7 i18 i22 i23 i27 : Int32) (j16 j17 : Int64) (a2 : Nat → Int32) (a4 : Nat → Int32) (a5 : Nat → Int32) (a6 : Nat → Int32) (b8 : Nat → Int64) (b9 : Nat → Int64) (b10 : Nat → Int64) (a11 : Nat → Int32) (a12 : Nat → Int32) (a13 : Nat → Int32) (a14 : Nat → Int32) (b15 : Nat → Int64) (b19 : Nat → Int64) (b20 : Nat → Int64) (b21 : Nat → Int64) (a24 : Nat → Int32) (a25 : Nat → Int32) (a26 : Nat → Int32) (a : Int32) (n9 : Nat) (hM : kCs f (mC G h q i0 i1 i3 i7 i18 i22 i23 i27 j16 j17 a2 a4 a5 a6 b8 b9 b10 a11 a12 a13 a14 b15 b19 b20 b21 a24 a25 a26)) (hn9 : i22 = nI n9) (hn : n9 < 2 ^ 31) : Met l yX9_isNode wsX9_isNode (rmX9_isNode) (kP G B0 f [.ref h, .int a]) (kQi G B0 (fun r f1 => r = kbI (mIn a n9) ∧ f1 = f)) 0 0 (kAb B0) := by
  refine kMet (cc := cX9_isNode) (maxL := 2) (ret := (some .boolean)) (by decide) rfl (Nat.le_of_ble_eq_true rfl) ?_
  intro p e s m args below meth c H locs Q ls C hX hl hr hlocks hnm hQ
  have hl : lv_has ls 2 [(0, .ref h), (1, .int a)] := hl
  refine lv_iload_n C.x C.b dX9_isNode_0 rfl (lv_at hl 1 rfl) ?_
  refine lv_i2l (v := a.toInt64) C.x C.b dX9_isNode_1 rfl ?_
  refine lv_lconst (v := 0) C.x C.b dX9_isNode_2 (by decide) ?_
  refine lv_aload_n C.x C.b dX9_isNode_3 rfl (lv_at hl 0 rfl) ?_
  refine k_get (X := RX9) (T := TX9) (N := 28) (v := .int i22) C hX (hM.at 0 rfl) rfl hin_X9_isNode_RX9 22 (by decide) lk_X9_isNode_f64 (fun _ h9 => h9) rfl dX9_isNode_4 ?_
  refine k_topi (y := (nI n9)) (hn9) ?_
  refine lv_iconst (v := nI 1) C.x C.b dX9_isNode_7 (by decide) ?_
  refine lv_isub C.x C.b dX9_isNode_8 ?_
  refine lv_i2l (v := ((nI n9) - (nI 1)).toInt64) C.x C.b dX9_isNode_9 rfl ?_
  refine k_calli (va_runS (As := [.long a.toInt64, .long 0, .long (((nI n9) - (nI 1)).toInt64)]) (rest := []) C.1 (kX9_isIn l G B0 f a.toInt64 0 ((nI n9 - nI 1).toInt64)) (va_cwS 3 C.ts gX9_isNode_X9_isIn rfl rfl rfl (hdX9_isNode_X9_isIn) ⟨Nat.le_of_ble_eq_true rfl, Nat.le_of_ble_eq_true rfl⟩) (k_preS C hX) rfl rfl hl.1 rfl (lv_room (Nat.le_of_ble_eq_true rfl)) dX9_isNode_10 ⟨Nat.le_of_ble_eq_true rfl, Nat.le_of_ble_eq_true rfl⟩) hX (fun r10 f10 H locs hp10 hX => ?_)
  obtain ⟨hr10, hf10⟩ := hp10
  rw [hf10] at hX
  refine k_topi (y := (kbI ((0 : Int64) ≤ a.toInt64 ∧ a.toInt64 ≤ (nI n9 - nI 1).toInt64))) hr10 ?_
  refine k_topi (y := (kbI (mIn a n9))) (kbI_c (m_in hn)) ?_
  exact k_zret C hX hr hlocks hQ (by omega) (by omega) (by first | exact kbI_01 _ | exact Or.inl rfl | exact Or.inr rfl) (⟨rfl, rfl⟩) dX9_isNode_13

theorem lk_X9_third_f16 : Cond.fieldLink RX9 16 "KoebehallModel" "face" "[I" ∈ wsX9_third := by decide +kernel
theorem hin_X9_third_RX9 : ∀ w ∈ u_ws RX9 TX9 28, w ∈ wsX9_third := by decide +kernel
abbrev rmX9_third : Room := { frames := 0, cells := 0, slots := 0, locals := 0 }
set_option maxHeartbeats 4000000 in
set_option maxRecDepth 100000 in
/-- X9_third -/
theorem kX9_third (l : Launch) (G : kG) (B0 : Nat) (f : kH) (h : Nat) (q : Nat → Nat) (i0 i1 i3 i7 i18 i22 i23 i27 : Int32) (j16 j17 : Int64) (a2 : Nat → Int32) (a4 : Nat → Int32) (a5 : Nat → Int32) (a6 : Nat → Int32) (b8 : Nat → Int64) (b9 : Nat → Int64) (b10 : Nat → Int64) (a11 : Nat → Int32) (a12 : Nat → Int32) (a13 : Nat → Int32) (a14 : Nat → Int32) (b15 : Nat → Int64) (b19 : Nat → Int64) (b20 : Nat → Int64) (b21 : Nat → Int64) (a24 : Nat → Int32) (a25 : Nat → Int32) (a26 : Nat → Int32) (t : Nat) (a b : Int32) (hM : kCs f (mC G h q i0 i1 i3 i7 i18 i22 i23 i27 j16 j17 a2 a4 a5 a6 b8 b9 b10 a11 a12 a13 a14 b15 b19 b20 b21 a24 a25 a26)) (ht : t < 28) : Met l yX9_third wsX9_third (rmX9_third) (kP G B0 f [.ref h, .int (nI t), .int a, .int b]) (kQi G B0 (fun r f1 => r = mThird a2 (3 * t) a b 3 ∧ f1 = f)) 0 0 (kAb B0) := by
  refine kMet (cc := cX9_third) (maxL := 6) (ret := (some .int)) (by decide) rfl (Nat.le_of_ble_eq_true rfl) ?_
  intro p e s m args below meth c H locs Q ls C hX hl hr hlocks hnm hQ
  have hl : lv_has ls 6 [(0, .ref h), (1, .int (nI t)), (2, .int a), (3, .int b)] := hl
  refine lv_iconst (v := -1) C.x C.b dX9_third_0 (by decide) ?_
  refine lv_istore (lv' := [(4, .int (-1)), (0, .ref h), (1, .int (nI t)), (2, .int a), (3, .int b)]) C.x C.b dX9_third_1 hl (by decide) rfl (fun ls hl => ?_)
  refine lv_iconst (v := nI 3) C.x C.b dX9_third_3 (by decide) ?_
  refine lv_iload_n C.x C.b dX9_third_4 rfl (lv_at hl 2 rfl) ?_
  refine lv_imul C.x C.b dX9_third_5 ?_
  refine k_topi (y := nI (3 * t)) (pk_mul _ _) ?_
  refine lv_istore (lv' := [(5, .int (nI (3 * t))), (4, .int (-1)), (0, .ref h), (1, .int (nI t)), (2, .int a), (3, .int b)]) C.x C.b dX9_third_6 hl (by decide) rfl (fun ls hl => ?_)
  have LOOP8 : ∀ (n : Nat) (k : Nat), (k ≤ 3) → (3 - k) < n → ∀ (ls : Array Slot), lv_has ls 6 [(4, .int (mThird a2 (3 * t) a b k)), (5, .int (nI (3 * t + k))), (0, .ref h), (1, .int (nI t)), (2, .int a), (3, .int b)] → ∀ (H : Heap) (locs : List Loc), kX G B0 s f H locs → W p l e (rmX9_third) s m args below meth c H locs 0 0 Q (F0 m 8 ls []) := by
    intro n8
    induction n8 with
    | zero => intro k hk hn; exact absurd hn (Nat.not_lt_zero _)
    | succ n8 ih8 =>
      intro k hk hn ls hl H locs hX
      refine lv_iload C.x C.b dX9_third_8 (lv_at hl 1 rfl) ?_
      refine lv_iconst (v := nI 3) C.x C.b dX9_third_10 (by decide) ?_
      refine lv_iload_n C.x C.b dX9_third_11 rfl (lv_at hl 3 rfl) ?_
      refine lv_imul C.x C.b dX9_third_12 ?_
      refine k_topi (y := nI (3 * t)) (pk_mul _ _) ?_
      refine lv_iconst (v := nI 3) C.x C.b dX9_third_13 (by decide) ?_
      refine lv_iadd C.x C.b dX9_third_14 ?_
      refine k_topi (y := nI ((3 * t) + 3)) (nI_add _ _) ?_
      refine lv_icmp_ge (tgt := 60) C.x C.b dX9_third_15 (by decide) (fun c_15 => ?_) (fun c_15 => ?_)
      · skip
        have c_15 : (3 * t) + 3 ≤ 3 * t + k := (nI_leI (by omega) (by omega)).mp c_15
        refine lv_iload C.x C.b dX9_third_60 (lv_at hl 0 rfl) ?_
        exact k_iret C hX hr hlocks hQ (by omega) (by omega) (⟨congrArg _ (by omega), rfl⟩) dX9_third_62
      · skip
        have c_15 : ¬ ((3 * t) + 3 ≤ 3 * t + k) := fun h9 => c_15 ((nI_leI (by omega) (by omega)).mpr h9)
        refine lv_aload_n C.x C.b dX9_third_18 rfl (lv_at hl 2 rfl) ?_
        refine k_get (X := RX9) (T := TX9) (N := 28) (v := .ref (q 2)) C hX (hM.at 0 rfl) rfl hin_X9_third_RX9 2 (by decide) lk_X9_third_f16 (fun _ h9 => h9) rfl dX9_third_19 ?_
        refine lv_iload C.x C.b dX9_third_22 (lv_at hl 1 rfl) ?_
        refine k_iald C hX (hM.at 1 rfl) (vp_in_nI (by omega) (by omega)) dX9_third_24 ?_
        refine k_topi (y := a2 (3 * t + k)) (by rw [nI_clamp (by omega)]) ?_
        refine lv_iload_n C.x C.b dX9_third_25 rfl (lv_at hl 4 rfl) ?_
        have J52 : ∀ (ls : Array Slot), lv_has ls 6 [(4, .int (mThird a2 (3 * t) a b k)), (5, .int (nI (3 * t + k))), (0, .ref h), (1, .int (nI t)), (2, .int a), (3, .int b)] → ∀ (H : Heap) (locs : List Loc), kX G B0 s f H locs → W p l e (rmX9_third) s m args below meth c H locs 0 0 Q (F0 m 52 ls [.int (mThird a2 (3 * t) a b (k + 1))]) := by
          intro ls hl H locs hX
          refine lv_istore (lv' := [(4, .int (mThird a2 (3 * t) a b (k + 1))), (5, .int (nI (3 * t + k))), (0, .ref h), (1, .int (nI t)), (2, .int a), (3, .int b)]) C.x C.b dX9_third_52 hl (by decide) rfl (fun ls hl => ?_)
          refine lv_iinc (v := (nI (3 * t + k + 1))) (lv' := [(5, .int (nI (3 * t + k + 1))), (4, .int (mThird a2 (3 * t) a b (k + 1))), (0, .ref h), (1, .int (nI t)), (2, .int a), (3, .int b)]) C.x C.b dX9_third_54 hl (k := 1) rfl (nI_1 _) (by decide) rfl (fun ls hl => ?_)
          refine lv_goto (tgt := 8) C.x C.b dX9_third_57 (by decide) ?_
          exact ih8 (k + 1) (by omega) (by omega) ls (lv_sub hl [1, 0, 2, 3, 4, 5] rfl) _ _ hX
        refine lv_icmp_eq (tgt := 50) C.x C.b dX9_third_26 (by decide) (fun c_26 => ?_) (fun c_26 => ?_)
        · skip
          refine lv_iload C.x C.b dX9_third_50 (lv_at hl 0 rfl) ?_
          refine k_topi (y := (mThird a2 (3 * t) a b (k + 1))) (by first | simp [mThird, c_26, c_37]; done | simp [mThird, c_26]; done | simp [mThird, c_37]; done) ?_
          exact J52 ls (lv_sub hl [0, 1, 2, 3, 4, 5] rfl) _ _ hX
        · skip
          refine lv_aload_n C.x C.b dX9_third_29 rfl (lv_at hl 2 rfl) ?_
          refine k_get (X := RX9) (T := TX9) (N := 28) (v := .ref (q 2)) C hX (hM.at 0 rfl) rfl hin_X9_third_RX9 2 (by decide) lk_X9_third_f16 (fun _ h9 => h9) rfl dX9_third_30 ?_
          refine lv_iload C.x C.b dX9_third_33 (lv_at hl 1 rfl) ?_
          refine k_iald C hX (hM.at 1 rfl) (vp_in_nI (by omega) (by omega)) dX9_third_35 ?_
          refine k_topi (y := a2 (3 * t + k)) (by rw [nI_clamp (by omega)]) ?_
          refine lv_iload_n C.x C.b dX9_third_36 rfl (lv_at hl 5 rfl) ?_
          refine lv_icmp_eq (tgt := 50) C.x C.b dX9_third_37 (by decide) (fun c_37 => ?_) (fun c_37 => ?_)
          · skip
            refine lv_iload C.x C.b dX9_third_50 (lv_at hl 0 rfl) ?_
            refine k_topi (y := (mThird a2 (3 * t) a b (k + 1))) (by first | simp [mThird, c_26, c_37]; done | simp [mThird, c_26]; done | simp [mThird, c_37]; done) ?_
            exact J52 ls (lv_sub hl [0, 1, 2, 3, 4, 5] rfl) _ _ hX
          · skip
            refine lv_aload_n C.x C.b dX9_third_40 rfl (lv_at hl 2 rfl) ?_
            refine k_get (X := RX9) (T := TX9) (N := 28) (v := .ref (q 2)) C hX (hM.at 0 rfl) rfl hin_X9_third_RX9 2 (by decide) lk_X9_third_f16 (fun _ h9 => h9) rfl dX9_third_41 ?_
            refine lv_iload C.x C.b dX9_third_44 (lv_at hl 1 rfl) ?_
            refine k_iald C hX (hM.at 1 rfl) (vp_in_nI (by omega) (by omega)) dX9_third_46 ?_
            refine k_topi (y := a2 (3 * t + k)) (by rw [nI_clamp (by omega)]) ?_
            refine lv_goto (tgt := 52) C.x C.b dX9_third_47 (by decide) ?_
            refine k_topi (y := (mThird a2 (3 * t) a b (k + 1))) (by first | simp [mThird, c_26, c_37]; done | simp [mThird, c_26]; done | simp [mThird, c_37]; done) ?_
            exact J52 ls (lv_sub hl [0, 1, 2, 3, 4, 5] rfl) _ _ hX
  exact LOOP8 _ 0 (by omega) (Nat.lt_succ_self _) ls (lv_sub hl [1, 0, 2, 3, 4, 5] rfl) _ _ hX

theorem hdX9_areNeighbours_X9_faceOf : yX9_faceOf.cls ≠ "java/lang/invoke/MethodHandle" ∧ yX9_faceOf.cls ≠ "java/lang/invoke/VarHandle" ∧ (parseMethodDescriptor yX9_faceOf.desc).map (fun d => d.parameters.length) = some 2 := by decide +kernel
abbrev rmX9_areNeighbours : Room := { frames := 1, cells := 0, slots := 0, locals := 25 }
set_option maxHeartbeats 4000000 in
set_option maxRecDepth 100000 in
/-- X9_areNeighbours -/
theorem kX9_areNeighbours (l : Launch) (G : kG) (B0 : Nat) (f : kH) (h : Nat) (q : Nat → Nat) (i0 i1 i3 i7 i18 i22 i23 i27 : Int32) (j16 j17 : Int64) (a2 : Nat → Int32) (a4 : Nat → Int32) (a5 : Nat → Int32) (a6 : Nat → Int32) (b8 : Nat → Int64) (b9 : Nat → Int64) (b10 : Nat → Int64) (a11 : Nat → Int32) (a12 : Nat → Int32) (a13 : Nat → Int32) (a14 : Nat → Int32) (b15 : Nat → Int64) (b19 : Nat → Int64) (b20 : Nat → Int64) (b21 : Nat → Int64) (a24 : Nat → Int32) (a25 : Nat → Int32) (a26 : Nat → Int32) (a b : Int32) (F : Nat) (hM : kCs f (mC G h q i0 i1 i3 i7 i18 i22 i23 i27 j16 j17 a2 a4 a5 a6 b8 b9 b10 a11 a12 a13 a14 b15 b19 b20 b21 a24 a25 a26)) (hF : i1 = nI F) (hF9 : F ≤ 28) : Met l yX9_areNeighbours wsX9_areNeighbours (rmX9_areNeighbours) (kP G B0 f [.ref h, .int a, .int b]) (kQi G B0 (fun r f1 => r = kbI (mAdj a2 F a b) ∧ f1 = f)) 0 0 (kAb B0) := by
  refine kMet (cc := cX9_areNeighbours) (maxL := 3) (ret := (some .boolean)) (by decide) rfl (Nat.le_of_ble_eq_true rfl) ?_
  intro p e s m args below meth c H locs Q ls C hX hl hr hlocks hnm hQ
  have hl : lv_has ls 3 [(0, .ref h), (1, .int a), (2, .int b)] := hl
  refine lv_aload_n C.x C.b dX9_areNeighbours_0 rfl (lv_at hl 0 rfl) ?_
  refine lv_iload_n C.x C.b dX9_areNeighbours_1 rfl (lv_at hl 1 rfl) ?_
  refine lv_iload_n C.x C.b dX9_areNeighbours_2 rfl (lv_at hl 2 rfl) ?_
  refine k_calli (va_runV (As := [.int a, .int b]) (rest := []) C.1 (kX9_faceOf l G B0 f h q i0 i1 i3 i7 i18 i22 i23 i27 j16 j17 a2 a4 a5 a6 b8 b9 b10 a11 a12 a13 a14 b15 b19 b20 b21 a24 a25 a26 a b F hM hF hF9) (cwV 2 C.ts gX9_areNeighbours_X9_faceOf rfl rfl rfl ⟨rfl, hdX9_areNeighbours_X9_faceOf⟩ ⟨Nat.le_of_ble_eq_true rfl, Nat.le_of_ble_eq_true rfl⟩) (k_preV C hX (hM.at 0 rfl) rfl) rfl rfl hl.1 rfl (lv_room (Nat.le_of_ble_eq_true rfl)) dX9_areNeighbours_3 ⟨Nat.le_of_ble_eq_true rfl, Nat.le_of_ble_eq_true rfl⟩) hX (fun r3 f3 H locs hp3 hX => ?_)
  obtain ⟨hr3, hf3⟩ := hp3
  rw [hf3] at hX
  refine k_topi (y := (mFaceOf a2 a b (3 * F))) hr3 ?_
  refine lv_iconst (v := -1) C.x C.b dX9_areNeighbours_6 (by decide) ?_
  refine lv_icmp_eq (tgt := 14) C.x C.b dX9_areNeighbours_7 (by decide) (fun c_7 => ?_) (fun c_7 => ?_)
  · skip
    refine lv_iconst (v := nI 0) C.x C.b dX9_areNeighbours_14 (by decide) ?_
    exact k_zret C hX hr hlocks hQ (by omega) (by omega) (by first | exact kbI_01 _ | exact Or.inl rfl | exact Or.inr rfl) (by refine ⟨?_, rfl⟩; first | exact kbI_tN c_7 | exact kbI_fN (fun h9 => h9 c_7)) dX9_areNeighbours_15
  · skip
    refine lv_iconst (v := nI 1) C.x C.b dX9_areNeighbours_10 (by decide) ?_
    refine lv_goto (tgt := 15) C.x C.b dX9_areNeighbours_11 (by decide) ?_
    exact k_zret C hX hr hlocks hQ (by omega) (by omega) (by first | exact kbI_01 _ | exact Or.inl rfl | exact Or.inr rfl) (by refine ⟨?_, rfl⟩; first | exact kbI_tN c_7 | exact kbI_fN (fun h9 => h9 c_7)) dX9_areNeighbours_15

theorem hdX9_canFlip_X9_areNeighbours : yX9_areNeighbours.cls ≠ "java/lang/invoke/MethodHandle" ∧ yX9_areNeighbours.cls ≠ "java/lang/invoke/VarHandle" ∧ (parseMethodDescriptor yX9_areNeighbours.desc).map (fun d => d.parameters.length) = some 2 := by decide +kernel
theorem hdX9_canFlip_X9_faceOf : yX9_faceOf.cls ≠ "java/lang/invoke/MethodHandle" ∧ yX9_faceOf.cls ≠ "java/lang/invoke/VarHandle" ∧ (parseMethodDescriptor yX9_faceOf.desc).map (fun d => d.parameters.length) = some 2 := by decide +kernel
theorem hdX9_canFlip_X9_third : yX9_third.cls ≠ "java/lang/invoke/MethodHandle" ∧ yX9_third.cls ≠ "java/lang/invoke/VarHandle" ∧ (parseMethodDescriptor yX9_third.desc).map (fun d => d.parameters.length) = some 3 := by decide +kernel
abbrev rmX9_canFlip : Room := { frames := 2, cells := 0, slots := 0, locals := 47 }
set_option maxHeartbeats 4000000 in
set_option maxRecDepth 100000 in
/-- X9_canFlip -/
theorem kX9_canFlip (l : Launch) (G : kG) (B0 : Nat) (f : kH) (h : Nat) (q : Nat → Nat) (i0 i1 i3 i7 i18 i22 i23 i27 : Int32) (j16 j17 : Int64) (a2 : Nat → Int32) (a4 : Nat → Int32) (a5 : Nat → Int32) (a6 : Nat → Int32) (b8 : Nat → Int64) (b9 : Nat → Int64) (b10 : Nat → Int64) (a11 : Nat → Int32) (a12 : Nat → Int32) (a13 : Nat → Int32) (a14 : Nat → Int32) (b15 : Nat → Int64) (b19 : Nat → Int64) (b20 : Nat → Int64) (b21 : Nat → Int64) (a24 : Nat → Int32) (a25 : Nat → Int32) (a26 : Nat → Int32) (a b : Int32) (F : Nat) (hM : kCs f (mC G h q i0 i1 i3 i7 i18 i22 i23 i27 j16 j17 a2 a4 a5 a6 b8 b9 b10 a11 a12 a13 a14 b15 b19 b20 b21 a24 a25 a26)) (hF : i1 = nI F) (hF9 : F ≤ 28) (hsy : mAdj a2 F a b → mAdj a2 F b a) : Met l yX9_canFlip wsX9_canFlip (rmX9_canFlip) (kP G B0 f [.ref h, .int a, .int b]) (kQi G B0 (fun r f1 => r = kbI (mCanFlip a2 F a b) ∧ f1 = f)) 0 0 (kAb B0) := by
  refine kMet (cc := cX9_canFlip) (maxL := 3) (ret := (some .boolean)) (by decide) rfl (Nat.le_of_ble_eq_true rfl) ?_
  intro p e s m args below meth c H locs Q ls C hX hl hr hlocks hnm hQ
  have hl : lv_has ls 3 [(0, .ref h), (1, .int a), (2, .int b)] := hl
  refine lv_aload_n C.x C.b dX9_canFlip_0 rfl (lv_at hl 0 rfl) ?_
  refine lv_iload_n C.x C.b dX9_canFlip_1 rfl (lv_at hl 1 rfl) ?_
  refine lv_iload_n C.x C.b dX9_canFlip_2 rfl (lv_at hl 2 rfl) ?_
  refine k_calli (va_runV (As := [.int a, .int b]) (rest := []) C.1 (kX9_areNeighbours l G B0 f h q i0 i1 i3 i7 i18 i22 i23 i27 j16 j17 a2 a4 a5 a6 b8 b9 b10 a11 a12 a13 a14 b15 b19 b20 b21 a24 a25 a26 a b F hM hF hF9) (cwV 2 C.ts gX9_canFlip_X9_areNeighbours rfl rfl rfl ⟨rfl, hdX9_canFlip_X9_areNeighbours⟩ ⟨Nat.le_of_ble_eq_true rfl, Nat.le_of_ble_eq_true rfl⟩) (k_preV C hX (hM.at 0 rfl) rfl) rfl rfl hl.1 rfl (lv_room (Nat.le_of_ble_eq_true rfl)) dX9_canFlip_3 ⟨Nat.le_of_ble_eq_true rfl, Nat.le_of_ble_eq_true rfl⟩) hX (fun r3 f3 H locs hp3 hX => ?_)
  obtain ⟨hr3, hf3⟩ := hp3
  rw [hf3] at hX
  refine k_topi (y := (kbI (mAdj a2 F a b))) hr3 ?_
  refine lv_if_eq (tgt := 44) C.x C.b dX9_canFlip_6 (by decide) (fun c_6 => ?_) (fun c_6 => ?_)
  · skip
    have c_6 := kbI_0 c_6
    refine lv_iconst (v := nI 0) C.x C.b dX9_canFlip_44 (by decide) ?_
    exact k_zret C hX hr hlocks hQ (by omega) (by omega) (by first | exact kbI_01 _ | exact Or.inl rfl | exact Or.inr rfl) (by refine ⟨?_, rfl⟩; first | exact kbI_tN ⟨c_6, c_37⟩ | exact kbI_fN (fun h9 => c_6 h9.1) | exact kbI_fN (fun h9 => h9.2 c_37)) dX9_canFlip_45
  · skip
    have c_6 := kbI_1 c_6
    obtain ⟨t1, ht1, e1⟩ := mAdj_face c_6 hF9
    obtain ⟨t2, ht2, e2⟩ := mAdj_face (hsy c_6) hF9
    refine lv_aload_n C.x C.b dX9_canFlip_9 rfl (lv_at hl 0 rfl) ?_
    refine lv_aload_n C.x C.b dX9_canFlip_10 rfl (lv_at hl 0 rfl) ?_
    refine lv_aload_n C.x C.b dX9_canFlip_11 rfl (lv_at hl 0 rfl) ?_
    refine lv_iload_n C.x C.b dX9_canFlip_12 rfl (lv_at hl 1 rfl) ?_
    refine lv_iload_n C.x C.b dX9_canFlip_13 rfl (lv_at hl 2 rfl) ?_
    refine k_calli (va_runV (As := [.int a, .int b]) (rest := [.ref h, .ref h]) C.1 (kX9_faceOf l G B0 f h q i0 i1 i3 i7 i18 i22 i23 i27 j16 j17 a2 a4 a5 a6 b8 b9 b10 a11 a12 a13 a14 b15 b19 b20 b21 a24 a25 a26 a b F hM hF hF9) (cwV 2 C.ts gX9_canFlip_X9_faceOf rfl rfl rfl ⟨rfl, hdX9_canFlip_X9_faceOf⟩ ⟨Nat.le_of_ble_eq_true rfl, Nat.le_of_ble_eq_true rfl⟩) (k_preV C hX (hM.at 0 rfl) rfl) rfl rfl hl.1 rfl (lv_room (Nat.le_of_ble_eq_true rfl)) dX9_canFlip_14 ⟨Nat.le_of_ble_eq_true rfl, Nat.le_of_ble_eq_true rfl⟩) hX (fun r14 f14 H locs hp14 hX => ?_)
    obtain ⟨hr14, hf14⟩ := hp14
    rw [hf14] at hX
    refine k_topi (y := (mFaceOf a2 a b (3 * F))) hr14 ?_
    refine k_topi (y := (nI t1)) (e1) ?_
    refine lv_iload_n C.x C.b dX9_canFlip_17 rfl (lv_at hl 1 rfl) ?_
    refine lv_iload_n C.x C.b dX9_canFlip_18 rfl (lv_at hl 2 rfl) ?_
    refine k_calli (va_runV (As := [.int (nI t1), .int a, .int b]) (rest := [.ref h]) C.1 (kX9_third l G B0 f h q i0 i1 i3 i7 i18 i22 i23 i27 j16 j17 a2 a4 a5 a6 b8 b9 b10 a11 a12 a13 a14 b15 b19 b20 b21 a24 a25 a26 t1 a b hM (by omega)) (cwV 3 C.ts gX9_canFlip_X9_third rfl rfl rfl ⟨rfl, hdX9_canFlip_X9_third⟩ ⟨Nat.le_of_ble_eq_true rfl, Nat.le_of_ble_eq_true rfl⟩) (k_preV C hX (hM.at 0 rfl) rfl) rfl rfl hl.1 rfl (lv_room (Nat.le_of_ble_eq_true rfl)) dX9_canFlip_19 ⟨Nat.le_of_ble_eq_true rfl, Nat.le_of_ble_eq_true rfl⟩) hX (fun r19 f19 H locs hp19 hX => ?_)
    obtain ⟨hr19, hf19⟩ := hp19
    rw [hf19] at hX
    refine k_topi (y := (mThird a2 (3 * t1) a b 3)) hr19 ?_
    refine k_topi (y := (mOpp a2 F a b)) (mOpp_at e1 (by omega)) ?_
    refine lv_aload_n C.x C.b dX9_canFlip_22 rfl (lv_at hl 0 rfl) ?_
    refine lv_aload_n C.x C.b dX9_canFlip_23 rfl (lv_at hl 0 rfl) ?_
    refine lv_iload_n C.x C.b dX9_canFlip_24 rfl (lv_at hl 2 rfl) ?_
    refine lv_iload_n C.x C.b dX9_canFlip_25 rfl (lv_at hl 1 rfl) ?_
    refine k_calli (va_runV (As := [.int b, .int a]) (rest := [.ref h, .int (mOpp a2 F a b), .ref h]) C.1 (kX9_faceOf l G B0 f h q i0 i1 i3 i7 i18 i22 i23 i27 j16 j17 a2 a4 a5 a6 b8 b9 b10 a11 a12 a13 a14 b15 b19 b20 b21 a24 a25 a26 b a F hM hF hF9) (cwV 2 C.ts gX9_canFlip_X9_faceOf rfl rfl rfl ⟨rfl, hdX9_canFlip_X9_faceOf⟩ ⟨Nat.le_of_ble_eq_true rfl, Nat.le_of_ble_eq_true rfl⟩) (k_preV C hX (hM.at 0 rfl) rfl) rfl rfl hl.1 rfl (lv_room (Nat.le_of_ble_eq_true rfl)) dX9_canFlip_26 ⟨Nat.le_of_ble_eq_true rfl, Nat.le_of_ble_eq_true rfl⟩) hX (fun r26 f26 H locs hp26 hX => ?_)
    obtain ⟨hr26, hf26⟩ := hp26
    rw [hf26] at hX
    refine k_topi (y := (mFaceOf a2 b a (3 * F))) hr26 ?_
    refine k_topi (y := (nI t2)) (e2) ?_
    refine lv_iload_n C.x C.b dX9_canFlip_29 rfl (lv_at hl 1 rfl) ?_
    refine lv_iload_n C.x C.b dX9_canFlip_30 rfl (lv_at hl 2 rfl) ?_
    refine k_calli (va_runV (As := [.int (nI t2), .int a, .int b]) (rest := [.int (mOpp a2 F a b), .ref h]) C.1 (kX9_third l G B0 f h q i0 i1 i3 i7 i18 i22 i23 i27 j16 j17 a2 a4 a5 a6 b8 b9 b10 a11 a12 a13 a14 b15 b19 b20 b21 a24 a25 a26 t2 a b hM (by omega)) (cwV 3 C.ts gX9_canFlip_X9_third rfl rfl rfl ⟨rfl, hdX9_canFlip_X9_third⟩ ⟨Nat.le_of_ble_eq_true rfl, Nat.le_of_ble_eq_true rfl⟩) (k_preV C hX (hM.at 0 rfl) rfl) rfl rfl hl.1 rfl (lv_room (Nat.le_of_ble_eq_true rfl)) dX9_canFlip_31 ⟨Nat.le_of_ble_eq_true rfl, Nat.le_of_ble_eq_true rfl⟩) hX (fun r31 f31 H locs hp31 hX => ?_)
    obtain ⟨hr31, hf31⟩ := hp31
    rw [hf31] at hX
    refine k_topi (y := (mThird a2 (3 * t2) a b 3)) hr31 ?_
    refine k_topi (y := (mOpp a2 F b a)) (mOpp_at2 e2 (by omega)) ?_
    refine k_calli (va_runV (As := [.int (mOpp a2 F a b), .int (mOpp a2 F b a)]) (rest := []) C.1 (kX9_areNeighbours l G B0 f h q i0 i1 i3 i7 i18 i22 i23 i27 j16 j17 a2 a4 a5 a6 b8 b9 b10 a11 a12 a13 a14 b15 b19 b20 b21 a24 a25 a26 (mOpp a2 F a b) (mOpp a2 F b a) F hM hF hF9) (cwV 2 C.ts gX9_canFlip_X9_areNeighbours rfl rfl rfl ⟨rfl, hdX9_canFlip_X9_areNeighbours⟩ ⟨Nat.le_of_ble_eq_true rfl, Nat.le_of_ble_eq_true rfl⟩) (k_preV C hX (hM.at 0 rfl) rfl) rfl rfl hl.1 rfl (lv_room (Nat.le_of_ble_eq_true rfl)) dX9_canFlip_34 ⟨Nat.le_of_ble_eq_true rfl, Nat.le_of_ble_eq_true rfl⟩) hX (fun r34 f34 H locs hp34 hX => ?_)
    obtain ⟨hr34, hf34⟩ := hp34
    rw [hf34] at hX
    refine k_topi (y := (kbI (mAdj a2 F (mOpp a2 F a b) (mOpp a2 F b a)))) hr34 ?_
    refine lv_if_ne (tgt := 44) C.x C.b dX9_canFlip_37 (by decide) (fun c_37 => ?_) (fun c_37 => ?_)
    · skip
      have c_37 := kbI_1 c_37
      refine lv_iconst (v := nI 0) C.x C.b dX9_canFlip_44 (by decide) ?_
      exact k_zret C hX hr hlocks hQ (by omega) (by omega) (by first | exact kbI_01 _ | exact Or.inl rfl | exact Or.inr rfl) (by refine ⟨?_, rfl⟩; first | exact kbI_tN ⟨c_6, c_37⟩ | exact kbI_fN (fun h9 => c_6 h9.1) | exact kbI_fN (fun h9 => h9.2 c_37)) dX9_canFlip_45
    · skip
      have c_37 := kbI_0 c_37
      refine lv_iconst (v := nI 1) C.x C.b dX9_canFlip_40 (by decide) ?_
      refine lv_goto (tgt := 45) C.x C.b dX9_canFlip_41 (by decide) ?_
      exact k_zret C hX hr hlocks hQ (by omega) (by omega) (by first | exact kbI_01 _ | exact Or.inl rfl | exact Or.inr rfl) (by refine ⟨?_, rfl⟩; first | exact kbI_tN ⟨c_6, c_37⟩ | exact kbI_fN (fun h9 => c_6 h9.1) | exact kbI_fN (fun h9 => h9.2 c_37)) dX9_canFlip_45

theorem lk_X9_degree_f7 : Cond.fieldLink RX9 7 "KoebehallModel" "corners" "I" ∈ wsX9_degree := by decide +kernel
theorem hin_X9_degree_RX9 : ∀ w ∈ u_ws RX9 TX9 28, w ∈ wsX9_degree := by decide +kernel
theorem hdX9_degree_X9_areNeighbours : yX9_areNeighbours.cls ≠ "java/lang/invoke/MethodHandle" ∧ yX9_areNeighbours.cls ≠ "java/lang/invoke/VarHandle" ∧ (parseMethodDescriptor yX9_areNeighbours.desc).map (fun d => d.parameters.length) = some 2 := by decide +kernel
abbrev rmX9_degree : Room := { frames := 2, cells := 0, slots := 0, locals := 47 }
set_option maxHeartbeats 4000000 in
set_option maxRecDepth 100000 in
/-- X9_degree -/
theorem kX9_degree (l : Launch) (G : kG) (B0 : Nat) (f : kH) (h : Nat) (q : Nat → Nat) (i0 i1 i3 i7 i18 i22 i23 i27 : Int32) (j16 j17 : Int64) (a2 : Nat → Int32) (a4 : Nat → Int32) (a5 : Nat → Int32) (a6 : Nat → Int32) (b8 : Nat → Int64) (b9 : Nat → Int64) (b10 : Nat → Int64) (a11 : Nat → Int32) (a12 : Nat → Int32) (a13 : Nat → Int32) (a14 : Nat → Int32) (b15 : Nat → Int64) (b19 : Nat → Int64) (b20 : Nat → Int64) (b21 : Nat → Int64) (a24 : Nat → Int32) (a25 : Nat → Int32) (a26 : Nat → Int32) (a : Int32) (F cc : Nat) (hM : kCs f (mC G h q i0 i1 i3 i7 i18 i22 i23 i27 j16 j17 a2 a4 a5 a6 b8 b9 b10 a11 a12 a13 a14 b15 b19 b20 b21 a24 a25 a26)) (hF : i1 = nI F) (hF9 : F ≤ 28) (hc0 : i0 = nI cc) (hc9 : cc ≤ 16) : Met l yX9_degree wsX9_degree (rmX9_degree) (kP G B0 f [.ref h, .int a]) (kQi G B0 (fun r f1 => r = nI (mDeg a2 F a cc) ∧ f1 = f)) 0 0 (kAb B0) := by
  refine kMet (cc := cX9_degree) (maxL := 4) (ret := (some .int)) (by decide) rfl (Nat.le_of_ble_eq_true rfl) ?_
  intro p e s m args below meth c H locs Q ls C hX hl hr hlocks hnm hQ
  have hl : lv_has ls 4 [(0, .ref h), (1, .int a)] := hl
  refine lv_iconst (v := nI 0) C.x C.b dX9_degree_0 (by decide) ?_
  refine lv_istore_n (lv' := [(2, .int (nI 0)), (0, .ref h), (1, .int a)]) C.x C.b dX9_degree_1 rfl hl (by decide) rfl (fun ls hl => ?_)
  refine lv_iconst (v := nI 0) C.x C.b dX9_degree_2 (by decide) ?_
  refine lv_istore_n (lv' := [(3, .int (nI 0)), (2, .int (nI 0)), (0, .ref h), (1, .int a)]) C.x C.b dX9_degree_3 rfl hl (by decide) rfl (fun ls hl => ?_)
  have LOOP4 : ∀ (n : Nat) (k : Nat), (k ≤ cc) → (cc - k) < n → ∀ (ls : Array Slot), lv_has ls 4 [(2, .int (nI (mDeg a2 F a k))), (3, .int (nI k)), (0, .ref h), (1, .int a)] → ∀ (H : Heap) (locs : List Loc), kX G B0 s f H locs → W p l e (rmX9_degree) s m args below meth c H locs 0 0 Q (F0 m 4 ls []) := by
    intro n4
    induction n4 with
    | zero => intro k hk hn; exact absurd hn (Nat.not_lt_zero _)
    | succ n4 ih4 =>
      intro k hk hn ls hl H locs hX
      refine lv_iload_n C.x C.b dX9_degree_4 rfl (lv_at hl 1 rfl) ?_
      refine lv_aload_n C.x C.b dX9_degree_5 rfl (lv_at hl 2 rfl) ?_
      refine k_get (X := RX9) (T := TX9) (N := 28) (v := .int i0) C hX (hM.at 0 rfl) rfl hin_X9_degree_RX9 0 (by decide) lk_X9_degree_f7 (fun _ h9 => h9) rfl dX9_degree_6 ?_
      refine k_topi (y := (nI cc)) (hc0) ?_
      refine lv_icmp_ge (tgt := 35) C.x C.b dX9_degree_9 (by decide) (fun c_9 => ?_) (fun c_9 => ?_)
      · skip
        have c_9 : cc ≤ k := (nI_leI (by omega) (by omega)).mp c_9
        refine lv_iload_n C.x C.b dX9_degree_35 rfl (lv_at hl 0 rfl) ?_
        exact k_iret C hX hr hlocks hQ (by omega) (by omega) (⟨congrArg (fun z => nI (mDeg a2 F a z)) (by omega), rfl⟩) dX9_degree_36
      · skip
        have c_9 : ¬ (cc ≤ k) := fun h9 => c_9 ((nI_leI (by omega) (by omega)).mpr h9)
        refine lv_iload_n C.x C.b dX9_degree_12 rfl (lv_at hl 0 rfl) ?_
        refine lv_aload_n C.x C.b dX9_degree_13 rfl (lv_at hl 2 rfl) ?_
        refine lv_iload_n C.x C.b dX9_degree_14 rfl (lv_at hl 3 rfl) ?_
        refine lv_iload_n C.x C.b dX9_degree_15 rfl (lv_at hl 1 rfl) ?_
        refine k_calli (va_runV (As := [.int a, .int (nI k)]) (rest := [.int (nI (mDeg a2 F a k))]) C.1 (kX9_areNeighbours l G B0 f h q i0 i1 i3 i7 i18 i22 i23 i27 j16 j17 a2 a4 a5 a6 b8 b9 b10 a11 a12 a13 a14 b15 b19 b20 b21 a24 a25 a26 a (nI k) F hM hF hF9) (cwV 2 C.ts gX9_degree_X9_areNeighbours rfl rfl rfl ⟨rfl, hdX9_degree_X9_areNeighbours⟩ ⟨Nat.le_of_ble_eq_true rfl, Nat.le_of_ble_eq_true rfl⟩) (k_preV C hX (hM.at 0 rfl) rfl) rfl rfl hl.1 rfl (lv_room (Nat.le_of_ble_eq_true rfl)) dX9_degree_16 ⟨Nat.le_of_ble_eq_true rfl, Nat.le_of_ble_eq_true rfl⟩) hX (fun r16 f16 H locs hp16 hX => ?_)
        obtain ⟨hr16, hf16⟩ := hp16
        rw [hf16] at hX
        refine k_topi (y := (kbI (mAdj a2 F a (nI k)))) hr16 ?_
        have J27 : ∀ (ls : Array Slot), lv_has ls 4 [(2, .int (nI (mDeg a2 F a k))), (3, .int (nI k)), (0, .ref h), (1, .int a)] → ∀ (H : Heap) (locs : List Loc), kX G B0 s f H locs → W p l e (rmX9_degree) s m args below meth c H locs 0 0 Q (F0 m 27 ls [.int (nI (if mAdj a2 F a (nI k) then 1 else 0)), .int (nI (mDeg a2 F a k))]) := by
          intro ls hl H locs hX
          refine lv_iadd C.x C.b dX9_degree_27 ?_
          refine k_topi (y := nI ((mDeg a2 F a k) + (if mAdj a2 F a (nI k) then 1 else 0))) (nI_add _ _) ?_
          refine k_topi (y := (nI (mDeg a2 F a (k + 1)))) (by rfl) ?_
          refine lv_istore_n (lv' := [(2, .int (nI (mDeg a2 F a (k + 1)))), (3, .int (nI k)), (0, .ref h), (1, .int a)]) C.x C.b dX9_degree_28 rfl hl (by decide) rfl (fun ls hl => ?_)
          refine lv_iinc (v := (nI (k + 1))) (lv' := [(3, .int (nI (k + 1))), (2, .int (nI (mDeg a2 F a (k + 1)))), (0, .ref h), (1, .int a)]) C.x C.b dX9_degree_29 hl (k := 1) rfl (nI_1 _) (by decide) rfl (fun ls hl => ?_)
          refine lv_goto (tgt := 4) C.x C.b dX9_degree_32 (by decide) ?_
          exact ih4 (k + 1) (by omega) (by omega) ls (lv_sub hl [1, 0, 2, 3] rfl) _ _ hX
        refine lv_if_eq (tgt := 26) C.x C.b dX9_degree_19 (by decide) (fun c_19 => ?_) (fun c_19 => ?_)
        · skip
          have c_19 := kbI_0 c_19
          refine lv_iconst (v := nI 0) C.x C.b dX9_degree_26 (by decide) ?_
          refine k_topi (y := (nI (if mAdj a2 F a (nI k) then 1 else 0))) (by first | rw [if_pos c_19] | rw [if_neg c_19]) ?_
          exact J27 ls (lv_sub hl [0, 1, 2, 3] rfl) _ _ hX
        · skip
          have c_19 := kbI_1 c_19
          refine lv_iconst (v := nI 1) C.x C.b dX9_degree_22 (by decide) ?_
          refine lv_goto (tgt := 27) C.x C.b dX9_degree_23 (by decide) ?_
          refine k_topi (y := (nI (if mAdj a2 F a (nI k) then 1 else 0))) (by first | rw [if_pos c_19] | rw [if_neg c_19]) ?_
          exact J27 ls (lv_sub hl [0, 1, 2, 3] rfl) _ _ hX
  exact LOOP4 _ 0 (by omega) (Nat.lt_succ_self _) ls (lv_sub hl [1, 0, 2, 3] rfl) _ _ hX

theorem hdX9_split_X9_isFace : yX9_isFace.cls ≠ "java/lang/invoke/MethodHandle" ∧ yX9_isFace.cls ≠ "java/lang/invoke/VarHandle" ∧ (parseMethodDescriptor yX9_isFace.desc).map (fun d => d.parameters.length) = some 1 := by decide +kernel
theorem lk_X9_split_f80 : Cond.fieldLink RX9 80 "KoebehallModel" "thrown" "I" ∈ wsX9_split := by decide +kernel
theorem hin_X9_split_RX9 : ∀ w ∈ u_ws RX9 TX9 28, w ∈ wsX9_split := by decide +kernel
abbrev rmX9_split_b1 : Room := { frames := 2, cells := 0, slots := 0, locals := 46 }
set_option maxHeartbeats 4000000 in
set_option maxRecDepth 100000 in
/-- X9_split_b1 -/
theorem kX9_split_b1 (l : Launch) (G : kG) (B0 : Nat) (f : kH) (h : Nat) (q : Nat → Nat) (i0 i1 i3 i7 i18 i22 i23 i27 : Int32) (j16 j17 : Int64) (a2 : Nat → Int32) (a4 : Nat → Int32) (a5 : Nat → Int32) (a6 : Nat → Int32) (b8 : Nat → Int64) (b9 : Nat → Int64) (b10 : Nat → Int64) (a11 : Nat → Int32) (a12 : Nat → Int32) (a13 : Nat → Int32) (a14 : Nat → Int32) (b15 : Nat → Int64) (b19 : Nat → Int64) (b20 : Nat → Int64) (b21 : Nat → Int64) (a24 : Nat → Int32) (a25 : Nat → Int32) (a26 : Nat → Int32) (a : Int32) (F cc : Nat) (hM : kCs f (mC G h q i0 i1 i3 i7 i18 i22 i23 i27 j16 j17 a2 a4 a5 a6 b8 b9 b10 a11 a12 a13 a14 b15 b19 b20 b21 a24 a25 a26)) (hF : i1 = nI F) (hF9 : F ≤ 28) (hc0 : i0 = nI cc) (hc9 : cc ≤ 16) (hv : ¬ mIn a F) : Met l yX9_split wsX9_split (rmX9_split_b1) (kP G B0 f [.ref h, .int a]) (kQi G B0 (fun r f1 => r = nI 0 ∧ kCs f1 (mC G h q i0 i1 i3 i7 i18 i22 i23 (nI 1) j16 j17 a2 a4 a5 a6 b8 b9 b10 a11 a12 a13 a14 b15 b19 b20 b21 a24 a25 a26) ∧ kOff (mAs h q) f f1)) 0 0 (kAb B0) := by
  refine kMet (cc := cX9_split) (maxL := 5) (ret := (some .int)) (by decide) rfl (Nat.le_of_ble_eq_true rfl) ?_
  intro p e s m args below meth c H locs Q ls C hX hl hr hlocks hnm hQ
  have hO : kOff (mAs h q) f f := kOff.rf
  have hl : lv_has ls 5 [(0, .ref h), (1, .int a)] := hl
  refine lv_aload_n C.x C.b dX9_split_0 rfl (lv_at hl 0 rfl) ?_
  refine lv_aload_n C.x C.b dX9_split_1 rfl (lv_at hl 0 rfl) ?_
  refine lv_iload_n C.x C.b dX9_split_2 rfl (lv_at hl 1 rfl) ?_
  refine k_calli (va_runV (As := [.int a]) (rest := [.ref h]) C.1 (kX9_isFace l G B0 f h q i0 i1 i3 i7 i18 i22 i23 i27 j16 j17 a2 a4 a5 a6 b8 b9 b10 a11 a12 a13 a14 b15 b19 b20 b21 a24 a25 a26 a F hM hF (by omega)) (cwV 1 C.ts gX9_split_X9_isFace rfl rfl rfl ⟨rfl, hdX9_split_X9_isFace⟩ ⟨Nat.le_of_ble_eq_true rfl, Nat.le_of_ble_eq_true rfl⟩) (k_preV C hX (hM.at 0 rfl) rfl) rfl rfl hl.1 rfl (lv_room (Nat.le_of_ble_eq_true rfl)) dX9_split_3 ⟨Nat.le_of_ble_eq_true rfl, Nat.le_of_ble_eq_true rfl⟩) hX (fun r3 f3 H locs hp3 hX => ?_)
  obtain ⟨hr3, hf3⟩ := hp3
  rw [hf3] at hX
  refine k_topi (y := (kbI (mIn a F))) hr3 ?_
  refine lv_if_ne (tgt := 13) C.x C.b dX9_split_6 (by decide) (fun c_6 => ?_) (fun c_6 => ?_)
  · exact absurd (kbI_1 c_6) (hv)
  refine lv_iconst (v := nI 1) C.x C.b dX9_split_9 (by decide) ?_
  refine lv_goto (tgt := 27) C.x C.b dX9_split_10 (by decide) ?_
  refine k_put (X := RX9) (T := TX9) (N := 28) (ty := .int) (v := .int (nI 1)) C hX (hM.at 0 rfl) rfl hin_X9_split_RX9 tyX9_ok nmX9 27 (by decide) lk_X9_split_f80 (fun _ h9 => h9) rfl (by decide +kernel) rfl rfl (Nat.le_of_ble_eq_true rfl) dX9_split_27 (fun H locs hX => ?_)
  obtain ⟨g1, hX, hM, hO⟩ := kX.wr hX hM hO 0 rfl (List.mem_of_getElem? (i := 0) rfl)
  have hM : kCs g1 (mC G h q i0 i1 i3 i7 i18 i22 i23 (nI 1) j16 j17 a2 a4 a5 a6 b8 b9 b10 a11 a12 a13 a14 b15 b19 b20 b21 a24 a25 a26) := hM
  refine lv_aload_n C.x C.b dX9_split_30 rfl (lv_at hl 0 rfl) ?_
  refine k_get (X := RX9) (T := TX9) (N := 28) (v := .int (nI 1)) C hX (hM.at 0 rfl) rfl hin_X9_split_RX9 27 (by decide) lk_X9_split_f80 (fun _ h9 => h9) rfl dX9_split_31 ?_
  refine lv_if_le (tgt := 39) C.x C.b dX9_split_34 (by decide) (fun c_34 => ?_) (fun c_34 => ?_)
  · exact absurd c_34 (by decide)
  refine lv_iconst (v := nI 0) C.x C.b dX9_split_37 (by decide) ?_
  exact k_iret C hX hr hlocks hQ (by omega) (by omega) (⟨rfl, hM, hO⟩) dX9_split_38

theorem lk_X9_split_f7 : Cond.fieldLink RX9 7 "KoebehallModel" "corners" "I" ∈ wsX9_split := by decide +kernel
abbrev rmX9_split_b2 : Room := { frames := 2, cells := 0, slots := 0, locals := 46 }
set_option maxHeartbeats 4000000 in
set_option maxRecDepth 100000 in
/-- X9_split_b2 -/
theorem kX9_split_b2 (l : Launch) (G : kG) (B0 : Nat) (f : kH) (h : Nat) (q : Nat → Nat) (i0 i1 i3 i7 i18 i22 i23 i27 : Int32) (j16 j17 : Int64) (a2 : Nat → Int32) (a4 : Nat → Int32) (a5 : Nat → Int32) (a6 : Nat → Int32) (b8 : Nat → Int64) (b9 : Nat → Int64) (b10 : Nat → Int64) (a11 : Nat → Int32) (a12 : Nat → Int32) (a13 : Nat → Int32) (a14 : Nat → Int32) (b15 : Nat → Int64) (b19 : Nat → Int64) (b20 : Nat → Int64) (b21 : Nat → Int64) (a24 : Nat → Int32) (a25 : Nat → Int32) (a26 : Nat → Int32) (a : Int32) (F cc : Nat) (hM : kCs f (mC G h q i0 i1 i3 i7 i18 i22 i23 i27 j16 j17 a2 a4 a5 a6 b8 b9 b10 a11 a12 a13 a14 b15 b19 b20 b21 a24 a25 a26)) (hF : i1 = nI F) (hF9 : F ≤ 28) (hc0 : i0 = nI cc) (hc9 : cc ≤ 16) (hv : mIn a F) (h16 : cc = 16) : Met l yX9_split wsX9_split (rmX9_split_b2) (kP G B0 f [.ref h, .int a]) (kQi G B0 (fun r f1 => r = nI 0 ∧ kCs f1 (mC G h q i0 i1 i3 i7 i18 i22 i23 (nI 2) j16 j17 a2 a4 a5 a6 b8 b9 b10 a11 a12 a13 a14 b15 b19 b20 b21 a24 a25 a26) ∧ kOff (mAs h q) f f1)) 0 0 (kAb B0) := by
  refine kMet (cc := cX9_split) (maxL := 5) (ret := (some .int)) (by decide) rfl (Nat.le_of_ble_eq_true rfl) ?_
  intro p e s m args below meth c H locs Q ls C hX hl hr hlocks hnm hQ
  have hO : kOff (mAs h q) f f := kOff.rf
  have hl : lv_has ls 5 [(0, .ref h), (1, .int a)] := hl
  refine lv_aload_n C.x C.b dX9_split_0 rfl (lv_at hl 0 rfl) ?_
  refine lv_aload_n C.x C.b dX9_split_1 rfl (lv_at hl 0 rfl) ?_
  refine lv_iload_n C.x C.b dX9_split_2 rfl (lv_at hl 1 rfl) ?_
  refine k_calli (va_runV (As := [.int a]) (rest := [.ref h]) C.1 (kX9_isFace l G B0 f h q i0 i1 i3 i7 i18 i22 i23 i27 j16 j17 a2 a4 a5 a6 b8 b9 b10 a11 a12 a13 a14 b15 b19 b20 b21 a24 a25 a26 a F hM hF (by omega)) (cwV 1 C.ts gX9_split_X9_isFace rfl rfl rfl ⟨rfl, hdX9_split_X9_isFace⟩ ⟨Nat.le_of_ble_eq_true rfl, Nat.le_of_ble_eq_true rfl⟩) (k_preV C hX (hM.at 0 rfl) rfl) rfl rfl hl.1 rfl (lv_room (Nat.le_of_ble_eq_true rfl)) dX9_split_3 ⟨Nat.le_of_ble_eq_true rfl, Nat.le_of_ble_eq_true rfl⟩) hX (fun r3 f3 H locs hp3 hX => ?_)
  obtain ⟨hr3, hf3⟩ := hp3
  rw [hf3] at hX
  refine k_topi (y := (kbI (mIn a F))) hr3 ?_
  refine lv_if_ne (tgt := 13) C.x C.b dX9_split_6 (by decide) (fun c_6 => ?_) (fun c_6 => ?_)
  rotate_left
  · exact absurd (hv) (kbI_0 c_6)
  refine lv_aload_n C.x C.b dX9_split_13 rfl (lv_at hl 0 rfl) ?_
  refine k_get (X := RX9) (T := TX9) (N := 28) (v := .int i0) C hX (hM.at 0 rfl) rfl hin_X9_split_RX9 0 (by decide) lk_X9_split_f7 (fun _ h9 => h9) rfl dX9_split_14 ?_
  refine k_topi (y := (nI cc)) (hc0) ?_
  refine lv_bipush (v := nI 16) C.x C.b dX9_split_17 (by decide) ?_
  refine lv_icmp_ne (tgt := 26) C.x C.b dX9_split_19 (by decide) (fun c_19 => ?_) (fun c_19 => ?_)
  · skip
    have c_19 : ¬ (cc = 16) := fun h9 => c_19 ((nI_eq (by omega) (by omega)).mpr h9)
    omega
  have c_19 : cc = 16 := (nI_eq (by omega) (by omega)).mp c_19
  refine lv_iconst (v := nI 2) C.x C.b dX9_split_22 (by decide) ?_
  refine lv_goto (tgt := 27) C.x C.b dX9_split_23 (by decide) ?_
  refine k_put (X := RX9) (T := TX9) (N := 28) (ty := .int) (v := .int (nI 2)) C hX (hM.at 0 rfl) rfl hin_X9_split_RX9 tyX9_ok nmX9 27 (by decide) lk_X9_split_f80 (fun _ h9 => h9) rfl (by decide +kernel) rfl rfl (Nat.le_of_ble_eq_true rfl) dX9_split_27 (fun H locs hX => ?_)
  obtain ⟨g1, hX, hM, hO⟩ := kX.wr hX hM hO 0 rfl (List.mem_of_getElem? (i := 0) rfl)
  have hM : kCs g1 (mC G h q i0 i1 i3 i7 i18 i22 i23 (nI 2) j16 j17 a2 a4 a5 a6 b8 b9 b10 a11 a12 a13 a14 b15 b19 b20 b21 a24 a25 a26) := hM
  refine lv_aload_n C.x C.b dX9_split_30 rfl (lv_at hl 0 rfl) ?_
  refine k_get (X := RX9) (T := TX9) (N := 28) (v := .int (nI 2)) C hX (hM.at 0 rfl) rfl hin_X9_split_RX9 27 (by decide) lk_X9_split_f80 (fun _ h9 => h9) rfl dX9_split_31 ?_
  refine lv_if_le (tgt := 39) C.x C.b dX9_split_34 (by decide) (fun c_34 => ?_) (fun c_34 => ?_)
  · exact absurd c_34 (by decide)
  refine lv_iconst (v := nI 0) C.x C.b dX9_split_37 (by decide) ?_
  exact k_iret C hX hr hlocks hQ (by omega) (by omega) (⟨rfl, hM, hO⟩) dX9_split_38

theorem lk_X9_split_f16 : Cond.fieldLink RX9 16 "KoebehallModel" "face" "[I" ∈ wsX9_split := by decide +kernel
theorem hdX9_split_X9_puts : yX9_puts.cls ≠ "java/lang/invoke/MethodHandle" ∧ yX9_puts.cls ≠ "java/lang/invoke/VarHandle" ∧ (parseMethodDescriptor yX9_puts.desc).map (fun d => d.parameters.length) = some 4 := by decide +kernel
theorem lk_X9_split_f13 : Cond.fieldLink RX9 13 "KoebehallModel" "faces" "I" ∈ wsX9_split := by decide +kernel
abbrev rmX9_split : Room := { frames := 2, cells := 0, slots := 0, locals := 46 }
set_option maxHeartbeats 4000000 in
set_option maxRecDepth 100000 in
/-- X9_split -/
theorem kX9_split (l : Launch) (G : kG) (B0 : Nat) (f : kH) (h : Nat) (q : Nat → Nat) (i0 i1 i3 i7 i18 i22 i23 i27 : Int32) (j16 j17 : Int64) (a2 : Nat → Int32) (a4 : Nat → Int32) (a5 : Nat → Int32) (a6 : Nat → Int32) (b8 : Nat → Int64) (b9 : Nat → Int64) (b10 : Nat → Int64) (a11 : Nat → Int32) (a12 : Nat → Int32) (a13 : Nat → Int32) (a14 : Nat → Int32) (b15 : Nat → Int64) (b19 : Nat → Int64) (b20 : Nat → Int64) (b21 : Nat → Int64) (a24 : Nat → Int32) (a25 : Nat → Int32) (a26 : Nat → Int32) (t F cc : Nat) (hM : kCs f (mC G h q i0 i1 i3 i7 i18 i22 i23 i27 j16 j17 a2 a4 a5 a6 b8 b9 b10 a11 a12 a13 a14 b15 b19 b20 b21 a24 a25 a26)) (hF : i1 = nI F) (hF9 : F ≤ 28) (hc0 : i0 = nI cc) (hc9 : cc ≤ 16) (ht : t < F) (h16 : cc < 16) (hF2 : F ≤ 26) : Met l yX9_split wsX9_split (rmX9_split) (kP G B0 f [.ref h, .int (nI t)]) (kQi G B0 (fun r f1 => r = nI cc ∧ kCs f1 (mC G h q (nI (cc + 1)) (nI (F + 2)) i3 i7 i18 i22 i23 (nI 0) j16 j17 (mPut (mPut (mPut a2 t (a2 (3 * t)) (a2 (3 * t + 1)) (nI cc)) F (a2 (3 * t + 1)) (a2 (3 * t + 2)) (nI cc)) (F + 1) (a2 (3 * t + 2)) (a2 (3 * t)) (nI cc)) a4 a5 a6 b8 b9 b10 a11 a12 a13 a14 b15 b19 b20 b21 a24 a25 a26) ∧ kOff (mAs h q) f f1)) 0 0 (kAb B0) := by
  refine kMet (cc := cX9_split) (maxL := 5) (ret := (some .int)) (by decide) rfl (Nat.le_of_ble_eq_true rfl) ?_
  intro p e s m args below meth c H locs Q ls C hX hl hr hlocks hnm hQ
  have hO : kOff (mAs h q) f f := kOff.rf
  have hl : lv_has ls 5 [(0, .ref h), (1, .int (nI t))] := hl
  refine lv_aload_n C.x C.b dX9_split_0 rfl (lv_at hl 0 rfl) ?_
  refine lv_aload_n C.x C.b dX9_split_1 rfl (lv_at hl 0 rfl) ?_
  refine lv_iload_n C.x C.b dX9_split_2 rfl (lv_at hl 1 rfl) ?_
  refine k_calli (va_runV (As := [.int (nI t)]) (rest := [.ref h]) C.1 (kX9_isFace l G B0 f h q i0 i1 i3 i7 i18 i22 i23 i27 j16 j17 a2 a4 a5 a6 b8 b9 b10 a11 a12 a13 a14 b15 b19 b20 b21 a24 a25 a26 (nI t) F hM hF (by omega)) (cwV 1 C.ts gX9_split_X9_isFace rfl rfl rfl ⟨rfl, hdX9_split_X9_isFace⟩ ⟨Nat.le_of_ble_eq_true rfl, Nat.le_of_ble_eq_true rfl⟩) (k_preV C hX (hM.at 0 rfl) rfl) rfl rfl hl.1 rfl (lv_room (Nat.le_of_ble_eq_true rfl)) dX9_split_3 ⟨Nat.le_of_ble_eq_true rfl, Nat.le_of_ble_eq_true rfl⟩) hX (fun r3 f3 H locs hp3 hX => ?_)
  obtain ⟨hr3, hf3⟩ := hp3
  rw [hf3] at hX
  refine k_topi (y := (kbI (mIn (nI t) F))) hr3 ?_
  refine lv_if_ne (tgt := 13) C.x C.b dX9_split_6 (by decide) (fun c_6 => ?_) (fun c_6 => ?_)
  rotate_left
  · exact absurd ((mIn_nI (by omega)).mpr ht) (kbI_0 c_6)
  refine lv_aload_n C.x C.b dX9_split_13 rfl (lv_at hl 0 rfl) ?_
  refine k_get (X := RX9) (T := TX9) (N := 28) (v := .int i0) C hX (hM.at 0 rfl) rfl hin_X9_split_RX9 0 (by decide) lk_X9_split_f7 (fun _ h9 => h9) rfl dX9_split_14 ?_
  refine k_topi (y := (nI cc)) (hc0) ?_
  refine lv_bipush (v := nI 16) C.x C.b dX9_split_17 (by decide) ?_
  refine lv_icmp_ne (tgt := 26) C.x C.b dX9_split_19 (by decide) (fun c_19 => ?_) (fun c_19 => ?_)
  rotate_left
  · skip
    have c_19 : cc = 16 := (nI_eq (by omega) (by omega)).mp c_19
    omega
  have c_19 : ¬ (cc = 16) := fun h9 => c_19 ((nI_eq (by omega) (by omega)).mpr h9)
  refine lv_iconst (v := nI 0) C.x C.b dX9_split_26 (by decide) ?_
  refine k_put (X := RX9) (T := TX9) (N := 28) (ty := .int) (v := .int (nI 0)) C hX (hM.at 0 rfl) rfl hin_X9_split_RX9 tyX9_ok nmX9 27 (by decide) lk_X9_split_f80 (fun _ h9 => h9) rfl (by decide +kernel) rfl rfl (Nat.le_of_ble_eq_true rfl) dX9_split_27 (fun H locs hX => ?_)
  obtain ⟨g1, hX, hM, hO⟩ := kX.wr hX hM hO 0 rfl (List.mem_of_getElem? (i := 0) rfl)
  have hM : kCs g1 (mC G h q i0 i1 i3 i7 i18 i22 i23 (nI 0) j16 j17 a2 a4 a5 a6 b8 b9 b10 a11 a12 a13 a14 b15 b19 b20 b21 a24 a25 a26) := hM
  refine lv_aload_n C.x C.b dX9_split_30 rfl (lv_at hl 0 rfl) ?_
  refine k_get (X := RX9) (T := TX9) (N := 28) (v := .int (nI 0)) C hX (hM.at 0 rfl) rfl hin_X9_split_RX9 27 (by decide) lk_X9_split_f80 (fun _ h9 => h9) rfl dX9_split_31 ?_
  refine lv_if_le (tgt := 39) C.x C.b dX9_split_34 (by decide) (fun c_34 => ?_) (fun c_34 => ?_)
  rotate_left
  · exact absurd c_34 (by decide)
  refine lv_aload_n C.x C.b dX9_split_39 rfl (lv_at hl 0 rfl) ?_
  refine k_get (X := RX9) (T := TX9) (N := 28) (v := .ref (q 2)) C hX (hM.at 0 rfl) rfl hin_X9_split_RX9 2 (by decide) lk_X9_split_f16 (fun _ h9 => h9) rfl dX9_split_40 ?_
  refine lv_iconst (v := nI 3) C.x C.b dX9_split_43 (by decide) ?_
  refine lv_iload_n C.x C.b dX9_split_44 rfl (lv_at hl 1 rfl) ?_
  refine lv_imul C.x C.b dX9_split_45 ?_
  refine k_topi (y := nI (3 * t)) (pk_mul _ _) ?_
  refine k_iald C hX (hM.at 1 rfl) (vp_in_nI (by omega) (by omega)) dX9_split_46 ?_
  refine k_topi (y := a2 (3 * t)) (by rw [nI_clamp (by omega)]) ?_
  refine lv_istore_n (lv' := [(2, .int (a2 (3 * t))), (0, .ref h), (1, .int (nI t))]) C.x C.b dX9_split_47 rfl hl (by decide) rfl (fun ls hl => ?_)
  refine lv_aload_n C.x C.b dX9_split_48 rfl (lv_at hl 1 rfl) ?_
  refine k_get (X := RX9) (T := TX9) (N := 28) (v := .ref (q 2)) C hX (hM.at 0 rfl) rfl hin_X9_split_RX9 2 (by decide) lk_X9_split_f16 (fun _ h9 => h9) rfl dX9_split_49 ?_
  refine lv_iconst (v := nI 3) C.x C.b dX9_split_52 (by decide) ?_
  refine lv_iload_n C.x C.b dX9_split_53 rfl (lv_at hl 2 rfl) ?_
  refine lv_imul C.x C.b dX9_split_54 ?_
  refine k_topi (y := nI (3 * t)) (pk_mul _ _) ?_
  refine lv_iconst (v := nI 1) C.x C.b dX9_split_55 (by decide) ?_
  refine lv_iadd C.x C.b dX9_split_56 ?_
  refine k_topi (y := nI ((3 * t) + 1)) (nI_add _ _) ?_
  refine k_iald C hX (hM.at 1 rfl) (vp_in_nI (by omega) (by omega)) dX9_split_57 ?_
  refine k_topi (y := a2 ((3 * t) + 1)) (by rw [nI_clamp (by omega)]) ?_
  refine lv_istore_n (lv' := [(3, .int (a2 ((3 * t) + 1))), (2, .int (a2 (3 * t))), (0, .ref h), (1, .int (nI t))]) C.x C.b dX9_split_58 rfl hl (by decide) rfl (fun ls hl => ?_)
  refine lv_aload_n C.x C.b dX9_split_59 rfl (lv_at hl 2 rfl) ?_
  refine k_get (X := RX9) (T := TX9) (N := 28) (v := .ref (q 2)) C hX (hM.at 0 rfl) rfl hin_X9_split_RX9 2 (by decide) lk_X9_split_f16 (fun _ h9 => h9) rfl dX9_split_60 ?_
  refine lv_iconst (v := nI 3) C.x C.b dX9_split_63 (by decide) ?_
  refine lv_iload_n C.x C.b dX9_split_64 rfl (lv_at hl 3 rfl) ?_
  refine lv_imul C.x C.b dX9_split_65 ?_
  refine k_topi (y := nI (3 * t)) (pk_mul _ _) ?_
  refine lv_iconst (v := nI 2) C.x C.b dX9_split_66 (by decide) ?_
  refine lv_iadd C.x C.b dX9_split_67 ?_
  refine k_topi (y := nI ((3 * t) + 2)) (nI_add _ _) ?_
  refine k_iald C hX (hM.at 1 rfl) (vp_in_nI (by omega) (by omega)) dX9_split_68 ?_
  refine k_topi (y := a2 ((3 * t) + 2)) (by rw [nI_clamp (by omega)]) ?_
  refine lv_istore (lv' := [(4, .int (a2 ((3 * t) + 2))), (3, .int (a2 ((3 * t) + 1))), (2, .int (a2 (3 * t))), (0, .ref h), (1, .int (nI t))]) C.x C.b dX9_split_69 hl (by decide) rfl (fun ls hl => ?_)
  refine lv_aload_n C.x C.b dX9_split_71 rfl (lv_at hl 3 rfl) ?_
  refine lv_iload_n C.x C.b dX9_split_72 rfl (lv_at hl 4 rfl) ?_
  refine lv_iload_n C.x C.b dX9_split_73 rfl (lv_at hl 2 rfl) ?_
  refine lv_iload_n C.x C.b dX9_split_74 rfl (lv_at hl 1 rfl) ?_
  refine lv_aload_n C.x C.b dX9_split_75 rfl (lv_at hl 3 rfl) ?_
  refine k_get (X := RX9) (T := TX9) (N := 28) (v := .int i0) C hX (hM.at 0 rfl) rfl hin_X9_split_RX9 0 (by decide) lk_X9_split_f7 (fun _ h9 => h9) rfl dX9_split_76 ?_
  refine k_topi (y := (nI cc)) (hc0) ?_
  refine k_callv (va_runV (As := [.int (nI t), .int (a2 (3 * t)), .int (a2 ((3 * t) + 1)), .int (nI cc)]) (rest := []) C.1 (kX9_puts l G B0 g1 h q i0 i1 i3 i7 i18 i22 i23 (nI 0) j16 j17 a2 a4 a5 a6 b8 b9 b10 a11 a12 a13 a14 b15 b19 b20 b21 a24 a25 a26 t (a2 (3 * t)) (a2 (3 * t + 1)) (nI cc) hM (by omega)) (cwV 4 C.ts gX9_split_X9_puts rfl rfl rfl ⟨rfl, hdX9_split_X9_puts⟩ ⟨Nat.le_of_ble_eq_true rfl, Nat.le_of_ble_eq_true rfl⟩) (k_preV C hX (hM.at 0 rfl) rfl) rfl rfl hl.1 rfl (lv_room (Nat.le_of_ble_eq_true rfl)) dX9_split_79 ⟨Nat.le_of_ble_eq_true rfl, Nat.le_of_ble_eq_true rfl⟩) hX (fun f79 H locs hp79 hX => ?_)
  obtain ⟨hM, hO79⟩ := hp79
  have hO := hO.trans hO79
  have hM : kCs f79 (mC G h q i0 i1 i3 i7 i18 i22 i23 (nI 0) j16 j17 (mPut a2 t (a2 (3 * t)) (a2 (3 * t + 1)) (nI cc)) a4 a5 a6 b8 b9 b10 a11 a12 a13 a14 b15 b19 b20 b21 a24 a25 a26) := hM
  refine lv_aload_n C.x C.b dX9_split_82 rfl (lv_at hl 3 rfl) ?_
  refine lv_aload_n C.x C.b dX9_split_83 rfl (lv_at hl 3 rfl) ?_
  refine k_get (X := RX9) (T := TX9) (N := 28) (v := .int i1) C hX (hM.at 0 rfl) rfl hin_X9_split_RX9 1 (by decide) lk_X9_split_f13 (fun _ h9 => h9) rfl dX9_split_84 ?_
  refine k_topi (y := (nI F)) (hF) ?_
  refine lv_iload_n C.x C.b dX9_split_87 rfl (lv_at hl 1 rfl) ?_
  refine lv_iload C.x C.b dX9_split_88 (lv_at hl 0 rfl) ?_
  refine lv_aload_n C.x C.b dX9_split_90 rfl (lv_at hl 3 rfl) ?_
  refine k_get (X := RX9) (T := TX9) (N := 28) (v := .int i0) C hX (hM.at 0 rfl) rfl hin_X9_split_RX9 0 (by decide) lk_X9_split_f7 (fun _ h9 => h9) rfl dX9_split_91 ?_
  refine k_topi (y := (nI cc)) (hc0) ?_
  refine k_callv (va_runV (As := [.int (nI F), .int (a2 ((3 * t) + 1)), .int (a2 ((3 * t) + 2)), .int (nI cc)]) (rest := []) C.1 (kX9_puts l G B0 f79 h q i0 i1 i3 i7 i18 i22 i23 (nI 0) j16 j17 (mPut a2 t (a2 (3 * t)) (a2 (3 * t + 1)) (nI cc)) a4 a5 a6 b8 b9 b10 a11 a12 a13 a14 b15 b19 b20 b21 a24 a25 a26 F (a2 (3 * t + 1)) (a2 (3 * t + 2)) (nI cc) hM (by omega)) (cwV 4 C.ts gX9_split_X9_puts rfl rfl rfl ⟨rfl, hdX9_split_X9_puts⟩ ⟨Nat.le_of_ble_eq_true rfl, Nat.le_of_ble_eq_true rfl⟩) (k_preV C hX (hM.at 0 rfl) rfl) rfl rfl hl.1 rfl (lv_room (Nat.le_of_ble_eq_true rfl)) dX9_split_94 ⟨Nat.le_of_ble_eq_true rfl, Nat.le_of_ble_eq_true rfl⟩) hX (fun f94 H locs hp94 hX => ?_)
  obtain ⟨hM, hO94⟩ := hp94
  have hO := hO.trans hO94
  have hM : kCs f94 (mC G h q i0 i1 i3 i7 i18 i22 i23 (nI 0) j16 j17 (mPut (mPut a2 t (a2 (3 * t)) (a2 (3 * t + 1)) (nI cc)) F (a2 (3 * t + 1)) (a2 (3 * t + 2)) (nI cc)) a4 a5 a6 b8 b9 b10 a11 a12 a13 a14 b15 b19 b20 b21 a24 a25 a26) := hM
  refine lv_aload_n C.x C.b dX9_split_97 rfl (lv_at hl 3 rfl) ?_
  refine lv_aload_n C.x C.b dX9_split_98 rfl (lv_at hl 3 rfl) ?_
  refine k_get (X := RX9) (T := TX9) (N := 28) (v := .int i1) C hX (hM.at 0 rfl) rfl hin_X9_split_RX9 1 (by decide) lk_X9_split_f13 (fun _ h9 => h9) rfl dX9_split_99 ?_
  refine k_topi (y := (nI F)) (hF) ?_
  refine lv_iconst (v := nI 1) C.x C.b dX9_split_102 (by decide) ?_
  refine lv_iadd C.x C.b dX9_split_103 ?_
  refine k_topi (y := nI (F + 1)) (nI_add _ _) ?_
  refine lv_iload C.x C.b dX9_split_104 (lv_at hl 0 rfl) ?_
  refine lv_iload_n C.x C.b dX9_split_106 rfl (lv_at hl 2 rfl) ?_
  refine lv_aload_n C.x C.b dX9_split_107 rfl (lv_at hl 3 rfl) ?_
  refine k_get (X := RX9) (T := TX9) (N := 28) (v := .int i0) C hX (hM.at 0 rfl) rfl hin_X9_split_RX9 0 (by decide) lk_X9_split_f7 (fun _ h9 => h9) rfl dX9_split_108 ?_
  refine k_topi (y := (nI cc)) (hc0) ?_
  refine k_callv (va_runV (As := [.int (nI (F + 1)), .int (a2 ((3 * t) + 2)), .int (a2 (3 * t)), .int (nI cc)]) (rest := []) C.1 (kX9_puts l G B0 f94 h q i0 i1 i3 i7 i18 i22 i23 (nI 0) j16 j17 (mPut (mPut a2 t (a2 (3 * t)) (a2 (3 * t + 1)) (nI cc)) F (a2 (3 * t + 1)) (a2 (3 * t + 2)) (nI cc)) a4 a5 a6 b8 b9 b10 a11 a12 a13 a14 b15 b19 b20 b21 a24 a25 a26 (F + 1) (a2 (3 * t + 2)) (a2 (3 * t)) (nI cc) hM (by omega)) (cwV 4 C.ts gX9_split_X9_puts rfl rfl rfl ⟨rfl, hdX9_split_X9_puts⟩ ⟨Nat.le_of_ble_eq_true rfl, Nat.le_of_ble_eq_true rfl⟩) (k_preV C hX (hM.at 0 rfl) rfl) rfl rfl hl.1 rfl (lv_room (Nat.le_of_ble_eq_true rfl)) dX9_split_111 ⟨Nat.le_of_ble_eq_true rfl, Nat.le_of_ble_eq_true rfl⟩) hX (fun f111 H locs hp111 hX => ?_)
  obtain ⟨hM, hO111⟩ := hp111
  have hO := hO.trans hO111
  have hM : kCs f111 (mC G h q i0 i1 i3 i7 i18 i22 i23 (nI 0) j16 j17 (mPut (mPut (mPut a2 t (a2 (3 * t)) (a2 (3 * t + 1)) (nI cc)) F (a2 (3 * t + 1)) (a2 (3 * t + 2)) (nI cc)) (F + 1) (a2 (3 * t + 2)) (a2 (3 * t)) (nI cc)) a4 a5 a6 b8 b9 b10 a11 a12 a13 a14 b15 b19 b20 b21 a24 a25 a26) := hM
  refine lv_aload_n C.x C.b dX9_split_114 rfl (lv_at hl 3 rfl) ?_
  refine lv_dup C.x C.b dX9_split_115 rfl ?_
  refine k_get (X := RX9) (T := TX9) (N := 28) (v := .int i1) C hX (hM.at 0 rfl) rfl hin_X9_split_RX9 1 (by decide) lk_X9_split_f13 (fun _ h9 => h9) rfl dX9_split_116 ?_
  refine k_topi (y := (nI F)) (hF) ?_
  refine lv_iconst (v := nI 2) C.x C.b dX9_split_119 (by decide) ?_
  refine lv_iadd C.x C.b dX9_split_120 ?_
  refine k_topi (y := nI (F + 2)) (nI_add _ _) ?_
  refine k_put (X := RX9) (T := TX9) (N := 28) (ty := .int) (v := .int (nI (F + 2))) C hX (hM.at 0 rfl) rfl hin_X9_split_RX9 tyX9_ok nmX9 1 (by decide) lk_X9_split_f13 (fun _ h9 => h9) rfl (by decide +kernel) rfl rfl (Nat.le_of_ble_eq_true rfl) dX9_split_121 (fun H locs hX => ?_)
  obtain ⟨g2, hX, hM, hO⟩ := kX.wr hX hM hO 0 rfl (List.mem_of_getElem? (i := 0) rfl)
  have hM : kCs g2 (mC G h q i0 (nI (F + 2)) i3 i7 i18 i22 i23 (nI 0) j16 j17 (mPut (mPut (mPut a2 t (a2 (3 * t)) (a2 (3 * t + 1)) (nI cc)) F (a2 (3 * t + 1)) (a2 (3 * t + 2)) (nI cc)) (F + 1) (a2 (3 * t + 2)) (a2 (3 * t)) (nI cc)) a4 a5 a6 b8 b9 b10 a11 a12 a13 a14 b15 b19 b20 b21 a24 a25 a26) := hM
  refine lv_aload_n C.x C.b dX9_split_124 rfl (lv_at hl 3 rfl) ?_
  refine lv_dup C.x C.b dX9_split_125 rfl ?_
  refine k_get (X := RX9) (T := TX9) (N := 28) (v := .int i0) C hX (hM.at 0 rfl) rfl hin_X9_split_RX9 0 (by decide) lk_X9_split_f7 (fun _ h9 => h9) rfl dX9_split_126 ?_
  refine k_topi (y := (nI cc)) (hc0) ?_
  refine lv_iconst (v := nI 1) C.x C.b dX9_split_129 (by decide) ?_
  refine lv_iadd C.x C.b dX9_split_130 ?_
  refine k_topi (y := nI (cc + 1)) (nI_add _ _) ?_
  refine k_put (X := RX9) (T := TX9) (N := 28) (ty := .int) (v := .int (nI (cc + 1))) C hX (hM.at 0 rfl) rfl hin_X9_split_RX9 tyX9_ok nmX9 0 (by decide) lk_X9_split_f7 (fun _ h9 => h9) rfl (by decide +kernel) rfl rfl (Nat.le_of_ble_eq_true rfl) dX9_split_131 (fun H locs hX => ?_)
  obtain ⟨g3, hX, hM, hO⟩ := kX.wr hX hM hO 0 rfl (List.mem_of_getElem? (i := 0) rfl)
  have hM : kCs g3 (mC G h q (nI (cc + 1)) (nI (F + 2)) i3 i7 i18 i22 i23 (nI 0) j16 j17 (mPut (mPut (mPut a2 t (a2 (3 * t)) (a2 (3 * t + 1)) (nI cc)) F (a2 (3 * t + 1)) (a2 (3 * t + 2)) (nI cc)) (F + 1) (a2 (3 * t + 2)) (a2 (3 * t)) (nI cc)) a4 a5 a6 b8 b9 b10 a11 a12 a13 a14 b15 b19 b20 b21 a24 a25 a26) := hM
  refine lv_aload_n C.x C.b dX9_split_134 rfl (lv_at hl 3 rfl) ?_
  refine k_get (X := RX9) (T := TX9) (N := 28) (v := .int (nI (cc + 1))) C hX (hM.at 0 rfl) rfl hin_X9_split_RX9 0 (by decide) lk_X9_split_f7 (fun _ h9 => h9) rfl dX9_split_135 ?_
  refine lv_iconst (v := nI 1) C.x C.b dX9_split_138 (by decide) ?_
  refine lv_isub C.x C.b dX9_split_139 ?_
  refine k_topi (y := (nI cc)) (pk_sub (by omega)) ?_
  exact k_iret C hX hr hlocks hQ (by omega) (by omega) (⟨rfl, hM, hO⟩) dX9_split_140

theorem hdX9_flip_X9_isCorner : yX9_isCorner.cls ≠ "java/lang/invoke/MethodHandle" ∧ yX9_isCorner.cls ≠ "java/lang/invoke/VarHandle" ∧ (parseMethodDescriptor yX9_isCorner.desc).map (fun d => d.parameters.length) = some 1 := by decide +kernel
theorem lk_X9_flip_f80 : Cond.fieldLink RX9 80 "KoebehallModel" "thrown" "I" ∈ wsX9_flip := by decide +kernel
theorem hin_X9_flip_RX9 : ∀ w ∈ u_ws RX9 TX9 28, w ∈ wsX9_flip := by decide +kernel
abbrev rmX9_flip_b1 : Room := { frames := 2, cells := 0, slots := 0, locals := 46 }
set_option maxHeartbeats 4000000 in
set_option maxRecDepth 100000 in
/-- X9_flip_b1 -/
theorem kX9_flip_b1 (l : Launch) (G : kG) (B0 : Nat) (f : kH) (h : Nat) (q : Nat → Nat) (i0 i1 i3 i7 i18 i22 i23 i27 : Int32) (j16 j17 : Int64) (a2 : Nat → Int32) (a4 : Nat → Int32) (a5 : Nat → Int32) (a6 : Nat → Int32) (b8 : Nat → Int64) (b9 : Nat → Int64) (b10 : Nat → Int64) (a11 : Nat → Int32) (a12 : Nat → Int32) (a13 : Nat → Int32) (a14 : Nat → Int32) (b15 : Nat → Int64) (b19 : Nat → Int64) (b20 : Nat → Int64) (b21 : Nat → Int64) (a24 : Nat → Int32) (a25 : Nat → Int32) (a26 : Nat → Int32) (a b : Int32) (F cc : Nat) (hM : kCs f (mC G h q i0 i1 i3 i7 i18 i22 i23 i27 j16 j17 a2 a4 a5 a6 b8 b9 b10 a11 a12 a13 a14 b15 b19 b20 b21 a24 a25 a26)) (hF : i1 = nI F) (hF9 : F ≤ 28) (hc0 : i0 = nI cc) (hc9 : cc ≤ 16) (hv : ¬ (mIn a cc ∧ mIn b cc)) : Met l yX9_flip wsX9_flip (rmX9_flip_b1) (kP G B0 f [.ref h, .int a, .int b]) (kQi G B0 (fun r f1 => r = nI 0 ∧ kCs f1 (mC G h q i0 i1 i3 i7 i18 i22 i23 (nI 1) j16 j17 a2 a4 a5 a6 b8 b9 b10 a11 a12 a13 a14 b15 b19 b20 b21 a24 a25 a26) ∧ kOff (mAs h q) f f1)) 0 0 (kAb B0) := by
  refine kMet (cc := cX9_flip) (maxL := 7) (ret := (some .int)) (by decide) rfl (Nat.le_of_ble_eq_true rfl) ?_
  intro p e s m args below meth c H locs Q ls C hX hl hr hlocks hnm hQ
  have hO : kOff (mAs h q) f f := kOff.rf
  have hl : lv_has ls 7 [(0, .ref h), (1, .int a), (2, .int b)] := hl
  refine lv_aload_n C.x C.b dX9_flip_0 rfl (lv_at hl 0 rfl) ?_
  refine lv_aload_n C.x C.b dX9_flip_1 rfl (lv_at hl 0 rfl) ?_
  refine lv_iload_n C.x C.b dX9_flip_2 rfl (lv_at hl 1 rfl) ?_
  refine k_calli (va_runV (As := [.int a]) (rest := [.ref h]) C.1 (kX9_isCorner l G B0 f h q i0 i1 i3 i7 i18 i22 i23 i27 j16 j17 a2 a4 a5 a6 b8 b9 b10 a11 a12 a13 a14 b15 b19 b20 b21 a24 a25 a26 a cc hM hc0 (by omega)) (cwV 1 C.ts gX9_flip_X9_isCorner rfl rfl rfl ⟨rfl, hdX9_flip_X9_isCorner⟩ ⟨Nat.le_of_ble_eq_true rfl, Nat.le_of_ble_eq_true rfl⟩) (k_preV C hX (hM.at 0 rfl) rfl) rfl rfl hl.1 rfl (lv_room (Nat.le_of_ble_eq_true rfl)) dX9_flip_3 ⟨Nat.le_of_ble_eq_true rfl, Nat.le_of_ble_eq_true rfl⟩) hX (fun r3 f3 H locs hp3 hX => ?_)
  obtain ⟨hr3, hf3⟩ := hp3
  rw [hf3] at hX
  refine k_topi (y := (kbI (mIn a cc))) hr3 ?_
  refine lv_if_eq (tgt := 17) C.x C.b dX9_flip_6 (by decide) (fun c_6 => ?_) (fun c_6 => ?_)
  · skip
    have c_6 := kbI_0 c_6
    refine lv_iconst (v := nI 1) C.x C.b dX9_flip_17 (by decide) ?_
    refine lv_goto (tgt := 35) C.x C.b dX9_flip_18 (by decide) ?_
    refine k_put (X := RX9) (T := TX9) (N := 28) (ty := .int) (v := .int (nI 1)) C hX (hM.at 0 rfl) rfl hin_X9_flip_RX9 tyX9_ok nmX9 27 (by decide) lk_X9_flip_f80 (fun _ h9 => h9) rfl (by decide +kernel) rfl rfl (Nat.le_of_ble_eq_true rfl) dX9_flip_35 (fun H locs hX => ?_)
    obtain ⟨g1, hX, hM, hO⟩ := kX.wr hX hM hO 0 rfl (List.mem_of_getElem? (i := 0) rfl)
    have hM : kCs g1 (mC G h q i0 i1 i3 i7 i18 i22 i23 (nI 1) j16 j17 a2 a4 a5 a6 b8 b9 b10 a11 a12 a13 a14 b15 b19 b20 b21 a24 a25 a26) := hM
    refine lv_aload_n C.x C.b dX9_flip_38 rfl (lv_at hl 0 rfl) ?_
    refine k_get (X := RX9) (T := TX9) (N := 28) (v := .int (nI 1)) C hX (hM.at 0 rfl) rfl hin_X9_flip_RX9 27 (by decide) lk_X9_flip_f80 (fun _ h9 => h9) rfl dX9_flip_39 ?_
    refine lv_if_le (tgt := 47) C.x C.b dX9_flip_42 (by decide) (fun c_42 => ?_) (fun c_42 => ?_)
    · exact absurd c_42 (by decide)
    refine lv_iconst (v := nI 0) C.x C.b dX9_flip_45 (by decide) ?_
    exact k_iret C hX hr hlocks hQ (by omega) (by omega) (⟨rfl, hM, hO⟩) dX9_flip_46
  · skip
    have c_6 := kbI_1 c_6
    refine lv_aload_n C.x C.b dX9_flip_9 rfl (lv_at hl 0 rfl) ?_
    refine lv_iload_n C.x C.b dX9_flip_10 rfl (lv_at hl 2 rfl) ?_
    refine k_calli (va_runV (As := [.int b]) (rest := [.ref h]) C.1 (kX9_isCorner l G B0 f h q i0 i1 i3 i7 i18 i22 i23 i27 j16 j17 a2 a4 a5 a6 b8 b9 b10 a11 a12 a13 a14 b15 b19 b20 b21 a24 a25 a26 b cc hM hc0 (by omega)) (cwV 1 C.ts gX9_flip_X9_isCorner rfl rfl rfl ⟨rfl, hdX9_flip_X9_isCorner⟩ ⟨Nat.le_of_ble_eq_true rfl, Nat.le_of_ble_eq_true rfl⟩) (k_preV C hX (hM.at 0 rfl) rfl) rfl rfl hl.1 rfl (lv_room (Nat.le_of_ble_eq_true rfl)) dX9_flip_11 ⟨Nat.le_of_ble_eq_true rfl, Nat.le_of_ble_eq_true rfl⟩) hX (fun r11 f11 H locs hp11 hX => ?_)
    obtain ⟨hr11, hf11⟩ := hp11
    rw [hf11] at hX
    refine k_topi (y := (kbI (mIn b cc))) hr11 ?_
    refine lv_if_ne (tgt := 21) C.x C.b dX9_flip_14 (by decide) (fun c_14 => ?_) (fun c_14 => ?_)
    · skip
      have c_14 := kbI_1 c_14
      exact absurd ⟨c_6, c_14⟩ hv
    · skip
      have c_14 := kbI_0 c_14
      refine lv_iconst (v := nI 1) C.x C.b dX9_flip_17 (by decide) ?_
      refine lv_goto (tgt := 35) C.x C.b dX9_flip_18 (by decide) ?_
      refine k_put (X := RX9) (T := TX9) (N := 28) (ty := .int) (v := .int (nI 1)) C hX (hM.at 0 rfl) rfl hin_X9_flip_RX9 tyX9_ok nmX9 27 (by decide) lk_X9_flip_f80 (fun _ h9 => h9) rfl (by decide +kernel) rfl rfl (Nat.le_of_ble_eq_true rfl) dX9_flip_35 (fun H locs hX => ?_)
      obtain ⟨g2, hX, hM, hO⟩ := kX.wr hX hM hO 0 rfl (List.mem_of_getElem? (i := 0) rfl)
      have hM : kCs g2 (mC G h q i0 i1 i3 i7 i18 i22 i23 (nI 1) j16 j17 a2 a4 a5 a6 b8 b9 b10 a11 a12 a13 a14 b15 b19 b20 b21 a24 a25 a26) := hM
      refine lv_aload_n C.x C.b dX9_flip_38 rfl (lv_at hl 0 rfl) ?_
      refine k_get (X := RX9) (T := TX9) (N := 28) (v := .int (nI 1)) C hX (hM.at 0 rfl) rfl hin_X9_flip_RX9 27 (by decide) lk_X9_flip_f80 (fun _ h9 => h9) rfl dX9_flip_39 ?_
      refine lv_if_le (tgt := 47) C.x C.b dX9_flip_42 (by decide) (fun c_42 => ?_) (fun c_42 => ?_)
      · exact absurd c_42 (by decide)
      refine lv_iconst (v := nI 0) C.x C.b dX9_flip_45 (by decide) ?_
      exact k_iret C hX hr hlocks hQ (by omega) (by omega) (⟨rfl, hM, hO⟩) dX9_flip_46

theorem hdX9_flip_X9_canFlip : yX9_canFlip.cls ≠ "java/lang/invoke/MethodHandle" ∧ yX9_canFlip.cls ≠ "java/lang/invoke/VarHandle" ∧ (parseMethodDescriptor yX9_canFlip.desc).map (fun d => d.parameters.length) = some 2 := by decide +kernel
abbrev rmX9_flip_b2 : Room := { frames := 3, cells := 0, slots := 0, locals := 69 }
set_option maxHeartbeats 4000000 in
set_option maxRecDepth 100000 in
/-- X9_flip_b2 -/
theorem kX9_flip_b2 (l : Launch) (G : kG) (B0 : Nat) (f : kH) (h : Nat) (q : Nat → Nat) (i0 i1 i3 i7 i18 i22 i23 i27 : Int32) (j16 j17 : Int64) (a2 : Nat → Int32) (a4 : Nat → Int32) (a5 : Nat → Int32) (a6 : Nat → Int32) (b8 : Nat → Int64) (b9 : Nat → Int64) (b10 : Nat → Int64) (a11 : Nat → Int32) (a12 : Nat → Int32) (a13 : Nat → Int32) (a14 : Nat → Int32) (b15 : Nat → Int64) (b19 : Nat → Int64) (b20 : Nat → Int64) (b21 : Nat → Int64) (a24 : Nat → Int32) (a25 : Nat → Int32) (a26 : Nat → Int32) (a b : Int32) (F cc : Nat) (hM : kCs f (mC G h q i0 i1 i3 i7 i18 i22 i23 i27 j16 j17 a2 a4 a5 a6 b8 b9 b10 a11 a12 a13 a14 b15 b19 b20 b21 a24 a25 a26)) (hF : i1 = nI F) (hF9 : F ≤ 28) (hc0 : i0 = nI cc) (hc9 : cc ≤ 16) (hsy : mAdj a2 F a b → mAdj a2 F b a) (hv : mIn a cc ∧ mIn b cc) (hf9 : ¬ mCanFlip a2 F a b) : Met l yX9_flip wsX9_flip (rmX9_flip_b2) (kP G B0 f [.ref h, .int a, .int b]) (kQi G B0 (fun r f1 => r = nI 0 ∧ kCs f1 (mC G h q i0 i1 i3 i7 i18 i22 i23 (nI 2) j16 j17 a2 a4 a5 a6 b8 b9 b10 a11 a12 a13 a14 b15 b19 b20 b21 a24 a25 a26) ∧ kOff (mAs h q) f f1)) 0 0 (kAb B0) := by
  refine kMet (cc := cX9_flip) (maxL := 7) (ret := (some .int)) (by decide) rfl (Nat.le_of_ble_eq_true rfl) ?_
  intro p e s m args below meth c H locs Q ls C hX hl hr hlocks hnm hQ
  have hO : kOff (mAs h q) f f := kOff.rf
  have hl : lv_has ls 7 [(0, .ref h), (1, .int a), (2, .int b)] := hl
  refine lv_aload_n C.x C.b dX9_flip_0 rfl (lv_at hl 0 rfl) ?_
  refine lv_aload_n C.x C.b dX9_flip_1 rfl (lv_at hl 0 rfl) ?_
  refine lv_iload_n C.x C.b dX9_flip_2 rfl (lv_at hl 1 rfl) ?_
  refine k_calli (va_runV (As := [.int a]) (rest := [.ref h]) C.1 (kX9_isCorner l G B0 f h q i0 i1 i3 i7 i18 i22 i23 i27 j16 j17 a2 a4 a5 a6 b8 b9 b10 a11 a12 a13 a14 b15 b19 b20 b21 a24 a25 a26 a cc hM hc0 (by omega)) (cwV 1 C.ts gX9_flip_X9_isCorner rfl rfl rfl ⟨rfl, hdX9_flip_X9_isCorner⟩ ⟨Nat.le_of_ble_eq_true rfl, Nat.le_of_ble_eq_true rfl⟩) (k_preV C hX (hM.at 0 rfl) rfl) rfl rfl hl.1 rfl (lv_room (Nat.le_of_ble_eq_true rfl)) dX9_flip_3 ⟨Nat.le_of_ble_eq_true rfl, Nat.le_of_ble_eq_true rfl⟩) hX (fun r3 f3 H locs hp3 hX => ?_)
  obtain ⟨hr3, hf3⟩ := hp3
  rw [hf3] at hX
  refine k_topi (y := (kbI (mIn a cc))) hr3 ?_
  refine lv_if_eq (tgt := 17) C.x C.b dX9_flip_6 (by decide) (fun c_6 => ?_) (fun c_6 => ?_)
  · exact absurd (hv.1) (kbI_0 c_6)
  refine lv_aload_n C.x C.b dX9_flip_9 rfl (lv_at hl 0 rfl) ?_
  refine lv_iload_n C.x C.b dX9_flip_10 rfl (lv_at hl 2 rfl) ?_
  refine k_calli (va_runV (As := [.int b]) (rest := [.ref h]) C.1 (kX9_isCorner l G B0 f h q i0 i1 i3 i7 i18 i22 i23 i27 j16 j17 a2 a4 a5 a6 b8 b9 b10 a11 a12 a13 a14 b15 b19 b20 b21 a24 a25 a26 b cc hM hc0 (by omega)) (cwV 1 C.ts gX9_flip_X9_isCorner rfl rfl rfl ⟨rfl, hdX9_flip_X9_isCorner⟩ ⟨Nat.le_of_ble_eq_true rfl, Nat.le_of_ble_eq_true rfl⟩) (k_preV C hX (hM.at 0 rfl) rfl) rfl rfl hl.1 rfl (lv_room (Nat.le_of_ble_eq_true rfl)) dX9_flip_11 ⟨Nat.le_of_ble_eq_true rfl, Nat.le_of_ble_eq_true rfl⟩) hX (fun r11 f11 H locs hp11 hX => ?_)
  obtain ⟨hr11, hf11⟩ := hp11
  rw [hf11] at hX
  refine k_topi (y := (kbI (mIn b cc))) hr11 ?_
  refine lv_if_ne (tgt := 21) C.x C.b dX9_flip_14 (by decide) (fun c_14 => ?_) (fun c_14 => ?_)
  rotate_left
  · exact absurd (hv.2) (kbI_0 c_14)
  refine lv_aload_n C.x C.b dX9_flip_21 rfl (lv_at hl 0 rfl) ?_
  refine lv_iload_n C.x C.b dX9_flip_22 rfl (lv_at hl 1 rfl) ?_
  refine lv_iload_n C.x C.b dX9_flip_23 rfl (lv_at hl 2 rfl) ?_
  refine k_calli (va_runV (As := [.int a, .int b]) (rest := [.ref h]) C.1 (kX9_canFlip l G B0 f h q i0 i1 i3 i7 i18 i22 i23 i27 j16 j17 a2 a4 a5 a6 b8 b9 b10 a11 a12 a13 a14 b15 b19 b20 b21 a24 a25 a26 a b F hM hF hF9 hsy) (cwV 2 C.ts gX9_flip_X9_canFlip rfl rfl rfl ⟨rfl, hdX9_flip_X9_canFlip⟩ ⟨Nat.le_of_ble_eq_true rfl, Nat.le_of_ble_eq_true rfl⟩) (k_preV C hX (hM.at 0 rfl) rfl) rfl rfl hl.1 rfl (lv_room (Nat.le_of_ble_eq_true rfl)) dX9_flip_24 ⟨Nat.le_of_ble_eq_true rfl, Nat.le_of_ble_eq_true rfl⟩) hX (fun r24 f24 H locs hp24 hX => ?_)
  obtain ⟨hr24, hf24⟩ := hp24
  rw [hf24] at hX
  refine k_topi (y := (kbI (mCanFlip a2 F a b))) hr24 ?_
  refine lv_if_ne (tgt := 34) C.x C.b dX9_flip_27 (by decide) (fun c_27 => ?_) (fun c_27 => ?_)
  · exact absurd (kbI_1 c_27) (hf9)
  refine lv_iconst (v := nI 2) C.x C.b dX9_flip_30 (by decide) ?_
  refine lv_goto (tgt := 35) C.x C.b dX9_flip_31 (by decide) ?_
  refine k_put (X := RX9) (T := TX9) (N := 28) (ty := .int) (v := .int (nI 2)) C hX (hM.at 0 rfl) rfl hin_X9_flip_RX9 tyX9_ok nmX9 27 (by decide) lk_X9_flip_f80 (fun _ h9 => h9) rfl (by decide +kernel) rfl rfl (Nat.le_of_ble_eq_true rfl) dX9_flip_35 (fun H locs hX => ?_)
  obtain ⟨g1, hX, hM, hO⟩ := kX.wr hX hM hO 0 rfl (List.mem_of_getElem? (i := 0) rfl)
  have hM : kCs g1 (mC G h q i0 i1 i3 i7 i18 i22 i23 (nI 2) j16 j17 a2 a4 a5 a6 b8 b9 b10 a11 a12 a13 a14 b15 b19 b20 b21 a24 a25 a26) := hM
  refine lv_aload_n C.x C.b dX9_flip_38 rfl (lv_at hl 0 rfl) ?_
  refine k_get (X := RX9) (T := TX9) (N := 28) (v := .int (nI 2)) C hX (hM.at 0 rfl) rfl hin_X9_flip_RX9 27 (by decide) lk_X9_flip_f80 (fun _ h9 => h9) rfl dX9_flip_39 ?_
  refine lv_if_le (tgt := 47) C.x C.b dX9_flip_42 (by decide) (fun c_42 => ?_) (fun c_42 => ?_)
  · exact absurd c_42 (by decide)
  refine lv_iconst (v := nI 0) C.x C.b dX9_flip_45 (by decide) ?_
  exact k_iret C hX hr hlocks hQ (by omega) (by omega) (⟨rfl, hM, hO⟩) dX9_flip_46

theorem hdX9_flip_X9_faceOf : yX9_faceOf.cls ≠ "java/lang/invoke/MethodHandle" ∧ yX9_faceOf.cls ≠ "java/lang/invoke/VarHandle" ∧ (parseMethodDescriptor yX9_faceOf.desc).map (fun d => d.parameters.length) = some 2 := by decide +kernel
theorem hdX9_flip_X9_third : yX9_third.cls ≠ "java/lang/invoke/MethodHandle" ∧ yX9_third.cls ≠ "java/lang/invoke/VarHandle" ∧ (parseMethodDescriptor yX9_third.desc).map (fun d => d.parameters.length) = some 3 := by decide +kernel
theorem hdX9_flip_X9_puts : yX9_puts.cls ≠ "java/lang/invoke/MethodHandle" ∧ yX9_puts.cls ≠ "java/lang/invoke/VarHandle" ∧ (parseMethodDescriptor yX9_puts.desc).map (fun d => d.parameters.length) = some 4 := by decide +kernel
abbrev rmX9_flip : Room := { frames := 3, cells := 0, slots := 0, locals := 69 }
set_option maxHeartbeats 4000000 in
set_option maxRecDepth 100000 in
/-- X9_flip -/
theorem kX9_flip (l : Launch) (G : kG) (B0 : Nat) (f : kH) (h : Nat) (q : Nat → Nat) (i0 i1 i3 i7 i18 i22 i23 i27 : Int32) (j16 j17 : Int64) (a2 : Nat → Int32) (a4 : Nat → Int32) (a5 : Nat → Int32) (a6 : Nat → Int32) (b8 : Nat → Int64) (b9 : Nat → Int64) (b10 : Nat → Int64) (a11 : Nat → Int32) (a12 : Nat → Int32) (a13 : Nat → Int32) (a14 : Nat → Int32) (b15 : Nat → Int64) (b19 : Nat → Int64) (b20 : Nat → Int64) (b21 : Nat → Int64) (a24 : Nat → Int32) (a25 : Nat → Int32) (a26 : Nat → Int32) (a b : Int32) (F cc : Nat) (hM : kCs f (mC G h q i0 i1 i3 i7 i18 i22 i23 i27 j16 j17 a2 a4 a5 a6 b8 b9 b10 a11 a12 a13 a14 b15 b19 b20 b21 a24 a25 a26)) (hF : i1 = nI F) (hF9 : F ≤ 28) (hc0 : i0 = nI cc) (hc9 : cc ≤ 16) (t1 t2 : Nat) (hsy : mAdj a2 F a b → mAdj a2 F b a) (hv : mIn a cc ∧ mIn b cc) (hf9 : mCanFlip a2 F a b) (ht1 : t1 < F) (ht2 : t2 < F) (e1 : mFaceOf a2 a b (3 * F) = nI t1) (e2 : mFaceOf a2 b a (3 * F) = nI t2) : Met l yX9_flip wsX9_flip (rmX9_flip) (kP G B0 f [.ref h, .int a, .int b]) (kQi G B0 (fun r f1 => r = mFlipV (mOpp a2 F a b) (mOpp a2 F b a) ∧ kCs f1 (mC G h q i0 i1 i3 i7 i18 i22 i23 (nI 0) j16 j17 (mPut (mPut a2 t1 a (mOpp a2 F b a) (mOpp a2 F a b)) t2 (mOpp a2 F b a) b (mOpp a2 F a b)) a4 a5 a6 b8 b9 b10 a11 a12 a13 a14 b15 b19 b20 b21 a24 a25 a26) ∧ kOff (mAs h q) f f1)) 0 0 (kAb B0) := by
  refine kMet (cc := cX9_flip) (maxL := 7) (ret := (some .int)) (by decide) rfl (Nat.le_of_ble_eq_true rfl) ?_
  intro p e s m args below meth c H locs Q ls C hX hl hr hlocks hnm hQ
  have hO : kOff (mAs h q) f f := kOff.rf
  have hl : lv_has ls 7 [(0, .ref h), (1, .int a), (2, .int b)] := hl
  refine lv_aload_n C.x C.b dX9_flip_0 rfl (lv_at hl 0 rfl) ?_
  refine lv_aload_n C.x C.b dX9_flip_1 rfl (lv_at hl 0 rfl) ?_
  refine lv_iload_n C.x C.b dX9_flip_2 rfl (lv_at hl 1 rfl) ?_
  refine k_calli (va_runV (As := [.int a]) (rest := [.ref h]) C.1 (kX9_isCorner l G B0 f h q i0 i1 i3 i7 i18 i22 i23 i27 j16 j17 a2 a4 a5 a6 b8 b9 b10 a11 a12 a13 a14 b15 b19 b20 b21 a24 a25 a26 a cc hM hc0 (by omega)) (cwV 1 C.ts gX9_flip_X9_isCorner rfl rfl rfl ⟨rfl, hdX9_flip_X9_isCorner⟩ ⟨Nat.le_of_ble_eq_true rfl, Nat.le_of_ble_eq_true rfl⟩) (k_preV C hX (hM.at 0 rfl) rfl) rfl rfl hl.1 rfl (lv_room (Nat.le_of_ble_eq_true rfl)) dX9_flip_3 ⟨Nat.le_of_ble_eq_true rfl, Nat.le_of_ble_eq_true rfl⟩) hX (fun r3 f3 H locs hp3 hX => ?_)
  obtain ⟨hr3, hf3⟩ := hp3
  rw [hf3] at hX
  refine k_topi (y := (kbI (mIn a cc))) hr3 ?_
  refine lv_if_eq (tgt := 17) C.x C.b dX9_flip_6 (by decide) (fun c_6 => ?_) (fun c_6 => ?_)
  · exact absurd (hv.1) (kbI_0 c_6)
  refine lv_aload_n C.x C.b dX9_flip_9 rfl (lv_at hl 0 rfl) ?_
  refine lv_iload_n C.x C.b dX9_flip_10 rfl (lv_at hl 2 rfl) ?_
  refine k_calli (va_runV (As := [.int b]) (rest := [.ref h]) C.1 (kX9_isCorner l G B0 f h q i0 i1 i3 i7 i18 i22 i23 i27 j16 j17 a2 a4 a5 a6 b8 b9 b10 a11 a12 a13 a14 b15 b19 b20 b21 a24 a25 a26 b cc hM hc0 (by omega)) (cwV 1 C.ts gX9_flip_X9_isCorner rfl rfl rfl ⟨rfl, hdX9_flip_X9_isCorner⟩ ⟨Nat.le_of_ble_eq_true rfl, Nat.le_of_ble_eq_true rfl⟩) (k_preV C hX (hM.at 0 rfl) rfl) rfl rfl hl.1 rfl (lv_room (Nat.le_of_ble_eq_true rfl)) dX9_flip_11 ⟨Nat.le_of_ble_eq_true rfl, Nat.le_of_ble_eq_true rfl⟩) hX (fun r11 f11 H locs hp11 hX => ?_)
  obtain ⟨hr11, hf11⟩ := hp11
  rw [hf11] at hX
  refine k_topi (y := (kbI (mIn b cc))) hr11 ?_
  refine lv_if_ne (tgt := 21) C.x C.b dX9_flip_14 (by decide) (fun c_14 => ?_) (fun c_14 => ?_)
  rotate_left
  · exact absurd (hv.2) (kbI_0 c_14)
  refine lv_aload_n C.x C.b dX9_flip_21 rfl (lv_at hl 0 rfl) ?_
  refine lv_iload_n C.x C.b dX9_flip_22 rfl (lv_at hl 1 rfl) ?_
  refine lv_iload_n C.x C.b dX9_flip_23 rfl (lv_at hl 2 rfl) ?_
  refine k_calli (va_runV (As := [.int a, .int b]) (rest := [.ref h]) C.1 (kX9_canFlip l G B0 f h q i0 i1 i3 i7 i18 i22 i23 i27 j16 j17 a2 a4 a5 a6 b8 b9 b10 a11 a12 a13 a14 b15 b19 b20 b21 a24 a25 a26 a b F hM hF hF9 hsy) (cwV 2 C.ts gX9_flip_X9_canFlip rfl rfl rfl ⟨rfl, hdX9_flip_X9_canFlip⟩ ⟨Nat.le_of_ble_eq_true rfl, Nat.le_of_ble_eq_true rfl⟩) (k_preV C hX (hM.at 0 rfl) rfl) rfl rfl hl.1 rfl (lv_room (Nat.le_of_ble_eq_true rfl)) dX9_flip_24 ⟨Nat.le_of_ble_eq_true rfl, Nat.le_of_ble_eq_true rfl⟩) hX (fun r24 f24 H locs hp24 hX => ?_)
  obtain ⟨hr24, hf24⟩ := hp24
  rw [hf24] at hX
  refine k_topi (y := (kbI (mCanFlip a2 F a b))) hr24 ?_
  refine lv_if_ne (tgt := 34) C.x C.b dX9_flip_27 (by decide) (fun c_27 => ?_) (fun c_27 => ?_)
  rotate_left
  · exact absurd (hf9) (kbI_0 c_27)
  refine lv_iconst (v := nI 0) C.x C.b dX9_flip_34 (by decide) ?_
  refine k_put (X := RX9) (T := TX9) (N := 28) (ty := .int) (v := .int (nI 0)) C hX (hM.at 0 rfl) rfl hin_X9_flip_RX9 tyX9_ok nmX9 27 (by decide) lk_X9_flip_f80 (fun _ h9 => h9) rfl (by decide +kernel) rfl rfl (Nat.le_of_ble_eq_true rfl) dX9_flip_35 (fun H locs hX => ?_)
  obtain ⟨g1, hX, hM, hO⟩ := kX.wr hX hM hO 0 rfl (List.mem_of_getElem? (i := 0) rfl)
  have hM : kCs g1 (mC G h q i0 i1 i3 i7 i18 i22 i23 (nI 0) j16 j17 a2 a4 a5 a6 b8 b9 b10 a11 a12 a13 a14 b15 b19 b20 b21 a24 a25 a26) := hM
  refine lv_aload_n C.x C.b dX9_flip_38 rfl (lv_at hl 0 rfl) ?_
  refine k_get (X := RX9) (T := TX9) (N := 28) (v := .int (nI 0)) C hX (hM.at 0 rfl) rfl hin_X9_flip_RX9 27 (by decide) lk_X9_flip_f80 (fun _ h9 => h9) rfl dX9_flip_39 ?_
  refine lv_if_le (tgt := 47) C.x C.b dX9_flip_42 (by decide) (fun c_42 => ?_) (fun c_42 => ?_)
  rotate_left
  · exact absurd c_42 (by decide)
  refine lv_aload_n C.x C.b dX9_flip_47 rfl (lv_at hl 0 rfl) ?_
  refine lv_iload_n C.x C.b dX9_flip_48 rfl (lv_at hl 1 rfl) ?_
  refine lv_iload_n C.x C.b dX9_flip_49 rfl (lv_at hl 2 rfl) ?_
  refine k_calli (va_runV (As := [.int a, .int b]) (rest := []) C.1 (kX9_faceOf l G B0 g1 h q i0 i1 i3 i7 i18 i22 i23 (nI 0) j16 j17 a2 a4 a5 a6 b8 b9 b10 a11 a12 a13 a14 b15 b19 b20 b21 a24 a25 a26 a b F hM hF hF9) (cwV 2 C.ts gX9_flip_X9_faceOf rfl rfl rfl ⟨rfl, hdX9_flip_X9_faceOf⟩ ⟨Nat.le_of_ble_eq_true rfl, Nat.le_of_ble_eq_true rfl⟩) (k_preV C hX (hM.at 0 rfl) rfl) rfl rfl hl.1 rfl (lv_room (Nat.le_of_ble_eq_true rfl)) dX9_flip_50 ⟨Nat.le_of_ble_eq_true rfl, Nat.le_of_ble_eq_true rfl⟩) hX (fun r50 f50 H locs hp50 hX => ?_)
  obtain ⟨hr50, hf50⟩ := hp50
  rw [hf50] at hX
  refine k_topi (y := (mFaceOf a2 a b (3 * F))) hr50 ?_
  refine k_topi (y := (nI t1)) (e1) ?_
  refine lv_istore_n (lv' := [(3, .int (nI t1)), (0, .ref h), (1, .int a), (2, .int b)]) C.x C.b dX9_flip_53 rfl hl (by decide) rfl (fun ls hl => ?_)
  refine lv_aload_n C.x C.b dX9_flip_54 rfl (lv_at hl 1 rfl) ?_
  refine lv_iload_n C.x C.b dX9_flip_55 rfl (lv_at hl 3 rfl) ?_
  refine lv_iload_n C.x C.b dX9_flip_56 rfl (lv_at hl 2 rfl) ?_
  refine k_calli (va_runV (As := [.int b, .int a]) (rest := []) C.1 (kX9_faceOf l G B0 g1 h q i0 i1 i3 i7 i18 i22 i23 (nI 0) j16 j17 a2 a4 a5 a6 b8 b9 b10 a11 a12 a13 a14 b15 b19 b20 b21 a24 a25 a26 b a F hM hF hF9) (cwV 2 C.ts gX9_flip_X9_faceOf rfl rfl rfl ⟨rfl, hdX9_flip_X9_faceOf⟩ ⟨Nat.le_of_ble_eq_true rfl, Nat.le_of_ble_eq_true rfl⟩) (k_preV C hX (hM.at 0 rfl) rfl) rfl rfl hl.1 rfl (lv_room (Nat.le_of_ble_eq_true rfl)) dX9_flip_57 ⟨Nat.le_of_ble_eq_true rfl, Nat.le_of_ble_eq_true rfl⟩) hX (fun r57 f57 H locs hp57 hX => ?_)
  obtain ⟨hr57, hf57⟩ := hp57
  rw [hf57] at hX
  refine k_topi (y := (mFaceOf a2 b a (3 * F))) hr57 ?_
  refine k_topi (y := (nI t2)) (e2) ?_
  refine lv_istore (lv' := [(4, .int (nI t2)), (3, .int (nI t1)), (0, .ref h), (1, .int a), (2, .int b)]) C.x C.b dX9_flip_60 hl (by decide) rfl (fun ls hl => ?_)
  refine lv_aload_n C.x C.b dX9_flip_62 rfl (lv_at hl 2 rfl) ?_
  refine lv_iload_n C.x C.b dX9_flip_63 rfl (lv_at hl 1 rfl) ?_
  refine lv_iload_n C.x C.b dX9_flip_64 rfl (lv_at hl 3 rfl) ?_
  refine lv_iload_n C.x C.b dX9_flip_65 rfl (lv_at hl 4 rfl) ?_
  refine k_calli (va_runV (As := [.int (nI t1), .int a, .int b]) (rest := []) C.1 (kX9_third l G B0 g1 h q i0 i1 i3 i7 i18 i22 i23 (nI 0) j16 j17 a2 a4 a5 a6 b8 b9 b10 a11 a12 a13 a14 b15 b19 b20 b21 a24 a25 a26 t1 a b hM (by omega)) (cwV 3 C.ts gX9_flip_X9_third rfl rfl rfl ⟨rfl, hdX9_flip_X9_third⟩ ⟨Nat.le_of_ble_eq_true rfl, Nat.le_of_ble_eq_true rfl⟩) (k_preV C hX (hM.at 0 rfl) rfl) rfl rfl hl.1 rfl (lv_room (Nat.le_of_ble_eq_true rfl)) dX9_flip_66 ⟨Nat.le_of_ble_eq_true rfl, Nat.le_of_ble_eq_true rfl⟩) hX (fun r66 f66 H locs hp66 hX => ?_)
  obtain ⟨hr66, hf66⟩ := hp66
  rw [hf66] at hX
  refine k_topi (y := (mThird a2 (3 * t1) a b 3)) hr66 ?_
  refine k_topi (y := (mOpp a2 F a b)) (mOpp_at e1 (by omega)) ?_
  refine lv_istore (lv' := [(5, .int (mOpp a2 F a b)), (4, .int (nI t2)), (3, .int (nI t1)), (0, .ref h), (1, .int a), (2, .int b)]) C.x C.b dX9_flip_69 hl (by decide) rfl (fun ls hl => ?_)
  refine lv_aload_n C.x C.b dX9_flip_71 rfl (lv_at hl 3 rfl) ?_
  refine lv_iload C.x C.b dX9_flip_72 (lv_at hl 1 rfl) ?_
  refine lv_iload_n C.x C.b dX9_flip_74 rfl (lv_at hl 4 rfl) ?_
  refine lv_iload_n C.x C.b dX9_flip_75 rfl (lv_at hl 5 rfl) ?_
  refine k_calli (va_runV (As := [.int (nI t2), .int a, .int b]) (rest := []) C.1 (kX9_third l G B0 g1 h q i0 i1 i3 i7 i18 i22 i23 (nI 0) j16 j17 a2 a4 a5 a6 b8 b9 b10 a11 a12 a13 a14 b15 b19 b20 b21 a24 a25 a26 t2 a b hM (by omega)) (cwV 3 C.ts gX9_flip_X9_third rfl rfl rfl ⟨rfl, hdX9_flip_X9_third⟩ ⟨Nat.le_of_ble_eq_true rfl, Nat.le_of_ble_eq_true rfl⟩) (k_preV C hX (hM.at 0 rfl) rfl) rfl rfl hl.1 rfl (lv_room (Nat.le_of_ble_eq_true rfl)) dX9_flip_76 ⟨Nat.le_of_ble_eq_true rfl, Nat.le_of_ble_eq_true rfl⟩) hX (fun r76 f76 H locs hp76 hX => ?_)
  obtain ⟨hr76, hf76⟩ := hp76
  rw [hf76] at hX
  refine k_topi (y := (mThird a2 (3 * t2) a b 3)) hr76 ?_
  refine k_topi (y := (mOpp a2 F b a)) (mOpp_at2 e2 (by omega)) ?_
  refine lv_istore (lv' := [(6, .int (mOpp a2 F b a)), (5, .int (mOpp a2 F a b)), (4, .int (nI t2)), (3, .int (nI t1)), (0, .ref h), (1, .int a), (2, .int b)]) C.x C.b dX9_flip_79 hl (by decide) rfl (fun ls hl => ?_)
  refine lv_aload_n C.x C.b dX9_flip_81 rfl (lv_at hl 4 rfl) ?_
  refine lv_iload_n C.x C.b dX9_flip_82 rfl (lv_at hl 3 rfl) ?_
  refine lv_iload_n C.x C.b dX9_flip_83 rfl (lv_at hl 5 rfl) ?_
  refine lv_iload C.x C.b dX9_flip_84 (lv_at hl 0 rfl) ?_
  refine lv_iload C.x C.b dX9_flip_86 (lv_at hl 1 rfl) ?_
  refine k_callv (va_runV (As := [.int (nI t1), .int a, .int (mOpp a2 F b a), .int (mOpp a2 F a b)]) (rest := []) C.1 (kX9_puts l G B0 g1 h q i0 i1 i3 i7 i18 i22 i23 (nI 0) j16 j17 a2 a4 a5 a6 b8 b9 b10 a11 a12 a13 a14 b15 b19 b20 b21 a24 a25 a26 t1 a (mOpp a2 F b a) (mOpp a2 F a b) hM (by omega)) (cwV 4 C.ts gX9_flip_X9_puts rfl rfl rfl ⟨rfl, hdX9_flip_X9_puts⟩ ⟨Nat.le_of_ble_eq_true rfl, Nat.le_of_ble_eq_true rfl⟩) (k_preV C hX (hM.at 0 rfl) rfl) rfl rfl hl.1 rfl (lv_room (Nat.le_of_ble_eq_true rfl)) dX9_flip_88 ⟨Nat.le_of_ble_eq_true rfl, Nat.le_of_ble_eq_true rfl⟩) hX (fun f88 H locs hp88 hX => ?_)
  obtain ⟨hM, hO88⟩ := hp88
  have hO := hO.trans hO88
  have hM : kCs f88 (mC G h q i0 i1 i3 i7 i18 i22 i23 (nI 0) j16 j17 (mPut a2 t1 a (mOpp a2 F b a) (mOpp a2 F a b)) a4 a5 a6 b8 b9 b10 a11 a12 a13 a14 b15 b19 b20 b21 a24 a25 a26) := hM
  refine lv_aload_n C.x C.b dX9_flip_91 rfl (lv_at hl 4 rfl) ?_
  refine lv_iload C.x C.b dX9_flip_92 (lv_at hl 2 rfl) ?_
  refine lv_iload C.x C.b dX9_flip_94 (lv_at hl 0 rfl) ?_
  refine lv_iload_n C.x C.b dX9_flip_96 rfl (lv_at hl 6 rfl) ?_
  refine lv_iload C.x C.b dX9_flip_97 (lv_at hl 1 rfl) ?_
  refine k_callv (va_runV (As := [.int (nI t2), .int (mOpp a2 F b a), .int b, .int (mOpp a2 F a b)]) (rest := []) C.1 (kX9_puts l G B0 f88 h q i0 i1 i3 i7 i18 i22 i23 (nI 0) j16 j17 (mPut a2 t1 a (mOpp a2 F b a) (mOpp a2 F a b)) a4 a5 a6 b8 b9 b10 a11 a12 a13 a14 b15 b19 b20 b21 a24 a25 a26 t2 (mOpp a2 F b a) b (mOpp a2 F a b) hM (by omega)) (cwV 4 C.ts gX9_flip_X9_puts rfl rfl rfl ⟨rfl, hdX9_flip_X9_puts⟩ ⟨Nat.le_of_ble_eq_true rfl, Nat.le_of_ble_eq_true rfl⟩) (k_preV C hX (hM.at 0 rfl) rfl) rfl rfl hl.1 rfl (lv_room (Nat.le_of_ble_eq_true rfl)) dX9_flip_99 ⟨Nat.le_of_ble_eq_true rfl, Nat.le_of_ble_eq_true rfl⟩) hX (fun f99 H locs hp99 hX => ?_)
  obtain ⟨hM, hO99⟩ := hp99
  have hO := hO.trans hO99
  have hM : kCs f99 (mC G h q i0 i1 i3 i7 i18 i22 i23 (nI 0) j16 j17 (mPut (mPut a2 t1 a (mOpp a2 F b a) (mOpp a2 F a b)) t2 (mOpp a2 F b a) b (mOpp a2 F a b)) a4 a5 a6 b8 b9 b10 a11 a12 a13 a14 b15 b19 b20 b21 a24 a25 a26) := hM
  refine lv_iload C.x C.b dX9_flip_102 (lv_at hl 1 rfl) ?_
  refine lv_iload C.x C.b dX9_flip_104 (lv_at hl 0 rfl) ?_
  refine lv_icmp_ge (tgt := 120) C.x C.b dX9_flip_106 (by decide) (fun c_106 => ?_) (fun c_106 => ?_)
  · skip
    refine lv_bipush (v := nI 100) C.x C.b dX9_flip_120 (by decide) ?_
    refine lv_iload C.x C.b dX9_flip_122 (lv_at hl 0 rfl) ?_
    refine lv_imul C.x C.b dX9_flip_124 ?_
    refine lv_iload C.x C.b dX9_flip_125 (lv_at hl 1 rfl) ?_
    refine lv_iadd C.x C.b dX9_flip_127 ?_
    exact k_iret C hX hr hlocks hQ (by omega) (by omega) (by refine ⟨?_, hM, hO⟩; first | (rw [mFlipV, if_pos (Int32.not_le.mp c_106)]) | (rw [mFlipV, if_neg (Int32.not_lt.mpr c_106)])) dX9_flip_128
  · skip
    refine lv_bipush (v := nI 100) C.x C.b dX9_flip_109 (by decide) ?_
    refine lv_iload C.x C.b dX9_flip_111 (lv_at hl 1 rfl) ?_
    refine lv_imul C.x C.b dX9_flip_113 ?_
    refine lv_iload C.x C.b dX9_flip_114 (lv_at hl 0 rfl) ?_
    refine lv_iadd C.x C.b dX9_flip_116 ?_
    refine lv_goto (tgt := 128) C.x C.b dX9_flip_117 (by decide) ?_
    exact k_iret C hX hr hlocks hQ (by omega) (by omega) (by refine ⟨?_, hM, hO⟩; first | (rw [mFlipV, if_pos (Int32.not_le.mp c_106)]) | (rw [mFlipV, if_neg (Int32.not_lt.mpr c_106)])) dX9_flip_128

theorem hdX9_corner_X9_isFace : yX9_isFace.cls ≠ "java/lang/invoke/MethodHandle" ∧ yX9_isFace.cls ≠ "java/lang/invoke/VarHandle" ∧ (parseMethodDescriptor yX9_isFace.desc).map (fun d => d.parameters.length) = some 1 := by decide +kernel
theorem lk_X9_corner_f80 : Cond.fieldLink RX9 80 "KoebehallModel" "thrown" "I" ∈ wsX9_corner := by decide +kernel
theorem hin_X9_corner_RX9 : ∀ w ∈ u_ws RX9 TX9 28, w ∈ wsX9_corner := by decide +kernel
theorem lk_X9_corner_c109 : Cond.constantLong RX9 109 (2) ∈ wsX9_corner := by decide +kernel
theorem hdX9_corner_X9_isIn : yX9_isIn.cls ≠ "java/lang/invoke/MethodHandle" ∧ yX9_isIn.cls ≠ "java/lang/invoke/VarHandle" ∧ (parseMethodDescriptor yX9_isIn.desc).map (fun d => d.parameters.length) = some 3 := by decide +kernel
abbrev rmX9_corner_b1 : Room := { frames := 2, cells := 0, slots := 0, locals := 46 }
set_option maxHeartbeats 4000000 in
set_option maxRecDepth 100000 in
/-- X9_corner_b1 -/
theorem kX9_corner_b1 (l : Launch) (G : kG) (B0 : Nat) (f : kH) (h : Nat) (q : Nat → Nat) (i0 i1 i3 i7 i18 i22 i23 i27 : Int32) (j16 j17 : Int64) (a2 : Nat → Int32) (a4 : Nat → Int32) (a5 : Nat → Int32) (a6 : Nat → Int32) (b8 : Nat → Int64) (b9 : Nat → Int64) (b10 : Nat → Int64) (a11 : Nat → Int32) (a12 : Nat → Int32) (a13 : Nat → Int32) (a14 : Nat → Int32) (b15 : Nat → Int64) (b19 : Nat → Int64) (b20 : Nat → Int64) (b21 : Nat → Int64) (a24 : Nat → Int32) (a25 : Nat → Int32) (a26 : Nat → Int32) (a b : Int32) (F : Nat) (hM : kCs f (mC G h q i0 i1 i3 i7 i18 i22 i23 i27 j16 j17 a2 a4 a5 a6 b8 b9 b10 a11 a12 a13 a14 b15 b19 b20 b21 a24 a25 a26)) (hF : i1 = nI F) (hF9 : F ≤ 28) (hv : ¬ (mIn a F ∧ mRg b 0 2)) : Met l yX9_corner wsX9_corner (rmX9_corner_b1) (kP G B0 f [.ref h, .int a, .int b]) (kQi G B0 (fun r f1 => r = nI 0 ∧ kCs f1 (mC G h q i0 i1 i3 i7 i18 i22 i23 (nI 1) j16 j17 a2 a4 a5 a6 b8 b9 b10 a11 a12 a13 a14 b15 b19 b20 b21 a24 a25 a26) ∧ kOff (mAs h q) f f1)) 0 0 (kAb B0) := by
  refine kMet (cc := cX9_corner) (maxL := 3) (ret := (some .int)) (by decide) rfl (Nat.le_of_ble_eq_true rfl) ?_
  intro p e s m args below meth c H locs Q ls C hX hl hr hlocks hnm hQ
  have hO : kOff (mAs h q) f f := kOff.rf
  have hl : lv_has ls 3 [(0, .ref h), (1, .int a), (2, .int b)] := hl
  refine lv_aload_n C.x C.b dX9_corner_0 rfl (lv_at hl 0 rfl) ?_
  refine lv_aload_n C.x C.b dX9_corner_1 rfl (lv_at hl 0 rfl) ?_
  refine lv_iload_n C.x C.b dX9_corner_2 rfl (lv_at hl 1 rfl) ?_
  refine k_calli (va_runV (As := [.int a]) (rest := [.ref h]) C.1 (kX9_isFace l G B0 f h q i0 i1 i3 i7 i18 i22 i23 i27 j16 j17 a2 a4 a5 a6 b8 b9 b10 a11 a12 a13 a14 b15 b19 b20 b21 a24 a25 a26 a F hM hF (by omega)) (cwV 1 C.ts gX9_corner_X9_isFace rfl rfl rfl ⟨rfl, hdX9_corner_X9_isFace⟩ ⟨Nat.le_of_ble_eq_true rfl, Nat.le_of_ble_eq_true rfl⟩) (k_preV C hX (hM.at 0 rfl) rfl) rfl rfl hl.1 rfl (lv_room (Nat.le_of_ble_eq_true rfl)) dX9_corner_3 ⟨Nat.le_of_ble_eq_true rfl, Nat.le_of_ble_eq_true rfl⟩) hX (fun r3 f3 H locs hp3 hX => ?_)
  obtain ⟨hr3, hf3⟩ := hp3
  rw [hf3] at hX
  refine k_topi (y := (kbI (mIn a F))) hr3 ?_
  refine lv_if_eq (tgt := 25) C.x C.b dX9_corner_6 (by decide) (fun c_6 => ?_) (fun c_6 => ?_)
  · skip
    have c_6 := kbI_0 c_6
    refine lv_iconst (v := nI 1) C.x C.b dX9_corner_25 (by decide) ?_
    refine k_put (X := RX9) (T := TX9) (N := 28) (ty := .int) (v := .int (nI 1)) C hX (hM.at 0 rfl) rfl hin_X9_corner_RX9 tyX9_ok nmX9 27 (by decide) lk_X9_corner_f80 (fun _ h9 => h9) rfl (by decide +kernel) rfl rfl (Nat.le_of_ble_eq_true rfl) dX9_corner_26 (fun H locs hX => ?_)
    obtain ⟨g1, hX, hM, hO⟩ := kX.wr hX hM hO 0 rfl (List.mem_of_getElem? (i := 0) rfl)
    have hM : kCs g1 (mC G h q i0 i1 i3 i7 i18 i22 i23 (nI 1) j16 j17 a2 a4 a5 a6 b8 b9 b10 a11 a12 a13 a14 b15 b19 b20 b21 a24 a25 a26) := hM
    refine lv_aload_n C.x C.b dX9_corner_29 rfl (lv_at hl 0 rfl) ?_
    refine k_get (X := RX9) (T := TX9) (N := 28) (v := .int (nI 1)) C hX (hM.at 0 rfl) rfl hin_X9_corner_RX9 27 (by decide) lk_X9_corner_f80 (fun _ h9 => h9) rfl dX9_corner_30 ?_
    refine lv_if_le (tgt := 40) C.x C.b dX9_corner_33 (by decide) (fun c_33 => ?_) (fun c_33 => ?_)
    · exact absurd c_33 (by decide)
    refine lv_iconst (v := nI 0) C.x C.b dX9_corner_36 (by decide) ?_
    refine lv_goto (tgt := 50) C.x C.b dX9_corner_37 (by decide) ?_
    exact k_iret C hX hr hlocks hQ (by omega) (by omega) (⟨rfl, hM, hO⟩) dX9_corner_50
  · skip
    have c_6 := kbI_1 c_6
    refine lv_iload_n C.x C.b dX9_corner_9 rfl (lv_at hl 2 rfl) ?_
    refine lv_i2l (v := b.toInt64) C.x C.b dX9_corner_10 rfl ?_
    refine lv_lconst (v := 0) C.x C.b dX9_corner_11 (by decide) ?_
    refine lv_ldc2 (v := 2) C.x C.b C.ow (C.ts _ lk_X9_corner_c109) dX9_corner_12 ?_
    refine k_calli (va_runS (As := [.long b.toInt64, .long 0, .long 2]) (rest := [.ref h]) C.1 (kX9_isIn l G B0 f b.toInt64 0 2) (va_cwS 3 C.ts gX9_corner_X9_isIn rfl rfl rfl (hdX9_corner_X9_isIn) ⟨Nat.le_of_ble_eq_true rfl, Nat.le_of_ble_eq_true rfl⟩) (k_preS C hX) rfl rfl hl.1 rfl (lv_room (Nat.le_of_ble_eq_true rfl)) dX9_corner_15 ⟨Nat.le_of_ble_eq_true rfl, Nat.le_of_ble_eq_true rfl⟩) hX (fun r15 f15 H locs hp15 hX => ?_)
    obtain ⟨hr15, hf15⟩ := hp15
    rw [hf15] at hX
    refine k_topi (y := (kbI ((0 : Int64) ≤ b.toInt64 ∧ b.toInt64 ≤ 2))) hr15 ?_
    refine k_topi (y := (kbI (mRg b (0) 2))) (kbI_c (m_rg (by decide) (by decide))) ?_
    refine lv_if_eq (tgt := 25) C.x C.b dX9_corner_18 (by decide) (fun c_18 => ?_) (fun c_18 => ?_)
    · skip
      have c_18 := kbI_0 c_18
      refine lv_iconst (v := nI 1) C.x C.b dX9_corner_25 (by decide) ?_
      refine k_put (X := RX9) (T := TX9) (N := 28) (ty := .int) (v := .int (nI 1)) C hX (hM.at 0 rfl) rfl hin_X9_corner_RX9 tyX9_ok nmX9 27 (by decide) lk_X9_corner_f80 (fun _ h9 => h9) rfl (by decide +kernel) rfl rfl (Nat.le_of_ble_eq_true rfl) dX9_corner_26 (fun H locs hX => ?_)
      obtain ⟨g2, hX, hM, hO⟩ := kX.wr hX hM hO 0 rfl (List.mem_of_getElem? (i := 0) rfl)
      have hM : kCs g2 (mC G h q i0 i1 i3 i7 i18 i22 i23 (nI 1) j16 j17 a2 a4 a5 a6 b8 b9 b10 a11 a12 a13 a14 b15 b19 b20 b21 a24 a25 a26) := hM
      refine lv_aload_n C.x C.b dX9_corner_29 rfl (lv_at hl 0 rfl) ?_
      refine k_get (X := RX9) (T := TX9) (N := 28) (v := .int (nI 1)) C hX (hM.at 0 rfl) rfl hin_X9_corner_RX9 27 (by decide) lk_X9_corner_f80 (fun _ h9 => h9) rfl dX9_corner_30 ?_
      refine lv_if_le (tgt := 40) C.x C.b dX9_corner_33 (by decide) (fun c_33 => ?_) (fun c_33 => ?_)
      · exact absurd c_33 (by decide)
      refine lv_iconst (v := nI 0) C.x C.b dX9_corner_36 (by decide) ?_
      refine lv_goto (tgt := 50) C.x C.b dX9_corner_37 (by decide) ?_
      exact k_iret C hX hr hlocks hQ (by omega) (by omega) (⟨rfl, hM, hO⟩) dX9_corner_50
    · skip
      have c_18 := kbI_1 c_18
      exact absurd ⟨c_6, c_18⟩ hv

theorem lk_X9_corner_f16 : Cond.fieldLink RX9 16 "KoebehallModel" "face" "[I" ∈ wsX9_corner := by decide +kernel
abbrev rmX9_corner : Room := { frames := 2, cells := 0, slots := 0, locals := 46 }
set_option maxHeartbeats 4000000 in
set_option maxRecDepth 100000 in
/-- X9_corner -/
theorem kX9_corner (l : Launch) (G : kG) (B0 : Nat) (f : kH) (h : Nat) (q : Nat → Nat) (i0 i1 i3 i7 i18 i22 i23 i27 : Int32) (j16 j17 : Int64) (a2 : Nat → Int32) (a4 : Nat → Int32) (a5 : Nat → Int32) (a6 : Nat → Int32) (b8 : Nat → Int64) (b9 : Nat → Int64) (b10 : Nat → Int64) (a11 : Nat → Int32) (a12 : Nat → Int32) (a13 : Nat → Int32) (a14 : Nat → Int32) (b15 : Nat → Int64) (b19 : Nat → Int64) (b20 : Nat → Int64) (b21 : Nat → Int64) (a24 : Nat → Int32) (a25 : Nat → Int32) (a26 : Nat → Int32) (t k : Nat) (F : Nat) (hM : kCs f (mC G h q i0 i1 i3 i7 i18 i22 i23 i27 j16 j17 a2 a4 a5 a6 b8 b9 b10 a11 a12 a13 a14 b15 b19 b20 b21 a24 a25 a26)) (hF : i1 = nI F) (hF9 : F ≤ 28) (ht : t < F) (hk : k < 3) : Met l yX9_corner wsX9_corner (rmX9_corner) (kP G B0 f [.ref h, .int (nI t), .int (nI k)]) (kQi G B0 (fun r f1 => r = a2 (3 * t + k) ∧ kCs f1 (mC G h q i0 i1 i3 i7 i18 i22 i23 (nI 0) j16 j17 a2 a4 a5 a6 b8 b9 b10 a11 a12 a13 a14 b15 b19 b20 b21 a24 a25 a26) ∧ kOff (mAs h q) f f1)) 0 0 (kAb B0) := by
  refine kMet (cc := cX9_corner) (maxL := 3) (ret := (some .int)) (by decide) rfl (Nat.le_of_ble_eq_true rfl) ?_
  intro p e s m args below meth c H locs Q ls C hX hl hr hlocks hnm hQ
  have hO : kOff (mAs h q) f f := kOff.rf
  have hl : lv_has ls 3 [(0, .ref h), (1, .int (nI t)), (2, .int (nI k))] := hl
  refine lv_aload_n C.x C.b dX9_corner_0 rfl (lv_at hl 0 rfl) ?_
  refine lv_aload_n C.x C.b dX9_corner_1 rfl (lv_at hl 0 rfl) ?_
  refine lv_iload_n C.x C.b dX9_corner_2 rfl (lv_at hl 1 rfl) ?_
  refine k_calli (va_runV (As := [.int (nI t)]) (rest := [.ref h]) C.1 (kX9_isFace l G B0 f h q i0 i1 i3 i7 i18 i22 i23 i27 j16 j17 a2 a4 a5 a6 b8 b9 b10 a11 a12 a13 a14 b15 b19 b20 b21 a24 a25 a26 (nI t) F hM hF (by omega)) (cwV 1 C.ts gX9_corner_X9_isFace rfl rfl rfl ⟨rfl, hdX9_corner_X9_isFace⟩ ⟨Nat.le_of_ble_eq_true rfl, Nat.le_of_ble_eq_true rfl⟩) (k_preV C hX (hM.at 0 rfl) rfl) rfl rfl hl.1 rfl (lv_room (Nat.le_of_ble_eq_true rfl)) dX9_corner_3 ⟨Nat.le_of_ble_eq_true rfl, Nat.le_of_ble_eq_true rfl⟩) hX (fun r3 f3 H locs hp3 hX => ?_)
  obtain ⟨hr3, hf3⟩ := hp3
  rw [hf3] at hX
  refine k_topi (y := (kbI (mIn (nI t) F))) hr3 ?_
  refine lv_if_eq (tgt := 25) C.x C.b dX9_corner_6 (by decide) (fun c_6 => ?_) (fun c_6 => ?_)
  · exact absurd ((mIn_nI (by omega)).mpr ht) (kbI_0 c_6)
  refine lv_iload_n C.x C.b dX9_corner_9 rfl (lv_at hl 2 rfl) ?_
  refine lv_i2l (v := (nI k).toInt64) C.x C.b dX9_corner_10 rfl ?_
  refine lv_lconst (v := 0) C.x C.b dX9_corner_11 (by decide) ?_
  refine lv_ldc2 (v := 2) C.x C.b C.ow (C.ts _ lk_X9_corner_c109) dX9_corner_12 ?_
  refine k_calli (va_runS (As := [.long ((nI k).toInt64), .long 0, .long 2]) (rest := [.ref h]) C.1 (kX9_isIn l G B0 f ((nI k).toInt64) 0 2) (va_cwS 3 C.ts gX9_corner_X9_isIn rfl rfl rfl (hdX9_corner_X9_isIn) ⟨Nat.le_of_ble_eq_true rfl, Nat.le_of_ble_eq_true rfl⟩) (k_preS C hX) rfl rfl hl.1 rfl (lv_room (Nat.le_of_ble_eq_true rfl)) dX9_corner_15 ⟨Nat.le_of_ble_eq_true rfl, Nat.le_of_ble_eq_true rfl⟩) hX (fun r15 f15 H locs hp15 hX => ?_)
  obtain ⟨hr15, hf15⟩ := hp15
  rw [hf15] at hX
  refine k_topi (y := (kbI ((0 : Int64) ≤ (nI k).toInt64 ∧ (nI k).toInt64 ≤ 2))) hr15 ?_
  refine k_topi (y := (kbI (mRg (nI k) (0) 2))) (kbI_c (m_rg (by decide) (by decide))) ?_
  refine lv_if_eq (tgt := 25) C.x C.b dX9_corner_18 (by decide) (fun c_18 => ?_) (fun c_18 => ?_)
  · exact absurd ((by rw [mRg, nI_toInt (by omega)]; omega)) (kbI_0 c_18)
  refine lv_iconst (v := nI 0) C.x C.b dX9_corner_21 (by decide) ?_
  refine lv_goto (tgt := 26) C.x C.b dX9_corner_22 (by decide) ?_
  refine k_put (X := RX9) (T := TX9) (N := 28) (ty := .int) (v := .int (nI 0)) C hX (hM.at 0 rfl) rfl hin_X9_corner_RX9 tyX9_ok nmX9 27 (by decide) lk_X9_corner_f80 (fun _ h9 => h9) rfl (by decide +kernel) rfl rfl (Nat.le_of_ble_eq_true rfl) dX9_corner_26 (fun H locs hX => ?_)
  obtain ⟨g1, hX, hM, hO⟩ := kX.wr hX hM hO 0 rfl (List.mem_of_getElem? (i := 0) rfl)
  have hM : kCs g1 (mC G h q i0 i1 i3 i7 i18 i22 i23 (nI 0) j16 j17 a2 a4 a5 a6 b8 b9 b10 a11 a12 a13 a14 b15 b19 b20 b21 a24 a25 a26) := hM
  refine lv_aload_n C.x C.b dX9_corner_29 rfl (lv_at hl 0 rfl) ?_
  refine k_get (X := RX9) (T := TX9) (N := 28) (v := .int (nI 0)) C hX (hM.at 0 rfl) rfl hin_X9_corner_RX9 27 (by decide) lk_X9_corner_f80 (fun _ h9 => h9) rfl dX9_corner_30 ?_
  refine lv_if_le (tgt := 40) C.x C.b dX9_corner_33 (by decide) (fun c_33 => ?_) (fun c_33 => ?_)
  rotate_left
  · exact absurd c_33 (by decide)
  refine lv_aload_n C.x C.b dX9_corner_40 rfl (lv_at hl 0 rfl) ?_
  refine k_get (X := RX9) (T := TX9) (N := 28) (v := .ref (q 2)) C hX (hM.at 0 rfl) rfl hin_X9_corner_RX9 2 (by decide) lk_X9_corner_f16 (fun _ h9 => h9) rfl dX9_corner_41 ?_
  refine lv_iconst (v := nI 3) C.x C.b dX9_corner_44 (by decide) ?_
  refine lv_iload_n C.x C.b dX9_corner_45 rfl (lv_at hl 1 rfl) ?_
  refine lv_imul C.x C.b dX9_corner_46 ?_
  refine k_topi (y := nI (3 * t)) (pk_mul _ _) ?_
  refine lv_iload_n C.x C.b dX9_corner_47 rfl (lv_at hl 2 rfl) ?_
  refine lv_iadd C.x C.b dX9_corner_48 ?_
  refine k_topi (y := nI ((3 * t) + k)) (nI_add _ _) ?_
  refine k_iald C hX (hM.at 1 rfl) (vp_in_nI (by omega) (by omega)) dX9_corner_49 ?_
  refine k_topi (y := a2 ((3 * t) + k)) (by rw [nI_clamp (by omega)]) ?_
  exact k_iret C hX hr hlocks hQ (by omega) (by omega) (⟨rfl, hM, hO⟩) dX9_corner_50

theorem hdX9_around_X9_isCorner : yX9_isCorner.cls ≠ "java/lang/invoke/MethodHandle" ∧ yX9_isCorner.cls ≠ "java/lang/invoke/VarHandle" ∧ (parseMethodDescriptor yX9_isCorner.desc).map (fun d => d.parameters.length) = some 1 := by decide +kernel
theorem lk_X9_around_f80 : Cond.fieldLink RX9 80 "KoebehallModel" "thrown" "I" ∈ wsX9_around := by decide +kernel
theorem hin_X9_around_RX9 : ∀ w ∈ u_ws RX9 TX9 28, w ∈ wsX9_around := by decide +kernel
abbrev rmX9_around_b1 : Room := { frames := 2, cells := 0, slots := 0, locals := 46 }
set_option maxHeartbeats 4000000 in
set_option maxRecDepth 100000 in
/-- X9_around_b1 -/
theorem kX9_around_b1 (l : Launch) (G : kG) (B0 : Nat) (f : kH) (h : Nat) (q : Nat → Nat) (i0 i1 i3 i7 i18 i22 i23 i27 : Int32) (j16 j17 : Int64) (a2 : Nat → Int32) (a4 : Nat → Int32) (a5 : Nat → Int32) (a6 : Nat → Int32) (b8 : Nat → Int64) (b9 : Nat → Int64) (b10 : Nat → Int64) (a11 : Nat → Int32) (a12 : Nat → Int32) (a13 : Nat → Int32) (a14 : Nat → Int32) (b15 : Nat → Int64) (b19 : Nat → Int64) (b20 : Nat → Int64) (b21 : Nat → Int64) (a24 : Nat → Int32) (a25 : Nat → Int32) (a26 : Nat → Int32) (a b : Int32) (F cc : Nat) (hM : kCs f (mC G h q i0 i1 i3 i7 i18 i22 i23 i27 j16 j17 a2 a4 a5 a6 b8 b9 b10 a11 a12 a13 a14 b15 b19 b20 b21 a24 a25 a26)) (hF : i1 = nI F) (hF9 : F ≤ 28) (hc0 : i0 = nI cc) (hc9 : cc ≤ 16) (hv : ¬ (mIn a cc ∧ ¬ b < 0)) : Met l yX9_around wsX9_around (rmX9_around_b1) (kP G B0 f [.ref h, .int a, .int b]) (kQi G B0 (fun r f1 => r = nI 0 ∧ kCs f1 (mC G h q i0 i1 i3 i7 i18 i22 i23 (nI 1) j16 j17 a2 a4 a5 a6 b8 b9 b10 a11 a12 a13 a14 b15 b19 b20 b21 a24 a25 a26) ∧ kOff (mAs h q) f f1)) 0 0 (kAb B0) := by
  refine kMet (cc := cX9_around) (maxL := 5) (ret := (some .int)) (by decide) rfl (Nat.le_of_ble_eq_true rfl) ?_
  intro p e s m args below meth c H locs Q ls C hX hl hr hlocks hnm hQ
  have hO : kOff (mAs h q) f f := kOff.rf
  have hl : lv_has ls 5 [(0, .ref h), (1, .int a), (2, .int b)] := hl
  refine lv_aload_n C.x C.b dX9_around_0 rfl (lv_at hl 0 rfl) ?_
  refine lv_aload_n C.x C.b dX9_around_1 rfl (lv_at hl 0 rfl) ?_
  refine lv_iload_n C.x C.b dX9_around_2 rfl (lv_at hl 1 rfl) ?_
  refine k_calli (va_runV (As := [.int a]) (rest := [.ref h]) C.1 (kX9_isCorner l G B0 f h q i0 i1 i3 i7 i18 i22 i23 i27 j16 j17 a2 a4 a5 a6 b8 b9 b10 a11 a12 a13 a14 b15 b19 b20 b21 a24 a25 a26 a cc hM hc0 (by omega)) (cwV 1 C.ts gX9_around_X9_isCorner rfl rfl rfl ⟨rfl, hdX9_around_X9_isCorner⟩ ⟨Nat.le_of_ble_eq_true rfl, Nat.le_of_ble_eq_true rfl⟩) (k_preV C hX (hM.at 0 rfl) rfl) rfl rfl hl.1 rfl (lv_room (Nat.le_of_ble_eq_true rfl)) dX9_around_3 ⟨Nat.le_of_ble_eq_true rfl, Nat.le_of_ble_eq_true rfl⟩) hX (fun r3 f3 H locs hp3 hX => ?_)
  obtain ⟨hr3, hf3⟩ := hp3
  rw [hf3] at hX
  refine k_topi (y := (kbI (mIn a cc))) hr3 ?_
  refine lv_if_eq (tgt := 17) C.x C.b dX9_around_6 (by decide) (fun c_6 => ?_) (fun c_6 => ?_)
  · skip
    have c_6 := kbI_0 c_6
    refine lv_iconst (v := nI 1) C.x C.b dX9_around_17 (by decide) ?_
    refine k_put (X := RX9) (T := TX9) (N := 28) (ty := .int) (v := .int (nI 1)) C hX (hM.at 0 rfl) rfl hin_X9_around_RX9 tyX9_ok nmX9 27 (by decide) lk_X9_around_f80 (fun _ h9 => h9) rfl (by decide +kernel) rfl rfl (Nat.le_of_ble_eq_true rfl) dX9_around_18 (fun H locs hX => ?_)
    obtain ⟨g1, hX, hM, hO⟩ := kX.wr hX hM hO 0 rfl (List.mem_of_getElem? (i := 0) rfl)
    have hM : kCs g1 (mC G h q i0 i1 i3 i7 i18 i22 i23 (nI 1) j16 j17 a2 a4 a5 a6 b8 b9 b10 a11 a12 a13 a14 b15 b19 b20 b21 a24 a25 a26) := hM
    refine lv_aload_n C.x C.b dX9_around_21 rfl (lv_at hl 0 rfl) ?_
    refine k_get (X := RX9) (T := TX9) (N := 28) (v := .int (nI 1)) C hX (hM.at 0 rfl) rfl hin_X9_around_RX9 27 (by decide) lk_X9_around_f80 (fun _ h9 => h9) rfl dX9_around_22 ?_
    refine lv_if_le (tgt := 30) C.x C.b dX9_around_25 (by decide) (fun c_25 => ?_) (fun c_25 => ?_)
    · exact absurd c_25 (by decide)
    refine lv_iconst (v := nI 0) C.x C.b dX9_around_28 (by decide) ?_
    exact k_iret C hX hr hlocks hQ (by omega) (by omega) (⟨rfl, hM, hO⟩) dX9_around_29
  · skip
    have c_6 := kbI_1 c_6
    refine lv_iload_n C.x C.b dX9_around_9 rfl (lv_at hl 2 rfl) ?_
    refine lv_if_lt (tgt := 17) C.x C.b dX9_around_10 (by decide) (fun c_10 => ?_) (fun c_10 => ?_)
    · skip
      refine lv_iconst (v := nI 1) C.x C.b dX9_around_17 (by decide) ?_
      refine k_put (X := RX9) (T := TX9) (N := 28) (ty := .int) (v := .int (nI 1)) C hX (hM.at 0 rfl) rfl hin_X9_around_RX9 tyX9_ok nmX9 27 (by decide) lk_X9_around_f80 (fun _ h9 => h9) rfl (by decide +kernel) rfl rfl (Nat.le_of_ble_eq_true rfl) dX9_around_18 (fun H locs hX => ?_)
      obtain ⟨g2, hX, hM, hO⟩ := kX.wr hX hM hO 0 rfl (List.mem_of_getElem? (i := 0) rfl)
      have hM : kCs g2 (mC G h q i0 i1 i3 i7 i18 i22 i23 (nI 1) j16 j17 a2 a4 a5 a6 b8 b9 b10 a11 a12 a13 a14 b15 b19 b20 b21 a24 a25 a26) := hM
      refine lv_aload_n C.x C.b dX9_around_21 rfl (lv_at hl 0 rfl) ?_
      refine k_get (X := RX9) (T := TX9) (N := 28) (v := .int (nI 1)) C hX (hM.at 0 rfl) rfl hin_X9_around_RX9 27 (by decide) lk_X9_around_f80 (fun _ h9 => h9) rfl dX9_around_22 ?_
      refine lv_if_le (tgt := 30) C.x C.b dX9_around_25 (by decide) (fun c_25 => ?_) (fun c_25 => ?_)
      · exact absurd c_25 (by decide)
      refine lv_iconst (v := nI 0) C.x C.b dX9_around_28 (by decide) ?_
      exact k_iret C hX hr hlocks hQ (by omega) (by omega) (⟨rfl, hM, hO⟩) dX9_around_29
    · skip
      exact absurd ⟨c_6, c_10⟩ hv

theorem hdX9_around_X9_degree : yX9_degree.cls ≠ "java/lang/invoke/MethodHandle" ∧ yX9_degree.cls ≠ "java/lang/invoke/VarHandle" ∧ (parseMethodDescriptor yX9_degree.desc).map (fun d => d.parameters.length) = some 1 := by decide +kernel
abbrev rmX9_around_no : Room := { frames := 3, cells := 0, slots := 0, locals := 70 }
set_option maxHeartbeats 4000000 in
set_option maxRecDepth 100000 in
/-- X9_around_no -/
theorem kX9_around_no (l : Launch) (G : kG) (B0 : Nat) (f : kH) (h : Nat) (q : Nat → Nat) (i0 i1 i3 i7 i18 i22 i23 i27 : Int32) (j16 j17 : Int64) (a2 : Nat → Int32) (a4 : Nat → Int32) (a5 : Nat → Int32) (a6 : Nat → Int32) (b8 : Nat → Int64) (b9 : Nat → Int64) (b10 : Nat → Int64) (a11 : Nat → Int32) (a12 : Nat → Int32) (a13 : Nat → Int32) (a14 : Nat → Int32) (b15 : Nat → Int64) (b19 : Nat → Int64) (b20 : Nat → Int64) (b21 : Nat → Int64) (a24 : Nat → Int32) (a25 : Nat → Int32) (a26 : Nat → Int32) (a b : Int32) (F cc : Nat) (hM : kCs f (mC G h q i0 i1 i3 i7 i18 i22 i23 i27 j16 j17 a2 a4 a5 a6 b8 b9 b10 a11 a12 a13 a14 b15 b19 b20 b21 a24 a25 a26)) (hF : i1 = nI F) (hF9 : F ≤ 28) (hc0 : i0 = nI cc) (hc9 : cc ≤ 16) (hv : mIn a cc ∧ ¬ b < 0) (hd : nI (mDeg a2 F a cc) ≤ b) : Met l yX9_around wsX9_around (rmX9_around_no) (kP G B0 f [.ref h, .int a, .int b]) (kQi G B0 (fun r f1 => r = -1 ∧ kCs f1 (mC G h q i0 i1 i3 i7 i18 i22 i23 (nI 0) j16 j17 a2 a4 a5 a6 b8 b9 b10 a11 a12 a13 a14 b15 b19 b20 b21 a24 a25 a26) ∧ kOff (mAs h q) f f1)) 0 0 (kAb B0) := by
  refine kMet (cc := cX9_around) (maxL := 5) (ret := (some .int)) (by decide) rfl (Nat.le_of_ble_eq_true rfl) ?_
  intro p e s m args below meth c H locs Q ls C hX hl hr hlocks hnm hQ
  have hO : kOff (mAs h q) f f := kOff.rf
  have hl : lv_has ls 5 [(0, .ref h), (1, .int a), (2, .int b)] := hl
  refine lv_aload_n C.x C.b dX9_around_0 rfl (lv_at hl 0 rfl) ?_
  refine lv_aload_n C.x C.b dX9_around_1 rfl (lv_at hl 0 rfl) ?_
  refine lv_iload_n C.x C.b dX9_around_2 rfl (lv_at hl 1 rfl) ?_
  refine k_calli (va_runV (As := [.int a]) (rest := [.ref h]) C.1 (kX9_isCorner l G B0 f h q i0 i1 i3 i7 i18 i22 i23 i27 j16 j17 a2 a4 a5 a6 b8 b9 b10 a11 a12 a13 a14 b15 b19 b20 b21 a24 a25 a26 a cc hM hc0 (by omega)) (cwV 1 C.ts gX9_around_X9_isCorner rfl rfl rfl ⟨rfl, hdX9_around_X9_isCorner⟩ ⟨Nat.le_of_ble_eq_true rfl, Nat.le_of_ble_eq_true rfl⟩) (k_preV C hX (hM.at 0 rfl) rfl) rfl rfl hl.1 rfl (lv_room (Nat.le_of_ble_eq_true rfl)) dX9_around_3 ⟨Nat.le_of_ble_eq_true rfl, Nat.le_of_ble_eq_true rfl⟩) hX (fun r3 f3 H locs hp3 hX => ?_)
  obtain ⟨hr3, hf3⟩ := hp3
  rw [hf3] at hX
  refine k_topi (y := (kbI (mIn a cc))) hr3 ?_
  refine lv_if_eq (tgt := 17) C.x C.b dX9_around_6 (by decide) (fun c_6 => ?_) (fun c_6 => ?_)
  · exact absurd (hv.1) (kbI_0 c_6)
  refine lv_iload_n C.x C.b dX9_around_9 rfl (lv_at hl 2 rfl) ?_
  refine lv_if_lt (tgt := 17) C.x C.b dX9_around_10 (by decide) (fun c_10 => ?_) (fun c_10 => ?_)
  · skip
    exact absurd c_10 hv.2
  · skip
    refine lv_iconst (v := nI 0) C.x C.b dX9_around_13 (by decide) ?_
    refine lv_goto (tgt := 18) C.x C.b dX9_around_14 (by decide) ?_
    refine k_put (X := RX9) (T := TX9) (N := 28) (ty := .int) (v := .int (nI 0)) C hX (hM.at 0 rfl) rfl hin_X9_around_RX9 tyX9_ok nmX9 27 (by decide) lk_X9_around_f80 (fun _ h9 => h9) rfl (by decide +kernel) rfl rfl (Nat.le_of_ble_eq_true rfl) dX9_around_18 (fun H locs hX => ?_)
    obtain ⟨g1, hX, hM, hO⟩ := kX.wr hX hM hO 0 rfl (List.mem_of_getElem? (i := 0) rfl)
    have hM : kCs g1 (mC G h q i0 i1 i3 i7 i18 i22 i23 (nI 0) j16 j17 a2 a4 a5 a6 b8 b9 b10 a11 a12 a13 a14 b15 b19 b20 b21 a24 a25 a26) := hM
    refine lv_aload_n C.x C.b dX9_around_21 rfl (lv_at hl 0 rfl) ?_
    refine k_get (X := RX9) (T := TX9) (N := 28) (v := .int (nI 0)) C hX (hM.at 0 rfl) rfl hin_X9_around_RX9 27 (by decide) lk_X9_around_f80 (fun _ h9 => h9) rfl dX9_around_22 ?_
    refine lv_if_le (tgt := 30) C.x C.b dX9_around_25 (by decide) (fun c_25 => ?_) (fun c_25 => ?_)
    rotate_left
    · exact absurd c_25 (by decide)
    refine lv_iload_n C.x C.b dX9_around_30 rfl (lv_at hl 2 rfl) ?_
    refine lv_aload_n C.x C.b dX9_around_31 rfl (lv_at hl 0 rfl) ?_
    refine lv_iload_n C.x C.b dX9_around_32 rfl (lv_at hl 1 rfl) ?_
    refine k_calli (va_runV (As := [.int a]) (rest := [.int b]) C.1 (kX9_degree l G B0 g1 h q i0 i1 i3 i7 i18 i22 i23 (nI 0) j16 j17 a2 a4 a5 a6 b8 b9 b10 a11 a12 a13 a14 b15 b19 b20 b21 a24 a25 a26 a F cc hM hF hF9 hc0 hc9) (cwV 1 C.ts gX9_around_X9_degree rfl rfl rfl ⟨rfl, hdX9_around_X9_degree⟩ ⟨Nat.le_of_ble_eq_true rfl, Nat.le_of_ble_eq_true rfl⟩) (k_preV C hX (hM.at 0 rfl) rfl) rfl rfl hl.1 rfl (lv_room (Nat.le_of_ble_eq_true rfl)) dX9_around_33 ⟨Nat.le_of_ble_eq_true rfl, Nat.le_of_ble_eq_true rfl⟩) hX (fun r33 f33 H locs hp33 hX => ?_)
    obtain ⟨hr33, hf33⟩ := hp33
    rw [hf33] at hX
    refine k_topi (y := (nI (mDeg a2 F a cc))) hr33 ?_
    refine lv_icmp_lt (tgt := 41) C.x C.b dX9_around_36 (by decide) (fun c_36 => ?_) (fun c_36 => ?_)
    · skip
      exact absurd c_36 (Int32.not_lt.mpr hd)
    · skip
      refine lv_iconst (v := -1) C.x C.b dX9_around_39 (by decide) ?_
      exact k_iret C hX hr hlocks hQ (by omega) (by omega) (⟨rfl, hM, hO⟩) dX9_around_40

theorem hdX9_around_X9_areNeighbours : yX9_areNeighbours.cls ≠ "java/lang/invoke/MethodHandle" ∧ yX9_areNeighbours.cls ≠ "java/lang/invoke/VarHandle" ∧ (parseMethodDescriptor yX9_areNeighbours.desc).map (fun d => d.parameters.length) = some 2 := by decide +kernel
theorem hdX9_around_X9_faceOf : yX9_faceOf.cls ≠ "java/lang/invoke/MethodHandle" ∧ yX9_faceOf.cls ≠ "java/lang/invoke/VarHandle" ∧ (parseMethodDescriptor yX9_faceOf.desc).map (fun d => d.parameters.length) = some 2 := by decide +kernel
theorem hdX9_around_X9_third : yX9_third.cls ≠ "java/lang/invoke/MethodHandle" ∧ yX9_third.cls ≠ "java/lang/invoke/VarHandle" ∧ (parseMethodDescriptor yX9_third.desc).map (fun d => d.parameters.length) = some 3 := by decide +kernel
abbrev rmX9_around : Room := { frames := 3, cells := 0, slots := 0, locals := 70 }
set_option maxHeartbeats 4000000 in
set_option maxRecDepth 100000 in
/-- X9_around -/
theorem kX9_around (l : Launch) (G : kG) (B0 : Nat) (f : kH) (h : Nat) (q : Nat → Nat) (i0 i1 i3 i7 i18 i22 i23 i27 : Int32) (j16 j17 : Int64) (a2 : Nat → Int32) (a4 : Nat → Int32) (a5 : Nat → Int32) (a6 : Nat → Int32) (b8 : Nat → Int64) (b9 : Nat → Int64) (b10 : Nat → Int64) (a11 : Nat → Int32) (a12 : Nat → Int32) (a13 : Nat → Int32) (a14 : Nat → Int32) (b15 : Nat → Int64) (b19 : Nat → Int64) (b20 : Nat → Int64) (b21 : Nat → Int64) (a24 : Nat → Int32) (a25 : Nat → Int32) (a26 : Nat → Int32) (a : Int32) (b F cc k0 : Nat) (hM : kCs f (mC G h q i0 i1 i3 i7 i18 i22 i23 i27 j16 j17 a2 a4 a5 a6 b8 b9 b10 a11 a12 a13 a14 b15 b19 b20 b21 a24 a25 a26)) (hF : i1 = nI F) (hF9 : F ≤ 28) (hc0 : i0 = nI cc) (hc9 : cc ≤ 16) (hv : mIn a cc) (hd : b < mDeg a2 F a cc) (hk0 : k0 < cc) (hk1 : mAdj a2 F a (nI k0)) (hk2 : ∀ j, j < k0 → ¬ mAdj a2 F a (nI j)) (hst : ∀ x, mAdj a2 F a x → mAdj a2 F a (mOpp a2 F a x)) : Met l yX9_around wsX9_around (rmX9_around) (kP G B0 f [.ref h, .int a, .int (nI b)]) (kQi G B0 (fun r f1 => r = mWalk a2 F a (nI k0) b ∧ kCs f1 (mC G h q i0 i1 i3 i7 i18 i22 i23 (nI 0) j16 j17 a2 a4 a5 a6 b8 b9 b10 a11 a12 a13 a14 b15 b19 b20 b21 a24 a25 a26) ∧ kOff (mAs h q) f f1)) 0 0 (kAb B0) := by
  refine kMet (cc := cX9_around) (maxL := 5) (ret := (some .int)) (by decide) rfl (Nat.le_of_ble_eq_true rfl) ?_
  intro p e s m args below meth c H locs Q ls C hX hl hr hlocks hnm hQ
  have hO : kOff (mAs h q) f f := kOff.rf
  have hl : lv_has ls 5 [(0, .ref h), (1, .int a), (2, .int (nI b))] := hl
  have hdc : mDeg a2 F a cc ≤ cc := kCnt_le _ _
  refine lv_aload_n C.x C.b dX9_around_0 rfl (lv_at hl 0 rfl) ?_
  refine lv_aload_n C.x C.b dX9_around_1 rfl (lv_at hl 0 rfl) ?_
  refine lv_iload_n C.x C.b dX9_around_2 rfl (lv_at hl 1 rfl) ?_
  refine k_calli (va_runV (As := [.int a]) (rest := [.ref h]) C.1 (kX9_isCorner l G B0 f h q i0 i1 i3 i7 i18 i22 i23 i27 j16 j17 a2 a4 a5 a6 b8 b9 b10 a11 a12 a13 a14 b15 b19 b20 b21 a24 a25 a26 a cc hM hc0 (by omega)) (cwV 1 C.ts gX9_around_X9_isCorner rfl rfl rfl ⟨rfl, hdX9_around_X9_isCorner⟩ ⟨Nat.le_of_ble_eq_true rfl, Nat.le_of_ble_eq_true rfl⟩) (k_preV C hX (hM.at 0 rfl) rfl) rfl rfl hl.1 rfl (lv_room (Nat.le_of_ble_eq_true rfl)) dX9_around_3 ⟨Nat.le_of_ble_eq_true rfl, Nat.le_of_ble_eq_true rfl⟩) hX (fun r3 f3 H locs hp3 hX => ?_)
  obtain ⟨hr3, hf3⟩ := hp3
  rw [hf3] at hX
  refine k_topi (y := (kbI (mIn a cc))) hr3 ?_
  refine lv_if_eq (tgt := 17) C.x C.b dX9_around_6 (by decide) (fun c_6 => ?_) (fun c_6 => ?_)
  · exact absurd (hv) (kbI_0 c_6)
  refine lv_iload_n C.x C.b dX9_around_9 rfl (lv_at hl 2 rfl) ?_
  refine lv_if_lt (tgt := 17) C.x C.b dX9_around_10 (by decide) (fun c_10 => ?_) (fun c_10 => ?_)
  · skip
    exact absurd c_10 (nI_pos (by omega))
  · skip
    refine lv_iconst (v := nI 0) C.x C.b dX9_around_13 (by decide) ?_
    refine lv_goto (tgt := 18) C.x C.b dX9_around_14 (by decide) ?_
    refine k_put (X := RX9) (T := TX9) (N := 28) (ty := .int) (v := .int (nI 0)) C hX (hM.at 0 rfl) rfl hin_X9_around_RX9 tyX9_ok nmX9 27 (by decide) lk_X9_around_f80 (fun _ h9 => h9) rfl (by decide +kernel) rfl rfl (Nat.le_of_ble_eq_true rfl) dX9_around_18 (fun H locs hX => ?_)
    obtain ⟨g1, hX, hM, hO⟩ := kX.wr hX hM hO 0 rfl (List.mem_of_getElem? (i := 0) rfl)
    have hM : kCs g1 (mC G h q i0 i1 i3 i7 i18 i22 i23 (nI 0) j16 j17 a2 a4 a5 a6 b8 b9 b10 a11 a12 a13 a14 b15 b19 b20 b21 a24 a25 a26) := hM
    refine lv_aload_n C.x C.b dX9_around_21 rfl (lv_at hl 0 rfl) ?_
    refine k_get (X := RX9) (T := TX9) (N := 28) (v := .int (nI 0)) C hX (hM.at 0 rfl) rfl hin_X9_around_RX9 27 (by decide) lk_X9_around_f80 (fun _ h9 => h9) rfl dX9_around_22 ?_
    refine lv_if_le (tgt := 30) C.x C.b dX9_around_25 (by decide) (fun c_25 => ?_) (fun c_25 => ?_)
    rotate_left
    · exact absurd c_25 (by decide)
    refine lv_iload_n C.x C.b dX9_around_30 rfl (lv_at hl 2 rfl) ?_
    refine lv_aload_n C.x C.b dX9_around_31 rfl (lv_at hl 0 rfl) ?_
    refine lv_iload_n C.x C.b dX9_around_32 rfl (lv_at hl 1 rfl) ?_
    refine k_calli (va_runV (As := [.int a]) (rest := [.int (nI b)]) C.1 (kX9_degree l G B0 g1 h q i0 i1 i3 i7 i18 i22 i23 (nI 0) j16 j17 a2 a4 a5 a6 b8 b9 b10 a11 a12 a13 a14 b15 b19 b20 b21 a24 a25 a26 a F cc hM hF hF9 hc0 hc9) (cwV 1 C.ts gX9_around_X9_degree rfl rfl rfl ⟨rfl, hdX9_around_X9_degree⟩ ⟨Nat.le_of_ble_eq_true rfl, Nat.le_of_ble_eq_true rfl⟩) (k_preV C hX (hM.at 0 rfl) rfl) rfl rfl hl.1 rfl (lv_room (Nat.le_of_ble_eq_true rfl)) dX9_around_33 ⟨Nat.le_of_ble_eq_true rfl, Nat.le_of_ble_eq_true rfl⟩) hX (fun r33 f33 H locs hp33 hX => ?_)
    obtain ⟨hr33, hf33⟩ := hp33
    rw [hf33] at hX
    refine k_topi (y := (nI (mDeg a2 F a cc))) hr33 ?_
    refine lv_icmp_lt (tgt := 41) C.x C.b dX9_around_36 (by decide) (fun c_36 => ?_) (fun c_36 => ?_)
    · skip
      have c_36 : b < mDeg a2 F a cc := (nI_ltI (by omega) (by omega)).mp c_36
      refine lv_iconst (v := nI 0) C.x C.b dX9_around_41 (by decide) ?_
      refine lv_istore_n (lv' := [(3, .int (nI 0)), (0, .ref h), (1, .int a), (2, .int (nI b))]) C.x C.b dX9_around_42 rfl hl (by decide) rfl (fun ls hl => ?_)
      have LOOP43 : ∀ (n : Nat) (j : Nat), (j ≤ k0) → (k0 - j) < n → ∀ (ls : Array Slot), lv_has ls 5 [(3, .int (nI j)), (0, .ref h), (1, .int a), (2, .int (nI b))] → ∀ (H : Heap) (locs : List Loc), kX G B0 s g1 H locs → W p l e (rmX9_around) s m args below meth c H locs 0 0 Q (F0 m 43 ls []) := by
        intro n43
        induction n43 with
        | zero => intro j hj hn; exact absurd hn (Nat.not_lt_zero _)
        | succ n43 ih43 =>
          intro j hj hn ls hl H locs hX
          refine lv_aload_n C.x C.b dX9_around_43 rfl (lv_at hl 1 rfl) ?_
          refine lv_iload_n C.x C.b dX9_around_44 rfl (lv_at hl 2 rfl) ?_
          refine lv_iload_n C.x C.b dX9_around_45 rfl (lv_at hl 0 rfl) ?_
          refine k_calli (va_runV (As := [.int a, .int (nI j)]) (rest := []) C.1 (kX9_areNeighbours l G B0 g1 h q i0 i1 i3 i7 i18 i22 i23 (nI 0) j16 j17 a2 a4 a5 a6 b8 b9 b10 a11 a12 a13 a14 b15 b19 b20 b21 a24 a25 a26 a (nI j) F hM hF hF9) (cwV 2 C.ts gX9_around_X9_areNeighbours rfl rfl rfl ⟨rfl, hdX9_around_X9_areNeighbours⟩ ⟨Nat.le_of_ble_eq_true rfl, Nat.le_of_ble_eq_true rfl⟩) (k_preV C hX (hM.at 0 rfl) rfl) rfl rfl hl.1 rfl (lv_room (Nat.le_of_ble_eq_true rfl)) dX9_around_46 ⟨Nat.le_of_ble_eq_true rfl, Nat.le_of_ble_eq_true rfl⟩) hX (fun r46 f46 H locs hp46 hX => ?_)
          obtain ⟨hr46, hf46⟩ := hp46
          rw [hf46] at hX
          refine k_topi (y := (kbI (mAdj a2 F a (nI j)))) hr46 ?_
          refine lv_if_ne (tgt := 58) C.x C.b dX9_around_49 (by decide) (fun c_49 => ?_) (fun c_49 => ?_)
          · skip
            have c_49 := kbI_1 c_49
            have hj9 : k0 = j := by rcases Nat.lt_or_ge j k0 with q9 | q9; exact absurd c_49 (hk2 j q9); omega
            subst hj9
            refine lv_iconst (v := nI 0) C.x C.b dX9_around_58 (by decide) ?_
            refine lv_istore (lv' := [(4, .int (nI 0)), (3, .int (nI k0)), (0, .ref h), (1, .int a), (2, .int (nI b))]) C.x C.b dX9_around_59 hl (by decide) rfl (fun ls hl => ?_)
            have LOOP61 : ∀ (n : Nat) (i : Nat), (i ≤ b) → (mAdj a2 F a (mWalk a2 F a (nI k0) i)) → (b - i) < n → ∀ (ls : Array Slot), lv_has ls 5 [(3, .int (mWalk a2 F a (nI k0) i)), (4, .int (nI i)), (0, .ref h), (1, .int a), (2, .int (nI b))] → ∀ (H : Heap) (locs : List Loc), kX G B0 s g1 H locs → W p l e (rmX9_around) s m args below meth c H locs 0 0 Q (F0 m 61 ls []) := by
              intro n61
              induction n61 with
              | zero => intro i hi hi2 hn; exact absurd hn (Nat.not_lt_zero _)
              | succ n61 ih61 =>
                intro i hi hi2 hn ls hl H locs hX
                refine lv_iload C.x C.b dX9_around_61 (lv_at hl 1 rfl) ?_
                refine lv_iload_n C.x C.b dX9_around_63 rfl (lv_at hl 4 rfl) ?_
                refine lv_icmp_ge (tgt := 86) C.x C.b dX9_around_64 (by decide) (fun c_64 => ?_) (fun c_64 => ?_)
                · skip
                  have c_64 : b ≤ i := (nI_leI (by omega) (by omega)).mp c_64
                  refine lv_iload_n C.x C.b dX9_around_86 rfl (lv_at hl 0 rfl) ?_
                  exact k_iret C hX hr hlocks hQ (by omega) (by omega) (⟨congrArg _ (by omega), hM, hO⟩) dX9_around_87
                · skip
                  have c_64 : ¬ (b ≤ i) := fun h9 => c_64 ((nI_leI (by omega) (by omega)).mpr h9)
                  obtain ⟨t1, ht1, e1⟩ := mAdj_face hi2 hF9
                  refine lv_aload_n C.x C.b dX9_around_67 rfl (lv_at hl 2 rfl) ?_
                  refine lv_aload_n C.x C.b dX9_around_68 rfl (lv_at hl 2 rfl) ?_
                  refine lv_iload_n C.x C.b dX9_around_69 rfl (lv_at hl 3 rfl) ?_
                  refine lv_iload_n C.x C.b dX9_around_70 rfl (lv_at hl 0 rfl) ?_
                  refine k_calli (va_runV (As := [.int a, .int (mWalk a2 F a (nI k0) i)]) (rest := [.ref h]) C.1 (kX9_faceOf l G B0 g1 h q i0 i1 i3 i7 i18 i22 i23 (nI 0) j16 j17 a2 a4 a5 a6 b8 b9 b10 a11 a12 a13 a14 b15 b19 b20 b21 a24 a25 a26 a (mWalk a2 F a (nI k0) i) F hM hF hF9) (cwV 2 C.ts gX9_around_X9_faceOf rfl rfl rfl ⟨rfl, hdX9_around_X9_faceOf⟩ ⟨Nat.le_of_ble_eq_true rfl, Nat.le_of_ble_eq_true rfl⟩) (k_preV C hX (hM.at 0 rfl) rfl) rfl rfl hl.1 rfl (lv_room (Nat.le_of_ble_eq_true rfl)) dX9_around_71 ⟨Nat.le_of_ble_eq_true rfl, Nat.le_of_ble_eq_true rfl⟩) hX (fun r71 f71 H locs hp71 hX => ?_)
                  obtain ⟨hr71, hf71⟩ := hp71
                  rw [hf71] at hX
                  refine k_topi (y := (mFaceOf a2 a (mWalk a2 F a (nI k0) i) (3 * F))) hr71 ?_
                  refine k_topi (y := (nI t1)) (e1) ?_
                  refine lv_iload_n C.x C.b dX9_around_74 rfl (lv_at hl 3 rfl) ?_
                  refine lv_iload_n C.x C.b dX9_around_75 rfl (lv_at hl 0 rfl) ?_
                  refine k_calli (va_runV (As := [.int (nI t1), .int a, .int (mWalk a2 F a (nI k0) i)]) (rest := []) C.1 (kX9_third l G B0 g1 h q i0 i1 i3 i7 i18 i22 i23 (nI 0) j16 j17 a2 a4 a5 a6 b8 b9 b10 a11 a12 a13 a14 b15 b19 b20 b21 a24 a25 a26 t1 a (mWalk a2 F a (nI k0) i) hM (by omega)) (cwV 3 C.ts gX9_around_X9_third rfl rfl rfl ⟨rfl, hdX9_around_X9_third⟩ ⟨Nat.le_of_ble_eq_true rfl, Nat.le_of_ble_eq_true rfl⟩) (k_preV C hX (hM.at 0 rfl) rfl) rfl rfl hl.1 rfl (lv_room (Nat.le_of_ble_eq_true rfl)) dX9_around_76 ⟨Nat.le_of_ble_eq_true rfl, Nat.le_of_ble_eq_true rfl⟩) hX (fun r76 f76 H locs hp76 hX => ?_)
                  obtain ⟨hr76, hf76⟩ := hp76
                  rw [hf76] at hX
                  refine k_topi (y := (mThird a2 (3 * t1) a (mWalk a2 F a (nI k0) i) 3)) hr76 ?_
                  refine k_topi (y := (mWalk a2 F a (nI k0) (i + 1))) (mOpp_at e1 (by omega)) ?_
                  refine lv_istore_n (lv' := [(3, .int (mWalk a2 F a (nI k0) (i + 1))), (4, .int (nI i)), (0, .ref h), (1, .int a), (2, .int (nI b))]) C.x C.b dX9_around_79 rfl hl (by decide) rfl (fun ls hl => ?_)
                  refine lv_iinc (v := (nI (i + 1))) (lv' := [(4, .int (nI (i + 1))), (3, .int (mWalk a2 F a (nI k0) (i + 1))), (0, .ref h), (1, .int a), (2, .int (nI b))]) C.x C.b dX9_around_80 hl (k := 1) rfl (nI_1 _) (by decide) rfl (fun ls hl => ?_)
                  refine lv_goto (tgt := 61) C.x C.b dX9_around_83 (by decide) ?_
                  exact ih61 (i + 1) (by omega) (hst _ hi2) (by omega) ls (lv_sub hl [1, 0, 2, 3, 4] rfl) _ _ hX
            exact LOOP61 _ 0 (Nat.zero_le _) hk1 (Nat.lt_succ_self _) ls (lv_sub hl [1, 0, 2, 3, 4] rfl) _ _ hX
          · skip
            have c_49 := kbI_0 c_49
            have hlt : j < k0 := by rcases Nat.lt_or_ge j k0 with q9 | q9; exact q9; exact absurd (by rw [show j = k0 by omega]; exact hk1) c_49
            refine lv_iinc (v := (nI (j + 1))) (lv' := [(3, .int (nI (j + 1))), (0, .ref h), (1, .int a), (2, .int (nI b))]) C.x C.b dX9_around_52 hl (k := 0) rfl (nI_1 _) (by decide) rfl (fun ls hl => ?_)
            refine lv_goto (tgt := 43) C.x C.b dX9_around_55 (by decide) ?_
            exact ih43 (j + 1) (by omega) (by omega) ls (lv_sub hl [0, 1, 2, 3] rfl) _ _ hX
      exact LOOP43 _ 0 (Nat.zero_le _) (Nat.lt_succ_self _) ls (lv_sub hl [0, 1, 2, 3] rfl) _ _ hX
    · skip
      have c_36 : ¬ (b < mDeg a2 F a cc) := fun h9 => c_36 ((nI_ltI (by omega) (by omega)).mpr h9)
      omega
