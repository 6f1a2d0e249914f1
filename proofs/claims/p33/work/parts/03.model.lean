/-! the reference's state: its ints i.., longs j.. by slot, its int and long arrays a.., b.. by slot, the arrays' addresses q by slot -/
def mC (G : kG) (h : Nat) (q : Nat → Nat) (i0 i1 i3 i7 i18 i22 i23 i27 : Int32) (j16 j17 : Int64) (a2 : Nat → Int32) (a4 : Nat → Int32) (a5 : Nat → Int32) (a6 : Nat → Int32) (b8 : Nat → Int64) (b9 : Nat → Int64) (b10 : Nat → Int64) (a11 : Nat → Int32) (a12 : Nat → Int32) (a13 : Nat → Int32) (a14 : Nat → Int32) (b15 : Nat → Int64) (b19 : Nat → Int64) (b20 : Nat → Int64) (b21 : Nat → Int64) (a24 : Nat → Int32) (a25 : Nat → Int32) (a26 : Nat → Int32) : va_W := [(h, .inr (9, [.int i0, .int i1, .ref (q 2), .int i3, .ref (q 4), .ref (q 5), .ref (q 6), .int i7, .ref (q 8), .ref (q 9), .ref (q 10), .ref (q 11), .ref (q 12), .ref (q 13), .ref (q 14), .ref (q 15), .long j16, .long j17, .int i18, .ref (q 19), .ref (q 20), .ref (q 21), .int i22, .int i23, .ref (q 24), .ref (q 25), .ref (q 26), .int i27])), (q 2, kaI G 84 a2), (q 4, kaI G 16 a4), (q 5, kaI G 16 a5), (q 6, kaI G 16 a6), (q 8, kaJ G 32 b8), (q 9, kaJ G 4 b9), (q 10, kaJ G 1024 b10), (q 11, kaI G 256 a11), (q 12, kaI G 256 a12), (q 13, kaZ G 4096 a13), (q 14, kaI G 4096 a14), (q 15, kaJ G 128 b15), (q 19, kaJ G 16 b19), (q 20, kaJ G 4 b20), (q 21, kaJ G 4 b21), (q 24, kaI G 10 a24), (q 25, kaI G 10 a25), (q 26, kaI G 6 a26)]
def mNx (k : Nat) : Nat := if k % 3 = 2 then k - 2 else k + 1
/-- the last spot below n at which b is named behind a, as a face -/
def mFaceOf (F : Nat → Int32) (a b : Int32) : Nat → Int32
  | 0 => -1
  | k + 1 => if F k = a ∧ F (mNx k) = b then nI (k / 3) else mFaceOf F a b k
/-- the last of n corners from t on that is neither a nor b -/
def mThird (F : Nat → Int32) (t : Nat) (a b : Int32) : Nat → Int32
  | 0 => -1
  | k + 1 => if F (t + k) ≠ a ∧ F (t + k) ≠ b then F (t + k) else mThird F t a b k
def mAs (h : Nat) (q : Nat → Nat) : List Nat := [h, q 2, q 4, q 5, q 6, q 8, q 9, q 10, q 11, q 12, q 13, q 14, q 15, q 19, q 20, q 21, q 24, q 25, q 26]
def mP0 (a b c : Int32) : Int32 := if a < b ∧ a < c then a else if b < a ∧ b < c then b else c
def mP1 (a b c : Int32) : Int32 := if a < b ∧ a < c then b else if b < a ∧ b < c then c else a
def mP2 (a b c : Int32) : Int32 := if a < b ∧ a < c then c else if b < a ∧ b < c then a else b
def mPut (F : Nat → Int32) (t : Nat) (a b c : Int32) : Nat → Int32 := upd (upd (upd F (3 * t) (mP0 a b c)) (3 * t + 1) (mP1 a b c)) (3 * t + 2) (mP2 a b c)
/-- x is one of the n first -/
abbrev mIn (x : Int32) (n : Nat) : Prop := 0 ≤ x.toInt ∧ x.toInt < n
theorem mIn_of {x : Int32} {n : Nat} (h : mIn x n) (hn : n < 2 ^ 31) : ∃ t, t < n ∧ x = nI t := by
  obtain ⟨j, h1, h2⟩ := vp_in_of (vp_in_iff.mpr h) hn
  exact ⟨j, h1, h2⟩
theorem mIn_nI {t n : Nat} (h : t < 2 ^ 31) : mIn (nI t) n ↔ t < n := by
  unfold mIn
  rw [nI_toInt h]
  omega
theorem m_in {x : Int32} {n : Nat} (hn : n < 2 ^ 31) : ((0 : Int64) ≤ x.toInt64 ∧ x.toInt64 ≤ (nI n - nI 1).toInt64) ↔ mIn x n := by
  have h1 : (nI n - nI 1).toInt = (n : Int) - 1 := by
    rw [Int32.toInt_sub, nI_toInt hn, nI_toInt (by omega : 1 < 2 ^ 31)]
    have h2 := Int32.toInt_lt (nI n)
    rw [nI_toInt hn] at h2
    rw [Int.bmod_eq_of_le] <;> omega
  rw [Int64.le_iff_toInt_le, Int64.le_iff_toInt_le, Int32.toInt_toInt64, Int32.toInt_toInt64, h1]
  unfold mIn
  rw [show (0 : Int64).toInt = 0 from rfl]
  omega
abbrev mRg (x : Int32) (a b : Int) : Prop := a ≤ x.toInt ∧ x.toInt ≤ b
theorem m_rg {x : Int32} {lo hi : Int64} {a b : Int} (h1 : lo.toInt = a) (h2 : hi.toInt = b) : (lo ≤ x.toInt64 ∧ x.toInt64 ≤ hi) ↔ mRg x a b := by
  rw [Int64.le_iff_toInt_le, Int64.le_iff_toInt_le, Int32.toInt_toInt64, h1, h2]
/-- counting -/
def kCnt (p : Nat → Prop) [DecidablePred p] : Nat → Nat
  | 0 => 0
  | k + 1 => kCnt p k + (if p k then 1 else 0)
def kCnt2 (p : Nat → Nat → Prop) [∀ a b, Decidable (p a b)] : Nat → Nat
  | 0 => 0
  | a + 1 => kCnt2 p a + kCnt (p a) a
theorem kCnt_le (p : Nat → Prop) [DecidablePred p] : ∀ n, kCnt p n ≤ n
  | 0 => Nat.le_refl 0
  | k + 1 => by
    have := kCnt_le p k
    simp only [kCnt]
    split <;> omega
theorem kCnt2_le (p : Nat → Nat → Prop) [∀ a b, Decidable (p a b)] : ∀ n, kCnt2 p n ≤ n * n
  | 0 => Nat.le_refl 0
  | k + 1 => by
    have h1 := kCnt2_le p k
    have h2 := kCnt_le (p k) k
    have h3 : (k + 1) * (k + 1) = k * k + 2 * k + 1 := by rw [Nat.add_mul, Nat.mul_add]; omega
    simp only [kCnt2]
    omega
theorem mFaceOf_in {FF : Nat → Int32} {a b : Int32} : ∀ {n : Nat}, mFaceOf FF a b n ≠ -1 → ∃ k, k < n ∧ FF k = a ∧ FF (mNx k) = b ∧ mFaceOf FF a b n = nI (k / 3)
  | 0, h => absurd rfl h
  | n + 1, h => by
    by_cases q : FF n = a ∧ FF (mNx n) = b
    · exact ⟨n, Nat.lt_succ_self n, q.1, q.2, by simp [mFaceOf, q]⟩
    · have e1 : mFaceOf FF a b (n + 1) = mFaceOf FF a b n := by simp only [mFaceOf]; rw [if_neg q]
      rw [e1] at h ⊢
      obtain ⟨k, h1, h2⟩ := mFaceOf_in h
      exact ⟨k, Nat.lt_succ_of_lt h1, h2⟩
abbrev mAdj (FF : Nat → Int32) (F : Nat) (a b : Int32) : Prop := ¬ mFaceOf FF a b (3 * F) = -1
theorem mAdj_face {FF : Nat → Int32} {F : Nat} {a b : Int32} (h : mAdj FF F a b) (hF : F ≤ 28) : ∃ t, t < F ∧ mFaceOf FF a b (3 * F) = nI t := by
  obtain ⟨k, h1, -, -, h2⟩ := mFaceOf_in h
  exact ⟨k / 3, by omega, h2⟩
theorem mThird_c {FF : Nat → Int32} {t : Nat} {a b : Int32} : ∀ n, mThird FF t a b n = mThird FF t b a n
  | 0 => rfl
  | n + 1 => by simp only [mThird, mThird_c n, and_comm]
/-- the third corner of the face in which b is named behind a -/
def mOpp (FF : Nat → Int32) (F : Nat) (a b : Int32) : Int32 := mThird FF (3 * (mFaceOf FF a b (3 * F)).toNatClampNeg) a b 3
theorem mOpp_at {FF : Nat → Int32} {F t : Nat} {a b : Int32} (h : mFaceOf FF a b (3 * F) = nI t) (ht : t < 2 ^ 31) : mThird FF (3 * t) a b 3 = mOpp FF F a b := by rw [mOpp, h, nI_clamp ht]
theorem mOpp_at2 {FF : Nat → Int32} {F t : Nat} {a b : Int32} (h : mFaceOf FF b a (3 * F) = nI t) (ht : t < 2 ^ 31) : mThird FF (3 * t) a b 3 = mOpp FF F b a := by rw [mThird_c, mOpp, h, nI_clamp ht]
abbrev mCanFlip (FF : Nat → Int32) (F : Nat) (a b : Int32) : Prop := mAdj FF F a b ∧ ¬ mAdj FF F (mOpp FF F a b) (mOpp FF F b a)
def mFlipV (x y : Int32) : Int32 := if x < y then nI 100 * x + y else nI 100 * y + x
/-- n steps around a, from x on -/
def mWalk (FF : Nat → Int32) (F : Nat) (a x : Int32) : Nat → Int32
  | 0 => x
  | n + 1 => mOpp FF F a (mWalk FF F a x n)
abbrev mDeg (FF : Nat → Int32) (F : Nat) (a : Int32) (n : Nat) : Nat := kCnt (fun k => mAdj FF F a (nI k)) n
def mMost (FF : Nat → Int32) (F cc : Nat) : Nat → Nat
  | 0 => 0
  | n + 1 => if mMost FF F cc n < mDeg FF F (nI n) cc then mDeg FF F (nI n) cc else mMost FF F cc n
theorem mMost_le (FF : Nat → Int32) (F cc : Nat) : ∀ n, mMost FF F cc n ≤ cc
  | 0 => Nat.zero_le _
  | n + 1 => by
    have h1 := mMost_le FF F cc n
    have h2 := kCnt_le (fun k => mAdj FF F (nI n) (nI k)) cc
    simp only [mMost]
    split <;> assumption
def mNet (FF : Nat → Int32) (F cc : Nat) (what : Nat) : Nat := if what = 0 then cc else if what = 1 then 3 * cc - 6 else if what = 2 then F else if what = 3 then kCnt2 (fun a b => mCanFlip FF F (nI a) (nI b)) cc else mMost FF F cc cc
