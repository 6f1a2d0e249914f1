/-! fractions: floor, greatest common divisor, the conditions on a fraction -/
theorem z_div {x y : Int64} (hy : 0 < y.toInt) : (x / y).toInt = x.toInt.tdiv y.toInt := by
  have h1 := fb_rngL0 x
  have hb : -9223372036854775808 ≤ x.toInt.tdiv y.toInt ∧ x.toInt.tdiv y.toInt < 9223372036854775808 := by
    have h3 : (x.toInt.tdiv y.toInt).natAbs ≤ x.toInt.natAbs := by rw [Int.natAbs_tdiv]; exact Nat.div_le_self _ _
    by_cases h : x.toInt < 0
    · have : x.toInt.tdiv y.toInt ≤ 0 := by
        have := Int.tdiv_nonneg (a := -x.toInt) (b := y.toInt) (by omega) (by omega)
        rw [Int.neg_tdiv] at this
        omega
      omega
    · omega
  rw [Int64.toInt_div, Int.bmod_eq_of_le] <;> omega
theorem lt64 {a b : Int64} : a < b ↔ a.toInt < b.toInt := Int64.lt_iff_toInt_lt
theorem le64 {a b : Int64} : a ≤ b ↔ a.toInt ≤ b.toInt := Int64.le_iff_toInt_le
theorem jFl_m {x y : Int64} (hy : 0 < y.toInt) : jFl x y = mFloor x y := by
  have e1 : (x ^^^ y < 0) ↔ x < 0 := by rw [xor_neg (by omega), lt64]; rfl
  have e2 : (x / y * y = x) ↔ lrem x y = 0 := by
    unfold lrem
    constructor
    · intro h; rw [h]; exact Int64.sub_self x
    · intro h; grind
  unfold jFl mFloor
  by_cases h : x < 0 <;> by_cases h2 : lrem x y = 0
  · rw [if_neg (fun q => q.2 (e2.mpr h2)), if_neg (fun q => q.2 h2)]
  · rw [if_pos ⟨e1.mpr h, fun q => h2 (e2.mp q)⟩, if_pos ⟨h, h2⟩]
  · rw [if_neg (fun q => h (e1.mp q.1)), if_neg (fun q => h q.1)]
  · rw [if_neg (fun q => h (e1.mp q.1)), if_neg (fun q => h q.1)]
theorem mFloor_i {x y : Int64} (hy : 0 < y.toInt) (hx : -9223372036854775808 < x.toInt) : (mFloor x y).toInt = x.toInt / y.toInt := by
  have h1 := fb_rngL0 x
  have e1 := z_div (x := x) hy
  have e2 := lrem_toInt (x := x) hy
  have hm := Int.mul_tdiv_add_tmod x.toInt y.toInt
  have hr := Int.tmod_lt_of_pos x.toInt hy
  have hr' := Int.lt_tmod_of_pos x.toInt hy
  have z0 : lrem x y = 0 ↔ x.toInt.tmod y.toInt = 0 := by rw [← e2, z_0]
  unfold mFloor
  by_cases h : x < 0 ∧ ¬ lrem x y = 0
  · have hx0 : x.toInt < 0 := lt64.mp h.1
    have hz : ¬ x.toInt.tmod y.toInt = 0 := fun q => h.2 (z0.mpr q)
    have hn : x.toInt.tmod y.toInt ≤ 0 := by
      have := Int.tmod_nonneg (a := -x.toInt) y.toInt (by omega)
      rw [Int.neg_tmod] at this; omega
    have hq : x.toInt.tdiv y.toInt ≤ 0 := by
      have := Int.tdiv_nonneg (a := -x.toInt) (b := y.toInt) (by omega) (by omega)
      rw [Int.neg_tdiv] at this; omega
    have hq' : (x.toInt.tdiv y.toInt).natAbs ≤ x.toInt.natAbs := by rw [Int.natAbs_tdiv]; exact Nat.div_le_self _ _
    rw [if_pos h, z_sub (by rw [e1]; show _ ≤ _ - 1; omega) (by rw [e1]; show _ - 1 < _; omega), e1]
    show _ - 1 = _
    have he : x.toInt = (x.toInt.tmod y.toInt + y.toInt) + y.toInt * (x.toInt.tdiv y.toInt - 1) := by rw [Int.mul_sub]; omega
    symm
    rw [he, Int.add_mul_ediv_left _ _ (by omega), Int.ediv_eq_zero_of_lt (by omega) (by omega)]
    rw [← he]; omega
  · rw [if_neg h, e1]
    by_cases hx0 : x.toInt < 0
    · have hz : x.toInt.tmod y.toInt = 0 := by
        refine Classical.byContradiction fun q => h ⟨lt64.mpr hx0, fun w => q (z0.mp w)⟩
      have he : x.toInt = y.toInt * x.toInt.tdiv y.toInt := by omega
      have := Int.mul_ediv_cancel_left (x.toInt.tdiv y.toInt) (show y.toInt ≠ 0 by omega)
      rw [← he] at this
      exact this.symm
    · exact Int.tdiv_eq_ediv_of_nonneg (by omega)
theorem cEu_g : ∀ (k n : Nat) (a b : Int64), 0 ≤ a.toInt → 0 ≤ b.toInt → b.toInt < (2 ^ k : Nat) → 2 * k ≤ n → (cEu n a b).toInt = Nat.gcd a.toInt.natAbs b.toInt.natAbs
  | 0, n, a, b, ha, hb, h, _ => by
    have h0 : b = 0 := z_0.mp (by omega)
    have : cEu n a b = a := by cases n with
      | zero => rfl
      | succ n => show (if b = 0 then a else _) = a; rw [if_pos h0]
    rw [this, h0]
    show _ = ((Nat.gcd a.toInt.natAbs 0 : Nat) : Int)
    rw [Nat.gcd_zero_right]; omega
  | k + 1, n + 2, a, b, ha, hb, h, hn => by
    by_cases h0 : b = 0
    · have : cEu (n + 2) a b = a := if_pos h0
      rw [this, h0]
      show _ = ((Nat.gcd a.toInt.natAbs 0 : Nat) : Int)
      rw [Nat.gcd_zero_right]; omega
    · have hb0 : 0 < b.toInt := by have : b.toInt ≠ 0 := fun q => h0 (z_0.mp q); omega
      have e1 : cEu (n + 2) a b = cEu (n + 1) b (lrem a b) := if_neg h0
      have er : (lrem a b).toInt = a.toInt % b.toInt := by rw [lrem_toInt hb0, Int.tmod_eq_emod_of_nonneg ha]
      have hr0 := Int.emod_nonneg a.toInt (show b.toInt ≠ 0 by omega)
      have hr1 := Int.emod_lt_of_pos a.toInt hb0
      have hg : Nat.gcd a.toInt.natAbs b.toInt.natAbs = Nat.gcd b.toInt.natAbs (lrem a b).toInt.natAbs := by
        rw [er, Int.natAbs_emod_of_nonneg ha, Nat.gcd_comm a.toInt.natAbs, Nat.gcd_rec b.toInt.natAbs a.toInt.natAbs, Nat.gcd_comm]
      rw [e1, hg]
      by_cases h1 : lrem a b = 0
      · have : cEu (n + 1) b (lrem a b) = b := if_pos h1
        rw [this, h1]
        show _ = ((Nat.gcd b.toInt.natAbs 0 : Nat) : Int)
        rw [Nat.gcd_zero_right]; omega
      · have hc0 : 0 < (lrem a b).toInt := by have : (lrem a b).toInt ≠ 0 := fun q => h1 (z_0.mp q); omega
        have e2 : cEu (n + 1) b (lrem a b) = cEu n (lrem a b) (lrem b (lrem a b)) := if_neg h1
        have es : (lrem b (lrem a b)).toInt = b.toInt % (lrem a b).toInt := by rw [lrem_toInt hc0, Int.tmod_eq_emod_of_nonneg hb]
        have hs0 := Int.emod_nonneg b.toInt (show (lrem a b).toInt ≠ 0 by omega)
        have hs1 := Int.emod_lt_of_pos b.toInt hc0
        have hd := Int.mul_ediv_add_emod b.toInt (lrem a b).toInt
        have hq : 1 ≤ b.toInt / (lrem a b).toInt := by
          have := Int.le_ediv_of_mul_le hc0 (show 1 * (lrem a b).toInt ≤ b.toInt by omega)
          exact this
        have hm : (lrem a b).toInt * 1 ≤ (lrem a b).toInt * (b.toInt / (lrem a b).toInt) := Int.mul_le_mul_of_nonneg_left hq (by omega)
        have hg2 : Nat.gcd b.toInt.natAbs (lrem a b).toInt.natAbs = Nat.gcd (lrem a b).toInt.natAbs (lrem b (lrem a b)).toInt.natAbs := by
          rw [es, Int.natAbs_emod_of_nonneg hb, Nat.gcd_comm b.toInt.natAbs, Nat.gcd_rec (lrem a b).toInt.natAbs b.toInt.natAbs, Nat.gcd_comm]
        rw [e2, hg2]
        have h2k : ((2 ^ (k + 1) : Nat) : Int) = 2 * ((2 ^ k : Nat) : Int) := by rw [Nat.pow_succ]; omega
        exact cEu_g k n _ _ (by omega) (by omega) (by omega) (by omega)
theorem cEu_one {x1 x2 : Int32} (h1 : -1000000000 ≤ x1.toInt ∧ x1.toInt ≤ 1000000000) (h2 : 0 ≤ x2.toInt ∧ x2.toInt ≤ 1000000000) : cEu 1000 (jAbs x1.toInt64) x2.toInt64 = 1 ↔ Nat.gcd x1.toInt.natAbs x2.toInt.natAbs = 1 := by
  have ex : x1.toInt64.toInt = x1.toInt := Int32.toInt_toInt64 x1
  have ey : x2.toInt64.toInt = x2.toInt := Int32.toInt_toInt64 x2
  have ha : (jAbs x1.toInt64).toInt = x1.toInt.natAbs := by
    by_cases q : 0 < x1.toInt64
    · have := lt64.mp q
      rw [show jAbs x1.toInt64 = x1.toInt64 from if_pos q, ex]
      have e0 : (0 : Int64).toInt = 0 := rfl
      omega
    · have : ¬ (0 : Int64).toInt < x1.toInt64.toInt := fun w => q (lt64.mpr w)
      have e0 : (0 : Int64).toInt = 0 := rfl
      rw [show jAbs x1.toInt64 = -x1.toInt64 from if_neg q, Int64.toInt_neg, ex, Int.bmod_eq_of_le] <;> omega
  have hg := cEu_g 30 1000 (jAbs x1.toInt64) x2.toInt64 (by omega) (by omega) (by rw [ey]; show _ < ((2 ^ 30 : Nat) : Int); omega) (by omega)
  rw [ha, ey, Int.natAbs_natCast] at hg
  constructor
  · intro h; rw [h] at hg; have : (1 : Int64).toInt = 1 := rfl; omega
  · intro h; refine Int64.toInt_inj.mp ?_; rw [hg, h]; rfl
theorem cIn_i {x : Int32} : cIn x.toInt64 1000000000 ↔ -1000000000 ≤ x.toInt ∧ x.toInt ≤ 1000000000 := by
  have ex : x.toInt64.toInt = x.toInt := Int32.toInt_toInt64 x
  have e1 : (-1000000000 : Int64).toInt = -1000000000 := rfl
  have e2 : (1000000000 : Int64).toInt = 1000000000 := rfl
  constructor
  · intro h; have a := le64.mp h.1; have b := le64.mp h.2; omega
  · intro h; exact ⟨le64.mpr (by omega), le64.mpr (by omega)⟩
theorem nI_le9 {x : Int32} : x ≤ nI 1000000000 ↔ x.toInt ≤ 1000000000 := by
  rw [Int32.le_iff_toInt_le, nI_toInt (by decide)]; omega
theorem nI_lt1 {x : Int32} : x < nI 1 ↔ x.toInt < 1 := by
  rw [Int32.lt_iff_toInt_lt, nI_toInt (by decide)]; omega
theorem i32_lt0 {x : Int32} : x < 0 ↔ x.toInt < 0 := by rw [Int32.lt_iff_toInt_lt]; rfl
theorem cFra_m {x1 x2 : Int32} : cFra x1 x2 ↔ mFr x1 x2 1 := by
  constructor
  · intro h
    have a := cIn_i.mp h.1
    have b : ¬ x2.toInt < 1 := fun q => h.2.1 (nI_lt1.mpr q)
    have c := nI_le9.mp h.2.2.1
    exact ⟨a, ⟨by omega, c⟩, (cEu_one a ⟨by omega, c⟩).mp h.2.2.2⟩
  · intro h
    have b := h.2.1
    have b1 : (1 : Int) ≤ x2.toInt := b.1
    have b2 : x2.toInt ≤ 1000000000 := b.2
    refine ⟨cIn_i.mpr h.1, fun q => ?_, nI_le9.mpr b2, (cEu_one h.1 ⟨by omega, b2⟩).mpr h.2.2⟩
    have := nI_lt1.mp q; omega
theorem cImOk_m {x1 x2 : Int32} : cImOk x1 x2 ↔ mIm x1 x2 := by
  have z2 : x2 = 0 ↔ x2.toInt = 0 := ⟨fun h => by rw [h]; rfl, fun h => Int32.toInt_inj.mp (by rw [h]; rfl)⟩
  have l2 : (0 : Int32) < x2 ↔ 0 < x2.toInt := by rw [Int32.lt_iff_toInt_lt]; rfl
  constructor
  · intro h
    have a := cIn_i.mp h.1
    have b : ¬ x2.toInt < 0 := fun q => h.2.1 (i32_lt0.mpr q)
    have c := nI_le9.mp h.2.2.1
    refine ⟨⟨a, ⟨by show (0 : Int) ≤ _; omega, c⟩, (cEu_one a ⟨by omega, c⟩).mp h.2.2.2.1⟩, ?_⟩
    rcases h.2.2.2.2 with q | q
    · have : ¬ x2.toInt = 0 := fun w => q (z2.mpr w)
      exact .inl (l2.mpr (by omega))
    · exact .inr q
  · intro h
    have b1 : (0 : Int) ≤ x2.toInt := h.1.2.1.1
    have b2 : x2.toInt ≤ 1000000000 := h.1.2.1.2
    refine ⟨cIn_i.mpr h.1.1, fun q => ?_, nI_le9.mpr b2, (cEu_one h.1.1 ⟨by omega, b2⟩).mpr h.1.2.2, ?_⟩
    · have := i32_lt0.mp q; omega
    · rcases h.2 with q | q
      · have := l2.mp q
        exact .inl (fun w => by have := z2.mp w; omega)
      · exact .inr q
theorem cross_m (a b c d : Int32) : a.toInt64 * d.toInt64 - c.toInt64 * b.toInt64 = mCross a b c d := by
  rw [mCross, Int64.mul_comm c.toInt64]
theorem i64_0 {x : Int64} : x = 0 ↔ x.toInt = 0 := z_0.symm
