/-! words as sets: a bit is put in, the lowest one is found and taken out -/
theorem rBit_63 (cd : Nat) (h : cd < 4096) : (nI cd &&& nI 63) = nI (cd % 64) := by
  apply Int32.toBitVec_inj.mp
  apply BitVec.eq_of_toNat_eq
  rw [Int32.toBitVec_and, BitVec.toNat_and]
  show (BitVec.ofNat 32 cd).toNat &&& (BitVec.ofNat 32 63).toNat = (BitVec.ofNat 32 (cd % 64)).toNat
  rw [BitVec.toNat_ofNat, BitVec.toNat_ofNat, BitVec.toNat_ofNat, Nat.mod_eq_of_lt (show cd < 2 ^ 32 by omega), Nat.mod_eq_of_lt (show cd % 64 < 2 ^ 32 by omega)]
  exact Nat.and_two_pow_sub_one_eq_mod cd 6
theorem rBit_two : ∀ r, r < 64 → ((1 : Int64) <<< ((nI r).toInt64 &&& 63)).toBitVec = BitVec.twoPow 64 r := by decide +kernel
theorem rBit_at {cd : Nat} (h : cd < 4096) : (rBit cd).toBitVec = BitVec.twoPow 64 (cd % 64) := by
  unfold rBit
  rw [rBit_63 cd h]
  exact rBit_two _ (Nat.mod_lt _ (by omega))
abbrev bI (x : Int64) (j : Nat) : Prop := x.toBitVec.getLsbD j = true
theorem b_and0 {x : Int64} {cd : Nat} (h : cd < 4096) : (x &&& rBit cd = 0) ↔ ¬ bI x (cd % 64) := by
  have hr : cd % 64 < 64 := Nat.mod_lt _ (by omega)
  have e : (x &&& rBit cd).toBitVec = if x.toBitVec.getLsbD (cd % 64) then BitVec.twoPow 64 (cd % 64) else 0#64 := by
    rw [Int64.toBitVec_and, rBit_at h, BitVec.and_twoPow]
  constructor
  · intro h0 hb
    have h1 : (x &&& rBit cd).toBitVec = 0#64 := by rw [h0]; rfl
    rw [e, if_pos hb] at h1
    have h2 : (BitVec.twoPow 64 (cd % 64)).getLsbD (cd % 64) = true := by rw [BitVec.getLsbD_twoPow]; simp [hr]
    rw [h1] at h2
    simp at h2
  · intro hb
    apply Int64.toBitVec_inj.mp
    rw [e, if_neg hb]; rfl
theorem b_or {x : Int64} {cd j : Nat} (h : cd < 4096) : bI (x ||| rBit cd) j ↔ bI x j ∨ j = cd % 64 := by
  have hr : cd % 64 < 64 := Nat.mod_lt _ (by omega)
  unfold bI
  rw [Int64.toBitVec_or, rBit_at h, BitVec.getLsbD_or, BitVec.getLsbD_twoPow, Bool.or_eq_true]
  simp only [hr, decide_true, Bool.true_and, decide_eq_true_eq]
  exact or_congr Iff.rfl eq_comm
def bLow {n : Nat} (v : BitVec n) (t : Nat) : Prop := v.getLsbD t = true ∧ ∀ j, j < t → v.getLsbD j = false
theorem bLow_ex {n : Nat} {v : BitVec n} (h : v ≠ 0#n) : ∃ t, t < n ∧ bLow v t := by
  have h1 : ∃ j, v.getLsbD j = true := Classical.byContradiction fun z => h (BitVec.eq_of_getLsbD_eq fun i hi => by
    rw [BitVec.getLsbD_zero]
    cases q : v.getLsbD i with
    | false => rfl
    | true => exact absurd ⟨i, q⟩ z)
  obtain ⟨j, hj⟩ := h1
  induction j using Nat.strongRecOn with
  | _ j ih =>
    by_cases q : ∃ i, i < j ∧ v.getLsbD i = true
    · obtain ⟨i, hi, hb⟩ := q
      exact ih i hi hb
    · refine ⟨j, ?_, hj, fun i hi => ?_⟩
      · refine Decidable.byContradiction fun z => ?_
        rw [BitVec.getLsbD_of_ge v j (by omega)] at hj
        cases hj
      · cases e : v.getLsbD i with
        | false => rfl
        | true => exact absurd ⟨i, hi, e⟩ q
theorem bLow_nat {n : Nat} {v : BitVec n} {t : Nat} (h : bLow v t) : ∃ m, v.toNat = 2 ^ t * (2 * m + 1) := by
  have h0 : v.toNat % 2 ^ t = 0 := by
    refine Nat.eq_of_testBit_eq fun j => ?_
    rw [Nat.testBit_mod_two_pow, Nat.zero_testBit]
    by_cases q : j < t
    · have := h.2 j q
      have e : v.toNat.testBit j = false := this
      rw [e]; simp
    · simp [q]
  have h1 : v.toNat / 2 ^ t % 2 = 1 := by
    have : v.toNat.testBit t = true := h.1
    rw [Nat.testBit_eq_decide_div_mod_eq] at this
    exact of_decide_eq_true this
  refine ⟨v.toNat / 2 ^ t / 2, ?_⟩
  have h2 := Nat.div_add_mod v.toNat (2 ^ t)
  rw [h0, Nat.add_zero] at h2
  rw [show 2 * (v.toNat / 2 ^ t / 2) + 1 = v.toNat / 2 ^ t by omega]
  exact h2.symm
theorem tb_add (a b t j : Nat) (h : b < 2 ^ t) : (2 ^ t * a + b).testBit j = if j < t then b.testBit j else a.testBit (j - t) := Nat.testBit_two_pow_mul_add a h j
theorem b_less1 {n : Nat} {v : BitVec n} {t : Nat} (hn : 0 < n) (h : bLow v t) (j : Nat) : (v - 1#n).getLsbD j = if j < t then true else if j = t then false else v.getLsbD j := by
  obtain ⟨m, hm⟩ := bLow_nat h
  have hp : 0 < 2 ^ t := Nat.two_pow_pos t
  have hl := v.isLt
  have h2n : 2 ≤ 2 ^ n := by
    obtain ⟨k, rfl⟩ : ∃ k, n = k + 1 := ⟨n - 1, by omega⟩
    have := Nat.two_pow_pos k
    rw [Nat.pow_succ]; omega
  have hge : 1 ≤ v.toNat := by rw [hm]; exact Nat.mul_pos hp (by omega)
  have e1 : (v - 1#n).toNat = v.toNat - 1 := by
    rw [BitVec.toNat_sub]
    have : (1#n).toNat = 1 := by rw [BitVec.toNat_ofNat]; exact Nat.mod_eq_of_lt (by omega)
    rw [this, show 2 ^ n - 1 + v.toNat = (v.toNat - 1) + 2 ^ n by omega, Nat.add_mod_right]
    exact Nat.mod_eq_of_lt (by omega)
  have e2 : (v - 1#n).getLsbD j = (v.toNat - 1).testBit j := by
    show (v - 1#n).toNat.testBit j = _
    rw [e1]
  rw [e2]
  show _ = if j < t then true else if j = t then false else v.toNat.testBit j
  have ev : v.toNat = 2 ^ (t + 1) * m + 2 ^ t := by rw [hm, Nat.pow_succ, Nat.mul_add, Nat.mul_one, Nat.mul_assoc]
  have em : v.toNat - 1 = 2 ^ (t + 1) * m + (2 ^ t - 1) := by rw [ev]; omega
  have hlt : 2 ^ t < 2 ^ (t + 1) := by rw [Nat.pow_succ]; omega
  rw [em, ev, tb_add _ _ _ _ (by omega), tb_add _ _ _ _ hlt, Nat.testBit_two_pow_sub_one, Nat.testBit_two_pow]
  by_cases q : j < t
  · rw [if_pos (by omega), if_pos q]; exact decide_eq_true q
  · by_cases q2 : j = t
    · rw [if_pos (by omega), if_neg q, if_pos q2]; exact decide_eq_false q
    · rw [if_neg (by omega), if_neg q, if_neg q2, if_neg (by omega)]
/-- the lowest bit is taken out -/
theorem b_take {x : Int64} {t : Nat} (h : bLow x.toBitVec t) (j : Nat) : bI (x &&& (x - 1)) j ↔ bI x j ∧ j ≠ t := by
  unfold bI
  rw [Int64.toBitVec_and, Int64.toBitVec_sub, BitVec.getLsbD_and, show (1 : Int64).toBitVec = 1#64 from rfl, b_less1 (by omega) h, Bool.and_eq_true]
  by_cases q : j < t
  · have := h.2 j q
    rw [if_pos q, this]
    simp
  · by_cases q2 : j = t
    · rw [if_neg q, if_pos q2]; simp [q2]
    · rw [if_neg q, if_neg q2]; simp [q2]
def jTzF (i : Int32) : Int32 := if 0 < i then
    (fun (a i : Int32) => (fun (a i : Int32) => (fun (a i : Int32) => (fun (a i : Int32) => a + jU i (nI 1))
      (jTc i (nI 4) a (a + 2)) (jTc i (nI 4) i (jU i (nI 2))))
      (jTc i (nI 16) a (a + 4)) (jTc i (nI 16) i (jU i (nI 4))))
      (jTc i (nI 256) a (a + 8)) (jTc i (nI 256) i (jU i (nI 8))))
      (jTc i (nI 65536) (nI 1) (nI 1 + 16)) (jTc i (nI 65536) i (jU i (nI 16)))
  else i &&& nI 32
theorem jTzF_ok : ∀ t, t < 32 → jTzF (nI (2 ^ t - 1)) = nI t := by decide +kernel
theorem jTz6_ok {k : Int32} {t : Nat} (h : bLow k.toBitVec t) (ht : t < 32) : jTz6 k = nI t := by
  have e : (k ^^^ -1) &&& (k - nI 1) = nI (2 ^ t - 1) := by
    apply Int32.toBitVec_inj.mp
    refine BitVec.eq_of_getLsbD_eq fun i hi => ?_
    have hp : 2 ^ t ≤ 2 ^ 31 := Nat.pow_le_pow_right (by omega) (by omega)
    have e2 : (nI (2 ^ t - 1)).toBitVec.getLsbD i = decide (i < t) := by
      have : (nI (2 ^ t - 1)).toBitVec.toNat = 2 ^ t - 1 := by
        show (BitVec.ofNat 32 (2 ^ t - 1)).toNat = _
        rw [BitVec.toNat_ofNat]; exact Nat.mod_eq_of_lt (by omega)
      show (nI (2 ^ t - 1)).toBitVec.toNat.testBit i = _
      rw [this, Nat.testBit_two_pow_sub_one]
    rw [e2, Int32.toBitVec_and, Int32.toBitVec_sub, Int32.toBitVec_xor, BitVec.getLsbD_and, show (nI 1).toBitVec = 1#32 from rfl, b_less1 (by omega) h, BitVec.getLsbD_xor]
    have e3 : (-1 : Int32).toBitVec.getLsbD i = true := by
      have : ∀ i, i < 32 → (-1 : Int32).toBitVec.getLsbD i = true := by decide
      exact this i hi
    rw [e3]
    by_cases q : i < t
    · have := h.2 i q
      rw [this, if_pos q]; simp [q]
    · by_cases q2 : i = t
      · rw [if_neg q, if_pos q2]; simp [q]
      · rw [if_neg q, if_neg q2]; simp [q]
  show jTzF ((k ^^^ -1) &&& (k - nI 1)) = nI t
  rw [e, jTzF_ok t ht]
theorem b_trunc (x : Int64) {j : Nat} (h : j < 32) : x.toInt32.toBitVec.getLsbD j = x.toBitVec.getLsbD j := by
  rw [Int64.toBitVec_toInt32, BitVec.getLsbD_signExtend]
  simp [h, show j < 64 by omega]
theorem b_high (x : Int64) {j : Nat} (h : j < 32) : (jUL x (nI 32)).toInt32.toBitVec.getLsbD j = x.toBitVec.getLsbD (32 + j) := by
  rw [b_trunc _ h]
  have h1 : ((nI 32).toInt64.toUInt64 &&& Int64.toUInt64 63).toNat = 32 := by decide
  have h3 : (x.toUInt64 >>> ((nI 32).toInt64.toUInt64 &&& Int64.toUInt64 63)).toNat = x.toBitVec.toNat >>> 32 := by
    rw [UInt64.toNat_shiftRight, h1]; rfl
  show (x.toUInt64 >>> ((nI 32).toInt64.toUInt64 &&& Int64.toUInt64 63)).toNat.testBit j = x.toBitVec.toNat.testBit (32 + j)
  rw [h3, Nat.testBit_shiftRight]
theorem jTz_ok {x : Int64} (h : x ≠ 0) : ∃ t, t < 64 ∧ bLow x.toBitVec t ∧ jTz x = nI t := by
  obtain ⟨t, ht, hb⟩ := bLow_ex (v := x.toBitVec) (fun z => h (Int64.toBitVec_inj.mp (by rw [z]; rfl)))
  refine ⟨t, ht, hb, ?_⟩
  unfold jTz
  by_cases q : t < 32
  · have h32 : bLow x.toInt32.toBitVec t := ⟨by rw [b_trunc x q]; exact hb.1, fun j hj => by rw [b_trunc x (by omega)]; exact hb.2 j hj⟩
    rw [if_neg (fun z => by
      have := h32.1
      rw [z] at this
      have e : ∀ i, i < 32 → (0 : Int32).toBitVec.getLsbD i = false := by decide
      rw [e t q] at this
      cases this)]
    exact jTz6_ok h32 q
  · have z : x.toInt32 = 0 := by
      apply Int32.toBitVec_inj.mp
      refine BitVec.eq_of_getLsbD_eq fun i hi => ?_
      rw [b_trunc x hi, hb.2 i (by omega)]
      have e : ∀ i, i < 32 → (0 : Int32).toBitVec.getLsbD i = false := by decide
      rw [e i hi]
    rw [if_pos z]
    have h32 : bLow (jUL x (nI 32)).toInt32.toBitVec (t - 32) := ⟨by rw [b_high x (by omega), show 32 + (t - 32) = t by omega]; exact hb.1, fun j hj => by rw [b_high x (by omega)]; exact hb.2 _ (by omega)⟩
    rw [jTz6_ok h32 (by omega), nI_add]
    congr 1; omega
