/-! the whole root of a square; counting from threes of circles -/
theorem jU_n {m k : Nat} (hm : m < 2 ^ 31) (hk : k < 32) : jU (nI m) (nI k) = nI (m / 2 ^ k) := by
  have h1 : ∀ k : Nat, k < 32 → ((nI k).toUInt32 &&& Int32.toUInt32 31).toNat = k := by decide
  have h2 : (nI m).toUInt32.toNat = m := by
    show (UInt32.ofNat m).toNat = m
    rw [UInt32.toNat_ofNat_of_lt']
    show m < UInt32.size
    have : UInt32.size = 4294967296 := rfl
    omega
  have hd : m / 2 ^ k < 2 ^ 31 := Nat.lt_of_le_of_lt (Nat.div_le_self _ _) hm
  unfold jU
  have h3 : ((nI m).toUInt32 >>> ((nI k).toUInt32 &&& Int32.toUInt32 31)).toNat = m / 2 ^ k := by
    rw [UInt32.toNat_shiftRight, h1 k hk, h2, Nat.mod_eq_of_lt hk, Nat.shiftRight_eq_div_pow]
  have h4 : (nI m).toUInt32 >>> ((nI k).toUInt32 &&& Int32.toUInt32 31) = UInt32.ofNat (m / 2 ^ k) := by
    apply UInt32.toNat_inj.mp
    rw [h3, UInt32.toNat_ofNat_of_lt']
    have : UInt32.size = 4294967296 := rfl
    omega
  rw [h4]; rfl
/-- 31 less the zeros ahead, of a number above 0 -/
def lz1 (m : Nat) : Nat := m / 2
def lz2 (m : Nat) : Nat := if m < 4 then lz1 m else 2 + lz1 (m / 4)
def lz4 (m : Nat) : Nat := if m < 16 then lz2 m else 4 + lz2 (m / 16)
def lz8 (m : Nat) : Nat := if m < 256 then lz4 m else 8 + lz4 (m / 256)
def lz16 (m : Nat) : Nat := if m < 65536 then lz8 m else 16 + lz8 (m / 65536)
theorem lz2_ok {m : Nat} (h1 : 0 < m) (h2 : m < 16) : 2 ^ lz2 m ≤ m ∧ m < 2 ^ (lz2 m + 1) ∧ lz2 m ≤ 3 := by
  have : ∀ m, m < 16 → 0 < m → 2 ^ lz2 m ≤ m ∧ m < 2 ^ (lz2 m + 1) ∧ lz2 m ≤ 3 := by decide
  exact this m h2 h1
theorem lz4_ok {m : Nat} (h1 : 0 < m) (h2 : m < 256) : 2 ^ lz4 m ≤ m ∧ m < 2 ^ (lz4 m + 1) ∧ lz4 m ≤ 7 := by
  unfold lz4
  split
  · have := lz2_ok h1 (by omega); omega
  · have a := lz2_ok (m := m / 16) (by omega) (by omega)
    rw [Nat.pow_add, show 4 + lz2 (m / 16) + 1 = 4 + (lz2 (m / 16) + 1) by omega, Nat.pow_add]
    omega
theorem lz8_ok {m : Nat} (h1 : 0 < m) (h2 : m < 65536) : 2 ^ lz8 m ≤ m ∧ m < 2 ^ (lz8 m + 1) ∧ lz8 m ≤ 15 := by
  unfold lz8
  split
  · have := lz4_ok h1 (by omega); omega
  · have a := lz4_ok (m := m / 256) (by omega) (by omega)
    rw [Nat.pow_add, show 8 + lz4 (m / 256) + 1 = 8 + (lz4 (m / 256) + 1) by omega, Nat.pow_add]
    omega
theorem lz16_ok {m : Nat} (h1 : 0 < m) (h2 : m < 2 ^ 31) : 2 ^ lz16 m ≤ m ∧ m < 2 ^ (lz16 m + 1) ∧ lz16 m ≤ 31 := by
  unfold lz16
  split
  · have := lz8_ok h1 (by omega); omega
  · have a := lz8_ok (m := m / 65536) (by omega) (by omega)
    rw [Nat.pow_add, show 16 + lz8 (m / 65536) + 1 = 16 + (lz8 (m / 65536) + 1) by omega, Nat.pow_add]
    omega
theorem jNl6_pos {m : Nat} (h1 : 0 < m) (h2 : m < 2 ^ 31) : jNl6 (nI m) = nI (31 - lz16 m) := by
  have hok := lz16_ok h1 h2
  have e0 : (0 : Int32) < nI m := by
    have := (nI_ltI (a := 0) (b := m) (by omega) h2).mpr h1
    exact this
  have sub : ∀ a b : Nat, b ≤ a → a < 2 ^ 31 → nI a - nI b = nI (a - b) := fun a b hb ha => pk_sub (by omega)
  have neg : ∀ (a b : Nat) (c : Int32), c = -nI b → b ≤ a → a < 2 ^ 31 → nI a + c = nI (a - b) := fun a b c hc hb ha => by
    rw [hc, ← sub a b hb ha, Int32.sub_eq_add_neg]
  have step : ∀ (m a t s b : Nat) (c : Int32), m < 2 ^ 31 → t < 2 ^ 31 → s < 32 → c = -nI b → b ≤ a → a < 2 ^ 31 → (jNc (nI m) (nI t) (nI a) (nI a + c) = nI (if m < t then a else a - b)) ∧ jNc (nI m) (nI t) (nI m) (jU (nI m) (nI s)) = nI (if m < t then m else m / 2 ^ s) := fun m a t s b c hm ht hs hc hb ha => by
    unfold jNc
    rw [jU_n hm hs, neg a b c hc hb ha]
    by_cases q : m < t
    · rw [if_pos ((nI_ltI hm ht).mpr q), if_pos ((nI_ltI hm ht).mpr q), if_pos q, if_pos q]; exact ⟨rfl, rfl⟩
    · rw [if_neg (fun z => q ((nI_ltI hm ht).mp z)), if_neg (fun z => q ((nI_ltI hm ht).mp z)), if_neg q, if_neg q]; exact ⟨rfl, rfl⟩
  unfold jNl6
  rw [if_pos e0]
  simp only []
  obtain ⟨a1, a2⟩ := step m 31 65536 16 16 (-16) h2 (by omega) (by omega) rfl (by omega) (by omega)
  rw [a1, a2]
  generalize hm1 : (if m < 65536 then m else m / 2 ^ 16) = m1
  generalize hc1 : (if m < 65536 then 31 else 31 - 16) = c1
  have l1 : m1 < 65536 := by rw [← hm1]; split <;> omega
  have k1 : c1 ≤ 31 ∧ 15 ≤ c1 := by rw [← hc1]; split <;> omega
  obtain ⟨a1, a2⟩ := step m1 c1 256 8 8 (-8) (by omega) (by omega) (by omega) rfl (by omega) (by omega)
  rw [a1, a2]
  generalize hm2 : (if m1 < 256 then m1 else m1 / 2 ^ 8) = m2
  generalize hc2 : (if m1 < 256 then c1 else c1 - 8) = c2
  have l2 : m2 < 256 := by rw [← hm2]; split <;> omega
  have k2 : 7 ≤ c2 ∧ c2 ≤ 31 := by rw [← hc2]; split <;> omega
  obtain ⟨a1, a2⟩ := step m2 c2 16 4 4 (-4) (by omega) (by omega) (by omega) rfl (by omega) (by omega)
  rw [a1, a2]
  generalize hm3 : (if m2 < 16 then m2 else m2 / 2 ^ 4) = m3
  generalize hc3 : (if m2 < 16 then c2 else c2 - 4) = c3
  have l3 : m3 < 16 := by rw [← hm3]; split <;> omega
  have k3 : 3 ≤ c3 ∧ c3 ≤ 31 := by rw [← hc3]; split <;> omega
  obtain ⟨a1, a2⟩ := step m3 c3 4 2 2 (-2) (by omega) (by omega) (by omega) rfl (by omega) (by omega)
  rw [a1, a2]
  generalize hm4 : (if m3 < 4 then m3 else m3 / 2 ^ 2) = m4
  generalize hc4 : (if m3 < 4 then c3 else c3 - 2) = c4
  have l4 : m4 < 4 := by rw [← hm4]; split <;> omega
  have k4 : 1 ≤ c4 ∧ c4 ≤ 31 := by rw [← hc4]; split <;> omega
  rw [jU_n (by omega) (by omega), sub c4 (m4 / 2 ^ 1) (by omega) (by omega)]
  congr 1
  unfold lz16 lz8 lz4 lz2 lz1
  rw [show (2 : Nat) ^ 1 = 2 from rfl]
  rw [show (2 : Nat) ^ 16 = 65536 from rfl] at hm1
  rw [show (2 : Nat) ^ 8 = 256 from rfl] at hm2
  rw [show (2 : Nat) ^ 4 = 16 from rfl] at hm3
  rw [show (2 : Nat) ^ 2 = 4 from rfl] at hm4
  split at hm1 <;> (rename_i q1; simp only [q1, if_true, if_false] at hc1 ⊢) <;> subst hm1 <;> subst hc1 <;>
  split at hm2 <;> (rename_i q2; simp only [q2, if_true, if_false] at hc2 ⊢) <;> subst hm2 <;> subst hc2 <;>
  split at hm3 <;> (rename_i q3; simp only [q3, if_true, if_false] at hc3 ⊢) <;> subst hm3 <;> subst hc3 <;>
  split at hm4 <;> (rename_i q4; simp only [q4, if_true, if_false] at hc4 ⊢) <;> subst hm4 <;> subst hc4 <;> omega
