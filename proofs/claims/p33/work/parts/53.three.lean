/-! the whole root; counting from threes of circles -/
theorem i32_of {i : Int32} {m : Nat} (h : i.toInt = m) (hm : m < 2 ^ 31) : i = nI m := Int32.toInt_inj.mp (by rw [h, nI_toInt hm])
theorem jNl6_any (i : Int32) : ∃ k, k ≤ 32 ∧ jNl6 i = nI k := by
  by_cases h : 0 < i
  · have h1 : 0 < i.toInt := by rw [Int32.lt_iff_toInt_lt] at h; exact h
    have h2 := Int32.toInt_lt i
    have e : i = nI i.toInt.toNat := i32_of (by omega) (by omega)
    rw [e, jNl6_pos (by omega) (by omega)]
    exact ⟨_, by omega, rfl⟩
  · unfold jNl6
    rw [if_neg h]
    by_cases q : i = 0
    · rw [if_pos q]; exact ⟨32, by omega, rfl⟩
    · rw [if_neg q]; exact ⟨0, by omega, rfl⟩
theorem jNl_any (x : Int64) : ∃ k, k ≤ 64 ∧ jNl x = nI k := by
  unfold jNl
  split
  · obtain ⟨k, h1, h2⟩ := jNl6_any x.toInt32
    exact ⟨32 + k, by omega, by rw [h2, nI_add]⟩
  · obtain ⟨k, h1, h2⟩ := jNl6_any (jUL x (nI 32)).toInt32
    exact ⟨k, by omega, h2⟩
theorem half64 {k : Nat} (h : k ≤ 64) : (nI 64 - nI k) / nI 2 = nI ((64 - k) / 2) := by
  rw [pk_sub h, pk_div (by omega) (by omega) (by omega)]
theorem jNl_ok : jNlOk := by
  intro s9
  obtain ⟨k, h1, h2⟩ := jNl_any s9
  rw [h2, half64 h1, nI_clamp (by omega)]
  exact ⟨rfl, by omega⟩
theorem jUL_32 {x : Int64} (h : 0 ≤ x.toInt) : (jUL x (nI 32)).toInt = x.toInt / 4294967296 := by
  have hb : x.toInt = if 2 * x.toBitVec.toNat < 2 ^ 64 then (x.toBitVec.toNat : Int) else (x.toBitVec.toNat : Int) - ((2 ^ 64 : Nat) : Int) := BitVec.toInt_eq_toNat_cond x.toBitVec
  have hl := x.toBitVec.isLt
  have hn : x.toInt = (x.toBitVec.toNat : Int) ∧ x.toBitVec.toNat < 2 ^ 63 := by
    split at hb <;> omega
  have h1 : ((nI 32).toInt64.toUInt64 &&& Int64.toUInt64 63).toNat = 32 := by decide
  have h3 : (x.toUInt64 >>> ((nI 32).toInt64.toUInt64 &&& Int64.toUInt64 63)).toNat = x.toBitVec.toNat / 4294967296 := by
    rw [UInt64.toNat_shiftRight, h1, Nat.shiftRight_eq_div_pow]; rfl
  unfold jUL
  generalize hu : x.toUInt64 >>> ((nI 32).toInt64.toUInt64 &&& Int64.toUInt64 63) = u at h3
  have h4 : u.toInt64.toInt = if 2 * u.toNat < 2 ^ 64 then (u.toNat : Int) else (u.toNat : Int) - ((2 ^ 64 : Nat) : Int) := BitVec.toInt_eq_toNat_cond u.toBitVec
  rw [h4, h3, if_pos (by omega)]
  omega
theorem toI32 {x : Int64} {m : Nat} (h : x.toInt = m) (hm : m < 2 ^ 31) : x.toInt32 = nI m := by
  refine i32_of ?_ hm
  rw [Int64.toInt_toInt32, h, Int.bmod_eq_of_le] <;> omega
/-- the bits of a number: as many as it takes -/
theorem bits_ok {x : Int64} {m : Nat} (h : x.toInt = m) (hm : m < 2 ^ 44) : ∃ bl, bl ≤ 44 ∧ m < 2 ^ bl ∧ nI 64 - jNl x = nI bl := by
  have e : (jUL x (nI 32)).toInt32 = nI (m / 4294967296) := by
    refine toI32 ?_ (by omega)
    rw [jUL_32 (by omega), h]; omega
  unfold jNl
  rw [e]
  by_cases q : m / 4294967296 = 0
  · rw [q, if_pos (show (nI 0 : Int32) = 0 from rfl)]
    by_cases z : m = 0
    · subst z
      have e2 : x.toInt32 = nI 0 := toI32 h (by omega)
      rw [e2]
      exact ⟨0, by omega, by omega, rfl⟩
    · by_cases z2 : m < 2 ^ 31
      · have e2 : x.toInt32 = nI m := toI32 h z2
        obtain ⟨a, b, c⟩ := lz16_ok (m := m) (by omega) z2
        rw [e2, jNl6_pos (by omega) z2, nI_add, pk_sub (by omega)]
        exact ⟨lz16 m + 1, by omega, b, by congr 1; omega⟩
      · have e2 : x.toInt32.toInt < 0 := by
          rw [Int64.toInt_toInt32, h]
          have : (m : Int).bmod (2 ^ 32) = m - 4294967296 := by
            rw [Int.bmod_def]; omega
          omega
        unfold jNl6
        rw [if_neg (fun y => by rw [Int32.lt_iff_toInt_lt] at y; have : (0 : Int32).toInt = 0 := rfl; omega), if_neg (fun y => by rw [y] at e2; exact absurd e2 (by decide))]
        exact ⟨32, by omega, by omega, rfl⟩
  · rw [if_neg (show ¬ nI (m / 4294967296) = (0 : Int32) from fun y => q ((nI_eq (b := 0) (by omega) (by omega)).mp y))]
    obtain ⟨a, b, c⟩ := lz16_ok (m := m / 4294967296) (by omega) (by omega)
    rw [jNl6_pos (by omega) (by omega), pk_sub (by omega)]
    have hl : lz16 (m / 4294967296) ≤ 11 := by
      refine Decidable.byContradiction fun y => ?_
      have : 2 ^ 12 ≤ 2 ^ lz16 (m / 4294967296) := Nat.pow_le_pow_right (by omega) (by omega)
      omega
    refine ⟨33 + lz16 (m / 4294967296), by omega, ?_, by congr 1; omega⟩
    rw [show 33 + lz16 (m / 4294967296) = 32 + (lz16 (m / 4294967296) + 1) by omega, Nat.pow_add]
    omega
theorem sh_ok : ∀ b, b < 31 → ((1 : Int64) <<< ((nI b).toInt64 &&& 63)).toInt = 2 ^ b := by decide
theorem xWr_ok {s9 : Int64} {m : Nat} (hm : m < 2 ^ 24) (hs : s9.toInt = (m : Int) * m) : ∀ (n : Nat) (r : Int64) (r0 : Nat), n ≤ 25 → r.toInt = r0 → r0 ≤ m → m < r0 + 2 ^ n → (xWr s9 n r).toInt = m
  | 0, r, r0, _, h1, h2, h3 => by
    show r.toInt = m
    rw [h1]; omega
  | n + 1, r, r0, hn, h1, h2, h3 => by
    have hp : 2 ^ n ≤ 2 ^ 24 := Nat.pow_le_pow_right (by omega) (by omega)
    have e0 := sh_ok n (by omega)
    have e0' : ((1 : Int64) <<< ((nI n).toInt64 &&& 63)).toInt = ((2 ^ n : Nat) : Int) := by rw [e0]; simp
    have e1 : (r + 1 <<< ((nI n).toInt64 &&& 63)).toInt = ((r0 + 2 ^ n : Nat) : Int) := by
      rw [z_add, h1, e0'] <;> (try rw [h1, e0']) <;> omega
    generalize ht : r0 + 2 ^ n = t at e1
    have hb : t * t ≤ 2 ^ 25 * 2 ^ 25 := Nat.mul_le_mul (by omega) (by omega)
    have e2 : ((r + 1 <<< ((nI n).toInt64 &&& 63)) * (r + 1 <<< ((nI n).toInt64 &&& 63))).toInt = ((t * t : Nat) : Int) := by
      have : ((t : Int) * (t : Int)) = ((t * t : Nat) : Int) := by simp
      rw [z_mul, e1, this] <;> (try rw [e1, this]) <;> omega
    have hs2 : s9.toInt = ((m * m : Nat) : Int) := by rw [hs]; simp
    have key : ((r + 1 <<< ((nI n).toInt64 &&& 63)) * (r + 1 <<< ((nI n).toInt64 &&& 63)) ≤ s9) ↔ t ≤ m := by
      rw [Int64.le_iff_toInt_le, e2, hs2]
      constructor
      · intro h
        refine Decidable.byContradiction fun z => ?_
        have : (m + 1) * (m + 1) ≤ t * t := Nat.mul_le_mul (by omega) (by omega)
        have : (m + 1) * (m + 1) = m * m + 2 * m + 1 := by grind
        omega
      · intro h
        have := Nat.mul_le_mul h h
        omega
    rw [xWr]
    rw [Nat.pow_succ] at h3
    by_cases q : t ≤ m
    · rw [if_pos (key.mpr q)]
      exact xWr_ok hm hs n _ t (by omega) e1 q (by omega)
    · rw [if_neg (fun z => q (key.mp z))]
      exact xWr_ok hm hs n r r0 (by omega) h1 h2 (by omega)
theorem xWhole_ok {s9 : Int64} {m : Nat} (hm : m < 2 ^ 22) (hs : s9.toInt = (m : Int) * m) : (xWhole s9).toInt = m := by
  have hmm : m * m < 2 ^ 22 * 2 ^ 22 := Nat.mul_lt_mul_of_lt_of_lt hm hm
  have hs2 : s9.toInt = ((m * m : Nat) : Int) := by rw [hs]; simp
  obtain ⟨bl, h1, h2, h3⟩ := bits_ok hs2 (by omega)
  unfold xWhole
  rw [h3, pk_div (by omega) (by omega) (by omega), nI_clamp (by omega)]
  refine xWr_ok (by omega) hs _ 0 0 (by omega) rfl (by omega) ?_
  rw [Nat.zero_add]
  refine Decidable.byContradiction fun q => ?_
  have h4 : 2 ^ (bl / 2 + 1) * 2 ^ (bl / 2 + 1) ≤ m * m := Nat.mul_le_mul (by omega) (by omega)
  rw [← Nat.pow_add] at h4
  have h5 : 2 ^ bl ≤ 2 ^ (bl / 2 + 1 + (bl / 2 + 1)) := Nat.pow_le_pow_right (by omega) (by omega)
  omega
theorem cInn_sw (a b c : Int64) : cInn b a c = cInn a b c := by
  unfold cInn
  rw [show b * a + a * c + c * b = a * b + b * c + c * a by grind, Int64.add_comm b a]
theorem cInn_cy (a b c : Int64) : cInn b c a = cInn a b c := by
  unfold cInn
  rw [show b * c + c * a + a * b = a * b + b * c + c * a by grind, show b + c + a = a + b + c by grind]
theorem cAm_perm (bd : Int32) : ∀ (n : Nat) (a b c : Int64), cAm bd n b a c = cAm bd n a b c ∧ cAm bd n b c a = cAm bd n a b c
  | 0, _, _, _ => ⟨rfl, rfl⟩
  | n + 1, a, b, c => by
    have ih := cAm_perm bd n
    have s := fun x y z => (ih x y z).1
    have cy := fun x y z => (ih x y z).2
    constructor
    · rw [cAm, cAm, cInn_sw a b c, s a b, s c a, s b c]
      split
      · rfl
      · grind
    · rw [cAm, cAm, cInn_cy a b c]
      split
      · rfl
      · grind
theorem cAm_sw (bd : Int32) (n : Nat) (a b c : Int64) : cAm bd n b a c = cAm bd n a b c := (cAm_perm bd n a b c).1
theorem cAm_cy (bd : Int32) (n : Nat) (a b c : Int64) : cAm bd n b c a = cAm bd n a b c := (cAm_perm bd n a b c).2
theorem cAm_r (bd : Int32) (n : Nat) (x y z : Int64) : cAm bd n x z y = cAm bd n x y z := (cAm_cy bd n y x z).trans (cAm_sw bd n x y z)
theorem cAm_c2 (bd : Int32) (n : Nat) (x y z : Int64) : cAm bd n z x y = cAm bd n x y z := (cAm_cy bd n z x y).symm
/-- the other three -/
def cOth (bd : Int32) (n : Nat) (g : Nat → Int64) (p : Nat) : Int32 := if p = 0 then cAm bd n (g 1) (g 2) (g 3) else if p = 1 then cAm bd n (g 0) (g 2) (g 3) else if p = 2 then cAm bd n (g 0) (g 1) (g 3) else cAm bd n (g 0) (g 1) (g 2)
theorem cInn_ok {a b c t : Int64} {d : Int} (ha : a.toInt.natAbs ≤ 1000000) (hb : b.toInt.natAbs ≤ 1000000) (hc : c.toInt.natAbs ≤ 1000000) (hd : d.natAbs ≤ 1000000) (hs : (a.toInt + b.toInt + c.toInt + d) * (a.toInt + b.toInt + c.toInt + d) = 2 * (a.toInt * a.toInt + b.toInt * b.toInt + c.toInt * c.toInt + d * d)) (hle : d ≤ a.toInt + b.toInt + c.toInt) (ht : t.toInt = 2 * (a.toInt + b.toInt + c.toInt) - d) : cInn a b c = t := by
  have ev := dq_even hs
  obtain ⟨m, hm⟩ : ∃ m : Nat, a.toInt + b.toInt + c.toInt - d = 2 * (m : Int) := ⟨((a.toInt + b.toInt + c.toInt - d) / 2).toNat, by omega⟩
  have hmb : m < 2 ^ 22 := by omega
  have bd : ∀ x y : Int64, x.toInt.natAbs ≤ 1000000 → y.toInt.natAbs ≤ 1000000 → (x * y).toInt = x.toInt * y.toInt ∧ (x.toInt * y.toInt).natAbs ≤ 1000000000000 := fun x y hx hy => by
    have h : (x.toInt * y.toInt).natAbs ≤ 1000000 * 1000000 := by rw [Int.natAbs_mul]; exact Nat.mul_le_mul hx hy
    exact ⟨z_mul (by omega) (by omega), by omega⟩
  obtain ⟨e1, b1⟩ := bd a b ha hb
  obtain ⟨e2, b2⟩ := bd b c hb hc
  obtain ⟨e3, b3⟩ := bd c a hc ha
  have e4 : (a * b + b * c).toInt = a.toInt * b.toInt + b.toInt * c.toInt := by rw [z_add, e1, e2] <;> rw [e1, e2] <;> omega
  have e5 : (a * b + b * c + c * a).toInt = a.toInt * b.toInt + b.toInt * c.toInt + c.toInt * a.toInt := by rw [z_add, e4, e3] <;> rw [e4, e3] <;> omega
  have e6 : a.toInt * b.toInt + b.toInt * c.toInt + c.toInt * a.toInt = (m : Int) * m := by
    have h1 : (a.toInt + b.toInt + c.toInt - d) * (a.toInt + b.toInt + c.toInt - d) = 4 * (a.toInt * b.toInt + b.toInt * c.toInt + c.toInt * a.toInt) := by grind
    rw [hm] at h1
    have h2 : 2 * (m : Int) * (2 * (m : Int)) = 4 * ((m : Int) * m) := by grind
    omega
  have e7 := xWhole_ok hmb (e5.trans e6)
  apply Int64.toInt_inj.mp
  rw [ht]
  unfold cInn
  have two : (2 : Int64).toInt = 2 := rfl
  have e8 : (2 * xWhole (a * b + b * c + c * a)).toInt = 2 * (m : Int) := by rw [z_mul, e7, two] <;> rw [e7, two] <;> omega
  have e9 : (a + b).toInt = a.toInt + b.toInt := z_add (by omega) (by omega)
  have e10 : (a + b + c).toInt = a.toInt + b.toInt + c.toInt := by rw [z_add, e9] <;> rw [e9] <;> omega
  rw [z_add, e10, e8] <;> (try rw [e10, e8]) <;> omega
theorem nI_four (a b c : Nat) : nI 1 + nI a + nI b + nI c = nI (1 + a + b + c) := by rw [nI_add, nI_add, nI_add]
/-- counting from the other three is counting the turns -/
theorem cOth_t (b : Int32) (hb : b.toInt64.toInt ≤ 1000) : ∀ (n : Nat) (g : Nat → Int64) (p : Nat), p < 4 → gOk g → 2 * (g p).toInt ≤ ((g 0).toInt + (g 1).toInt + (g 2).toInt + (g 3).toInt) → (∀ k, k < 4 → ((g k).toInt).natAbs ≤ 1000000) → ((xTurn g p).toInt ≤ 1000 → ∃ D, gHi (gUp g p) p D) → cOth b (n + 1) g p = nI (tT b.toInt64 n g p) := by
  intro n
  induction n with
  | zero =>
    intro g p hp h1 h2 h3 h4
    have hq := h1.2.1
    have et := h1.turn_i hp
    have c0 := h3 0 (by omega); have c1 := h3 1 (by omega); have c2 := h3 2 (by omega); have c3 := h3 3 (by omega)
    have fin : ∀ a b' c : Int64, cInn a b' c = xTurn g p → cAm b 1 a b' c = nI (tT b.toInt64 0 g p) := fun a b' c e => by
      rw [cAm, e, tT]
      by_cases q : b.toInt64 < xTurn g p
      · rw [if_pos q, if_neg (fun z => z q)]
      · rw [if_neg q, if_pos q]; rfl
    unfold cOth
    rcases lt4 hp with rfl | rfl | rfl | rfl
    · rw [if_pos rfl]; exact fin _ _ _ (cInn_ok (d := (g 0).toInt) c1 c2 c3 c0 (by grind) (by omega) (by rw [et]; omega))
    · rw [if_neg (by omega), if_pos rfl]; exact fin _ _ _ (cInn_ok (d := (g 1).toInt) c0 c2 c3 c1 (by grind) (by omega) (by rw [et]; omega))
    · rw [if_neg (by omega), if_neg (by omega), if_pos rfl]; exact fin _ _ _ (cInn_ok (d := (g 2).toInt) c0 c1 c3 c2 (by grind) (by omega) (by rw [et]; omega))
    · rw [if_neg (by omega), if_neg (by omega), if_neg (by omega)]; exact fin _ _ _ (cInn_ok (d := (g 3).toInt) c0 c1 c2 c3 (by grind) (by omega) (by rw [et]; omega))
  | succ n ih =>
    intro g p hp h1 h2 h3 h4
    have hq := h1.2.1
    have et := h1.turn_i hp
    have c0 := h3 0 (by omega); have c1 := h3 1 (by omega); have c2 := h3 2 (by omega); have c3 := h3 3 (by omega)
    have s0 := fun (h : (0 : Nat) ≠ p) => vp_n g (xTurn g p) h
    have s1 := fun (h : (1 : Nat) ≠ p) => vp_n g (xTurn g p) h
    have s2 := fun (h : (2 : Nat) ≠ p) => vp_n g (xTurn g p) h
    have s3 := fun (h : (3 : Nat) ≠ p) => vp_n g (xTurn g p) h
    have sp := vp_s g p (xTurn g p)
    have next : ¬ b.toInt64 < xTurn g p → ∀ k, k < 4 → k ≠ p → cOth b (n + 1) (gUp g p) k = nI (tT b.toInt64 n (gUp g p) k) := fun hlt k hk hkp => by
      have hle : (xTurn g p).toInt ≤ 1000 := by rw [Int64.lt_iff_toInt_lt] at hlt; omega
      obtain ⟨D, hH⟩ := h4 hle
      have pr := hH.2.1
      have hD := hH.2.2.1
      have m0 := fun q => hH.2.2.2 0 (by omega) q
      have m1 := fun q => hH.2.2.2 1 (by omega) q
      have m2 := fun q => hH.2.2.2 2 (by omega) q
      have m3 := fun q => hH.2.2.2 3 (by omega) q
      have ep : ((gUp g p) p).toInt = (xTurn g p).toInt := by unfold gUp; rw [sp]
      refine ih (gUp g p) k hk hH.1 ?_ (fun j hj => ?_) (fun hle2 => ⟨_, (hH.up hp hk hkp hle2).1⟩)
      · unfold gPr at pr
        rcases lt4 hp with rfl | rfl | rfl | rfl <;> rcases lt4 hk with rfl | rfl | rfl | rfl <;> (first | (exact absurd rfl hkp) | (have a0 := m0; have a1 := m1; have a2 := m2; have a3 := m3; omega))
      · unfold gPr at pr
        rcases lt4 hp with rfl | rfl | rfl | rfl <;> rcases lt4 hj with rfl | rfl | rfl | rfl <;> (have a0 := m0; have a1 := m1; have a2 := m2; have a3 := m3; omega)
    have fin : ∀ a b' c : Int64, cInn a b' c = xTurn g p → (¬ b.toInt64 < xTurn g p → cAm b (n + 1) a b' (xTurn g p) + cAm b (n + 1) b' c (xTurn g p) + cAm b (n + 1) c a (xTurn g p) = nI (mTree b.toInt64 (n + 1) (gUp g p) p)) → cAm b (n + 1 + 1) a b' c = nI (tT b.toInt64 (n + 1) g p) := fun a b' c e hx => by
      rw [cAm, e, tT]
      by_cases q : b.toInt64 < xTurn g p
      · rw [if_pos q, if_neg (fun z => z q)]
      · rw [if_neg q, if_pos q, ← nI_add, ← hx q]; grind
    unfold cOth
    rcases lt4 hp with rfl | rfl | rfl | rfl
    · rw [if_pos rfl]
      refine fin _ _ _ (cInn_ok (d := (g 0).toInt) c1 c2 c3 c0 (by grind) (by omega) (by rw [et]; omega)) (fun q => ?_)
      have n1 := next q 1 (by omega) (by omega)
      unfold cOth gUp at n1
      simp only [if_true, if_false, Nat.one_ne_zero, show ¬ (2 : Nat) = 0 by omega, show ¬ (2 : Nat) = 1 by omega, show ¬ (3 : Nat) = 0 by omega, show ¬ (3 : Nat) = 1 by omega, show ¬ (3 : Nat) = 2 by omega] at n1
      rw [sp, s2 (by omega), s3 (by omega)] at n1
      have n2 := next q 2 (by omega) (by omega)
      unfold cOth gUp at n2
      simp only [if_true, if_false, Nat.one_ne_zero, show ¬ (2 : Nat) = 0 by omega, show ¬ (2 : Nat) = 1 by omega, show ¬ (3 : Nat) = 0 by omega, show ¬ (3 : Nat) = 1 by omega, show ¬ (3 : Nat) = 2 by omega] at n2
      rw [sp, s1 (by omega), s3 (by omega)] at n2
      have n3 := next q 3 (by omega) (by omega)
      unfold cOth gUp at n3
      simp only [if_true, if_false, Nat.one_ne_zero, show ¬ (2 : Nat) = 0 by omega, show ¬ (2 : Nat) = 1 by omega, show ¬ (3 : Nat) = 0 by omega, show ¬ (3 : Nat) = 1 by omega, show ¬ (3 : Nat) = 2 by omega] at n3
      rw [sp, s1 (by omega), s2 (by omega)] at n3
      have t1 : cAm b (n + 1) (g 1) (g 2) (xTurn g 0) = nI (tT b.toInt64 n (gUp g 0) 3) := (cAm_cy b _ (xTurn g 0) (g 1) (g 2)).trans n3
      have t2 : cAm b (n + 1) (g 2) (g 3) (xTurn g 0) = nI (tT b.toInt64 n (gUp g 0) 1) := (cAm_cy b _ (xTurn g 0) (g 2) (g 3)).trans n1
      have t3 : cAm b (n + 1) (g 3) (g 1) (xTurn g 0) = nI (tT b.toInt64 n (gUp g 0) 2) := ((cAm_sw b _ (g 1) (g 3) (xTurn g 0)).trans (cAm_cy b _ (xTurn g 0) (g 1) (g 3))).trans n2
      rw [t1, t2, t3, nI_add, nI_add, mTree_s]
      congr 1
      rw [if_pos rfl, if_neg (by omega), if_neg (by omega), if_neg (by omega)]
      omega
    · rw [if_neg (by omega), if_pos rfl]
      refine fin _ _ _ (cInn_ok (d := (g 1).toInt) c0 c2 c3 c1 (by grind) (by omega) (by rw [et]; omega)) (fun q => ?_)
      have n0 := next q 0 (by omega) (by omega)
      unfold cOth gUp at n0
      simp only [if_true, if_false, Nat.one_ne_zero, show ¬ (2 : Nat) = 0 by omega, show ¬ (2 : Nat) = 1 by omega, show ¬ (3 : Nat) = 0 by omega, show ¬ (3 : Nat) = 1 by omega, show ¬ (3 : Nat) = 2 by omega] at n0
      rw [sp, s2 (by omega), s3 (by omega)] at n0
      have n2 := next q 2 (by omega) (by omega)
      unfold cOth gUp at n2
      simp only [if_true, if_false, Nat.one_ne_zero, show ¬ (2 : Nat) = 0 by omega, show ¬ (2 : Nat) = 1 by omega, show ¬ (3 : Nat) = 0 by omega, show ¬ (3 : Nat) = 1 by omega, show ¬ (3 : Nat) = 2 by omega] at n2
      rw [s0 (by omega), sp, s3 (by omega)] at n2
      have n3 := next q 3 (by omega) (by omega)
      unfold cOth gUp at n3
      simp only [if_true, if_false, Nat.one_ne_zero, show ¬ (2 : Nat) = 0 by omega, show ¬ (2 : Nat) = 1 by omega, show ¬ (3 : Nat) = 0 by omega, show ¬ (3 : Nat) = 1 by omega, show ¬ (3 : Nat) = 2 by omega] at n3
      rw [s0 (by omega), sp, s2 (by omega)] at n3
      have t1 : cAm b (n + 1) (g 0) (g 2) (xTurn g 1) = nI (tT b.toInt64 n (gUp g 1) 3) := (cAm_r b _ (g 0) (xTurn g 1) (g 2)).trans n3
      have t2 : cAm b (n + 1) (g 2) (g 3) (xTurn g 1) = nI (tT b.toInt64 n (gUp g 1) 0) := (cAm_cy b _ (xTurn g 1) (g 2) (g 3)).trans n0
      have t3 : cAm b (n + 1) (g 3) (g 0) (xTurn g 1) = nI (tT b.toInt64 n (gUp g 1) 2) := (cAm_c2 b _ (g 0) (xTurn g 1) (g 3)).trans n2
      rw [t1, t2, t3, nI_add, nI_add, mTree_s]
      congr 1
      rw [if_neg (by omega), if_pos rfl, if_neg (by omega), if_neg (by omega)]
      omega
    · rw [if_neg (by omega), if_neg (by omega), if_pos rfl]
      refine fin _ _ _ (cInn_ok (d := (g 2).toInt) c0 c1 c3 c2 (by grind) (by omega) (by rw [et]; omega)) (fun q => ?_)
      have n0 := next q 0 (by omega) (by omega)
      unfold cOth gUp at n0
      simp only [if_true, if_false, Nat.one_ne_zero, show ¬ (2 : Nat) = 0 by omega, show ¬ (2 : Nat) = 1 by omega, show ¬ (3 : Nat) = 0 by omega, show ¬ (3 : Nat) = 1 by omega, show ¬ (3 : Nat) = 2 by omega] at n0
      rw [s1 (by omega), sp, s3 (by omega)] at n0
      have n1 := next q 1 (by omega) (by omega)
      unfold cOth gUp at n1
      simp only [if_true, if_false, Nat.one_ne_zero, show ¬ (2 : Nat) = 0 by omega, show ¬ (2 : Nat) = 1 by omega, show ¬ (3 : Nat) = 0 by omega, show ¬ (3 : Nat) = 1 by omega, show ¬ (3 : Nat) = 2 by omega] at n1
      rw [s0 (by omega), sp, s3 (by omega)] at n1
      have n3 := next q 3 (by omega) (by omega)
      unfold cOth gUp at n3
      simp only [if_true, if_false, Nat.one_ne_zero, show ¬ (2 : Nat) = 0 by omega, show ¬ (2 : Nat) = 1 by omega, show ¬ (3 : Nat) = 0 by omega, show ¬ (3 : Nat) = 1 by omega, show ¬ (3 : Nat) = 2 by omega] at n3
      rw [s0 (by omega), s1 (by omega), sp] at n3
      have t1 : cAm b (n + 1) (g 0) (g 1) (xTurn g 2) = nI (tT b.toInt64 n (gUp g 2) 3) := (rfl).trans n3
      have t2 : cAm b (n + 1) (g 1) (g 3) (xTurn g 2) = nI (tT b.toInt64 n (gUp g 2) 0) := (cAm_r b _ (g 1) (xTurn g 2) (g 3)).trans n0
      have t3 : cAm b (n + 1) (g 3) (g 0) (xTurn g 2) = nI (tT b.toInt64 n (gUp g 2) 1) := (cAm_c2 b _ (g 0) (xTurn g 2) (g 3)).trans n1
      rw [t1, t2, t3, nI_add, nI_add, mTree_s]
      congr 1
      rw [if_neg (by omega), if_neg (by omega), if_pos rfl, if_neg (by omega)]
      omega
    · rw [if_neg (by omega), if_neg (by omega), if_neg (by omega)]
      refine fin _ _ _ (cInn_ok (d := (g 3).toInt) c0 c1 c2 c3 (by grind) (by omega) (by rw [et]; omega)) (fun q => ?_)
      have n0 := next q 0 (by omega) (by omega)
      unfold cOth gUp at n0
      simp only [if_true, if_false, Nat.one_ne_zero, show ¬ (2 : Nat) = 0 by omega, show ¬ (2 : Nat) = 1 by omega, show ¬ (3 : Nat) = 0 by omega, show ¬ (3 : Nat) = 1 by omega, show ¬ (3 : Nat) = 2 by omega] at n0
      rw [s1 (by omega), s2 (by omega), sp] at n0
      have n1 := next q 1 (by omega) (by omega)
      unfold cOth gUp at n1
      simp only [if_true, if_false, Nat.one_ne_zero, show ¬ (2 : Nat) = 0 by omega, show ¬ (2 : Nat) = 1 by omega, show ¬ (3 : Nat) = 0 by omega, show ¬ (3 : Nat) = 1 by omega, show ¬ (3 : Nat) = 2 by omega] at n1
      rw [s0 (by omega), s2 (by omega), sp] at n1
      have n2 := next q 2 (by omega) (by omega)
      unfold cOth gUp at n2
      simp only [if_true, if_false, Nat.one_ne_zero, show ¬ (2 : Nat) = 0 by omega, show ¬ (2 : Nat) = 1 by omega, show ¬ (3 : Nat) = 0 by omega, show ¬ (3 : Nat) = 1 by omega, show ¬ (3 : Nat) = 2 by omega] at n2
      rw [s0 (by omega), s1 (by omega), sp] at n2
      have t1 : cAm b (n + 1) (g 0) (g 1) (xTurn g 3) = nI (tT b.toInt64 n (gUp g 3) 2) := (rfl).trans n2
      have t2 : cAm b (n + 1) (g 1) (g 2) (xTurn g 3) = nI (tT b.toInt64 n (gUp g 3) 0) := (rfl).trans n0
      have t3 : cAm b (n + 1) (g 2) (g 0) (xTurn g 3) = nI (tT b.toInt64 n (gUp g 3) 1) := (cAm_sw b _ (g 0) (g 2) (xTurn g 3)).trans n1
      rw [t1, t2, t3, nI_add, nI_add, mTree_s]
      congr 1
      rw [if_neg (by omega), if_neg (by omega), if_neg (by omega), if_pos rfl]
      omega
theorem three_m (b : Int32) (hb : b.toInt64.toInt ≤ 1000) {g : Nat → Int64} (h : gRt g) (hn : ∃ j, j < 4 ∧ (g j).toInt < 0) (hm : ∀ k, k < 4 → ((g k).toInt).natAbs ≤ 1000000) : cAm b 100 (g 0) (g 1) (g 2) + cAm b 100 (g 0) (g 1) (g 3) + cAm b 100 (g 0) (g 2) (g 3) + cAm b 100 (g 1) (g 2) (g 3) = nI (mTree b.toInt64 100 g 4) := by
  have t : ∀ p, p < 4 → cOth b 100 g p = nI (tT b.toInt64 99 g p) := fun p hp => cOth_t b hb 99 g p hp h.1 (h.2 p hp) hm (fun hle => ⟨0, (root_up h hn hp hle).2.1⟩)
  have t0 := t 0 (by omega); have t1 := t 1 (by omega); have t2 := t 2 (by omega); have t3 := t 3 (by omega)
  unfold cOth at t0 t1 t2 t3
  simp only [if_true, if_false, Nat.one_ne_zero, show ¬ (2 : Nat) = 0 by omega, show ¬ (2 : Nat) = 1 by omega, show ¬ (3 : Nat) = 0 by omega, show ¬ (3 : Nat) = 1 by omega, show ¬ (3 : Nat) = 2 by omega] at t0 t1 t2 t3
  rw [t0, t1, t2, t3, nI_add, nI_add, nI_add, mTree_s]
  congr 1
  rw [if_neg (by omega), if_neg (by omega), if_neg (by omega), if_neg (by omega)]
  omega
