def jU (x y : Int32) : Int32 := (x.toUInt32 >>> (y.toUInt32 &&& Int32.toUInt32 31)).toInt32
def jUL (x : Int64) (y : Int32) : Int64 := (x.toUInt64 >>> (y.toInt64.toUInt64 &&& Int64.toUInt64 63)).toInt64
def jB1 (i : Int32) : Int32 := i - (jU i (nI 1) &&& nI 1431655765)
def jB2 (i : Int32) : Int32 := (i &&& nI 858993459) + (jU i (nI 2) &&& nI 858993459)
def jB3 (i : Int32) : Int32 := (i + jU i (nI 4)) &&& nI 252645135
def jB4 (i : Int32) : Int32 := i + jU i (nI 8)
def jB5 (i : Int32) : Int32 := i + jU i (nI 16)
def jBc (i : Int32) : Int32 := jB5 (jB4 (jB3 (jB2 (jB1 i)))) &&& nI 63
/-- a step of counting zeros: the count, and what is left -/
def jNc (i t a b : Int32) : Int32 := if i < t then a else b
def jNl6 (i : Int32) : Int32 :=
  if 0 < i then
    (fun (a i : Int32) => (fun (a i : Int32) => (fun (a i : Int32) => (fun (a i : Int32) => a - jU i (nI 1))
      (jNc i (nI 4) a (a + -2)) (jNc i (nI 4) i (jU i (nI 2))))
      (jNc i (nI 16) a (a + -4)) (jNc i (nI 16) i (jU i (nI 4))))
      (jNc i (nI 256) a (a + -8)) (jNc i (nI 256) i (jU i (nI 8))))
      (jNc i (nI 65536) (nI 31) (nI 31 + -16)) (jNc i (nI 65536) i (jU i (nI 16)))
  else if i = 0 then nI 32 else nI 0
def jNl (x : Int64) : Int32 := if (jUL x (nI 32)).toInt32 = 0 then nI 32 + jNl6 x.toInt32 else jNl6 (jUL x (nI 32)).toInt32
def jTc (i t a b : Int32) : Int32 := if i ≤ t then a else b
def jTz6 (k : Int32) : Int32 :=
  (fun (i : Int32) => if 0 < i then
    (fun (a i : Int32) => (fun (a i : Int32) => (fun (a i : Int32) => (fun (a i : Int32) => a + jU i (nI 1))
      (jTc i (nI 4) a (a + 2)) (jTc i (nI 4) i (jU i (nI 2))))
      (jTc i (nI 16) a (a + 4)) (jTc i (nI 16) i (jU i (nI 4))))
      (jTc i (nI 256) a (a + 8)) (jTc i (nI 256) i (jU i (nI 8))))
      (jTc i (nI 65536) (nI 1) (nI 1 + 16)) (jTc i (nI 65536) i (jU i (nI 16)))
  else i &&& nI 32) ((k ^^^ -1) &&& (k - nI 1))
def jTz (x : Int64) : Int32 := if x.toInt32 = 0 then nI 32 + jTz6 (jUL x (nI 32)).toInt32 else jTz6 x.toInt32
/-- the whole root, bit by bit -/
def xWr (s9 : Int64) : Nat → Int64 → Int64
  | 0, r => r
  | b + 1, r => xWr s9 b (if (r + 1 <<< ((nI b).toInt64 &&& 63)) * (r + 1 <<< ((nI b).toInt64 &&& 63)) ≤ s9 then r + 1 <<< ((nI b).toInt64 &&& 63) else r)
def jFm (x y : Int64) : Int64 := if x ^^^ y < 0 ∧ ¬ lrem x y = 0 then lrem x y + y else lrem x y
def jFmI (x y : Int32) : Int32 := if x ^^^ y < 0 ∧ ¬ (x - x / y * y) = 0 then (x - x / y * y) + y else x - x / y * y
theorem jNc_t {i t a b : Int32} (h : i < t) : a = jNc i t a b := by rw [jNc, if_pos h]
theorem jNc_f {i t a b : Int32} (h : ¬ i < t) : b = jNc i t a b := by rw [jNc, if_neg h]
theorem jTc_t {i t a b : Int32} (h : i ≤ t) : a = jTc i t a b := by rw [jTc, if_pos h]
theorem jTc_f {i t a b : Int32} (h : ¬ i ≤ t) : b = jTc i t a b := by rw [jTc, if_neg h]
theorem nI_dec1 (n : Nat) : nI (n + 1) + -1 = nI n := nI_dec (Nat.succ_pos n)
theorem nI_neg {k : Nat} (h : k < 2 ^ 31) (hn : nI k + -1 < 0) : k = 0 := by
  cases k with
  | zero => rfl
  | succ j => rw [nI_dec1] at hn; exact absurd hn (nI_pos (by omega))
theorem nI_npos {k : Nat} (hn : ¬ nI k + -1 < 0) : ∃ j, k = j + 1 := by
  cases k with
  | zero => exact absurd (by decide) hn
  | succ j => exact ⟨j, rfl⟩

theorem lk_J6_bitCount_0f7a4_c265 : Cond.constant RJ6 265 (1431655765) ∈ wsJ6_bitCount_0f7a4 := by decide +kernel
theorem lk_J6_bitCount_0f7a4_c266 : Cond.constant RJ6 266 (858993459) ∈ wsJ6_bitCount_0f7a4 := by decide +kernel
theorem lk_J6_bitCount_0f7a4_c267 : Cond.constant RJ6 267 (252645135) ∈ wsJ6_bitCount_0f7a4 := by decide +kernel
abbrev rmJ6_bitCount_0f7a4 : Room := { frames := 0, cells := 0, slots := 0, locals := 0 }
set_option maxHeartbeats 4000000 in
set_option maxRecDepth 100000 in
/-- J6_bitCount_0f7a4 -/
theorem kJ6_bitCount_0f7a4 (l : Launch) (G : kG) (B0 : Nat) (f : kH) (i : Int32) : Met l yJ6_bitCount_0f7a4 wsJ6_bitCount_0f7a4 (rmJ6_bitCount_0f7a4) (kP G B0 f [.int i]) (kQi G B0 (fun r f1 => r = jBc i ∧ f1 = f)) 0 0 (kAb B0) := by
  refine kMet (cc := cJ6_bitCount_0f7a4) (maxL := 1) (ret := (some .int)) (by decide) rfl (Nat.le_of_ble_eq_true rfl) ?_
  intro p e s m args below meth c H locs Q ls C hX hl hr hlocks hnm hQ
  have hl : lv_has ls 1 [(0, .int i)] := hl
  refine lv_iload_n C.x C.b dJ6_bitCount_0f7a4_0 rfl (lv_at hl 0 rfl) ?_
  refine lv_iload_n C.x C.b dJ6_bitCount_0f7a4_1 rfl (lv_at hl 0 rfl) ?_
  refine lv_iconst (v := nI 1) C.x C.b dJ6_bitCount_0f7a4_2 (by decide) ?_
  refine lv_iushr (v := jU i (nI 1)) C.x C.b dJ6_bitCount_0f7a4_3 rfl ?_
  refine lv_ldcw (v := nI 1431655765) C.x C.b C.ow (C.ts _ lk_J6_bitCount_0f7a4_c265) dJ6_bitCount_0f7a4_4 ?_
  refine lv_iand C.x C.b dJ6_bitCount_0f7a4_7 ?_
  refine lv_isub C.x C.b dJ6_bitCount_0f7a4_8 ?_
  refine lv_istore_n (lv' := [(0, .int (i - ((jU i (nI 1)) &&& (nI 1431655765))))]) C.x C.b dJ6_bitCount_0f7a4_9 rfl hl (by decide) rfl (fun ls hl => ?_)
  refine lv_iload_n C.x C.b dJ6_bitCount_0f7a4_10 rfl (lv_at hl 0 rfl) ?_
  refine lv_ldcw (v := nI 858993459) C.x C.b C.ow (C.ts _ lk_J6_bitCount_0f7a4_c266) dJ6_bitCount_0f7a4_11 ?_
  refine lv_iand C.x C.b dJ6_bitCount_0f7a4_14 ?_
  refine lv_iload_n C.x C.b dJ6_bitCount_0f7a4_15 rfl (lv_at hl 0 rfl) ?_
  refine lv_iconst (v := nI 2) C.x C.b dJ6_bitCount_0f7a4_16 (by decide) ?_
  refine lv_iushr (v := jU (i - ((jU i (nI 1)) &&& (nI 1431655765))) (nI 2)) C.x C.b dJ6_bitCount_0f7a4_17 rfl ?_
  refine lv_ldcw (v := nI 858993459) C.x C.b C.ow (C.ts _ lk_J6_bitCount_0f7a4_c266) dJ6_bitCount_0f7a4_18 ?_
  refine lv_iand C.x C.b dJ6_bitCount_0f7a4_21 ?_
  refine lv_iadd C.x C.b dJ6_bitCount_0f7a4_22 ?_
  refine lv_istore_n (lv' := [(0, .int (((i - ((jU i (nI 1)) &&& (nI 1431655765))) &&& (nI 858993459)) + ((jU (i - ((jU i (nI 1)) &&& (nI 1431655765))) (nI 2)) &&& (nI 858993459))))]) C.x C.b dJ6_bitCount_0f7a4_23 rfl hl (by decide) rfl (fun ls hl => ?_)
  refine lv_iload_n C.x C.b dJ6_bitCount_0f7a4_24 rfl (lv_at hl 0 rfl) ?_
  refine lv_iload_n C.x C.b dJ6_bitCount_0f7a4_25 rfl (lv_at hl 0 rfl) ?_
  refine lv_iconst (v := nI 4) C.x C.b dJ6_bitCount_0f7a4_26 (by decide) ?_
  refine lv_iushr (v := jU (((i - ((jU i (nI 1)) &&& (nI 1431655765))) &&& (nI 858993459)) + ((jU (i - ((jU i (nI 1)) &&& (nI 1431655765))) (nI 2)) &&& (nI 858993459))) (nI 4)) C.x C.b dJ6_bitCount_0f7a4_27 rfl ?_
  refine lv_iadd C.x C.b dJ6_bitCount_0f7a4_28 ?_
  refine lv_ldcw (v := nI 252645135) C.x C.b C.ow (C.ts _ lk_J6_bitCount_0f7a4_c267) dJ6_bitCount_0f7a4_29 ?_
  refine lv_iand C.x C.b dJ6_bitCount_0f7a4_32 ?_
  refine lv_istore_n (lv' := [(0, .int (((((i - ((jU i (nI 1)) &&& (nI 1431655765))) &&& (nI 858993459)) + ((jU (i - ((jU i (nI 1)) &&& (nI 1431655765))) (nI 2)) &&& (nI 858993459))) + (jU (((i - ((jU i (nI 1)) &&& (nI 1431655765))) &&& (nI 858993459)) + ((jU (i - ((jU i (nI 1)) &&& (nI 1431655765))) (nI 2)) &&& (nI 858993459))) (nI 4))) &&& (nI 252645135)))]) C.x C.b dJ6_bitCount_0f7a4_33 rfl hl (by decide) rfl (fun ls hl => ?_)
  refine lv_iload_n C.x C.b dJ6_bitCount_0f7a4_34 rfl (lv_at hl 0 rfl) ?_
  refine lv_iload_n C.x C.b dJ6_bitCount_0f7a4_35 rfl (lv_at hl 0 rfl) ?_
  refine lv_bipush (v := nI 8) C.x C.b dJ6_bitCount_0f7a4_36 (by decide) ?_
  refine lv_iushr (v := jU (((((i - ((jU i (nI 1)) &&& (nI 1431655765))) &&& (nI 858993459)) + ((jU (i - ((jU i (nI 1)) &&& (nI 1431655765))) (nI 2)) &&& (nI 858993459))) + (jU (((i - ((jU i (nI 1)) &&& (nI 1431655765))) &&& (nI 858993459)) + ((jU (i - ((jU i (nI 1)) &&& (nI 1431655765))) (nI 2)) &&& (nI 858993459))) (nI 4))) &&& (nI 252645135)) (nI 8)) C.x C.b dJ6_bitCount_0f7a4_38 rfl ?_
  refine lv_iadd C.x C.b dJ6_bitCount_0f7a4_39 ?_
  refine lv_istore_n (lv' := [(0, .int ((((((i - ((jU i (nI 1)) &&& (nI 1431655765))) &&& (nI 858993459)) + ((jU (i - ((jU i (nI 1)) &&& (nI 1431655765))) (nI 2)) &&& (nI 858993459))) + (jU (((i - ((jU i (nI 1)) &&& (nI 1431655765))) &&& (nI 858993459)) + ((jU (i - ((jU i (nI 1)) &&& (nI 1431655765))) (nI 2)) &&& (nI 858993459))) (nI 4))) &&& (nI 252645135)) + (jU (((((i - ((jU i (nI 1)) &&& (nI 1431655765))) &&& (nI 858993459)) + ((jU (i - ((jU i (nI 1)) &&& (nI 1431655765))) (nI 2)) &&& (nI 858993459))) + (jU (((i - ((jU i (nI 1)) &&& (nI 1431655765))) &&& (nI 858993459)) + ((jU (i - ((jU i (nI 1)) &&& (nI 1431655765))) (nI 2)) &&& (nI 858993459))) (nI 4))) &&& (nI 252645135)) (nI 8))))]) C.x C.b dJ6_bitCount_0f7a4_40 rfl hl (by decide) rfl (fun ls hl => ?_)
  refine lv_iload_n C.x C.b dJ6_bitCount_0f7a4_41 rfl (lv_at hl 0 rfl) ?_
  refine lv_iload_n C.x C.b dJ6_bitCount_0f7a4_42 rfl (lv_at hl 0 rfl) ?_
  refine lv_bipush (v := nI 16) C.x C.b dJ6_bitCount_0f7a4_43 (by decide) ?_
  refine lv_iushr (v := jU ((((((i - ((jU i (nI 1)) &&& (nI 1431655765))) &&& (nI 858993459)) + ((jU (i - ((jU i (nI 1)) &&& (nI 1431655765))) (nI 2)) &&& (nI 858993459))) + (jU (((i - ((jU i (nI 1)) &&& (nI 1431655765))) &&& (nI 858993459)) + ((jU (i - ((jU i (nI 1)) &&& (nI 1431655765))) (nI 2)) &&& (nI 858993459))) (nI 4))) &&& (nI 252645135)) + (jU (((((i - ((jU i (nI 1)) &&& (nI 1431655765))) &&& (nI 858993459)) + ((jU (i - ((jU i (nI 1)) &&& (nI 1431655765))) (nI 2)) &&& (nI 858993459))) + (jU (((i - ((jU i (nI 1)) &&& (nI 1431655765))) &&& (nI 858993459)) + ((jU (i - ((jU i (nI 1)) &&& (nI 1431655765))) (nI 2)) &&& (nI 858993459))) (nI 4))) &&& (nI 252645135)) (nI 8))) (nI 16)) C.x C.b dJ6_bitCount_0f7a4_45 rfl ?_
  refine lv_iadd C.x C.b dJ6_bitCount_0f7a4_46 ?_
  refine lv_istore_n (lv' := [(0, .int (((((((i - ((jU i (nI 1)) &&& (nI 1431655765))) &&& (nI 858993459)) + ((jU (i - ((jU i (nI 1)) &&& (nI 1431655765))) (nI 2)) &&& (nI 858993459))) + (jU (((i - ((jU i (nI 1)) &&& (nI 1431655765))) &&& (nI 858993459)) + ((jU (i - ((jU i (nI 1)) &&& (nI 1431655765))) (nI 2)) &&& (nI 858993459))) (nI 4))) &&& (nI 252645135)) + (jU (((((i - ((jU i (nI 1)) &&& (nI 1431655765))) &&& (nI 858993459)) + ((jU (i - ((jU i (nI 1)) &&& (nI 1431655765))) (nI 2)) &&& (nI 858993459))) + (jU (((i - ((jU i (nI 1)) &&& (nI 1431655765))) &&& (nI 858993459)) + ((jU (i - ((jU i (nI 1)) &&& (nI 1431655765))) (nI 2)) &&& (nI 858993459))) (nI 4))) &&& (nI 252645135)) (nI 8))) + (jU ((((((i - ((jU i (nI 1)) &&& (nI 1431655765))) &&& (nI 858993459)) + ((jU (i - ((jU i (nI 1)) &&& (nI 1431655765))) (nI 2)) &&& (nI 858993459))) + (jU (((i - ((jU i (nI 1)) &&& (nI 1431655765))) &&& (nI 858993459)) + ((jU (i - ((jU i (nI 1)) &&& (nI 1431655765))) (nI 2)) &&& (nI 858993459))) (nI 4))) &&& (nI 252645135)) + (jU (((((i - ((jU i (nI 1)) &&& (nI 1431655765))) &&& (nI 858993459)) + ((jU (i - ((jU i (nI 1)) &&& (nI 1431655765))) (nI 2)) &&& (nI 858993459))) + (jU (((i - ((jU i (nI 1)) &&& (nI 1431655765))) &&& (nI 858993459)) + ((jU (i - ((jU i (nI 1)) &&& (nI 1431655765))) (nI 2)) &&& (nI 858993459))) (nI 4))) &&& (nI 252645135)) (nI 8))) (nI 16))))]) C.x C.b dJ6_bitCount_0f7a4_47 rfl hl (by decide) rfl (fun ls hl => ?_)
  refine lv_iload_n C.x C.b dJ6_bitCount_0f7a4_48 rfl (lv_at hl 0 rfl) ?_
  refine lv_bipush (v := nI 63) C.x C.b dJ6_bitCount_0f7a4_49 (by decide) ?_
  refine lv_iand C.x C.b dJ6_bitCount_0f7a4_51 ?_
  exact k_iret C hX hr hlocks hQ (by omega) (by omega) (⟨rfl, rfl⟩) dJ6_bitCount_0f7a4_52

theorem lk_J6_numberOfLeadingZeros_0f7a4_c264 : Cond.constant RJ6 264 (65536) ∈ wsJ6_numberOfLeadingZeros_0f7a4 := by decide +kernel
abbrev rmJ6_numberOfLeadingZeros_0f7a4 : Room := { frames := 0, cells := 0, slots := 0, locals := 0 }
set_option maxHeartbeats 4000000 in
set_option maxRecDepth 100000 in
/-- J6_numberOfLeadingZeros_0f7a4 -/
theorem kJ6_numberOfLeadingZeros_0f7a4 (l : Launch) (G : kG) (B0 : Nat) (f : kH) (i : Int32) : Met l yJ6_numberOfLeadingZeros_0f7a4 wsJ6_numberOfLeadingZeros_0f7a4 (rmJ6_numberOfLeadingZeros_0f7a4) (kP G B0 f [.int i]) (kQi G B0 (fun r f1 => r = jNl6 i ∧ f1 = f)) 0 0 (kAb B0) := by
  refine kMet (cc := cJ6_numberOfLeadingZeros_0f7a4) (maxL := 2) (ret := (some .int)) (by decide) rfl (Nat.le_of_ble_eq_true rfl) ?_
  intro p e s m args below meth c H locs Q ls C hX hl hr hlocks hnm hQ
  have hl : lv_has ls 2 [(0, .int i)] := hl
  refine lv_iload_n C.x C.b dJ6_numberOfLeadingZeros_0f7a4_0 rfl (lv_at hl 0 rfl) ?_
  refine lv_if_gt (tgt := 15) C.x C.b dJ6_numberOfLeadingZeros_0f7a4_1 (by decide) (fun c_1 => ?_) (fun c_1 => ?_)
  · skip
    refine lv_bipush (v := nI 31) C.x C.b dJ6_numberOfLeadingZeros_0f7a4_15 (by decide) ?_
    refine lv_istore_n (lv' := [(1, .int (nI 31)), (0, .int i)]) C.x C.b dJ6_numberOfLeadingZeros_0f7a4_17 rfl hl (by decide) rfl (fun ls hl => ?_)
    refine lv_iload_n C.x C.b dJ6_numberOfLeadingZeros_0f7a4_18 rfl (lv_at hl 1 rfl) ?_
    refine lv_ldcw (v := nI 65536) C.x C.b C.ow (C.ts _ lk_J6_numberOfLeadingZeros_0f7a4_c264) dJ6_numberOfLeadingZeros_0f7a4_19 ?_
    have J33 : ∀ (ls : Array Slot), lv_has ls 2 [(1, .int (jNc i (nI 65536) (nI 31) ((nI 31) + -16))), (0, .int (jNc i (nI 65536) i (jU i (nI 16))))] → ∀ (H : Heap) (locs : List Loc), kX G B0 s f H locs → W p l e (rmJ6_numberOfLeadingZeros_0f7a4) s m args below meth c H locs 0 0 Q (F0 m 33 ls []) := by
      intro ls hl H locs hX
      obtain ⟨i33, hi33⟩ : ∃ z9, (jNc i (nI 65536) i (jU i (nI 16))) = z9 := ⟨_, rfl⟩
      rw [show (jNc i (nI 65536) i (jU i (nI 16))) = i33 from hi33] at hl
      obtain ⟨a33, ha33⟩ : ∃ z9, (jNc i (nI 65536) (nI 31) ((nI 31) + -16)) = z9 := ⟨_, rfl⟩
      rw [show (jNc i (nI 65536) (nI 31) ((nI 31) + -16)) = a33 from ha33] at hl
      refine lv_iload_n C.x C.b dJ6_numberOfLeadingZeros_0f7a4_33 rfl (lv_at hl 1 rfl) ?_
      refine lv_sipush (v := nI 256) C.x C.b dJ6_numberOfLeadingZeros_0f7a4_34 (by decide) ?_
      have J48 : ∀ (ls : Array Slot), lv_has ls 2 [(1, .int (jNc i33 (nI 256) a33 (a33 + -8))), (0, .int (jNc i33 (nI 256) i33 (jU i33 (nI 8))))] → ∀ (H : Heap) (locs : List Loc), kX G B0 s f H locs → W p l e (rmJ6_numberOfLeadingZeros_0f7a4) s m args below meth c H locs 0 0 Q (F0 m 48 ls []) := by
        intro ls hl H locs hX
        obtain ⟨i48, hi48⟩ : ∃ z9, (jNc i33 (nI 256) i33 (jU i33 (nI 8))) = z9 := ⟨_, rfl⟩
        rw [show (jNc i33 (nI 256) i33 (jU i33 (nI 8))) = i48 from hi48] at hl
        obtain ⟨a48, ha48⟩ : ∃ z9, (jNc i33 (nI 256) a33 (a33 + -8)) = z9 := ⟨_, rfl⟩
        rw [show (jNc i33 (nI 256) a33 (a33 + -8)) = a48 from ha48] at hl
        refine lv_iload_n C.x C.b dJ6_numberOfLeadingZeros_0f7a4_48 rfl (lv_at hl 1 rfl) ?_
        refine lv_bipush (v := nI 16) C.x C.b dJ6_numberOfLeadingZeros_0f7a4_49 (by decide) ?_
        have J61 : ∀ (ls : Array Slot), lv_has ls 2 [(1, .int (jNc i48 (nI 16) a48 (a48 + -4))), (0, .int (jNc i48 (nI 16) i48 (jU i48 (nI 4))))] → ∀ (H : Heap) (locs : List Loc), kX G B0 s f H locs → W p l e (rmJ6_numberOfLeadingZeros_0f7a4) s m args below meth c H locs 0 0 Q (F0 m 61 ls []) := by
          intro ls hl H locs hX
          obtain ⟨i61, hi61⟩ : ∃ z9, (jNc i48 (nI 16) i48 (jU i48 (nI 4))) = z9 := ⟨_, rfl⟩
          rw [show (jNc i48 (nI 16) i48 (jU i48 (nI 4))) = i61 from hi61] at hl
          obtain ⟨a61, ha61⟩ : ∃ z9, (jNc i48 (nI 16) a48 (a48 + -4)) = z9 := ⟨_, rfl⟩
          rw [show (jNc i48 (nI 16) a48 (a48 + -4)) = a61 from ha61] at hl
          refine lv_iload_n C.x C.b dJ6_numberOfLeadingZeros_0f7a4_61 rfl (lv_at hl 1 rfl) ?_
          refine lv_iconst (v := nI 4) C.x C.b dJ6_numberOfLeadingZeros_0f7a4_62 (by decide) ?_
          have J73 : ∀ (ls : Array Slot), lv_has ls 2 [(1, .int (jNc i61 (nI 4) a61 (a61 + -2))), (0, .int (jNc i61 (nI 4) i61 (jU i61 (nI 2))))] → ∀ (H : Heap) (locs : List Loc), kX G B0 s f H locs → W p l e (rmJ6_numberOfLeadingZeros_0f7a4) s m args below meth c H locs 0 0 Q (F0 m 73 ls []) := by
            intro ls hl H locs hX
            obtain ⟨i73, hi73⟩ : ∃ z9, (jNc i61 (nI 4) i61 (jU i61 (nI 2))) = z9 := ⟨_, rfl⟩
            rw [show (jNc i61 (nI 4) i61 (jU i61 (nI 2))) = i73 from hi73] at hl
            obtain ⟨a73, ha73⟩ : ∃ z9, (jNc i61 (nI 4) a61 (a61 + -2)) = z9 := ⟨_, rfl⟩
            rw [show (jNc i61 (nI 4) a61 (a61 + -2)) = a73 from ha73] at hl
            refine lv_iload_n C.x C.b dJ6_numberOfLeadingZeros_0f7a4_73 rfl (lv_at hl 0 rfl) ?_
            refine lv_iload_n C.x C.b dJ6_numberOfLeadingZeros_0f7a4_74 rfl (lv_at hl 1 rfl) ?_
            refine lv_iconst (v := nI 1) C.x C.b dJ6_numberOfLeadingZeros_0f7a4_75 (by decide) ?_
            refine lv_iushr (v := jU i73 (nI 1)) C.x C.b dJ6_numberOfLeadingZeros_0f7a4_76 rfl ?_
            refine lv_isub C.x C.b dJ6_numberOfLeadingZeros_0f7a4_77 ?_
            exact k_iret C hX hr hlocks hQ (by omega) (by omega) (by refine ⟨?_, rfl⟩; subst ha73; subst hi73; subst ha61; subst hi61; subst ha48; subst hi48; subst ha33; subst hi33; rw [jNl6, if_pos (show 0 < i from c_1)]) dJ6_numberOfLeadingZeros_0f7a4_78
          refine lv_icmp_lt (tgt := 73) C.x C.b dJ6_numberOfLeadingZeros_0f7a4_63 (by decide) (fun c_63 => ?_) (fun c_63 => ?_)
          · skip
            rw [show i61 = (jNc i61 (nI 4) i61 (jU i61 (nI 2))) from jNc_t c_63] at hl
            rw [show a61 = (jNc i61 (nI 4) a61 (a61 + -2)) from jNc_t c_63] at hl
            exact J73 ls (lv_sub hl [0, 1] rfl) _ _ hX
          · skip
            refine lv_iinc (v := (a61 + -2)) (lv' := [(1, .int (a61 + -2)), (0, .int i61)]) C.x C.b dJ6_numberOfLeadingZeros_0f7a4_66 hl (k := 0) rfl (rfl) (by decide) rfl (fun ls hl => ?_)
            refine lv_iload_n C.x C.b dJ6_numberOfLeadingZeros_0f7a4_69 rfl (lv_at hl 1 rfl) ?_
            refine lv_iconst (v := nI 2) C.x C.b dJ6_numberOfLeadingZeros_0f7a4_70 (by decide) ?_
            refine lv_iushr (v := jU i61 (nI 2)) C.x C.b dJ6_numberOfLeadingZeros_0f7a4_71 rfl ?_
            refine lv_istore_n (lv' := [(0, .int (jU i61 (nI 2))), (1, .int (a61 + -2))]) C.x C.b dJ6_numberOfLeadingZeros_0f7a4_72 rfl hl (by decide) rfl (fun ls hl => ?_)
            rw [show (jU i61 (nI 2)) = (jNc i61 (nI 4) i61 (jU i61 (nI 2))) from jNc_f c_63] at hl
            rw [show (a61 + -2) = (jNc i61 (nI 4) a61 (a61 + -2)) from jNc_f c_63] at hl
            exact J73 ls (lv_sub hl [1, 0] rfl) _ _ hX
        refine lv_icmp_lt (tgt := 61) C.x C.b dJ6_numberOfLeadingZeros_0f7a4_51 (by decide) (fun c_51 => ?_) (fun c_51 => ?_)
        · skip
          rw [show i48 = (jNc i48 (nI 16) i48 (jU i48 (nI 4))) from jNc_t c_51] at hl
          rw [show a48 = (jNc i48 (nI 16) a48 (a48 + -4)) from jNc_t c_51] at hl
          exact J61 ls (lv_sub hl [0, 1] rfl) _ _ hX
        · skip
          refine lv_iinc (v := (a48 + -4)) (lv' := [(1, .int (a48 + -4)), (0, .int i48)]) C.x C.b dJ6_numberOfLeadingZeros_0f7a4_54 hl (k := 0) rfl (rfl) (by decide) rfl (fun ls hl => ?_)
          refine lv_iload_n C.x C.b dJ6_numberOfLeadingZeros_0f7a4_57 rfl (lv_at hl 1 rfl) ?_
          refine lv_iconst (v := nI 4) C.x C.b dJ6_numberOfLeadingZeros_0f7a4_58 (by decide) ?_
          refine lv_iushr (v := jU i48 (nI 4)) C.x C.b dJ6_numberOfLeadingZeros_0f7a4_59 rfl ?_
          refine lv_istore_n (lv' := [(0, .int (jU i48 (nI 4))), (1, .int (a48 + -4))]) C.x C.b dJ6_numberOfLeadingZeros_0f7a4_60 rfl hl (by decide) rfl (fun ls hl => ?_)
          rw [show (jU i48 (nI 4)) = (jNc i48 (nI 16) i48 (jU i48 (nI 4))) from jNc_f c_51] at hl
          rw [show (a48 + -4) = (jNc i48 (nI 16) a48 (a48 + -4)) from jNc_f c_51] at hl
          exact J61 ls (lv_sub hl [1, 0] rfl) _ _ hX
      refine lv_icmp_lt (tgt := 48) C.x C.b dJ6_numberOfLeadingZeros_0f7a4_37 (by decide) (fun c_37 => ?_) (fun c_37 => ?_)
      · skip
        rw [show i33 = (jNc i33 (nI 256) i33 (jU i33 (nI 8))) from jNc_t c_37] at hl
        rw [show a33 = (jNc i33 (nI 256) a33 (a33 + -8)) from jNc_t c_37] at hl
        exact J48 ls (lv_sub hl [0, 1] rfl) _ _ hX
      · skip
        refine lv_iinc (v := (a33 + -8)) (lv' := [(1, .int (a33 + -8)), (0, .int i33)]) C.x C.b dJ6_numberOfLeadingZeros_0f7a4_40 hl (k := 0) rfl (rfl) (by decide) rfl (fun ls hl => ?_)
        refine lv_iload_n C.x C.b dJ6_numberOfLeadingZeros_0f7a4_43 rfl (lv_at hl 1 rfl) ?_
        refine lv_bipush (v := nI 8) C.x C.b dJ6_numberOfLeadingZeros_0f7a4_44 (by decide) ?_
        refine lv_iushr (v := jU i33 (nI 8)) C.x C.b dJ6_numberOfLeadingZeros_0f7a4_46 rfl ?_
        refine lv_istore_n (lv' := [(0, .int (jU i33 (nI 8))), (1, .int (a33 + -8))]) C.x C.b dJ6_numberOfLeadingZeros_0f7a4_47 rfl hl (by decide) rfl (fun ls hl => ?_)
        rw [show (jU i33 (nI 8)) = (jNc i33 (nI 256) i33 (jU i33 (nI 8))) from jNc_f c_37] at hl
        rw [show (a33 + -8) = (jNc i33 (nI 256) a33 (a33 + -8)) from jNc_f c_37] at hl
        exact J48 ls (lv_sub hl [1, 0] rfl) _ _ hX
    refine lv_icmp_lt (tgt := 33) C.x C.b dJ6_numberOfLeadingZeros_0f7a4_22 (by decide) (fun c_22 => ?_) (fun c_22 => ?_)
    · skip
      rw [show i = (jNc i (nI 65536) i (jU i (nI 16))) from jNc_t c_22] at hl
      rw [show (nI 31) = (jNc i (nI 65536) (nI 31) ((nI 31) + -16)) from jNc_t c_22] at hl
      exact J33 ls (lv_sub hl [0, 1] rfl) _ _ hX
    · skip
      refine lv_iinc (v := ((nI 31) + -16)) (lv' := [(1, .int ((nI 31) + -16)), (0, .int i)]) C.x C.b dJ6_numberOfLeadingZeros_0f7a4_25 hl (k := 0) rfl (rfl) (by decide) rfl (fun ls hl => ?_)
      refine lv_iload_n C.x C.b dJ6_numberOfLeadingZeros_0f7a4_28 rfl (lv_at hl 1 rfl) ?_
      refine lv_bipush (v := nI 16) C.x C.b dJ6_numberOfLeadingZeros_0f7a4_29 (by decide) ?_
      refine lv_iushr (v := jU i (nI 16)) C.x C.b dJ6_numberOfLeadingZeros_0f7a4_31 rfl ?_
      refine lv_istore_n (lv' := [(0, .int (jU i (nI 16))), (1, .int ((nI 31) + -16))]) C.x C.b dJ6_numberOfLeadingZeros_0f7a4_32 rfl hl (by decide) rfl (fun ls hl => ?_)
      rw [show (jU i (nI 16)) = (jNc i (nI 65536) i (jU i (nI 16))) from jNc_f c_22] at hl
      rw [show ((nI 31) + -16) = (jNc i (nI 65536) (nI 31) ((nI 31) + -16)) from jNc_f c_22] at hl
      exact J33 ls (lv_sub hl [1, 0] rfl) _ _ hX
  · skip
    refine lv_iload_n C.x C.b dJ6_numberOfLeadingZeros_0f7a4_4 rfl (lv_at hl 0 rfl) ?_
    refine lv_if_ne (tgt := 13) C.x C.b dJ6_numberOfLeadingZeros_0f7a4_5 (by decide) (fun c_5 => ?_) (fun c_5 => ?_)
    · skip
      refine lv_iconst (v := nI 0) C.x C.b dJ6_numberOfLeadingZeros_0f7a4_13 (by decide) ?_
      exact k_iret C hX hr hlocks hQ (by omega) (by omega) (by refine ⟨?_, rfl⟩; rw [jNl6, if_neg (show ¬ 0 < i from c_1)]; first | exact (if_pos c_5).symm | exact (if_neg c_5).symm) dJ6_numberOfLeadingZeros_0f7a4_14
    · skip
      refine lv_bipush (v := nI 32) C.x C.b dJ6_numberOfLeadingZeros_0f7a4_8 (by decide) ?_
      refine lv_goto (tgt := 14) C.x C.b dJ6_numberOfLeadingZeros_0f7a4_10 (by decide) ?_
      exact k_iret C hX hr hlocks hQ (by omega) (by omega) (by refine ⟨?_, rfl⟩; rw [jNl6, if_neg (show ¬ 0 < i from c_1)]; first | exact (if_pos c_5).symm | exact (if_neg c_5).symm) dJ6_numberOfLeadingZeros_0f7a4_14

theorem lk_J6_numberOfTrailingZeros_0f7a4_c264 : Cond.constant RJ6 264 (65536) ∈ wsJ6_numberOfTrailingZeros_0f7a4 := by decide +kernel
abbrev rmJ6_numberOfTrailingZeros_0f7a4 : Room := { frames := 0, cells := 0, slots := 0, locals := 0 }
set_option maxHeartbeats 4000000 in
set_option maxRecDepth 100000 in
/-- J6_numberOfTrailingZeros_0f7a4 -/
theorem kJ6_numberOfTrailingZeros_0f7a4 (l : Launch) (G : kG) (B0 : Nat) (f : kH) (i : Int32) : Met l yJ6_numberOfTrailingZeros_0f7a4 wsJ6_numberOfTrailingZeros_0f7a4 (rmJ6_numberOfTrailingZeros_0f7a4) (kP G B0 f [.int i]) (kQi G B0 (fun r f1 => r = jTz6 i ∧ f1 = f)) 0 0 (kAb B0) := by
  refine kMet (cc := cJ6_numberOfTrailingZeros_0f7a4) (maxL := 2) (ret := (some .int)) (by decide) rfl (Nat.le_of_ble_eq_true rfl) ?_
  intro p e s m args below meth c H locs Q ls C hX hl hr hlocks hnm hQ
  have hl : lv_has ls 2 [(0, .int i)] := hl
  refine lv_iload_n C.x C.b dJ6_numberOfTrailingZeros_0f7a4_0 rfl (lv_at hl 0 rfl) ?_
  refine lv_iconst (v := -1) C.x C.b dJ6_numberOfTrailingZeros_0f7a4_1 (by decide) ?_
  refine lv_ixor C.x C.b dJ6_numberOfTrailingZeros_0f7a4_2 ?_
  refine lv_iload_n C.x C.b dJ6_numberOfTrailingZeros_0f7a4_3 rfl (lv_at hl 0 rfl) ?_
  refine lv_iconst (v := nI 1) C.x C.b dJ6_numberOfTrailingZeros_0f7a4_4 (by decide) ?_
  refine lv_isub C.x C.b dJ6_numberOfTrailingZeros_0f7a4_5 ?_
  refine lv_iand C.x C.b dJ6_numberOfTrailingZeros_0f7a4_6 ?_
  refine lv_istore_n (lv' := [(0, .int ((i ^^^ (-1)) &&& (i - (nI 1))))]) C.x C.b dJ6_numberOfTrailingZeros_0f7a4_7 rfl hl (by decide) rfl (fun ls hl => ?_)
  obtain ⟨k9, hk9⟩ : ∃ k9, (i ^^^ -1) &&& (i - nI 1) = k9 := ⟨_, rfl⟩
  rw [show ((i ^^^ (-1)) &&& (i - (nI 1))) = k9 from hk9] at hl
  refine lv_iload_n C.x C.b dJ6_numberOfTrailingZeros_0f7a4_8 rfl (lv_at hl 0 rfl) ?_
  refine lv_if_gt (tgt := 17) C.x C.b dJ6_numberOfTrailingZeros_0f7a4_9 (by decide) (fun c_9 => ?_) (fun c_9 => ?_)
  · skip
    refine lv_iconst (v := nI 1) C.x C.b dJ6_numberOfTrailingZeros_0f7a4_17 (by decide) ?_
    refine lv_istore_n (lv' := [(1, .int (nI 1)), (0, .int k9)]) C.x C.b dJ6_numberOfTrailingZeros_0f7a4_18 rfl hl (by decide) rfl (fun ls hl => ?_)
    refine lv_iload_n C.x C.b dJ6_numberOfTrailingZeros_0f7a4_19 rfl (lv_at hl 1 rfl) ?_
    refine lv_ldcw (v := nI 65536) C.x C.b C.ow (C.ts _ lk_J6_numberOfTrailingZeros_0f7a4_c264) dJ6_numberOfTrailingZeros_0f7a4_20 ?_
    have J34 : ∀ (ls : Array Slot), lv_has ls 2 [(1, .int (jTc k9 (nI 65536) (nI 1) ((nI 1) + 16))), (0, .int (jTc k9 (nI 65536) k9 (jU k9 (nI 16))))] → ∀ (H : Heap) (locs : List Loc), kX G B0 s f H locs → W p l e (rmJ6_numberOfTrailingZeros_0f7a4) s m args below meth c H locs 0 0 Q (F0 m 34 ls []) := by
      intro ls hl H locs hX
      obtain ⟨i34, hi34⟩ : ∃ z9, (jTc k9 (nI 65536) k9 (jU k9 (nI 16))) = z9 := ⟨_, rfl⟩
      rw [show (jTc k9 (nI 65536) k9 (jU k9 (nI 16))) = i34 from hi34] at hl
      obtain ⟨a34, ha34⟩ : ∃ z9, (jTc k9 (nI 65536) (nI 1) ((nI 1) + 16)) = z9 := ⟨_, rfl⟩
      rw [show (jTc k9 (nI 65536) (nI 1) ((nI 1) + 16)) = a34 from ha34] at hl
      refine lv_iload_n C.x C.b dJ6_numberOfTrailingZeros_0f7a4_34 rfl (lv_at hl 1 rfl) ?_
      refine lv_sipush (v := nI 256) C.x C.b dJ6_numberOfTrailingZeros_0f7a4_35 (by decide) ?_
      have J49 : ∀ (ls : Array Slot), lv_has ls 2 [(1, .int (jTc i34 (nI 256) a34 (a34 + 8))), (0, .int (jTc i34 (nI 256) i34 (jU i34 (nI 8))))] → ∀ (H : Heap) (locs : List Loc), kX G B0 s f H locs → W p l e (rmJ6_numberOfTrailingZeros_0f7a4) s m args below meth c H locs 0 0 Q (F0 m 49 ls []) := by
        intro ls hl H locs hX
        obtain ⟨i49, hi49⟩ : ∃ z9, (jTc i34 (nI 256) i34 (jU i34 (nI 8))) = z9 := ⟨_, rfl⟩
        rw [show (jTc i34 (nI 256) i34 (jU i34 (nI 8))) = i49 from hi49] at hl
        obtain ⟨a49, ha49⟩ : ∃ z9, (jTc i34 (nI 256) a34 (a34 + 8)) = z9 := ⟨_, rfl⟩
        rw [show (jTc i34 (nI 256) a34 (a34 + 8)) = a49 from ha49] at hl
        refine lv_iload_n C.x C.b dJ6_numberOfTrailingZeros_0f7a4_49 rfl (lv_at hl 1 rfl) ?_
        refine lv_bipush (v := nI 16) C.x C.b dJ6_numberOfTrailingZeros_0f7a4_50 (by decide) ?_
        have J62 : ∀ (ls : Array Slot), lv_has ls 2 [(1, .int (jTc i49 (nI 16) a49 (a49 + 4))), (0, .int (jTc i49 (nI 16) i49 (jU i49 (nI 4))))] → ∀ (H : Heap) (locs : List Loc), kX G B0 s f H locs → W p l e (rmJ6_numberOfTrailingZeros_0f7a4) s m args below meth c H locs 0 0 Q (F0 m 62 ls []) := by
          intro ls hl H locs hX
          obtain ⟨i62, hi62⟩ : ∃ z9, (jTc i49 (nI 16) i49 (jU i49 (nI 4))) = z9 := ⟨_, rfl⟩
          rw [show (jTc i49 (nI 16) i49 (jU i49 (nI 4))) = i62 from hi62] at hl
          obtain ⟨a62, ha62⟩ : ∃ z9, (jTc i49 (nI 16) a49 (a49 + 4)) = z9 := ⟨_, rfl⟩
          rw [show (jTc i49 (nI 16) a49 (a49 + 4)) = a62 from ha62] at hl
          refine lv_iload_n C.x C.b dJ6_numberOfTrailingZeros_0f7a4_62 rfl (lv_at hl 1 rfl) ?_
          refine lv_iconst (v := nI 4) C.x C.b dJ6_numberOfTrailingZeros_0f7a4_63 (by decide) ?_
          have J74 : ∀ (ls : Array Slot), lv_has ls 2 [(1, .int (jTc i62 (nI 4) a62 (a62 + 2))), (0, .int (jTc i62 (nI 4) i62 (jU i62 (nI 2))))] → ∀ (H : Heap) (locs : List Loc), kX G B0 s f H locs → W p l e (rmJ6_numberOfTrailingZeros_0f7a4) s m args below meth c H locs 0 0 Q (F0 m 74 ls []) := by
            intro ls hl H locs hX
            obtain ⟨i74, hi74⟩ : ∃ z9, (jTc i62 (nI 4) i62 (jU i62 (nI 2))) = z9 := ⟨_, rfl⟩
            rw [show (jTc i62 (nI 4) i62 (jU i62 (nI 2))) = i74 from hi74] at hl
            obtain ⟨a74, ha74⟩ : ∃ z9, (jTc i62 (nI 4) a62 (a62 + 2)) = z9 := ⟨_, rfl⟩
            rw [show (jTc i62 (nI 4) a62 (a62 + 2)) = a74 from ha74] at hl
            refine lv_iload_n C.x C.b dJ6_numberOfTrailingZeros_0f7a4_74 rfl (lv_at hl 0 rfl) ?_
            refine lv_iload_n C.x C.b dJ6_numberOfTrailingZeros_0f7a4_75 rfl (lv_at hl 1 rfl) ?_
            refine lv_iconst (v := nI 1) C.x C.b dJ6_numberOfTrailingZeros_0f7a4_76 (by decide) ?_
            refine lv_iushr (v := jU i74 (nI 1)) C.x C.b dJ6_numberOfTrailingZeros_0f7a4_77 rfl ?_
            refine lv_iadd C.x C.b dJ6_numberOfTrailingZeros_0f7a4_78 ?_
            exact k_iret C hX hr hlocks hQ (by omega) (by omega) (by refine ⟨?_, rfl⟩; subst ha74; subst hi74; subst ha62; subst hi62; subst ha49; subst hi49; subst ha34; subst hi34; rw [jTz6, hk9]; exact (if_pos c_9).symm) dJ6_numberOfTrailingZeros_0f7a4_79
          refine lv_icmp_le (tgt := 74) C.x C.b dJ6_numberOfTrailingZeros_0f7a4_64 (by decide) (fun c_64 => ?_) (fun c_64 => ?_)
          · skip
            rw [show i62 = (jTc i62 (nI 4) i62 (jU i62 (nI 2))) from jTc_t c_64] at hl
            rw [show a62 = (jTc i62 (nI 4) a62 (a62 + 2)) from jTc_t c_64] at hl
            exact J74 ls (lv_sub hl [0, 1] rfl) _ _ hX
          · skip
            refine lv_iinc (v := (a62 + 2)) (lv' := [(1, .int (a62 + 2)), (0, .int i62)]) C.x C.b dJ6_numberOfTrailingZeros_0f7a4_67 hl (k := 0) rfl (rfl) (by decide) rfl (fun ls hl => ?_)
            refine lv_iload_n C.x C.b dJ6_numberOfTrailingZeros_0f7a4_70 rfl (lv_at hl 1 rfl) ?_
            refine lv_iconst (v := nI 2) C.x C.b dJ6_numberOfTrailingZeros_0f7a4_71 (by decide) ?_
            refine lv_iushr (v := jU i62 (nI 2)) C.x C.b dJ6_numberOfTrailingZeros_0f7a4_72 rfl ?_
            refine lv_istore_n (lv' := [(0, .int (jU i62 (nI 2))), (1, .int (a62 + 2))]) C.x C.b dJ6_numberOfTrailingZeros_0f7a4_73 rfl hl (by decide) rfl (fun ls hl => ?_)
            rw [show (jU i62 (nI 2)) = (jTc i62 (nI 4) i62 (jU i62 (nI 2))) from jTc_f c_64] at hl
            rw [show (a62 + 2) = (jTc i62 (nI 4) a62 (a62 + 2)) from jTc_f c_64] at hl
            exact J74 ls (lv_sub hl [1, 0] rfl) _ _ hX
        refine lv_icmp_le (tgt := 62) C.x C.b dJ6_numberOfTrailingZeros_0f7a4_52 (by decide) (fun c_52 => ?_) (fun c_52 => ?_)
        · skip
          rw [show i49 = (jTc i49 (nI 16) i49 (jU i49 (nI 4))) from jTc_t c_52] at hl
          rw [show a49 = (jTc i49 (nI 16) a49 (a49 + 4)) from jTc_t c_52] at hl
          exact J62 ls (lv_sub hl [0, 1] rfl) _ _ hX
        · skip
          refine lv_iinc (v := (a49 + 4)) (lv' := [(1, .int (a49 + 4)), (0, .int i49)]) C.x C.b dJ6_numberOfTrailingZeros_0f7a4_55 hl (k := 0) rfl (rfl) (by decide) rfl (fun ls hl => ?_)
          refine lv_iload_n C.x C.b dJ6_numberOfTrailingZeros_0f7a4_58 rfl (lv_at hl 1 rfl) ?_
          refine lv_iconst (v := nI 4) C.x C.b dJ6_numberOfTrailingZeros_0f7a4_59 (by decide) ?_
          refine lv_iushr (v := jU i49 (nI 4)) C.x C.b dJ6_numberOfTrailingZeros_0f7a4_60 rfl ?_
          refine lv_istore_n (lv' := [(0, .int (jU i49 (nI 4))), (1, .int (a49 + 4))]) C.x C.b dJ6_numberOfTrailingZeros_0f7a4_61 rfl hl (by decide) rfl (fun ls hl => ?_)
          rw [show (jU i49 (nI 4)) = (jTc i49 (nI 16) i49 (jU i49 (nI 4))) from jTc_f c_52] at hl
          rw [show (a49 + 4) = (jTc i49 (nI 16) a49 (a49 + 4)) from jTc_f c_52] at hl
          exact J62 ls (lv_sub hl [1, 0] rfl) _ _ hX
      refine lv_icmp_le (tgt := 49) C.x C.b dJ6_numberOfTrailingZeros_0f7a4_38 (by decide) (fun c_38 => ?_) (fun c_38 => ?_)
      · skip
        rw [show i34 = (jTc i34 (nI 256) i34 (jU i34 (nI 8))) from jTc_t c_38] at hl
        rw [show a34 = (jTc i34 (nI 256) a34 (a34 + 8)) from jTc_t c_38] at hl
        exact J49 ls (lv_sub hl [0, 1] rfl) _ _ hX
      · skip
        refine lv_iinc (v := (a34 + 8)) (lv' := [(1, .int (a34 + 8)), (0, .int i34)]) C.x C.b dJ6_numberOfTrailingZeros_0f7a4_41 hl (k := 0) rfl (rfl) (by decide) rfl (fun ls hl => ?_)
        refine lv_iload_n C.x C.b dJ6_numberOfTrailingZeros_0f7a4_44 rfl (lv_at hl 1 rfl) ?_
        refine lv_bipush (v := nI 8) C.x C.b dJ6_numberOfTrailingZeros_0f7a4_45 (by decide) ?_
        refine lv_iushr (v := jU i34 (nI 8)) C.x C.b dJ6_numberOfTrailingZeros_0f7a4_47 rfl ?_
        refine lv_istore_n (lv' := [(0, .int (jU i34 (nI 8))), (1, .int (a34 + 8))]) C.x C.b dJ6_numberOfTrailingZeros_0f7a4_48 rfl hl (by decide) rfl (fun ls hl => ?_)
        rw [show (jU i34 (nI 8)) = (jTc i34 (nI 256) i34 (jU i34 (nI 8))) from jTc_f c_38] at hl
        rw [show (a34 + 8) = (jTc i34 (nI 256) a34 (a34 + 8)) from jTc_f c_38] at hl
        exact J49 ls (lv_sub hl [1, 0] rfl) _ _ hX
    refine lv_icmp_le (tgt := 34) C.x C.b dJ6_numberOfTrailingZeros_0f7a4_23 (by decide) (fun c_23 => ?_) (fun c_23 => ?_)
    · skip
      rw [show k9 = (jTc k9 (nI 65536) k9 (jU k9 (nI 16))) from jTc_t c_23] at hl
      rw [show (nI 1) = (jTc k9 (nI 65536) (nI 1) ((nI 1) + 16)) from jTc_t c_23] at hl
      exact J34 ls (lv_sub hl [0, 1] rfl) _ _ hX
    · skip
      refine lv_iinc (v := (nI (1 + 16))) (lv' := [(1, .int (nI (1 + 16))), (0, .int k9)]) C.x C.b dJ6_numberOfTrailingZeros_0f7a4_26 hl (k := 0) rfl (nI_add _ _) (by decide) rfl (fun ls hl => ?_)
      refine lv_iload_n C.x C.b dJ6_numberOfTrailingZeros_0f7a4_29 rfl (lv_at hl 1 rfl) ?_
      refine lv_bipush (v := nI 16) C.x C.b dJ6_numberOfTrailingZeros_0f7a4_30 (by decide) ?_
      refine lv_iushr (v := jU k9 (nI 16)) C.x C.b dJ6_numberOfTrailingZeros_0f7a4_32 rfl ?_
      refine lv_istore_n (lv' := [(0, .int (jU k9 (nI 16))), (1, .int (nI (1 + 16)))]) C.x C.b dJ6_numberOfTrailingZeros_0f7a4_33 rfl hl (by decide) rfl (fun ls hl => ?_)
      rw [show (jU k9 (nI 16)) = (jTc k9 (nI 65536) k9 (jU k9 (nI 16))) from jTc_f c_23] at hl
      rw [show (nI (1 + 16)) = (jTc k9 (nI 65536) (nI 1) ((nI 1) + 16)) from jTc_f c_23] at hl
      exact J34 ls (lv_sub hl [1, 0] rfl) _ _ hX
  · skip
    refine lv_iload_n C.x C.b dJ6_numberOfTrailingZeros_0f7a4_12 rfl (lv_at hl 0 rfl) ?_
    refine lv_bipush (v := nI 32) C.x C.b dJ6_numberOfTrailingZeros_0f7a4_13 (by decide) ?_
    refine lv_iand C.x C.b dJ6_numberOfTrailingZeros_0f7a4_15 ?_
    exact k_iret C hX hr hlocks hQ (by omega) (by omega) (by refine ⟨?_, rfl⟩; rw [jTz6, hk9]; exact (if_neg c_9).symm) dJ6_numberOfTrailingZeros_0f7a4_16

theorem hdJ13_numberOfLeadingZeros_95d88_J6_numberOfLeadingZeros_0f7a4 : yJ6_numberOfLeadingZeros_0f7a4.cls ≠ "java/lang/invoke/MethodHandle" ∧ yJ6_numberOfLeadingZeros_0f7a4.cls ≠ "java/lang/invoke/VarHandle" ∧ (parseMethodDescriptor yJ6_numberOfLeadingZeros_0f7a4.desc).map (fun d => d.parameters.length) = some 1 := by decide +kernel
abbrev rmJ13_numberOfLeadingZeros_95d88 : Room := { frames := 1, cells := 0, slots := 0, locals := 21 }
set_option maxHeartbeats 4000000 in
set_option maxRecDepth 100000 in
/-- J13_numberOfLeadingZeros_95d88 -/
theorem kJ13_numberOfLeadingZeros_95d88 (l : Launch) (G : kG) (B0 : Nat) (f : kH) (x : Int64) : Met l yJ13_numberOfLeadingZeros_95d88 wsJ13_numberOfLeadingZeros_95d88 (rmJ13_numberOfLeadingZeros_95d88) (kP G B0 f [.long x]) (kQi G B0 (fun r f1 => r = jNl x ∧ f1 = f)) 0 0 (kAb B0) := by
  refine kMet (cc := cJ13_numberOfLeadingZeros_95d88) (maxL := 3) (ret := (some .int)) (by decide) rfl (Nat.le_of_ble_eq_true rfl) ?_
  intro p e s m args below meth c H locs Q ls C hX hl hr hlocks hnm hQ
  have hl : lv_has ls 3 [(0, .long x)] := hl
  refine lv_lload_n C.x C.b dJ13_numberOfLeadingZeros_95d88_0 rfl (lv_at hl 0 rfl) ?_
  refine lv_bipush (v := nI 32) C.x C.b dJ13_numberOfLeadingZeros_95d88_1 (by decide) ?_
  refine lv_lushr (v := jUL x (nI 32)) C.x C.b dJ13_numberOfLeadingZeros_95d88_3 rfl ?_
  refine lv_l2i (v := (jUL x (nI 32)).toInt32) C.x C.b dJ13_numberOfLeadingZeros_95d88_4 rfl ?_
  refine lv_istore_n (lv' := [(2, .int ((jUL x (nI 32)).toInt32)), (0, .long x)]) C.x C.b dJ13_numberOfLeadingZeros_95d88_5 rfl hl (by decide) rfl (fun ls hl => ?_)
  refine lv_iload_n C.x C.b dJ13_numberOfLeadingZeros_95d88_6 rfl (lv_at hl 0 rfl) ?_
  refine lv_if_ne (tgt := 21) C.x C.b dJ13_numberOfLeadingZeros_95d88_7 (by decide) (fun c_7 => ?_) (fun c_7 => ?_)
  · skip
    refine lv_iload_n C.x C.b dJ13_numberOfLeadingZeros_95d88_21 rfl (lv_at hl 0 rfl) ?_
    refine k_calli (va_runS (As := [.int ((jUL x (nI 32)).toInt32)]) (rest := []) C.1 (kJ6_numberOfLeadingZeros_0f7a4 l G B0 f ((jUL x (nI 32)).toInt32)) (va_cwS 1 C.ts gJ13_numberOfLeadingZeros_95d88_J6_numberOfLeadingZeros_0f7a4 rfl rfl rfl (hdJ13_numberOfLeadingZeros_95d88_J6_numberOfLeadingZeros_0f7a4) ⟨Nat.le_of_ble_eq_true rfl, Nat.le_of_ble_eq_true rfl⟩) (k_preS C hX) rfl rfl hl.1 rfl (lv_room (Nat.le_of_ble_eq_true rfl)) dJ13_numberOfLeadingZeros_95d88_22 ⟨Nat.le_of_ble_eq_true rfl, Nat.le_of_ble_eq_true rfl⟩) hX (fun r22 f22 H locs hp22 hX => ?_)
    obtain ⟨hr22, hf22⟩ := hp22
    rw [hf22] at hX
    refine k_topi (y := (jNl6 ((jUL x (nI 32)).toInt32))) hr22 ?_
    exact k_iret C hX hr hlocks hQ (by omega) (by omega) (by refine ⟨?_, rfl⟩; first | exact (if_pos c_7).symm | exact (if_neg c_7).symm) dJ13_numberOfLeadingZeros_95d88_25
  · skip
    refine lv_bipush (v := nI 32) C.x C.b dJ13_numberOfLeadingZeros_95d88_10 (by decide) ?_
    refine lv_lload_n C.x C.b dJ13_numberOfLeadingZeros_95d88_12 rfl (lv_at hl 1 rfl) ?_
    refine lv_l2i (v := x.toInt32) C.x C.b dJ13_numberOfLeadingZeros_95d88_13 rfl ?_
    refine k_calli (va_runS (As := [.int x.toInt32]) (rest := [.int (nI 32)]) C.1 (kJ6_numberOfLeadingZeros_0f7a4 l G B0 f x.toInt32) (va_cwS 1 C.ts gJ13_numberOfLeadingZeros_95d88_J6_numberOfLeadingZeros_0f7a4 rfl rfl rfl (hdJ13_numberOfLeadingZeros_95d88_J6_numberOfLeadingZeros_0f7a4) ⟨Nat.le_of_ble_eq_true rfl, Nat.le_of_ble_eq_true rfl⟩) (k_preS C hX) rfl rfl hl.1 rfl (lv_room (Nat.le_of_ble_eq_true rfl)) dJ13_numberOfLeadingZeros_95d88_14 ⟨Nat.le_of_ble_eq_true rfl, Nat.le_of_ble_eq_true rfl⟩) hX (fun r14 f14 H locs hp14 hX => ?_)
    obtain ⟨hr14, hf14⟩ := hp14
    rw [hf14] at hX
    refine k_topi (y := (jNl6 x.toInt32)) hr14 ?_
    refine lv_iadd C.x C.b dJ13_numberOfLeadingZeros_95d88_17 ?_
    refine lv_goto (tgt := 25) C.x C.b dJ13_numberOfLeadingZeros_95d88_18 (by decide) ?_
    exact k_iret C hX hr hlocks hQ (by omega) (by omega) (by refine ⟨?_, rfl⟩; first | exact (if_pos c_7).symm | exact (if_neg c_7).symm) dJ13_numberOfLeadingZeros_95d88_25

theorem hdJ13_numberOfTrailingZeros_95d88_J6_numberOfTrailingZeros_0f7a4 : yJ6_numberOfTrailingZeros_0f7a4.cls ≠ "java/lang/invoke/MethodHandle" ∧ yJ6_numberOfTrailingZeros_0f7a4.cls ≠ "java/lang/invoke/VarHandle" ∧ (parseMethodDescriptor yJ6_numberOfTrailingZeros_0f7a4.desc).map (fun d => d.parameters.length) = some 1 := by decide +kernel
abbrev rmJ13_numberOfTrailingZeros_95d88 : Room := { frames := 1, cells := 0, slots := 0, locals := 21 }
set_option maxHeartbeats 4000000 in
set_option maxRecDepth 100000 in
/-- J13_numberOfTrailingZeros_95d88 -/
theorem kJ13_numberOfTrailingZeros_95d88 (l : Launch) (G : kG) (B0 : Nat) (f : kH) (x : Int64) : Met l yJ13_numberOfTrailingZeros_95d88 wsJ13_numberOfTrailingZeros_95d88 (rmJ13_numberOfTrailingZeros_95d88) (kP G B0 f [.long x]) (kQi G B0 (fun r f1 => r = jTz x ∧ f1 = f)) 0 0 (kAb B0) := by
  refine kMet (cc := cJ13_numberOfTrailingZeros_95d88) (maxL := 3) (ret := (some .int)) (by decide) rfl (Nat.le_of_ble_eq_true rfl) ?_
  intro p e s m args below meth c H locs Q ls C hX hl hr hlocks hnm hQ
  have hl : lv_has ls 3 [(0, .long x)] := hl
  refine lv_lload_n C.x C.b dJ13_numberOfTrailingZeros_95d88_0 rfl (lv_at hl 0 rfl) ?_
  refine lv_l2i (v := x.toInt32) C.x C.b dJ13_numberOfTrailingZeros_95d88_1 rfl ?_
  refine lv_istore_n (lv' := [(2, .int x.toInt32), (0, .long x)]) C.x C.b dJ13_numberOfTrailingZeros_95d88_2 rfl hl (by decide) rfl (fun ls hl => ?_)
  refine lv_iload_n C.x C.b dJ13_numberOfTrailingZeros_95d88_3 rfl (lv_at hl 0 rfl) ?_
  refine lv_if_ne (tgt := 21) C.x C.b dJ13_numberOfTrailingZeros_95d88_4 (by decide) (fun c_4 => ?_) (fun c_4 => ?_)
  · skip
    refine lv_iload_n C.x C.b dJ13_numberOfTrailingZeros_95d88_21 rfl (lv_at hl 0 rfl) ?_
    refine k_calli (va_runS (As := [.int x.toInt32]) (rest := []) C.1 (kJ6_numberOfTrailingZeros_0f7a4 l G B0 f x.toInt32) (va_cwS 1 C.ts gJ13_numberOfTrailingZeros_95d88_J6_numberOfTrailingZeros_0f7a4 rfl rfl rfl (hdJ13_numberOfTrailingZeros_95d88_J6_numberOfTrailingZeros_0f7a4) ⟨Nat.le_of_ble_eq_true rfl, Nat.le_of_ble_eq_true rfl⟩) (k_preS C hX) rfl rfl hl.1 rfl (lv_room (Nat.le_of_ble_eq_true rfl)) dJ13_numberOfTrailingZeros_95d88_22 ⟨Nat.le_of_ble_eq_true rfl, Nat.le_of_ble_eq_true rfl⟩) hX (fun r22 f22 H locs hp22 hX => ?_)
    obtain ⟨hr22, hf22⟩ := hp22
    rw [hf22] at hX
    refine k_topi (y := (jTz6 x.toInt32)) hr22 ?_
    exact k_iret C hX hr hlocks hQ (by omega) (by omega) (by refine ⟨?_, rfl⟩; first | exact (if_pos c_4).symm | exact (if_neg c_4).symm) dJ13_numberOfTrailingZeros_95d88_25
  · skip
    refine lv_bipush (v := nI 32) C.x C.b dJ13_numberOfTrailingZeros_95d88_7 (by decide) ?_
    refine lv_lload_n C.x C.b dJ13_numberOfTrailingZeros_95d88_9 rfl (lv_at hl 1 rfl) ?_
    refine lv_bipush (v := nI 32) C.x C.b dJ13_numberOfTrailingZeros_95d88_10 (by decide) ?_
    refine lv_lushr (v := jUL x (nI 32)) C.x C.b dJ13_numberOfTrailingZeros_95d88_12 rfl ?_
    refine lv_l2i (v := (jUL x (nI 32)).toInt32) C.x C.b dJ13_numberOfTrailingZeros_95d88_13 rfl ?_
    refine k_calli (va_runS (As := [.int ((jUL x (nI 32)).toInt32)]) (rest := [.int (nI 32)]) C.1 (kJ6_numberOfTrailingZeros_0f7a4 l G B0 f ((jUL x (nI 32)).toInt32)) (va_cwS 1 C.ts gJ13_numberOfTrailingZeros_95d88_J6_numberOfTrailingZeros_0f7a4 rfl rfl rfl (hdJ13_numberOfTrailingZeros_95d88_J6_numberOfTrailingZeros_0f7a4) ⟨Nat.le_of_ble_eq_true rfl, Nat.le_of_ble_eq_true rfl⟩) (k_preS C hX) rfl rfl hl.1 rfl (lv_room (Nat.le_of_ble_eq_true rfl)) dJ13_numberOfTrailingZeros_95d88_14 ⟨Nat.le_of_ble_eq_true rfl, Nat.le_of_ble_eq_true rfl⟩) hX (fun r14 f14 H locs hp14 hX => ?_)
    obtain ⟨hr14, hf14⟩ := hp14
    rw [hf14] at hX
    refine k_topi (y := (jTz6 ((jUL x (nI 32)).toInt32))) hr14 ?_
    refine lv_iadd C.x C.b dJ13_numberOfTrailingZeros_95d88_17 ?_
    refine lv_goto (tgt := 25) C.x C.b dJ13_numberOfTrailingZeros_95d88_18 (by decide) ?_
    exact k_iret C hX hr hlocks hQ (by omega) (by omega) (by refine ⟨?_, rfl⟩; first | exact (if_pos c_4).symm | exact (if_neg c_4).symm) dJ13_numberOfTrailingZeros_95d88_25

abbrev rmJ9_floorMod_f86c9 : Room := { frames := 0, cells := 0, slots := 0, locals := 0 }
set_option maxHeartbeats 4000000 in
set_option maxRecDepth 100000 in
/-- J9_floorMod_f86c9 -/
theorem kJ9_floorMod_f86c9 (l : Launch) (G : kG) (B0 : Nat) (f : kH) (x y : Int64) (hy : y ≠ 0) : Met l yJ9_floorMod_f86c9 wsJ9_floorMod_f86c9 (rmJ9_floorMod_f86c9) (kP G B0 f [.long x, .long y]) (kQl G B0 (fun r f1 => r = jFm x y ∧ f1 = f)) 0 0 (kAb B0) := by
  refine kMetF (cc := cJ9_floorMod_f86c9) (maxL := 6) (ret := (some .long)) (by decide +kernel) rfl (Nat.le_of_ble_eq_true rfl) ?_
  intro p e s m args below meth c H locs Q ls C hX hl hr hlocks hnm hQ
  have hl : lv_has ls 6 [(0, .long x), (2, .long y)] := hl
  refine lv_lload_n C.x C.b dJ9_floorMod_f86c9_0 rfl (lv_at hl 0 rfl) ?_
  refine lv_lload_n C.x C.b dJ9_floorMod_f86c9_1 rfl (lv_at hl 1 rfl) ?_
  refine lv_lrem C.x C.b dJ9_floorMod_f86c9_2 (hy) ?_
  refine lv_lstore (lv' := [(4, .long (x - x / y * y)), (0, .long x), (2, .long y)]) C.x C.b dJ9_floorMod_f86c9_3 hl (by decide) rfl (fun ls hl => ?_)
  refine lv_lload_n C.x C.b dJ9_floorMod_f86c9_5 rfl (lv_at hl 1 rfl) ?_
  refine lv_lload_n C.x C.b dJ9_floorMod_f86c9_6 rfl (lv_at hl 2 rfl) ?_
  refine lv_lxor C.x C.b dJ9_floorMod_f86c9_7 ?_
  refine lv_lconst (v := 0) C.x C.b dJ9_floorMod_f86c9_8 (by decide) ?_
  refine k_lcmp_ge (tgt := 25) C.x C.b dJ9_floorMod_f86c9_9 dJ9_floorMod_f86c9_10 (by decide) (fun c_10 => ?_) (fun c_10 => ?_)
  · skip
    refine lv_lload C.x C.b dJ9_floorMod_f86c9_25 (lv_at hl 0 rfl) ?_
    exact k_lret C hX hr hlocks hQ (by omega) (by omega) (by refine ⟨?_, rfl⟩; first | (exact (if_pos ⟨c_10, c_17⟩).symm) | (exact (if_neg (fun h9 => c_10 h9.1)).symm) | (exact (if_neg (fun h9 => h9.2 c_17)).symm)) dJ9_floorMod_f86c9_27
  · skip
    refine lv_lload C.x C.b dJ9_floorMod_f86c9_13 (lv_at hl 0 rfl) ?_
    refine lv_lconst (v := 0) C.x C.b dJ9_floorMod_f86c9_15 (by decide) ?_
    refine k_lcmp_eq (tgt := 25) C.x C.b dJ9_floorMod_f86c9_16 dJ9_floorMod_f86c9_17 (by decide) (fun c_17 => ?_) (fun c_17 => ?_)
    · skip
      refine lv_lload C.x C.b dJ9_floorMod_f86c9_25 (lv_at hl 0 rfl) ?_
      exact k_lret C hX hr hlocks hQ (by omega) (by omega) (by refine ⟨?_, rfl⟩; first | (exact (if_pos ⟨c_10, c_17⟩).symm) | (exact (if_neg (fun h9 => c_10 h9.1)).symm) | (exact (if_neg (fun h9 => h9.2 c_17)).symm)) dJ9_floorMod_f86c9_27
    · skip
      refine lv_lload C.x C.b dJ9_floorMod_f86c9_20 (lv_at hl 0 rfl) ?_
      refine lv_lload_n C.x C.b dJ9_floorMod_f86c9_22 rfl (lv_at hl 2 rfl) ?_
      refine lv_ladd C.x C.b dJ9_floorMod_f86c9_23 ?_
      exact k_lret C hX hr hlocks hQ (by omega) (by omega) (by refine ⟨?_, rfl⟩; first | (exact (if_pos ⟨c_10, c_17⟩).symm) | (exact (if_neg (fun h9 => c_10 h9.1)).symm) | (exact (if_neg (fun h9 => h9.2 c_17)).symm)) dJ9_floorMod_f86c9_24

abbrev rmJ9_floorMod_7cf53 : Room := { frames := 0, cells := 0, slots := 0, locals := 0 }
set_option maxHeartbeats 4000000 in
set_option maxRecDepth 100000 in
/-- J9_floorMod_7cf53 -/
theorem kJ9_floorMod_7cf53 (l : Launch) (G : kG) (B0 : Nat) (f : kH) (x y : Int32) (hy : y ≠ 0) : Met l yJ9_floorMod_7cf53 wsJ9_floorMod_7cf53 (rmJ9_floorMod_7cf53) (kP G B0 f [.int x, .int y]) (kQi G B0 (fun r f1 => r = jFmI x y ∧ f1 = f)) 0 0 (kAb B0) := by
  refine kMetF (cc := cJ9_floorMod_7cf53) (maxL := 3) (ret := (some .int)) (by decide +kernel) rfl (Nat.le_of_ble_eq_true rfl) ?_
  intro p e s m args below meth c H locs Q ls C hX hl hr hlocks hnm hQ
  have hl : lv_has ls 3 [(0, .int x), (1, .int y)] := hl
  refine lv_iload_n C.x C.b dJ9_floorMod_7cf53_0 rfl (lv_at hl 0 rfl) ?_
  refine lv_iload_n C.x C.b dJ9_floorMod_7cf53_1 rfl (lv_at hl 1 rfl) ?_
  refine lv_irem C.x C.b dJ9_floorMod_7cf53_2 (hy) ?_
  refine lv_istore_n (lv' := [(2, .int (x - x / y * y)), (0, .int x), (1, .int y)]) C.x C.b dJ9_floorMod_7cf53_3 rfl hl (by decide) rfl (fun ls hl => ?_)
  refine lv_iload_n C.x C.b dJ9_floorMod_7cf53_4 rfl (lv_at hl 1 rfl) ?_
  refine lv_iload_n C.x C.b dJ9_floorMod_7cf53_5 rfl (lv_at hl 2 rfl) ?_
  refine lv_ixor C.x C.b dJ9_floorMod_7cf53_6 ?_
  refine lv_if_ge (tgt := 18) C.x C.b dJ9_floorMod_7cf53_7 (by decide) (fun c_7 => ?_) (fun c_7 => ?_)
  · skip
    refine lv_iload_n C.x C.b dJ9_floorMod_7cf53_18 rfl (lv_at hl 0 rfl) ?_
    exact k_iret C hX hr hlocks hQ (by omega) (by omega) (by refine ⟨?_, rfl⟩; first | (rw [jFmI, if_pos ⟨Int32.not_le.mp c_7, c_11⟩]; done) | (rw [jFmI, if_neg (fun h9 => h9.2 c_11)]; done) | (rw [jFmI, if_neg (fun h9 => absurd h9.1 (Int32.not_lt.mpr c_7))]; done)) dJ9_floorMod_7cf53_19
  · skip
    refine lv_iload_n C.x C.b dJ9_floorMod_7cf53_10 rfl (lv_at hl 0 rfl) ?_
    refine lv_if_eq (tgt := 18) C.x C.b dJ9_floorMod_7cf53_11 (by decide) (fun c_11 => ?_) (fun c_11 => ?_)
    · skip
      refine lv_iload_n C.x C.b dJ9_floorMod_7cf53_18 rfl (lv_at hl 0 rfl) ?_
      exact k_iret C hX hr hlocks hQ (by omega) (by omega) (by refine ⟨?_, rfl⟩; first | (rw [jFmI, if_pos ⟨Int32.not_le.mp c_7, c_11⟩]; done) | (rw [jFmI, if_neg (fun h9 => h9.2 c_11)]; done) | (rw [jFmI, if_neg (fun h9 => absurd h9.1 (Int32.not_lt.mpr c_7))]; done)) dJ9_floorMod_7cf53_19
    · skip
      refine lv_iload_n C.x C.b dJ9_floorMod_7cf53_14 rfl (lv_at hl 0 rfl) ?_
      refine lv_iload_n C.x C.b dJ9_floorMod_7cf53_15 rfl (lv_at hl 2 rfl) ?_
      refine lv_iadd C.x C.b dJ9_floorMod_7cf53_16 ?_
      exact k_iret C hX hr hlocks hQ (by omega) (by omega) (by refine ⟨?_, rfl⟩; first | (rw [jFmI, if_pos ⟨Int32.not_le.mp c_7, c_11⟩]; done) | (rw [jFmI, if_neg (fun h9 => h9.2 c_11)]; done) | (rw [jFmI, if_neg (fun h9 => absurd h9.1 (Int32.not_lt.mpr c_7))]; done)) dJ9_floorMod_7cf53_17

theorem hdX2_wholeRoot_J13_numberOfLeadingZeros_95d88 : yJ13_numberOfLeadingZeros_95d88.cls ≠ "java/lang/invoke/MethodHandle" ∧ yJ13_numberOfLeadingZeros_95d88.cls ≠ "java/lang/invoke/VarHandle" ∧ (parseMethodDescriptor yJ13_numberOfLeadingZeros_95d88.desc).map (fun d => d.parameters.length) = some 1 := by decide +kernel
abbrev rmX2_wholeRoot : Room := { frames := 2, cells := 0, slots := 0, locals := 43 }
set_option maxHeartbeats 4000000 in
set_option maxRecDepth 100000 in
/-- X2_wholeRoot -/
theorem kX2_wholeRoot (l : Launch) (G : kG) (B0 : Nat) (f : kH) (s9 : Int64) (k0 : Nat) (hk0 : (nI 64 - jNl s9) / nI 2 = nI k0) (hk9 : k0 ≤ 40) : Met l yX2_wholeRoot wsX2_wholeRoot (rmX2_wholeRoot) (kP G B0 f [.long s9]) (kQl G B0 (fun r f1 => r = xWr s9 (k0 + 1) 0 ∧ f1 = f)) 0 0 (kAb B0) := by
  refine kMet (cc := cX2_wholeRoot) (maxL := 7) (ret := (some .long)) (by decide) rfl (Nat.le_of_ble_eq_true rfl) ?_
  intro p e s m args below meth c H locs Q ls C hX hl hr hlocks hnm hQ
  have hl : lv_has ls 7 [(0, .long s9)] := hl
  refine lv_lconst (v := 0) C.x C.b dX2_wholeRoot_0 (by decide) ?_
  refine lv_lstore_n (lv' := [(2, .long 0), (0, .long s9)]) C.x C.b dX2_wholeRoot_1 rfl hl (by decide) rfl (fun ls hl => ?_)
  refine lv_bipush (v := nI 64) C.x C.b dX2_wholeRoot_2 (by decide) ?_
  refine lv_lload_n C.x C.b dX2_wholeRoot_4 rfl (lv_at hl 1 rfl) ?_
  refine k_calli (va_runS (As := [.long s9]) (rest := [.int (nI 64)]) C.1 (kJ13_numberOfLeadingZeros_95d88 l G B0 f s9) (va_cwS 1 C.ts gX2_wholeRoot_J13_numberOfLeadingZeros_95d88 rfl rfl rfl (hdX2_wholeRoot_J13_numberOfLeadingZeros_95d88) ⟨Nat.le_of_ble_eq_true rfl, Nat.le_of_ble_eq_true rfl⟩) (k_preS C hX) rfl rfl hl.1 rfl (lv_room (Nat.le_of_ble_eq_true rfl)) dX2_wholeRoot_5 ⟨Nat.le_of_ble_eq_true rfl, Nat.le_of_ble_eq_true rfl⟩) hX (fun r5 f5 H locs hp5 hX => ?_)
  obtain ⟨hr5, hf5⟩ := hp5
  rw [hf5] at hX
  refine k_topi (y := (jNl s9)) hr5 ?_
  refine lv_isub C.x C.b dX2_wholeRoot_8 ?_
  refine lv_iconst (v := nI 2) C.x C.b dX2_wholeRoot_9 (by decide) ?_
  refine lv_idiv C.x C.b dX2_wholeRoot_10 (by decide) ?_
  refine k_topi (y := (nI k0)) (hk0) ?_
  refine lv_istore (lv' := [(4, .int (nI k0)), (2, .long 0), (0, .long s9)]) C.x C.b dX2_wholeRoot_11 hl (by decide) rfl (fun ls hl => ?_)
  rw [show (nI k0) = (nI (k0 + 1) + -1) from (nI_dec1 k0).symm] at hl
  have LOOP13 : ∀ (n : Nat) (k : Nat) (r9 : Int64), (k ≤ k0 + 1) → (xWr s9 k r9 = xWr s9 (k0 + 1) 0) → k < n → ∀ (ls : Array Slot), lv_has ls 7 [(2, .long r9), (4, .int (nI k + -1)), (0, .long s9)] → ∀ (H : Heap) (locs : List Loc), kX G B0 s f H locs → W p l e (rmX2_wholeRoot) s m args below meth c H locs 0 0 Q (F0 m 13 ls []) := by
    intro n13
    induction n13 with
    | zero => intro k r9 hk hv hn; exact absurd hn (Nat.not_lt_zero _)
    | succ n13 ih13 =>
      intro k r9 hk hv hn ls hl H locs hX
      refine lv_iload C.x C.b dX2_wholeRoot_13 (lv_at hl 1 rfl) ?_
      refine lv_if_lt (tgt := 45) C.x C.b dX2_wholeRoot_15 (by decide) (fun c_15 => ?_) (fun c_15 => ?_)
      · skip
        have hkz := nI_neg (by omega) c_15
        refine lv_lload_n C.x C.b dX2_wholeRoot_45 rfl (lv_at hl 0 rfl) ?_
        exact k_lret C hX hr hlocks hQ (by omega) (by omega) (by refine ⟨?_, rfl⟩; rw [← hv, hkz, xWr]) dX2_wholeRoot_46
      · skip
        obtain ⟨j, rfl⟩ := nI_npos c_15
        rw [show (nI (j + 1) + -1) = (nI j) from nI_dec1 j] at hl
        refine lv_lload_n C.x C.b dX2_wholeRoot_18 rfl (lv_at hl 0 rfl) ?_
        refine lv_lconst (v := 1) C.x C.b dX2_wholeRoot_19 (by decide) ?_
        refine lv_iload C.x C.b dX2_wholeRoot_20 (lv_at hl 1 rfl) ?_
        refine lv_lshl (v := 1 <<< ((nI j).toInt64 &&& 63)) C.x C.b dX2_wholeRoot_22 rfl ?_
        refine lv_ladd C.x C.b dX2_wholeRoot_23 ?_
        refine lv_lstore (lv' := [(5, .long (r9 + (1 <<< ((nI j).toInt64 &&& 63)))), (2, .long r9), (4, .int (nI j)), (0, .long s9)]) C.x C.b dX2_wholeRoot_24 hl (by decide) rfl (fun ls hl => ?_)
        refine lv_lload C.x C.b dX2_wholeRoot_26 (lv_at hl 0 rfl) ?_
        refine lv_lload C.x C.b dX2_wholeRoot_28 (lv_at hl 0 rfl) ?_
        refine lv_lmul C.x C.b dX2_wholeRoot_30 ?_
        refine lv_lload_n C.x C.b dX2_wholeRoot_31 rfl (lv_at hl 3 rfl) ?_
        refine k_lcmp_gt (tgt := 39) C.x C.b dX2_wholeRoot_32 dX2_wholeRoot_33 (by decide) (fun c_33 => ?_) (fun c_33 => ?_)
        · skip
          refine lv_iinc (v := ((nI j) + -1)) (lv' := [(4, .int ((nI j) + -1)), (5, .long (r9 + (1 <<< ((nI j).toInt64 &&& 63)))), (2, .long r9), (0, .long s9)]) C.x C.b dX2_wholeRoot_39 hl (k := 2) rfl (rfl) (by decide) rfl (fun ls hl => ?_)
          refine lv_goto (tgt := 13) C.x C.b dX2_wholeRoot_42 (by decide) ?_
          exact ih13 j (r9) (by omega) (by rw [← hv, xWr]; first | (rw [if_pos (Int64.not_lt.mp c_33)]; done) | (rw [if_neg (Int64.not_le.mpr c_33)]; done)) (by omega) ls (lv_sub hl [2, 0, 3] rfl) _ _ hX
        · skip
          refine lv_lload C.x C.b dX2_wholeRoot_36 (lv_at hl 0 rfl) ?_
          refine lv_lstore_n (lv' := [(2, .long (r9 + (1 <<< ((nI j).toInt64 &&& 63)))), (5, .long (r9 + (1 <<< ((nI j).toInt64 &&& 63)))), (4, .int (nI j)), (0, .long s9)]) C.x C.b dX2_wholeRoot_38 rfl hl (by decide) rfl (fun ls hl => ?_)
          refine lv_iinc (v := ((nI j) + -1)) (lv' := [(4, .int ((nI j) + -1)), (2, .long (r9 + (1 <<< ((nI j).toInt64 &&& 63)))), (5, .long (r9 + (1 <<< ((nI j).toInt64 &&& 63)))), (0, .long s9)]) C.x C.b dX2_wholeRoot_39 hl (k := 2) rfl (rfl) (by decide) rfl (fun ls hl => ?_)
          refine lv_goto (tgt := 13) C.x C.b dX2_wholeRoot_42 (by decide) ?_
          exact ih13 j (r9 + (1 <<< ((nI j).toInt64 &&& 63))) (by omega) (by rw [← hv, xWr]; first | (rw [if_pos (Int64.not_lt.mp c_33)]; done) | (rw [if_neg (Int64.not_le.mpr c_33)]; done)) (by omega) ls (lv_sub hl [1, 0, 3] rfl) _ _ hX
  exact LOOP13 _ (k0 + 1) 0 (by omega) rfl (Nat.lt_succ_self _) ls (lv_sub hl [1, 0, 2] rfl) _ _ hX
