theorem fb_rngL0 (x : Int64) : -9223372036854775808 ≤ x.toInt ∧ x.toInt < 9223372036854775808 := ⟨Int64.le_toInt x, Int64.toInt_lt x⟩
theorem lrem_toInt {x y : Int64} (hy : 0 < y.toInt) : (lrem x y).toInt = x.toInt.tmod y.toInt := by
  have h1 := fb_rngL0 x
  have h2 := fb_rngL0 y
  have e1 := Int.mul_tdiv_add_tmod x.toInt y.toInt
  have hP : -9223372036854775808 ≤ y.toInt * x.toInt.tdiv y.toInt ∧ y.toInt * x.toInt.tdiv y.toInt < 9223372036854775808 ∧ -9223372036854775808 ≤ x.toInt.tdiv y.toInt ∧ x.toInt.tdiv y.toInt < 9223372036854775808 := by
    rcases (show x.toInt < 0 ∨ 0 ≤ x.toInt by omega) with h | h
    · have q1 : x.toInt.tdiv y.toInt ≤ 0 := by
        have := Int.tdiv_nonneg (a := -x.toInt) (b := y.toInt) (by omega) (by omega)
        rw [Int.neg_tdiv] at this
        omega
      have q2 : x.toInt.tmod y.toInt ≤ 0 := by
        have := Int.tmod_nonneg (a := -x.toInt) y.toInt (by omega)
        rw [Int.neg_tmod] at this
        omega
      have q3 : y.toInt * x.toInt.tdiv y.toInt ≤ x.toInt.tdiv y.toInt := by
        have : (y.toInt - 1) * x.toInt.tdiv y.toInt ≤ 0 := Int.mul_nonpos_of_nonneg_of_nonpos (by omega) q1
        rw [Int.sub_mul] at this
        omega
      omega
    · have q1 := Int.tdiv_nonneg (a := x.toInt) (b := y.toInt) h (by omega)
      have q2 := Int.tmod_nonneg (a := x.toInt) y.toInt h
      have q3 : x.toInt.tdiv y.toInt ≤ y.toInt * x.toInt.tdiv y.toInt := by
        have : 0 ≤ (y.toInt - 1) * x.toInt.tdiv y.toInt := Int.mul_nonneg (by omega) q1
        rw [Int.sub_mul] at this
        omega
      omega
  have d1 : (x / y).toInt = x.toInt.tdiv y.toInt := by
    rw [Int64.toInt_div, Int.bmod_eq_of_le] <;> omega
  have g1 := Int.tmod_lt_of_pos x.toInt hy
  have g2 := Int.lt_tmod_of_pos x.toInt hy
  unfold lrem
  rw [Int64.toInt_sub, Int64.toInt_mul, d1, Int.mul_comm (x.toInt.tdiv y.toInt)]
  rw [Int.bmod_eq_of_le (n := y.toInt * x.toInt.tdiv y.toInt) (by omega) (by omega), Int.bmod_eq_of_le] <;> omega
def rM (x : Int64) (b : Nat) : Nat := (x.toInt % (b : Int)).toNat
theorem rM_lt {x : Int64} {b : Nat} (hb : 0 < b) : rM x b < b := by
  have h1 := Int.emod_nonneg x.toInt (show (b : Int) ≠ 0 by omega)
  have h2 := Int.emod_lt_of_pos x.toInt (show (0 : Int) < b by omega)
  unfold rM
  omega
theorem nI64 {b : Nat} (hb : b < 2 ^ 31) : (nI b).toInt64.toInt = b := by rw [Int32.toInt_toInt64, nI_toInt hb]
theorem mRest_at {x : Int64} {b : Nat} (h0 : 2 ≤ b) (h1 : b ≤ 8) : mRest x b = nI (rM x b) := by
  have hB : (nI b).toInt64.toInt = b := nI64 (by omega)
  have e1 : (lrem x (nI b).toInt64).toInt = x.toInt.tmod b := by rw [lrem_toInt (by omega), hB]
  have hr1 := Int.tmod_lt_of_pos x.toInt (show (0 : Int) < b by omega)
  have hr2 := Int.lt_tmod_of_pos x.toInt (show (0 : Int) < b by omega)
  have e2 : (lrem x (nI b).toInt64 + (nI b).toInt64).toInt = x.toInt.tmod b + b := by
    rw [Int64.toInt_add, e1, hB, Int.bmod_eq_of_le] <;> omega
  have e3 : (lrem (lrem x (nI b).toInt64 + (nI b).toInt64) (nI b).toInt64).toInt = x.toInt % b := by
    rw [lrem_toInt (by omega), e2, hB, Int.tmod_eq_emod_of_nonneg (by omega), Int.add_emod_right]
    have h5 := Int.mul_tdiv_add_tmod x.toInt b
    have h6 : x.toInt % b = (x.toInt.tmod b + b * x.toInt.tdiv b) % b := by rw [Int.add_comm, h5]
    rw [h6, Int.add_mul_emod_self_left]
  have h7 := Int.emod_nonneg x.toInt (show (b : Int) ≠ 0 by omega)
  have h8 := Int.emod_lt_of_pos x.toInt (show (0 : Int) < b by omega)
  apply Int32.toInt_inj.mp
  unfold mRest
  rw [Int64.toInt_toInt32, e3, nI_toInt (by have := rM_lt (x := x) (b := b) (by omega); omega), Int.bmod_eq_of_le (by omega) (by omega)]
  unfold rM
  omega
def rDig (c k : Nat) : Nat := c / 8 ^ k % 8
theorem rDig_lt (c k : Nat) : rDig c k < 8 := Nat.mod_lt _ (by omega)
def mSumD (c : Nat) : Nat → Nat
  | 0 => 0
  | k + 1 => mSumD c k + rDig c k
theorem mSumD_le (c : Nat) : ∀ k, mSumD c k ≤ 7 * k
  | 0 => Nat.le_refl 0
  | k + 1 => by
    have h1 := mSumD_le c k
    have h2 := rDig_lt c k
    simp only [mSumD]
    omega
theorem rDig_le : ∀ (k : Nat) (c : Nat), rDig c k * 8 ^ k ≤ c := fun k c => Nat.le_trans (Nat.mul_le_mul_right _ (Nat.mod_le _ _)) (Nat.div_mul_le_self _ _)
def rNr (b c k : Nat) : Nat := ((2 * ((mSumD c 4 : Int) - rDig c k) - rDig c k) % (b : Int)).toNat
theorem rNr_lt {b c k : Nat} (hb : 0 < b) : rNr b c k < b := by
  have h1 := Int.emod_nonneg (2 * ((mSumD c 4 : Int) - rDig c k) - rDig c k) (show (b : Int) ≠ 0 by omega)
  have h2 := Int.emod_lt_of_pos (2 * ((mSumD c 4 : Int) - rDig c k) - rDig c k) (show (0 : Int) < b by omega)
  unfold rNr
  omega
def rNx (b c k : Nat) : Nat := c + rNr b c k * 8 ^ k - rDig c k * 8 ^ k
theorem rNx_lt {b c k : Nat} (hb : 0 < b) (hb8 : b ≤ 8) (hc : c < 4096) (hk : k < 4) : rNx b c k < 4096 := by
  have h1 := rNr_lt (b := b) (c := c) (k := k) hb
  unfold rNx rDig
  generalize rNr b c k = r at h1 ⊢
  match k, hk with
  | 0, _ => omega
  | 1, _ => omega
  | 2, _ => omega
  | 3, _ => omega
theorem rSh : ∀ r, r < 8 → ∀ d, d < 8 → ∀ k, k < 4 → (nI r - nI d) <<< (nI (3 * k) &&& 31) = nI (r * 8 ^ k) - nI (d * 8 ^ k) := by decide +kernel
theorem rNr_at {b c k : Nat} (h0 : 2 ≤ b) (h1 : b ≤ 8) (hk : k < 4) : mRest (2 * (nI (mSumD c 4) - nI (rDig c k)).toInt64 - (nI (rDig c k)).toInt64) b = nI (rNr b c k) := by
  rw [mRest_at h0 h1]
  have h2 := mSumD_le c 4
  have h3 := rDig_lt c k
  have e0 : (nI (mSumD c 4) - nI (rDig c k)).toInt = (mSumD c 4 : Int) - rDig c k := pk_sub_toInt (by omega) (by omega)
  have e1 : (2 * (nI (mSumD c 4) - nI (rDig c k)).toInt64).toInt = 2 * ((mSumD c 4 : Int) - rDig c k) := by
    rw [Int64.toInt_mul, Int32.toInt_toInt64, e0, show (2 : Int64).toInt = 2 from rfl, Int.bmod_eq_of_le] <;> omega
  have e2 : (2 * (nI (mSumD c 4) - nI (rDig c k)).toInt64 - (nI (rDig c k)).toInt64).toInt = 2 * ((mSumD c 4 : Int) - rDig c k) - rDig c k := by
    rw [Int64.toInt_sub, e1, nI64 (by omega), Int.bmod_eq_of_le] <;> omega
  unfold rM rNr
  rw [e2]
theorem rNx_at {b c k : Nat} (hb : 0 < b) (hb8 : b ≤ 8) (hk : k < 4) : nI c + (nI (rNr b c k) - nI (rDig c k)) <<< (nI (3 * k) &&& 31) = nI (rNx b c k) := by
  have h1 := rNr_lt (b := b) (c := c) (k := k) hb
  have h2 := rDig_le k c
  rw [rSh _ (by omega) _ (rDig_lt c k) _ hk, Int32.sub_eq_add_neg, ← Int32.add_assoc, nI_add, ← Int32.sub_eq_add_neg, pk_sub (by omega)]
  rfl
theorem k_sh3 : ∀ k, k < 4 → ((nI (3 * k) &&& 31).toBitVec.smod 32).toNat = 3 * k := by decide
theorem rDig_at {c k : Nat} (hc : c < 4096) (hk : k < 4) : (nI c >>> (nI (3 * k) &&& 31)) &&& nI 7 = nI (rDig c k) := by
  rw [pk_shrN (by omega) _ (3 * k) (k_sh3 k hk), pk_andN (m := nI 7) (Nat.lt_of_le_of_lt (Nat.div_le_self _ _) (by omega)) 3 (by decide)]
  unfold rDig
  rw [Nat.pow_mul]
def rClr (F : Nat → Int32) : Nat → Nat → Int32
  | 0 => F
  | k + 1 => upd (rClr F k) k (nI 0)
theorem rClr_lt (F : Nat → Int32) : ∀ n k, k < n → rClr F n k = nI 0
  | 0, k, h => absurd h (Nat.not_lt_zero _)
  | n + 1, k, h => by
    simp only [rClr, upd]
    split
    · rfl
    · exact rClr_lt F n k (by omega)
def rCode (g : Nat → Int64) (t b : Nat) : Nat → Nat
  | 0 => 0
  | k + 1 => 8 * rCode g t b k + rM (g (4 * t + k)) b
theorem rCode_lt (g : Nat → Int64) (t b : Nat) (hb : 0 < b) (hb8 : b ≤ 8) : ∀ k, rCode g t b k < 8 ^ k
  | 0 => by simp [rCode]
  | k + 1 => by
    have h1 := rCode_lt g t b hb hb8 k
    have h2 := rM_lt (x := g (4 * t + k)) hb
    have h3 : 8 ^ (k + 1) = 8 * 8 ^ k := by rw [Nat.pow_succ, Nat.mul_comm]
    simp only [rCode]
    omega
/-- what the turns at the k first places bring of the code c, noted behind L -/
def rRow (b : Nat) (L : List Nat) (c : Nat) : Nat → List Nat
  | 0 => L
  | k + 1 => if rNx b c k ∈ rRow b L c k then rRow b L c k else rRow b L c k ++ [rNx b c k]
/-- the codes noted when n of them have been gone through -/
def rQ (b c : Nat) : Nat → List Nat
  | 0 => [c]
  | n + 1 => match (rQ b c n)[n]? with
    | some x => rRow b (rQ b c n) x 4
    | none => rQ b c n
def rO (S : Int32) (c : Nat) : Nat → Int32
  | 0 => S
  | k + 1 => rO S c k ||| nI 1 <<< (nI (rDig c k) &&& 31)
def rS (b c : Nat) : Nat → Int32
  | 0 => nI 0
  | n + 1 => match (rQ b c n)[n]? with
    | some x => rO (rS b c n) x 4
    | none => rS b c n
theorem nodup_len : ∀ (N : Nat) (l : List Nat), l.Nodup → (∀ x ∈ l, x < N) → l.length ≤ N
  | 0, l, _, h => by
    cases l with
    | nil => exact Nat.le_refl 0
    | cons a l => exact absurd (h a List.mem_cons_self) (Nat.not_lt_zero _)
  | N + 1, l, hn, h => by
    by_cases hm : N ∈ l
    · obtain ⟨s, t, e⟩ := List.append_of_mem hm
      subst e
      have hn2 := List.nodup_append.mp hn
      have hn3 := List.nodup_cons.mp hn2.2.1
      have h1 := nodup_len N (s ++ t) (List.nodup_append.mpr ⟨hn2.1, hn3.2, fun a ha b hb => hn2.2.2 a ha b (List.mem_cons_of_mem _ hb)⟩) (fun x hx => by
        have hx1 : x < N + 1 := h x (by
          rcases List.mem_append.mp hx with q | q
          · exact List.mem_append_left _ q
          · exact List.mem_append_right _ (List.mem_cons_of_mem _ q))
        have hx2 : x ≠ N := by
          rcases List.mem_append.mp hx with q | q
          · exact hn2.2.2 x q N List.mem_cons_self
          · exact fun z => hn3.1 (z ▸ q)
        omega)
      simp only [List.length_append, List.length_cons] at h1 ⊢
      omega
    · have := nodup_len N l hn (fun x hx => by
        have h1 := h x hx
        have h2 : x ≠ N := fun z => hm (z ▸ hx)
        omega)
      omega
/-- what is said of the queue and of the marks -/
def rOk (L : List Nat) (QU SN : Nat → Int32) : Prop := L.Nodup ∧ (∀ c ∈ L, c < 4096) ∧ (∀ i c, L[i]? = some c → QU i = nI c) ∧ ∀ x, x < 4096 → SN x = kbI (x ∈ L)
theorem rOk.len {L : List Nat} {QU SN : Nat → Int32} (h : rOk L QU SN) : L.length ≤ 4096 := nodup_len 4096 L h.1 h.2.1
theorem rOk.add {L : List Nat} {QU SN : Nat → Int32} (h : rOk L QU SN) {x : Nat} (hx : x < 4096) (hm : ¬ x ∈ L) : L.length < 4096 ∧ rOk (L ++ [x]) (upd QU L.length (nI x)) (upd SN x (nI 1)) := by
  have hn : (L ++ [x]).Nodup := List.nodup_append.mpr ⟨h.1, by simp, fun a ha b hb => by rw [List.mem_singleton.mp hb]; exact fun z => hm (z ▸ ha)⟩
  have hl : ∀ c ∈ L ++ [x], c < 4096 := fun c hc => by
    rcases List.mem_append.mp hc with q | q
    · exact h.2.1 c q
    · rw [List.mem_singleton.mp q]; exact hx
  refine ⟨?_, hn, hl, fun i c hi => ?_, fun y hy => ?_⟩
  · have := nodup_len 4096 _ hn hl
    simp only [List.length_append, List.length_singleton] at this
    omega
  · by_cases q : i = L.length
    · subst q
      rw [List.getElem?_append_right (Nat.le_refl _), Nat.sub_self] at hi
      cases hi
      simp [upd]
    · have hlt : i < L.length := by
        have := (List.getElem?_eq_some_iff.mp hi).1
        simp only [List.length_append, List.length_singleton] at this
        omega
      rw [List.getElem?_append_left hlt] at hi
      simp only [upd, if_neg q]
      exact h.2.2.1 i c hi
  · by_cases q : y = x
    · subst q
      simp only [upd, if_true]
      exact kbI_tN (List.mem_append_right _ List.mem_cons_self)
    · simp only [upd, if_neg q]
      rw [h.2.2.2 y hy]
      exact kbI_c ⟨fun z => List.mem_append_left _ z, fun z => (List.mem_append.mp z).elim id (fun z => absurd (List.mem_singleton.mp z) q)⟩
theorem rRow_at {b c : Nat} {L : List Nat} {i x : Nat} (h : L[i]? = some x) : ∀ k, (rRow b L c k)[i]? = some x
  | 0 => h
  | k + 1 => by
    have := rRow_at (b := b) (c := c) h k
    simp only [rRow]
    split
    · exact this
    · rw [List.getElem?_append_left (List.getElem?_eq_some_iff.mp this).1]; exact this
theorem rRow_len {b c : Nat} {L : List Nat} : ∀ k, L.length ≤ (rRow b L c k).length
  | 0 => Nat.le_refl _
  | k + 1 => by
    have := rRow_len (b := b) (c := c) (L := L) k
    simp only [rRow]
    split
    · exact this
    · simp only [List.length_append, List.length_singleton]; omega

theorem hdX9_remainders_X9_isGasket : yX9_isGasket.cls ≠ "java/lang/invoke/MethodHandle" ∧ yX9_isGasket.cls ≠ "java/lang/invoke/VarHandle" ∧ (parseMethodDescriptor yX9_isGasket.desc).map (fun d => d.parameters.length) = some 1 := by decide +kernel
theorem lk_X9_remainders_f80 : Cond.fieldLink RX9 80 "KoebehallModel" "thrown" "I" ∈ wsX9_remainders := by decide +kernel
theorem hin_X9_remainders_RX9 : ∀ w ∈ u_ws RX9 TX9 28, w ∈ wsX9_remainders := by decide +kernel
abbrev rmX9_remainders_b1 : Room := { frames := 2, cells := 0, slots := 0, locals := 46 }
set_option maxHeartbeats 4000000 in
set_option maxRecDepth 100000 in
/-- X9_remainders_b1 -/
theorem kX9_remainders_b1 (l : Launch) (G : kG) (B0 : Nat) (f : kH) (h : Nat) (q : Nat → Nat) (i0 i1 i3 i7 i18 i22 i23 i27 : Int32) (j16 j17 : Int64) (a2 : Nat → Int32) (a4 : Nat → Int32) (a5 : Nat → Int32) (a6 : Nat → Int32) (b8 : Nat → Int64) (b9 : Nat → Int64) (b10 : Nat → Int64) (a11 : Nat → Int32) (a12 : Nat → Int32) (a13 : Nat → Int32) (a14 : Nat → Int32) (b15 : Nat → Int64) (b19 : Nat → Int64) (b20 : Nat → Int64) (b21 : Nat → Int64) (a24 : Nat → Int32) (a25 : Nat → Int32) (a26 : Nat → Int32) (a b : Int32) (g9 : Nat) (hM : kCs f (mC G h q i0 i1 i3 i7 i18 i22 i23 i27 j16 j17 a2 a4 a5 a6 b8 b9 b10 a11 a12 a13 a14 b15 b19 b20 b21 a24 a25 a26)) (hg0 : i7 = nI g9) (hg9 : g9 ≤ 8) (hv : ¬ mIn a g9) : Met l yX9_remainders wsX9_remainders (rmX9_remainders_b1) (kP G B0 f [.ref h, .int a, .int b]) (kQi G B0 (fun r f1 => r = nI 0 ∧ kCs f1 (mC G h q i0 i1 i3 i7 i18 i22 i23 (nI 1) j16 j17 a2 a4 a5 a6 b8 b9 b10 a11 a12 a13 a14 b15 b19 b20 b21 a24 a25 a26) ∧ kOff (mAs h q) f f1)) 0 0 (kAb B0) := by
  refine kMet (cc := cX9_remainders) (maxL := 11) (ret := (some .int)) (by decide) rfl (Nat.le_of_ble_eq_true rfl) ?_
  intro p e s m args below meth c H locs Q ls C hX hl hr hlocks hnm hQ
  have hO : kOff (mAs h q) f f := kOff.rf
  have hl : lv_has ls 11 [(0, .ref h), (1, .int a), (2, .int b)] := hl
  refine lv_aload_n C.x C.b dX9_remainders_0 rfl (lv_at hl 0 rfl) ?_
  refine lv_aload_n C.x C.b dX9_remainders_1 rfl (lv_at hl 0 rfl) ?_
  refine lv_iload_n C.x C.b dX9_remainders_2 rfl (lv_at hl 1 rfl) ?_
  refine k_calli (va_runV (As := [.int a]) (rest := [.ref h]) C.1 (kX9_isGasket l G B0 f h q i0 i1 i3 i7 i18 i22 i23 i27 j16 j17 a2 a4 a5 a6 b8 b9 b10 a11 a12 a13 a14 b15 b19 b20 b21 a24 a25 a26 a g9 hM hg0 (by omega)) (cwV 1 C.ts gX9_remainders_X9_isGasket rfl rfl rfl ⟨rfl, hdX9_remainders_X9_isGasket⟩ ⟨Nat.le_of_ble_eq_true rfl, Nat.le_of_ble_eq_true rfl⟩) (k_preV C hX (hM.at 0 rfl) rfl) rfl rfl hl.1 rfl (lv_room (Nat.le_of_ble_eq_true rfl)) dX9_remainders_3 ⟨Nat.le_of_ble_eq_true rfl, Nat.le_of_ble_eq_true rfl⟩) hX (fun r3 f3 H locs hp3 hX => ?_)
  obtain ⟨hr3, hf3⟩ := hp3
  rw [hf3] at hX
  refine k_topi (y := (kbI (mIn a g9))) hr3 ?_
  refine lv_if_ne (tgt := 13) C.x C.b dX9_remainders_6 (by decide) (fun c_6 => ?_) (fun c_6 => ?_)
  · exact absurd (kbI_1 c_6) (hv)
  refine lv_iconst (v := nI 1) C.x C.b dX9_remainders_9 (by decide) ?_
  refine lv_goto (tgt := 32) C.x C.b dX9_remainders_10 (by decide) ?_
  refine k_put (X := RX9) (T := TX9) (N := 28) (ty := .int) (v := .int (nI 1)) C hX (hM.at 0 rfl) rfl hin_X9_remainders_RX9 tyX9_ok nmX9 27 (by decide) lk_X9_remainders_f80 (fun _ h9 => h9) rfl (by decide +kernel) rfl rfl (Nat.le_of_ble_eq_true rfl) dX9_remainders_32 (fun H locs hX => ?_)
  obtain ⟨g1, hX, hM, hO⟩ := kX.wr hX hM hO 0 rfl (List.mem_of_getElem? (i := 0) rfl)
  have hM : kCs g1 (mC G h q i0 i1 i3 i7 i18 i22 i23 (nI 1) j16 j17 a2 a4 a5 a6 b8 b9 b10 a11 a12 a13 a14 b15 b19 b20 b21 a24 a25 a26) := hM
  refine lv_aload_n C.x C.b dX9_remainders_35 rfl (lv_at hl 0 rfl) ?_
  refine k_get (X := RX9) (T := TX9) (N := 28) (v := .int (nI 1)) C hX (hM.at 0 rfl) rfl hin_X9_remainders_RX9 27 (by decide) lk_X9_remainders_f80 (fun _ h9 => h9) rfl dX9_remainders_36 ?_
  refine lv_if_le (tgt := 44) C.x C.b dX9_remainders_39 (by decide) (fun c_39 => ?_) (fun c_39 => ?_)
  · exact absurd c_39 (by decide)
  refine lv_iconst (v := nI 0) C.x C.b dX9_remainders_42 (by decide) ?_
  exact k_iret C hX hr hlocks hQ (by omega) (by omega) (⟨rfl, hM, hO⟩) dX9_remainders_43

theorem lk_X9_remainders_c109 : Cond.constantLong RX9 109 (2) ∈ wsX9_remainders := by decide +kernel
theorem lk_X9_remainders_c164 : Cond.constantLong RX9 164 (8) ∈ wsX9_remainders := by decide +kernel
theorem hdX9_remainders_X9_isIn : yX9_isIn.cls ≠ "java/lang/invoke/MethodHandle" ∧ yX9_isIn.cls ≠ "java/lang/invoke/VarHandle" ∧ (parseMethodDescriptor yX9_isIn.desc).map (fun d => d.parameters.length) = some 3 := by decide +kernel
abbrev rmX9_remainders_b2 : Room := { frames := 2, cells := 0, slots := 0, locals := 46 }
set_option maxHeartbeats 4000000 in
set_option maxRecDepth 100000 in
/-- X9_remainders_b2 -/
theorem kX9_remainders_b2 (l : Launch) (G : kG) (B0 : Nat) (f : kH) (h : Nat) (q : Nat → Nat) (i0 i1 i3 i7 i18 i22 i23 i27 : Int32) (j16 j17 : Int64) (a2 : Nat → Int32) (a4 : Nat → Int32) (a5 : Nat → Int32) (a6 : Nat → Int32) (b8 : Nat → Int64) (b9 : Nat → Int64) (b10 : Nat → Int64) (a11 : Nat → Int32) (a12 : Nat → Int32) (a13 : Nat → Int32) (a14 : Nat → Int32) (b15 : Nat → Int64) (b19 : Nat → Int64) (b20 : Nat → Int64) (b21 : Nat → Int64) (a24 : Nat → Int32) (a25 : Nat → Int32) (a26 : Nat → Int32) (a b : Int32) (g9 : Nat) (hM : kCs f (mC G h q i0 i1 i3 i7 i18 i22 i23 i27 j16 j17 a2 a4 a5 a6 b8 b9 b10 a11 a12 a13 a14 b15 b19 b20 b21 a24 a25 a26)) (hg0 : i7 = nI g9) (hg9 : g9 ≤ 8) (hv : mIn a g9) (hw : ¬ mRg b (2) 8) : Met l yX9_remainders wsX9_remainders (rmX9_remainders_b2) (kP G B0 f [.ref h, .int a, .int b]) (kQi G B0 (fun r f1 => r = nI 0 ∧ kCs f1 (mC G h q i0 i1 i3 i7 i18 i22 i23 (nI 2) j16 j17 a2 a4 a5 a6 b8 b9 b10 a11 a12 a13 a14 b15 b19 b20 b21 a24 a25 a26) ∧ kOff (mAs h q) f f1)) 0 0 (kAb B0) := by
  refine kMet (cc := cX9_remainders) (maxL := 11) (ret := (some .int)) (by decide) rfl (Nat.le_of_ble_eq_true rfl) ?_
  intro p e s m args below meth c H locs Q ls C hX hl hr hlocks hnm hQ
  have hO : kOff (mAs h q) f f := kOff.rf
  have hl : lv_has ls 11 [(0, .ref h), (1, .int a), (2, .int b)] := hl
  refine lv_aload_n C.x C.b dX9_remainders_0 rfl (lv_at hl 0 rfl) ?_
  refine lv_aload_n C.x C.b dX9_remainders_1 rfl (lv_at hl 0 rfl) ?_
  refine lv_iload_n C.x C.b dX9_remainders_2 rfl (lv_at hl 1 rfl) ?_
  refine k_calli (va_runV (As := [.int a]) (rest := [.ref h]) C.1 (kX9_isGasket l G B0 f h q i0 i1 i3 i7 i18 i22 i23 i27 j16 j17 a2 a4 a5 a6 b8 b9 b10 a11 a12 a13 a14 b15 b19 b20 b21 a24 a25 a26 a g9 hM hg0 (by omega)) (cwV 1 C.ts gX9_remainders_X9_isGasket rfl rfl rfl ⟨rfl, hdX9_remainders_X9_isGasket⟩ ⟨Nat.le_of_ble_eq_true rfl, Nat.le_of_ble_eq_true rfl⟩) (k_preV C hX (hM.at 0 rfl) rfl) rfl rfl hl.1 rfl (lv_room (Nat.le_of_ble_eq_true rfl)) dX9_remainders_3 ⟨Nat.le_of_ble_eq_true rfl, Nat.le_of_ble_eq_true rfl⟩) hX (fun r3 f3 H locs hp3 hX => ?_)
  obtain ⟨hr3, hf3⟩ := hp3
  rw [hf3] at hX
  refine k_topi (y := (kbI (mIn a g9))) hr3 ?_
  refine lv_if_ne (tgt := 13) C.x C.b dX9_remainders_6 (by decide) (fun c_6 => ?_) (fun c_6 => ?_)
  rotate_left
  · exact absurd (hv) (kbI_0 c_6)
  refine lv_iload_n C.x C.b dX9_remainders_13 rfl (lv_at hl 2 rfl) ?_
  refine lv_i2l (v := b.toInt64) C.x C.b dX9_remainders_14 rfl ?_
  refine lv_ldc2 (v := 2) C.x C.b C.ow (C.ts _ lk_X9_remainders_c109) dX9_remainders_15 ?_
  refine lv_ldc2 (v := 8) C.x C.b C.ow (C.ts _ lk_X9_remainders_c164) dX9_remainders_18 ?_
  refine k_calli (va_runS (As := [.long b.toInt64, .long 2, .long 8]) (rest := [.ref h]) C.1 (kX9_isIn l G B0 f b.toInt64 2 8) (va_cwS 3 C.ts gX9_remainders_X9_isIn rfl rfl rfl (hdX9_remainders_X9_isIn) ⟨Nat.le_of_ble_eq_true rfl, Nat.le_of_ble_eq_true rfl⟩) (k_preS C hX) rfl rfl hl.1 rfl (lv_room (Nat.le_of_ble_eq_true rfl)) dX9_remainders_21 ⟨Nat.le_of_ble_eq_true rfl, Nat.le_of_ble_eq_true rfl⟩) hX (fun r21 f21 H locs hp21 hX => ?_)
  obtain ⟨hr21, hf21⟩ := hp21
  rw [hf21] at hX
  refine k_topi (y := (kbI ((2 : Int64) ≤ b.toInt64 ∧ b.toInt64 ≤ 8))) hr21 ?_
  refine k_topi (y := (kbI (mRg b (2) 8))) (kbI_c (m_rg (by decide) (by decide))) ?_
  refine lv_if_ne (tgt := 31) C.x C.b dX9_remainders_24 (by decide) (fun c_24 => ?_) (fun c_24 => ?_)
  · exact absurd (kbI_1 c_24) (hw)
  refine lv_iconst (v := nI 2) C.x C.b dX9_remainders_27 (by decide) ?_
  refine lv_goto (tgt := 32) C.x C.b dX9_remainders_28 (by decide) ?_
  refine k_put (X := RX9) (T := TX9) (N := 28) (ty := .int) (v := .int (nI 2)) C hX (hM.at 0 rfl) rfl hin_X9_remainders_RX9 tyX9_ok nmX9 27 (by decide) lk_X9_remainders_f80 (fun _ h9 => h9) rfl (by decide +kernel) rfl rfl (Nat.le_of_ble_eq_true rfl) dX9_remainders_32 (fun H locs hX => ?_)
  obtain ⟨g1, hX, hM, hO⟩ := kX.wr hX hM hO 0 rfl (List.mem_of_getElem? (i := 0) rfl)
  have hM : kCs g1 (mC G h q i0 i1 i3 i7 i18 i22 i23 (nI 2) j16 j17 a2 a4 a5 a6 b8 b9 b10 a11 a12 a13 a14 b15 b19 b20 b21 a24 a25 a26) := hM
  refine lv_aload_n C.x C.b dX9_remainders_35 rfl (lv_at hl 0 rfl) ?_
  refine k_get (X := RX9) (T := TX9) (N := 28) (v := .int (nI 2)) C hX (hM.at 0 rfl) rfl hin_X9_remainders_RX9 27 (by decide) lk_X9_remainders_f80 (fun _ h9 => h9) rfl dX9_remainders_36 ?_
  refine lv_if_le (tgt := 44) C.x C.b dX9_remainders_39 (by decide) (fun c_39 => ?_) (fun c_39 => ?_)
  · exact absurd c_39 (by decide)
  refine lv_iconst (v := nI 0) C.x C.b dX9_remainders_42 (by decide) ?_
  exact k_iret C hX hr hlocks hQ (by omega) (by omega) (⟨rfl, hM, hO⟩) dX9_remainders_43

theorem lk_X9_remainders_f49 : Cond.fieldLink RX9 49 "KoebehallModel" "queue" "[I" ∈ wsX9_remainders := by decide +kernel
theorem lk_X9_remainders_f45 : Cond.fieldLink RX9 45 "KoebehallModel" "seen" "[Z" ∈ wsX9_remainders := by decide +kernel
theorem hdX9_remainders_X9_rest : yX9_rest.cls ≠ "java/lang/invoke/MethodHandle" ∧ yX9_rest.cls ≠ "java/lang/invoke/VarHandle" ∧ (parseMethodDescriptor yX9_rest.desc).map (fun d => d.parameters.length) = some 2 := by decide +kernel
theorem lk_X9_remainders_f29 : Cond.fieldLink RX9 29 "KoebehallModel" "curves" "[J" ∈ wsX9_remainders := by decide +kernel
abbrev rmX9_remainders : Room := { frames := 2, cells := 0, slots := 0, locals := 46 }
set_option maxHeartbeats 4000000 in
set_option maxRecDepth 100000 in
/-- X9_remainders -/
theorem kX9_remainders (l : Launch) (G : kG) (B0 : Nat) (f : kH) (h : Nat) (q : Nat → Nat) (i0 i1 i3 i7 i18 i22 i23 i27 : Int32) (j16 j17 : Int64) (a2 : Nat → Int32) (a4 : Nat → Int32) (a5 : Nat → Int32) (a6 : Nat → Int32) (b8 : Nat → Int64) (b9 : Nat → Int64) (b10 : Nat → Int64) (a11 : Nat → Int32) (a12 : Nat → Int32) (a13 : Nat → Int32) (a14 : Nat → Int32) (b15 : Nat → Int64) (b19 : Nat → Int64) (b20 : Nat → Int64) (b21 : Nat → Int64) (a24 : Nat → Int32) (a25 : Nat → Int32) (a26 : Nat → Int32) (t b g9 : Nat) (hM : kCs f (mC G h q i0 i1 i3 i7 i18 i22 i23 i27 j16 j17 a2 a4 a5 a6 b8 b9 b10 a11 a12 a13 a14 b15 b19 b20 b21 a24 a25 a26)) (hg0 : i7 = nI g9) (hg9 : g9 ≤ 8) (ht : t < g9) (hb2 : 2 ≤ b) (hb8 : b ≤ 8) : Met l yX9_remainders wsX9_remainders (rmX9_remainders) (kP G B0 f [.ref h, .int (nI t), .int (nI b)]) (kQi G B0 (fun r f1 => ∃ M, (rQ b (rCode b8 t b 4) M).length = M ∧ r = rS b (rCode b8 t b 4) M ∧ ∃ SN QU : Nat → Int32, kCs f1 (mC G h q i0 i1 i3 i7 i18 i22 i23 (nI 0) j16 j17 a2 a4 a5 a6 b8 b9 b10 a11 a12 SN QU b15 b19 b20 b21 a24 a25 a26) ∧ kOff (mAs h q) f f1)) 0 0 (kAb B0) := by
  refine kMet (cc := cX9_remainders) (maxL := 11) (ret := (some .int)) (by decide) rfl (Nat.le_of_ble_eq_true rfl) ?_
  intro p e s m args below meth c H locs Q ls C hX hl hr hlocks hnm hQ
  have hO : kOff (mAs h q) f f := kOff.rf
  have hl : lv_has ls 11 [(0, .ref h), (1, .int (nI t)), (2, .int (nI b))] := hl
  have hb0 : ¬ (nI b).toInt64 = 0 := fun z => by have h9 := nI64 (b := b) (by omega); rw [z] at h9; have : (0 : Int64).toInt = 0 := rfl; omega
  have hc0 := rCode_lt b8 t b (by omega) hb8 4
  refine lv_aload_n C.x C.b dX9_remainders_0 rfl (lv_at hl 0 rfl) ?_
  refine lv_aload_n C.x C.b dX9_remainders_1 rfl (lv_at hl 0 rfl) ?_
  refine lv_iload_n C.x C.b dX9_remainders_2 rfl (lv_at hl 1 rfl) ?_
  refine k_calli (va_runV (As := [.int (nI t)]) (rest := [.ref h]) C.1 (kX9_isGasket l G B0 f h q i0 i1 i3 i7 i18 i22 i23 i27 j16 j17 a2 a4 a5 a6 b8 b9 b10 a11 a12 a13 a14 b15 b19 b20 b21 a24 a25 a26 (nI t) g9 hM hg0 (by omega)) (cwV 1 C.ts gX9_remainders_X9_isGasket rfl rfl rfl ⟨rfl, hdX9_remainders_X9_isGasket⟩ ⟨Nat.le_of_ble_eq_true rfl, Nat.le_of_ble_eq_true rfl⟩) (k_preV C hX (hM.at 0 rfl) rfl) rfl rfl hl.1 rfl (lv_room (Nat.le_of_ble_eq_true rfl)) dX9_remainders_3 ⟨Nat.le_of_ble_eq_true rfl, Nat.le_of_ble_eq_true rfl⟩) hX (fun r3 f3 H locs hp3 hX => ?_)
  obtain ⟨hr3, hf3⟩ := hp3
  rw [hf3] at hX
  refine k_topi (y := (kbI (mIn (nI t) g9))) hr3 ?_
  refine lv_if_ne (tgt := 13) C.x C.b dX9_remainders_6 (by decide) (fun c_6 => ?_) (fun c_6 => ?_)
  rotate_left
  · exact absurd ((mIn_nI (by omega)).mpr ht) (kbI_0 c_6)
  refine lv_iload_n C.x C.b dX9_remainders_13 rfl (lv_at hl 2 rfl) ?_
  refine lv_i2l (v := (nI b).toInt64) C.x C.b dX9_remainders_14 rfl ?_
  refine lv_ldc2 (v := 2) C.x C.b C.ow (C.ts _ lk_X9_remainders_c109) dX9_remainders_15 ?_
  refine lv_ldc2 (v := 8) C.x C.b C.ow (C.ts _ lk_X9_remainders_c164) dX9_remainders_18 ?_
  refine k_calli (va_runS (As := [.long ((nI b).toInt64), .long 2, .long 8]) (rest := [.ref h]) C.1 (kX9_isIn l G B0 f ((nI b).toInt64) 2 8) (va_cwS 3 C.ts gX9_remainders_X9_isIn rfl rfl rfl (hdX9_remainders_X9_isIn) ⟨Nat.le_of_ble_eq_true rfl, Nat.le_of_ble_eq_true rfl⟩) (k_preS C hX) rfl rfl hl.1 rfl (lv_room (Nat.le_of_ble_eq_true rfl)) dX9_remainders_21 ⟨Nat.le_of_ble_eq_true rfl, Nat.le_of_ble_eq_true rfl⟩) hX (fun r21 f21 H locs hp21 hX => ?_)
  obtain ⟨hr21, hf21⟩ := hp21
  rw [hf21] at hX
  refine k_topi (y := (kbI ((2 : Int64) ≤ (nI b).toInt64 ∧ (nI b).toInt64 ≤ 8))) hr21 ?_
  refine k_topi (y := (kbI (mRg (nI b) (2) 8))) (kbI_c (m_rg (by decide) (by decide))) ?_
  refine lv_if_ne (tgt := 31) C.x C.b dX9_remainders_24 (by decide) (fun c_24 => ?_) (fun c_24 => ?_)
  rotate_left
  · exact absurd ((by rw [mRg, nI_toInt (by omega)]; omega)) (kbI_0 c_24)
  refine lv_iconst (v := nI 0) C.x C.b dX9_remainders_31 (by decide) ?_
  refine k_put (X := RX9) (T := TX9) (N := 28) (ty := .int) (v := .int (nI 0)) C hX (hM.at 0 rfl) rfl hin_X9_remainders_RX9 tyX9_ok nmX9 27 (by decide) lk_X9_remainders_f80 (fun _ h9 => h9) rfl (by decide +kernel) rfl rfl (Nat.le_of_ble_eq_true rfl) dX9_remainders_32 (fun H locs hX => ?_)
  obtain ⟨g1, hX, hM, hO⟩ := kX.wr hX hM hO 0 rfl (List.mem_of_getElem? (i := 0) rfl)
  have hM : kCs g1 (mC G h q i0 i1 i3 i7 i18 i22 i23 (nI 0) j16 j17 a2 a4 a5 a6 b8 b9 b10 a11 a12 a13 a14 b15 b19 b20 b21 a24 a25 a26) := hM
  refine lv_aload_n C.x C.b dX9_remainders_35 rfl (lv_at hl 0 rfl) ?_
  refine k_get (X := RX9) (T := TX9) (N := 28) (v := .int (nI 0)) C hX (hM.at 0 rfl) rfl hin_X9_remainders_RX9 27 (by decide) lk_X9_remainders_f80 (fun _ h9 => h9) rfl dX9_remainders_36 ?_
  refine lv_if_le (tgt := 44) C.x C.b dX9_remainders_39 (by decide) (fun c_39 => ?_) (fun c_39 => ?_)
  rotate_left
  · exact absurd c_39 (by decide)
  refine lv_iconst (v := nI 0) C.x C.b dX9_remainders_44 (by decide) ?_
  refine lv_istore_n (lv' := [(3, .int (nI 0)), (0, .ref h), (1, .int (nI t)), (2, .int (nI b))]) C.x C.b dX9_remainders_45 rfl hl (by decide) rfl (fun ls hl => ?_)
  have LOOP46 : ∀ (n : Nat) (k : Nat), (k ≤ 4096) → (4096 - k) < n → ∀ (ls : Array Slot), lv_has ls 11 [(3, .int (nI k)), (0, .ref h), (1, .int (nI t)), (2, .int (nI b))] → ∀ (fL : kH), kCs fL (mC G h q i0 i1 i3 i7 i18 i22 i23 (nI 0) j16 j17 a2 a4 a5 a6 b8 b9 b10 a11 a12 (rClr a13 k) a14 b15 b19 b20 b21 a24 a25 a26) → kOff (mAs h q) f fL → ∀ (H : Heap) (locs : List Loc), kX G B0 s fL H locs → W p l e (rmX9_remainders) s m args below meth c H locs 0 0 Q (F0 m 46 ls []) := by
    intro n46
    induction n46 with
    | zero => intro k hk hn; exact absurd hn (Nat.not_lt_zero _)
    | succ n46 ih46 =>
      intro k hk hn ls hl fL hM hO H locs hX
      refine lv_iload_n C.x C.b dX9_remainders_46 rfl (lv_at hl 0 rfl) ?_
      refine lv_sipush (v := nI 4096) C.x C.b dX9_remainders_47 (by decide) ?_
      refine lv_icmp_ge (tgt := 66) C.x C.b dX9_remainders_50 (by decide) (fun c_50 => ?_) (fun c_50 => ?_)
      · skip
        have c_50 : 4096 ≤ k := (nI_leI (by omega) (by omega)).mp c_50
        have hk9 : 4096 = k := by omega
        subst hk9
        refine lv_iconst (v := nI 0) C.x C.b dX9_remainders_66 (by decide) ?_
        refine lv_istore_n (lv' := [(3, .int (nI 0)), (0, .ref h), (1, .int (nI t)), (2, .int (nI b))]) C.x C.b dX9_remainders_67 rfl hl (by decide) rfl (fun ls hl => ?_)
        refine lv_iconst (v := nI 0) C.x C.b dX9_remainders_68 (by decide) ?_
        refine lv_istore (lv' := [(4, .int (nI 0)), (3, .int (nI 0)), (0, .ref h), (1, .int (nI t)), (2, .int (nI b))]) C.x C.b dX9_remainders_69 hl (by decide) rfl (fun ls hl => ?_)
        have LOOP71 : ∀ (n : Nat) (k : Nat), (k ≤ 4) → (4 - k) < n → ∀ (ls : Array Slot), lv_has ls 11 [(3, .int (nI (rCode b8 t b k))), (4, .int (nI k)), (0, .ref h), (1, .int (nI t)), (2, .int (nI b))] → ∀ (H : Heap) (locs : List Loc), kX G B0 s fL H locs → W p l e (rmX9_remainders) s m args below meth c H locs 0 0 Q (F0 m 71 ls []) := by
          intro n71
          induction n71 with
          | zero => intro k hk hn; exact absurd hn (Nat.not_lt_zero _)
          | succ n71 ih71 =>
            intro k hk hn ls hl H locs hX
            refine lv_iload C.x C.b dX9_remainders_71 (lv_at hl 1 rfl) ?_
            refine lv_iconst (v := nI 4) C.x C.b dX9_remainders_73 (by decide) ?_
            refine lv_icmp_ge (tgt := 104) C.x C.b dX9_remainders_74 (by decide) (fun c_74 => ?_) (fun c_74 => ?_)
            · skip
              have c_74 : 4 ≤ k := (nI_leI (by omega) (by omega)).mp c_74
              have hk9 : 4 = k := by omega
              subst hk9
              refine lv_iconst (v := nI 1) C.x C.b dX9_remainders_104 (by decide) ?_
              refine lv_istore (lv' := [(4, .int (nI 1)), (3, .int (nI (rCode b8 t b 4))), (0, .ref h), (1, .int (nI t)), (2, .int (nI b))]) C.x C.b dX9_remainders_105 hl (by decide) rfl (fun ls hl => ?_)
              refine lv_aload_n C.x C.b dX9_remainders_107 rfl (lv_at hl 2 rfl) ?_
              refine k_get (X := RX9) (T := TX9) (N := 28) (v := .ref (q 14)) C hX (hM.at 0 rfl) rfl hin_X9_remainders_RX9 14 (by decide) lk_X9_remainders_f49 (fun _ h9 => h9) rfl dX9_remainders_108 ?_
              refine lv_iconst (v := nI 0) C.x C.b dX9_remainders_111 (by decide) ?_
              refine lv_iload_n C.x C.b dX9_remainders_112 rfl (lv_at hl 1 rfl) ?_
              refine k_iast C hX (hM.at 11 rfl) (vp_in_nI (by omega) (by omega)) dX9_remainders_113 (fun H locs hX => ?_)
              rw [nI_clamp (by omega)] at hX
              obtain ⟨g4, hX, hM, hO⟩ := kX.wr hX hM hO 11 rfl (List.mem_of_getElem? (i := 11) rfl)
              have hM : kCs g4 (mC G h q i0 i1 i3 i7 i18 i22 i23 (nI 0) j16 j17 a2 a4 a5 a6 b8 b9 b10 a11 a12 (rClr a13 4096) (upd a14 0 (nI (rCode b8 t b 4))) b15 b19 b20 b21 a24 a25 a26) := hM
              refine lv_aload_n C.x C.b dX9_remainders_114 rfl (lv_at hl 2 rfl) ?_
              refine k_get (X := RX9) (T := TX9) (N := 28) (v := .ref (q 13)) C hX (hM.at 0 rfl) rfl hin_X9_remainders_RX9 13 (by decide) lk_X9_remainders_f45 (fun _ h9 => h9) rfl dX9_remainders_115 ?_
              refine lv_iload_n C.x C.b dX9_remainders_118 rfl (lv_at hl 1 rfl) ?_
              refine lv_iconst (v := nI 1) C.x C.b dX9_remainders_119 (by decide) ?_
              refine k_zast C hX (hM.at 10 rfl) (vp_in_nI (by omega) (by omega)) (by first | exact Or.inl rfl | exact Or.inr rfl | exact kbI_01 _) dX9_remainders_120 (fun H locs hX => ?_)
              rw [nI_clamp (by omega)] at hX
              obtain ⟨g5, hX, hM, hO⟩ := kX.wr hX hM hO 10 rfl (List.mem_of_getElem? (i := 10) rfl)
              have hM : kCs g5 (mC G h q i0 i1 i3 i7 i18 i22 i23 (nI 0) j16 j17 a2 a4 a5 a6 b8 b9 b10 a11 a12 (upd (rClr a13 4096) (rCode b8 t b 4) (nI 1)) (upd a14 0 (nI (rCode b8 t b 4))) b15 b19 b20 b21 a24 a25 a26) := hM
              refine lv_iconst (v := nI 0) C.x C.b dX9_remainders_121 (by decide) ?_
              refine lv_istore (lv' := [(5, .int (nI 0)), (4, .int (nI 1)), (3, .int (nI (rCode b8 t b 4))), (0, .ref h), (1, .int (nI t)), (2, .int (nI b))]) C.x C.b dX9_remainders_122 hl (by decide) rfl (fun ls hl => ?_)
              refine lv_iconst (v := nI 0) C.x C.b dX9_remainders_124 (by decide) ?_
              refine lv_istore (lv' := [(6, .int (nI 0)), (5, .int (nI 0)), (4, .int (nI 1)), (3, .int (nI (rCode b8 t b 4))), (0, .ref h), (1, .int (nI t)), (2, .int (nI b))]) C.x C.b dX9_remainders_125 hl (by decide) rfl (fun ls hl => ?_)
              have LOOP127 : ∀ (n : Nat) (at9 : Nat) (QU SN : Nat → Int32), (at9 ≤ (rQ b (rCode b8 t b 4) at9).length) → (rOk (rQ b (rCode b8 t b 4) at9) QU SN) → (4096 - at9) < n → ∀ (ls : Array Slot), lv_has ls 11 [(4, .int (nI ((rQ b (rCode b8 t b 4) at9).length))), (5, .int (rS b (rCode b8 t b 4) at9)), (6, .int (nI at9)), (0, .ref h), (1, .int (nI t)), (2, .int (nI b))] → ∀ (fL : kH), kCs fL (mC G h q i0 i1 i3 i7 i18 i22 i23 (nI 0) j16 j17 a2 a4 a5 a6 b8 b9 b10 a11 a12 SN QU b15 b19 b20 b21 a24 a25 a26) → kOff (mAs h q) f fL → ∀ (H : Heap) (locs : List Loc), kX G B0 s fL H locs → W p l e (rmX9_remainders) s m args below meth c H locs 0 0 Q (F0 m 127 ls []) := by
                intro n127
                induction n127 with
                | zero => intro at9 QU SN hat hok hn; exact absurd hn (Nat.not_lt_zero _)
                | succ n127 ih127 =>
                  intro at9 QU SN hat hok hn ls hl fL hM hO H locs hX
                  refine lv_iload C.x C.b dX9_remainders_127 (lv_at hl 2 rfl) ?_
                  have hln := hok.len
                  refine lv_iload C.x C.b dX9_remainders_129 (lv_at hl 0 rfl) ?_
                  refine lv_icmp_ge (tgt := 298) C.x C.b dX9_remainders_131 (by decide) (fun c_131 => ?_) (fun c_131 => ?_)
                  · skip
                    have c_131 : (rQ b (rCode b8 t b 4) at9).length ≤ at9 := (nI_leI (by omega) (by omega)).mp c_131
                    refine lv_iload C.x C.b dX9_remainders_298 (lv_at hl 1 rfl) ?_
                    exact k_iret C hX hr hlocks hQ (by omega) (by omega) (⟨at9, by omega, rfl, SN, QU, hM, hO⟩) dX9_remainders_300
                  · skip
                    have c_131 : ¬ ((rQ b (rCode b8 t b 4) at9).length ≤ at9) := fun h9 => c_131 ((nI_leI (by omega) (by omega)).mpr h9)
                    have hlt9 : at9 < (rQ b (rCode b8 t b 4) at9).length := by omega
                    obtain ⟨cc, hcc⟩ : ∃ cc, (rQ b (rCode b8 t b 4) at9)[at9]? = some cc := ⟨_, List.getElem?_eq_getElem hlt9⟩
                    have hc1 : cc < 4096 := hok.2.1 cc (List.mem_of_getElem? hcc)
                    have hq9 := hok.2.2.1 at9 cc hcc
                    have hln := hok.len
                    refine lv_iconst (v := nI 0) C.x C.b dX9_remainders_134 (by decide) ?_
                    refine lv_istore (lv' := [(7, .int (nI 0)), (4, .int (nI ((rQ b (rCode b8 t b 4) at9).length))), (5, .int (rS b (rCode b8 t b 4) at9)), (6, .int (nI at9)), (0, .ref h), (1, .int (nI t)), (2, .int (nI b))]) C.x C.b dX9_remainders_135 hl (by decide) rfl (fun ls hl => ?_)
                    refine lv_iconst (v := nI 0) C.x C.b dX9_remainders_137 (by decide) ?_
                    refine lv_istore (lv' := [(8, .int (nI 0)), (7, .int (nI 0)), (4, .int (nI ((rQ b (rCode b8 t b 4) at9).length))), (5, .int (rS b (rCode b8 t b 4) at9)), (6, .int (nI at9)), (0, .ref h), (1, .int (nI t)), (2, .int (nI b))]) C.x C.b dX9_remainders_138 hl (by decide) rfl (fun ls hl => ?_)
                    have LOOP140 : ∀ (n : Nat) (k : Nat), (k ≤ 4) → (4 - k) < n → ∀ (ls : Array Slot), lv_has ls 11 [(7, .int (nI (mSumD cc k))), (8, .int (nI k)), (5, .int (rO (rS b (rCode b8 t b 4) at9) cc k)), (4, .int (nI ((rQ b (rCode b8 t b 4) at9).length))), (6, .int (nI at9)), (0, .ref h), (1, .int (nI t)), (2, .int (nI b))] → ∀ (H : Heap) (locs : List Loc), kX G B0 s fL H locs → W p l e (rmX9_remainders) s m args below meth c H locs 0 0 Q (F0 m 140 ls []) := by
                      intro n140
                      induction n140 with
                      | zero => intro k hk hn; exact absurd hn (Nat.not_lt_zero _)
                      | succ n140 ih140 =>
                        intro k hk hn ls hl H locs hX
                        refine lv_iload C.x C.b dX9_remainders_140 (lv_at hl 1 rfl) ?_
                        refine lv_iconst (v := nI 4) C.x C.b dX9_remainders_142 (by decide) ?_
                        refine lv_icmp_ge (tgt := 194) C.x C.b dX9_remainders_143 (by decide) (fun c_143 => ?_) (fun c_143 => ?_)
                        · skip
                          have c_143 : 4 ≤ k := (nI_leI (by omega) (by omega)).mp c_143
                          have hk9 : 4 = k := by omega
                          subst hk9
                          refine lv_iconst (v := nI 0) C.x C.b dX9_remainders_194 (by decide) ?_
                          refine lv_istore (lv' := [(8, .int (nI 0)), (7, .int (nI (mSumD cc 4))), (5, .int (rO (rS b (rCode b8 t b 4) at9) cc 4)), (4, .int (nI ((rQ b (rCode b8 t b 4) at9).length))), (6, .int (nI at9)), (0, .ref h), (1, .int (nI t)), (2, .int (nI b))]) C.x C.b dX9_remainders_195 hl (by decide) rfl (fun ls hl => ?_)
                          have LOOP197 : ∀ (n : Nat) (k : Nat) (Q2 S2 : Nat → Int32), (k ≤ 4) → (rOk (rRow b (rQ b (rCode b8 t b 4) at9) cc k) Q2 S2) → (4 - k) < n → ∀ (ls : Array Slot), lv_has ls 11 [(8, .int (nI k)), (4, .int (nI ((rRow b (rQ b (rCode b8 t b 4) at9) cc k).length))), (7, .int (nI (mSumD cc 4))), (5, .int (rO (rS b (rCode b8 t b 4) at9) cc 4)), (6, .int (nI at9)), (0, .ref h), (1, .int (nI t)), (2, .int (nI b))] → ∀ (fL : kH), kCs fL (mC G h q i0 i1 i3 i7 i18 i22 i23 (nI 0) j16 j17 a2 a4 a5 a6 b8 b9 b10 a11 a12 S2 Q2 b15 b19 b20 b21 a24 a25 a26) → kOff (mAs h q) f fL → ∀ (H : Heap) (locs : List Loc), kX G B0 s fL H locs → W p l e (rmX9_remainders) s m args below meth c H locs 0 0 Q (F0 m 197 ls []) := by
                            intro n197
                            induction n197 with
                            | zero => intro k Q2 S2 hk hok2 hn; exact absurd hn (Nat.not_lt_zero _)
                            | succ n197 ih197 =>
                              intro k Q2 S2 hk hok2 hn ls hl fL hM hO H locs hX
                              refine lv_iload C.x C.b dX9_remainders_197 (lv_at hl 0 rfl) ?_
                              refine lv_iconst (v := nI 4) C.x C.b dX9_remainders_199 (by decide) ?_
                              refine lv_icmp_ge (tgt := 292) C.x C.b dX9_remainders_200 (by decide) (fun c_200 => ?_) (fun c_200 => ?_)
                              · skip
                                have c_200 : 4 ≤ k := (nI_leI (by omega) (by omega)).mp c_200
                                have hk9 : 4 = k := by omega
                                subst hk9
                                refine lv_iinc (v := (nI (at9 + 1))) (lv' := [(6, .int (nI (at9 + 1))), (8, .int (nI 4)), (4, .int (nI ((rRow b (rQ b (rCode b8 t b 4) at9) cc 4).length))), (7, .int (nI (mSumD cc 4))), (5, .int (rO (rS b (rCode b8 t b 4) at9) cc 4)), (0, .ref h), (1, .int (nI t)), (2, .int (nI b))]) C.x C.b dX9_remainders_292 hl (k := 4) rfl (nI_1 _) (by decide) rfl (fun ls hl => ?_)
                                refine lv_goto (tgt := 127) C.x C.b dX9_remainders_295 (by decide) ?_
                                rw [show (nI ((rRow b (rQ b (rCode b8 t b 4) at9) cc 4).length)) = (nI ((rQ b (rCode b8 t b 4) (at9 + 1)).length)) from by simp only [rQ, hcc]] at hl
                                rw [show (rO (rS b (rCode b8 t b 4) at9) cc 4) = (rS b (rCode b8 t b 4) (at9 + 1)) from by simp only [rS, hcc]] at hl
                                exact ih127 (at9 + 1) _ _ (by simp only [rQ, hcc]; have := rRow_len (b := b) (c := cc) (L := rQ b (rCode b8 t b 4) at9) 4; omega) (by simp only [rQ, hcc]; exact hok2) (by omega) ls (lv_sub hl [2, 4, 0, 5, 6, 7] rfl) _ hM hO _ _ hX
                              · skip
                                have c_200 : ¬ (4 ≤ k) := fun h9 => c_200 ((nI_leI (by omega) (by omega)).mpr h9)
                                have hq8 := hok2.2.2.1 at9 cc (rRow_at hcc k)
                                have hln2 := hok2.len
                                have hnx := rNx_lt (b := b) (c := cc) (k := k) (by omega) hb8 hc1 (by omega)
                                refine lv_aload_n C.x C.b dX9_remainders_203 rfl (lv_at hl 5 rfl) ?_
                                refine k_get (X := RX9) (T := TX9) (N := 28) (v := .ref (q 14)) C hX (hM.at 0 rfl) rfl hin_X9_remainders_RX9 14 (by decide) lk_X9_remainders_f49 (fun _ h9 => h9) rfl dX9_remainders_204 ?_
                                refine lv_iload C.x C.b dX9_remainders_207 (lv_at hl 4 rfl) ?_
                                refine k_iald C hX (hM.at 11 rfl) (vp_in_nI (by omega) (by omega)) dX9_remainders_209 ?_
                                refine k_topi (y := Q2 at9) (by rw [nI_clamp (by omega)]) ?_
                                refine k_topi (y := (nI cc)) (hq8) ?_
                                refine lv_iconst (v := nI 3) C.x C.b dX9_remainders_210 (by decide) ?_
                                refine lv_iload C.x C.b dX9_remainders_211 (lv_at hl 0 rfl) ?_
                                refine lv_imul C.x C.b dX9_remainders_213 ?_
                                refine k_topi (y := nI (3 * k)) (pk_mul _ _) ?_
                                refine lv_ishr C.x C.b dX9_remainders_214 ?_
                                refine lv_bipush (v := nI 7) C.x C.b dX9_remainders_215 (by decide) ?_
                                refine lv_iand C.x C.b dX9_remainders_217 ?_
                                refine k_topi (y := (nI (rDig cc k))) (rDig_at hc1 (by omega)) ?_
                                refine lv_istore (lv' := [(9, .int (nI (rDig cc k))), (8, .int (nI k)), (4, .int (nI ((rRow b (rQ b (rCode b8 t b 4) at9) cc k).length))), (7, .int (nI (mSumD cc 4))), (5, .int (rO (rS b (rCode b8 t b 4) at9) cc 4)), (6, .int (nI at9)), (0, .ref h), (1, .int (nI t)), (2, .int (nI b))]) C.x C.b dX9_remainders_218 hl (by decide) rfl (fun ls hl => ?_)
                                refine lv_aload_n C.x C.b dX9_remainders_220 rfl (lv_at hl 6 rfl) ?_
                                refine k_get (X := RX9) (T := TX9) (N := 28) (v := .ref (q 14)) C hX (hM.at 0 rfl) rfl hin_X9_remainders_RX9 14 (by decide) lk_X9_remainders_f49 (fun _ h9 => h9) rfl dX9_remainders_221 ?_
                                refine lv_iload C.x C.b dX9_remainders_224 (lv_at hl 5 rfl) ?_
                                refine k_iald C hX (hM.at 11 rfl) (vp_in_nI (by omega) (by omega)) dX9_remainders_226 ?_
                                refine k_topi (y := Q2 at9) (by rw [nI_clamp (by omega)]) ?_
                                refine k_topi (y := (nI cc)) (hq8) ?_
                                refine lv_ldc2 (v := 2) C.x C.b C.ow (C.ts _ lk_X9_remainders_c109) dX9_remainders_227 ?_
                                refine lv_iload C.x C.b dX9_remainders_230 (lv_at hl 3 rfl) ?_
                                refine lv_iload C.x C.b dX9_remainders_232 (lv_at hl 0 rfl) ?_
                                refine lv_isub C.x C.b dX9_remainders_234 ?_
                                refine lv_i2l (v := ((nI (mSumD cc 4)) - (nI (rDig cc k))).toInt64) C.x C.b dX9_remainders_235 rfl ?_
                                refine lv_lmul C.x C.b dX9_remainders_236 ?_
                                refine lv_iload C.x C.b dX9_remainders_237 (lv_at hl 0 rfl) ?_
                                refine lv_i2l (v := (nI (rDig cc k)).toInt64) C.x C.b dX9_remainders_239 rfl ?_
                                refine lv_lsub C.x C.b dX9_remainders_240 ?_
                                refine lv_iload_n C.x C.b dX9_remainders_241 rfl (lv_at hl 8 rfl) ?_
                                refine k_calli (va_runS (As := [.long ((2 * (((nI (mSumD cc 4)) - (nI (rDig cc k))).toInt64)) - ((nI (rDig cc k)).toInt64)), .int (nI b)]) (rest := [.int (nI cc)]) C.1 (kX9_rest l G B0 fL (2 * ((nI (mSumD cc 4)) - (nI (rDig cc k))).toInt64 - (nI (rDig cc k)).toInt64) b hb0) (va_cwS 2 C.ts gX9_remainders_X9_rest rfl rfl rfl (hdX9_remainders_X9_rest) ⟨Nat.le_of_ble_eq_true rfl, Nat.le_of_ble_eq_true rfl⟩) (k_preS C hX) rfl rfl hl.1 rfl (lv_room (Nat.le_of_ble_eq_true rfl)) dX9_remainders_242 ⟨Nat.le_of_ble_eq_true rfl, Nat.le_of_ble_eq_true rfl⟩) hX (fun r242 f242 H locs hp242 hX => ?_)
                                obtain ⟨hr242, hf242⟩ := hp242
                                rw [hf242] at hX
                                refine k_topi (y := (mRest (2 * ((nI (mSumD cc 4)) - (nI (rDig cc k))).toInt64 - (nI (rDig cc k)).toInt64) b)) hr242 ?_
                                refine k_topi (y := (nI (rNr b cc k))) (rNr_at hb2 hb8 (by omega)) ?_
                                refine lv_iload C.x C.b dX9_remainders_245 (lv_at hl 0 rfl) ?_
                                refine lv_isub C.x C.b dX9_remainders_247 ?_
                                refine lv_iconst (v := nI 3) C.x C.b dX9_remainders_248 (by decide) ?_
                                refine lv_iload C.x C.b dX9_remainders_249 (lv_at hl 1 rfl) ?_
                                refine lv_imul C.x C.b dX9_remainders_251 ?_
                                refine k_topi (y := nI (3 * k)) (pk_mul _ _) ?_
                                refine lv_ishl C.x C.b dX9_remainders_252 ?_
                                refine lv_iadd C.x C.b dX9_remainders_253 ?_
                                refine k_topi (y := (nI (rNx b cc k))) (rNx_at (by omega) hb8 (by omega)) ?_
                                refine lv_istore (lv' := [(10, .int (nI (rNx b cc k))), (9, .int (nI (rDig cc k))), (8, .int (nI k)), (4, .int (nI ((rRow b (rQ b (rCode b8 t b 4) at9) cc k).length))), (7, .int (nI (mSumD cc 4))), (5, .int (rO (rS b (rCode b8 t b 4) at9) cc 4)), (6, .int (nI at9)), (0, .ref h), (1, .int (nI t)), (2, .int (nI b))]) C.x C.b dX9_remainders_254 hl (by decide) rfl (fun ls hl => ?_)
                                refine lv_aload_n C.x C.b dX9_remainders_256 rfl (lv_at hl 7 rfl) ?_
                                refine k_get (X := RX9) (T := TX9) (N := 28) (v := .ref (q 13)) C hX (hM.at 0 rfl) rfl hin_X9_remainders_RX9 13 (by decide) lk_X9_remainders_f45 (fun _ h9 => h9) rfl dX9_remainders_257 ?_
                                refine lv_iload C.x C.b dX9_remainders_260 (lv_at hl 0 rfl) ?_
                                refine k_zald C hX (hM.at 10 rfl) (vp_in_nI (by omega) (by omega)) dX9_remainders_262 ?_
                                refine k_topi (y := S2 (rNx b cc k)) (by rw [nI_clamp (by omega)]) ?_
                                refine k_topi (y := (kbI (rNx b cc k ∈ rRow b (rQ b (rCode b8 t b 4) at9) cc k))) (hok2.2.2.2 _ hnx) ?_
                                refine lv_if_ne (tgt := 286) C.x C.b dX9_remainders_263 (by decide) (fun c_263 => ?_) (fun c_263 => ?_)
                                · skip
                                  have c_263 := kbI_1 c_263
                                  have er : rRow b (rQ b (rCode b8 t b 4) at9) cc (k + 1) = rRow b (rQ b (rCode b8 t b 4) at9) cc k := by simp only [rRow]; rw [if_pos c_263]
                                  refine lv_iinc (v := (nI (k + 1))) (lv' := [(8, .int (nI (k + 1))), (10, .int (nI (rNx b cc k))), (9, .int (nI (rDig cc k))), (4, .int (nI ((rRow b (rQ b (rCode b8 t b 4) at9) cc k).length))), (7, .int (nI (mSumD cc 4))), (5, .int (rO (rS b (rCode b8 t b 4) at9) cc 4)), (6, .int (nI at9)), (0, .ref h), (1, .int (nI t)), (2, .int (nI b))]) C.x C.b dX9_remainders_286 hl (k := 2) rfl (nI_1 _) (by decide) rfl (fun ls hl => ?_)
                                  refine lv_goto (tgt := 197) C.x C.b dX9_remainders_289 (by decide) ?_
                                  rw [show (nI ((rRow b (rQ b (rCode b8 t b 4) at9) cc k).length)) = (nI ((rRow b (rQ b (rCode b8 t b 4) at9) cc (k + 1)).length)) from by simp only [er, List.length_append, List.length_singleton]] at hl
                                  exact ih197 (k + 1) _ _ (by omega) (by rw [er]; exact hok2) (by omega) ls (lv_sub hl [0, 3, 4, 5, 6, 7, 8, 9] rfl) _ hM hO _ _ hX
                                · skip
                                  have c_263 := kbI_0 c_263
                                  obtain ⟨hll, hok3⟩ := hok2.add hnx c_263
                                  have er : rRow b (rQ b (rCode b8 t b 4) at9) cc (k + 1) = rRow b (rQ b (rCode b8 t b 4) at9) cc k ++ [rNx b cc k] := by simp only [rRow]; rw [if_neg c_263]
                                  refine lv_aload_n C.x C.b dX9_remainders_266 rfl (lv_at hl 7 rfl) ?_
                                  refine k_get (X := RX9) (T := TX9) (N := 28) (v := .ref (q 13)) C hX (hM.at 0 rfl) rfl hin_X9_remainders_RX9 13 (by decide) lk_X9_remainders_f45 (fun _ h9 => h9) rfl dX9_remainders_267 ?_
                                  refine lv_iload C.x C.b dX9_remainders_270 (lv_at hl 0 rfl) ?_
                                  refine lv_iconst (v := nI 1) C.x C.b dX9_remainders_272 (by decide) ?_
                                  refine k_zast C hX (hM.at 10 rfl) (vp_in_nI (by omega) (by omega)) (by first | exact Or.inl rfl | exact Or.inr rfl | exact kbI_01 _) dX9_remainders_273 (fun H locs hX => ?_)
                                  rw [nI_clamp (by omega)] at hX
                                  obtain ⟨g9, hX, hM, hO⟩ := kX.wr hX hM hO 10 rfl (List.mem_of_getElem? (i := 10) rfl)
                                  have hM : kCs g9 (mC G h q i0 i1 i3 i7 i18 i22 i23 (nI 0) j16 j17 a2 a4 a5 a6 b8 b9 b10 a11 a12 (upd S2 (rNx b cc k) (nI 1)) Q2 b15 b19 b20 b21 a24 a25 a26) := hM
                                  refine lv_aload_n C.x C.b dX9_remainders_274 rfl (lv_at hl 7 rfl) ?_
                                  refine k_get (X := RX9) (T := TX9) (N := 28) (v := .ref (q 14)) C hX (hM.at 0 rfl) rfl hin_X9_remainders_RX9 14 (by decide) lk_X9_remainders_f49 (fun _ h9 => h9) rfl dX9_remainders_275 ?_
                                  refine lv_iload C.x C.b dX9_remainders_278 (lv_at hl 3 rfl) ?_
                                  refine lv_iload C.x C.b dX9_remainders_280 (lv_at hl 0 rfl) ?_
                                  refine k_iast C hX (hM.at 11 rfl) (vp_in_nI (by omega) (by omega)) dX9_remainders_282 (fun H locs hX => ?_)
                                  rw [nI_clamp (by omega)] at hX
                                  obtain ⟨g10, hX, hM, hO⟩ := kX.wr hX hM hO 11 rfl (List.mem_of_getElem? (i := 11) rfl)
                                  have hM : kCs g10 (mC G h q i0 i1 i3 i7 i18 i22 i23 (nI 0) j16 j17 a2 a4 a5 a6 b8 b9 b10 a11 a12 (upd S2 (rNx b cc k) (nI 1)) (upd Q2 ((rRow b (rQ b (rCode b8 t b 4) at9) cc k).length) (nI (rNx b cc k))) b15 b19 b20 b21 a24 a25 a26) := hM
                                  refine lv_iinc (v := (nI ((rRow b (rQ b (rCode b8 t b 4) at9) cc k).length + 1))) (lv' := [(4, .int (nI ((rRow b (rQ b (rCode b8 t b 4) at9) cc k).length + 1))), (10, .int (nI (rNx b cc k))), (9, .int (nI (rDig cc k))), (8, .int (nI k)), (7, .int (nI (mSumD cc 4))), (5, .int (rO (rS b (rCode b8 t b 4) at9) cc 4)), (6, .int (nI at9)), (0, .ref h), (1, .int (nI t)), (2, .int (nI b))]) C.x C.b dX9_remainders_283 hl (k := 3) rfl (nI_1 _) (by decide) rfl (fun ls hl => ?_)
                                  refine lv_iinc (v := (nI (k + 1))) (lv' := [(8, .int (nI (k + 1))), (4, .int (nI ((rRow b (rQ b (rCode b8 t b 4) at9) cc k).length + 1))), (10, .int (nI (rNx b cc k))), (9, .int (nI (rDig cc k))), (7, .int (nI (mSumD cc 4))), (5, .int (rO (rS b (rCode b8 t b 4) at9) cc 4)), (6, .int (nI at9)), (0, .ref h), (1, .int (nI t)), (2, .int (nI b))]) C.x C.b dX9_remainders_286 hl (k := 3) rfl (nI_1 _) (by decide) rfl (fun ls hl => ?_)
                                  refine lv_goto (tgt := 197) C.x C.b dX9_remainders_289 (by decide) ?_
                                  rw [show (nI ((rRow b (rQ b (rCode b8 t b 4) at9) cc k).length + 1)) = (nI ((rRow b (rQ b (rCode b8 t b 4) at9) cc (k + 1)).length)) from by simp only [er, List.length_append, List.length_singleton]] at hl
                                  exact ih197 (k + 1) _ _ (by omega) (by rw [er]; exact hok3) (by omega) ls (lv_sub hl [0, 1, 4, 5, 6, 7, 8, 9] rfl) _ hM hO _ _ hX
                          exact LOOP197 _ 0 _ _ (by omega) hok (Nat.lt_succ_self _) ls (lv_sub hl [0, 3, 1, 2, 4, 5, 6, 7] rfl) _ hM hO _ _ hX
                        · skip
                          have c_143 : ¬ (4 ≤ k) := fun h9 => c_143 ((nI_leI (by omega) (by omega)).mpr h9)
                          refine lv_iload C.x C.b dX9_remainders_146 (lv_at hl 0 rfl) ?_
                          refine lv_aload_n C.x C.b dX9_remainders_148 rfl (lv_at hl 5 rfl) ?_
                          refine k_get (X := RX9) (T := TX9) (N := 28) (v := .ref (q 14)) C hX (hM.at 0 rfl) rfl hin_X9_remainders_RX9 14 (by decide) lk_X9_remainders_f49 (fun _ h9 => h9) rfl dX9_remainders_149 ?_
                          refine lv_iload C.x C.b dX9_remainders_152 (lv_at hl 4 rfl) ?_
                          refine k_iald C hX (hM.at 11 rfl) (vp_in_nI (by omega) (by omega)) dX9_remainders_154 ?_
                          refine k_topi (y := QU at9) (by rw [nI_clamp (by omega)]) ?_
                          refine k_topi (y := (nI cc)) (hq9) ?_
                          refine lv_iconst (v := nI 3) C.x C.b dX9_remainders_155 (by decide) ?_
                          refine lv_iload C.x C.b dX9_remainders_156 (lv_at hl 1 rfl) ?_
                          refine lv_imul C.x C.b dX9_remainders_158 ?_
                          refine k_topi (y := nI (3 * k)) (pk_mul _ _) ?_
                          refine lv_ishr C.x C.b dX9_remainders_159 ?_
                          refine lv_bipush (v := nI 7) C.x C.b dX9_remainders_160 (by decide) ?_
                          refine lv_iand C.x C.b dX9_remainders_162 ?_
                          refine k_topi (y := (nI (rDig cc k))) (rDig_at hc1 (by omega)) ?_
                          refine lv_iadd C.x C.b dX9_remainders_163 ?_
                          refine k_topi (y := nI ((mSumD cc k) + (rDig cc k))) (nI_add _ _) ?_
                          refine lv_istore (lv' := [(7, .int (nI ((mSumD cc k) + (rDig cc k)))), (8, .int (nI k)), (5, .int (rO (rS b (rCode b8 t b 4) at9) cc k)), (4, .int (nI ((rQ b (rCode b8 t b 4) at9).length))), (6, .int (nI at9)), (0, .ref h), (1, .int (nI t)), (2, .int (nI b))]) C.x C.b dX9_remainders_164 hl (by decide) rfl (fun ls hl => ?_)
                          refine lv_iload C.x C.b dX9_remainders_166 (lv_at hl 2 rfl) ?_
                          refine lv_iconst (v := nI 1) C.x C.b dX9_remainders_168 (by decide) ?_
                          refine lv_aload_n C.x C.b dX9_remainders_169 rfl (lv_at hl 5 rfl) ?_
                          refine k_get (X := RX9) (T := TX9) (N := 28) (v := .ref (q 14)) C hX (hM.at 0 rfl) rfl hin_X9_remainders_RX9 14 (by decide) lk_X9_remainders_f49 (fun _ h9 => h9) rfl dX9_remainders_170 ?_
                          refine lv_iload C.x C.b dX9_remainders_173 (lv_at hl 4 rfl) ?_
                          refine k_iald C hX (hM.at 11 rfl) (vp_in_nI (by omega) (by omega)) dX9_remainders_175 ?_
                          refine k_topi (y := QU at9) (by rw [nI_clamp (by omega)]) ?_
                          refine k_topi (y := (nI cc)) (hq9) ?_
                          refine lv_iconst (v := nI 3) C.x C.b dX9_remainders_176 (by decide) ?_
                          refine lv_iload C.x C.b dX9_remainders_177 (lv_at hl 1 rfl) ?_
                          refine lv_imul C.x C.b dX9_remainders_179 ?_
                          refine k_topi (y := nI (3 * k)) (pk_mul _ _) ?_
                          refine lv_ishr C.x C.b dX9_remainders_180 ?_
                          refine lv_bipush (v := nI 7) C.x C.b dX9_remainders_181 (by decide) ?_
                          refine lv_iand C.x C.b dX9_remainders_183 ?_
                          refine k_topi (y := (nI (rDig cc k))) (rDig_at hc1 (by omega)) ?_
                          refine lv_ishl C.x C.b dX9_remainders_184 ?_
                          refine lv_ior C.x C.b dX9_remainders_185 ?_
                          refine lv_istore (lv' := [(5, .int ((rO (rS b (rCode b8 t b 4) at9) cc k) ||| ((nI 1) <<< ((nI (rDig cc k)) &&& 31)))), (7, .int (nI ((mSumD cc k) + (rDig cc k)))), (8, .int (nI k)), (4, .int (nI ((rQ b (rCode b8 t b 4) at9).length))), (6, .int (nI at9)), (0, .ref h), (1, .int (nI t)), (2, .int (nI b))]) C.x C.b dX9_remainders_186 hl (by decide) rfl (fun ls hl => ?_)
                          refine lv_iinc (v := (nI (k + 1))) (lv' := [(8, .int (nI (k + 1))), (5, .int ((rO (rS b (rCode b8 t b 4) at9) cc k) ||| ((nI 1) <<< ((nI (rDig cc k)) &&& 31)))), (7, .int (nI ((mSumD cc k) + (rDig cc k)))), (4, .int (nI ((rQ b (rCode b8 t b 4) at9).length))), (6, .int (nI at9)), (0, .ref h), (1, .int (nI t)), (2, .int (nI b))]) C.x C.b dX9_remainders_188 hl (k := 2) rfl (nI_1 _) (by decide) rfl (fun ls hl => ?_)
                          refine lv_goto (tgt := 140) C.x C.b dX9_remainders_191 (by decide) ?_
                          exact ih140 (k + 1) (by omega) (by omega) ls (lv_sub hl [2, 0, 1, 3, 4, 5, 6, 7] rfl) _ _ hX
                    exact LOOP140 _ 0 (by omega) (Nat.lt_succ_self _) ls (lv_sub hl [1, 0, 3, 2, 4, 5, 6, 7] rfl) _ _ hX
              exact LOOP127 _ 0 _ _ (Nat.zero_le _) ⟨by simp [rQ], fun c hc => by rw [List.mem_singleton.mp hc]; exact hc0, fun i c hi => by cases i with | zero => cases hi; simp [upd] | succ i => simp [rQ] at hi, fun x hx => by simp only [upd, rQ, List.mem_singleton]; split; (rename_i e; exact kbI_tN e); (rename_i e; rw [rClr_lt _ _ _ hx]; exact kbI_fN e)⟩ (Nat.lt_succ_self _) ls (lv_sub hl [2, 1, 0, 4, 5, 6] rfl) _ hM hO _ _ hX
            · skip
              have c_74 : ¬ (4 ≤ k) := fun h9 => c_74 ((nI_leI (by omega) (by omega)).mpr h9)
              refine lv_bipush (v := nI 8) C.x C.b dX9_remainders_77 (by decide) ?_
              refine lv_iload_n C.x C.b dX9_remainders_79 rfl (lv_at hl 0 rfl) ?_
              refine lv_imul C.x C.b dX9_remainders_80 ?_
              refine k_topi (y := nI (8 * (rCode b8 t b k))) (pk_mul _ _) ?_
              refine lv_aload_n C.x C.b dX9_remainders_81 rfl (lv_at hl 2 rfl) ?_
              refine k_get (X := RX9) (T := TX9) (N := 28) (v := .ref (q 8)) C hX (hM.at 0 rfl) rfl hin_X9_remainders_RX9 8 (by decide) lk_X9_remainders_f29 (fun _ h9 => h9) rfl dX9_remainders_82 ?_
              refine lv_iconst (v := nI 4) C.x C.b dX9_remainders_85 (by decide) ?_
              refine lv_iload_n C.x C.b dX9_remainders_86 rfl (lv_at hl 3 rfl) ?_
              refine lv_imul C.x C.b dX9_remainders_87 ?_
              refine k_topi (y := nI (4 * t)) (pk_mul _ _) ?_
              refine lv_iload C.x C.b dX9_remainders_88 (lv_at hl 1 rfl) ?_
              refine lv_iadd C.x C.b dX9_remainders_90 ?_
              refine k_topi (y := nI ((4 * t) + k)) (nI_add _ _) ?_
              refine k_lald C hX (hM.at 5 rfl) (vp_in_nI (by omega) (by omega)) dX9_remainders_91 ?_
              refine k_topl (y := b8 ((4 * t) + k)) (by rw [nI_clamp (by omega)]) ?_
              refine lv_iload_n C.x C.b dX9_remainders_92 rfl (lv_at hl 4 rfl) ?_
              refine k_calli (va_runS (As := [.long (b8 ((4 * t) + k)), .int (nI b)]) (rest := [.int (nI (8 * (rCode b8 t b k)))]) C.1 (kX9_rest l G B0 fL (b8 ((4 * t) + k)) b hb0) (va_cwS 2 C.ts gX9_remainders_X9_rest rfl rfl rfl (hdX9_remainders_X9_rest) ⟨Nat.le_of_ble_eq_true rfl, Nat.le_of_ble_eq_true rfl⟩) (k_preS C hX) rfl rfl hl.1 rfl (lv_room (Nat.le_of_ble_eq_true rfl)) dX9_remainders_93 ⟨Nat.le_of_ble_eq_true rfl, Nat.le_of_ble_eq_true rfl⟩) hX (fun r93 f93 H locs hp93 hX => ?_)
              obtain ⟨hr93, hf93⟩ := hp93
              rw [hf93] at hX
              refine k_topi (y := (mRest (b8 ((4 * t) + k)) b)) hr93 ?_
              refine k_topi (y := (nI (rM (b8 (4 * t + k)) b))) (mRest_at hb2 hb8) ?_
              refine lv_iadd C.x C.b dX9_remainders_96 ?_
              refine k_topi (y := nI ((8 * (rCode b8 t b k)) + (rM (b8 (4 * t + k)) b))) (nI_add _ _) ?_
              refine lv_istore_n (lv' := [(3, .int (nI ((8 * (rCode b8 t b k)) + (rM (b8 (4 * t + k)) b)))), (4, .int (nI k)), (0, .ref h), (1, .int (nI t)), (2, .int (nI b))]) C.x C.b dX9_remainders_97 rfl hl (by decide) rfl (fun ls hl => ?_)
              refine lv_iinc (v := (nI (k + 1))) (lv' := [(4, .int (nI (k + 1))), (3, .int (nI ((8 * (rCode b8 t b k)) + (rM (b8 (4 * t + k)) b)))), (0, .ref h), (1, .int (nI t)), (2, .int (nI b))]) C.x C.b dX9_remainders_98 hl (k := 1) rfl (nI_1 _) (by decide) rfl (fun ls hl => ?_)
              refine lv_goto (tgt := 71) C.x C.b dX9_remainders_101 (by decide) ?_
              exact ih71 (k + 1) (by omega) (by omega) ls (lv_sub hl [1, 0, 2, 3, 4] rfl) _ _ hX
        exact LOOP71 _ 0 (by omega) (Nat.lt_succ_self _) ls (lv_sub hl [1, 0, 2, 3, 4] rfl) _ _ hX
      · skip
        have c_50 : ¬ (4096 ≤ k) := fun h9 => c_50 ((nI_leI (by omega) (by omega)).mpr h9)
        refine lv_aload_n C.x C.b dX9_remainders_53 rfl (lv_at hl 1 rfl) ?_
        refine k_get (X := RX9) (T := TX9) (N := 28) (v := .ref (q 13)) C hX (hM.at 0 rfl) rfl hin_X9_remainders_RX9 13 (by decide) lk_X9_remainders_f45 (fun _ h9 => h9) rfl dX9_remainders_54 ?_
        refine lv_iload_n C.x C.b dX9_remainders_57 rfl (lv_at hl 0 rfl) ?_
        refine lv_iconst (v := nI 0) C.x C.b dX9_remainders_58 (by decide) ?_
        refine k_zast C hX (hM.at 10 rfl) (vp_in_nI (by omega) (by omega)) (by first | exact Or.inl rfl | exact Or.inr rfl | exact kbI_01 _) dX9_remainders_59 (fun H locs hX => ?_)
        rw [nI_clamp (by omega)] at hX
        obtain ⟨g11, hX, hM, hO⟩ := kX.wr hX hM hO 10 rfl (List.mem_of_getElem? (i := 10) rfl)
        have hM : kCs g11 (mC G h q i0 i1 i3 i7 i18 i22 i23 (nI 0) j16 j17 a2 a4 a5 a6 b8 b9 b10 a11 a12 (upd (rClr a13 k) k (nI 0)) a14 b15 b19 b20 b21 a24 a25 a26) := hM
        refine lv_iinc (v := (nI (k + 1))) (lv' := [(3, .int (nI (k + 1))), (0, .ref h), (1, .int (nI t)), (2, .int (nI b))]) C.x C.b dX9_remainders_60 hl (k := 0) rfl (nI_1 _) (by decide) rfl (fun ls hl => ?_)
        refine lv_goto (tgt := 46) C.x C.b dX9_remainders_63 (by decide) ?_
        exact ih46 (k + 1) (by omega) (by omega) ls (lv_sub hl [0, 1, 2, 3] rfl) _ hM hO _ _ hX
  exact LOOP46 _ 0 (by omega) (Nat.lt_succ_self _) ls (lv_sub hl [0, 1, 2, 3] rfl) _ hM hO _ _ hX
