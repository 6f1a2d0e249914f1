theorem fb_rngL0 (x : Int64) : -9223372036854775808 ≤ x.toInt ∧ x.toInt < 9223372036854775808 := ⟨Int64.le_toInt x, Int64.toInt_lt x⟩
theorem lrem_toInt {x y : Int64} (hy : 0 < y.toInt) : (lrem x y).toInt = x.toInt.tmod y.toInt := by
  have h1 := fb_rngL0 x
  have h2 := fb_rngL0 y
  have e1 := Int.mul_tdiv_add_tmod x.toInt y.toInt
  have hP : -9223372036854775808 ≤ y.toInt * x.toInt.tdiv y.toInt ∧ y.toInt * x.toInt.tdiv y.toInt < 9223372036854775808 ∧ -9223372036854775808 ≤ x.toInt.tdiv y.toInt ∧ x.toInt.tdiv y.toInt < 9223372036854775808 := by
    rcases (show x.toInt < 0 ∨ 0 ≤ x.toInt by omega) with h | h
    · have q1 : x.toInt.tdiv y.toInt ≤ 0 := by
        have := Int.tdiv_nonneg (a := -x.toInt) (b := y.toInt) (by omega) (by omega)
        rw [Int.neg_tdiv] at this
        omega
      have q2 : x.toInt.tmod y.toInt ≤ 0 := by
        have := Int.tmod_nonneg (a := -x.toInt) y.toInt (by omega)
        rw [Int.neg_tmod] at this
        omega
      have q3 : y.toInt * x.toInt.tdiv y.toInt ≤ x.toInt.tdiv y.toInt := by
        have : (y.toInt - 1) * x.toInt.tdiv y.toInt ≤ 0 := Int.mul_nonpos_of_nonneg_of_nonpos (by omega) q1
        rw [Int.sub_mul] at this
        omega
      omega
    · have q1 := Int.tdiv_nonneg (a := x.toInt) (b := y.toInt) h (by omega)
      have q2 := Int.tmod_nonneg (a := x.toInt) y.toInt h
      have q3 : x.toInt.tdiv y.toInt ≤ y.toInt * x.toInt.tdiv y.toInt := by
        have : 0 ≤ (y.toInt - 1) * x.toInt.tdiv y.toInt := Int.mul_nonneg (by omega) q1
        rw [Int.sub_mul] at this
        omega
      omega
  have d1 : (x / y).toInt = x.toInt.tdiv y.toInt := by
    rw [Int64.toInt_div, Int.bmod_eq_of_le] <;> omega
  have g1 := Int.tmod_lt_of_pos x.toInt hy
  have g2 := Int.lt_tmod_of_pos x.toInt hy
  unfold lrem
  rw [Int64.toInt_sub, Int64.toInt_mul, d1, Int.mul_comm (x.toInt.tdiv y.toInt)]
  rw [Int.bmod_eq_of_le (n := y.toInt * x.toInt.tdiv y.toInt) (by omega) (by omega), Int.bmod_eq_of_le] <;> omega
def rM (x : Int64) (b : Nat) : Nat := (x.toInt % (b : Int)).toNat
theorem rM_lt {x : Int64} {b : Nat} (hb : 0 < b) : rM x b < b := by
  have h1 := Int.emod_nonneg x.toInt (show (b : Int) ≠ 0 by omega)
  have h2 := Int.emod_lt_of_pos x.toInt (show (0 : Int) < b by omega)
  unfold rM
  omega
theorem nI64 {b : Nat} (hb : b < 2 ^ 31) : (nI b).toInt64.toInt = b := by rw [Int32.toInt_toInt64, nI_toInt hb]
theorem mRest_at {x : Int64} {b : Nat} (h0 : 2 ≤ b) (h1 : b ≤ 8) : mRest x b = nI (rM x b) := by
  have hB : (nI b).toInt64.toInt = b := nI64 (by omega)
  have e1 : (lrem x (nI b).toInt64).toInt = x.toInt.tmod b := by rw [lrem_toInt (by omega), hB]
  have hr1 := Int.tmod_lt_of_pos x.toInt (show (0 : Int) < b by omega)
  have hr2 := Int.lt_tmod_of_pos x.toInt (show (0 : Int) < b by omega)
  have e2 : (lrem x (nI b).toInt64 + (nI b).toInt64).toInt = x.toInt.tmod b + b := by
    rw [Int64.toInt_add, e1, hB, Int.bmod_eq_of_le] <;> omega
  have e3 : (lrem (lrem x (nI b).toInt64 + (nI b).toInt64) (nI b).toInt64).toInt = x.toInt % b := by
    rw [lrem_toInt (by omega), e2, hB, Int.tmod_eq_emod_of_nonneg (by omega), Int.add_emod_right]
    have h5 := Int.mul_tdiv_add_tmod x.toInt b
    have h6 : x.toInt % b = (x.toInt.tmod b + b * x.toInt.tdiv b) % b := by rw [Int.add_comm, h5]
    rw [h6, Int.add_mul_emod_self_left]
  have h7 := Int.emod_nonneg x.toInt (show (b : Int) ≠ 0 by omega)
  have h8 := Int.emod_lt_of_pos x.toInt (show (0 : Int) < b by omega)
  apply Int32.toInt_inj.mp
  unfold mRest
  rw [Int64.toInt_toInt32, e3, nI_toInt (by have := rM_lt (x := x) (b := b) (by omega); omega), Int.bmod_eq_of_le (by omega) (by omega)]
  unfold rM
  omega
def rDig (c k : Nat) : Nat := c / 8 ^ k % 8
theorem rDig_lt (c k : Nat) : rDig c k < 8 := Nat.mod_lt _ (by omega)
def mSumD (c : Nat) : Nat → Nat
  | 0 => 0
  | k + 1 => mSumD c k + rDig c k
theorem mSumD_le (c : Nat) : ∀ k, mSumD c k ≤ 7 * k
  | 0 => Nat.le_refl 0
  | k + 1 => by
    have h1 := mSumD_le c k
    have h2 := rDig_lt c k
    simp only [mSumD]
    omega
theorem rDig_le : ∀ (k : Nat) (c : Nat), rDig c k * 8 ^ k ≤ c := fun k c => Nat.le_trans (Nat.mul_le_mul_right _ (Nat.mod_le _ _)) (Nat.div_mul_le_self _ _)
def rNr (b c k : Nat) : Nat := ((2 * ((mSumD c 4 : Int) - rDig c k) - rDig c k) % (b : Int)).toNat
theorem rNr_lt {b c k : Nat} (hb : 0 < b) : rNr b c k < b := by
  have h1 := Int.emod_nonneg (2 * ((mSumD c 4 : Int) - rDig c k) - rDig c k) (show (b : Int) ≠ 0 by omega)
  have h2 := Int.emod_lt_of_pos (2 * ((mSumD c 4 : Int) - rDig c k) - rDig c k) (show (0 : Int) < b by omega)
  unfold rNr
  omega
def rNx (b c k : Nat) : Nat := c + rNr b c k * 8 ^ k - rDig c k * 8 ^ k
theorem rNx_lt {b c k : Nat} (hb : 0 < b) (hb8 : b ≤ 8) (hc : c < 4096) (hk : k < 4) : rNx b c k < 4096 := by
  have h1 := rNr_lt (b := b) (c := c) (k := k) hb
  unfold rNx rDig
  generalize rNr b c k = r at h1 ⊢
  match k, hk with
  | 0, _ => omega
  | 1, _ => omega
  | 2, _ => omega
  | 3, _ => omega
theorem rSh : ∀ r, r < 8 → ∀ d, d < 8 → ∀ k, k < 4 → (nI r - nI d) <<< (nI (3 * k) &&& 31) = nI (r * 8 ^ k) - nI (d * 8 ^ k) := by decide +kernel
theorem rNr_at {b c k : Nat} (h0 : 2 ≤ b) (h1 : b ≤ 8) (hk : k < 4) : mRest (2 * (nI (mSumD c 4) - nI (rDig c k)).toInt64 - (nI (rDig c k)).toInt64) b = nI (rNr b c k) := by
  rw [mRest_at h0 h1]
  have h2 := mSumD_le c 4
  have h3 := rDig_lt c k
  have e0 : (nI (mSumD c 4) - nI (rDig c k)).toInt = (mSumD c 4 : Int) - rDig c k := pk_sub_toInt (by omega) (by omega)
  have e1 : (2 * (nI (mSumD c 4) - nI (rDig c k)).toInt64).toInt = 2 * ((mSumD c 4 : Int) - rDig c k) := by
    rw [Int64.toInt_mul, Int32.toInt_toInt64, e0, show (2 : Int64).toInt = 2 from rfl, Int.bmod_eq_of_le] <;> omega
  have e2 : (2 * (nI (mSumD c 4) - nI (rDig c k)).toInt64 - (nI (rDig c k)).toInt64).toInt = 2 * ((mSumD c 4 : Int) - rDig c k) - rDig c k := by
    rw [Int64.toInt_sub, e1, nI64 (by omega), Int.bmod_eq_of_le] <;> omega
  unfold rM rNr
  rw [e2]
theorem rNx_at {b c k : Nat} (hb : 0 < b) (hb8 : b ≤ 8) (hk : k < 4) : nI c + (nI (rNr b c k) - nI (rDig c k)) <<< (nI (3 * k) &&& 31) = nI (rNx b c k) := by
  have h1 := rNr_lt (b := b) (c := c) (k := k) hb
  have h2 := rDig_le k c
  rw [rSh _ (by omega) _ (rDig_lt c k) _ hk, Int32.sub_eq_add_neg, ← Int32.add_assoc, nI_add, ← Int32.sub_eq_add_neg, pk_sub (by omega)]
  rfl
theorem k_sh3 : ∀ k, k < 4 → ((nI (3 * k) &&& 31).toBitVec.smod 32).toNat = 3 * k := by decide
theorem rDig_at {c k : Nat} (hc : c < 4096) (hk : k < 4) : (nI c >>> (nI (3 * k) &&& 31)) &&& nI 7 = nI (rDig c k) := by
  rw [pk_shrN (by omega) _ (3 * k) (k_sh3 k hk), pk_andN (m := nI 7) (Nat.lt_of_le_of_lt (Nat.div_le_self _ _) (by omega)) 3 (by decide)]
  unfold rDig
  rw [Nat.pow_mul]
def rClr (F : Nat → Int32) : Nat → Nat → Int32
  | 0 => F
  | k + 1 => upd (rClr F k) k (nI 0)
theorem rClr_lt (F : Nat → Int32) : ∀ n k, k < n → rClr F n k = nI 0
  | 0, k, h => absurd h (Nat.not_lt_zero _)
  | n + 1, k, h => by
    simp only [rClr, upd]
    split
    · rfl
    · exact rClr_lt F n k (by omega)
def rCode (g : Nat → Int64) (t b : Nat) : Nat → Nat
  | 0 => 0
  | k + 1 => 8 * rCode g t b k + rM (g (4 * t + k)) b
theorem rCode_lt (g : Nat → Int64) (t b : Nat) (hb : 0 < b) (hb8 : b ≤ 8) : ∀ k, rCode g t b k < 8 ^ k
  | 0 => by simp [rCode]
  | k + 1 => by
    have h1 := rCode_lt g t b hb hb8 k
    have h2 := rM_lt (x := g (4 * t + k)) hb
    have h3 : 8 ^ (k + 1) = 8 * 8 ^ k := by rw [Nat.pow_succ, Nat.mul_comm]
    simp only [rCode]
    omega
/-- what the turns at the k first places bring of the code c, noted behind L -/
def rRow (b : Nat) (L : List Nat) (c : Nat) : Nat → List Nat
  | 0 => L
  | k + 1 => if rNx b c k ∈ rRow b L c k then rRow b L c k else rRow b L c k ++ [rNx b c k]
/-- the codes noted when n of them have been gone through -/
def rQ (b c : Nat) : Nat → List Nat
  | 0 => [c]
  | n + 1 => match (rQ b c n)[n]? with
    | some x => rRow b (rQ b c n) x 4
    | none => rQ b c n
def rO (S : Int32) (c : Nat) : Nat → Int32
  | 0 => S
  | k + 1 => rO S c k ||| nI 1 <<< (nI (rDig c k) &&& 31)
def rS (b c : Nat) : Nat → Int32
  | 0 => nI 0
  | n + 1 => match (rQ b c n)[n]? with
    | some x => rO (rS b c n) x 4
    | none => rS b c n
theorem nodup_len : ∀ (N : Nat) (l : List Nat), l.Nodup → (∀ x ∈ l, x < N) → l.length ≤ N
  | 0, l, _, h => by
    cases l with
    | nil => exact Nat.le_refl 0
    | cons a l => exact absurd (h a List.mem_cons_self) (Nat.not_lt_zero _)
  | N + 1, l, hn, h => by
    by_cases hm : N ∈ l
    · obtain ⟨s, t, e⟩ := List.append_of_mem hm
      subst e
      have hn2 := List.nodup_append.mp hn
      have hn3 := List.nodup_cons.mp hn2.2.1
      have h1 := nodup_len N (s ++ t) (List.nodup_append.mpr ⟨hn2.1, hn3.2, fun a ha b hb => hn2.2.2 a ha b (List.mem_cons_of_mem _ hb)⟩) (fun x hx => by
        have hx1 : x < N + 1 := h x (by
          rcases List.mem_append.mp hx with q | q
          · exact List.mem_append_left _ q
          · exact List.mem_append_right _ (List.mem_cons_of_mem _ q))
        have hx2 : x ≠ N := by
          rcases List.mem_append.mp hx with q | q
          · exact hn2.2.2 x q N List.mem_cons_self
          · exact fun z => hn3.1 (z ▸ q)
        omega)
      simp only [List.length_append, List.length_cons] at h1 ⊢
      omega
    · have := nodup_len N l hn (fun x hx => by
        have h1 := h x hx
        have h2 : x ≠ N := fun z => hm (z ▸ hx)
        omega)
      omega
/-- what is said of the queue and of the marks -/
def rOk (L : List Nat) (QU SN : Nat → Int32) : Prop := L.Nodup ∧ (∀ c ∈ L, c < 4096) ∧ (∀ i c, L[i]? = some c → QU i = nI c) ∧ ∀ x, x < 4096 → SN x = kbI (x ∈ L)
theorem rOk.len {L : List Nat} {QU SN : Nat → Int32} (h : rOk L QU SN) : L.length ≤ 4096 := nodup_len 4096 L h.1 h.2.1
theorem rOk.add {L : List Nat} {QU SN : Nat → Int32} (h : rOk L QU SN) {x : Nat} (hx : x < 4096) (hm : ¬ x ∈ L) : L.length < 4096 ∧ rOk (L ++ [x]) (upd QU L.length (nI x)) (upd SN x (nI 1)) := by
  have hn : (L ++ [x]).Nodup := List.nodup_append.mpr ⟨h.1, by simp, fun a ha b hb => by rw [List.mem_singleton.mp hb]; exact fun z => hm (z ▸ ha)⟩
  have hl : ∀ c ∈ L ++ [x], c < 4096 := fun c hc => by
    rcases List.mem_append.mp hc with q | q
    · exact h.2.1 c q
    · rw [List.mem_singleton.mp q]; exact hx
  refine ⟨?_, hn, hl, fun i c hi => ?_, fun y hy => ?_⟩
  · have := nodup_len 4096 _ hn hl
    simp only [List.length_append, List.length_singleton] at this
    omega
  · by_cases q : i = L.length
    · subst q
      rw [List.getElem?_append_right (Nat.le_refl _), Nat.sub_self] at hi
      cases hi
      simp [upd]
    · have hlt : i < L.length := by
        have := (List.getElem?_eq_some_iff.mp hi).1
        simp only [List.length_append, List.length_singleton] at this
        omega
      rw [List.getElem?_append_left hlt] at hi
      simp only [upd, if_neg q]
      exact h.2.2.1 i c hi
  · by_cases q : y = x
    · subst q
      simp only [upd, if_true]
      exact kbI_tN (List.mem_append_right _ List.mem_cons_self)
    · simp only [upd, if_neg q]
      rw [h.2.2.2 y hy]
      exact kbI_c ⟨fun z => List.mem_append_left _ z, fun z => (List.mem_append.mp z).elim id (fun z => absurd (List.mem_singleton.mp z) q)⟩
theorem rRow_at {b c : Nat} {L : List Nat} {i x : Nat} (h : L[i]? = some x) : ∀ k, (rRow b L c k)[i]? = some x
  | 0 => h
  | k + 1 => by
    have := rRow_at (b := b) (c := c) h k
    simp only [rRow]
    split
    · exact this
    · rw [List.getElem?_append_left (List.getElem?_eq_some_iff.mp this).1]; exact this
theorem rRow_len {b c : Nat} {L : List Nat} : ∀ k, L.length ≤ (rRow b L c k).length
  | 0 => Nat.le_refl _
  | k + 1 => by
    have := rRow_len (b := b) (c := c) (L := L) k
    simp only [rRow]
    split
    · exact this
    · simp only [List.length_append, List.length_singleton]; omega
