/-! Bareiss' steps in 64 bits are those of whole numbers: the class's determinant is the determinant -/
theorem z_mul {a b : Int64} (h1 : -(2 ^ 63) ≤ a.toInt * b.toInt) (h2 : a.toInt * b.toInt < 2 ^ 63) : (a * b).toInt = a.toInt * b.toInt := by
  rw [Int64.toInt_mul, Int.bmod_eq_of_le] <;> omega
theorem z_sub {a b : Int64} (h1 : -(2 ^ 63) ≤ a.toInt - b.toInt) (h2 : a.toInt - b.toInt < 2 ^ 63) : (a - b).toInt = a.toInt - b.toInt := by
  rw [Int64.toInt_sub, Int.bmod_eq_of_le] <;> omega
theorem z_add {a b : Int64} (h1 : -(2 ^ 63) ≤ a.toInt + b.toInt) (h2 : a.toInt + b.toInt < 2 ^ 63) : (a + b).toInt = a.toInt + b.toInt := by
  rw [Int64.toInt_add, Int.bmod_eq_of_le] <;> omega
theorem z_divx {a b : Int64} {x : Int} (hb : b.toInt ≠ 0) (h : a.toInt = b.toInt * x) (h1 : -(2 ^ 63) ≤ x) (h2 : x < 2 ^ 63) : (a / b).toInt = x := by
  rw [Int64.toInt_div, h, Int.mul_tdiv_cancel_left _ hb, Int.bmod_eq_of_le] <;> omega
theorem z_0 {a : Int64} : a.toInt = 0 ↔ a = 0 := ⟨fun h => Int64.toInt_inj.mp (by rw [h]; rfl), fun h => by rw [h]; rfl⟩
theorem bz_step {x y u v d : Int64} {B : Nat} {q : Int} (hx : x.toInt.natAbs ≤ B) (hy : y.toInt.natAbs ≤ B) (hu : u.toInt.natAbs ≤ B) (hv : v.toInt.natAbs ≤ B) (hB : B * B ≤ 2 ^ 61) (hd : d.toInt ≠ 0) (hq : x.toInt * y.toInt - u.toInt * v.toInt = d.toInt * q) (hqB : q.natAbs ≤ B) : ((x * y - u * v) / d).toInt = q := by
  have h1 : (x.toInt * y.toInt).natAbs ≤ B * B := by rw [Int.natAbs_mul]; exact Nat.mul_le_mul hx hy
  have h2 : (u.toInt * v.toInt).natAbs ≤ B * B := by rw [Int.natAbs_mul]; exact Nat.mul_le_mul hu hv
  have h3 : B ≤ B * B := Nat.le_mul_self B
  have e1 : (x * y).toInt = x.toInt * y.toInt := z_mul (by omega) (by omega)
  have e2 : (u * v).toInt = u.toInt * v.toInt := z_mul (by omega) (by omega)
  have e3 : (x * y - u * v).toInt = x.toInt * y.toInt - u.toInt * v.toInt := by rw [z_sub, e1, e2] <;> omega
  exact z_divx hd (e3.trans hq) (by omega) (by omega)
def zInj (n : Nat) (z : Nat → Nat) : Prop := ∀ a b, a < n → b < n → z a = z b → a = b
theorem mxRi_off (z : Nat → Nat) (d : Int64) (st i : Nat) (M : Nat → Nat → Int64) {b : Nat} (hb : b ≠ z i) : ∀ k, mxRi z d st i k M b = M b
  | 0 => rfl
  | k + 1 => by
    show mxSet _ (z i) _ b = M b
    rw [mxSet, if_neg hb]
    exact mxRi_off z d st i M hb k
theorem mxRi_at (z : Nat → Nat) (d : Int64) (st i : Nat) (M : Nat → Nat → Int64) (hs : z st ≠ z i) : ∀ k j, mxRi z d st i k M (z i) j = if st < j ∧ j < st + 1 + k then (M (z i) j * M (z st) st - M (z i) st * M (z st) j) / d else M (z i) j
  | 0, j => by rw [if_neg (by omega)]; rfl
  | k + 1, j => by
    show mxSet (mxRi z d st i k M) (z i) _ (z i) j = _
    rw [mxSet, if_pos rfl]
    simp only [vp_updL]
    by_cases hj : j = st + 1 + k
    · subst hj
      rw [if_pos rfl, if_pos (by omega), mxRi_off z d st i M hs, mxRi_at z d st i M hs k, mxRi_at z d st i M hs k, if_neg (by omega), if_neg (by omega)]
    · rw [if_neg hj, mxRi_at z d st i M hs k]
      by_cases h2 : st < j ∧ j < st + 1 + k
      · rw [if_pos h2, if_pos (by omega)]
      · rw [if_neg h2, if_neg (by omega)]
theorem mxRo_at {n : Nat} (z : Nat → Nat) (d : Int64) (st w : Nat) (M : Nat → Nat → Int64) (hz : zInj n z) (hst : st < n) {i : Nat} (hi : i < n) : ∀ k j, st + 1 + k ≤ n → mxRo z d st w k M (z i) j = if st < i ∧ i < st + 1 + k then (if st < j ∧ j < st + 1 + w then (M (z i) j * M (z st) st - M (z i) st * M (z st) j) / d else M (z i) j) else M (z i) j
  | 0, j, _ => by rw [if_neg (by omega)]; rfl
  | k + 1, j, hk => by
    have hs : ∀ a, st < a → a < n → z st ≠ z a := fun a h1 h2 h => by have := hz _ _ hst h2 h; omega
    show mxRi z d st (st + 1 + k) w (mxRo z d st w k M) (z i) j = _
    have hrow : mxRo z d st w k M (z st) = M (z st) := by
      funext c; rw [mxRo_at z d st w M hz hst hst k c (by omega), if_neg (by omega)]
    by_cases hik : i = st + 1 + k
    · subst hik
      have hrow2 : mxRo z d st w k M (z (st + 1 + k)) = M (z (st + 1 + k)) := by
        funext c; rw [mxRo_at z d st w M hz hst hi k c (by omega), if_neg (by omega)]
      rw [mxRi_at z d st _ _ (hs _ (by omega) hi), hrow, hrow2, if_pos (show st < st + 1 + k ∧ st + 1 + k < st + 1 + (k + 1) by omega)]
    · rw [mxRi_off z d st _ _ (fun h => hik (hz _ _ hi (by omega) h)), mxRo_at z d st w M hz hst hi k j (by omega)]
      by_cases h2 : st < i ∧ i < st + 1 + k
      · rw [if_pos h2, if_pos (show st < i ∧ i < st + 1 + (k + 1) by omega)]
      · rw [if_neg h2, if_neg (show ¬ (st < i ∧ i < st + 1 + (k + 1)) by omega)]
theorem mxRed_at {n : Nat} {z : Nat → Nat} {d : Int64} {st : Nat} {M : Nat → Nat → Int64} (hd : ¬ d = 0) (hz : zInj n z) (hst : st < n) {i : Nat} (hi : i < n) {j : Nat} (hj : j < n) : mxRed z d st n M (z i) j = if st < i ∧ st < j then (M (z i) j * M (z st) st - M (z i) st * M (z st) j) / d else M (z i) j := by
  rw [mxRed, if_neg hd, mxRo_at z d st _ M hz hst hi _ _ (by omega)]
  by_cases h1 : st < i
  · rw [if_pos (show st < i ∧ i < st + 1 + (n - (st + 1)) by omega)]
    by_cases h2 : st < j
    · rw [if_pos (show st < j ∧ j < st + 1 + (n - (st + 1)) by omega), if_pos ⟨h1, h2⟩]
    · rw [if_neg (by omega), if_neg (by omega)]
  · rw [if_neg (by omega), if_neg (by omega)]
theorem mxPv_z (N : Nat → Nat → Int64) (st : Nat) : ∀ m k, k + m < 2 ^ 31 → mxPv N st m k = -1 → ∀ i, k ≤ i → i < k + m → N i st = 0
  | 0, k, _, _, i, h1, h2 => by omega
  | m + 1, k, hk, h, i, h1, h2 => by
    by_cases q : N k st = 0
    · have e : mxPv N st (m + 1) k = mxPv N st m (k + 1) := if_pos q
      rw [e] at h
      by_cases hi : i = k
      · rw [hi]; exact q
      · exact mxPv_z N st m (k + 1) (by omega) h i (by omega) (by omega)
    · have e : mxPv N st (m + 1) k = nI k := if_neg q
      rw [e] at h
      exact absurd h (nI_ne1 (by omega))
theorem mxPv_nz (N : Nat → Nat → Int64) (st : Nat) : ∀ m k, k + m < 2 ^ 31 → ∀ t, t < 2 ^ 31 → mxPv N st m k = nI t → ¬ N t st = 0 ∧ k ≤ t ∧ t < k + m
  | 0, k, _, t, ht, h => absurd h.symm (nI_ne1 ht)
  | m + 1, k, hk, t, ht, h => by
    by_cases q : N k st = 0
    · have e : mxPv N st (m + 1) k = mxPv N st m (k + 1) := if_pos q
      rw [e] at h
      obtain ⟨a, b, c⟩ := mxPv_nz N st m (k + 1) (by omega) t ht h
      exact ⟨a, by omega, by omega⟩
    · have e : mxPv N st (m + 1) k = nI k := if_neg q
      rw [e] at h
      have := (nI_eq (by omega) ht).mp h
      subst this
      exact ⟨q, by omega, by omega⟩
/-- what holds ahead of the step k -/
def bzI (n : Nat) (A0 : Nat → Nat → Int) (k : Nat) (z : Nat → Nat) (M : Nat → Nat → Int64) (pb sg : Int64) : Prop :=
  ∃ ρ : Nat → Nat, (∀ a, a < n → ρ a < n) ∧ pb.toInt = dDet k (fun a b => A0 (ρ a) b) ∧ pb.toInt ≠ 0 ∧ (sg.toInt = 1 ∨ sg.toInt = -1) ∧ sg.toInt * dDet n (fun a b => A0 (ρ a) b) = dDet n A0 ∧
  ∀ (m : Nat) (r c : Nat → Nat), (∀ a, a < m + 1 → k ≤ r a ∧ r a < n) → (∀ a, a < m + 1 → k ≤ c a ∧ c a < n) → dDet (m + 1) (fun a b => (M (z (r a)) (c b)).toInt) = pb.toInt ^ m * dDet (k + (m + 1)) (fun a b => A0 (if a < k then ρ a else ρ (r (a - k))) (if b < k then b else c (b - k)))
theorem bzI_start (n : Nat) (z : Nat → Nat) (M : Nat → Nat → Int64) : bzI n (fun i j => (M (z i) j).toInt) 0 z M 1 1 := by
  refine ⟨fun a => a, fun a h => h, rfl, by decide, Or.inl rfl, ?_, fun m r c hr hc => ?_⟩
  · rw [show (1 : Int64).toInt = 1 from rfl, Int.one_mul]
  · rw [show (1 : Int64).toInt = 1 from rfl, Int.one_pow, Int.one_mul, Nat.zero_add]
    refine dDet_c fun i j hi hj => ?_
    rw [if_neg (by omega), if_neg (by omega), Nat.sub_zero, Nat.sub_zero]
theorem dDet_1 (A : Nat → Nat → Int) : dDet 1 A = A 0 0 := by simp [dDet, dSum, dSgn]
theorem dDet_2 (A : Nat → Nat → Int) : dDet 2 A = A 0 0 * A 1 1 - A 1 0 * A 0 1 := by
  simp [dDet, dSum, dSgn, dMin, dSkip]; grind
section Bz
variable {n : Nat} {A0 : Nat → Nat → Int} {k : Nat} {z : Nat → Nat} {M : Nat → Nat → Int64} {pb sg : Int64}
theorem dBd_mono : ∀ i, i ≤ 5 → dBd 10 i ≤ 12000000 := by decide
theorem bz_bd (hA : ∀ i j, i < n → j < n → (A0 i j).natAbs ≤ 10) (hn : n ≤ 5) {m : Nat} (hm : m ≤ n) {r c : Nat → Nat} (hr : ∀ a, a < m → r a < n) (hc : ∀ a, a < m → c a < n) : (dDet m (fun a b => A0 (r a) (c b))).natAbs ≤ 12000000 :=
  Nat.le_trans (dDet_bd 10 m _ fun i j hi hj => hA _ _ (hr i hi) (hc j hj)) (dBd_mono m (by omega))
/-- each number is a determinant of the first table's -/
theorem bz_at {ρ : Nat → Nat} (H : ∀ (m : Nat) (r c : Nat → Nat), (∀ a, a < m + 1 → k ≤ r a ∧ r a < n) → (∀ a, a < m + 1 → k ≤ c a ∧ c a < n) → dDet (m + 1) (fun a b => (M (z (r a)) (c b)).toInt) = pb.toInt ^ m * dDet (k + (m + 1)) (fun a b => A0 (if a < k then ρ a else ρ (r (a - k))) (if b < k then b else c (b - k)))) {i j : Nat} (hi : k ≤ i) (hi2 : i < n) (hj : k ≤ j) (hj2 : j < n) : (M (z i) j).toInt = dDet (k + 1) (fun a b => A0 (if a < k then ρ a else ρ i) (if b < k then b else j)) := by
  have h := H 0 (fun _ => i) (fun _ => j) (fun _ _ => ⟨hi, hi2⟩) (fun _ _ => ⟨hj, hj2⟩)
  rw [dDet_1] at h
  rw [h, Int.pow_zero, Int.one_mul]
/-- behind a step -/
theorem bz_next (hA : ∀ i j, i < n → j < n → (A0 i j).natAbs ≤ 10) (hn : n ≤ 5) (hz : zInj n z) (hk : k < n) (h : bzI n A0 k z M pb sg) (hp : ¬ M (z k) k = 0) : bzI n A0 (k + 1) z (mxRed z pb k n M) (mxRed z pb k n M (z k) k) sg := by
  obtain ⟨ρ, hρ, h1, h2, h3, h4, H⟩ := h
  have hpb : ¬ pb = 0 := fun q => h2 (z_0.mpr q)
  have hpv : mxRed z pb k n M (z k) k = M (z k) k := by rw [mxRed_at hpb hz hk hk hk, if_neg (by omega)]
  have at1 := fun {i j : Nat} (a : k ≤ i) (b : i < n) (c : k ≤ j) (d : j < n) => bz_at H a b c d
  have bd1 : ∀ i j, k ≤ i → i < n → k ≤ j → j < n → ((M (z i) j).toInt).natAbs ≤ 12000000 := fun i j a b c d => by
    rw [at1 a b c d]
    exact bz_bd hA hn (m := k + 1) (by omega) (r := fun a => if a < k then ρ a else ρ i) (c := fun b => if b < k then b else j) (fun a ha => by split; exact hρ _ (by omega); exact hρ _ b) (fun a ha => by split <;> omega)
  -- the new numbers
  have new : ∀ i j, k < i → i < n → k < j → j < n → pb.toInt * (mxRed z pb k n M (z i) j).toInt = (M (z i) j).toInt * (M (z k) k).toInt - (M (z i) k).toInt * (M (z k) j).toInt := fun i j a b c d => by
    have e1 := H 1 (fun x => if x = 0 then k else i) (fun x => if x = 0 then k else j) (fun x _ => by split <;> omega) (fun x _ => by split <;> omega)
    rw [dDet_2] at e1
    simp only [if_pos, Nat.one_ne_zero, if_false, Int.pow_one] at e1
    have e2 := bz_bd hA hn (m := k + (1 + 1)) (by omega) (r := fun a => if a < k then ρ a else ρ (if a - k = 0 then k else i)) (c := fun b => if b < k then b else if b - k = 0 then k else j) (fun a ha => by split; exact hρ _ (by omega); exact hρ _ (by split <;> omega)) (fun a ha => by split; omega; split <;> omega)
    have e3 := bz_step (x := M (z i) j) (y := M (z k) k) (u := M (z i) k) (v := M (z k) j) (d := pb) (bd1 i j (by omega) b (by omega) d) (bd1 k k (by omega) hk (by omega) hk) (bd1 i k (by omega) b (by omega) hk) (bd1 k j (by omega) hk (by omega) d) (by decide) h2 (by rw [← e1]; grind) e2
    rw [mxRed_at hpb hz hk b d, if_pos ⟨a, c⟩, e3, ← e1]
    grind
  refine ⟨ρ, hρ, ?_, ?_, h3, h4, fun m r c hr hc => ?_⟩
  · rw [hpv, at1 (Nat.le_refl k) hk (Nat.le_refl k) hk]
    refine dDet_c fun i j hi hj => ?_
    congr 1
    · split
      · rfl
      · rw [show i = k by omega]
    · split <;> omega
  · rw [hpv]; exact fun q => hp (z_0.mp q)
  · rw [hpv]
    have e1 := H (m + 1) (fun a => if a = 0 then k else r (a - 1)) (fun a => if a = 0 then k else c (a - 1)) (fun a ha => by split; exact ⟨Nat.le_refl _, hk⟩; have := hr (a - 1) (by omega); omega) (fun a ha => by split; exact ⟨Nat.le_refl _, hk⟩; have := hc (a - 1) (by omega); omega)
    have e2 := dDet_chio (m + 1) (fun a b => (M (z (if a = 0 then k else r (a - 1))) (if b = 0 then k else c (b - 1))).toInt)
    simp only [if_pos, Nat.add_one_ne_zero, if_false, Nat.add_sub_cancel] at e2
    rw [e1] at e2
    have e3 : dDet (m + 1) (fun i j => (M (z (r i)) (c j)).toInt * (M (z k) k).toInt - (M (z (r i)) k).toInt * (M (z k) (c j)).toInt) = pb.toInt ^ (m + 1) * dDet (m + 1) (fun a b => (mxRed z pb k n M (z (r a)) (c b)).toInt) := by
      rw [← dDet_scale]
      refine dDet_c fun i j hi hj => ?_
      have a1 := hr i hi
      have a2 := hc j hj
      exact (new _ _ (by omega) (by omega) (by omega) (by omega)).symm
    rw [e3] at e2
    have e4 : dDet (k + (m + 1 + 1)) (fun a b => A0 (if a < k then ρ a else ρ (if a - k = 0 then k else r (a - k - 1))) (if b < k then b else if b - k = 0 then k else c (b - k - 1))) = dDet (k + 1 + (m + 1)) (fun a b => A0 (if a < k + 1 then ρ a else ρ (r (a - (k + 1)))) (if b < k + 1 then b else c (b - (k + 1)))) := by
      rw [show k + (m + 1 + 1) = k + 1 + (m + 1) by omega]
      refine dDet_c fun i j hi hj => ?_
      congr 1
      · by_cases q : i < k
        · rw [if_pos q, if_pos (by omega)]
        · by_cases q2 : i = k
          · subst q2; rw [if_neg q, if_pos (by omega), if_pos (by omega)]
          · rw [if_neg q, if_neg (by omega), if_neg (by omega), show i - k - 1 = i - (k + 1) by omega]
      · by_cases q : j < k
        · rw [if_pos q, if_pos (by omega)]
        · by_cases q2 : j = k
          · subst q2; rw [if_neg q, if_pos (by omega), if_pos (by omega)]
          · rw [if_neg q, if_neg (by omega), if_neg (by omega), show j - k - 1 = j - (k + 1) by omega]
    rw [e4] at e2
    have hp0 : (M (z k) k).toInt ≠ 0 := fun q => hp (z_0.mp q)
    generalize dDet (k + 1 + (m + 1)) _ = X at e2 ⊢
    generalize dDet (m + 1) (fun a b => (mxRed z pb k n M (z (r a)) (c b)).toInt) = Y at e2 ⊢
    generalize (M (z k) k).toInt = p at e2 hp0 ⊢
    have hq : pb.toInt ^ (m + 1) ≠ 0 := Int.pow_ne_zero h2
    generalize pb.toInt ^ (m + 1) = q at e2 hq
    have e5 : (p * q) * Y = (p * q) * (p ^ m * X) := by
      rw [Int.pow_succ] at e2; grind
    exact Int.eq_of_mul_eq_mul_left (Int.mul_ne_zero hp0 hq) e5
/-- rows change places -/
theorem bz_swap {t : Nat} (hk : k < n) (ht : t < n) (hkt : k < t) (h : bzI n A0 k z M pb sg) : bzI n A0 k (mxSwap z t k) M pb (-sg) := by
  obtain ⟨ρ, hρ, h1, h2, h3, h4, H⟩ := h
  have hs : ∀ i, mxSwap z t k i = z (if i = k then t else if i = t then k else i) := fun i => by
    show (if i = k then z t else if i = t then z k else z i) = _
    split
    · rfl
    · split <;> rfl
  refine ⟨fun i => ρ (if i = k then t else if i = t then k else i), fun a ha => ?_, ?_, h2, ?_, ?_, fun m r c hr hc => ?_⟩
  · simp only []
    split
    · exact hρ _ ht
    · split
      · exact hρ _ hk
      · exact hρ _ ha
  · rw [h1]
    refine dDet_c fun i j hi hj => ?_
    show A0 (ρ i) j = A0 (ρ (if i = k then t else if i = t then k else i)) j
    rw [if_neg (by omega), if_neg (by omega)]
  · rcases h3 with q | q
    · right; rw [Int64.toInt_neg, q]; rfl
    · left; rw [Int64.toInt_neg, q]; rfl
  · have e : dDet n (fun a b => A0 (ρ (if a = k then t else if a = t then k else a)) b) = -dDet n (fun a b => A0 (ρ a) b) := by
      rw [← (dDet_alt n).sw hk ht (by omega)]
      congr 1
      funext i j
      simp only [dSw, dRow]
      by_cases q1 : i = t
      · subst q1; rw [if_neg (by omega), if_pos rfl, if_pos rfl]
      · by_cases q2 : i = k
        · subst q2; rw [if_pos rfl, if_neg q1, if_pos rfl]
        · rw [if_neg q2, if_neg q1, if_neg q1, if_neg q2]
    rw [e]
    rcases h3 with q | q
    · rw [Int64.toInt_neg, q]; rw [q] at h4; show (-1 : Int) * _ = _; omega
    · rw [Int64.toInt_neg, q]; rw [q] at h4; show (1 : Int) * _ = _; omega
  · have e := H m (fun a => if r a = k then t else if r a = t then k else r a) c (fun a ha => by have := hr a ha; split; omega; split <;> omega) hc
    simp only [hs]
    rw [e]
    congr 1
    refine dDet_c fun i j hi hj => ?_
    by_cases q : i < k
    · rw [if_pos q, if_pos q, if_neg (show ¬ i = k by omega), if_neg (show ¬ i = t by omega)]
    · rw [if_neg q, if_neg q]
theorem zInj_swap (hz : zInj n z) {t : Nat} (hk : k < n) (ht : t < n) : zInj n (mxSwap z t k) := by
  intro a b ha hb h
  have hs : ∀ i, mxSwap z t k i = z (if i = k then t else if i = t then k else i) := fun i => by
    show (if i = k then z t else if i = t then z k else z i) = _
    split
    · rfl
    · split <;> rfl
  rw [hs, hs] at h
  have := hz _ _ (by split; exact ht; split; exact hk; exact ha) (by split; exact ht; split; exact hk; exact hb) h
  split at this <;> split at this <;> (try split at this) <;> (try split at this) <;> omega
theorem bz_run (hA : ∀ i j, i < n → j < n → (A0 i j).natAbs ≤ 10) (hn : n ≤ 5) : ∀ (m k : Nat) (z : Nat → Nat) (M : Nat → Nat → Int64) (pb sg : Int64), m + k = n → zInj n z → bzI n A0 k z M pb sg → (mxD n m k z M pb sg).1.toInt = dDet n A0 ∧ zInj n (mxD n m k z M pb sg).2.1 := by
  intro m
  induction m with
  | zero =>
    intro k z M pb sg hk hz h
    obtain ⟨ρ, hρ, h1, h2, h3, h4, H⟩ := h
    have hkn : k = n := by omega
    subst hkn
    refine ⟨?_, hz⟩
    show (sg * pb).toInt = _
    have hb := bz_bd hA hn (m := k) (Nat.le_refl _) (r := ρ) (c := fun b => b) hρ (fun a h => h)
    rw [← h4, ← h1]
    rw [← h1] at hb
    rcases h3 with q | q
    · rw [z_mul, q] <;> rw [q] <;> omega
    · rw [z_mul, q] <;> rw [q] <;> omega
  | succ m ih =>
    intro k z M pb sg hk hz h
    by_cases q : mxPv (mxN z M) k (n - k) k = -1
    · rw [mxD_0 q]
      refine ⟨?_, hz⟩
      obtain ⟨ρ, hρ, h1, h2, h3, h4, H⟩ := h
      have hzero := mxPv_z (mxN z M) k (n - k) k (by omega) q
      have e := H m (fun a => k + a) (fun a => k + a) (fun a ha => by omega) (fun a ha => by omega)
      have e0 : dDet (m + 1) (fun a b => (M (z (k + a)) (k + b)).toInt) = 0 := by
        rw [dDet]
        refine dSum_0 fun i hi => ?_
        have := hzero (k + i) (by omega) (by omega)
        have e2 : (M (z (k + i)) (k + 0)).toInt = 0 := z_0.mpr this
        rw [e2]; simp
      rw [e0] at e
      have e1 : dDet (k + (m + 1)) (fun a b => A0 (if a < k then ρ a else ρ (k + (a - k))) (if b < k then b else k + (b - k))) = dDet n (fun a b => A0 (ρ a) b) := by
        rw [show k + (m + 1) = n by omega]
        refine dDet_c fun i j hi hj => ?_
        congr 1
        · split
          · rfl
          · rw [show k + (i - k) = i by omega]
        · split <;> omega
      rw [e1] at e
      have e2 : dDet n (fun a b => A0 (ρ a) b) = 0 := (Int.mul_eq_zero.mp e.symm).resolve_left (Int.pow_ne_zero h2)
      rw [e2, Int.mul_zero] at h4
      exact h4
    · obtain ⟨t, ht1, ht2, ht3⟩ := mxPv_in (mxN z M) k (n - k) k q
      obtain ⟨hnz, -, -⟩ := mxPv_nz (mxN z M) k (n - k) k (by omega) t (by omega) ht3
      by_cases htk : t = k
      · subst htk
        rw [mxD_e q ht3]
        exact ih (t + 1) z _ _ sg (by omega) hz (bz_next hA hn hz (by omega) h hnz)
      · rw [mxD_s q ht3 htk (by omega) (by omega)]
        have hz2 := zInj_swap (k := k) (t := t) hz (by omega) (by omega)
        refine ih (k + 1) _ _ _ (-sg) (by omega) hz2 (bz_next hA hn hz2 (by omega) (bz_swap (by omega) (by omega) (by omega) h) ?_)
        rw [show mxSwap z t k k = z t from if_pos rfl]
        exact hnz
end Bz
/-- the class's determinant -/
theorem mxDet_det {n : Nat} {z : Nat → Nat} {M : Nat → Nat → Int64} (hn : n ≤ 5) (hz : zInj n z) (hA : ∀ i j, i < n → j < n → ((M (z i) j).toInt).natAbs ≤ 10) : (mxDet n z M).1.toInt = dDet n (fun i j => (M (z i) j).toInt) ∧ zInj n (mxDet n z M).2.1 :=
  bz_run hA hn n 0 z M 1 1 (by omega) hz (bzI_start n z M)
