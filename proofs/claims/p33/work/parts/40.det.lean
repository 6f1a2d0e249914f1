/-! determinants of whole numbers, by the first column; rows and columns; Bareiss' steps -/
def dSgn (i : Nat) : Int := if i % 2 = 0 then 1 else -1
theorem dSgn_s (i : Nat) : dSgn (i + 1) = -dSgn i := by
  unfold dSgn; split <;> split <;> first | rfl | omega
theorem dSgn_q (i : Nat) : dSgn i * dSgn i = 1 := by
  unfold dSgn; split <;> rfl
theorem dSgn_a (i j : Nat) : dSgn (i + j) = dSgn i * dSgn j := by
  induction j with
  | zero => simp [dSgn]
  | succ j ih => rw [← Nat.add_assoc, dSgn_s, dSgn_s, ih]; grind
def dSum : Nat → (Nat → Int) → Int
  | 0, _ => 0
  | n + 1, f => dSum n f + f n
theorem dSum_c {n : Nat} {f g : Nat → Int} (h : ∀ i, i < n → f i = g i) : dSum n f = dSum n g := by
  induction n with
  | zero => rfl
  | succ n ih => rw [dSum, dSum, ih (fun i hi => h i (by omega)), h n (by omega)]
theorem dSum_lin (n : Nat) (f g : Nat → Int) (x y : Int) : dSum n (fun i => x * f i + y * g i) = x * dSum n f + y * dSum n g := by
  induction n with
  | zero => simp [dSum]
  | succ n ih => simp only [dSum]; rw [ih]; grind
theorem dSum_0 {n : Nat} {f : Nat → Int} (h : ∀ i, i < n → f i = 0) : dSum n f = 0 := by
  induction n with
  | zero => rfl
  | succ n ih => rw [dSum, ih (fun i hi => h i (by omega)), h n (by omega)]; rfl
theorem dSum_1 {n r : Nat} {f : Nat → Int} (hr : r < n) (h : ∀ i, i < n → i ≠ r → f i = 0) : dSum n f = f r := by
  induction n with
  | zero => omega
  | succ n ih =>
    rw [dSum]
    by_cases hn : n = r
    · subst hn; rw [dSum_0 (fun i hi => h i (by omega) (by omega))]; simp
    · rw [ih (by omega) (fun i hi => h i (by omega)), h n (by omega) hn]; simp
theorem dSum_2 {n r : Nat} {f : Nat → Int} (hr : r + 1 < n) (h : ∀ i, i < n → i ≠ r → i ≠ r + 1 → f i = 0) : dSum n f = f r + f (r + 1) := by
  induction n with
  | zero => omega
  | succ n ih =>
    rw [dSum]
    by_cases hn : n = r + 1
    · subst hn; rw [dSum_1 (r := r) (by omega) (fun i hi hr => h i (by omega) hr (by omega))]
    · rw [ih (by omega) (fun i hi => h i (by omega)), h n (by omega) (by omega) hn]; simp
theorem dSum_neg (n : Nat) (f : Nat → Int) : dSum n (fun i => -f i) = -dSum n f := by
  induction n with
  | zero => rfl
  | succ n ih => simp only [dSum]; rw [ih]; omega
theorem dSum_mul (n : Nat) (f : Nat → Int) (x : Int) : dSum n (fun i => x * f i) = x * dSum n f := by
  induction n with
  | zero => simp [dSum]
  | succ n ih => simp only [dSum]; rw [ih]; grind
theorem dSum_add (n : Nat) (f g : Nat → Int) : dSum n (fun i => f i + g i) = dSum n f + dSum n g := by
  induction n with
  | zero => rfl
  | succ n ih => simp only [dSum]; rw [ih]; omega
theorem dSum_swap (n m : Nat) (g : Nat → Nat → Int) : dSum n (fun i => dSum m (fun k => g i k)) = dSum m (fun k => dSum n (fun i => g i k)) := by
  induction n with
  | zero => rw [dSum_0 (n := m)]; rfl; intro i _; rfl
  | succ n ih => simp only [dSum]; rw [ih, ← dSum_add]
def dSkip (i k : Nat) : Nat := if k < i then k else k + 1
theorem dSkip_ne (i k : Nat) : dSkip i k ≠ i := by unfold dSkip; split <;> omega
theorem dSkip_lt {i k n : Nat} (h : k < n) : dSkip i k < n + 1 := by unfold dSkip; split <;> omega
theorem dSkip_inv {i r n : Nat} (h : ¬ i = r) (hi : i < n + 1) (hr : r < n + 1) : ∃ r', r' < n ∧ dSkip i r' = r ∧ ∀ k, dSkip i k = r → k = r' := by
  refine ⟨if r < i then r else r - 1, ?_, ?_, fun k hk => ?_⟩
  · split <;> omega
  · by_cases q : r < i
    · rw [if_pos q, dSkip, if_pos q]
    · rw [if_neg q, dSkip, if_neg (by omega)]; omega
  · unfold dSkip at hk; split at hk <;> split <;> omega
/-- a sum but for one place -/
theorem dSum_skip {n r : Nat} (f : Nat → Int) (hr : r < n + 1) : dSum (n + 1) f = f r + dSum n (fun k => f (dSkip r k)) := by
  induction n with
  | zero => have : r = 0 := by omega
            subst this; simp [dSum]
  | succ n ih =>
    by_cases h : r = n + 1
    · subst h
      rw [dSum, show dSum (n + 1) (fun k => f (dSkip (n + 1) k)) = dSum (n + 1) f from dSum_c fun i hi => by rw [dSkip, if_pos hi]]
      omega
    · rw [dSum, ih (by omega)]
      simp only [dSum]
      rw [show dSkip r n = n + 1 from if_neg (by omega)]
      omega
theorem dSum_pair (m : Nat) (g : Nat → Nat → Int) (h : ∀ i k, i ≤ k → k < m → g (k + 1) i = -g i k) : dSum (m + 1) (fun i => dSum m (fun k => g i k)) = 0 := by
  induction m with
  | zero => rfl
  | succ m ih =>
    have h1 := ih (fun i k hi hk => h i k hi (by omega))
    have h2 : dSum (m + 1) (fun i => dSum (m + 1) (fun k => g i k)) = dSum (m + 1) (fun i => dSum m (fun k => g i k)) + dSum (m + 1) (fun i => g i m) := by
      rw [← dSum_add]; rfl
    have h3 : dSum (m + 1) (fun k => g (m + 1) k) = -dSum (m + 1) (fun i => g i m) := by
      rw [← dSum_neg]
      exact dSum_c fun i hi => h i m (by omega) (by omega)
    rw [dSum, h2, h1, h3]
    omega
def dMin (A : Nat → Nat → Int) (i : Nat) : Nat → Nat → Int := fun r c => A (dSkip i r) (c + 1)
def dDet : Nat → (Nat → Nat → Int) → Int
  | 0, _ => 1
  | n + 1, A => dSum (n + 1) (fun i => dSgn i * A i 0 * dDet n (dMin A i))
theorem dDet_c {n : Nat} : ∀ {A B : Nat → Nat → Int}, (∀ i j, i < n → j < n → A i j = B i j) → dDet n A = dDet n B := by
  induction n with
  | zero => intro A B h; rfl
  | succ n ih =>
    intro A B h
    simp only [dDet]
    refine dSum_c fun i hi => ?_
    rw [h i 0 hi (by omega), ih (A := dMin A i) (B := dMin B i) (fun a b ha hb => h _ _ (dSkip_lt ha) (by omega))]
def dRow (A : Nat → Nat → Int) (r : Nat) (v : Nat → Int) : Nat → Nat → Int := fun i j => if i = r then v j else A i j
theorem dRow_s (A : Nat → Nat → Int) (r : Nat) (v : Nat → Int) : dRow A r v r = v := by funext j; simp [dRow]
theorem dRow_n (A : Nat → Nat → Int) {r i : Nat} (v : Nat → Int) (h : i ≠ r) : dRow A r v i = A i := by funext j; simp [dRow, h]
theorem dRow_id (A : Nat → Nat → Int) (r : Nat) : dRow A r (A r) = A := by
  funext i j
  by_cases h : i = r
  · subst h; rw [dRow_s]
  · rw [dRow_n _ _ h]
theorem dRow_rr (A : Nat → Nat → Int) (r : Nat) (u v : Nat → Int) : dRow (dRow A r u) r v = dRow A r v := by
  funext i j; simp only [dRow]; split <;> rfl
theorem dRow_comm (A : Nat → Nat → Int) {r s : Nat} (h : r ≠ s) (u v : Nat → Int) : dRow (dRow A r u) s v = dRow (dRow A s v) r u := by
  funext i j
  by_cases h1 : i = r
  · subst h1; rw [dRow_n _ _ h, dRow_s, dRow_s]
  · by_cases h2 : i = s
    · subst h2; rw [dRow_s, dRow_n _ _ h1, dRow_s]
    · rw [dRow_n _ _ h2, dRow_n _ _ h1, dRow_n _ _ h1, dRow_n _ _ h2]
/-- linear in each row, 0 where two neighbours are alike -/
def dAlt (n : Nat) (D : (Nat → Nat → Int) → Int) : Prop :=
  (∀ (A : Nat → Nat → Int) (r : Nat) (u v : Nat → Int) (x y : Int), r < n → D (dRow A r (fun j => x * u j + y * v j)) = x * D (dRow A r u) + y * D (dRow A r v)) ∧
  ∀ (A : Nat → Nat → Int) (r : Nat), r + 1 < n → (∀ j, A r j = A (r + 1) j) → D A = 0
theorem dDet_row : ∀ (n : Nat) (A : Nat → Nat → Int) (r : Nat) (u v : Nat → Int) (x y : Int), r < n → dDet n (dRow A r (fun j => x * u j + y * v j)) = x * dDet n (dRow A r u) + y * dDet n (dRow A r v) := by
  intro n
  induction n with
  | zero => intro A r u v x y h; omega
  | succ n ih =>
    intro A r u v x y h
    simp only [dDet]
    rw [← dSum_lin]
    refine dSum_c fun i hi => ?_
    by_cases hir : i = r
    · subst hir
      have e : ∀ w, dMin (dRow A i w) i = dMin A i := by
        intro w; funext a b; simp only [dMin]; rw [dRow_n _ _ (dSkip_ne i a)]
      rw [e, e, e, dRow_s, dRow_s, dRow_s]; grind
    · obtain ⟨r', hr', hs, hn⟩ := dSkip_inv hir hi h
      have e : ∀ w : Nat → Int, dMin (dRow A r w) i = dRow (dMin A i) r' (fun j => w (j + 1)) := by
        intro w; funext a b; simp only [dMin, dRow]
        by_cases ha : a = r'
        · subst ha; rw [if_pos hs, if_pos rfl]
        · rw [if_neg (fun z => ha (hn a z)), if_neg ha]
      have e1 : dDet n (dMin (dRow A r (fun j => x * u j + y * v j)) i) = x * dDet n (dMin (dRow A r u) i) + y * dDet n (dMin (dRow A r v) i) := by
        rw [e, e, e]; exact ih (dMin A i) r' (fun j => u (j + 1)) (fun j => v (j + 1)) x y hr'
      have e2 : ∀ w : Nat → Int, dRow A r w i 0 = A i 0 := fun w => if_neg hir
      rw [e2, e2, e2, e1]; grind
theorem dDet_adj : ∀ (n : Nat) (A : Nat → Nat → Int) (r : Nat), r + 1 < n → (∀ j, A r j = A (r + 1) j) → dDet n A = 0 := by
  intro n
  induction n with
  | zero => intro A r h; omega
  | succ n ih =>
    intro A r h hr
    simp only [dDet]
    rw [dSum_2 h]
    · have e : dMin A r = dMin A (r + 1) := by
        funext a b
        simp only [dMin]
        by_cases h1 : a < r
        · rw [show dSkip r a = a from if_pos h1, show dSkip (r + 1) a = a from if_pos (by omega)]
        · by_cases h2 : a = r
          · subst h2; rw [show dSkip a a = a + 1 from if_neg (by omega), show dSkip (a + 1) a = a from if_pos (by omega)]; exact (hr _).symm
          · rw [show dSkip r a = a + 1 from if_neg h1, show dSkip (r + 1) a = a + 1 from if_neg (by omega)]
      rw [e, hr 0, dSgn_s]; grind
    · intro i hi h1 h2
      have e : dDet n (dMin A i) = 0 := by
        by_cases h3 : i < r
        · refine ih (dMin A i) (r - 1) (by omega) fun j => ?_
          simp only [dMin]
          rw [show dSkip i (r - 1) = r from by unfold dSkip; split <;> omega, show dSkip i (r - 1 + 1) = r + 1 from by unfold dSkip; split <;> omega]
          exact hr _
        · refine ih (dMin A i) r (by omega) fun j => ?_
          simp only [dMin]
          rw [show dSkip i r = r from if_pos (by omega), show dSkip i (r + 1) = r + 1 from if_pos (by omega)]
          exact hr _
      rw [e]; simp
theorem dDet_alt (n : Nat) : dAlt n (dDet n) := ⟨dDet_row n, dDet_adj n⟩
/-- turned: columns for rows -/
def dTr (A : Nat → Nat → Int) : Nat → Nat → Int := fun i j => A j i
theorem dDet_col : ∀ (n : Nat) (A : Nat → Nat → Int) (r : Nat) (u v : Nat → Int) (x y : Int), r < n → dDet n (dTr (dRow A r (fun j => x * u j + y * v j))) = x * dDet n (dTr (dRow A r u)) + y * dDet n (dTr (dRow A r v)) := by
  intro n
  induction n with
  | zero => intro A r u v x y h; omega
  | succ n ih =>
    intro A r u v x y h
    simp only [dDet]
    rw [← dSum_lin]
    refine dSum_c fun i hi => ?_
    cases r with
    | zero =>
      have e : ∀ w : Nat → Int, dMin (dTr (dRow A 0 w)) i = dMin (dTr A) i := by
        intro w; funext a b; simp only [dMin, dTr]; rw [dRow_n _ _ (by omega)]
      rw [e, e, e]; simp only [dTr, dRow_s]; grind
    | succ r =>
      have e : ∀ w : Nat → Int, dMin (dTr (dRow A (r + 1) w)) i = dTr (dRow (dTr (dMin (dTr A) i)) r (fun k => w (dSkip i k))) := by
        intro w; funext a b
        simp only [dMin, dTr, dRow]
        by_cases hb : b = r
        · subst hb; rw [if_pos rfl, if_pos rfl]
        · rw [if_neg (by omega), if_neg hb]
      have e1 : dDet n (dMin (dTr (dRow A (r + 1) (fun j => x * u j + y * v j))) i) = x * dDet n (dMin (dTr (dRow A (r + 1) u)) i) + y * dDet n (dMin (dTr (dRow A (r + 1) v)) i) := by
        rw [e, e, e]; exact ih (dTr (dMin (dTr A) i)) r (fun k => u (dSkip i k)) (fun k => v (dSkip i k)) x y (by omega)
      have e2 : ∀ w : Nat → Int, dTr (dRow A (r + 1) w) i 0 = A 0 i := fun w => by simp only [dTr]; rw [dRow_n _ _ (by omega)]
      rw [e2, e2, e2, e1]; grind
theorem dDet_cadj : ∀ (n : Nat) (A : Nat → Nat → Int) (r : Nat), r + 1 < n → (∀ j, A r j = A (r + 1) j) → dDet n (dTr A) = 0 := by
  intro n
  induction n with
  | zero => intro A r h; omega
  | succ n ih =>
    intro A r h hr
    cases r with
    | succ r =>
      simp only [dDet]
      refine dSum_0 fun i hi => ?_
      have e : dDet n (dMin (dTr A) i) = 0 := by
        refine ih (dTr (dMin (dTr A) i)) r (by omega) fun j => ?_
        simp only [dMin, dTr]
        exact hr _
      rw [e]; simp
    | zero =>
      obtain ⟨m, rfl⟩ : ∃ m, n = m + 1 := ⟨n - 1, by omega⟩
      have e : dDet (m + 1 + 1) (dTr A) = dSum (m + 1 + 1) (fun i => dSum (m + 1) (fun k => (dSgn i * A 0 i) * (dSgn k * A 0 (dSkip i k) * dDet m (dMin (dMin (dTr A) i) k)))) := by
        rw [dDet]
        refine dSum_c fun i hi => ?_
        rw [dSum_mul, dDet]
        congr 1
        refine dSum_c fun k hk => ?_
        show dSgn k * A (0 + 1) (dSkip i k) * _ = _
        rw [← hr]
      rw [e]
      refine dSum_pair (m + 1) _ fun i k hi hk => ?_
      have e1 : dSkip (k + 1) i = i := if_pos (by omega)
      have e2 : dSkip i k = k + 1 := if_neg (by omega)
      have e3 : dMin (dMin (dTr A) (k + 1)) i = dMin (dMin (dTr A) i) k := by
        funext a b
        simp only [dMin]
        rw [show dSkip (k + 1) (dSkip i a) = dSkip i (dSkip k a) from by unfold dSkip; split <;> split <;> split <;> (try split) <;> omega]
      rw [e1, e2, e3, dSgn_s]; grind
theorem dDet_altT (n : Nat) : dAlt n (fun A => dDet n (dTr A)) := ⟨dDet_col n, dDet_cadj n⟩
def dSw (A : Nat → Nat → Int) (r s : Nat) : Nat → Nat → Int := dRow (dRow A r (A s)) s (A r)
section Alt
variable {n : Nat} {D : (Nat → Nat → Int) → Int}
theorem dAlt.add (h : dAlt n D) (A : Nat → Nat → Int) {r : Nat} (hr : r < n) (u v : Nat → Int) : D (dRow A r (fun j => u j + v j)) = D (dRow A r u) + D (dRow A r v) := by
  have := h.1 A r u v 1 1 hr
  simpa using this
theorem dAlt.mul (h : dAlt n D) (A : Nat → Nat → Int) {r : Nat} (hr : r < n) (u : Nat → Int) (x : Int) : D (dRow A r (fun j => x * u j)) = x * D (dRow A r u) := by
  have := h.1 A r u u x 0 hr
  simpa using this
theorem dAlt.sw0 (h : dAlt n D) {r s : Nat} (hr : r < n) (hs : s < n) (hrs : r ≠ s) (heq : ∀ A : Nat → Nat → Int, A r = A s → D A = 0) (A : Nat → Nat → Int) : D (dSw A r s) = -D A := by
  have z : ∀ u v : Nat → Int, u = v → D (dRow (dRow A r u) s v) = 0 := fun u v q => heq _ (by rw [dRow_n _ _ hrs, dRow_s, dRow_s, q])
  have h1 : D (dRow (dRow A r (fun j => A r j + A s j)) s (fun j => A r j + A s j)) = D (dRow (dRow A r (A r)) s (A r)) + D (dRow (dRow A r (A s)) s (A r)) + (D (dRow (dRow A r (A r)) s (A s)) + D (dRow (dRow A r (A s)) s (A s))) := by
    rw [h.add _ hs]
    congr 1
    · rw [dRow_comm _ hrs, h.add _ hr, dRow_comm _ (Ne.symm hrs), dRow_comm _ (Ne.symm hrs)]
    · rw [dRow_comm _ hrs, h.add _ hr, dRow_comm _ (Ne.symm hrs), dRow_comm _ (Ne.symm hrs)]
  rw [z _ _ rfl, z _ _ rfl, z _ _ rfl, dRow_id, dRow_id] at h1
  show D (dRow (dRow A r (A s)) s (A r)) = -D A
  omega
theorem dAlt.eq0 (h : dAlt n D) : ∀ (d : Nat) (r : Nat), r + d + 1 < n → ∀ A : Nat → Nat → Int, A r = A (r + d + 1) → D A = 0 := by
  intro d
  induction d with
  | zero => intro r hr A he; exact h.2 A r hr fun j => by rw [he]
  | succ d ih =>
    intro r hr A he
    have hz : ∀ B : Nat → Nat → Int, B (r + d + 1) = B (r + d + 1 + 1) → D B = 0 := fun B hB => h.2 B (r + d + 1) (by omega) fun j => by rw [hB]
    have h1 := h.sw0 (r := r + d + 1) (s := r + d + 1 + 1) (by omega) (by omega) (by omega) hz A
    have h2 : D (dSw A (r + d + 1) (r + d + 1 + 1)) = 0 := by
      refine ih r (by omega) _ ?_
      show dRow (dRow A _ _) _ _ r = dRow (dRow A _ _) _ _ (r + d + 1)
      rw [dRow_n _ _ (by omega), dRow_n _ _ (by omega), dRow_n _ _ (by omega), dRow_s]
      exact he
    omega
theorem dAlt.eq (h : dAlt n D) {r s : Nat} (hr : r < n) (hs : s < n) (hrs : r ≠ s) (A : Nat → Nat → Int) (he : A r = A s) : D A = 0 := by
  rcases Nat.lt_or_ge r s with q | q
  · exact h.eq0 (s - r - 1) r (by omega) A (by rw [he]; congr 1; omega)
  · exact h.eq0 (r - s - 1) s (by omega) A (by rw [← he]; congr 1; omega)
theorem dAlt.sw (h : dAlt n D) {r s : Nat} (hr : r < n) (hs : s < n) (hrs : r ≠ s) (A : Nat → Nat → Int) : D (dSw A r s) = -D A := h.sw0 hr hs hrs (fun B => h.eq hr hs hrs B) A
/-- a row, and a multiple of another one -/
theorem dAlt.plus (h : dAlt n D) {r s : Nat} (hr : r < n) (hs : s < n) (hrs : r ≠ s) (A : Nat → Nat → Int) (c : Int) : D (dRow A r (fun j => A r j + c * A s j)) = D A := by
  have h1 := h.1 A r (A r) (A s) 1 c hr
  have h2 : D (dRow A r (A s)) = 0 := h.eq hr hs hrs _ (by rw [dRow_s, dRow_n _ _ (Ne.symm hrs)])
  rw [h2, dRow_id] at h1
  simpa using h1
end Alt
theorem dDet_e0 {n : Nat} {A : Nat → Nat → Int} (h : ∀ i, i < n → A (i + 1) 0 = 0) : dDet (n + 1) A = A 0 0 * dDet n (fun r c => A (r + 1) (c + 1)) := by
  rw [dDet, dSum_1 (r := 0) (by omega)]
  · have : dMin A 0 = fun r c => A (r + 1) (c + 1) := by
      funext a b; simp only [dMin]; rw [show dSkip 0 a = a + 1 from if_neg (by omega)]
    rw [this]; simp [dSgn]
  · intro i hi hn
    obtain ⟨k, rfl⟩ : ∃ k, i = k + 1 := ⟨i - 1, by omega⟩
    rw [h k (by omega)]; simp
theorem dDet_scale (d : Int) : ∀ (n : Nat) (A : Nat → Nat → Int), dDet n (fun i j => d * A i j) = d ^ n * dDet n A := by
  intro n
  induction n with
  | zero => intro A; simp [dDet]
  | succ n ih =>
    intro A
    simp only [dDet]
    rw [← dSum_mul]
    refine dSum_c fun i hi => ?_
    rw [show dMin (fun i j => d * A i j) i = fun a b => d * dMin A i a b from rfl, ih, Int.pow_succ]
    grind
/-- Chio: below the pivot -/
theorem dDet_chio (n : Nat) (A : Nat → Nat → Int) : A 0 0 ^ n * dDet (n + 1) A = A 0 0 * dDet n (fun i j => A (i + 1) (j + 1) * A 0 0 - A (i + 1) 0 * A 0 (j + 1)) := by
  have hB : ∀ m, m ≤ n → dDet (n + 1) (fun i j => if 1 ≤ i ∧ i ≤ m then A 0 0 * A i j + -(A i 0) * A 0 j else A i j) = A 0 0 ^ m * dDet (n + 1) A := by
    intro m
    induction m with
    | zero =>
      intro _
      rw [show (fun i j => if 1 ≤ i ∧ i ≤ 0 then A 0 0 * A i j + -(A i 0) * A 0 j else A i j) = A from by funext i j; rw [if_neg (by omega)]]
      simp
    | succ m ih =>
      intro hm
      have h1 := ih (by omega)
      generalize hBm : (fun i j => if 1 ≤ i ∧ i ≤ m then A 0 0 * A i j + -(A i 0) * A 0 j else A i j) = Bm at h1
      have b0 : Bm 0 = A 0 := by rw [← hBm]; funext j; simp
      have b1 : Bm (m + 1) = A (m + 1) := by
        rw [← hBm]; funext j
        show (if 1 ≤ m + 1 ∧ m + 1 ≤ m then _ else A (m + 1) j) = _
        rw [if_neg (by omega)]
      have e : (fun i j => if 1 ≤ i ∧ i ≤ m + 1 then A 0 0 * A i j + -(A i 0) * A 0 j else A i j) = dRow Bm (m + 1) (fun j => A 0 0 * A (m + 1) j + -(A (m + 1) 0) * A 0 j) := by
        funext i j
        simp only [dRow]
        by_cases hi : i = m + 1
        · subst hi; rw [if_pos rfl, if_pos (by omega)]
        · rw [if_neg hi, ← hBm]
          by_cases h2 : 1 ≤ i ∧ i ≤ m
          · simp only [if_pos h2]; rw [if_pos (by omega)]
          · simp only [if_neg h2]; rw [if_neg (by omega)]
      rw [e, dDet_row _ _ _ _ _ _ _ (by omega), ← b1, dRow_id, b1, (dDet_alt (n + 1)).eq (r := m + 1) (s := 0) (by omega) (by omega) (by omega) (dRow Bm (m + 1) (A 0)) (by rw [dRow_s, dRow_n _ _ (by omega), b0]), h1, Int.pow_succ]
      grind
  have h2 := hB n (Nat.le_refl _)
  rw [← h2, dDet_e0]
  · rw [if_neg (by omega)]
    congr 1
    refine dDet_c fun i j hi hj => ?_
    rw [if_pos (by omega)]; grind
  · intro i hi
    rw [if_pos (by omega)]; grind
/-- how great it can be -/
def dBd (b : Nat) : Nat → Nat
  | 0 => 1
  | n + 1 => (n + 1) * (b * dBd b n)
theorem dSum_bd {n B : Nat} {f : Nat → Int} (h : ∀ i, i < n → (f i).natAbs ≤ B) : (dSum n f).natAbs ≤ n * B := by
  induction n with
  | zero => simp [dSum]
  | succ n ih =>
    have h1 := ih (fun i hi => h i (by omega))
    have h2 := h n (by omega)
    rw [dSum, Nat.succ_mul]
    omega
theorem dDet_bd (b : Nat) : ∀ (n : Nat) (A : Nat → Nat → Int), (∀ i j, i < n → j < n → (A i j).natAbs ≤ b) → (dDet n A).natAbs ≤ dBd b n := by
  intro n
  induction n with
  | zero => intro A _; simp [dDet, dBd]
  | succ n ih =>
    intro A h
    rw [dDet, dBd]
    refine dSum_bd fun i hi => ?_
    rw [Int.natAbs_mul, Int.natAbs_mul]
    have h1 : (dSgn i).natAbs = 1 := by unfold dSgn; split <;> rfl
    rw [h1, Nat.one_mul]
    exact Nat.mul_le_mul (h i 0 hi (by omega)) (ih _ (fun a c ha hc => h _ _ (dSkip_lt ha) (by omega)))
/-- one in a row and a column of noughts -/
theorem dDet_unit : ∀ (n r c : Nat) (A : Nat → Nat → Int), r < n + 1 → c < n + 1 → (∀ j, j < n + 1 → A r j = if j = c then 1 else 0) → (∀ i, i < n + 1 → A i c = if i = r then 1 else 0) → dDet (n + 1) A = dSgn (r + c) * dDet n (fun i j => A (dSkip r i) (dSkip c j)) := by
  intro n
  induction n with
  | zero =>
    intro r c A hr hc h1 h2
    have e1 : r = 0 := by omega
    have e2 : c = 0 := by omega
    subst e1; subst e2
    have := h1 0 (by omega)
    simp [dDet, dSum, dSgn, this]
  | succ n ih =>
    intro r c A hr hc h1 h2
    cases c with
    | zero =>
      rw [dDet, dSum_1 (r := r) (by omega)]
      · rw [h2 r hr, if_pos rfl, Nat.add_zero, show dMin A r = fun i j => A (dSkip r i) (dSkip 0 j) from by
          funext a b; simp only [dMin]; rw [show dSkip 0 b = b + 1 from if_neg (by omega)]]
        simp
      · intro i hi hn
        rw [h2 i hi, if_neg hn]; simp
    | succ c =>
      rw [dDet, dSum_skip _ hr]
      rw [show dSgn r * A r 0 * dDet (n + 1) (dMin A r) = 0 from by rw [h1 0 (by omega), if_neg (by omega)]; simp, Int.zero_add, dDet, ← dSum_mul]
      refine dSum_c fun k hk => ?_
      have hkl := dSkip_lt (i := r) hk
      obtain ⟨r', hr', hs, hn⟩ := dSkip_inv (dSkip_ne r k) hkl hr
      have e := ih r' c (dMin A (dSkip r k)) (by omega) (by omega) (fun j hj => by
          simp only [dMin]
          rw [hs, h1 (j + 1) (by omega)]
          by_cases q : j = c
          · rw [if_pos q, if_pos (by omega)]
          · rw [if_neg q, if_neg (by omega)]) (fun i hi => by
          simp only [dMin]
          rw [h2 _ (dSkip_lt hi)]
          by_cases q : i = r'
          · subst q; rw [if_pos hs, if_pos rfl]
          · rw [if_neg q, if_neg (fun z => q (hn i z))])
      rw [e]
      have e2 : (fun i j => dMin A (dSkip r k) (dSkip r' i) (dSkip c j)) = dMin (fun i j => A (dSkip r i) (dSkip (c + 1) j)) k := by
        funext i j
        simp only [dMin]
        have e3 : dSkip c j + 1 = dSkip (c + 1) (j + 1) := by unfold dSkip; split <;> split <;> omega
        have e4 : dSkip (dSkip r k) (dSkip r' i) = dSkip r (dSkip k i) := by
          unfold dSkip at hs ⊢
          split at hs <;> split at hs <;> split <;> split <;> split <;> (try split) <;> omega
        rw [e3, e4]
      rw [e2]
      rw [show dSkip (c + 1) 0 = 0 from if_pos (by omega)]
      have e6 : dSgn (dSkip r k) * dSgn (r' + c) = dSgn (r + (c + 1)) * dSgn k := by
        by_cases q : k < r
        · have a1 : dSkip r k = k := if_pos q
          rw [a1] at hs ⊢
          have a2 : r = r' + 1 := by unfold dSkip at hs; split at hs <;> omega
          rw [a2, show r' + 1 + (c + 1) = r' + c + 1 + 1 by omega, dSgn_s, dSgn_s]; grind
        · have a1 : dSkip r k = k + 1 := if_neg q
          rw [a1] at hs ⊢
          have a2 : r' = r := by unfold dSkip at hs; split at hs <;> omega
          rw [a2, ← Nat.add_assoc, dSgn_s, dSgn_s]; grind
      grind
/-- by the first row -/
def dMir (A : Nat → Nat → Int) (j : Nat) : Nat → Nat → Int := fun r c => A (r + 1) (dSkip j c)
theorem dDet_first : ∀ (n : Nat) (A : Nat → Nat → Int), dDet (n + 1) A = dSum (n + 1) (fun j => dSgn j * A 0 j * dDet n (dMir A j)) := by
  intro n
  induction n with
  | zero => intro A; simp [dDet, dSum]
  | succ n ih =>
    intro A
    rw [dDet, dSum_skip (r := 0) _ (by omega), dSum_skip (r := 0) (n := n + 1) (fun j => dSgn j * A 0 j * dDet (n + 1) (dMir A j)) (by omega)]
    have s0 : ∀ k, dSkip 0 k = k + 1 := fun k => if_neg (by omega)
    have e0 : dMin A 0 = dMir A 0 := by funext a b; simp only [dMin, dMir, s0]
    rw [e0]
    congr 1
    · have e1 : dSum (n + 1) (fun k => dSgn (dSkip 0 k) * A (dSkip 0 k) 0 * dDet (n + 1) (dMin A (dSkip 0 k))) = dSum (n + 1) (fun k => dSum (n + 1) (fun j => (dSgn (k + 1) * A (k + 1) 0) * (dSgn j * A 0 (j + 1) * dDet n (dMir (dMin A (k + 1)) j)))) := by
        refine dSum_c fun k hk => ?_
        rw [s0, ih, ← dSum_mul]
        refine dSum_c fun j hj => ?_
        rw [show dMin A (k + 1) 0 j = A 0 (j + 1) from by simp only [dMin]; rw [show dSkip (k + 1) 0 = 0 from if_pos (by omega)]]
      have e2 : dSum (n + 1) (fun k => dSgn (dSkip 0 k) * A 0 (dSkip 0 k) * dDet (n + 1) (dMir A (dSkip 0 k))) = dSum (n + 1) (fun j => dSum (n + 1) (fun k => (dSgn (j + 1) * A 0 (j + 1)) * (dSgn k * A (k + 1) 0 * dDet n (dMin (dMir A (j + 1)) k)))) := by
        refine dSum_c fun j hj => ?_
        rw [s0, dDet, ← dSum_mul]
        refine dSum_c fun k hk => ?_
        rw [show dMir A (j + 1) k 0 = A (k + 1) 0 from by simp only [dMir]; rw [show dSkip (j + 1) 0 = 0 from if_pos (by omega)]]
      rw [e1, e2, dSum_swap]
      refine dSum_c fun j hj => dSum_c fun k hk => ?_
      have e3 : dMir (dMin A (k + 1)) j = dMin (dMir A (j + 1)) k := by
        funext a b
        simp only [dMir, dMin]
        rw [show dSkip (k + 1) (a + 1) = dSkip k a + 1 from by unfold dSkip; split <;> split <;> omega, show dSkip (j + 1) (b + 1) = dSkip j b + 1 from by unfold dSkip; split <;> split <;> omega]
      rw [e3, dSgn_s, dSgn_s]; grind
theorem dDet_tr : ∀ (n : Nat) (A : Nat → Nat → Int), dDet n (dTr A) = dDet n A := by
  intro n
  induction n with
  | zero => intro A; rfl
  | succ n ih =>
    intro A
    rw [dDet_first n A, dDet]
    refine dSum_c fun i hi => ?_
    rw [show dMin (dTr A) i = dTr (dMir A i) from rfl, ih]
    rfl
