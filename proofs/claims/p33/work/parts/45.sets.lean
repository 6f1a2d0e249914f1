/-! trees by looking at all sets: as many wires as it takes, all nodes hanging together -/
def pcN (s : Nat) : Nat → Nat
  | 0 => 0
  | w + 1 => pcN s w + s / 2 ^ w % 2
set_option maxRecDepth 100000 in
theorem jBc_pc : ∀ s, s < 1024 → jBc (nI s) = nI (pcN s 10) := by decide +kernel
theorem pcN_more {s w : Nat} (h : s < 2 ^ w) : ∀ d, pcN s (w + d) = pcN s w
  | 0 => rfl
  | d + 1 => by
    rw [← Nat.add_assoc, pcN, pcN_more h d, Nat.div_eq_of_lt (Nat.lt_of_lt_of_le h (Nat.pow_le_pow_right (by omega) (by omega)))]
    rfl
theorem pcN_le (s : Nat) : ∀ w, pcN s w ≤ w
  | 0 => Nat.le_refl _
  | w + 1 => by have := pcN_le s w; have := Nat.mod_lt (s / 2 ^ w) (show 2 > 0 by omega); rw [pcN]; omega
def cP (e1 e2 : Nat → Nat) (s : Nat) : Nat → (Nat → Nat) × Nat
  | 0 => (tId, 0)
  | w + 1 => if s / 2 ^ w % 2 = 1 ∧ (cP e1 e2 s w).1 (e1 w) ≠ (cP e1 e2 s w).1 (e2 w) then (tMg (cP e1 e2 s w).1 ((cP e1 e2 s w).1 (e1 w)) ((cP e1 e2 s w).1 (e2 w)), (cP e1 e2 s w).2 + 1) else cP e1 e2 s w
section Sets
variable {n sz s : Nat} {e1 e2 : Nat → Nat}
theorem cP_I (hn1 : 0 < n) (hn : n < 1000) (he : ∀ k, k < sz → e1 k < n ∧ e2 k < n) : ∀ w, w ≤ sz → (cP e1 e2 s w).2 < n ∧ ∃ on, tI n 0 (cP e1 e2 s w).1 on (nI (n - (cP e1 e2 s w).2))
  | 0, _ => ⟨hn1, _, tI_start hn1 (by omega)⟩
  | w + 1, hw => by
    obtain ⟨h1, on, h2⟩ := cP_I hn1 hn he w (by omega)
    have hk := he w (by omega)
    by_cases q : s / 2 ^ w % 2 = 1 ∧ (cP e1 e2 s w).1 (e1 w) ≠ (cP e1 e2 s w).1 (e2 w)
    · have e : cP e1 e2 s (w + 1) = (tMg (cP e1 e2 s w).1 ((cP e1 e2 s w).1 (e1 w)) ((cP e1 e2 s w).1 (e2 w)), (cP e1 e2 s w).2 + 1) := if_pos q
      rw [e]
      obtain ⟨o, -, hI⟩ := tI_step hn1 h2 hk.1 hk.2 q.2
      rw [nI_dec (by omega), Nat.sub_sub] at hI
      have hc := hI.2.2.2
      have hcl : tCt n (tOff on o) ≤ n := kCnt_le _ _
      rw [nI_eq (by omega) (by omega)] at hc
      exact ⟨by show _ + 1 < n; omega, _, hI⟩
    · have e : cP e1 e2 s (w + 1) = cP e1 e2 s w := if_neg q
      rw [e]
      exact ⟨h1, on, h2⟩
theorem cP_pc : ∀ w, (cP e1 e2 s w).2 ≤ pcN s w
  | 0 => Nat.le_refl _
  | w + 1 => by
    have := cP_pc w
    by_cases q : s / 2 ^ w % 2 = 1 ∧ (cP e1 e2 s w).1 (e1 w) ≠ (cP e1 e2 s w).1 (e2 w)
    · have e : cP e1 e2 s (w + 1) = (tMg (cP e1 e2 s w).1 ((cP e1 e2 s w).1 (e1 w)) ((cP e1 e2 s w).1 (e2 w)), (cP e1 e2 s w).2 + 1) := if_pos q
      rw [e, pcN, q.1]; show _ + 1 ≤ _; omega
    · have e : cP e1 e2 s (w + 1) = cP e1 e2 s w := if_neg q
      rw [e, pcN]; omega
theorem mPB_cP (hn1 : 0 < n) (hn : n < 1000) (he : ∀ k, k < sz → e1 k < n ∧ e2 k < n) : ∀ w, w ≤ sz → mPB e1 e2 n s w = if (cP e1 e2 s w).2 = pcN s w then some ((cP e1 e2 s w).1, nI (n - (cP e1 e2 s w).2)) else none
  | 0, _ => rfl
  | w + 1, hw => by
    have ih := mPB_cP hn1 hn he w (by omega)
    have hle := cP_pc (e1 := e1) (e2 := e2) (s := s) w
    have h1 := (cP_I (s := s) hn1 hn he w (by omega)).1
    rw [mPB_s, ih]
    by_cases b : s / 2 ^ w % 2 = 1
    · by_cases c : (cP e1 e2 s w).1 (e1 w) = (cP e1 e2 s w).1 (e2 w)
      · have e : cP e1 e2 s (w + 1) = cP e1 e2 s w := if_neg (fun q => q.2 c)
        rw [e, pcN, b, if_neg (show ¬ (cP e1 e2 s w).2 = pcN s w + 1 by omega)]
        split
        · simp only [gSt, if_true]; rw [if_pos c]
        · rfl
      · have e : cP e1 e2 s (w + 1) = (tMg (cP e1 e2 s w).1 ((cP e1 e2 s w).1 (e1 w)) ((cP e1 e2 s w).1 (e2 w)), (cP e1 e2 s w).2 + 1) := if_pos ⟨b, c⟩
        rw [e, pcN, b]
        by_cases q : (cP e1 e2 s w).2 = pcN s w
        · rw [if_pos q, if_pos (by show _ + 1 = _; omega)]
          simp only [gSt, if_true]
          rw [if_neg c, nI_dec (by omega), Nat.sub_sub]
        · rw [if_neg q, if_neg (by show ¬ _ + 1 = _; omega)]; rfl
    · have e : cP e1 e2 s (w + 1) = cP e1 e2 s w := if_neg (fun q => b q.1)
      have b0 : s / 2 ^ w % 2 = 0 := by omega
      rw [e, pcN, b0, Nat.add_zero]
      split
      · rfl
      · rfl
theorem cP_eq : ∀ w k, k < w → s / 2 ^ k % 2 = 1 → (cP e1 e2 s w).1 (e1 k) = (cP e1 e2 s w).1 (e2 k)
  | w + 1, k, hk, hb => by
    by_cases q : s / 2 ^ w % 2 = 1 ∧ (cP e1 e2 s w).1 (e1 w) ≠ (cP e1 e2 s w).1 (e2 w)
    · have e : cP e1 e2 s (w + 1) = (tMg (cP e1 e2 s w).1 ((cP e1 e2 s w).1 (e1 w)) ((cP e1 e2 s w).1 (e2 w)), (cP e1 e2 s w).2 + 1) := if_pos q
      rw [e]
      simp only [tMg]
      by_cases z : k = w
      · subst z; rw [if_neg q.2, if_pos rfl]
      · rw [cP_eq w k (by omega) hb]
    · have e : cP e1 e2 s (w + 1) = cP e1 e2 s w := if_neg q
      rw [e]
      by_cases z : k = w
      · subst z; exact Decidable.byContradiction fun y => q ⟨hb, y⟩
      · exact cP_eq w k (by omega) hb
/-- all have one label -/
theorem cP_all (hn1 : 0 < n) (hn : n < 1000) (he : ∀ k, k < sz → e1 k < n ∧ e2 k < n) : (∀ k, k < n → (cP e1 e2 s sz).1 k = (cP e1 e2 s sz).1 0) ↔ n - (cP e1 e2 s sz).2 = 1 := by
  obtain ⟨h1, on, h2, h3, h4, h5⟩ := cP_I (s := s) hn1 hn he sz (Nat.le_refl _)
  have hcl : tCt n on ≤ n := kCnt_le _ _
  rw [nI_eq (by omega) (by omega)] at h5
  have h6 : tCt n on = 0 ↔ n - (cP e1 e2 s sz).2 = 1 := by omega
  rw [← h6]
  show _ ↔ kCnt _ n = 0
  rw [kCnt_0]
  constructor
  · intro h i hi ho
    obtain ⟨k, hk, e⟩ := h4 i ho
    exact (h3 k hk).mp (by rw [e]; exact ho) (h k hk)
  · intro h k hk
    exact Decidable.byContradiction fun z => h _ (h2 k hk) ((h3 k hk).mpr z)
/-! what is reached, as bits -/
abbrev bOr (m a b : Nat) : Nat := m ||| 2 ^ a ||| 2 ^ b
def hI (e1 e2 : Nat → Nat) (s : Nat) : Nat → Nat → Nat
  | 0, m => m
  | k + 1, m => if s / 2 ^ k % 2 = 1 ∧ ((hI e1 e2 s k m).testBit (e1 k) = true ∨ (hI e1 e2 s k m).testBit (e2 k) = true) then bOr (hI e1 e2 s k m) (e1 k) (e2 k) else hI e1 e2 s k m
theorem bOr_bit (m a b i : Nat) : (bOr m a b).testBit i = true ↔ m.testBit i = true ∨ a = i ∨ b = i := by
  simp only [bOr, Nat.testBit_or, Nat.testBit_two_pow, Bool.or_eq_true, decide_eq_true_eq]
  exact or_assoc
theorem bE_ok : ∀ m, m < 64 → ∀ a, a < 6 → ∀ b, b < 6 → ((nI m &&& ((nI 1 <<< (nI a &&& 31)) ||| (nI 1 <<< (nI b &&& 31))) = 0) ↔ ¬ (m.testBit a = true ∨ m.testBit b = true)) ∧ nI m ||| ((nI 1 <<< (nI a &&& 31)) ||| (nI 1 <<< (nI b &&& 31))) = nI (bOr m a b) := by decide +kernel
theorem bOr_lt {n m a b : Nat} (hm : m < 2 ^ n) (ha : a < n) (hb : b < n) : bOr m a b < 2 ^ n :=
  Nat.or_lt_two_pow (Nat.or_lt_two_pow hm (Nat.pow_lt_pow_right (by omega) ha)) (Nat.pow_lt_pow_right (by omega) hb)
theorem hI_lt (he : ∀ k, k < sz → e1 k < n ∧ e2 k < n) {m : Nat} (hm : m < 2 ^ n) : ∀ k, k ≤ sz → hI e1 e2 s k m < 2 ^ n
  | 0, _ => hm
  | k + 1, hk => by
    have ih := hI_lt he hm k (by omega)
    have := he k (by omega)
    rw [hI]
    split
    · exact bOr_lt ih this.1 this.2
    · exact ih
theorem hgI_hI (hn6 : n ≤ 6) (hsz : sz ≤ 10) (hs : s < 2 ^ 31) (he : ∀ k, k < sz → e1 k < n ∧ e2 k < n) {m : Nat} (hm : m < 2 ^ n) : ∀ k, k ≤ sz → hgI (nI s) e1 e2 k (nI m) = nI (hI e1 e2 s k m)
  | 0, _ => rfl
  | k + 1, hk => by
    have ih := hgI_hI hn6 hsz hs he hm k (by omega)
    have hw := he k (by omega)
    have hlt := hI_lt (s := s) he hm k (by omega)
    have h64 : hI e1 e2 s k m < 64 := Nat.lt_of_lt_of_le hlt (show 2 ^ n ≤ 2 ^ 6 from Nat.pow_le_pow_right (by omega) hn6)
    obtain ⟨f1, f2⟩ := bE_ok _ h64 (e1 k) (by omega) (e2 k) (by omega)
    have hb2 : s / 2 ^ k % 2 < 2 := Nat.mod_lt _ (by omega)
    rw [hgI, hI, ih, k_bit hs (by omega)]
    have c1 : (nI (s / 2 ^ k % 2) = nI 1) ↔ s / 2 ^ k % 2 = 1 := nI_eq (by omega) (by omega)
    by_cases q : s / 2 ^ k % 2 = 1 ∧ ((hI e1 e2 s k m).testBit (e1 k) = true ∨ (hI e1 e2 s k m).testBit (e2 k) = true)
    · rw [if_pos q, if_pos ⟨c1.mpr q.1, fun z => (f1.mp z) q.2⟩, f2]
    · rw [if_neg q, if_neg (fun z => q ⟨c1.mp z.1, Decidable.byContradiction fun y => z.2 (f1.mpr y)⟩)]
def hO (e1 e2 : Nat → Nat) (s sz : Nat) : Nat → Nat
  | 0 => 1
  | j + 1 => hI e1 e2 s sz (hO e1 e2 s sz j)
theorem hO_lt (hn1 : 0 < n) (he : ∀ k, k < sz → e1 k < n ∧ e2 k < n) : ∀ j, hO e1 e2 s sz j < 2 ^ n
  | 0 => Nat.one_lt_two_pow (by omega)
  | j + 1 => hI_lt he (hO_lt hn1 he j) sz (Nat.le_refl _)
theorem hgO_hO (hn1 : 0 < n) (hn6 : n ≤ 6) (hsz : sz ≤ 10) (hs : s < 2 ^ 31) (he : ∀ k, k < sz → e1 k < n ∧ e2 k < n) : ∀ j, hgO (nI s) e1 e2 sz j = nI (hO e1 e2 s sz j)
  | 0 => rfl
  | j + 1 => by
    rw [hgO, hgO_hO hn1 hn6 hsz hs he j, hO]
    exact hgI_hI hn6 hsz hs he (hO_lt hn1 he j) sz (Nat.le_refl _)
theorem hI_mono {m i : Nat} (h : m.testBit i = true) : ∀ k, (hI e1 e2 s k m).testBit i = true
  | 0 => h
  | k + 1 => by
    rw [hI]; split
    · exact (bOr_bit _ _ _ _).mpr (Or.inl (hI_mono h k))
    · exact hI_mono h k
theorem hI_mono2 {m i a : Nat} : ∀ d, (hI e1 e2 s a m).testBit i = true → (hI e1 e2 s (a + d) m).testBit i = true
  | 0, h => h
  | d + 1, h => by
    rw [← Nat.add_assoc, hI]; split
    · exact (bOr_bit _ _ _ _).mpr (Or.inl (hI_mono2 d h))
    · exact hI_mono2 d h
theorem hI_sound {m : Nat} {p : Nat → Nat} (hp : ∀ k, k < sz → s / 2 ^ k % 2 = 1 → p (e1 k) = p (e2 k)) (hm : ∀ i, m.testBit i = true → p i = p 0) : ∀ k, k ≤ sz → ∀ i, (hI e1 e2 s k m).testBit i = true → p i = p 0
  | 0, _, i, h => hm i h
  | k + 1, hk, i, h => by
    have ih := hI_sound hp hm k (by omega)
    rw [hI] at h
    split at h
    · rename_i q
      have e := hp k (by omega) q.1
      have e0 : p (e1 k) = p 0 := q.2.elim (fun z => ih _ z) (fun z => e.trans (ih _ z))
      rcases (bOr_bit _ _ _ _).mp h with z | z | z
      · exact ih i z
      · rw [← z]; exact e0
      · rw [← z, ← e]; exact e0
    · exact ih i h
def hCl (e1 e2 : Nat → Nat) (s sz m : Nat) : Prop := ∀ k, k < sz → s / 2 ^ k % 2 = 1 → (m.testBit (e1 k) = true ∨ m.testBit (e2 k) = true) → m.testBit (e1 k) = true ∧ m.testBit (e2 k) = true
theorem hI_closed {m : Nat} (h : hCl e1 e2 s sz m) : ∀ k, k ≤ sz → ∀ i, (hI e1 e2 s k m).testBit i = true → m.testBit i = true
  | 0, _, i, hi => hi
  | k + 1, hk, i, hi => by
    have ih := hI_closed h k (by omega)
    rw [hI] at hi
    split at hi
    · rename_i q
      have := h k (by omega) q.1 (q.2.imp (ih _) (ih _))
      rcases (bOr_bit _ _ _ _).mp hi with z | z | z
      · exact ih i z
      · rw [← z]; exact this.1
      · rw [← z]; exact this.2
    · exact ih i hi
theorem kCnt_mono {P Q : Nat → Prop} [DecidablePred P] [DecidablePred Q] (h : ∀ i, P i → Q i) : ∀ n, kCnt P n ≤ kCnt Q n
  | 0 => Nat.le_refl _
  | n + 1 => by
    have := kCnt_mono h n
    simp only [kCnt]
    by_cases p : P n
    · rw [if_pos p, if_pos (h n p)]; omega
    · rw [if_neg p]; split <;> omega
theorem kCnt_lt {P Q : Nat → Prop} [DecidablePred P] [DecidablePred Q] (h : ∀ i, P i → Q i) {o : Nat} (hq : Q o) (hp : ¬ P o) : ∀ n, o < n → kCnt P n < kCnt Q n
  | n + 1, ho => by
    simp only [kCnt]
    by_cases e : o = n
    · subst e
      have := kCnt_mono h o
      rw [if_neg hp, if_pos hq]; omega
    · have := kCnt_lt h hq hp n (by omega)
      by_cases p : P n
      · rw [if_pos p, if_pos (h n p)]; omega
      · rw [if_neg p]; split <;> omega
abbrev hCt (n m : Nat) : Nat := kCnt (fun i => m.testBit i = true) n
theorem hO_grow (he : ∀ k, k < sz → e1 k < n ∧ e2 k < n) (hn1 : 0 < n) : ∀ j, hCl e1 e2 s sz (hO e1 e2 s sz j) ∨ j + 1 ≤ hCt n (hO e1 e2 s sz j)
  | 0 => by
    right
    have h0 : kCnt (fun _ => False) n < hCt n 1 := kCnt_lt (P := fun _ => False) (Q := fun i => Nat.testBit 1 i = true) (fun _ h => h.elim) (o := 0) rfl id n hn1
    show 0 + 1 ≤ hCt n 1
    omega
  | j + 1 => by
    have mono : ∀ i, (hO e1 e2 s sz j).testBit i = true → (hO e1 e2 s sz (j + 1)).testBit i = true := fun i h => hI_mono h sz
    by_cases q : hCl e1 e2 s sz (hO e1 e2 s sz j)
    · left
      intro k hk hb h
      have back := hI_closed q sz (Nat.le_refl _)
      have := q k hk hb (h.imp (back _) (back _))
      exact ⟨mono _ this.1, mono _ this.2⟩
    · right
      have ih := (hO_grow he hn1 j).resolve_left q
      obtain ⟨k, hk, hb, h1, h2⟩ : ∃ k, k < sz ∧ s / 2 ^ k % 2 = 1 ∧ ((hO e1 e2 s sz j).testBit (e1 k) = true ∨ (hO e1 e2 s sz j).testBit (e2 k) = true) ∧ ¬ ((hO e1 e2 s sz j).testBit (e1 k) = true ∧ (hO e1 e2 s sz j).testBit (e2 k) = true) := Decidable.byContradiction fun z => q fun k hk hb h => Decidable.byContradiction fun y => z ⟨k, hk, hb, h, y⟩
      have hboth : ∀ i, i = e1 k ∨ i = e2 k → (hO e1 e2 s sz (j + 1)).testBit i = true := fun i hi => by
        have h3 : (hI e1 e2 s (k + 1) (hO e1 e2 s sz j)).testBit i = true := by
          rw [hI, if_pos ⟨hb, h1.imp (fun z => hI_mono z k) (fun z => hI_mono z k)⟩]
          exact (bOr_bit _ _ _ _).mpr (Or.inr (hi.imp Eq.symm Eq.symm))
        have h4 := hI_mono2 (sz - (k + 1)) h3
        rw [show k + 1 + (sz - (k + 1)) = sz by omega] at h4
        exact h4
      have := he k hk
      by_cases a : (hO e1 e2 s sz j).testBit (e1 k) = true
      · have lt : hCt n (hO e1 e2 s sz j) < hCt n (hO e1 e2 s sz (j + 1)) := kCnt_lt (P := fun i => (hO e1 e2 s sz j).testBit i = true) (Q := fun i => (hO e1 e2 s sz (j + 1)).testBit i = true) mono (hboth (e2 k) (Or.inr rfl)) (fun z => h2 ⟨a, z⟩) n this.2
        omega
      · have lt : hCt n (hO e1 e2 s sz j) < hCt n (hO e1 e2 s sz (j + 1)) := kCnt_lt (P := fun i => (hO e1 e2 s sz j).testBit i = true) (Q := fun i => (hO e1 e2 s sz (j + 1)).testBit i = true) mono (hboth (e1 k) (Or.inl rfl)) a n this.1
        omega
theorem kCnt_full {P : Nat → Prop} [DecidablePred P] : ∀ n, n ≤ kCnt P n → ∀ i, i < n → P i
  | n + 1, h, i, hi => by
    have := kCnt_le P n
    simp only [kCnt] at h
    by_cases p : P n
    · rw [if_pos p] at h
      by_cases e : i = n
      · rw [e]; exact p
      · exact kCnt_full n (by omega) i (by omega)
    · rw [if_neg p] at h; omega
theorem cP_apart (he : ∀ k, k < sz → e1 k < n ∧ e2 k < n) {m : Nat} (h : hCl e1 e2 s sz m) : ∀ w, w ≤ sz → ∀ u v, m.testBit u = true → ¬ m.testBit v = true → (cP e1 e2 s w).1 u ≠ (cP e1 e2 s w).1 v
  | 0, _, u, v, hu, hv => fun e => hv (by rw [← show u = v from e]; exact hu)
  | w + 1, hw, u, v, hu, hv => by
    have ih := cP_apart he h w (by omega)
    by_cases q : s / 2 ^ w % 2 = 1 ∧ (cP e1 e2 s w).1 (e1 w) ≠ (cP e1 e2 s w).1 (e2 w)
    · have e : cP e1 e2 s (w + 1) = (tMg (cP e1 e2 s w).1 ((cP e1 e2 s w).1 (e1 w)) ((cP e1 e2 s w).1 (e2 w)), (cP e1 e2 s w).2 + 1) := if_pos q
      rw [e]
      simp only [tMg]
      have hk := h w (by omega) q.1
      by_cases a : (cP e1 e2 s w).1 u = (cP e1 e2 s w).1 (e2 w)
      · have b2 : m.testBit (e2 w) = true := Decidable.byContradiction fun z => ih u (e2 w) hu z a
        have b1 := (hk (Or.inr b2)).1
        rw [if_pos a, if_neg (fun z => ih (e2 w) v b2 hv z.symm)]
        exact ih (e1 w) v b1 hv
      · rw [if_neg a]
        by_cases b : (cP e1 e2 s w).1 v = (cP e1 e2 s w).1 (e2 w)
        · rw [if_pos b]
          have b2 : ¬ m.testBit (e2 w) = true := fun z => ih (e2 w) v z hv b.symm
          have b1 : ¬ m.testBit (e1 w) = true := fun z => b2 (hk (Or.inl z)).2
          exact ih u (e1 w) hu b1
        · rw [if_neg b]; exact ih u v hu hv
    · have e : cP e1 e2 s (w + 1) = cP e1 e2 s w := if_neg q
      rw [e]; exact ih u v hu hv
theorem bFull : ∀ n, n ≤ 6 → (nI 1 <<< (nI n &&& 31)) - nI 1 = nI (2 ^ n - 1) := by decide
theorem hg_all (hn1 : 0 < n) (hn6 : n ≤ 6) (hsz : sz ≤ 10) (hs : s < 2 ^ 31) (he : ∀ k, k < sz → e1 k < n ∧ e2 k < n) : hgP (nI s) e1 e2 n sz ↔ ∀ k, k < n → (cP e1 e2 s sz).1 k = (cP e1 e2 s sz).1 0 := by
  have hlt := hO_lt (s := s) hn1 he (n - 1)
  have h64 : 2 ^ n ≤ 64 := show 2 ^ n ≤ 2 ^ 6 from Nat.pow_le_pow_right (by omega) hn6
  have zero : ∀ j, (hO e1 e2 s sz j).testBit 0 = true := fun j => by
    induction j with
    | zero => show Nat.testBit 1 0 = true; decide
    | succ j ih => exact hI_mono ih sz
  have hfull : hgP (nI s) e1 e2 n sz ↔ ∀ i, i < n → (hO e1 e2 s sz (n - 1)).testBit i = true := by
    show hgO (nI s) e1 e2 sz (n - 1) = _ ↔ _
    rw [hgO_hO hn1 hn6 hsz hs he, bFull n hn6, nI_eq (by omega) (by omega)]
    constructor
    · intro h i hi
      rw [h, Nat.testBit_two_pow_sub_one]; exact decide_eq_true hi
    · intro h
      refine Nat.eq_of_testBit_eq fun i => ?_
      rw [Nat.testBit_two_pow_sub_one]
      by_cases q : i < n
      · rw [h i q, decide_eq_true q]
      · rw [decide_eq_false q]
        exact Nat.testBit_lt_two_pow (Nat.lt_of_lt_of_le hlt (Nat.pow_le_pow_right (by omega) (by omega)))
  rw [hfull]
  constructor
  · intro h k hk
    have snd : ∀ j i, (hO e1 e2 s sz j).testBit i = true → (cP e1 e2 s sz).1 i = (cP e1 e2 s sz).1 0 := fun j => by
      induction j with
      | zero =>
        intro i hi
        have : i = 0 := by
          refine Decidable.byContradiction fun z => ?_
          have h1 : Nat.testBit 1 i = true := hi
          rw [show (1 : Nat) = 2 ^ 0 from rfl, Nat.testBit_two_pow] at h1
          exact z (of_decide_eq_true h1).symm
        rw [this]
      | succ j ih => exact fun i hi => hI_sound (fun k hk hb => cP_eq sz k hk hb) ih sz (Nat.le_refl _) i hi
    exact snd (n - 1) k (h k hk)
  · intro h i hi
    rcases hO_grow (s := s) he hn1 (n - 1) with q | q
    · refine Decidable.byContradiction fun z => ?_
      exact cP_apart he q sz (Nat.le_refl _) 0 i (zero _) z (h i hi).symm
    · have q2 : n ≤ hCt n (hO e1 e2 s sz (n - 1)) := by omega
      exact kCnt_full (P := fun i => (hO e1 e2 s sz (n - 1)).testBit i = true) n q2 i hi
theorem sets_one (hn1 : 0 < n) (hn6 : n ≤ 6) (hsz : sz ≤ 10) (hs : s < 2 ^ sz) (he : ∀ k, k < sz → e1 k < n ∧ e2 k < n) : (jBc (nI s) = nI (n - 1) ∧ hgP (nI s) e1 e2 n sz) ↔ mPV e1 e2 n sz s = nI 1 := by
  have h10 : s < 1024 := Nat.lt_of_lt_of_le hs (show 2 ^ sz ≤ 2 ^ 10 from Nat.pow_le_pow_right (by omega) hsz)
  have hpc : pcN s 10 = pcN s sz := by rw [show 10 = sz + (10 - sz) by omega]; exact pcN_more hs _
  have hpl := pcN_le s sz
  have hr := (cP_I (s := s) hn1 (by omega) he sz (Nat.le_refl _)).1
  have hle := cP_pc (e1 := e1) (e2 := e2) (s := s) sz
  rw [jBc_pc s h10, hpc, nI_eq (by omega) (by omega), hg_all hn1 hn6 hsz (by omega) he, cP_all hn1 (by omega) he, mPV, mPB_cP hn1 (by omega) he sz (Nat.le_refl _)]
  by_cases q : (cP e1 e2 s sz).2 = pcN s sz
  · rw [if_pos q]
    show _ ↔ nI _ = nI 1
    rw [nI_eq (by omega) (by omega)]; omega
  · rw [if_neg q]
    show _ ↔ (-1 : Int32) = nI 1
    exact ⟨fun h => by omega, fun h => absurd h (by decide)⟩
/-- the trees, by looking at all sets -/
theorem class_sets (hn1 : 0 < n) (hn6 : n ≤ 6) (hsz : sz ≤ 10) (he : ∀ k, k < sz → e1 k < n ∧ e2 k < n) : kCnt (fun k9 => jBc (nI k9) = nI (n - 1) ∧ hgP (nI k9) e1 e2 n sz) (2 ^ sz) = mTrees e1 e2 n sz :=
  kCnt_cg fun s hs => sets_one hn1 hn6 hsz hs he
end Sets
