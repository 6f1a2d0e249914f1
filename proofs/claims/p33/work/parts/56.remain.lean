/-! remainders: the class's answer is the reference's -/
theorem xor_neg {x y : Int64} (hy : 0 ≤ y.toInt) : (x ^^^ y < 0) ↔ x.toInt < 0 := by
  have m : ∀ z : Int64, z.toBitVec.msb = decide (z.toInt < 0) := fun z => BitVec.msb_eq_toInt
  rw [Int64.lt_iff_toInt_lt, show (0 : Int64).toInt = 0 from rfl]
  have h1 : (x ^^^ y).toBitVec.msb = decide ((x ^^^ y).toInt < 0) := m _
  rw [Int64.toBitVec_xor, BitVec.msb_xor, m x, m y, show decide (y.toInt < 0) = false from decide_eq_false (by omega)] at h1
  simp only [Bool.bne_false] at h1
  constructor
  · intro h; rw [decide_eq_true h] at h1; exact of_decide_eq_true h1
  · intro h; rw [decide_eq_true h] at h1; exact of_decide_eq_true h1.symm
theorem jFm_at {x : Int64} {b : Nat} (h0 : 2 ≤ b) (h1 : b ≤ 8) : (jFm x (nI b).toInt64).toInt32 = nI (rM x b) := by
  have hB : (nI b).toInt64.toInt = b := nI64 (by omega)
  have e1 : (lrem x (nI b).toInt64).toInt = x.toInt.tmod b := by rw [lrem_toInt (by omega), hB]
  have hr1 := Int.tmod_lt_of_pos x.toInt (show (0 : Int) < b by omega)
  have hr2 := Int.lt_tmod_of_pos x.toInt (show (0 : Int) < b by omega)
  have h7 := Int.emod_nonneg x.toInt (show (b : Int) ≠ 0 by omega)
  have h8 := Int.emod_lt_of_pos x.toInt (show (0 : Int) < b by omega)
  have hM := rM_lt (x := x) (b := b) (by omega)
  refine toI32 ?_ (by omega)
  unfold jFm
  have hmod : x.toInt % b = if x.toInt < 0 ∧ ¬ x.toInt.tmod b = 0 then x.toInt.tmod b + b else x.toInt.tmod b := by
    have h5 := Int.mul_tdiv_add_tmod x.toInt b
    have h6 : x.toInt % b = (x.toInt.tmod b + b * x.toInt.tdiv b) % b := by rw [Int.add_comm, h5]
    rw [Int.add_mul_emod_self_left] at h6
    by_cases q : x.toInt < 0
    · have hn : x.toInt.tmod b ≤ 0 := by
        have := Int.tmod_nonneg (a := -x.toInt) (b : Int) (by omega)
        rw [Int.neg_tmod] at this; omega
      by_cases z : x.toInt.tmod b = 0
      · rw [if_neg (fun y => y.2 z), h6, z]; simp
      · rw [if_pos ⟨q, z⟩, h6]
        have : (x.toInt.tmod b + b) % b = x.toInt.tmod b % b := by rw [Int.add_emod_right]
        rw [← this, Int.emod_eq_of_lt (by omega) (by omega)]
    · have hn := Int.tmod_nonneg (a := x.toInt) (b : Int) (by omega)
      rw [if_neg (fun y => q y.1), h6, Int.emod_eq_of_lt (by omega) (by omega)]
  have key : (x ^^^ (nI b).toInt64 < 0 ∧ ¬ lrem x (nI b).toInt64 = 0) ↔ (x.toInt < 0 ∧ ¬ x.toInt.tmod b = 0) := by
    rw [xor_neg (by omega), ← e1, z_0]
  have hrm : ((rM x b : Nat) : Int) = x.toInt % b := by unfold rM; omega
  rw [hrm, hmod]
  by_cases q : x.toInt < 0 ∧ ¬ x.toInt.tmod b = 0
  · rw [if_pos (key.mpr q), if_pos q, z_add, e1, hB] <;> rw [e1, hB] <;> omega
  · rw [if_neg (fun z => q (key.mp z)), if_neg q]; exact e1
/-- the class's first code -/
def wN (g : Nat → Int64) (b : Nat) : Nat → Nat
  | 0 => 0
  | k + 1 => wN g b k + rM (g k) b * 8 ^ k
theorem wN_lt {g : Nat → Int64} {b : Nat} (hb : 2 ≤ b) (hb8 : b ≤ 8) : ∀ k, wN g b k < 8 ^ k
  | 0 => by simp [wN]
  | k + 1 => by
    have h1 := wN_lt (g := g) hb hb8 k
    have h2 := rM_lt (x := g k) (b := b) (by omega)
    have h3 : rM (g k) b * 8 ^ k ≤ 7 * 8 ^ k := Nat.mul_le_mul_right _ (by omega)
    rw [wN, Nat.pow_succ]; omega
theorem wCode_at {g : Nat → Int64} {b : Nat} (hb : 2 ≤ b) (hb8 : b ≤ 8) : ∀ k, k ≤ 4 → wCode g (nI b) k = nI (wN g b k)
  | 0, _ => rfl
  | k + 1, hk => by
    have h1 := wN_lt (g := g) hb hb8 k
    have h2 := rM_lt (x := g k) (b := b) (by omega)
    have h3 : 8 ^ k ≤ 8 ^ 3 := Nat.pow_le_pow_right (by omega) (by omega)
    rw [wCode, wCode_at hb hb8 k (by omega), jFm_at hb hb8, put_at (by omega) (by omega) (by omega) (by unfold rDig; rw [Nat.div_eq_of_lt h1])]
    rfl
theorem wN_dig {g : Nat → Int64} {b : Nat} (hb : 2 ≤ b) (hb8 : b ≤ 8) {j : Nat} : ∀ k, k ≤ 4 → j < k → rDig (wN g b k) j = rM (g j) b
  | 0, _, h => absurd h (Nat.not_lt_zero _)
  | k + 1, hk, h => by
    have h1 := wN_lt (g := g) hb hb8 k
    have h2 := rM_lt (x := g k) (b := b) (by omega)
    by_cases q : j = k
    · subst q
      unfold rDig
      rw [wN, Nat.add_mul_div_right _ _ (Nat.pow_pos (by omega)), Nat.div_eq_of_lt h1, Nat.zero_add]
      exact Nat.mod_eq_of_lt (by omega)
    · rw [← wN_dig hb hb8 k (by omega) (by omega)]
      unfold rDig
      rw [wN]
      obtain ⟨d, rfl⟩ : ∃ d, k = j + 1 + d := ⟨k - (j + 1), by omega⟩
      rw [show rM (g (j + 1 + d)) b * 8 ^ (j + 1 + d) = 8 ^ j * (8 * (rM (g (j + 1 + d)) b * 8 ^ d)) from by rw [Nat.pow_add, Nat.pow_succ]; grind, Nat.add_mul_div_left _ _ (Nat.pow_pos (by omega)), Nat.add_mul_mod_self_left]
theorem rInv_start {b : Nat} {c0 : Nat} (h0 : c0 < 4096) (gs gw : Nat → Int64) : rInv b c0 0 (nI 0) (rNs (fun j => if j < 64 then 0 else gs j) c0) (rNw (fun j => if j < 64 then 0 else gs j) (fun j => if j < 64 then 0 else gw j) c0) := by
  have zero : ∀ (g : Nat → Int64) c, c < 4096 → ¬ wI (fun j => if j < 64 then 0 else g j) c := fun g c hc h => by
    unfold wI bI at h
    simp only [if_pos (show c / 64 < 64 by omega)] at h
    have e : ∀ i, i < 64 → (0 : Int64).toBitVec.getLsbD i = false := by decide
    rw [e _ (Nat.mod_lt _ (by omega))] at h
    cases h
  have ins : ∀ c, c < 4096 → (wI (rNs (fun j => if j < 64 then 0 else gs j) c0) c ↔ c = c0) := fun c hc => by
    rw [rNs_at h0]; exact ⟨fun z => z.elim (fun z => absurd z (zero gs c hc)) id, Or.inr⟩
  have inw : ∀ c, c < 4096 → (wI (rNw (fun j => if j < 64 then 0 else gs j) (fun j => if j < 64 then 0 else gw j) c0) c ↔ c = c0) := fun c hc => by
    rw [rNw_at h0]; exact ⟨fun z => z.elim (fun z => absurd z (zero gw c hc)) (fun z => z.1), fun z => Or.inr ⟨z, zero gs c0 h0⟩⟩
  refine ⟨fun c hc z => (ins c hc).mpr ((inw c hc).mp z), fun c hc z => by rw [(ins c hc).mp z]; exact Rch.z b c0, (ins c0 h0).mpr rfl, fun c hc z => absurd ((inw c hc).mpr ((ins c hc).mp z.1)) z.2, fSet.zero.cg fun d => ⟨fun z => z.elim, fun ⟨c, hc, z, _⟩ => absurd ((inw c hc).mpr ((ins c hc).mp z.1)) z.2⟩, Nat.zero_le _⟩
/-- the set of remainders of what turns reach -/
abbrev rSet (b c0 : Nat) : Nat → Prop := fun d => ∃ c, Rch b c0 c ∧ ∃ i, i < 4 ∧ d = rDig c i
theorem class_rem {b : Nat} (hb : 2 ≤ b) (hb8 : b ≤ 8) {c0 : Nat} (h0 : c0 < 4096) (gs gw : Nat → Int64) : fSet (rGo (nI b) 4096 (nI 0, rNs (fun j => if j < 64 then 0 else gs j) c0, rNw (fun j => if j < 64 then 0 else gs j) (fun j => if j < 64 then 0 else gw j) c0)).1 (rSet b c0) := by
  obtain ⟨gs', gw', ⟨a1, a2, a3, a4, a5, -⟩, hw⟩ := rGo_at hb hb8 h0 4096 0 _ _ _ (by omega) (rInv_start h0 gs gw)
  have done : ∀ c, c < 4096 → wI gs' c → wDone gs' gw' c := fun c hc z => ⟨z, hw c hc⟩
  have all : ∀ c, Rch b c0 c → c < 4096 ∧ wI gs' c := fun c h => h (fun c => c < 4096 ∧ wI gs' c) ⟨h0, a3⟩ fun c hc k hk => ⟨rNx_lt (by omega) hb8 hc.1 hk, a4 c hc.1 (done c hc.1 hc.2) k hk⟩
  refine a5.cg fun d => ⟨fun ⟨c, hc, z, y⟩ => ⟨c, a2 c hc z.1, y⟩, fun ⟨c, z, y⟩ => ⟨c, (all c z).1, done c (all c z).1 (all c z).2, y⟩⟩
/-! the reference's walk -/
theorem rRow_mem (b : Nat) (L : List Nat) (c x : Nat) : ∀ k, (x ∈ rRow b L c k ↔ x ∈ L ∨ ∃ i, i < k ∧ x = rNx b c i) ∧ ∃ E, rRow b L c k = L ++ E
  | 0 => ⟨⟨Or.inl, fun z => z.elim id (fun ⟨i, hi, _⟩ => absurd hi (Nat.not_lt_zero _))⟩, [], by simp [rRow]⟩
  | k + 1 => by
    obtain ⟨h1, E, h2⟩ := rRow_mem b L c x k
    have hn := rRow_mem b L c (rNx b c k) k
    rw [rRow]
    split
    · rename_i q
      refine ⟨h1.trans ⟨fun z => z.imp id (fun ⟨i, hi, y⟩ => ⟨i, by omega, y⟩), ?_⟩, E, h2⟩
      rintro (z | ⟨i, hi, y⟩)
      · exact Or.inl z
      · by_cases e : i = k
        · rw [y, e]; exact hn.1.mp q
        · exact Or.inr ⟨i, by omega, y⟩
    · refine ⟨?_, E ++ [rNx b c k], by rw [h2, List.append_assoc]⟩
      rw [List.mem_append, List.mem_singleton, h1]
      constructor
      · rintro ((z | ⟨i, hi, y⟩) | z)
        · exact Or.inl z
        · exact Or.inr ⟨i, by omega, y⟩
        · exact Or.inr ⟨k, by omega, z⟩
      · rintro (z | ⟨i, hi, y⟩)
        · exact Or.inl (Or.inl z)
        · by_cases e : i = k
          · exact Or.inr (e ▸ y)
          · exact Or.inl (Or.inr ⟨i, by omega, y⟩)
theorem rQ_s (b c n : Nat) : (∃ x, (rQ b c n)[n]? = some x ∧ rQ b c (n + 1) = rRow b (rQ b c n) x 4 ∧ rS b c (n + 1) = rO (rS b c n) x 4) ∨ ((rQ b c n)[n]? = none ∧ rQ b c (n + 1) = rQ b c n ∧ rS b c (n + 1) = rS b c n) := by
  rw [rQ, rS]
  cases q : (rQ b c n)[n]? with
  | none => exact Or.inr ⟨rfl, rfl, rfl⟩
  | some x => exact Or.inl ⟨x, rfl, rfl, rfl⟩
theorem rQ_mono (b c n : Nat) : ∀ d, ∃ E, rQ b c (n + d) = rQ b c n ++ E
  | 0 => ⟨[], by simp⟩
  | d + 1 => by
    obtain ⟨E, h⟩ := rQ_mono b c n d
    rcases rQ_s b c (n + d) with ⟨x, -, h2, -⟩ | ⟨-, h2, -⟩
    · obtain ⟨-, F, h3⟩ := rRow_mem b (rQ b c (n + d)) x 0 4
      exact ⟨E ++ F, by rw [← Nat.add_assoc, h2, h3, h, List.append_assoc]⟩
    · exact ⟨E, by rw [← Nat.add_assoc, h2, h]⟩
theorem rQ_stop {b c n : Nat} (h : (rQ b c n)[n]? = none) : ∀ d, rQ b c (n + d) = rQ b c n
  | 0 => rfl
  | d + 1 => by
    have ih := rQ_stop h d
    rcases rQ_s b c (n + d) with ⟨x, h1, -, -⟩ | ⟨-, h2, -⟩
    · rw [ih] at h1
      have a := List.getElem?_eq_none_iff.mp h
      have := (List.getElem?_eq_some_iff.mp h1).1
      omega
    · rw [← Nat.add_assoc, h2, ih]
theorem rQ_rch {b c : Nat} : ∀ n, ∀ x ∈ rQ b c n, Rch b c x
  | 0, x, h => by
    have : x = c := List.mem_singleton.mp h
    rw [this]; exact Rch.z b c
  | n + 1, x, h => by
    rcases rQ_s b c n with ⟨y, h1, h2, -⟩ | ⟨-, h2, -⟩
    · rw [h2] at h
      rcases (rRow_mem b _ y x 4).1.mp h with z | ⟨i, hi, z⟩
      · exact rQ_rch n x z
      · rw [z]; exact (rQ_rch n y (List.mem_of_getElem? h1)).s hi
    · rw [h2] at h; exact rQ_rch n x h
theorem rO_set {S : Int32} {P : Nat → Prop} (h : fSet S P) (c : Nat) : ∀ k, fSet (rO S c k) (fun d => P d ∨ ∃ i, i < k ∧ d = rDig c i)
  | 0 => h.cg fun d => ⟨Or.inl, fun z => z.elim id (fun ⟨i, hi, _⟩ => absurd hi (Nat.not_lt_zero _))⟩
  | k + 1 => ((rO_set h c k).add (rDig_lt c k)).cg fun d => by
    constructor
    · rintro ((z | ⟨i, hi, z⟩) | z)
      · exact Or.inl z
      · exact Or.inr ⟨i, by omega, z⟩
      · exact Or.inr ⟨k, by omega, z⟩
    · rintro (z | ⟨i, hi, z⟩)
      · exact Or.inl (Or.inl z)
      · by_cases q : i = k
        · exact Or.inr (q ▸ z)
        · exact Or.inl (Or.inr ⟨i, by omega, z⟩)
theorem rS_set (b c : Nat) : ∀ n, fSet (rS b c n) (fun d => ∃ i, i < n ∧ ∃ x, (rQ b c i)[i]? = some x ∧ ∃ j, j < 4 ∧ d = rDig x j)
  | 0 => fSet.zero.cg fun d => ⟨fun z => z.elim, fun ⟨i, hi, _⟩ => absurd hi (Nat.not_lt_zero _)⟩
  | n + 1 => by
    have ih := rS_set b c n
    rcases rQ_s b c n with ⟨x, h1, -, h3⟩ | ⟨h1, -, h3⟩
    · rw [h3]
      refine (rO_set ih x 4).cg fun d => ?_
      constructor
      · rintro (⟨i, hi, z⟩ | ⟨j, hj, z⟩)
        · exact ⟨i, by omega, z⟩
        · exact ⟨n, by omega, x, h1, j, hj, z⟩
      · rintro ⟨i, hi, y, hy, z⟩
        by_cases q : i = n
        · subst q
          rw [h1] at hy
          cases hy
          exact Or.inr z
        · exact Or.inl ⟨i, by omega, y, hy, z⟩
    · rw [h3]
      refine ih.cg fun d => ⟨fun ⟨i, hi, z⟩ => ⟨i, by omega, z⟩, fun ⟨i, hi, y, hy, z⟩ => ?_⟩
      by_cases q : i = n
      · subst q; rw [h1] at hy; cases hy
      · exact ⟨i, by omega, y, hy, z⟩
theorem model_rem {b c M : Nat} (hM : (rQ b c M).length = M) : fSet (rS b c M) (rSet b c) := by
  have step : ∀ n, n < M → ∃ x, (rQ b c n)[n]? = some x ∧ (rQ b c M)[n]? = some x ∧ ∀ k, k < 4 → rNx b c k ∈ rQ b c M ∨ True := fun n hn => by
    obtain ⟨E, hE⟩ := rQ_mono b c n (M - n)
    rw [show n + (M - n) = M by omega] at hE
    cases q : (rQ b c n)[n]? with
    | none =>
      have h1 := rQ_stop q (M - n)
      rw [show n + (M - n) = M by omega] at h1
      have h2 := List.getElem?_eq_none_iff.mp q
      rw [h1] at hM
      omega
    | some x =>
      refine ⟨x, rfl, ?_, fun _ _ => Or.inr trivial⟩
      rw [hE, List.getElem?_append_left (List.getElem?_eq_some_iff.mp q).1]; exact q
  have closed : ∀ x ∈ rQ b c M, ∀ k, k < 4 → rNx b x k ∈ rQ b c M := fun x hx k hk => by
    obtain ⟨n, hn⟩ := List.getElem?_of_mem hx
    have hlt : n < M := by have := (List.getElem?_eq_some_iff.mp hn).1; omega
    obtain ⟨y, h1, h2, -⟩ := step n hlt
    rw [hn] at h2
    cases h2
    rcases rQ_s b c n with ⟨z, a1, a2, -⟩ | ⟨a1, -, -⟩
    · rw [h1] at a1
      cases a1
      obtain ⟨E, hE⟩ := rQ_mono b c (n + 1) (M - (n + 1))
      rw [show n + 1 + (M - (n + 1)) = M by omega] at hE
      rw [hE, List.mem_append, a2]
      exact Or.inl ((rRow_mem b _ x _ 4).1.mpr (Or.inr ⟨k, hk, rfl⟩))
    · rw [h1] at a1; cases a1
  have start : c ∈ rQ b c M := by
    obtain ⟨E, hE⟩ := rQ_mono b c 0 M
    rw [Nat.zero_add] at hE
    rw [hE]; exact List.mem_append_left _ (List.mem_singleton.mpr rfl)
  have all : ∀ x, Rch b c x → x ∈ rQ b c M := fun x h => h (fun x => x ∈ rQ b c M) start closed
  refine (rS_set b c M).cg fun d => ?_
  constructor
  · rintro ⟨i, hi, x, hx, z⟩
    exact ⟨x, rQ_rch i x (List.mem_of_getElem? hx), z⟩
  · rintro ⟨x, hx, z⟩
    obtain ⟨n, hn⟩ := List.getElem?_of_mem (all x hx)
    have hlt : n < M := by have := (List.getElem?_eq_some_iff.mp hn).1; omega
    obtain ⟨y, h1, h2, -⟩ := step n hlt
    rw [hn] at h2
    cases h2
    exact ⟨n, hlt, x, h1, z⟩
/-! the digits the other way round -/
def rev (c : Nat) : Nat := rDig c 3 + 8 * rDig c 2 + 64 * rDig c 1 + 512 * rDig c 0
theorem dig4 {x0 x1 x2 x3 : Nat} (h0 : x0 < 8) (h1 : x1 < 8) (h2 : x2 < 8) (h3 : x3 < 8) : rDig (x0 + 8 * x1 + 64 * x2 + 512 * x3) 0 = x0 ∧ rDig (x0 + 8 * x1 + 64 * x2 + 512 * x3) 1 = x1 ∧ rDig (x0 + 8 * x1 + 64 * x2 + 512 * x3) 2 = x2 ∧ rDig (x0 + 8 * x1 + 64 * x2 + 512 * x3) 3 = x3 := by
  unfold rDig; simp only [Nat.pow_zero, Nat.div_one, Nat.pow_one, Nat.reducePow]; omega
theorem rev_dig (c : Nat) {k : Nat} (hk : k < 4) : rDig (rev c) k = rDig c (3 - k) := by
  obtain ⟨a, b, d, e⟩ := dig4 (rDig_lt c 3) (rDig_lt c 2) (rDig_lt c 1) (rDig_lt c 0)
  rcases (show k = 0 ∨ k = 1 ∨ k = 2 ∨ k = 3 by omega) with rfl | rfl | rfl | rfl
  · exact a
  · exact b
  · exact d
  · exact e
theorem rev_lt (c : Nat) : rev c < 4096 := by
  have h0 := rDig_lt c 0; have h1 := rDig_lt c 1; have h2 := rDig_lt c 2; have h3 := rDig_lt c 3
  unfold rev; omega
theorem dig_sum {c : Nat} (h : c < 4096) : c = rDig c 0 + 8 * rDig c 1 + 64 * rDig c 2 + 512 * rDig c 3 := by
  unfold rDig; simp only [Nat.pow_zero, Nat.div_one, Nat.pow_one, Nat.reducePow]; omega
theorem dig_eq {c d : Nat} (hc : c < 4096) (hd : d < 4096) (h : ∀ k, k < 4 → rDig c k = rDig d k) : c = d := by
  rw [dig_sum hc, dig_sum hd, h 0 (by omega), h 1 (by omega), h 2 (by omega), h 3 (by omega)]
theorem rev_rev {c : Nat} (h : c < 4096) : rev (rev c) = c := dig_eq (rev_lt _) h fun k hk => by rw [rev_dig _ hk, rev_dig _ (by omega)]; congr 1; omega
theorem rNx_dig {b c k : Nat} (hb : 2 ≤ b) (hb8 : b ≤ 8) (hc : c < 4096) (hk : k < 4) {j : Nat} (hj : j < 4) : rDig (rNx b c k) j = if j = k then rNr b c k else rDig c j := by
  have hr := rNr_lt (b := b) (c := c) (k := k) (by omega)
  unfold rNx
  generalize rNr b c k = r at hr ⊢
  unfold rDig
  rcases (show k = 0 ∨ k = 1 ∨ k = 2 ∨ k = 3 by omega) with rfl | rfl | rfl | rfl <;> rcases (show j = 0 ∨ j = 1 ∨ j = 2 ∨ j = 3 by omega) with rfl | rfl | rfl | rfl <;> simp only [Nat.pow_zero, Nat.div_one, Nat.pow_one, Nat.reducePow, Nat.mul_one] <;> simp <;> omega
theorem rNr_rev {b c k : Nat} (hk : k < 4) : rNr b (rev c) k = rNr b c (3 - k) := by
  unfold rNr
  rw [rev_dig c hk]
  have : mSumD (rev c) 4 = mSumD c 4 := by
    simp only [mSumD]
    rw [rev_dig c (by omega), rev_dig c (by omega), rev_dig c (by omega), rev_dig c (by omega)]
    simp only [Nat.sub_zero, Nat.reduceSub]; omega
  rw [this]
theorem rNx_rev {b c k : Nat} (hb : 2 ≤ b) (hb8 : b ≤ 8) (hc : c < 4096) (hk : k < 4) : rNx b (rev c) k = rev (rNx b c (3 - k)) := by
  refine dig_eq (rNx_lt (by omega) hb8 (rev_lt c) hk) (rev_lt _) fun j hj => ?_
  rw [rNx_dig hb hb8 (rev_lt c) hk hj, rev_dig (rNx b c (3 - k)) hj, rNx_dig hb hb8 hc (by omega) (by omega), rNr_rev hk, rev_dig c hj]
  by_cases q : j = k
  · rw [if_pos q, if_pos (by omega)]
  · rw [if_neg q, if_neg (by omega)]
theorem Rch_rev {b c0 c : Nat} (hb : 2 ≤ b) (hb8 : b ≤ 8) (h0 : c0 < 4096) (h : Rch b c0 c) : Rch b (rev c0) (rev c) :=
  (h (fun c => c < 4096 ∧ Rch b (rev c0) (rev c)) ⟨h0, Rch.z _ _⟩ fun c hc k hk => ⟨rNx_lt (by omega) hb8 hc.1 hk, by
    have := hc.2.s (show 3 - k < 4 by omega)
    rw [rNx_rev hb hb8 hc.1 (by omega), show 3 - (3 - k) = k by omega] at this
    exact this⟩).2
theorem rSet_rev {b c0 : Nat} (hb : 2 ≤ b) (hb8 : b ≤ 8) (h0 : c0 < 4096) (d : Nat) : rSet b (rev c0) d ↔ rSet b c0 d := by
  constructor
  · rintro ⟨c, h, i, hi, z⟩
    have := Rch_rev hb hb8 (rev_lt c0) h
    rw [rev_rev h0] at this
    exact ⟨rev c, this, 3 - i, by omega, by rw [rev_dig c (by omega), show 3 - (3 - i) = i by omega]; exact z⟩
  · rintro ⟨c, h, i, hi, z⟩
    exact ⟨rev c, Rch_rev hb hb8 h0 h, 3 - i, by omega, by rw [rev_dig c (by omega), show 3 - (3 - i) = i by omega]; exact z⟩
theorem rCode_rev {b8 : Nat → Int64} {t b : Nat} {g : Nat → Int64} (hb : 2 ≤ b) (hb8 : b ≤ 8) (h : ∀ k, k < 4 → b8 (4 * t + k) = g k) : rCode b8 t b 4 = rev (wN g b 4) := by
  unfold rev
  rw [wN_dig hb hb8 4 (by omega) (by omega), wN_dig hb hb8 4 (by omega) (by omega), wN_dig hb hb8 4 (by omega) (by omega), wN_dig hb hb8 4 (by omega) (by omega)]
  simp only [rCode]
  rw [h 0 (by omega), h 1 (by omega), h 2 (by omega), h 3 (by omega)]
  omega
/-- the answers are alike -/
theorem rem_m {b8 : Nat → Int64} {t b M : Nat} {g : Nat → Int64} (hb : 2 ≤ b) (hb8 : b ≤ 8) (h : ∀ k, k < 4 → b8 (4 * t + k) = g k) (gs gw : Nat → Int64) (hM : (rQ b (rCode b8 t b 4) M).length = M) : (rGo (nI b) 4096 (nI 0, rNs (fun j => if j < 64 then 0 else gs j) (wCode g (nI b) 4).toNatClampNeg, rNw (fun j => if j < 64 then 0 else gs j) (fun j => if j < 64 then 0 else gw j) (wCode g (nI b) 4).toNatClampNeg)).1 = rS b (rCode b8 t b 4) M := by
  have hlt := wN_lt (g := g) hb hb8 4
  have hlt : wN g b 4 < 4096 := by simpa using hlt
  rw [wCode_at hb hb8 4 (Nat.le_refl _), nI_clamp (by omega)]
  have h1 := class_rem hb hb8 hlt gs gw
  have h2 := model_rem hM
  rw [rCode_rev hb hb8 h] at h2 ⊢
  exact h1.eq (h2.cg fun d => rSet_rev hb hb8 hlt d)
