/-! remainders: whatever turns reach, by either walk -/
abbrev wI (g : Nat → Int64) (c : Nat) : Prop := bI (g (c / 64)) (c % 64)
theorem rNs_at {gs : Nat → Int64} {cd c : Nat} (h : cd < 4096) : wI (rNs gs cd) c ↔ wI gs c ∨ c = cd := by
  unfold rNs
  by_cases q : gs (cd / 64) &&& rBit cd = 0
  · rw [if_pos q]
    unfold wI
    by_cases e : c / 64 = cd / 64
    · rw [e, vp_s, b_or h]
      exact or_congr Iff.rfl ⟨fun z => by omega, fun z => by rw [z]⟩
    · rw [vp_n _ _ e]
      exact ⟨Or.inl, fun z => z.elim id (fun z => absurd (by rw [z]) e)⟩
  · rw [if_neg q]
    have := Decidable.not_not.mp (fun z => q ((b_and0 h).mpr z))
    exact ⟨Or.inl, fun z => z.elim id (fun z => by rw [z]; exact this)⟩
theorem rNw_at {gs gw : Nat → Int64} {cd c : Nat} (h : cd < 4096) : wI (rNw gs gw cd) c ↔ wI gw c ∨ (c = cd ∧ ¬ wI gs cd) := by
  unfold rNw
  by_cases q : gs (cd / 64) &&& rBit cd = 0
  · rw [if_pos q]
    have hn := (b_and0 h).mp q
    unfold wI
    by_cases e : c / 64 = cd / 64
    · rw [e, vp_s, b_or h]
      exact or_congr Iff.rfl ⟨fun z => ⟨by omega, hn⟩, fun z => by rw [z.1]⟩
    · rw [vp_n _ _ e]
      exact ⟨Or.inl, fun z => z.elim id (fun z => absurd (by rw [z.1]) e)⟩
  · rw [if_neg q]
    have := Decidable.not_not.mp (fun z => q ((b_and0 h).mpr z))
    exact ⟨Or.inl, fun z => z.elim id (fun z => absurd this z.2)⟩
theorem rFst_at (gw : Nat → Int64) : ∀ n k, k ≤ rFst gw n k ∧ rFst gw n k ≤ k + n ∧ (∀ i, k ≤ i → i < rFst gw n k → gw i = 0) ∧ (rFst gw n k < k + n → gw (rFst gw n k) ≠ 0)
  | 0, k => ⟨Nat.le_refl _, Nat.le_refl _, fun i h1 h2 => absurd h2 (Nat.not_lt.mpr h1), fun h => absurd h (Nat.lt_irrefl _)⟩
  | n + 1, k => by
    rw [rFst]
    by_cases q : gw k = 0
    · rw [if_pos q]
      obtain ⟨a, b, c, d⟩ := rFst_at gw n (k + 1)
      exact ⟨by omega, by omega, fun i h1 h2 => by by_cases e : i = k; rw [e]; exact q; exact c i (by omega) h2, fun h => d (by omega)⟩
    · rw [if_neg q]
      exact ⟨Nat.le_refl _, by omega, fun i h1 h2 => absurd h2 (Nat.not_lt.mpr h1), fun _ => q⟩
theorem rTk_some {gw : Nat → Int64} (h : rFst gw 64 0 < 64) : ∃ c, c < 4096 ∧ rTkC gw = nI c ∧ wI gw c ∧ ∀ c', wI (rTkW gw) c' ↔ wI gw c' ∧ c' ≠ c := by
  obtain ⟨-, -, -, hd⟩ := rFst_at gw 64 0
  have hd := hd (by omega)
  obtain ⟨t, ht, hb, e⟩ := jTz_ok hd
  unfold rTkC rTkW
  rw [if_pos h, if_pos h, e, nI_add]
  generalize rFst gw 64 0 = j at *
  refine ⟨64 * j + t, by omega, rfl, ?_, fun c' => ?_⟩
  · unfold wI
    rw [show (64 * j + t) / 64 = j by omega, show (64 * j + t) % 64 = t by omega]
    exact hb.1
  · unfold wI
    by_cases q : c' / 64 = j
    · rw [q, vp_s, b_take hb]
      exact and_congr Iff.rfl ⟨fun z y => z (by omega), fun z y => z (by omega)⟩
    · rw [vp_n _ _ q]
      exact ⟨fun z => ⟨z, fun y => q (by omega)⟩, fun z => z.1⟩
theorem rTk_none {gw : Nat → Int64} (h : ¬ rFst gw 64 0 < 64) : rTkC gw = -1 ∧ ∀ c, c < 4096 → ¬ wI gw c := by
  obtain ⟨-, -, hc, -⟩ := rFst_at gw 64 0
  refine ⟨if_neg h, fun c hc4 hw => ?_⟩
  have := hc (c / 64) (by omega) (by omega)
  unfold wI bI at hw
  rw [this] at hw
  have e : ∀ i, i < 64 → (0 : Int64).toBitVec.getLsbD i = false := by decide
  rw [e _ (Nat.mod_lt _ (by omega))] at hw
  cases hw
theorem rTk_m1 {gw : Nat → Int64} : rTkC gw = -1 ↔ ¬ rFst gw 64 0 < 64 := by
  constructor
  · intro h z
    obtain ⟨c, h1, h2, -⟩ := rTk_some z
    rw [h2] at h
    exact nI_ne1 (by omega) h
  · exact fun z => (rTk_none z).1
/-! codes -/
set_option maxRecDepth 100000 in
theorem clr_ok : ∀ pl, pl < 4 → ∀ q, q < 64 → ∀ r, r < 64 → nI (64 * q + r) &&& (((nI 7) <<< ((nI (3 * pl)) &&& 31)) ^^^ (-1)) = nI (64 * q + r - rDig (64 * q + r) pl * 8 ^ pl) := by decide +kernel
set_option maxRecDepth 100000 in
theorem put_ok : ∀ pl, pl < 4 → ∀ q, q < 32 → ∀ p, p < 16 → ∀ r, r < 8 → nI ((16 * q + p) / 8 ^ pl * 8 ^ (pl + 1) + (16 * q + p) % 8 ^ pl) ||| (nI r <<< ((nI (3 * pl)) &&& 31)) = nI ((16 * q + p) / 8 ^ pl * 8 ^ (pl + 1) + (16 * q + p) % 8 ^ pl + r * 8 ^ pl) := by decide +kernel
theorem bit_ok : ∀ q, q < 16 → ∀ p, p < 16 → ∀ d, d < 8 → nI (16 * q + p) ||| (nI 1 <<< (nI d &&& 31)) = nI ((16 * q + p) ||| 2 ^ d) := by decide +kernel
theorem fmI_ok : ∀ o, o < 29 → ∀ d, d < 8 → ∀ b, b < 9 → 2 ≤ b → jFmI ((nI 2) * nI o - nI d) (nI b) = nI (((2 * (o : Int) - d) % (b : Int)).toNat) := by decide +kernel
theorem rOth_at {c : Nat} (hc : c < 4096) (pl : Nat) : ∀ k, k ≤ 4 → rOth (nI c) pl k = nI (mSumD c k - if pl < k then rDig c pl else 0)
  | 0, _ => rfl
  | k + 1, hk => by
    have ih := rOth_at hc pl k (by omega)
    have hle : pl < k → rDig c pl ≤ mSumD c k := fun h => by
      have : ∀ m, pl < m → rDig c pl ≤ mSumD c m := by
        intro m
        induction m with
        | zero => intro z; omega
        | succ m ih => intro z; rw [mSumD]; by_cases e : pl = m; rw [e]; omega; have := ih (by omega); omega
      exact this k h
    rw [rOth, ih, rAt, rDig_at hc (by omega), mSumD]
    by_cases q : k = pl
    · subst q
      rw [if_pos rfl, if_neg (by omega), if_pos (by omega), nI_add]; congr 1; omega
    · rw [if_neg q]
      by_cases q2 : pl < k
      · rw [if_pos q2, if_pos (by omega), nI_add]; congr 1; have := hle q2; omega
      · rw [if_neg q2, if_neg (by omega), nI_add]; congr 1
theorem put_at {c pl r : Nat} (hc : c < 4096) (hp : pl < 4) (hr : r < 8) (h0 : rDig c pl = 0) : nI c ||| (nI r <<< ((nI (3 * pl)) &&& 31)) = nI (c + r * 8 ^ pl) := by
  have e : ∀ x, x < 512 → x / 8 ^ pl * 8 ^ (pl + 1) + x % 8 ^ pl = c → nI c ||| (nI r <<< ((nI (3 * pl)) &&& 31)) = nI (c + r * 8 ^ pl) := fun x hx hxc => by
    have := put_ok pl hp (x / 16) (by omega) (x % 16) (by omega) r hr
    rw [show 16 * (x / 16) + x % 16 = x by omega, hxc] at this
    exact this
  unfold rDig at h0
  refine e (c / 8 ^ (pl + 1) * 8 ^ pl + c % 8 ^ pl) ?_ ?_
  · rcases (show pl = 0 ∨ pl = 1 ∨ pl = 2 ∨ pl = 3 by omega) with rfl | rfl | rfl | rfl <;> simp only [Nat.reduceAdd, Nat.reducePow, Nat.pow_zero] at * <;> omega
  · rcases (show pl = 0 ∨ pl = 1 ∨ pl = 2 ∨ pl = 3 by omega) with rfl | rfl | rfl | rfl <;> simp only [Nat.reduceAdd, Nat.reducePow, Nat.pow_zero] at * <;> omega
theorem rTc_at {b c pl : Nat} (hb : 2 ≤ b) (hb8 : b ≤ 8) (hc : c < 4096) (hp : pl < 4) : rTc (nI c) pl (nI b) = nI (rNx b c pl) := by
  have hd := rDig_lt c pl
  have hs := mSumD_le c 4
  have hle : rDig c pl ≤ mSumD c 4 := by
    simp only [mSumD]
    rcases (show pl = 0 ∨ pl = 1 ∨ pl = 2 ∨ pl = 3 by omega) with rfl | rfl | rfl | rfl <;> omega
  have e1 : rOth (nI c) pl 4 = nI (mSumD c 4 - rDig c pl) := by rw [rOth_at hc pl 4 (Nat.le_refl _), if_pos hp]
  have e2 : rAt (nI c) pl = nI (rDig c pl) := rDig_at hc hp
  have e3 := fmI_ok (mSumD c 4 - rDig c pl) (by omega) (rDig c pl) hd b (by omega) hb
  have e4 : ((2 * ((mSumD c 4 - rDig c pl : Nat) : Int) - rDig c pl) % (b : Int)).toNat = rNr b c pl := by
    unfold rNr
    rw [Int.ofNat_sub hle]
  have hr := rNr_lt (b := b) (c := c) (k := pl) (by omega)
  unfold rTc
  rw [e1, e2, e3, e4]
  have e5 := clr_ok pl hp (c / 64) (by omega) (c % 64) (by omega)
  rw [show 64 * (c / 64) + c % 64 = c by omega] at e5
  rw [e5]
  have h0 := rDig_le pl c
  have hz : rDig (c - rDig c pl * 8 ^ pl) pl = 0 := by
    unfold rDig at *
    rcases (show pl = 0 ∨ pl = 1 ∨ pl = 2 ∨ pl = 3 by omega) with rfl | rfl | rfl | rfl <;> simp only [Nat.reducePow, Nat.pow_zero] at * <;> omega
  rw [put_at (by omega) hp (by omega) hz]
  congr 1
  unfold rNx
  omega
/-- what turns reach -/
def Rch (b c0 c : Nat) : Prop := ∀ X : Nat → Prop, X c0 → (∀ c, X c → ∀ k, k < 4 → X (rNx b c k)) → X c
theorem Rch.z (b c0 : Nat) : Rch b c0 c0 := fun X h _ => h
theorem Rch.s {b c0 c k : Nat} (h : Rch b c0 c) (hk : k < 4) : Rch b c0 (rNx b c k) := fun X h0 h1 => h1 _ (h X h0 h1) k hk
theorem Rch.lt {b c0 c : Nat} (hb : 2 ≤ b) (hb8 : b ≤ 8) (h0 : c0 < 4096) (h : Rch b c0 c) : c < 4096 :=
  h (fun c => c < 4096) h0 fun c hc k hk => rNx_lt (by omega) hb8 hc hk
/-- a set of remainders, as bits -/
def fSet (fd : Int32) (P : Nat → Prop) : Prop := ∃ m, m < 256 ∧ fd = nI m ∧ ∀ k, (m.testBit k = true ↔ P k)
theorem fSet.add {fd : Int32} {P : Nat → Prop} (h : fSet fd P) {d : Nat} (hd : d < 8) : fSet (fd ||| (nI 1 <<< (nI d &&& 31))) (fun k => P k ∨ k = d) := by
  obtain ⟨m, h1, rfl, h2⟩ := h
  refine ⟨m ||| 2 ^ d, ?_, ?_, fun k => ?_⟩
  · have : 2 ^ d ≤ 2 ^ 7 := Nat.pow_le_pow_right (by omega) (by omega)
    exact Nat.or_lt_two_pow (n := 8) h1 (by omega)
  · have := bit_ok (m / 16) (by omega) (m % 16) (by omega) d hd
    rw [show 16 * (m / 16) + m % 16 = m by omega] at this
    exact this
  · rw [Nat.testBit_or, Nat.testBit_two_pow, Bool.or_eq_true, h2 k, decide_eq_true_eq]
    exact or_congr Iff.rfl eq_comm
theorem fSet.cg {fd : Int32} {P Q : Nat → Prop} (h : fSet fd P) (e : ∀ k, P k ↔ Q k) : fSet fd Q := by
  obtain ⟨m, h1, h2, h3⟩ := h
  exact ⟨m, h1, h2, fun k => (h3 k).trans (e k)⟩
theorem fSet.eq {f1 f2 : Int32} {P : Nat → Prop} (h1 : fSet f1 P) (h2 : fSet f2 P) : f1 = f2 := by
  obtain ⟨m, a1, a2, a3⟩ := h1
  obtain ⟨n, b1, b2, b3⟩ := h2
  rw [a2, b2]
  congr 1
  refine Nat.eq_of_testBit_eq fun k => ?_
  have := (a3 k).trans (b3 k).symm
  cases q : m.testBit k with
  | true => rw [this.mp q]
  | false =>
    cases q2 : n.testBit k with
    | false => rfl
    | true => rw [this.mpr q2] at q; cases q
theorem fSet.zero : fSet (nI 0) (fun _ => False) := ⟨0, by omega, rfl, fun k => by simp⟩
section Cls
variable {b c0 : Nat}
theorem cdOk_ok (hb : 2 ≤ b) (hb8 : b ≤ 8) : cdOk (nI b) := by
  refine ⟨fun cd hc pl hp => ?_, fun gw h => ?_⟩
  · rw [rTc_at hb hb8 hc hp]
    have := rNx_lt (b := b) (c := cd) (k := pl) (by omega) hb8 hc hp
    exact (mIn_nI (by omega)).mpr this
  · obtain ⟨c, h1, h2, -⟩ := rTk_some h
    rw [h2]
    exact (mIn_nI (by omega)).mpr h1
/-- what one code brings -/
theorem rIn_at (hb : 2 ≤ b) (hb8 : b ≤ 8) {cd : Nat} (hc : cd < 4096) {fd : Int32} {gs gw : Nat → Int64} {P : Nat → Prop} (hf : fSet fd P) : ∀ k, k ≤ 4 →
    fSet (rIn (nI b) cd k (fd, gs, gw)).1 (fun d => P d ∨ ∃ i, i < k ∧ d = rDig cd i) ∧
    (∀ c, c < 4096 → (wI (rIn (nI b) cd k (fd, gs, gw)).2.1 c ↔ wI gs c ∨ ∃ i, i < k ∧ c = rNx b cd i)) ∧
    (∀ c, c < 4096 → (wI (rIn (nI b) cd k (fd, gs, gw)).2.2 c → wI gw c ∨ wI (rIn (nI b) cd k (fd, gs, gw)).2.1 c ∧ ¬ wI gs c)) ∧
    (∀ c, c < 4096 → (wI gw c ∨ (wI (rIn (nI b) cd k (fd, gs, gw)).2.1 c ∧ ¬ wI gs c) → wI (rIn (nI b) cd k (fd, gs, gw)).2.2 c))
  | 0, _ => ⟨hf.cg fun d => ⟨Or.inl, fun z => z.elim id (fun ⟨i, hi, _⟩ => absurd hi (Nat.not_lt_zero _))⟩, fun c _ => ⟨Or.inl, fun z => z.elim id (fun ⟨i, hi, _⟩ => absurd hi (Nat.not_lt_zero _))⟩, fun c _ z => Or.inl z, fun c _ z => z.elim id (fun z => absurd z.1 z.2)⟩
  | k + 1, hk => by
    obtain ⟨i1, i2, i3, i4⟩ := rIn_at hb hb8 hc hf k (by omega)
    have hlt := rNx_lt (b := b) (c := cd) (k := k) (by omega) hb8 hc (by omega)
    have e : (rTc (nI cd) k (nI b)).toNatClampNeg = rNx b cd k := by rw [rTc_at hb hb8 hc (by omega), nI_clamp (by omega)]
    show fSet ((rIn (nI b) cd k (fd, gs, gw)).1 ||| (nI 1 <<< (rAt (nI cd) k &&& 31))) _ ∧ (∀ c, c < 4096 → (wI (rNs (rIn (nI b) cd k (fd, gs, gw)).2.1 (rTc (nI cd) k (nI b)).toNatClampNeg) c ↔ _)) ∧ (∀ c, c < 4096 → (wI (rNw (rIn (nI b) cd k (fd, gs, gw)).2.1 (rIn (nI b) cd k (fd, gs, gw)).2.2 (rTc (nI cd) k (nI b)).toNatClampNeg) c → wI gw c ∨ wI (rNs (rIn (nI b) cd k (fd, gs, gw)).2.1 (rTc (nI cd) k (nI b)).toNatClampNeg) c ∧ ¬ wI gs c)) ∧ (∀ c, c < 4096 → (wI gw c ∨ (wI (rNs (rIn (nI b) cd k (fd, gs, gw)).2.1 (rTc (nI cd) k (nI b)).toNatClampNeg) c ∧ ¬ wI gs c) → wI (rNw (rIn (nI b) cd k (fd, gs, gw)).2.1 (rIn (nI b) cd k (fd, gs, gw)).2.2 (rTc (nI cd) k (nI b)).toNatClampNeg) c))
    rw [e]
    have ea : rAt (nI cd) k = nI (rDig cd k) := rDig_at hc (by omega)
    refine ⟨?_, fun c h => ?_, fun c h z => ?_, fun c h z => ?_⟩
    · rw [ea]
      refine (i1.add (rDig_lt cd k)).cg fun d => ?_
      constructor
      · rintro ((z | ⟨i, hi, z⟩) | z)
        · exact Or.inl z
        · exact Or.inr ⟨i, by omega, z⟩
        · exact Or.inr ⟨k, by omega, z⟩
      · rintro (z | ⟨i, hi, z⟩)
        · exact Or.inl (Or.inl z)
        · by_cases q : i = k
          · exact Or.inr (q ▸ z)
          · exact Or.inl (Or.inr ⟨i, by omega, z⟩)
    · rw [rNs_at hlt, i2 c h]
      constructor
      · rintro ((z | ⟨i, hi, z⟩) | z)
        · exact Or.inl z
        · exact Or.inr ⟨i, by omega, z⟩
        · exact Or.inr ⟨k, by omega, z⟩
      · rintro (z | ⟨i, hi, z⟩)
        · exact Or.inl (Or.inl z)
        · by_cases q : i = k
          · exact Or.inr (q ▸ z)
          · exact Or.inl (Or.inr ⟨i, by omega, z⟩)
    · rw [rNs_at hlt]
      rcases (rNw_at hlt).mp z with z | ⟨z, z2⟩
      · rcases i3 c h z with y | y
        · exact Or.inl y
        · exact Or.inr ⟨Or.inl y.1, y.2⟩
      · refine Or.inr ⟨Or.inr z, fun y => z2 ?_⟩
        rw [← z]; exact (i2 c h).mpr (Or.inl y)
    · rw [rNw_at hlt]
      rw [rNs_at hlt] at z
      rcases z with z | ⟨z | z, z2⟩
      · exact Or.inl (i4 c h (Or.inl z))
      · exact Or.inl (i4 c h (Or.inr ⟨z, z2⟩))
      · by_cases q : wI (rIn (nI b) cd k (fd, gs, gw)).2.1 c
        · exact Or.inl (i4 c h (Or.inr ⟨q, z2⟩))
        · exact Or.inr ⟨z, z ▸ q⟩
abbrev wDone (gs gw : Nat → Int64) (c : Nat) : Prop := wI gs c ∧ ¬ wI gw c
def rInv (b c0 s : Nat) (fd : Int32) (gs gw : Nat → Int64) : Prop :=
  (∀ c, c < 4096 → wI gw c → wI gs c) ∧ (∀ c, c < 4096 → wI gs c → Rch b c0 c) ∧ wI gs c0 ∧ (∀ c, c < 4096 → wDone gs gw c → ∀ k, k < 4 → wI gs (rNx b c k)) ∧
  fSet fd (fun d => ∃ c, c < 4096 ∧ wDone gs gw c ∧ ∃ i, i < 4 ∧ d = rDig c i) ∧ s ≤ kCnt (fun c => wDone gs gw c) 4096
theorem rGo_at (hb : 2 ≤ b) (hb8 : b ≤ 8) (hc0 : c0 < 4096) : ∀ (n s : Nat) (fd : Int32) (gs gw : Nat → Int64), n + s = 4096 → rInv b c0 s fd gs gw → ∃ gs' gw', rInv b c0 0 (rGo (nI b) n (fd, gs, gw)).1 gs' gw' ∧ ∀ c, c < 4096 → ¬ wI gw' c
  | 0, s, fd, gs, gw, hn, h => by
    refine ⟨gs, gw, ⟨h.1, h.2.1, h.2.2.1, h.2.2.2.1, h.2.2.2.2.1, Nat.zero_le _⟩, fun c hc => ?_⟩
    have hs : s = 4096 := by omega
    have hk := h.2.2.2.2.2
    rw [hs] at hk
    exact (kCnt_full (P := fun c => wDone gs gw c) 4096 hk c hc).2
  | n + 1, s, fd, gs, gw, hn, h => by
    by_cases q : rFst gw 64 0 < 64
    · obtain ⟨cd, h1, h2, h3, h4⟩ := rTk_some q
      have hne : ¬ rTkC gw = -1 := fun z => (rTk_m1.mp z) q
      rw [rGo_n hne, h2, nI_clamp (by omega)]
      obtain ⟨a1, a2, a3, a4, a5, a6⟩ := h
      obtain ⟨i1, i2, i3, i4⟩ := rIn_at hb hb8 h1 (gs := gs) (gw := rTkW gw) a5 4 (Nat.le_refl _)
      generalize hr : rIn (nI b) cd 4 (fd, gs, rTkW gw) = R at i1 i2 i3 i4
      obtain ⟨fd', gs', gw'⟩ := R
      simp only [] at i1 i2 i3 i4
      have hcs : wI gs cd := a1 cd h1 h3
      have done : ∀ c, c < 4096 → (wDone gs' gw' c ↔ wDone gs gw c ∨ c = cd) := fun c hc => by
        constructor
        · rintro ⟨y1, y2⟩
          by_cases z : wI gs c
          · by_cases z2 : wI gw c
            · right
              refine Decidable.byContradiction fun z3 => y2 (i4 c hc (Or.inl ((h4 c).mpr ⟨z2, z3⟩)))
            · exact Or.inl ⟨z, z2⟩
          · exact absurd (i4 c hc (Or.inr ⟨y1, z⟩)) y2
        · rintro (⟨y1, y2⟩ | y)
          · refine ⟨(i2 c hc).mpr (Or.inl y1), fun z => ?_⟩
            rcases i3 c hc z with w | w
            · exact y2 ((h4 c).mp w).1
            · exact w.2 y1
          · subst y
            refine ⟨(i2 c hc).mpr (Or.inl hcs), fun z => ?_⟩
            rcases i3 c hc z with w | w
            · exact ((h4 c).mp w).2 rfl
            · exact w.2 hcs
      refine rGo_at hb hb8 hc0 n (s + 1) fd' gs' gw' (by omega) ⟨fun c hc z => ?_, fun c hc z => ?_, ?_, fun c hc z k hk => ?_, ?_, ?_⟩
      · rcases i3 c hc z with w | w
        · exact (i2 c hc).mpr (Or.inl (a1 c hc ((h4 c).mp w).1))
        · exact w.1
      · rcases (i2 c hc).mp z with w | ⟨i, hi, w⟩
        · exact a2 c hc w
        · rw [w]; exact (a2 cd h1 hcs).s hi
      · exact (i2 c0 hc0).mpr (Or.inl a3)
      · have hlt := rNx_lt (b := b) (c := c) (k := k) (by omega) hb8 hc hk
        rcases (done c hc).mp z with w | w
        · exact (i2 _ hlt).mpr (Or.inl (a4 c hc w k hk))
        · subst w; exact (i2 _ hlt).mpr (Or.inr ⟨k, hk, rfl⟩)
      · refine i1.cg fun d => ?_
        constructor
        · rintro (⟨c, y1, y2, y3⟩ | ⟨i, hi, y⟩)
          · exact ⟨c, y1, (done c y1).mpr (Or.inl y2), y3⟩
          · exact ⟨cd, h1, (done cd h1).mpr (Or.inr rfl), i, hi, y⟩
        · rintro ⟨c, y1, y2, y3⟩
          rcases (done c y1).mp y2 with w | w
          · exact Or.inl ⟨c, y1, w, y3⟩
          · subst w; exact Or.inr y3
      · have e := kCnt_rm (P := fun c => wDone gs' gw' c) (Q := fun c => wDone gs gw c) (n := 4096) h1 ((done cd h1).mpr (Or.inr rfl)) (fun c hc => by
          rw [done c hc]
          exact ⟨fun z => ⟨Or.inl z, fun y => by subst y; exact z.2 h3⟩, fun z => z.1.resolve_right z.2⟩)
        omega
    · have hm := (rTk_none q).1
      rw [rGo_t hm]
      exact ⟨gs, gw, ⟨h.1, h.2.1, h.2.2.1, h.2.2.2.1, h.2.2.2.2.1, Nat.zero_le _⟩, (rTk_none q).2⟩
end Cls
