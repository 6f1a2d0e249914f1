/-! the simplest between: the class's forward chain is the reference's backward one; the search ends -/
theorem sb_0 (w t u : Int64) : (w + 1) * t + u = t * (w + 1) + u * 1 := by grind
theorem sb_1 (w t u p q : Int64) : (w * t + u) * p + t * q = t * (w * p + q) + u * p := by grind
theorem sb_2 (p : Int64 × Int64) : ((1 : Int64) * p.1 + 0 * p.2, (0 : Int64) * p.1 + 1 * p.2) = p := by
  obtain ⟨a, b⟩ := p
  refine Prod.ext ?_ ?_
  · show (1 : Int64) * a + 0 * b = a; grind
  · show (0 : Int64) * a + 1 * b = b; grind
theorem sim_bk (s : mB4) (Q : Nat → Int64) (M : Nat) (hQ : ∀ i, i < M → Q i = bFl (mBt s i)) (hM : Q M = bFl (mBt s M) + 1)
    (hp : ∀ i, i ≤ M → 0 < (mBt s i).2.1.toInt) (hn : ∀ i, i < M → ¬ bDone (mBt s i)) (hd : bDone (mBt s M)) :
    ∀ (r n : Nat) (tt tb bt bb : Int64), r ≤ M → r < n →
      cSim n (mBt s (M - r)).1 (mBt s (M - r)).2.1 (mBt s (M - r)).2.2.1 (mBt s (M - r)).2.2.2 tt tb bt bb
        = (tt * (mBk Q M r).1 + tb * (mBk Q M r).2, bt * (mBk Q M r).1 + bb * (mBk Q M r).2)
  | 0, n + 1, tt, tb, bt, bb, _, _ => by
    have h0 := hp M (Nat.le_refl M)
    have hl : (0 : Int64) < (mBt s M).2.1 := lt64.mpr h0
    have hf : jFl (mBt s M).1 (mBt s M).2.1 = bFl (mBt s M) := jFl_m h0
    show cSim (n + 1) (mBt s M).1 (mBt s M).2.1 (mBt s M).2.2.1 (mBt s M).2.2.2 tt tb bt bb = (tt * Q M + tb * 1, bt * Q M + bb * 1)
    rw [cSim, if_pos hl, hf, if_pos hd, hM, ← sb_0, ← sb_0]
  | r + 1, n + 1, tt, tb, bt, bb, hr, hrn => by
    have hi : M - (r + 1) ≤ M := by omega
    have h0 := hp _ hi
    have hl : (0 : Int64) < (mBt s (M - (r + 1))).2.1 := lt64.mpr h0
    have hf : jFl (mBt s (M - (r + 1))).1 (mBt s (M - (r + 1))).2.1 = bFl (mBt s (M - (r + 1))) := jFl_m h0
    have hN := hn (M - (r + 1)) (by omega)
    have hq := hQ (M - (r + 1)) (by omega)
    have ih := sim_bk s Q M hQ hM hp hn hd r n (bFl (mBt s (M - (r + 1))) * tt + tb) tt (bFl (mBt s (M - (r + 1))) * bt + bb) bt (by omega) (by omega)
    have hs : mBt s (M - r) = ((mBt s (M - (r + 1))).2.2.2, bMore (mBt s (M - (r + 1))), (mBt s (M - (r + 1))).2.1, bLess (mBt s (M - (r + 1)))) := by
      rw [show M - r = M - (r + 1) + 1 by omega]; rfl
    rw [hs] at ih
    rw [cSim, if_pos hl, hf, if_neg hN]
    refine ih.trans ?_
    show _ = (tt * (Q (M - r - 1) * (mBk Q M r).1 + (mBk Q M r).2) + tb * (mBk Q M r).1, bt * (Q (M - r - 1) * (mBk Q M r).1 + (mBk Q M r).2) + bb * (mBk Q M r).1)
    rw [show M - r - 1 = M - (r + 1) by omega, hq, sb_1, sb_1]
/-- a state of the search: low below high, all within a milliard -/
def bSt (s : mB4) : Prop := 0 < s.2.1.toInt ∧ s.2.1.toInt ≤ 1000000000 ∧ 0 ≤ s.2.2.2.toInt ∧ s.2.2.2.toInt ≤ 1000000000 ∧ -1000000000 ≤ s.1.toInt ∧ s.1.toInt ≤ 1000000000 ∧ -1000000000 ≤ s.2.2.1.toInt ∧ s.2.2.1.toInt ≤ 1000000000 ∧ s.1.toInt * s.2.2.2.toInt < s.2.2.1.toInt * s.2.1.toInt
theorem mul_bd {a b A B : Int} (h1 : -A ≤ a) (h2 : a ≤ A) (h3 : -B ≤ b) (h4 : b ≤ B) : -(A * B) ≤ a * b ∧ a * b ≤ A * B := by
  have e : (a * b).natAbs ≤ (A * B).natAbs := by rw [Int.natAbs_mul, Int.natAbs_mul]; exact Nat.mul_le_mul (by omega) (by omega)
  have : 0 ≤ A * B := Int.mul_nonneg (by omega) (by omega)
  omega
theorem bSt_v {s : mB4} (h : bSt s) : (bFl s).toInt = s.1.toInt / s.2.1.toInt ∧ (bLess s).toInt = s.1.toInt % s.2.1.toInt ∧ (bMore s).toInt = s.2.2.1.toInt - s.1.toInt / s.2.1.toInt * s.2.2.2.toInt ∧ 0 < (bMore s).toInt ∧ (bDone s ↔ (s.1.toInt / s.2.1.toInt + 1) * s.2.2.2.toInt < s.2.2.1.toInt) := by
  obtain ⟨a1, a2, a3, a4, a5, a6, a7, a8, a9⟩ := h
  have hw : (bFl s).toInt = s.1.toInt / s.2.1.toInt := mFloor_i a1 (by omega)
  have d1 := Int.mul_ediv_add_emod s.1.toInt s.2.1.toInt
  have m1 := Int.emod_nonneg s.1.toInt (show s.2.1.toInt ≠ 0 by omega)
  have m2 := Int.emod_lt_of_pos s.1.toInt a1
  have w1 : -1000000000 ≤ s.1.toInt / s.2.1.toInt := by
    refine Int.le_ediv_of_mul_le a1 ?_
    omega
  have w2 : s.1.toInt / s.2.1.toInt ≤ 1000000000 := by
    have := Int.ediv_le_ediv a1 a6
    have := Int.ediv_le_self s.2.1.toInt (show (0 : Int) ≤ 1000000000 by omega)
    omega
  generalize hW : s.1.toInt / s.2.1.toInt = w at *
  have p1 := mul_bd w1 w2 (show -1000000000 ≤ s.2.1.toInt by omega) a2
  have p2 := mul_bd w1 w2 (show -1000000000 ≤ s.2.2.2.toInt by omega) a4
  have p3 := mul_bd (show -1000000001 ≤ w + 1 by omega) (show w + 1 ≤ 1000000001 by omega) (show -1000000000 ≤ s.2.2.2.toInt by omega) a4
  have e1 : (bFl s * s.2.1).toInt = w * s.2.1.toInt := by rw [z_mul, hw] <;> rw [hw] <;> omega
  have e2 : (bFl s * s.2.2.2).toInt = w * s.2.2.2.toInt := by rw [z_mul, hw] <;> rw [hw] <;> omega
  have e0 : (bFl s + 1).toInt = w + 1 := by
    have o : (1 : Int64).toInt = 1 := rfl
    rw [z_add, hw, o] <;> rw [hw, o] <;> omega
  have e3 : ((bFl s + 1) * s.2.2.2).toInt = (w + 1) * s.2.2.2.toInt := by rw [z_mul, e0] <;> rw [e0] <;> omega
  have f1 : (bLess s).toInt = s.1.toInt - w * s.2.1.toInt := by rw [z_sub, e1] <;> rw [e1] <;> omega
  have f2 : (bMore s).toInt = s.2.2.1.toInt - w * s.2.2.2.toInt := by rw [z_sub, e2] <;> rw [e2] <;> omega
  refine ⟨hw, ?_, f2, ?_, ?_⟩
  · rw [f1, Int.mul_comm]; omega
  · rw [f2]
    refine Classical.byContradiction fun hc => ?_
    have hc' : s.2.2.1.toInt ≤ w * s.2.2.2.toInt := by omega
    have g1 : s.2.2.1.toInt * s.2.1.toInt ≤ w * s.2.2.2.toInt * s.2.1.toInt := Int.mul_le_mul_of_nonneg_right hc' (by omega)
    have g2 : w * s.2.1.toInt * s.2.2.2.toInt ≤ s.1.toInt * s.2.2.2.toInt := Int.mul_le_mul_of_nonneg_right (by rw [Int.mul_comm]; omega) a3
    have g3 : w * s.2.2.2.toInt * s.2.1.toInt = w * s.2.1.toInt * s.2.2.2.toInt := by grind
    omega
  · show (bFl s + 1) * s.2.2.2 < s.2.2.1 ↔ _
    rw [lt64, e3]
abbrev bNx (s : mB4) : mB4 := (s.2.2.2, bMore s, s.2.1, bLess s)
theorem bSt_n {s : mB4} (h : bSt s) (hd : ¬ bDone s) : bSt (bNx s) ∧ (bNx s).2.1.toInt ≤ s.2.2.2.toInt ∧ 0 < s.2.2.2.toInt ∧ (bNx s).2.2.2.toInt < s.2.1.toInt := by
  obtain ⟨v1, v2, v3, v4, v5⟩ := bSt_v h
  obtain ⟨a1, a2, a3, a4, a5, a6, a7, a8, a9⟩ := h
  have hd' : ¬ (s.1.toInt / s.2.1.toInt + 1) * s.2.2.2.toInt < s.2.2.1.toInt := fun q => hd (v5.mpr q)
  have d1 := Int.mul_ediv_add_emod s.1.toInt s.2.1.toInt
  have m1 := Int.emod_nonneg s.1.toInt (show s.2.1.toInt ≠ 0 by omega)
  have m2 := Int.emod_lt_of_pos s.1.toInt a1
  have hle : (bMore s).toInt ≤ s.2.2.2.toInt := by
    rw [v3]
    have : (s.1.toInt / s.2.1.toInt + 1) * s.2.2.2.toInt = s.1.toInt / s.2.1.toInt * s.2.2.2.toInt + s.2.2.2.toInt := by grind
    omega
  refine ⟨⟨v4, by show (bMore s).toInt ≤ _; omega, by show 0 ≤ (bLess s).toInt; omega, by show (bLess s).toInt ≤ _; omega, by show _ ≤ s.2.2.2.toInt; omega, a4, by show _ ≤ s.2.1.toInt; omega, a2, ?_⟩, hle, by omega, by show (bLess s).toInt < _; omega⟩
  show s.2.2.2.toInt * (bLess s).toInt < s.2.1.toInt * (bMore s).toInt
  rw [v3, v2]
  have : s.1.toInt % s.2.1.toInt = s.1.toInt - s.2.1.toInt * (s.1.toInt / s.2.1.toInt) := by omega
  rw [this]
  grind
theorem mBt_s (s : mB4) : ∀ n, mBt s (n + 1) = mBt (bNx s) n
  | 0 => rfl
  | n + 1 => by
    show bNx (mBt s (n + 1)) = _
    rw [mBt_s s n]; rfl
/-- the search: N steps with nothing found, then found or a place with nothing over -/
def bEn (s : mB4) (N : Nat) : Prop := (∀ i, i ≤ N → bSt (mBt s i)) ∧ (∀ i, i < N → ¬ bDone (mBt s i) ∧ ¬ bLess (mBt s i) = 0) ∧ (bDone (mBt s N) ∨ bLess (mBt s N) = 0)
theorem bEn_s {s : mB4} {N : Nat} (h : bSt s) (h1 : ¬ bDone s) (h2 : ¬ bLess s = 0) (he : bEn (bNx s) N) : bEn s (N + 1) := by
  obtain ⟨e1, e2, e3⟩ := he
  refine ⟨fun i hi => ?_, fun i hi => ?_, ?_⟩
  · cases i with
    | zero => exact h
    | succ i => rw [mBt_s]; exact e1 i (by omega)
  · cases i with
    | zero => exact ⟨h1, h2⟩
    | succ i => rw [mBt_s]; exact e2 i (by omega)
  · rw [mBt_s]; exact e3
theorem bEn_0 {s : mB4} (h : bSt s) (h1 : bDone s ∨ bLess s = 0) : bEn s 0 := ⟨fun i hi => by rw [show i = 0 by omega]; exact h, fun i hi => absurd hi (by omega), h1⟩
theorem bEn_ex : ∀ (k : Nat) (s : mB4), bSt s → s.2.2.2.toInt < (2 ^ k : Nat) → ∃ N, N ≤ 2 * k ∧ bEn s N
  | 0, s, h, hk => by
    refine ⟨0, by omega, bEn_0 h (.inl ?_)⟩
    obtain ⟨v1, v2, v3, v4, v5⟩ := bSt_v h
    obtain ⟨a1, a2, a3, a4, a5, a6, a7, a8, a9⟩ := h
    have h0 : s.2.2.2.toInt = 0 := by omega
    rw [v5, h0, Int.mul_zero]
    rw [h0, Int.mul_zero] at v3
    omega
  | k + 1, s, h, hk => by
    by_cases c0 : bDone s ∨ bLess s = 0
    · exact ⟨0, by omega, bEn_0 h c0⟩
    · have c1 : ¬ bDone s := fun q => c0 (.inl q)
      have c2 : ¬ bLess s = 0 := fun q => c0 (.inr q)
      obtain ⟨hn, l1, l2, l3⟩ := bSt_n h c1
      by_cases d0 : bDone (bNx s) ∨ bLess (bNx s) = 0
      · exact ⟨1, by omega, bEn_s h c1 c2 (bEn_0 hn d0)⟩
      · have d1 : ¬ bDone (bNx s) := fun q => d0 (.inl q)
        have d2 : ¬ bLess (bNx s) = 0 := fun q => d0 (.inr q)
        obtain ⟨hn2, _, _, _⟩ := bSt_n hn d1
        have hv := (bSt_v hn).2.1
        have hp := hn.1
        have x1 : (bNx s).1.toInt = s.2.2.2.toInt := rfl
        have x2 : (bNx (bNx s)).2.2.2 = bLess (bNx s) := rfl
        have dm := Int.mul_ediv_add_emod (bNx s).1.toInt (bNx s).2.1.toInt
        have m2 := Int.emod_lt_of_pos (bNx s).1.toInt hp
        have hq : 1 ≤ (bNx s).1.toInt / (bNx s).2.1.toInt := Int.le_ediv_of_mul_le hp (by omega)
        have hm : (bNx s).2.1.toInt * 1 ≤ (bNx s).2.1.toInt * ((bNx s).1.toInt / (bNx s).2.1.toInt) := Int.mul_le_mul_of_nonneg_left hq (by omega)
        have h2k : ((2 ^ (k + 1) : Nat) : Int) = 2 * ((2 ^ k : Nat) : Int) := by rw [Nat.pow_succ]; omega
        obtain ⟨N, hN, he⟩ := bEn_ex k (bNx (bNx s)) hn2 (by rw [x2, hv]; omega)
        exact ⟨N + 2, by omega, bEn_s h c1 c2 (bEn_s hn d1 d2 he)⟩
theorem betw_m (g : Nat → Int64) {a b c d : Int32} (h1 : mFr a b (1 : Nat)) (h2 : mFr c d (1 : Nat)) (hx : mCross a b c d < 0) :
    ∃ N, mBEnds (a.toInt64, b.toInt64, c.toInt64, d.toInt64) N ∧
      cSim 1000 a.toInt64 b.toInt64 c.toInt64 d.toInt64 1 0 0 1 = mBk (mBQ g (a.toInt64, b.toInt64, c.toInt64, d.toInt64) N) (mBM (a.toInt64, b.toInt64, c.toInt64, d.toInt64) N) (mBM (a.toInt64, b.toInt64, c.toInt64, d.toInt64) N) := by
  have ea : a.toInt64.toInt = a.toInt := Int32.toInt_toInt64 a
  have eb : b.toInt64.toInt = b.toInt := Int32.toInt_toInt64 b
  have ec : c.toInt64.toInt = c.toInt := Int32.toInt_toInt64 c
  have ed : d.toInt64.toInt = d.toInt := Int32.toInt_toInt64 d
  obtain ⟨⟨a1, a2⟩, ⟨b1, b2⟩, _⟩ := h1
  obtain ⟨⟨c1, c2⟩, ⟨d1, d2⟩, _⟩ := h2
  have b1 : (1 : Int) ≤ b.toInt := b1
  have d1 : (1 : Int) ≤ d.toInt := d1
  have p1 := mul_bd a1 a2 (show -1000000000 ≤ d.toInt by omega) d2
  have p2 := mul_bd (show -1000000000 ≤ b.toInt by omega) b2 c1 c2
  have hc : a.toInt * d.toInt < c.toInt * b.toInt := by
    have e1 : (a.toInt64 * d.toInt64).toInt = a.toInt * d.toInt := by rw [z_mul, ea, ed] <;> rw [ea, ed] <;> omega
    have e2 : (b.toInt64 * c.toInt64).toInt = b.toInt * c.toInt := by rw [z_mul, eb, ec] <;> rw [eb, ec] <;> omega
    have e3 := lt64.mp hx
    rw [mCross, z_sub (by rw [e1, e2]; omega) (by rw [e1, e2]; omega), e1, e2] at e3
    have : (0 : Int64).toInt = 0 := rfl
    rw [Int.mul_comm c.toInt]; omega
  generalize hs : ((a.toInt64, b.toInt64, c.toInt64, d.toInt64) : mB4) = s
  have q1 : s.1 = a.toInt64 := by rw [← hs]
  have q2 : s.2.1 = b.toInt64 := by rw [← hs]
  have q3 : s.2.2.1 = c.toInt64 := by rw [← hs]
  have q4 : s.2.2.2 = d.toInt64 := by rw [← hs]
  have hI : bSt s := by
    unfold bSt
    rw [q1, q2, q3, q4, ea, eb, ec, ed]
    exact ⟨by omega, b2, by omega, d2, a1, a2, c1, c2, hc⟩
  obtain ⟨N, hN, e1, e2, e3⟩ := bEn_ex 30 s hI (by rw [q4, ed]; show _ < ((2 ^ 30 : Nat) : Int); omega)
  have nz : ∀ {x : Int64}, 0 < x.toInt → ¬ x = 0 := fun h q => by rw [q] at h; exact absurd h (by decide)
  refine ⟨N, ⟨fun i hi => nz (e1 i hi).1, e2, e3, nz (bSt_v (e1 N (Nat.le_refl N))).2.2.2.1, by omega⟩, ?_⟩
  have hA : ∀ (g : Nat → Int64) n i, i < n → mQA g s n i = bFl (mBt s i) := by
    intro g n
    induction n with
    | zero => intro i hi; omega
    | succ n ih =>
      intro i hi
      show vp_updL (mQA g s n) n (bFl (mBt s n)) i = _
      by_cases h : i = n
      · subst h; exact pk_uLs
      · rw [pk_uLn h]; exact ih i (by omega)
  rw [← q1, ← q2, ← q3, ← q4]
  by_cases hd : bDone (mBt s N)
  · have hM : mBM s N = N := if_pos hd
    have hQ : mBQ g s N = vp_updL (mQA g s N) N (bFl (mBt s N) + 1) := if_pos hd
    rw [hM, hQ]
    have := sim_bk s (vp_updL (mQA g s N) N (bFl (mBt s N) + 1)) N (fun i hi => by rw [pk_uLn (show i ≠ N by omega)]; exact hA g N i hi) (pk_uLs) (fun i hi => (e1 i hi).1) (fun i hi => (e2 i hi).1) hd N 1000 1 0 0 1 (Nat.le_refl N) (by omega)
    rw [Nat.sub_self] at this
    exact this.trans (sb_2 _)
  · have hl : bLess (mBt s N) = 0 := e3.resolve_left hd
    have hM : mBM s N = N + 1 := if_neg hd
    have hQ : mBQ g s N = vp_updL (vp_updL (mQA g s N) N (bFl (mBt s N))) (N + 1) ((mBt s N).2.2.2 / bMore (mBt s N) + 1) := if_neg hd
    rw [hM, hQ]
    obtain ⟨hn, l1, l2, l3⟩ := bSt_n (e1 N (Nat.le_refl N)) hd
    have hst : mBt s (N + 1) = bNx (mBt s N) := rfl
    have hd1 : bDone (mBt s (N + 1)) := by
      rw [hst, (bSt_v hn).2.2.2.2]
      have z : (bNx (mBt s N)).2.2.2.toInt = 0 := by show (bLess (mBt s N)).toInt = 0; rw [hl]; rfl
      rw [z, Int.mul_zero]
      exact (e1 N (Nat.le_refl N)).1
    have hf : bFl (mBt s (N + 1)) = (mBt s N).2.2.2 / bMore (mBt s N) := by
      show mFloor (mBt s N).2.2.2 (bMore (mBt s N)) = _
      unfold mFloor
      rw [if_neg]
      intro q
      have := lt64.mp q.1
      have z : (0 : Int64).toInt = 0 := rfl
      omega
    have := sim_bk s (vp_updL (vp_updL (mQA g s N) N (bFl (mBt s N))) (N + 1) ((mBt s N).2.2.2 / bMore (mBt s N) + 1)) (N + 1)
      (fun i hi => by
        rw [pk_uLn (show i ≠ N + 1 by omega)]
        by_cases h : i = N
        · subst h; exact pk_uLs
        · rw [pk_uLn h]; exact hA g N i (by omega))
      (by rw [pk_uLs, hf])
      (fun i hi => by
        by_cases h : i = N + 1
        · subst h; rw [hst]; exact hn.1
        · exact (e1 i (by omega)).1)
      (fun i hi => by
        by_cases h : i = N
        · subst h; exact hd
        · exact (e2 i (by omega)).1)
      hd1 (N + 1) 1000 1 0 0 1 (Nat.le_refl _) (by omega)
    rw [Nat.sub_self] at this
    exact this.trans (sb_2 _)
