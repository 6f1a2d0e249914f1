/-! counts of circles: both walks count alike; rows of turns are short -/
theorem mTrn_x (g : Nat → Int64) (p : Nat) : mTrn g p = vp_updL g p (xTurn g p) := by
  funext k
  show (if k = p then mTurned g 0 p else g k) = (if k = p then xTurn g p else g k)
  rw [mT_x]
abbrev gUp (g : Nat → Int64) (p : Nat) : Nat → Int64 := vp_updL g p (xTurn g p)
def tT (bd : Int64) (n : Nat) (g : Nat → Int64) (k : Nat) : Nat := if ¬ bd < xTurn g k then 1 + mTree bd n (gUp g k) k else 0
theorem mTJ_1 (T : (Nat → Int64) → Nat → Nat) (bd : Int64) (g : Nat → Int64) (la k : Nat) : (if ¬ k = la ∧ ¬ bd < mTurned g 0 k then 1 + T (mTrn g k) k else 0) = if k = la then 0 else if ¬ bd < xTurn g k then 1 + T (gUp g k) k else 0 := by
  rw [mT_x, mTrn_x]
  by_cases q : k = la
  · rw [if_neg (fun z => z.1 q), if_pos q]
  · rw [if_neg q]
    by_cases q2 : bd < xTurn g k
    · rw [if_neg (fun z => z.2 q2), if_neg (fun z => z q2)]
    · rw [if_pos ⟨q, q2⟩, if_pos q2]
theorem mTree_s (bd : Int64) (n : Nat) (g : Nat → Int64) (la : Nat) : mTree bd (n + 1) g la = (if 0 = la then 0 else tT bd n g 0) + ((if 1 = la then 0 else tT bd n g 1) + ((if 2 = la then 0 else tT bd n g 2) + ((if 3 = la then 0 else tT bd n g 3) + 0))) := by
  show (if ¬ 0 = la ∧ ¬ bd < mTurned g 0 0 then 1 + mTree bd n (mTrn g 0) 0 else 0) + ((if ¬ 1 = la ∧ ¬ bd < mTurned g 0 1 then 1 + mTree bd n (mTrn g 1) 1 else 0) + ((if ¬ 2 = la ∧ ¬ bd < mTurned g 0 2 then 1 + mTree bd n (mTrn g 2) 2 else 0) + ((if ¬ 3 = la ∧ ¬ bd < mTurned g 0 3 then 1 + mTree bd n (mTrn g 3) 3 else 0) + 0))) = _
  rw [mTJ_1, mTJ_1, mTJ_1, mTJ_1]
  rfl
theorem ag4.up {g h : Nat → Int64} (e : ag4 g h) {p : Nat} (hp : p < 4) : ag4 (gUp g p) (gUp h p) := by
  intro k hk
  simp only [gUp, vp_updL]
  rw [e.turn hp]
  split
  · rfl
  · exact e k hk
theorem mTree_ag (bd : Int64) : ∀ (n : Nat) (g h : Nat → Int64) (la : Nat), ag4 g h → mTree bd n g la = mTree bd n h la
  | 0, _, _, _, _ => rfl
  | n + 1, g, h, la, e => by
    have t : ∀ k, k < 4 → tT bd n g k = tT bd n h k := fun k hk => by
      rw [tT, tT, e.turn hk, mTree_ag bd n _ _ k (e.up hk)]
    rw [mTree_s, mTree_s, t 0 (by omega), t 1 (by omega), t 2 (by omega), t 3 (by omega)]
theorem mFin_ag (bd : Int64) : ∀ (n : Nat) (g h : Nat → Int64) (la : Nat), ag4 g h → mFin bd n h la → mFin bd n g la
  | 0, _, _, _, _, f => f
  | n + 1, g, h, la, e, f => by
    intro p hp hl hb
    rw [mT_x, e.turn hp, ← mT_x] at hb
    have := f p hp hl hb
    rw [mTrn_x] at this ⊢
    exact mFin_ag bd n _ _ p (e.up hp) this
theorem mLa_ne {k la : Nat} (hk : k < 4) (hl : la ≤ 4) : (¬ nI k = mLa la) ↔ ¬ k = la := by
  unfold mLa
  by_cases q : la = 4
  · rw [if_pos q]; exact ⟨fun _ => by omega, fun _ => nI_ne1 (by omega)⟩
  · rw [if_neg q, nI_eq (by omega) (by omega)]
/-- the class's rows of turns -/
theorem cRw_m (b : Int32) : ∀ (n : Nat) (g : Nat → Int64) (la : Nat), la ≤ 4 → cRw b n g (mLa la) = nI (mTree b.toInt64 n g la)
  | 0, _, _, _ => rfl
  | n + 1, g, la, hl => by
    have step : ∀ (k : Nat) (x : Nat), k < 4 → (if ¬ nI k = mLa la ∧ xTurn g k ≤ b.toInt64 then nI x + (nI 1 + cRw b n (vp_updL g k (xTurn g k)) (nI k)) else nI x) = nI (x + if k = la then 0 else tT b.toInt64 n g k) := fun k x hk => by
      have e : cRw b n (vp_updL g k (xTurn g k)) (nI k) = nI (mTree b.toInt64 n (gUp g k) k) := by
        have := cRw_m b n (gUp g k) k (by omega)
        rw [← this, mLa, if_neg (by omega)]
      rw [e]
      by_cases q : k = la
      · rw [if_neg (fun z => (mLa_ne hk hl).mp z.1 q), if_pos q]; rfl
      · rw [if_neg q, tT]
        by_cases q2 : b.toInt64 < xTurn g k
        · rw [if_neg (fun z => absurd q2 (Int64.not_lt.mpr z.2)), if_neg (fun z => z q2)]; rfl
        · rw [if_pos ⟨(mLa_ne hk hl).mpr q, Int64.not_lt.mp q2⟩, if_pos q2, nI_add, nI_add]
    rw [mTree_s]
    show cRs (cRw b n) b g (mLa la) 4 = _
    simp only [cRs]
    rw [show (nI 0 : Int32) = nI 0 from rfl, step 0 0 (by omega), step 1 _ (by omega), step 2 _ (by omega), step 3 _ (by omega)]
    congr 1
    omega
abbrev gPr (g : Nat → Int64) : Prop := 1 ≤ (g 0).toInt + (g 1).toInt ∧ 1 ≤ (g 0).toInt + (g 2).toInt ∧ 1 ≤ (g 0).toInt + (g 3).toInt ∧ 1 ≤ (g 1).toInt + (g 2).toInt ∧ 1 ≤ (g 1).toInt + (g 3).toInt ∧ 1 ≤ (g 2).toInt + (g 3).toInt
/-- up from the place la, by at least D above all others -/
def gHi (g : Nat → Int64) (la : Nat) (D : Int) : Prop := gOk g ∧ gPr g ∧ 0 ≤ D ∧ ∀ j, j < 4 → j ≠ la → (g j).toInt + D ≤ (g la).toInt
theorem gHi.up {g : Nat → Int64} {la : Nat} {D : Int} (h : gHi g la D) (hl : la < 4) {p : Nat} (hp : p < 4) (hpl : p ≠ la) (hb : (xTurn g p).toInt ≤ 1000) : gHi (gUp g p) p (D + 2) ∧ (g la).toInt + D + 2 ≤ (xTurn g p).toInt := by
  obtain ⟨h1, h2, h3, h4⟩ := h
  have e := h1.turn_i hp
  have k := (h1.turn hp (by omega)).1
  have m0 := fun q => h4 0 (by omega) q
  have m1 := fun q => h4 1 (by omega) q
  have m2 := fun q => h4 2 (by omega) q
  have m3 := fun q => h4 3 (by omega) q
  have s0 := fun (h : (0 : Nat) ≠ p) => vp_n g (xTurn g p) h
  have s1 := fun (h : (1 : Nat) ≠ p) => vp_n g (xTurn g p) h
  have s2 := fun (h : (2 : Nat) ≠ p) => vp_n g (xTurn g p) h
  have s3 := fun (h : (3 : Nat) ≠ p) => vp_n g (xTurn g p) h
  have sp := vp_s g p (xTurn g p)
  refine ⟨⟨k, ?_, by omega, fun j hj hjp => ?_⟩, ?_⟩
  · unfold gPr gUp
    rcases lt4 hp with rfl | rfl | rfl | rfl
    · rw [sp, s1 (by omega), s2 (by omega), s3 (by omega)]
      rcases (show la = 1 ∨ la = 2 ∨ la = 3 by omega) with rfl | rfl | rfl
      · have := m2 (by omega); have := m3 (by omega); have := m0 (by omega); omega
      · have := m1 (by omega); have := m3 (by omega); have := m0 (by omega); omega
      · have := m2 (by omega); have := m1 (by omega); have := m0 (by omega); omega
    · rw [sp, s0 (by omega), s2 (by omega), s3 (by omega)]
      rcases (show la = 0 ∨ la = 2 ∨ la = 3 by omega) with rfl | rfl | rfl
      · have := m2 (by omega); have := m3 (by omega); have := m1 (by omega); omega
      · have := m1 (by omega); have := m3 (by omega); have := m0 (by omega); omega
      · have := m2 (by omega); have := m1 (by omega); have := m0 (by omega); omega
    · rw [sp, s0 (by omega), s1 (by omega), s3 (by omega)]
      rcases (show la = 0 ∨ la = 1 ∨ la = 3 by omega) with rfl | rfl | rfl
      · have := m2 (by omega); have := m3 (by omega); have := m1 (by omega); omega
      · have := m2 (by omega); have := m3 (by omega); have := m0 (by omega); omega
      · have := m2 (by omega); have := m1 (by omega); have := m0 (by omega); omega
    · rw [sp, s0 (by omega), s1 (by omega), s2 (by omega)]
      rcases (show la = 0 ∨ la = 1 ∨ la = 2 by omega) with rfl | rfl | rfl
      · have := m2 (by omega); have := m3 (by omega); have := m1 (by omega); omega
      · have := m2 (by omega); have := m3 (by omega); have := m0 (by omega); omega
      · have := m3 (by omega); have := m1 (by omega); have := m0 (by omega); omega
  · unfold gUp
    rw [sp, vp_n _ _ hjp]
    rcases lt4 hp with rfl | rfl | rfl | rfl <;> rcases lt4 hl with rfl | rfl | rfl | rfl <;> (first | (exact absurd rfl hpl) | skip) <;> rcases lt4 hj with rfl | rfl | rfl | rfl <;> (first | (exact absurd rfl hjp) | skip) <;> (have a0 := m0; have a1 := m1; have a2 := m2; have a3 := m3; omega)
  · rcases lt4 hp with rfl | rfl | rfl | rfl <;> rcases lt4 hl with rfl | rfl | rfl | rfl <;> (first | (exact absurd rfl hpl) | (have a0 := m0; have a1 := m1; have a2 := m2; have a3 := m3; omega))
theorem fin_up (bd : Int64) (hbd : bd.toInt ≤ 1000) : ∀ (n : Nat) (g : Nat → Int64) (la : Nat) (D : Int), la < 4 → gHi g la D → (g la).toInt ≤ bd.toInt → bd.toInt < (g la).toInt + n * D + n * (n + 1) → mFin bd n g la
  | 0, g, la, D, hl, h, h1, h2 => by
    exfalso
    have : ((0 : Nat) : Int) * D = 0 := by simp
    have : ((0 : Nat) : Int) * (((0 : Nat) : Int) + 1) = 0 := by simp
    omega
  | n + 1, g, la, D, hl, h, h1, h2 => by
    intro p hp hpl hb
    rw [mT_x, Int64.lt_iff_toInt_lt] at hb
    obtain ⟨a, b⟩ := h.up hl hp hpl (by omega)
    rw [mTrn_x]
    have e : ((gUp g p) p).toInt = (xTurn g p).toInt := by unfold gUp; rw [vp_s]
    refine fin_up bd hbd n (gUp g p) p (D + 2) hp a (by rw [e]; omega) ?_
    rw [e]
    have e2 : ((n : Int) + 1) * D + ((n : Int) + 1) * ((n : Int) + 1 + 1) = (D + 2) + ((n : Int) * (D + 2) + (n : Int) * ((n : Int) + 1)) := by grind
    have e3 : ((n + 1 : Nat) : Int) = (n : Int) + 1 := by omega
    rw [e3] at h2
    omega
/-- from the root -/
theorem root_up {g : Nat → Int64} (h : gRt g) (hn : ∃ j, j < 4 ∧ (g j).toInt < 0) {p : Nat} (hp : p < 4) (hb : (xTurn g p).toInt ≤ 1000) : gPr g ∧ gHi (gUp g p) p 0 ∧ 0 < (xTurn g p).toInt := by
  obtain ⟨h1, h2⟩ := h
  have pr := h1.pair
  have e := h1.turn_i hp
  have k := h1.turn hp (by omega)
  have hs := h1.1
  have c0 := h2 0 (by omega); have c1 := h2 1 (by omega); have c2 := h2 2 (by omega); have c3 := h2 3 (by omega)
  have key : ∀ a b c d : Int, 0 < a + b + c + d → (a + b + c + d) * (a + b + c + d) = 2 * (a * a + b * b + c * c + d * d) → a + b = 0 → a = 0 ∧ b = 0 ∧ c = d := fun a b c d s q z => by
    have h3 : 2 * ((a + b) * (c + d)) = (a - b) * (a - b) + (c - d) * (c - d) := by grind
    rw [z, Int.zero_mul] at h3
    have x1 := i_sq (a - b)
    have x2 := i_sq (c - d)
    have y1 : (a - b) * (a - b) = 0 := by omega
    have y2 : (c - d) * (c - d) = 0 := by omega
    have z1 : a - b = 0 := (Int.mul_eq_zero.mp y1).elim id id
    have z2 : c - d = 0 := (Int.mul_eq_zero.mp y2).elim id id
    omega
  have hq := h1.2.1
  obtain ⟨j, hj, hneg⟩ := hn
  have hpr : gPr g := by
    have g0 := fun z => key ((g 0).toInt) ((g 1).toInt) ((g 2).toInt) ((g 3).toInt) hs hq z
    have g1 := fun z => key ((g 0).toInt) ((g 2).toInt) ((g 1).toInt) ((g 3).toInt) (by omega) (by grind) z
    have g2 := fun z => key ((g 0).toInt) ((g 3).toInt) ((g 1).toInt) ((g 2).toInt) (by omega) (by grind) z
    have g3 := fun z => key ((g 1).toInt) ((g 2).toInt) ((g 0).toInt) ((g 3).toInt) (by omega) (by grind) z
    have g4 := fun z => key ((g 1).toInt) ((g 3).toInt) ((g 0).toInt) ((g 2).toInt) (by omega) (by grind) z
    have g5 := fun z => key ((g 2).toInt) ((g 3).toInt) ((g 0).toInt) ((g 1).toInt) (by omega) (by grind) z
    rcases lt4 hj with rfl | rfl | rfl | rfl <;> (refine ⟨?_, ?_, ?_, ?_, ?_, ?_⟩ <;> refine Decidable.byContradiction fun z => ?_)
    all_goals first | (have := g0 (by omega); omega) | (have := g1 (by omega); omega) | (have := g2 (by omega); omega) | (have := g3 (by omega); omega) | (have := g4 (by omega); omega) | (have := g5 (by omega); omega)
  have s0 := fun (h : (0 : Nat) ≠ p) => vp_n g (xTurn g p) h
  have s1 := fun (h : (1 : Nat) ≠ p) => vp_n g (xTurn g p) h
  have s2 := fun (h : (2 : Nat) ≠ p) => vp_n g (xTurn g p) h
  have s3 := fun (h : (3 : Nat) ≠ p) => vp_n g (xTurn g p) h
  have sp := vp_s g p (xTurn g p)
  refine ⟨hpr, ⟨k.1, ?_, by omega, fun j hj hjp => ?_⟩, ?_⟩
  · unfold gPr gUp
    rcases lt4 hp with rfl | rfl | rfl | rfl
    · rw [sp, s1 (by omega), s2 (by omega), s3 (by omega)]; omega
    · rw [sp, s0 (by omega), s2 (by omega), s3 (by omega)]; omega
    · rw [sp, s0 (by omega), s1 (by omega), s3 (by omega)]; omega
    · rw [sp, s0 (by omega), s1 (by omega), s2 (by omega)]; omega
  · unfold gUp
    rw [sp, vp_n _ _ hjp]
    rcases lt4 hp with rfl | rfl | rfl | rfl <;> rcases lt4 hj with rfl | rfl | rfl | rfl <;> (first | (exact absurd rfl hjp) | omega)
  · rcases lt4 hp with rfl | rfl | rfl | rfl <;> omega
theorem fin_root (bd : Int64) (hbd : bd.toInt ≤ 1000) {g : Nat → Int64} (h : gRt g) (hn : ∃ j, j < 4 ∧ (g j).toInt < 0) : mFin bd 100 g 4 := by
  intro p hp _ hb
  rw [mT_x, Int64.lt_iff_toInt_lt] at hb
  obtain ⟨-, a, b⟩ := root_up h hn hp (by omega)
  rw [mTrn_x]
  have e : ((gUp g p) p).toInt = (xTurn g p).toInt := by unfold gUp; rw [vp_s]
  refine fin_up bd hbd 99 (gUp g p) p 0 hp a (by rw [e]; omega) ?_
  rw [e]
  have : ((99 : Nat) : Int) * 0 = 0 := rfl
  have : ((99 : Nat) : Int) * (((99 : Nat) : Int) + 1) = 9900 := rfl
  omega
