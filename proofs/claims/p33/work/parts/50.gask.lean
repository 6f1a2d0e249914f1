/-! gaskets: the way down to the root; no turn changes the root -/
theorem i_sq (x : Int) : 0 ≤ x * x := by
  rcases Int.le_total 0 x with h | h
  · exact Int.mul_nonneg h h
  · have := Int.mul_nonneg (Int.neg_nonneg_of_nonpos h) (Int.neg_nonneg_of_nonpos h)
    rwa [Int.neg_mul_neg] at this
theorem dq_pair {a b c d : Int} (hs : 0 < a + b + c + d) (he : (a + b + c + d) * (a + b + c + d) = 2 * (a * a + b * b + c * c + d * d)) : 0 ≤ a + b := by
  refine Decidable.byContradiction fun h => ?_
  have h1 : 2 * ((a + b) * (c + d)) = (a - b) * (a - b) + (c - d) * (c - d) := by grind
  have h2 : (a + b) * (c + d) < 0 := Int.mul_neg_of_neg_of_pos (by omega) (by omega)
  have h3 := i_sq (a - b)
  have h4 := i_sq (c - d)
  omega
theorem dq_pairs {a b c d : Int} (hs : 0 < a + b + c + d) (he : (a + b + c + d) * (a + b + c + d) = 2 * (a * a + b * b + c * c + d * d)) : 0 ≤ a + b ∧ 0 ≤ a + c ∧ 0 ≤ a + d ∧ 0 ≤ b + c ∧ 0 ≤ b + d ∧ 0 ≤ c + d :=
  ⟨dq_pair hs he, dq_pair (a := a) (b := c) (c := b) (d := d) (by omega) (by grind), dq_pair (a := a) (b := d) (c := b) (d := c) (by omega) (by grind), dq_pair (a := b) (b := c) (c := a) (d := d) (by omega) (by grind), dq_pair (a := b) (b := d) (c := a) (d := c) (by omega) (by grind), dq_pair (a := c) (b := d) (c := a) (d := b) (by omega) (by grind)⟩
theorem dq_turn {a b c d : Int} (hs : 0 < a + b + c + d) (he : (a + b + c + d) * (a + b + c + d) = 2 * (a * a + b * b + c * c + d * d)) : 0 < (2 * (b + c + d) - a) + b + c + d ∧ ((2 * (b + c + d) - a) + b + c + d) * ((2 * (b + c + d) - a) + b + c + d) = 2 * ((2 * (b + c + d) - a) * (2 * (b + c + d) - a) + b * b + c * c + d * d) := by
  have e : ((2 * (b + c + d) - a) + b + c + d) * ((2 * (b + c + d) - a) + b + c + d) = 2 * ((2 * (b + c + d) - a) * (2 * (b + c + d) - a) + b * b + c * c + d * d) := by grind
  refine ⟨?_, e⟩
  obtain ⟨p1, p2, p3, p4, p5, p6⟩ := dq_pairs hs he
  generalize 2 * (b + c + d) - a = t at e ⊢
  refine Decidable.byContradiction fun h => ?_
  have key : ∀ x y z : Int, 0 ≤ x + y → ¬ 0 < t + x + y + z → 2 * ((x + y) * (t + z)) = (x - y) * (x - y) + (t - z) * (t - z) → x + y = 0 := fun x y z h1 h2 h3 => by
    refine Decidable.byContradiction fun h4 => ?_
    have h5 : (x + y) * (t + z) < 0 := Int.mul_neg_of_pos_of_neg (by omega) (by omega)
    have := i_sq (x - y)
    have := i_sq (t - z)
    omega
  have k1 := key b c d p4 (by omega) (by grind)
  have k2 := key b d c p5 (by omega) (by grind)
  have k3 := key c d b p6 (by omega) (by grind)
  have b0 : b = 0 := by omega
  have c0 : c = 0 := by omega
  have d0 : d = 0 := by omega
  subst b0; subst c0; subst d0
  have : a * a = 2 * (a * a) := by grind
  have : 0 < a * a := Int.mul_pos (by omega) (by omega)
  omega
theorem dq_even {s x : Int} (h : s * s = 2 * x) : s % 2 = 0 := by
  refine Decidable.byContradiction fun q => ?_
  obtain ⟨m, rfl⟩ : ∃ m, s = 2 * m + 1 := ⟨s / 2, by omega⟩
  have : (2 * m + 1) * (2 * m + 1) = 4 * (m * m) + 4 * m + 1 := by grind
  omega
def gOk (g : Nat → Int64) : Prop := 0 < ((g 0).toInt + (g 1).toInt + (g 2).toInt + (g 3).toInt) ∧ ((g 0).toInt + (g 1).toInt + (g 2).toInt + (g 3).toInt) * ((g 0).toInt + (g 1).toInt + (g 2).toInt + (g 3).toInt) = 2 * ((g 0).toInt * (g 0).toInt + (g 1).toInt * (g 1).toInt + (g 2).toInt * (g 2).toInt + (g 3).toInt * (g 3).toInt) ∧ ∀ k, k < 4 → (g k).toInt ≤ 1000000000000000
theorem lt4 {k : Nat} (h : k < 4) : k = 0 ∨ k = 1 ∨ k = 2 ∨ k = 3 := by omega
theorem gOk.pair {g : Nat → Int64} (h : gOk g) : 0 ≤ (g 0).toInt + (g 1).toInt ∧ 0 ≤ (g 0).toInt + (g 2).toInt ∧ 0 ≤ (g 0).toInt + (g 3).toInt ∧ 0 ≤ (g 1).toInt + (g 2).toInt ∧ 0 ≤ (g 1).toInt + (g 3).toInt ∧ 0 ≤ (g 2).toInt + (g 3).toInt := dq_pairs h.1 h.2.1
theorem gOk.lo {g : Nat → Int64} (h : gOk g) {k : Nat} (hk : k < 4) : -1000000000000000 ≤ (g k).toInt := by
  have p := h.pair
  have b0 := h.2.2 0 (by omega)
  have b1 := h.2.2 1 (by omega)
  rcases lt4 hk with rfl | rfl | rfl | rfl <;> omega
theorem mT_x (g : Nat → Int64) (p : Nat) : mTurned g 0 p = xTurn g p := by
  show 2 * (g 0 + g 1 + g 2 + g 3 - g (0 + p)) - g (0 + p) = 2 * (g 0 + g 1 + g 2 + g 3 - g p) - g p
  rw [Nat.zero_add]
theorem mB_x (g : Nat → Int64) : ∀ k, mBest g k = xGr g k
  | 0 => rfl
  | k + 1 => by rw [mBest, xGr, mB_x g k]
theorem gOk.turn_i {g : Nat → Int64} (h : gOk g) {p : Nat} (hp : p < 4) : (xTurn g p).toInt = 2 * (((g 0).toInt + (g 1).toInt + (g 2).toInt + (g 3).toInt) - (g p).toInt) - (g p).toInt := by
  have b : ∀ k, k < 4 → (g k).toInt ≤ 1000000000000000 ∧ -1000000000000000 ≤ (g k).toInt := fun k hk => ⟨h.2.2 k hk, h.lo hk⟩
  have b0 := b 0 (by omega)
  have b1 := b 1 (by omega)
  have b2 := b 2 (by omega)
  have b3 := b 3 (by omega)
  have bp := b p hp
  unfold xTurn
  have e1 : (g 0 + g 1).toInt = (g 0).toInt + (g 1).toInt := z_add (by omega) (by omega)
  have e2 : (g 0 + g 1 + g 2).toInt = (g 0).toInt + (g 1).toInt + (g 2).toInt := by rw [z_add, e1] <;> rw [e1] <;> omega
  have e3 : (g 0 + g 1 + g 2 + g 3).toInt = ((g 0).toInt + (g 1).toInt + (g 2).toInt + (g 3).toInt) := by rw [z_add, e2] <;> rw [e2] <;> omega
  have e4 : (g 0 + g 1 + g 2 + g 3 - g p).toInt = ((g 0).toInt + (g 1).toInt + (g 2).toInt + (g 3).toInt) - (g p).toInt := by rw [z_sub, e3] <;> rw [e3] <;> omega
  have two : (2 : Int64).toInt = 2 := rfl
  have e5 : (2 * (g 0 + g 1 + g 2 + g 3 - g p)).toInt = 2 * (((g 0).toInt + (g 1).toInt + (g 2).toInt + (g 3).toInt) - (g p).toInt) := by rw [z_mul, e4, two] <;> rw [e4, two] <;> omega
  rw [z_sub, e5] <;> rw [e5] <;> omega
theorem vp_s (g : Nat → Int64) (k : Nat) (v : Int64) : vp_updL g k v k = v := if_pos rfl
theorem vp_n (g : Nat → Int64) {k j : Nat} (v : Int64) (h : j ≠ k) : vp_updL g k v j = g j := if_neg h
/-- a turn keeps a gasket, where it stays within the bound -/
theorem gOk.turn {g : Nat → Int64} (h : gOk g) {p : Nat} (hp : p < 4) (hb : (xTurn g p).toInt ≤ 1000000000000000) : gOk (vp_updL g p (xTurn g p)) ∧ (((vp_updL g p (xTurn g p)) 0).toInt + ((vp_updL g p (xTurn g p)) 1).toInt + ((vp_updL g p (xTurn g p)) 2).toInt + ((vp_updL g p (xTurn g p)) 3).toInt) = 3 * ((g 0).toInt + (g 1).toInt + (g 2).toInt + (g 3).toInt) - 4 * (g p).toInt := by
  have e := h.turn_i hp
  obtain ⟨h1, h2, h3⟩ := h
  have hmax : ∀ k, k < 4 → ((vp_updL g p (xTurn g p)) k).toInt ≤ 1000000000000000 := fun k hk => by
    by_cases q : k = p
    · subst q; rw [vp_s]; exact hb
    · rw [vp_n _ _ q]; exact h3 k hk
  generalize ht : xTurn g p = t at *
  have s0 := fun (h : (0 : Nat) ≠ p) => vp_n g t h
  have s1 := fun (h : (1 : Nat) ≠ p) => vp_n g t h
  have s2 := fun (h : (2 : Nat) ≠ p) => vp_n g t h
  have s3 := fun (h : (3 : Nat) ≠ p) => vp_n g t h
  have sp := vp_s g p t
  skip
  rcases lt4 hp with rfl | rfl | rfl | rfl
  · have d := dq_turn (a := (g 0).toInt) (b := (g 1).toInt) (c := (g 2).toInt) (d := (g 3).toInt) h1 h2
    have et : t.toInt = 2 * ((g 1).toInt + (g 2).toInt + (g 3).toInt) - (g 0).toInt := by rw [e]; omega
    rw [← et] at d
    unfold gOk 
    rw [sp, s1 (by omega), s2 (by omega), s3 (by omega)]
    exact ⟨⟨d.1, d.2, hmax⟩, by rw [et]; omega⟩
  · have d := dq_turn (a := (g 1).toInt) (b := (g 0).toInt) (c := (g 2).toInt) (d := (g 3).toInt) (by omega) (by grind)
    have et : t.toInt = 2 * ((g 0).toInt + (g 2).toInt + (g 3).toInt) - (g 1).toInt := by rw [e]; omega
    rw [← et] at d
    unfold gOk 
    rw [sp, s0 (by omega), s2 (by omega), s3 (by omega)]
    exact ⟨⟨by have := d.1; omega, by have := d.2; grind, hmax⟩, by rw [et]; omega⟩
  · have d := dq_turn (a := (g 2).toInt) (b := (g 0).toInt) (c := (g 1).toInt) (d := (g 3).toInt) (by omega) (by grind)
    have et : t.toInt = 2 * ((g 0).toInt + (g 1).toInt + (g 3).toInt) - (g 2).toInt := by rw [e]; omega
    rw [← et] at d
    unfold gOk 
    rw [sp, s0 (by omega), s1 (by omega), s3 (by omega)]
    exact ⟨⟨by have := d.1; omega, by have := d.2; grind, hmax⟩, by rw [et]; omega⟩
  · have d := dq_turn (a := (g 3).toInt) (b := (g 0).toInt) (c := (g 1).toInt) (d := (g 2).toInt) (by omega) (by grind)
    have et : t.toInt = 2 * ((g 0).toInt + (g 1).toInt + (g 2).toInt) - (g 3).toInt := by rw [e]; omega
    rw [← et] at d
    unfold gOk 
    rw [sp, s0 (by omega), s1 (by omega), s2 (by omega)]
    exact ⟨⟨by have := d.1; omega, by have := d.2; grind, hmax⟩, by rw [et]; omega⟩
theorem xGr_max {g : Nat → Int64} {p : Nat} : ∀ n, p ≤ n → (∀ j, j ≤ n → j ≠ p → g j < g p) → xGr g n = p
  | 0, hp, _ => by rw [xGr]; omega
  | n + 1, hp, h => by
    rw [xGr]
    by_cases q : p = n + 1
    · have hl := xGr_le g n
      rw [← q, if_pos (h _ (by omega) (by omega))]
    · rw [xGr_max n (by omega) (fun j hj => h j (by omega)), if_neg (fun z => absurd (Int64.lt_trans z (h (n + 1) (Nat.le_refl _) (Ne.symm q))) Int64.lt_irrefl)]
/-- what a turn makes less is the greatest -/
theorem gOk.best {g : Nat → Int64} (h : gOk g) {p : Nat} (hp : p < 4) (hl : xTurn g p < g p) : xGr g 3 = p := by
  rw [Int64.lt_iff_toInt_lt, h.turn_i hp] at hl
  have pr := h.pair
  refine xGr_max 3 (by omega) fun j hj hjp => ?_
  rw [Int64.lt_iff_toInt_lt]
  show (g j).toInt < (g p).toInt
  skip
  rcases lt4 hp with rfl | rfl | rfl | rfl <;> rcases lt4 (show j < 4 by omega) with rfl | rfl | rfl | rfl <;> omega
theorem mLess_x (g : Nat → Int64) : mLess g ↔ xTurn g (xGr g 3) < g (xGr g 3) := by rw [mLess, mB_x, mT_x]
theorem mDown_x (g : Nat → Int64) : mDown g = vp_updL g (xGr g 3) (xTurn g (xGr g 3)) := by rw [mDown, mB_x, mT_x]
theorem mRun_s (g : Nat → Int64) : ∀ i, mRun (mDown g) i = mRun g (i + 1)
  | 0 => rfl
  | i + 1 => by rw [mRun, mRun_s g i]; rfl
theorem mRooted_s {g : Nat → Int64} {N : Nat} (h : mLess g) : mRooted g (N + 1) ↔ mRooted (mDown g) N := by
  constructor
  · rintro ⟨h1, h2⟩
    exact ⟨fun i hi => by rw [mRun_s]; exact h1 (i + 1) (by omega), by rw [mRun_s]; exact h2⟩
  · rintro ⟨h1, h2⟩
    refine ⟨fun i hi => ?_, by rw [← mRun_s]; exact h2⟩
    cases i with
    | zero => exact h
    | succ i => rw [← mRun_s]; exact h1 i (by omega)
theorem xGr_lt (g : Nat → Int64) : xGr g 3 < 4 := by have := xGr_le g 3; omega
theorem gOk.down {g : Nat → Int64} (h : gOk g) (hl : mLess g) : gOk (mDown g) ∧ (((mDown g) 0).toInt + ((mDown g) 1).toInt + ((mDown g) 2).toInt + ((mDown g) 3).toInt) + 4 ≤ ((g 0).toInt + (g 1).toInt + (g 2).toInt + (g 3).toInt) := by
  rw [mLess_x] at hl
  rw [mDown_x]
  have hp := xGr_lt g
  have hb := h.2.2 _ hp
  have l2 := hl
  rw [Int64.lt_iff_toInt_lt] at l2
  obtain ⟨a, b⟩ := h.turn hp (by omega)
  refine ⟨a, ?_⟩
  rw [h.turn_i hp] at l2
  have ev := dq_even h.2.1
  rw [b]
  generalize ((g 0).toInt + (g 1).toInt + (g 2).toInt + (g 3).toInt) = S at *
  generalize (g (xGr g 3)).toInt = q at *
  omega
/-- the root is reached -/
theorem root_ex : ∀ (n : Nat) (g : Nat → Int64), gOk g → (((g 0).toInt + (g 1).toInt + (g 2).toInt + (g 3).toInt)).toNat ≤ n → ∃ N, mRooted g N ∧ 4 * (N : Int) ≤ ((g 0).toInt + (g 1).toInt + (g 2).toInt + (g 3).toInt)
  | 0, g, h, hn => by have := h.1; omega
  | n + 1, g, h, hn => by
    by_cases q : mLess g
    · obtain ⟨a, b⟩ := h.down q
      obtain ⟨N, h1, h2⟩ := root_ex n (mDown g) a (by omega)
      exact ⟨N + 1, (mRooted_s q).mpr h1, by omega⟩
    · exact ⟨0, ⟨fun i hi => absurd hi (Nat.not_lt_zero _), q⟩, by have := h.1; omega⟩
theorem xRoot_run : ∀ (N : Nat) (g : Nat → Int64) (n : Nat), mRooted g N → N ≤ n → xRoot n g = mRun g N
  | 0, g, n, h, _ => by
    have h2 : ¬ mLess g := h.2
    rw [mLess_x] at h2
    cases n with
    | zero => rfl
    | succ n => rw [xRoot, if_neg h2]; rfl
  | N + 1, g, n, h, hn => by
    have h2 : mLess g := h.1 0 (by omega)
    have h3 := (mRooted_s h2).mp h
    rw [mLess_x] at h2
    obtain ⟨m, rfl⟩ : ∃ m, n = m + 1 := ⟨n - 1, by omega⟩
    rw [xRoot, if_pos h2, ← mRun_s, ← mDown_x]
    exact xRoot_run N _ m h3 (by omega)
/-- what lies behind the four does not matter -/
def ag4 (g h : Nat → Int64) : Prop := ∀ k, k < 4 → g k = h k
theorem ag4.gr {g h : Nat → Int64} (e : ag4 g h) : ∀ k, k < 4 → xGr g k = xGr h k
  | 0, _ => rfl
  | k + 1, hk => by
    have := xGr_le h k
    rw [xGr, xGr, e.gr k (by omega), e _ (show xGr h k < 4 by omega), e _ hk]
theorem ag4.turn {g h : Nat → Int64} (e : ag4 g h) {p : Nat} (hp : p < 4) : xTurn g p = xTurn h p := by
  unfold xTurn; rw [e 0 (by omega), e 1 (by omega), e 2 (by omega), e 3 (by omega), e p hp]
theorem ag4.less {g h : Nat → Int64} (e : ag4 g h) : mLess g ↔ mLess h := by
  rw [mLess_x, mLess_x, e.gr 3 (by omega), e.turn (xGr_lt h), e _ (xGr_lt h)]
theorem ag4.down {g h : Nat → Int64} (e : ag4 g h) : ag4 (mDown g) (mDown h) := by
  intro k hk
  rw [mDown_x, mDown_x, e.gr 3 (by omega), e.turn (xGr_lt h)]
  by_cases q : k = xGr h 3
  · rw [q, vp_s, vp_s]
  · rw [vp_n _ _ q, vp_n _ _ q]; exact e k hk
theorem ag4.run {g h : Nat → Int64} (e : ag4 g h) : ∀ N, ag4 (mRun g N) (mRun h N)
  | 0 => e
  | N + 1 => (e.run N).down
theorem ag4.rooted {g h : Nat → Int64} (e : ag4 g h) {N : Nat} (hr : mRooted h N) : mRooted g N :=
  ⟨fun i hi => ((e.run i).less).mpr (hr.1 i hi), fun z => hr.2 (((e.run N).less).mp z)⟩
theorem ag4.ok {g h : Nat → Int64} (e : ag4 g h) (hh : gOk h) : gOk g := by
  unfold gOk  at *
  rw [e 0 (by omega), e 1 (by omega), e 2 (by omega), e 3 (by omega)]
  exact ⟨hh.1, hh.2.1, fun k hk => by rw [e k hk]; exact hh.2.2 k hk⟩
theorem xRow_ag (g : Nat → Int64) : ag4 g (xRow (g 0) (g 1) (g 2) (g 3)) := by
  intro k hk
  rcases lt4 hk with rfl | rfl | rfl | rfl <;> simp [xRow, vp_updL]
/-! in order of size: both ways -/
theorem mSw_x (g : Nat → Int64) (v : Nat) : mSw g v = xSw g v := by
  unfold mSw xSw mLow
  have rr : ∀ a b : Int64, a + b - b = a := fun a b => by rw [Int64.add_sub_cancel]
  by_cases h : g (v + 1) < g v
  · rw [if_pos h, if_neg (fun z => absurd (Int64.lt_trans z h) Int64.lt_irrefl), rr]
    funext j
    simp only [vp_updL]
    by_cases q : j = v
    · subst q; rw [if_pos rfl, if_neg (by omega), if_pos rfl]
    · rw [if_neg q]
      by_cases q2 : j = v + 1
      · rw [if_pos q2, if_pos q2]
      · rw [if_neg q2, if_neg q2, if_neg q]
  · rw [if_neg h]
    have low : (if g v < g (v + 1) then g v else g (v + 1)) = g v := by
      by_cases q : g v < g (v + 1)
      · rw [if_pos q]
      · rw [if_neg q]
        rcases i64_tri (g v) (g (v + 1)) with z | z | z
        · exact absurd z q
        · exact z.symm
        · exact absurd z h
    rw [low, Int64.add_comm, rr]
    funext j
    simp only [vp_updL]
    by_cases q : j = v
    · subst q; rw [if_pos rfl]
    · rw [if_neg q]
      by_cases q2 : j = v + 1
      · rw [if_pos q2, q2]
      · rw [if_neg q2]
theorem mPass_x (g : Nat → Int64) : ∀ n, mPass g n = xPass g n
  | 0 => rfl
  | n + 1 => by rw [mPass, xPass, mPass_x g n, mSw_x]
theorem xSw_no {g : Nat → Int64} {v : Nat} (h : (g v).toInt ≤ (g (v + 1)).toInt) : xSw g v = g := by
  rw [xSw, if_neg (fun z => by rw [Int64.lt_iff_toInt_lt] at z; have : (g (v + 1)).toInt < (g v).toInt := z; omega)]
theorem xSw_at (g : Nat → Int64) (v : Nat) : ((xSw g v) v).toInt ≤ ((xSw g v) (v + 1)).toInt ∧ (∀ j, j ≠ v → j ≠ v + 1 → xSw g v j = g j) ∧ ((xSw g v v = g v ∧ xSw g v (v + 1) = g (v + 1)) ∨ (xSw g v v = g (v + 1) ∧ xSw g v (v + 1) = g v)) := by
  by_cases h : g (v + 1) < g v
  · have e : xSw g v = vp_updL (vp_updL g v (g (v + 1))) (v + 1) (g v) := if_pos h
    have e1 : xSw g v v = g (v + 1) := by rw [e, vp_n _ _ (by omega), vp_s]
    have e2 : xSw g v (v + 1) = g v := by rw [e, vp_s]
    refine ⟨?_, fun j h1 h2 => by rw [e, vp_n _ _ h2, vp_n _ _ h1], Or.inr ⟨e1, e2⟩⟩
    rw [e1, e2]
    rw [Int64.lt_iff_toInt_lt] at h; omega
  · have e : xSw g v = g := if_neg h
    rw [e]
    refine ⟨?_, fun j _ _ => rfl, Or.inl ⟨rfl, rfl⟩⟩
    rw [Int64.lt_iff_toInt_lt] at h
    show (g v).toInt ≤ (g (v + 1)).toInt
    omega
theorem xPass_off (g : Nat → Int64) : ∀ n k, n < k → xPass g n k = g k
  | 0, _, _ => rfl
  | n + 1, k, h => by rw [xPass, (xSw_at _ _).2.1 k (by omega) (by omega), xPass_off g n k (by omega)]
theorem xPass_le (g : Nat → Int64) (M : Int) : ∀ n, (∀ j, j ≤ n → (g j).toInt ≤ M) → ∀ j, j ≤ n → ((xPass g n) j).toInt ≤ M
  | 0, h, j, hj => h j hj
  | n + 1, h, j, hj => by
    have ih := xPass_le g M n (fun j hj => h j (by omega))
    have hn : ((xPass g n) (n + 1)).toInt ≤ M := by rw [xPass_off g n _ (by omega)]; exact h (n + 1) (by omega)
    have ihn := ih n (by omega)
    obtain ⟨-, h2, h3⟩ := xSw_at (xPass g n) n
    rw [xPass]
    by_cases q : j = n
    · subst q
      rcases h3 with ⟨a, b⟩ | ⟨a, b⟩ <;> (rw [a]; assumption)
    · by_cases q2 : j = n + 1
      · subst q2
        rcases h3 with ⟨a, b⟩ | ⟨a, b⟩ <;> (rw [b]; assumption)
      · rw [h2 j q q2]; exact ih j (by omega)
theorem xPass_max (g : Nat → Int64) : ∀ n j, j ≤ n → ((xPass g n) j).toInt ≤ ((xPass g n) n).toInt
  | 0, j, hj => by rw [show j = 0 by omega]; exact Int.le_refl _
  | n + 1, j, hj => by
    have ih := xPass_max g n
    obtain ⟨h1, h2, h3⟩ := xSw_at (xPass g n) n
    rw [xPass]
    by_cases q2 : j = n + 1
    · rw [q2]; exact Int.le_refl _
    · by_cases q : j = n
      · rw [q]; exact h1
      · have e : ((xSw (xPass g n) n) j).toInt = ((xPass g n) j).toInt := by rw [h2 j q q2]
        rw [e]
        have hj2 := ih j (by omega)
        have : ((xPass g n) n).toInt ≤ ((xSw (xPass g n) n) (n + 1)).toInt := by
          rcases h3 with ⟨a, b⟩ | ⟨a, b⟩
          · have : ((xSw (xPass g n) n) n).toInt = ((xPass g n) n).toInt := by rw [a]
            omega
          · rw [b]; exact Int.le_refl _
        omega
theorem sort_x (g : Nat → Int64) : mSortP g 3 = xDown 3 g := by
  show mPass (mPass (mPass g 3) 3) 3 = xPass (xPass (xPass g 3) 2) 1
  rw [mPass_x, mPass_x, mPass_x]
  generalize hh1 : xPass g 3 = h1
  have m1 : ∀ j, j ≤ 3 → (h1 j).toInt ≤ (h1 3).toInt := by rw [← hh1]; exact xPass_max g 3
  have e1 : xPass h1 3 = xPass h1 2 := by
    rw [xPass]
    refine xSw_no ?_
    have a := xPass_le h1 ((h1 3).toInt) 2 (fun j hj => m1 j (by omega)) 2 (by omega)
    have b : ((xPass h1 2) (2 + 1)).toInt = (h1 3).toInt := by rw [xPass_off h1 2 _ (by omega)]
    omega
  rw [e1]
  generalize hh2 : xPass h1 2 = h2
  have m2 : ∀ j, j ≤ 2 → (h2 j).toInt ≤ (h2 2).toInt := by rw [← hh2]; exact xPass_max h1 2
  have m3 : (h2 2).toInt ≤ (h2 3).toInt := by
    have a := xPass_le h1 ((h1 3).toInt) 2 (fun j hj => m1 j (by omega)) 2 (by omega)
    have b : ((xPass h1 2) 3).toInt = (h1 3).toInt := by rw [xPass_off h1 2 _ (by omega)]
    rw [← hh2]; omega
  have a := xPass_le h2 ((h2 2).toInt) 1 (fun j hj => m2 j (by omega)) 1 (by omega)
  have b : ((xPass h2 1) 2).toInt = (h2 2).toInt := by rw [xPass_off h2 1 _ (by omega)]
  have c : ((xPass h2 1) 3).toInt = (h2 3).toInt := by rw [xPass_off h2 1 _ (by omega)]
  have e2 : xPass h2 2 = xPass h2 1 := by rw [xPass]; exact xSw_no (by show ((xPass h2 1) 1).toInt ≤ ((xPass h2 1) 2).toInt; omega)
  rw [xPass, e2]
  exact xSw_no (by show ((xPass h2 1) 2).toInt ≤ ((xPass h2 1) 3).toInt; omega)
theorem sort_order (g : Nat → Int64) : ((xDown 3 g) 0).toInt ≤ ((xDown 3 g) 1).toInt ∧ ((xDown 3 g) 1).toInt ≤ ((xDown 3 g) 2).toInt ∧ ((xDown 3 g) 2).toInt ≤ ((xDown 3 g) 3).toInt := by
  show ((xPass (xPass (xPass g 3) 2) 1) 0).toInt ≤ ((xPass (xPass (xPass g 3) 2) 1) 1).toInt ∧ ((xPass (xPass (xPass g 3) 2) 1) 1).toInt ≤ ((xPass (xPass (xPass g 3) 2) 1) 2).toInt ∧ ((xPass (xPass (xPass g 3) 2) 1) 2).toInt ≤ ((xPass (xPass (xPass g 3) 2) 1) 3).toInt
  generalize hh1 : xPass g 3 = h1
  have m1 : ∀ j, j ≤ 3 → (h1 j).toInt ≤ (h1 3).toInt := by rw [← hh1]; exact xPass_max g 3
  have a1 := xPass_le h1 ((h1 3).toInt) 2 (fun j hj => m1 j (by omega)) 2 (by omega)
  have b1 : ((xPass h1 2) 3).toInt = (h1 3).toInt := by rw [xPass_off h1 2 _ (by omega)]
  generalize hh2 : xPass h1 2 = h2 at *
  have m2 : ∀ j, j ≤ 2 → (h2 j).toInt ≤ (h2 2).toInt := by rw [← hh2]; exact xPass_max h1 2
  have a := xPass_le h2 ((h2 2).toInt) 1 (fun j hj => m2 j (by omega)) 1 (by omega)
  have b : ((xPass h2 1) 2).toInt = (h2 2).toInt := by rw [xPass_off h2 1 _ (by omega)]
  have c : ((xPass h2 1) 3).toInt = (h2 3).toInt := by rw [xPass_off h2 1 _ (by omega)]
  have d := xPass_max h2 1 0 (by omega)
  omega
theorem ag4.sw {g h : Nat → Int64} (e : ag4 g h) {v : Nat} (hv : v < 3) : ag4 (xSw g v) (xSw h v) := by
  intro k hk
  unfold xSw
  rw [e v (by omega), e (v + 1) (by omega)]
  split
  · simp only [vp_updL]
    split
    · rfl
    · split
      · rfl
      · exact e k hk
  · exact e k hk
theorem ag4.pass {g h : Nat → Int64} (e : ag4 g h) : ∀ n, n ≤ 3 → ag4 (xPass g n) (xPass h n)
  | 0, _ => e
  | n + 1, hn => (e.pass n (by omega)).sw (by omega)
theorem ag4.sort {g h : Nat → Int64} (e : ag4 g h) : ag4 (xDown 3 g) (xDown 3 h) := ((e.pass 3 (by omega)).pass 2 (by omega)).pass 1 (by omega)
/-- a root: no turn makes it less -/
def gRt (g : Nat → Int64) : Prop := gOk g ∧ ∀ k, k < 4 → 2 * (g k).toInt ≤ ((g 0).toInt + (g 1).toInt + (g 2).toInt + (g 3).toInt)
theorem xSw_rt {g : Nat → Int64} (h : gRt g) {v : Nat} (hv : v < 3) : gRt (xSw g v) := by
  obtain ⟨⟨h1, h2, h3⟩, h4⟩ := h
  obtain ⟨-, a2, a3⟩ := xSw_at g v
  have k0 := h4 0 (by omega); have k1 := h4 1 (by omega); have k2 := h4 2 (by omega); have k3 := h4 3 (by omega)
  have l0 := h3 0 (by omega); have l1 := h3 1 (by omega); have l2 := h3 2 (by omega); have l3 := h3 3 (by omega)
  unfold gRt gOk  at *
  rcases (show v = 0 ∨ v = 1 ∨ v = 2 by omega) with rfl | rfl | rfl
  · have b2 := a2 2 (by omega) (by omega); have b3 := a2 3 (by omega) (by omega)
    rcases a3 with ⟨c1, c2⟩ | ⟨c1, c2⟩ <;> simp only [Nat.zero_add] at c1 c2 <;> rw [c1, c2, b2, b3] <;> refine ⟨⟨by omega, by grind, fun k hk => ?_⟩, fun k hk => ?_⟩ <;> rcases lt4 hk with rfl | rfl | rfl | rfl <;> (first | rw [c1] | rw [c2] | rw [b2] | rw [b3]) <;> omega
  · have b2 := a2 0 (by omega) (by omega); have b3 := a2 3 (by omega) (by omega)
    rcases a3 with ⟨c1, c2⟩ | ⟨c1, c2⟩ <;> simp only [Nat.reduceAdd] at c1 c2 <;> rw [c1, c2, b2, b3] <;> refine ⟨⟨by omega, by grind, fun k hk => ?_⟩, fun k hk => ?_⟩ <;> rcases lt4 hk with rfl | rfl | rfl | rfl <;> (first | rw [c1] | rw [c2] | rw [b2] | rw [b3]) <;> omega
  · have b2 := a2 0 (by omega) (by omega); have b3 := a2 1 (by omega) (by omega)
    rcases a3 with ⟨c1, c2⟩ | ⟨c1, c2⟩ <;> simp only [Nat.reduceAdd] at c1 c2 <;> rw [c1, c2, b2, b3] <;> refine ⟨⟨by omega, by grind, fun k hk => ?_⟩, fun k hk => ?_⟩ <;> rcases lt4 hk with rfl | rfl | rfl | rfl <;> (first | rw [c1] | rw [c2] | rw [b2] | rw [b3]) <;> omega
theorem xPass_rt {g : Nat → Int64} (h : gRt g) : ∀ n, n ≤ 3 → gRt (xPass g n)
  | 0, _ => h
  | n + 1, hn => by
    rw [xPass]
    exact xSw_rt (xPass_rt h n (by omega)) (by omega)
theorem sort_rt {g : Nat → Int64} (h : gRt g) : gRt (xDown 3 g) := by
  show gRt (xPass (xPass (xPass g 3) 2) 1)
  exact xPass_rt (xPass_rt (xPass_rt h 3 (by omega)) 2 (by omega)) 1 (by omega)
theorem gOk.run {g : Nat → Int64} (h : gOk g) : ∀ N, (∀ i, i < N → mLess (mRun g i)) → gOk (mRun g N)
  | 0, _ => h
  | N + 1, hl => ((h.run N (fun i hi => hl i (by omega))).down (hl N (by omega))).1
theorem root_rt {g : Nat → Int64} (h : gOk g) {N : Nat} (hr : mRooted g N) : gRt (mRun g N) := by
  have hk := h.run N hr.1
  refine ⟨hk, fun k hk4 => ?_⟩
  refine Decidable.byContradiction fun z => ?_
  have e := hk.turn_i hk4
  have hl : xTurn (mRun g N) k < mRun g N k := by
    rw [Int64.lt_iff_toInt_lt, e]
    show _ < ((mRun g N) k).toInt
    omega
  have hb := hk.best hk4 hl
  exact hr.2 ((mLess_x _).mpr (by rw [hb]; exact hl))
/-- the four as they stand, and the root that was found when they were told -/
def gInv (g le : Nat → Int64) : Prop := gOk g ∧ ∃ N, mRooted g N ∧ ag4 (xDown 3 (mRun g N)) le
theorem gInv.use {g le : Nat → Int64} (h : gInv g le) : ∃ N, ∀ h9, ag4 h9 g → mRooted h9 N ∧ ∀ k, k < 4 → mSortP (mRun h9 N) 3 k = le k := by
  obtain ⟨h1, N, h2, h3⟩ := h
  refine ⟨N, fun h9 e => ⟨e.rooted h2, fun k hk => ?_⟩⟩
  rw [sort_x, (e.run N).sort k hk, h3 k hk]
theorem gInv.rt {g le : Nat → Int64} (h : gInv g le) : gRt le ∧ (le 0).toInt ≤ (le 1).toInt ∧ (le 1).toInt ≤ (le 2).toInt ∧ (le 2).toInt ≤ (le 3).toInt := by
  obtain ⟨h1, N, h2, h3⟩ := h
  have a := sort_rt (root_rt h1 h2)
  have b := sort_order (mRun g N)
  have e : ∀ k, k < 4 → (le k).toInt = ((xDown 3 (mRun g N)) k).toInt := fun k hk => by rw [h3 k hk]
  have e0 := e 0 (by omega); have e1 := e 1 (by omega); have e2 := e 2 (by omega); have e3 := e 3 (by omega)
  refine ⟨?_, by rw [e0, e1]; exact b.1, by rw [e1, e2]; exact b.2.1, by rw [e2, e3]; exact b.2.2⟩
  obtain ⟨⟨c1, c2, c3⟩, c4⟩ := a
  unfold gRt gOk
  rw [e0, e1, e2, e3]
  exact ⟨⟨c1, c2, fun k hk => by rw [e k hk]; exact c3 k hk⟩, fun k hk => by rw [e k hk]; exact c4 k hk⟩
/-- a turn changes no root -/
theorem gInv.turn {g le : Nat → Int64} (h : gInv g le) {p : Nat} (hp : p < 4) (hb : (xTurn g p).toInt ≤ 1000000000000000) : gInv (vp_updL g p (xTurn g p)) le := by
  obtain ⟨h1, N, h2, h3⟩ := h
  obtain ⟨k1, k2⟩ := h1.turn hp hb
  have hback : xTurn (vp_updL g p (xTurn g p)) p = g p := by
    apply Int64.toInt_inj.mp
    rw [k1.turn_i hp, k2]
    skip
    rw [vp_s, h1.turn_i hp]
    show _ = (g p).toInt
    omega
  have hg : vp_updL (vp_updL g p (xTurn g p)) p (g p) = g := kRest
  refine ⟨k1, ?_⟩
  rcases i64_tri (xTurn g p) (g p) with q | q | q
  · -- down
    have hbest := h1.best hp q
    have hl : mLess g := (mLess_x g).mpr (by rw [hbest]; exact q)
    have hd : mDown g = vp_updL g p (xTurn g p) := by rw [mDown_x, hbest]
    cases N with
    | zero => exact absurd hl h2.2
    | succ N =>
      rw [← hd]
      refine ⟨N, (mRooted_s hl).mp h2, ?_⟩
      rw [mRun_s]; exact h3
  · have e : vp_updL g p (xTurn g p) = g := by rw [q]; funext j; simp only [vp_updL]; split; rename_i z; rw [z]; rfl
    rw [e]; exact ⟨N, h2, h3⟩
  · -- up
    have q2 : xTurn (vp_updL g p (xTurn g p)) p < vp_updL g p (xTurn g p) p := by rw [hback, vp_s]; exact q
    have hbest := k1.best hp q2
    have hl : mLess (vp_updL g p (xTurn g p)) := (mLess_x _).mpr (by rw [hbest]; exact q2)
    have hd : mDown (vp_updL g p (xTurn g p)) = g := by rw [mDown_x, hbest, hback, hg]
    refine ⟨N + 1, (mRooted_s hl).mpr (by rw [hd]; exact h2), ?_⟩
    rw [← mRun_s, hd]; exact h3
/-- told -/
theorem gInv.told {g : Nat → Int64} (h : gOk g) (hm : ∀ k, k < 4 → (g k).toInt ≤ 1000000) : gInv g (xDown 3 (xRoot 1000000 g)) := by
  obtain ⟨N, h1, h2⟩ := root_ex (((g 0).toInt + (g 1).toInt + (g 2).toInt + (g 3).toInt)).toNat g h (Nat.le_refl _)
  have m0 := hm 0 (by omega); have m1 := hm 1 (by omega); have m2 := hm 2 (by omega); have m3 := hm 3 (by omega)
  have hN : N ≤ 1000000 := by omega
  refine ⟨h, N, h1, ?_⟩
  rw [xRoot_run N g 1000000 h1 hN]
  exact fun k _ => rfl
