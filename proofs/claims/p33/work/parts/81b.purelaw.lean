/-! numbers for the law's drawn calls -/
theorem lie_cs (a4 a5 a6 : Nat → Int32) (u v : Nat) : mLies a4 a5 a6 u v = nI 0 ∨ mLies a4 a5 a6 u v = nI 1 ∨ mLies a4 a5 a6 u v = nI 2 := by
  show kLie _ _ = nI 0 ∨ kLie _ _ = nI 1 ∨ kLie _ _ = nI 2
  unfold kLie
  split
  · exact .inl rfl
  · split
    · exact .inr (.inl rfl)
    · exact .inr (.inr rfl)
theorem kCnt_three (g : Nat → Int32) (hg : ∀ v, g v = nI 0 ∨ g v = nI 1 ∨ g v = nI 2) : ∀ n, kCnt (fun v => g v = nI 0) n + kCnt (fun v => g v = nI 1) n + kCnt (fun v => g v = nI 2) n = n
  | 0 => rfl
  | n + 1 => by
    have ih := kCnt_three g hg n
    simp only [kCnt]
    rcases hg n with h | h | h
    · rw [if_pos h, if_neg (by rw [h]; decide), if_neg (by rw [h]; decide)]; omega
    · rw [if_neg (by rw [h]; decide), if_pos h, if_neg (by rw [h]; decide)]; omega
    · rw [if_neg (by rw [h]; decide), if_neg (by rw [h]; decide), if_pos h]; omega
theorem tri_step : ∀ n : Nat, (n + 1) * n = n * (n - 1) + 2 * n
  | 0 => rfl
  | k + 1 => by
    rw [Nat.add_sub_cancel]
    grind
theorem pairs_sum (g : Nat → Nat → Int32) (hg : ∀ u v, g u v = nI 0 ∨ g u v = nI 1 ∨ g u v = nI 2) : ∀ n, 2 * (kCnt2 (fun u v => g u v = nI 0) n + kCnt2 (fun u v => g u v = nI 1) n + kCnt2 (fun u v => g u v = nI 2) n) = n * (n - 1)
  | 0 => rfl
  | n + 1 => by
    have ih := pairs_sum g hg n
    have h3 := kCnt_three (g n) (hg n) n
    have e := tri_step n
    simp only [kCnt2, Nat.add_sub_cancel]
    rw [e, ← ih]
    omega
def pC (m : pSt) (t : Nat) : Nat := kCnt2 (fun x9 y9 => mLies m.dx m.dy m.dr x9 y9 = nI t) m.nd
theorem tri_num : ∀ n, n < 17 → nI n * (nI n - nI 1) / nI 2 = nI (n * (n - 1) / 2) := by decide
theorem tri_law {m : pSt} (hn : m.nd ≤ 16) : nI (pC m 0) + nI (pC m 1) + nI (pC m 2) = nI m.nd * (nI m.nd - nI 1) / nI 2 := by
  rw [tri_num _ (by omega), nI_add, nI_add]
  have := pairs_sum (mLies m.dx m.dy m.dr) (lie_cs _ _ _) m.nd
  unfold pC
  congr 1
  omega
theorem e_pairs (m : pSt) : c_pairs m (nI 0) = (0, nI (pC m 0), m) ∧ c_pairs m (nI 1) = (0, nI (pC m 1), m) ∧ c_pairs m (nI 2) = (0, nI (pC m 2), m) := by
  refine ⟨?_, ?_, ?_⟩
  all_goals (unfold c_pairs; rw [if_pos (by decide)]; rfl)
theorem draws_edges {m : pSt} {th : nTh} (h : nSA m.cc m.fc m.fa th) (hd : mDr m.fa m.dx m.dy m.dr m.fc m.cc m.nd m.nd) : pC m 1 = 3 * m.cc - 6 := by
  obtain ⟨e, hp⟩ := hd
  rw [← h.edges]
  have e2 : pC m 1 = kCnt2 (fun x9 y9 => mLies m.dx m.dy m.dr x9 y9 = nI 1) m.cc := by
    unfold pC
    rw [e]
  rw [e2]
  refine kCnt2_cg m.cc (fun a b ha hb => ?_)
  have hq : mLies m.dx m.dy m.dr a b = if mAdj m.fa m.fc (nI a) (nI b) then nI 1 else nI 0 := hp a (by omega) b hb
  rw [hq]
  by_cases q : mAdj m.fa m.fc (nI a) (nI b)
  · rw [if_pos q]; exact ⟨fun _ => q, fun _ => rfl⟩
  · rw [if_neg q]; exact ⟨fun z => absurd z (by decide), fun z => absurd z q⟩
theorem Inv.dr1 {G : kG} {h : Nat} {f : kH} {m : pSt} (hI : Inv G h f m) {k : Nat} (hk : k < m.nd) : ¬ (m.dr k).toInt64 < 1 := by
  obtain ⟨o, c, hI⟩ := hI
  obtain ⟨sz, w, dx, dy, dr, -, -, b2, e2, hx⟩ := (show cDsk G (kR o 2 f) c m from hI 2)
  have h1 := (hx k (by omega)).2.2.2.2.2.1
  rw [Int64.lt_iff_toInt_lt, Int32.toInt_toInt64]
  intro z
  have e1 : (1 : Int64).toInt = 1 := by decide
  rw [e1] at z
  omega
theorem dsk_m : ∀ x, x < 40 → ∀ y, y < 40 → ∀ r, r < 9 → mDisk (nI x) (nI y) (nI (1 + r)) := by
  intro x hx y hy r hr
  refine ⟨⟨?_, ?_⟩, ⟨?_, ?_⟩, ⟨?_, ?_⟩⟩
  all_goals (rw [nI_toInt (by omega)]; omega)
/-! gaskets -/
theorem gk_rem : ∀ a, a < 6 → ∀ b, b < 6 → nI (1 + a) * nI (1 + a) - nI (1 + a) * nI (1 + a) / nI (1 + b) * nI (1 + b) = nI ((1 + a) * (1 + a) % (1 + b)) := by decide +kernel
theorem gk_div : ∀ a, a < 6 → ∀ b, b < 6 → nI (1 + a) * nI (1 + a) / nI (1 + b) = nI ((1 + a) * (1 + a) / (1 + b)) := by decide +kernel
abbrev gcC (a b : Nat) : Nat := (1 + a) * (1 + a) / (1 + b)
def gkB (a b : Nat) : Bool := decide (mGk (-(nI (1 + a))) (nI (1 + a) + nI (1 + b)) (nI (1 + a) + nI (gcC a b)) (nI (1 + a) + nI (1 + b) + nI (gcC a b)))
def gkR (a b : Nat) : Bool := decide (xLeast (-(nI (1 + a))).toInt64 (nI (1 + a) + nI (1 + b)).toInt64 (nI (1 + a) + nI (gcC a b)).toInt64 (nI (1 + a) + nI (1 + b) + nI (gcC a b)).toInt64 0 < 0)
def gkZ (a b : Nat) : Bool := decide ((1 + a) * (1 + a) % (1 + b) = 0)
theorem gk_b : ∀ a, a < 6 → ∀ b, b < 6 → gkB a b = gkZ a b := by decide +kernel
theorem gk_r : ∀ a, a < 6 → ∀ b, b < 6 → (!gkZ a b || gkR a b) = true := by decide +kernel
theorem gk_yes (a : Nat) (ha : a < 6) (b : Nat) (hb : b < 6) (h : (1 + a) * (1 + a) % (1 + b) = 0) : mGk (-(nI (1 + a))) (nI (1 + a) + nI (1 + b)) (nI (1 + a) + nI (gcC a b)) (nI (1 + a) + nI (1 + b) + nI (gcC a b)) ∧ xLeast (-(nI (1 + a))).toInt64 (nI (1 + a) + nI (1 + b)).toInt64 (nI (1 + a) + nI (gcC a b)).toInt64 (nI (1 + a) + nI (1 + b) + nI (gcC a b)).toInt64 0 < 0 := by
  have hz : gkZ a b = true := decide_eq_true h
  have h1 := gk_b a ha b hb
  have h2 := gk_r a ha b hb
  rw [hz] at h1 h2
  have h2 : gkR a b = true := by simpa using h2
  exact ⟨of_decide_eq_true h1, of_decide_eq_true h2⟩
theorem gk_no (a : Nat) (ha : a < 6) (b : Nat) (hb : b < 6) (h : ¬ (1 + a) * (1 + a) % (1 + b) = 0) : ¬ mGk (-(nI (1 + a))) (nI (1 + a) + nI (1 + b)) (nI (1 + a) + nI (gcC a b)) (nI (1 + a) + nI (1 + b) + nI (gcC a b)) := by
  have hz : gkZ a b = false := decide_eq_false h
  have h1 := gk_b a ha b hb
  rw [hz] at h1
  exact of_decide_eq_false h1
theorem upL4 (g : Nat → Int64) (a p : Nat) (w : Int64) (j : Nat) : vp_updL g (a + p) w (a + j) = if j = p then w else g (a + j) := by
  unfold vp_updL
  by_cases q : j = p
  · rw [if_pos q, if_pos (by omega)]
  · rw [if_neg q, if_neg (by omega)]
theorem turn_back (g : Nat → Int64) (a p : Nat) (hp : p < 4) (w : Int64) (hw : mTurned g a p = w) : mTurned (vp_updL g (a + p) w) a p = g (a + p) := by
  have e0 := upL4 g a p w 0
  have e1 := upL4 g a p w 1
  have e2 := upL4 g a p w 2
  have e3 := upL4 g a p w 3
  have ep : vp_updL g (a + p) w (a + p) = w := by rw [upL4, if_pos rfl]
  have hw : 2 * (g (a + 0) + g (a + 1) + g (a + 2) + g (a + 3) - g (a + p)) - g (a + p) = w := hw
  show 2 * (vp_updL g (a + p) w (a + 0) + vp_updL g (a + p) w (a + 1) + vp_updL g (a + p) w (a + 2) + vp_updL g (a + p) w (a + 3) - vp_updL g (a + p) w (a + p)) - vp_updL g (a + p) w (a + p) = g (a + p)
  rw [ep, e0, e1, e2, e3]
  rcases (show p = 0 ∨ p = 1 ∨ p = 2 ∨ p = 3 by omega) with rfl | rfl | rfl | rfl
  · rw [if_pos rfl, if_neg (by decide), if_neg (by decide), if_neg (by decide)]
    generalize g (a + 0) = x0 at hw ⊢; generalize g (a + 1) = x1 at hw ⊢; generalize g (a + 2) = x2 at hw ⊢; generalize g (a + 3) = x3 at hw ⊢
    grind
  · rw [if_neg (by decide), if_pos rfl, if_neg (by decide), if_neg (by decide)]
    generalize g (a + 0) = x0 at hw ⊢; generalize g (a + 1) = x1 at hw ⊢; generalize g (a + 2) = x2 at hw ⊢; generalize g (a + 3) = x3 at hw ⊢
    grind
  · rw [if_neg (by decide), if_neg (by decide), if_pos rfl, if_neg (by decide)]
    generalize g (a + 0) = x0 at hw ⊢; generalize g (a + 1) = x1 at hw ⊢; generalize g (a + 2) = x2 at hw ⊢; generalize g (a + 3) = x3 at hw ⊢
    grind
  · rw [if_neg (by decide), if_neg (by decide), if_neg (by decide), if_pos rfl]
    generalize g (a + 0) = x0 at hw ⊢; generalize g (a + 1) = x1 at hw ⊢; generalize g (a + 2) = x2 at hw ⊢; generalize g (a + 3) = x3 at hw ⊢
    grind
theorem Inv.fo15 {G : kG} {h : Nat} {f : kH} {m : pSt} (hI : Inv G h f m) {i j : Nat} (hi : i < m.ng) (hj : j < 4) : ¬ 1000000000000000 < m.fo (4 * i + j) := by
  obtain ⟨o, c, hI⟩ := hI
  obtain ⟨sz, w, g1, g2, g3, fo, le, wa, -, -, -, -, b3, e3, hx⟩ := (show cGsk G (kR o 3 f) c m from hI 3)
  obtain ⟨hg, -, h1, -⟩ := hx i (by omega)
  rw [h1 j hj, Int64.lt_iff_toInt_lt]
  have := hg.1.2.2 j hj
  intro z
  have e1 : (1000000000000000 : Int64).toInt = 1000000000000000 := by decide
  rw [e1] at z
  omega
/-! fractions -/
theorem btw_ok : ∀ r, r < 41 → ∀ q, q < 20 → ∀ p, p < 41 → mFord (mCross (nI p - nI 20) (nI (1 + q)) (nI r - nI 20) (nI 1)) = nI 1 → (if mCross (nI p - nI 20) (nI (1 + q)) (nI r - nI 20) (nI 1) < 0 then cSide (nI 0) (nI p - nI 20) (nI (1 + q)) (nI r - nI 20) (nI 1) else cSide (nI 0) (nI r - nI 20) (nI 1) (nI p - nI 20) (nI (1 + q))) = (nI (1 + q) + nI 1).toInt64 := by decide +kernel
/-! words -/
def lDet (V : Nat → Int64) (i : Nat) : Prop := V i * V (i + 3) - V (i + 1) * V (i + 2) = 1
def dInv (m : pSt) : Prop := lDet m.pr 0 ∧ ∀ i, i < m.nm → lDet m.mv (4 * i)
theorem dInv_0 : dInv p0 := ⟨by show mW0 0 * mW0 3 - mW0 1 * mW0 2 = 1; decide +kernel, fun i hi => absurd hi (Nat.not_lt_zero _)⟩
theorem det_mul (W : Nat → Int64) (a b c d : Int64) (h : lDet W 0) (h2 : a * d - b * c = 1) : lDet (pMul W a b c d) 0 := by
  have h : W 0 * W 3 - W 1 * W 2 = 1 := h
  show (W 0 * a + W 1 * c) * (W 2 * b + W 3 * d) - (W 0 * b + W 1 * d) * (W 2 * a + W 3 * c) = 1
  generalize W 0 = w0 at h ⊢; generalize W 1 = w1 at h ⊢; generalize W 2 = w2 at h ⊢; generalize W 3 = w3 at h ⊢
  have e : (w0 * a + w1 * c) * (w2 * b + w3 * d) - (w0 * b + w1 * d) * (w2 * a + w3 * c) = (w0 * w3 - w1 * w2) * (a * d - b * c) := by grind
  rw [e, h, h2]
  rfl
theorem det_prd {m : pSt} (h : dInv m) {i : Nat} (hi : i < m.nm) (x2 : Int32) : lDet (pPrd m.pr m.mv i x2) 0 := by
  have hm : m.mv (4 * i) * m.mv (4 * i + 3) - m.mv (4 * i + 1) * m.mv (4 * i + 2) = 1 := h.2 i hi
  unfold pPrd
  by_cases q : x2 = 0
  · rw [if_pos q]; exact det_mul _ _ _ _ _ h.1 hm
  · rw [if_neg q]
    refine det_mul _ _ _ _ _ h.1 ?_
    generalize m.mv (4 * i) = a at hm ⊢; generalize m.mv (4 * i + 1) = b at hm ⊢; generalize m.mv (4 * i + 2) = c at hm ⊢; generalize m.mv (4 * i + 3) = d at hm ⊢
    rw [← hm]
    grind
theorem dInv_app {m : pSt} (h : dInv m) {i : Nat} (hi : i < m.nm) (x2 : Int32) : dInv (pMk m.cc m.fc m.nd m.ng m.nm m.nc m.nw m.fa m.dx m.dy m.dr m.fo m.ro m.mv (pPrd m.pr m.mv i x2) m.ea m.eb) := ⟨det_prd h hi x2, h.2⟩
theorem dInv_home {m : pSt} (h : dInv m) : dInv (pMk m.cc m.fc m.nd m.ng m.nm m.nc m.nw m.fa m.dx m.dy m.dr m.fo m.ro m.mv (mW0) m.ea m.eb) := ⟨dInv_0.1, h.2⟩
theorem tl_m : ∀ a, a < 19 → ∀ b, b < 5 → mTl (nI a - nI 9) ((nI a - nI 9) * nI b - nI 1) (nI 1) (nI b) ∧ (nI a - nI 9).toInt64 * (nI b).toInt64 - ((nI a - nI 9) * nI b - nI 1).toInt64 * (nI 1).toInt64 = 1 := by decide +kernel
theorem wB19_at (g : Nat → Int64) (n : Nat) (a b c d : Int64) : pB19 g n a b c d (4 * n) = a ∧ pB19 g n a b c d (4 * n + 1) = b ∧ pB19 g n a b c d (4 * n + 2) = c ∧ pB19 g n a b c d (4 * n + 3) = d ∧ ∀ k, k < 4 * n → pB19 g n a b c d k = g k := by
  unfold pB19 vp_updL
  refine ⟨?_, ?_, ?_, ?_, fun k hk => ?_⟩
  · rw [if_neg (by omega), if_neg (by omega), if_neg (by omega), if_pos rfl]
  · rw [if_neg (by omega), if_neg (by omega), if_pos rfl]
  · rw [if_neg (by omega), if_pos rfl]
  · rw [if_pos rfl]
  · rw [if_neg (by omega), if_neg (by omega), if_neg (by omega), if_neg (by omega)]
theorem dInv_tell {m : pSt} (h : dInv m) {a b c d : Int64} (h2 : a * d - b * c = 1) : dInv (pMk m.cc m.fc m.nd m.ng (m.nm + 1) m.nc m.nw m.fa m.dx m.dy m.dr m.fo m.ro (pB19 m.mv m.nm a b c d) m.pr m.ea m.eb) := by
  refine ⟨h.1, fun i hi => ?_⟩
  obtain ⟨e0, e1, e2, e3, e4⟩ := wB19_at m.mv m.nm a b c d
  have hi : i < m.nm + 1 := hi
  show pB19 m.mv m.nm a b c d (4 * i) * pB19 m.mv m.nm a b c d (4 * i + 3) - pB19 m.mv m.nm a b c d (4 * i + 1) * pB19 m.mv m.nm a b c d (4 * i + 2) = 1
  by_cases q : i = m.nm
  · subst q
    rw [e0, e1, e2, e3]
    exact h2
  · rw [e4 _ (by omega), e4 _ (by omega), e4 _ (by omega), e4 _ (by omega)]
    exact h.2 i (by omega)
theorem Inv.pr9 {G : kG} {h : Nat} {f : kH} {m : pSt} (hI : Inv G h f m) {k : Nat} (hk : k < 4) : (m.pr k).toInt.natAbs ≤ 1000000000 := by
  obtain ⟨o, c, hI⟩ := hI
  exact (show cPrd G (kR o 6 f) c m from hI 6).2 k hk
theorem i32_i64 {x : Int64} (h : x.toInt.natAbs ≤ 1000000000) : x.toInt32.toInt = x.toInt := by
  rw [Int64.toInt_toInt32]
  exact Int.bmod_eq_of_le (by omega) (by omega)
theorem i64_32 {x : Int64} (h : x.toInt.natAbs ≤ 1000000000) : x.toInt32.toInt64 = x := by
  apply Int64.toInt_inj.mp
  rw [Int32.toInt_toInt64, i32_i64 h]
theorem det_law {m : pSt} (h : dInv m) (hb : ∀ k, k < 4 → (m.pr k).toInt.natAbs ≤ 1000000000) : (m.pr 0).toInt32.toInt64 * (m.pr 3).toInt32.toInt64 - (m.pr 1).toInt32.toInt64 * (m.pr 2).toInt32.toInt64 = 1 := by
  rw [i64_32 (hb 0 (by decide)), i64_32 (hb 1 (by decide)), i64_32 (hb 2 (by decide)), i64_32 (hb 3 (by decide))]
  exact h.1
theorem sum_le {x y : Int64} (hx : x.toInt.natAbs ≤ 1000000000) (hy : y.toInt.natAbs ≤ 1000000000) : x.toInt32 + y.toInt32 ≤ nI 2000000000 := by
  rw [Int32.le_iff_toInt_le, Int32.toInt_add, i32_i64 hx, i32_i64 hy, nI_toInt (by decide), Int.bmod_eq_of_le (by omega) (by omega)]
  omega
theorem sum_ge {x y : Int64} (hx : x.toInt.natAbs ≤ 1000000000) (hy : y.toInt.natAbs ≤ 1000000000) : ¬ (x + y).toInt32 < (-2000000000) := by
  have e : (x + y).toInt = x.toInt + y.toInt := by
    rw [Int64.toInt_add]
    exact Int.bmod_eq_of_le (by omega) (by omega)
  rw [Int32.lt_iff_toInt_lt, Int64.toInt_toInt32, e, Int.bmod_eq_of_le (by omega) (by omega)]
  have e1 : (-2000000000 : Int32).toInt = -2000000000 := by decide
  rw [e1]
  omega
theorem e_word (m : pSt) : c_word m (nI 0) = (0, (m.pr 0).toInt32, m) ∧ c_word m (nI 1) = (0, (m.pr 1).toInt32, m) ∧ c_word m (nI 2) = (0, (m.pr 2).toInt32, m) ∧ c_word m (nI 3) = (0, (m.pr 3).toInt32, m) ∧ c_word m (nI 4) = (0, nI (mKind m.pr), m) := by
  refine ⟨?_, ?_, ?_, ?_, ?_⟩
  all_goals (unfold c_word; rw [if_pos (by decide)]; rfl)
theorem kind_3 (W : Nat → Int64) : mKind W ≤ 3 := by
  unfold mKind
  split
  · omega
  · split
    · omega
    · split
      · omega
      · omega
/-! networks -/
theorem pow_10 : ∀ w, w < 11 → 2 ^ w ≤ 1024 := by decide
theorem trees_le {ea eb : Nat → Nat} {n w : Nat} (hw : w ≤ 10) : mTrees ea eb n w ≤ 1024 := Nat.le_trans (kCnt_le _ _) (pow_10 w (by omega))
theorem height_le {ea eb : Nat → Nat} {n w a b c : Nat} (hw : w ≤ 10) : mHeight ea eb n w a b c ≤ 1024 := Nat.le_trans (kCnt_le _ _) (pow_10 w (by omega))
theorem h_ne {n : Nat} (h : n ≤ 1024) : ¬ (nI n).toInt64 = -7000003 := by
  rw [nI_l (by omega)]
  intro z
  have e := congrArg Int64.toInt z
  rw [pk_lT (by omega)] at e
  have e1 : (-7000003 : Int64).toInt = -7000003 := by decide
  rw [e1] at e
  omega
theorem lN_ne (n : Nat) (h : n < 2 ^ 31) : ¬ (nI n).toInt64 = -7000003 := by
  rw [nI_l h]
  intro z
  have e := congrArg Int64.toInt z
  rw [pk_lT (by omega)] at e
  have e1 : (-7000003 : Int64).toInt = -7000003 := by decide
  rw [e1] at e
  omega
theorem nb_ne : ∀ n, n < 7 → 2 ≤ n → ∀ a, a < n → ∀ t, t < n - 1 → (a + 1 + t) % n < n ∧ ¬ a = (a + 1 + t) % n := by decide
/-! values for the law's cases -/
section EVL
variable {m : pSt}
theorem e_split_y {x1 : Int32} (h1 : mIn x1 m.fc) (h2 : ¬ 16 ≤ m.cc) : c_split m x1 = (0, nI m.cc, (pMk (m.cc + 1) (m.fc + 2) m.nd m.ng m.nm m.nc m.nw (pSpl m.fa m.cc m.fc x1.toNatClampNeg) m.dx m.dy m.dr m.fo m.ro m.mv m.pr m.ea m.eb)) := by unfold c_split; rw [if_pos h1, if_neg h2]
theorem pPair_l {u v : Nat} (h : u < v) : pPair u v = 100 * u + v := by unfold pPair; rw [if_pos h, if_pos h]
theorem pPair_g {u v : Nat} (h : ¬ u < v) : pPair u v = 100 * v + u := by unfold pPair; rw [if_neg h, if_neg h]
theorem e_net3 : c_net m (nI 3) = (0, nI (mNet m.fa m.fc m.cc 3), m) := by unfold c_net; rw [if_pos (by decide)]; rfl
theorem e_draws_y (h : mDr m.fa m.dx m.dy m.dr m.fc m.cc m.nd m.nd) : c_draws m = (0, nI 1, m) := by unfold c_draws kbI; rw [if_pos h]; rfl
theorem e_draws_n (h : ¬ mDr m.fa m.dx m.dy m.dr m.fc m.cc m.nd m.nd) : c_draws m = (0, nI 0, m) := by unfold c_draws kbI; rw [if_neg h]; rfl
theorem lN_ne2 (n : Nat) (h : n < 2 ^ 31) : ¬ (-7000002 : Int64) = (nI n).toInt64 := by
  rw [nI_l h]
  intro z
  have e := congrArg Int64.toInt z
  rw [pk_lT (by omega)] at e
  have e1 : (-7000002 : Int64).toInt = -7000002 := by decide
  rw [e1] at e
  omega
theorem lN_nn (n : Nat) (h : n < 2 ^ 31) : ¬ (nI n).toInt64 < 0 := by
  rw [nI_l h, Int64.lt_iff_toInt_lt, pk_lT (by omega)]
  have e1 : (0 : Int64).toInt = 0 := by decide
  rw [e1]
  omega
theorem l32 {n : Nat} (h : n < 2 ^ 31) : (nI n).toInt64.toInt32 = nI n := by
  rw [nI_l h]
  exact lN_i n
theorem ford_cs (x : Int64) : mFord x = nI 1 ∨ ¬ (mFord x).toInt64 = 1 := by
  unfold mFord
  split
  · exact .inr (by decide)
  · split
    · exact .inl rfl
    · exact .inr (by decide)
theorem gk_new {x1 x2 x3 x4 : Int32} (h8 : m.ng < 8) (h0 : xLeast x1.toInt64 x2.toInt64 x3.toInt64 x4.toInt64 0 < 0) : ∃ (w : Int64) (cv : Int32), w < 0 ∧ c_root (pMk m.cc m.fc m.nd (m.ng + 1) m.nm m.nc m.nw m.fa m.dx m.dy m.dr (pB19 m.fo m.ng x1.toInt64 x2.toInt64 x3.toInt64 x4.toInt64) (pB19 m.ro m.ng (xLeast x1.toInt64 x2.toInt64 x3.toInt64 x4.toInt64 0) (xLeast x1.toInt64 x2.toInt64 x3.toInt64 x4.toInt64 1) (xLeast x1.toInt64 x2.toInt64 x3.toInt64 x4.toInt64 2) (xLeast x1.toInt64 x2.toInt64 x3.toInt64 x4.toInt64 3)) m.mv m.pr m.ea m.eb) (nI m.ng) (nI 0) = (0, w, (pMk m.cc m.fc m.nd (m.ng + 1) m.nm m.nc m.nw m.fa m.dx m.dy m.dr (pB19 m.fo m.ng x1.toInt64 x2.toInt64 x3.toInt64 x4.toInt64) (pB19 m.ro m.ng (xLeast x1.toInt64 x2.toInt64 x3.toInt64 x4.toInt64 0) (xLeast x1.toInt64 x2.toInt64 x3.toInt64 x4.toInt64 1) (xLeast x1.toInt64 x2.toInt64 x3.toInt64 x4.toInt64 2) (xLeast x1.toInt64 x2.toInt64 x3.toInt64 x4.toInt64 3)) m.mv m.pr m.ea m.eb)) ∧ c_count (pMk m.cc m.fc m.nd (m.ng + 1) m.nm m.nc m.nw m.fa m.dx m.dy m.dr (pB19 m.fo m.ng x1.toInt64 x2.toInt64 x3.toInt64 x4.toInt64) (pB19 m.ro m.ng (xLeast x1.toInt64 x2.toInt64 x3.toInt64 x4.toInt64 0) (xLeast x1.toInt64 x2.toInt64 x3.toInt64 x4.toInt64 1) (xLeast x1.toInt64 x2.toInt64 x3.toInt64 x4.toInt64 2) (xLeast x1.toInt64 x2.toInt64 x3.toInt64 x4.toInt64 3)) m.mv m.pr m.ea m.eb) (nI m.ng) (nI 60) = (0, cv, (pMk m.cc m.fc m.nd (m.ng + 1) m.nm m.nc m.nw m.fa m.dx m.dy m.dr (pB19 m.fo m.ng x1.toInt64 x2.toInt64 x3.toInt64 x4.toInt64) (pB19 m.ro m.ng (xLeast x1.toInt64 x2.toInt64 x3.toInt64 x4.toInt64 0) (xLeast x1.toInt64 x2.toInt64 x3.toInt64 x4.toInt64 1) (xLeast x1.toInt64 x2.toInt64 x3.toInt64 x4.toInt64 2) (xLeast x1.toInt64 x2.toInt64 x3.toInt64 x4.toInt64 3)) m.mv m.pr m.ea m.eb)) ∧ c_countAnew (pMk m.cc m.fc m.nd (m.ng + 1) m.nm m.nc m.nw m.fa m.dx m.dy m.dr (pB19 m.fo m.ng x1.toInt64 x2.toInt64 x3.toInt64 x4.toInt64) (pB19 m.ro m.ng (xLeast x1.toInt64 x2.toInt64 x3.toInt64 x4.toInt64 0) (xLeast x1.toInt64 x2.toInt64 x3.toInt64 x4.toInt64 1) (xLeast x1.toInt64 x2.toInt64 x3.toInt64 x4.toInt64 2) (xLeast x1.toInt64 x2.toInt64 x3.toInt64 x4.toInt64 3)) m.mv m.pr m.ea m.eb) (nI m.ng) (nI 60) = (0, cv, (pMk m.cc m.fc m.nd (m.ng + 1) m.nm m.nc m.nw m.fa m.dx m.dy m.dr (pB19 m.fo m.ng x1.toInt64 x2.toInt64 x3.toInt64 x4.toInt64) (pB19 m.ro m.ng (xLeast x1.toInt64 x2.toInt64 x3.toInt64 x4.toInt64 0) (xLeast x1.toInt64 x2.toInt64 x3.toInt64 x4.toInt64 1) (xLeast x1.toInt64 x2.toInt64 x3.toInt64 x4.toInt64 2) (xLeast x1.toInt64 x2.toInt64 x3.toInt64 x4.toInt64 3)) m.mv m.pr m.ea m.eb)) := by
  have hn : m.ng < 2 ^ 31 := by omega
  have hin : mIn (nI m.ng) (m.ng + 1) := mIn_in (by omega) hn
  have hr : (pB19 m.ro m.ng (xLeast x1.toInt64 x2.toInt64 x3.toInt64 x4.toInt64 0) (xLeast x1.toInt64 x2.toInt64 x3.toInt64 x4.toInt64 1) (xLeast x1.toInt64 x2.toInt64 x3.toInt64 x4.toInt64 2) (xLeast x1.toInt64 x2.toInt64 x3.toInt64 x4.toInt64 3)) (4 * (nI m.ng).toNatClampNeg) < 0 := by
    rw [nI_clamp hn, (wB19_at _ _ _ _ _ _).1]
    exact h0
  exact ⟨_, _, hr, ev_root (m := (pMk m.cc m.fc m.nd (m.ng + 1) m.nm m.nc m.nw m.fa m.dx m.dy m.dr (pB19 m.fo m.ng x1.toInt64 x2.toInt64 x3.toInt64 x4.toInt64) (pB19 m.ro m.ng (xLeast x1.toInt64 x2.toInt64 x3.toInt64 x4.toInt64 0) (xLeast x1.toInt64 x2.toInt64 x3.toInt64 x4.toInt64 1) (xLeast x1.toInt64 x2.toInt64 x3.toInt64 x4.toInt64 2) (xLeast x1.toInt64 x2.toInt64 x3.toInt64 x4.toInt64 3)) m.mv m.pr m.ea m.eb)) ⟨hin, by decide⟩ rfl, ev_count (m := (pMk m.cc m.fc m.nd (m.ng + 1) m.nm m.nc m.nw m.fa m.dx m.dy m.dr (pB19 m.fo m.ng x1.toInt64 x2.toInt64 x3.toInt64 x4.toInt64) (pB19 m.ro m.ng (xLeast x1.toInt64 x2.toInt64 x3.toInt64 x4.toInt64 0) (xLeast x1.toInt64 x2.toInt64 x3.toInt64 x4.toInt64 1) (xLeast x1.toInt64 x2.toInt64 x3.toInt64 x4.toInt64 2) (xLeast x1.toInt64 x2.toInt64 x3.toInt64 x4.toInt64 3)) m.mv m.pr m.ea m.eb)) hin (by decide) hr rfl, ev_countAnew (m := (pMk m.cc m.fc m.nd (m.ng + 1) m.nm m.nc m.nw m.fa m.dx m.dy m.dr (pB19 m.fo m.ng x1.toInt64 x2.toInt64 x3.toInt64 x4.toInt64) (pB19 m.ro m.ng (xLeast x1.toInt64 x2.toInt64 x3.toInt64 x4.toInt64 0) (xLeast x1.toInt64 x2.toInt64 x3.toInt64 x4.toInt64 1) (xLeast x1.toInt64 x2.toInt64 x3.toInt64 x4.toInt64 2) (xLeast x1.toInt64 x2.toInt64 x3.toInt64 x4.toInt64 3)) m.mv m.pr m.ea m.eb)) hin (by decide) hr rfl⟩
theorem e_side_h {x1 x2 : Int32} (h1 : mIn x1 m.nc ∧ mIn x2 m.nc) (h2 : ¬ x1 = x2) (h3 : ¬ mTrees m.ea m.eb m.nc m.nw = 0) (hw : m.nw ≤ 10) : ∃ n, n ≤ 1024 ∧ c_side m x1 x2 (-1) = (0, nI n, m) := by
  refine ⟨mHeight m.ea m.eb m.nc m.nw x1.toNatClampNeg x2.toNatClampNeg x1.toNatClampNeg, height_le hw, ev_side ⟨h1.1, h1.2, .inl rfl⟩ h2 h3 ?_⟩
  unfold pSide
  exact if_pos rfl
end EVL
