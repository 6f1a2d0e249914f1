/-! gaskets -/
theorem run_le {g : Nat → Int64} {M : Int} (hm : ∀ k, k < 4 → (g k).toInt ≤ M) : ∀ N, (∀ i, i < N → mLess (mRun g i)) → ∀ k, k < 4 → (mRun g N k).toInt ≤ M
  | 0, _, k, hk => hm k hk
  | N + 1, h, k, hk => by
    have ih := run_le hm N (fun i hi => h i (by omega))
    have hl := h N (by omega)
    show (mDown (mRun g N) k).toInt ≤ M
    rw [mDown_x]
    have h2 := lt64.mp ((mLess_x _).mp hl)
    have h3 := ih _ (xGr_lt (mRun g N))
    by_cases q : k = xGr (mRun g N) 3
    · rw [q, vp_s]; omega
    · rw [vp_n _ _ q]; exact ih k hk
theorem xDown_le {g : Nat → Int64} {M : Int} (hm : ∀ k, k < 4 → (g k).toInt ≤ M) : ∀ k, k < 4 → (xDown 3 g k).toInt ≤ M := by
  have a : ∀ k, k < 4 → (xPass g 3 k).toInt ≤ M := fun k hk => xPass_le g M 3 (fun j hj => hm j (by omega)) k (by omega)
  have b : ∀ k, k < 4 → (xPass (xPass g 3) 2 k).toInt ≤ M := fun k hk => by
    by_cases q : k ≤ 2
    · exact xPass_le _ M 2 (fun j hj => a j (by omega)) k q
    · rw [xPass_off _ 2 k (by omega)]; exact a k hk
  intro k hk
  show (xPass (xPass (xPass g 3) 2) 1 k).toInt ≤ M
  by_cases q : k ≤ 1
  · exact xPass_le _ M 1 (fun j hj => b j (by omega)) k q
  · rw [xPass_off _ 1 k (by omega)]; exact b k hk
theorem told_b {g : Nat → Int64} (h : gOk g) (hm : ∀ k, k < 4 → (g k).toInt ≤ 1000000) : ∀ j, j < 4 → ((xDown 3 (xRoot 1000000 g)) j).toInt.natAbs ≤ 1000000 := by
  obtain ⟨N, h1, h2⟩ := root_ex (((g 0).toInt + (g 1).toInt + (g 2).toInt + (g 3).toInt)).toNat g h (Nat.le_refl _)
  have m0 := hm 0 (by omega); have m1 := hm 1 (by omega); have m2 := hm 2 (by omega); have m3 := hm 3 (by omega)
  have hN : N ≤ 1000000 := by omega
  have hp := (gInv.told h hm).rt.1.1.pair
  rw [xRoot_run N g 1000000 h1 hN] at hp ⊢
  have hu := xDown_le (run_le hm N h1.1)
  have u0 := hu 0 (by omega); have u1 := hu 1 (by omega); have u2 := hu 2 (by omega); have u3 := hu 3 (by omega)
  intro j hj
  rcases lt4 hj with rfl | rfl | rfl | rfl <;> omega
theorem gk_iff {x1 x2 x3 x4 : Int32} : ((cIn x1.toInt64 (nI 1000000).toInt64 ∧ cIn x2.toInt64 (nI 1000000).toInt64 ∧ cIn x3.toInt64 (nI 1000000).toInt64 ∧ cIn x4.toInt64 (nI 1000000).toInt64) ∧ xOf x1.toInt64 x2.toInt64 x3.toInt64 x4.toInt64) ↔ mGk x1 x2 x3 x4 := by
  rw [cIn_k (by decide), cIn_k (by decide), cIn_k (by decide), cIn_k (by decide)]
  exact ⟨fun h => ⟨h.1.1, h.1.2.1, h.1.2.2.1, h.1.2.2.2, h.2.2, h.2.1⟩, fun h => ⟨⟨h.1, h.2.1, h.2.2.1, h.2.2.2.1⟩, h.2.2.2.2.2, h.2.2.2.2.1⟩⟩
theorem gk_ok {x1 x2 x3 x4 : Int32} (h : mGk x1 x2 x3 x4) : gOk (xRow x1.toInt64 x2.toInt64 x3.toInt64 x4.toInt64) ∧ ∀ k, k < 4 → ((xRow x1.toInt64 x2.toInt64 x3.toInt64 x4.toInt64) k).toInt ≤ 1000000 := by
  obtain ⟨a, b, c, d, hq, hs⟩ := h
  have ea : x1.toInt64.toInt = x1.toInt := Int32.toInt_toInt64 x1
  have eb : x2.toInt64.toInt = x2.toInt := Int32.toInt_toInt64 x2
  have ec : x3.toInt64.toInt = x3.toInt := Int32.toInt_toInt64 x3
  have ed : x4.toInt64.toInt = x4.toInt := Int32.toInt_toInt64 x4
  have a' : -1000000 ≤ x1.toInt64.toInt ∧ x1.toInt64.toInt ≤ 1000000 := by rw [ea]; exact a
  have b' : -1000000 ≤ x2.toInt64.toInt ∧ x2.toInt64.toInt ≤ 1000000 := by rw [eb]; exact b
  have c' : -1000000 ≤ x3.toInt64.toInt ∧ x3.toInt64.toInt ≤ 1000000 := by rw [ec]; exact c
  have d' : -1000000 ≤ x4.toInt64.toInt ∧ x4.toInt64.toInt ≤ 1000000 := by rw [ed]; exact d
  have r0 : xRow x1.toInt64 x2.toInt64 x3.toInt64 x4.toInt64 0 = x1.toInt64 := rfl
  have r1 : xRow x1.toInt64 x2.toInt64 x3.toInt64 x4.toInt64 1 = x2.toInt64 := rfl
  have r2 : xRow x1.toInt64 x2.toInt64 x3.toInt64 x4.toInt64 2 = x3.toInt64 := rfl
  have r3 : xRow x1.toInt64 x2.toInt64 x3.toInt64 x4.toInt64 3 = x4.toInt64 := rfl
  have hle : ∀ k, k < 4 → ((xRow x1.toInt64 x2.toInt64 x3.toInt64 x4.toInt64) k).toInt ≤ 1000000 := fun k hk => by
    rcases lt4 hk with rfl | rfl | rfl | rfl
    · rw [r0]; exact a'.2
    · rw [r1]; exact b'.2
    · rw [r2]; exact c'.2
    · rw [r3]; exact d'.2
  have sq : ∀ y : Int64, -1000000 ≤ y.toInt ∧ y.toInt ≤ 1000000 → (y * y).toInt = y.toInt * y.toInt ∧ 0 ≤ y.toInt * y.toInt ∧ y.toInt * y.toInt ≤ 1000000000000 := fun y hy => by
    have p := mul_bd hy.1 hy.2 hy.1 hy.2
    have p0 : 0 ≤ y.toInt * y.toInt := by
      rcases Int.le_total 0 y.toInt with q | q
      · exact Int.mul_nonneg q q
      · exact Int.mul_nonneg_of_nonpos_of_nonpos q q
    exact ⟨z_mul (by omega) (by omega), p0, by omega⟩
  generalize hA : x1.toInt64 = A at *
  generalize hB : x2.toInt64 = B at *
  generalize hC : x3.toInt64 = C at *
  generalize hD : x4.toInt64 = D at *
  obtain ⟨s1, t1, t1'⟩ := sq A a'
  obtain ⟨s2, t2, t2'⟩ := sq B b'
  obtain ⟨s3, t3, t3'⟩ := sq C c'
  obtain ⟨s4, t4, t4'⟩ := sq D d'
  have u1 : (A + B).toInt = A.toInt + B.toInt := z_add (by omega) (by omega)
  have u2 : (A + B + C).toInt = A.toInt + B.toInt + C.toInt := by rw [z_add, u1] <;> rw [u1] <;> omega
  have u3 : (A + B + C + D).toInt = A.toInt + B.toInt + C.toInt + D.toInt := by rw [z_add, u2] <;> rw [u2] <;> omega
  have v1 : (A * A + B * B).toInt = A.toInt * A.toInt + B.toInt * B.toInt := by rw [z_add, s1, s2] <;> rw [s1, s2] <;> omega
  have v2 : (A * A + B * B + C * C).toInt = A.toInt * A.toInt + B.toInt * B.toInt + C.toInt * C.toInt := by rw [z_add, v1, s3] <;> rw [v1, s3] <;> omega
  have v3 : (A * A + B * B + C * C + D * D).toInt = A.toInt * A.toInt + B.toInt * B.toInt + C.toInt * C.toInt + D.toInt * D.toInt := by rw [z_add, v2, s4] <;> rw [v2, s4] <;> omega
  have w1 : (2 * (A * A + B * B + C * C + D * D)).toInt = 2 * (A.toInt * A.toInt + B.toInt * B.toInt + C.toInt * C.toInt + D.toInt * D.toInt) := by
    have e2 : (2 : Int64).toInt = 2 := rfl
    rw [z_mul, v3, e2] <;> rw [v3, e2] <;> omega
  have p := mul_bd (show -4000000 ≤ A.toInt + B.toInt + C.toInt + D.toInt by omega) (show A.toInt + B.toInt + C.toInt + D.toInt ≤ 4000000 by omega) (show -4000000 ≤ A.toInt + B.toInt + C.toInt + D.toInt by omega) (show A.toInt + B.toInt + C.toInt + D.toInt ≤ 4000000 by omega)
  have w2 : ((A + B + C + D) * (A + B + C + D)).toInt = (A.toInt + B.toInt + C.toInt + D.toInt) * (A.toInt + B.toInt + C.toInt + D.toInt) := by rw [z_mul, u3] <;> rw [u3] <;> omega
  have hs' := lt64.mp (show 0 < A + B + C + D by simpa only [mSm, hA, hB, hC, hD] using hs)
  have hq' := congrArg Int64.toInt (show (A + B + C + D) * (A + B + C + D) = 2 * (A * A + B * B + C * C + D * D) by simpa only [mSm, mSq, hA, hB, hC, hD] using hq)
  rw [w1, w2] at hq'
  have z0 : (0 : Int64).toInt = 0 := rfl
  refine ⟨⟨?_, ?_, fun k hk => by have := hle k hk; omega⟩, hle⟩
  · rw [r0, r1, r2, r3]; omega
  · rw [r0, r1, r2, r3]; exact hq'
theorem mCopy_ag {b8 b9 : Nat → Int64} {t : Nat} {g : Nat → Int64} (h : ∀ j, j < 4 → b8 (4 * t + j) = g j) : ag4 (mCopy b9 b8 (4 * t) 4) g := fun k hk => by
  rw [← h k hk]
  rcases lt4 hk with rfl | rfl | rfl | rfl <;> simp [mCopy, vp_updL]
theorem mTurned_x {b8 : Nat → Int64} {t : Nat} {g : Nat → Int64} (h : ∀ j, j < 4 → b8 (4 * t + j) = g j) {p : Nat} (hp : p < 4) : mTurned b8 (4 * t) p = xTurn g p := by
  have h0 := h 0 (by omega)
  rw [Nat.add_zero] at h0
  unfold mTurned xTurn
  rw [h0, h 1 (by omega), h 2 (by omega), h 3 (by omega), h p hp]
/-- a row of one gasket is another: the rest stays -/
theorem gk_keep {G : kG} {g g' : kH} {sz : Nat} {w g1 g2 g3 : Nat → Nat} {fo le wa fo1 wa1 : Nat → Nat → Int64} (hel : ∀ k, k < sz → kCs g [(w k, gkE g1 g2 g3 k), (g1 k, kaJ G 4 (fo k)), (g2 k, kaJ G 4 (le k)), (g3 k, kaJ G 4 (wa k))])
    (h0 : ∀ k, k < sz → g' (w k) = some (gkE g1 g2 g3 k)) (h1 : ∀ k, k < sz → g' (g1 k) = some (kaJ G 4 (fo1 k))) (h2 : ∀ k, k < sz → g' (g2 k) = some (kaJ G 4 (le k))) (h3 : ∀ k, k < sz → g' (g3 k) = some (kaJ G 4 (wa1 k))) : ∀ k, k < sz → kCs g' [(w k, gkE g1 g2 g3 k), (g1 k, kaJ G 4 (fo1 k)), (g2 k, kaJ G 4 (le k)), (g3 k, kaJ G 4 (wa1 k))] := fun k hk => by
  refine ⟨fun q hq => ?_, (hel k hk).2⟩
  simp only [List.mem_cons, List.not_mem_nil, or_false] at hq
  rcases hq with rfl | rfl | rfl | rfl
  · exact h0 k hk
  · exact h1 k hk
  · exact h2 k hk
  · exact h3 k hk
/-- a list stays when what is written is no list's cell -/
theorem kLst.kp {G : kG} {g g' : kH} {dl sz : Nat} {w : Nat → Nat} {as : List Nat} (h : kLst G g dl sz w) (hK : kKp as g g') (ha : ∀ a ∈ as, ∃ y, g a = some (kaJ G 4 y)) : kLst G g' dl sz w := by
  obtain ⟨mc, ⟨h0, h2⟩ | ⟨q, cap, g0, h2, h3, h10, h64, h5, h6⟩⟩ := h
  · refine ⟨mc, .inl ⟨h0, hK _ _ (fun z => ?_) h2⟩⟩
    obtain ⟨y, e⟩ := ha _ z
    rw [h2] at e; exact nomatch e
  · refine ⟨mc, .inr ⟨q, cap, g0, kCs_kp h2 hK (fun a h9 z => ?_), h3, h10, h64, h5, h6⟩⟩
    obtain ⟨y, e⟩ := ha _ h9
    simp only [List.map_cons, List.map_nil, List.mem_cons, List.not_mem_nil, or_false] at z
    rcases z with rfl | rfl
    · rw [h2.at 0 rfl] at e; exact nomatch e
    · rw [h2.at 1 rfl] at e
      have := congrArg (fun v : Option va_E => match v with | some (.inl (_, n, _)) => n | _ => 0) e
      dsimp only at this
      omega
theorem nI_add9 (a b : Nat) : nI (a + b) = nI a + nI b := by unfold nI; rw [Int32.ofNat_add]
theorem mRg_nat {x : Int32} {a b : Nat} (hb : b < 2 ^ 31) (h : mRg x a b) : ∃ k, a ≤ k ∧ k ≤ b ∧ x = nI k := by
  obtain ⟨h1, h2⟩ := h
  exact ⟨x.toInt.toNat, by omega, by omega, i32_of (by omega) (by omega)⟩
def c_curvature (m : pSt) (x1 x2 : Int32) : pRJ := if mIn x1 m.ng ∧ mRg x2 (0) 3 then (0, m.fo (4 * x1.toNatClampNeg + x2.toNatClampNeg), m) else (1, 0, m)
def c_root (m : pSt) (x1 x2 : Int32) : pRJ := if mIn x1 m.ng ∧ mRg x2 (0) 3 then (0, m.ro (4 * x1.toNatClampNeg + x2.toNatClampNeg), m) else (1, 0, m)
def c_turn (m : pSt) (x1 x2 : Int32) : pRJ := if mIn x1 m.ng ∧ mRg x2 (0) 3 then (if 1000000000000000 < mTurned m.fo (4 * x1.toNatClampNeg) x2.toNatClampNeg then (3, 0, m) else (0, mTurned m.fo (4 * x1.toNatClampNeg) x2.toNatClampNeg, (pMk m.cc m.fc m.nd m.ng m.nm m.nc m.nw m.fa m.dx m.dy m.dr (vp_updL m.fo (4 * x1.toNatClampNeg + x2.toNatClampNeg) (mTurned m.fo (4 * x1.toNatClampNeg) x2.toNatClampNeg)) m.ro m.mv m.pr m.ea m.eb))) else (1, 0, m)
def pRoot (m : pSt) (i : Nat) : Nat → Int64 := fun j => m.ro (4 * i + j)
def c_count (m : pSt) (x1 x2 : Int32) : pRI := if mIn x1 m.ng then (if mRg x2 (1 : Nat) (1000 : Nat) then (if m.ro (4 * x1.toNatClampNeg) < 0 then (0, nI (mCount (pRoot m x1.toNatClampNeg) x2.toInt64 100), m) else (3, 0, m)) else (2, 0, m)) else (1, 0, m)
def c_countAnew (m : pSt) (x1 x2 : Int32) : pRI := if mIn x1 m.ng then (if mRg x2 (1 : Nat) (1000 : Nat) then (if m.ro (4 * x1.toNatClampNeg) < 0 then (0, nI (mCount (pRoot m x1.toNatClampNeg) x2.toInt64 100), m) else (3, 0, m)) else (2, 0, m)) else (1, 0, m)
def pRem (g : Nat → Int64) (b : Int32) : Int32 := (rGo b 4096 (nI 0, rNs (fun j => if j < 64 then 0 else (0 : Int64)) (wCode g b 4).toNatClampNeg, rNw (fun j => if j < 64 then 0 else (0 : Int64)) (fun j => if j < 64 then 0 else (0 : Int64)) (wCode g b 4).toNatClampNeg)).1
def c_remainders (m : pSt) (x1 x2 : Int32) : pRI := if mIn x1 m.ng then (if mRg x2 (2 : Nat) (8 : Nat) then (0, pRem (fun j => m.fo (4 * x1.toNatClampNeg + j)) x2, m) else (2, 0, m)) else (1, 0, m)
def c_gasket (m : pSt) (x1 x2 x3 x4 : Int32) : pRI := if mGk x1 x2 x3 x4 then (if 8 ≤ m.ng then (3, 0, m) else (0, nI m.ng, (pMk m.cc m.fc m.nd (m.ng + 1) m.nm m.nc m.nw m.fa m.dx m.dy m.dr (pB19 m.fo m.ng x1.toInt64 x2.toInt64 x3.toInt64 x4.toInt64) (pB19 m.ro m.ng (xLeast x1.toInt64 x2.toInt64 x3.toInt64 x4.toInt64 0) (xLeast x1.toInt64 x2.toInt64 x3.toInt64 x4.toInt64 1) (xLeast x1.toInt64 x2.toInt64 x3.toInt64 x4.toInt64 2) (xLeast x1.toInt64 x2.toInt64 x3.toInt64 x4.toInt64 3)) m.mv m.pr m.ea m.eb))) else (2, 0, m)
theorem pB19_at (g : Nat → Int64) (n : Nat) (a b c d : Int64) : pB19 g n a b c d (4 * n) = a ∧ pB19 g n a b c d (4 * n + 1) = b ∧ pB19 g n a b c d (4 * n + 2) = c ∧ pB19 g n a b c d (4 * n + 3) = d := by
  refine ⟨?_, ?_, ?_, ?_⟩ <;> simp [pB19, vp_updL]
theorem pB19_off (g : Nat → Int64) (n : Nat) (a b c d : Int64) {k : Nat} (h : k / 4 ≠ n) : pB19 g n a b c d k = g k := by
  unfold pB19
  rw [vp_n _ _ (by omega), vp_n _ _ (by omega), vp_n _ _ (by omega), vp_n _ _ (by omega)]
theorem wCode_cg {g h : Nat → Int64} (b : Int32) : ∀ n, (∀ k, k < n → g k = h k) → wCode g b n = wCode h b n
  | 0, _ => rfl
  | n + 1, e => by simp only [wCode]; rw [wCode_cg b n (fun k hk => e k (by omega)), e n (by omega)]
theorem cop_curvature {l : Launch} (hst : l.stackTraces = false) {G : kG} {B0 h : Nat} {f : kH} {o : Nat → Nat} {c : cSt} {m : pSt} (hI : Inv2 G h f o c m) (x1 x2 : Int32) : cJ l G B0 h f yX8_curvature wsX8_curvature [.int x1, .int x2] (c_curvature m x1 x2) := by
  have hG : cGsk G (kR o 3 f) c m := hI 3
  obtain ⟨sz, w, g1, g2, g3, fo, le, wa, hL, hel, hd1, hd2, hsz, e7, hx⟩ := hG
  have hH0 : kCs (kR o 0 f) (cHd h c) := hI 0
  have hH : kCs f (cHd h c) := hH0.le (kR_le _ _ _)
  have hls : kLs G f c.gl sz w (gkE g1 g2 g3) := (hL.ls (fun k hk => (hel k hk).at 0 rfl)).le (kR_le _ _ _)
  have har : gkA G f sz g1 g2 g3 fo le wa := fun k hk => ⟨(kR_some.mp ((hel k hk).at 1 rfl)).2, (kR_some.mp ((hel k hk).at 2 rfl)).2, (kR_some.mp ((hel k hk).at 3 rfl)).2⟩
  unfold c_curvature
  rw [e7]
  by_cases hv : mIn x1 sz
  · obtain ⟨i, hi, rfl⟩ := mIn_ex (by omega) hv
    by_cases hp : mRg x2 (0) 3
    · rw [if_pos ⟨hv, hp⟩]
      obtain ⟨p, hp3, rfl⟩ := mRg_ex (n := 3) (by omega) hp
      rw [nI_clamp (show i < 2 ^ 31 by omega), nI_clamp (show p < 2 ^ 31 by omega)]
      exact cJ_ok ⟨rfl, rfl, Nat.le_of_ble_eq_true rfl, Nat.le_of_ble_eq_true rfl, Nat.le_of_ble_eq_true rfl, Nat.le_of_ble_eq_true rfl⟩ (kX8_curvature l G B0 f h c.gl sz (.ref c.sp) (.ref c.dl) (.ref c.rw) (.ref c.ml) (.ref c.pp) (.ref c.nn) w g1 g2 g3 fo le wa i p hH hls har hsz hi (by omega)) (fun r f1 hp => ⟨hp.1.trans ((hx i hi).2.2.1 p (by omega)).symm, hI.same _ hp.2⟩)
    · rw [if_neg (fun z => hp z.2)]
      exact cJ_no 1 ⟨by omega, by omega⟩ ⟨rfl, rfl, Nat.le_of_ble_eq_true rfl, Nat.le_of_ble_eq_true rfl, Nat.le_of_ble_eq_true rfl, Nat.le_of_ble_eq_true rfl⟩ (kX8_curvature_b2 l hst G B0 f h c.gl sz (.ref c.sp) (.ref c.dl) (.ref c.rw) (.ref c.ml) (.ref c.pp) (.ref c.nn) w g1 g2 g3 fo le wa i x2 hH hls har hsz hi hp) hI.same
  · rw [if_neg (fun z => hv z.1)]
    exact cJ_no 1 ⟨by omega, by omega⟩ ⟨rfl, rfl, Nat.le_of_ble_eq_true rfl, Nat.le_of_ble_eq_true rfl, Nat.le_of_ble_eq_true rfl, Nat.le_of_ble_eq_true rfl⟩ (kX8_curvature_b1 l hst G B0 f h c.gl sz (.ref c.sp) (.ref c.dl) (.ref c.rw) (.ref c.ml) (.ref c.pp) (.ref c.nn) w g1 g2 g3 fo le wa x1 x2 hH hls har hsz hv) hI.same
theorem cop_root {l : Launch} (hst : l.stackTraces = false) {G : kG} {B0 h : Nat} {f : kH} {o : Nat → Nat} {c : cSt} {m : pSt} (hI : Inv2 G h f o c m) (x1 x2 : Int32) : cJ l G B0 h f yX8_root wsX8_root [.int x1, .int x2] (c_root m x1 x2) := by
  have hG : cGsk G (kR o 3 f) c m := hI 3
  obtain ⟨sz, w, g1, g2, g3, fo, le, wa, hL, hel, hd1, hd2, hsz, e7, hx⟩ := hG
  have hH0 : kCs (kR o 0 f) (cHd h c) := hI 0
  have hH : kCs f (cHd h c) := hH0.le (kR_le _ _ _)
  have hls : kLs G f c.gl sz w (gkE g1 g2 g3) := (hL.ls (fun k hk => (hel k hk).at 0 rfl)).le (kR_le _ _ _)
  have har : gkA G f sz g1 g2 g3 fo le wa := fun k hk => ⟨(kR_some.mp ((hel k hk).at 1 rfl)).2, (kR_some.mp ((hel k hk).at 2 rfl)).2, (kR_some.mp ((hel k hk).at 3 rfl)).2⟩
  unfold c_root
  rw [e7]
  by_cases hv : mIn x1 sz
  · obtain ⟨i, hi, rfl⟩ := mIn_ex (by omega) hv
    by_cases hp : mRg x2 (0) 3
    · rw [if_pos ⟨hv, hp⟩]
      obtain ⟨p, hp3, rfl⟩ := mRg_ex (n := 3) (by omega) hp
      rw [nI_clamp (show i < 2 ^ 31 by omega), nI_clamp (show p < 2 ^ 31 by omega)]
      exact cJ_ok ⟨rfl, rfl, Nat.le_of_ble_eq_true rfl, Nat.le_of_ble_eq_true rfl, Nat.le_of_ble_eq_true rfl, Nat.le_of_ble_eq_true rfl⟩ (kX8_root l G B0 f h c.gl sz (.ref c.sp) (.ref c.dl) (.ref c.rw) (.ref c.ml) (.ref c.pp) (.ref c.nn) w g1 g2 g3 fo le wa i p hH hls har hsz hi (by omega)) (fun r f1 hp => ⟨hp.1.trans ((hx i hi).2.2.2 p (by omega)).symm, hI.same _ hp.2⟩)
    · rw [if_neg (fun z => hp z.2)]
      exact cJ_no 1 ⟨by omega, by omega⟩ ⟨rfl, rfl, Nat.le_of_ble_eq_true rfl, Nat.le_of_ble_eq_true rfl, Nat.le_of_ble_eq_true rfl, Nat.le_of_ble_eq_true rfl⟩ (kX8_root_b2 l hst G B0 f h c.gl sz (.ref c.sp) (.ref c.dl) (.ref c.rw) (.ref c.ml) (.ref c.pp) (.ref c.nn) w g1 g2 g3 fo le wa i x2 hH hls har hsz hi hp) hI.same
  · rw [if_neg (fun z => hv z.1)]
    exact cJ_no 1 ⟨by omega, by omega⟩ ⟨rfl, rfl, Nat.le_of_ble_eq_true rfl, Nat.le_of_ble_eq_true rfl, Nat.le_of_ble_eq_true rfl, Nat.le_of_ble_eq_true rfl⟩ (kX8_root_b1 l hst G B0 f h c.gl sz (.ref c.sp) (.ref c.dl) (.ref c.rw) (.ref c.ml) (.ref c.pp) (.ref c.nn) w g1 g2 g3 fo le wa x1 x2 hH hls har hsz hv) hI.same
theorem cop_turn {l : Launch} (hst : l.stackTraces = false) {G : kG} {B0 h : Nat} {f : kH} {o : Nat → Nat} {c : cSt} {m : pSt} (hI : Inv2 G h f o c m) (x1 x2 : Int32) : cJ l G B0 h f yX8_turn wsX8_turn [.int x1, .int x2] (c_turn m x1 x2) := by
  have hG : cGsk G (kR o 3 f) c m := hI 3
  obtain ⟨sz, w, g1, g2, g3, fo, le, wa, hL, hel, hd1, hd2, hsz, e7, hx⟩ := hG
  have hH0 : kCs (kR o 0 f) (cHd h c) := hI 0
  have hH : kCs f (cHd h c) := hH0.le (kR_le _ _ _)
  have hls : kLs G f c.gl sz w (gkE g1 g2 g3) := (hL.ls (fun k hk => (hel k hk).at 0 rfl)).le (kR_le _ _ _)
  have har : gkA G f sz g1 g2 g3 fo le wa := fun k hk => ⟨(kR_some.mp ((hel k hk).at 1 rfl)).2, (kR_some.mp ((hel k hk).at 2 rfl)).2, (kR_some.mp ((hel k hk).at 3 rfl)).2⟩
  unfold c_turn
  rw [e7]
  by_cases hv : mIn x1 sz
  · obtain ⟨i, hi, rfl⟩ := mIn_ex (by omega) hv
    by_cases hp : mRg x2 (0) 3
    · rw [if_pos ⟨hv, hp⟩]
      obtain ⟨p, hp3, rfl⟩ := mRg_ex (n := 3) (by omega) hp
      rw [nI_clamp (show i < 2 ^ 31 by omega), nI_clamp (show p < 2 ^ 31 by omega)]
      have hT := mTurned_x (hx i hi).2.2.1 (show p < 4 by omega)
      rw [hT]
      by_cases hbig : 1000000000000000 < xTurn (fo i) p
      · rw [if_pos hbig]
        exact cJ_no 3 ⟨by omega, by omega⟩ ⟨rfl, rfl, Nat.le_of_ble_eq_true rfl, Nat.le_of_ble_eq_true rfl, Nat.le_of_ble_eq_true rfl, Nat.le_of_ble_eq_true rfl⟩ (kX8_turn_b3 l hst G B0 f h c.gl sz (.ref c.sp) (.ref c.dl) (.ref c.rw) (.ref c.ml) (.ref c.pp) (.ref c.nn) w g1 g2 g3 fo le wa i p hH hls har hsz hi (by omega) hbig) hI.same
      rw [if_neg hbig]
      have o1 := kR_some.mp ((hel i hi).at 1 rfl)
      have hW : kCs f [(h, .inr (8, [.ref c.sp, .ref c.dl, .ref c.gl, .ref c.rw, .ref c.ml, .ref c.pp, .ref c.nn])), (g1 i, kaJ G 4 (fo i))] := kCs_app hH0 (show kCs (kR o 3 f) [(g1 i, kaJ G 4 (fo i))] from ⟨fun x hx => by rw [List.mem_singleton.mp hx]; exact (hel i hi).at 1 rfl, by simp⟩) (by decide)
      refine cJ_ok ⟨rfl, rfl, Nat.le_of_ble_eq_true rfl, Nat.le_of_ble_eq_true rfl, Nat.le_of_ble_eq_true rfl, Nat.le_of_ble_eq_true rfl⟩ (kX8_turn l G B0 f h c.gl sz (.ref c.sp) (.ref c.dl) (.ref c.rw) (.ref c.ml) (.ref c.pp) (.ref c.nn) w g1 g2 g3 fo le wa i p hW hls har hsz hi (by omega) hbig) (fun r f1 hp => ?_)
      obtain ⟨hr, h4, hK⟩ := hp
      refine ⟨hr, oN o 3 f, c, ?_⟩
      have hKo := kR_own (o := o) (k := 3) hK
      refine hI.step 3 hK (fun a ha => by rw [List.mem_singleton.mp ha]; exact o1.1) ?_ (fun j g hj hP => ?_)
      · have hbi : (xTurn (fo i) p).toInt ≤ 1000000000000000 := by
          have e2 : (1000000000000000 : Int64).toInt = 1000000000000000 := rfl
          have : ¬ (1000000000000000 : Int64).toInt < (xTurn (fo i) p).toInt := fun z => hbig (lt64.mpr z)
          omega
        refine ⟨sz, w, g1, g2, g3, fun k => if k = i then vp_updL (fo i) p (xTurn (fo i) p) else fo k, le, wa, hL.kp hKo (fun a ha => by rw [List.mem_singleton.mp ha]; exact ⟨_, (hel i hi).at 1 rfl⟩), ?_, hd1, hd2, hsz, rfl, fun k hk => ?_⟩
        · refine gk_keep hel (fun k hk => hKo _ _ (fun z => ?_) ((hel k hk).at 0 rfl)) (fun k hk => ?_) (fun k hk => hKo _ _ (fun z => ?_) ((hel k hk).at 2 rfl)) (fun k hk => hKo _ _ (fun z => ?_) ((hel k hk).at 3 rfl))
          · have e := (hel k hk).at 0 rfl
            rw [List.mem_singleton.mp z, (hel i hi).at 1 rfl] at e; exact nomatch e
          · by_cases q : k = i
            · subst q; rw [if_pos rfl]; exact kR_some.mpr ⟨oN_own o1.1, h4.at 1 rfl⟩
            · rw [if_neg q]; exact hKo _ _ (fun z => (hd1 k i hk hi q).1 (List.mem_singleton.mp z)) ((hel k hk).at 1 rfl)
          · exact (hd2 i k hi hk).2.2 (List.mem_singleton.mp z).symm
          · exact (hd2 k i hk hi).1 (List.mem_singleton.mp z)
        · by_cases q : k = i
          · subst q
            simp only [if_pos]
            refine ⟨(hx k hk).1.turn (by omega) hbi, (hx k hk).2.1, fun j hj => ?_, (hx k hk).2.2.2⟩
            show vp_updL m.fo (4 * k + p) (xTurn (fo k) p) (4 * k + j) = vp_updL (fo k) p (xTurn (fo k) p) j
            by_cases q2 : j = p
            · subst q2; rw [vp_s, vp_s]
            · rw [vp_n _ _ q2, vp_n _ _ (by omega)]; exact (hx k hk).2.2.1 j hj
          · simp only [if_neg q]
            refine ⟨(hx k hk).1, (hx k hk).2.1, fun j hj => ?_, (hx k hk).2.2.2⟩
            show vp_updL m.fo (4 * i + p) _ (4 * k + j) = fo k j
            rw [vp_n _ _ (by omega)]; exact (hx k hk).2.2.1 j hj
      · unfold cPt at hP ⊢
        split
        case h_4 => exact absurd rfl hj
        all_goals first | exact hP | trivial
    · rw [if_neg (fun z => hp z.2)]
      exact cJ_no 1 ⟨by omega, by omega⟩ ⟨rfl, rfl, Nat.le_of_ble_eq_true rfl, Nat.le_of_ble_eq_true rfl, Nat.le_of_ble_eq_true rfl, Nat.le_of_ble_eq_true rfl⟩ (kX8_turn_b2 l hst G B0 f h c.gl sz (.ref c.sp) (.ref c.dl) (.ref c.rw) (.ref c.ml) (.ref c.pp) (.ref c.nn) w g1 g2 g3 fo le wa i x2 hH hls har hsz hi hp) hI.same
  · rw [if_neg (fun z => hv z.1)]
    exact cJ_no 1 ⟨by omega, by omega⟩ ⟨rfl, rfl, Nat.le_of_ble_eq_true rfl, Nat.le_of_ble_eq_true rfl, Nat.le_of_ble_eq_true rfl, Nat.le_of_ble_eq_true rfl⟩ (kX8_turn_b1 l hst G B0 f h c.gl sz (.ref c.sp) (.ref c.dl) (.ref c.rw) (.ref c.ml) (.ref c.pp) (.ref c.nn) w g1 g2 g3 fo le wa x1 x2 hH hls har hsz hv) hI.same
theorem cop_radius {l : Launch} (hst : l.stackTraces = false) {G : kG} {B0 h : Nat} {f : kH} {o : Nat → Nat} {c : cSt} {m : pSt} (hI : Inv2 G h f o c m) (x1 x2 : Int32) : (mIn x1 m.ng ∧ mRg x2 (0) 3 → ∃ rm mc ms, p8 rm mc ms ∧ Met l yX8_radius wsX8_radius rm (kP G B0 f [.ref h, .int x1, .int x2]) (kQf G B0 (fun r f1 => r = kRad (m.fo (4 * x1.toNatClampNeg + x2.toNatClampNeg)) ∧ Inv G h f1 m)) mc ms (kAb B0)) ∧ (¬ (mIn x1 m.ng ∧ mRg x2 (0) 3) → pNo l G B0 h f yX8_radius wsX8_radius [.int x1, .int x2] 1 m) := by
  have hG : cGsk G (kR o 3 f) c m := hI 3
  obtain ⟨sz, w, g1, g2, g3, fo, le, wa, hL, hel, hd1, hd2, hsz, e7, hx⟩ := hG
  have hH0 : kCs (kR o 0 f) (cHd h c) := hI 0
  have hH : kCs f (cHd h c) := hH0.le (kR_le _ _ _)
  have hls : kLs G f c.gl sz w (gkE g1 g2 g3) := (hL.ls (fun k hk => (hel k hk).at 0 rfl)).le (kR_le _ _ _)
  have har : gkA G f sz g1 g2 g3 fo le wa := fun k hk => ⟨(kR_some.mp ((hel k hk).at 1 rfl)).2, (kR_some.mp ((hel k hk).at 2 rfl)).2, (kR_some.mp ((hel k hk).at 3 rfl)).2⟩
  rw [e7]
  refine ⟨fun hv => ?_, fun hv => ?_⟩
  · obtain ⟨i, hi, rfl⟩ := mIn_ex (by omega) hv.1
    obtain ⟨p, hp3, rfl⟩ := mRg_ex (n := 3) (by omega) hv.2
    rw [nI_clamp (show i < 2 ^ 31 by omega), nI_clamp (show p < 2 ^ 31 by omega)]
    exact ⟨_, _, _, ⟨rfl, rfl, Nat.le_of_ble_eq_true rfl, Nat.le_of_ble_eq_true rfl, Nat.le_of_ble_eq_true rfl, Nat.le_of_ble_eq_true rfl⟩, (kX8_radius l G B0 f h c.gl sz (.ref c.sp) (.ref c.dl) (.ref c.rw) (.ref c.ml) (.ref c.pp) (.ref c.nn) w g1 g2 g3 fo le wa i p hH hls har hsz hi (by omega)).tof (fun r f1 hp => ⟨hp.1.trans (by rw [(hx i hi).2.2.1 p (by omega)]), hI.same _ hp.2⟩)⟩
  · refine ⟨by omega, by omega, ?_⟩
    by_cases hw : mIn x1 sz
    · obtain ⟨i, hi, rfl⟩ := mIn_ex (by omega) hw
      exact ⟨_, _, _, ⟨rfl, rfl, Nat.le_of_ble_eq_true rfl, Nat.le_of_ble_eq_true rfl, Nat.le_of_ble_eq_true rfl, Nat.le_of_ble_eq_true rfl⟩, (kX8_radius_b2 l hst G B0 f h c.gl sz (.ref c.sp) (.ref c.dl) (.ref c.rw) (.ref c.ml) (.ref c.pp) (.ref c.nn) w g1 g2 g3 fo le wa i x2 hH hls har hsz hi (fun z => hv ⟨hw, z⟩)).to (fun f1 e => hI.same _ e)⟩
    · exact ⟨_, _, _, ⟨rfl, rfl, Nat.le_of_ble_eq_true rfl, Nat.le_of_ble_eq_true rfl, Nat.le_of_ble_eq_true rfl, Nat.le_of_ble_eq_true rfl⟩, (kX8_radius_b1 l hst G B0 f h c.gl sz (.ref c.sp) (.ref c.dl) (.ref c.rw) (.ref c.ml) (.ref c.pp) (.ref c.nn) w g1 g2 g3 fo le wa x1 x2 hH hls har hsz hw).to (fun f1 e => hI.same _ e)⟩
theorem cop_countAnew {l : Launch} (hst : l.stackTraces = false) {G : kG} {B0 h : Nat} {f : kH} {o : Nat → Nat} {c : cSt} {m : pSt} (hI : Inv2 G h f o c m) (x1 x2 : Int32) : cI l G B0 h f yX8_countAnew wsX8_countAnew [.int x1, .int x2] (c_countAnew m x1 x2) := by
  have hG : cGsk G (kR o 3 f) c m := hI 3
  obtain ⟨sz, w, g1, g2, g3, fo, le, wa, hL, hel, hd1, hd2, hsz, e7, hx⟩ := hG
  have hH0 : kCs (kR o 0 f) (cHd h c) := hI 0
  have hH : kCs f (cHd h c) := hH0.le (kR_le _ _ _)
  have hls : kLs G f c.gl sz w (gkE g1 g2 g3) := (hL.ls (fun k hk => (hel k hk).at 0 rfl)).le (kR_le _ _ _)
  have har : gkA G f sz g1 g2 g3 fo le wa := fun k hk => ⟨(kR_some.mp ((hel k hk).at 1 rfl)).2, (kR_some.mp ((hel k hk).at 2 rfl)).2, (kR_some.mp ((hel k hk).at 3 rfl)).2⟩
  unfold c_countAnew
  rw [e7]
  by_cases hv : mIn x1 sz
  · rw [if_pos hv]
    obtain ⟨i, hi, rfl⟩ := mIn_ex (by omega) hv
    rw [nI_clamp (show i < 2 ^ 31 by omega)]
    by_cases hp : mRg x2 (1 : Nat) (1000 : Nat)
    · rw [if_pos hp]
      obtain ⟨b, hb1, hb2, rfl⟩ := mRg_nat (by omega) hp
      have hag : ag4 (pRoot m i) (le i) := fun k hk => (hx i hi).2.2.2 k hk
      have hr0 : m.ro (4 * i) = le i 0 := (hx i hi).2.2.2 0 (by omega)
      rw [hr0]
      by_cases hng : le i 0 < 0
      · rw [if_pos hng]
        have hbt : (nI b).toInt64.toInt ≤ 1000 := by rw [nI64 (by omega)]; omega
        have hrt := (hx i hi).1.rt.1
        have hn0 : ∃ j, j < 4 ∧ (le i j).toInt < 0 := ⟨0, by omega, lt64.mp hng⟩
        have hk9 : kCnt (fun k => le i k ≤ (nI b).toInt64) 4 = kCnt (fun x9 => ¬ (nI b).toInt64 < pRoot m i x9) 4 := kCnt_cg (fun k hk => by
          rw [show pRoot m i k = le i k from hag k hk]
          exact ⟨fun z z2 => absurd (lt64.mp z2) (by have := le64.mp z; omega), fun z => le64.mpr (by have : ¬ (nI b).toInt64.toInt < (le i k).toInt := fun z2 => z (lt64.mpr z2); omega)⟩)
        have hr9 : nI (kCnt (fun k => le i k ≤ (nI b).toInt64) 4) + cAm (nI b) 100 (le i 0) (le i 1) (le i 2) + cAm (nI b) 100 (le i 0) (le i 1) (le i 3) + cAm (nI b) 100 (le i 0) (le i 2) (le i 3) + cAm (nI b) 100 (le i 1) (le i 2) (le i 3) = nI (mCount (pRoot m i) (nI b).toInt64 100) := by
          have e := three_m (nI b) hbt hrt hn0 (hx i hi).2.1
          rw [mCount, nI_add9, mTree_ag _ 100 _ (le i) 4 hag, ← e, hk9]
          simp only [Int32.add_assoc]
        have hgw : g2 i ≠ w i := fun z => by
          have e := (hel i hi).at 0 rfl
          have e' := (hel i hi).at 2 rfl
          rw [z, e] at e'; exact nomatch e'
        exact cI_ok ⟨rfl, rfl, Nat.le_of_ble_eq_true rfl, Nat.le_of_ble_eq_true rfl, Nat.le_of_ble_eq_true rfl, Nat.le_of_ble_eq_true rfl⟩ (kX8_countAnew l G B0 f h c.gl sz (.ref c.sp) (.ref c.dl) (.ref c.rw) (.ref c.ml) (.ref c.pp) (.ref c.nn) w g1 g2 g3 fo le wa i b hH hls har hsz hi hb1 hb2 hng jNl_ok hgw) (fun r f1 hp => ⟨hp.1.trans hr9, hI.same _ hp.2⟩)
      · rw [if_neg hng]
        exact cI_no 3 ⟨by omega, by omega⟩ ⟨rfl, rfl, Nat.le_of_ble_eq_true rfl, Nat.le_of_ble_eq_true rfl, Nat.le_of_ble_eq_true rfl, Nat.le_of_ble_eq_true rfl⟩ (kX8_countAnew_b3 l hst G B0 f h c.gl sz (.ref c.sp) (.ref c.dl) (.ref c.rw) (.ref c.ml) (.ref c.pp) (.ref c.nn) w g1 g2 g3 fo le wa i b hH hls har hsz hi hb1 hb2 hng) hI.same
    · rw [if_neg hp]
      exact cI_no 2 ⟨by omega, by omega⟩ ⟨rfl, rfl, Nat.le_of_ble_eq_true rfl, Nat.le_of_ble_eq_true rfl, Nat.le_of_ble_eq_true rfl, Nat.le_of_ble_eq_true rfl⟩ (kX8_countAnew_b2 l hst G B0 f h c.gl sz (.ref c.sp) (.ref c.dl) (.ref c.rw) (.ref c.ml) (.ref c.pp) (.ref c.nn) w g1 g2 g3 fo le wa i x2 hH hls har hsz hi hp) hI.same
  · rw [if_neg hv]
    exact cI_no 1 ⟨by omega, by omega⟩ ⟨rfl, rfl, Nat.le_of_ble_eq_true rfl, Nat.le_of_ble_eq_true rfl, Nat.le_of_ble_eq_true rfl, Nat.le_of_ble_eq_true rfl⟩ (kX8_countAnew_b1 l hst G B0 f h c.gl sz (.ref c.sp) (.ref c.dl) (.ref c.rw) (.ref c.ml) (.ref c.pp) (.ref c.nn) w g1 g2 g3 fo le wa x1 x2 hH hls har hsz hv) hI.same
theorem cop_count {l : Launch} (hst : l.stackTraces = false) {G : kG} {B0 h : Nat} {f : kH} {o : Nat → Nat} {c : cSt} {m : pSt} (hI : Inv2 G h f o c m) (x1 x2 : Int32) : cI l G B0 h f yX8_count wsX8_count [.int x1, .int x2] (c_count m x1 x2) := by
  have hG : cGsk G (kR o 3 f) c m := hI 3
  obtain ⟨sz, w, g1, g2, g3, fo, le, wa, hL, hel, hd1, hd2, hsz, e7, hx⟩ := hG
  have hH0 : kCs (kR o 0 f) (cHd h c) := hI 0
  have hH : kCs f (cHd h c) := hH0.le (kR_le _ _ _)
  have hls : kLs G f c.gl sz w (gkE g1 g2 g3) := (hL.ls (fun k hk => (hel k hk).at 0 rfl)).le (kR_le _ _ _)
  have har : gkA G f sz g1 g2 g3 fo le wa := fun k hk => ⟨(kR_some.mp ((hel k hk).at 1 rfl)).2, (kR_some.mp ((hel k hk).at 2 rfl)).2, (kR_some.mp ((hel k hk).at 3 rfl)).2⟩
  unfold c_count
  rw [e7]
  by_cases hv : mIn x1 sz
  · rw [if_pos hv]
    obtain ⟨i, hi, rfl⟩ := mIn_ex (by omega) hv
    rw [nI_clamp (show i < 2 ^ 31 by omega)]
    by_cases hp : mRg x2 (1 : Nat) (1000 : Nat)
    · rw [if_pos hp]
      obtain ⟨b, hb1, hb2, rfl⟩ := mRg_nat (by omega) hp
      have hag : ag4 (pRoot m i) (le i) := fun k hk => (hx i hi).2.2.2 k hk
      have hr0 : m.ro (4 * i) = le i 0 := (hx i hi).2.2.2 0 (by omega)
      rw [hr0]
      by_cases hng : le i 0 < 0
      · rw [if_pos hng]
        have hbt : (nI b).toInt64.toInt ≤ 1000 := by rw [nI64 (by omega)]; omega
        have hrt := (hx i hi).1.rt.1
        have hn0 : ∃ j, j < 4 ∧ (le i j).toInt < 0 := ⟨0, by omega, lt64.mp hng⟩
        have hk9 : kCnt (fun k => le i k ≤ (nI b).toInt64) 4 = kCnt (fun x9 => ¬ (nI b).toInt64 < pRoot m i x9) 4 := kCnt_cg (fun k hk => by
          rw [show pRoot m i k = le i k from hag k hk]
          exact ⟨fun z z2 => absurd (lt64.mp z2) (by have := le64.mp z; omega), fun z => le64.mpr (by have : ¬ (nI b).toInt64.toInt < (le i k).toInt := fun z2 => z (lt64.mpr z2); omega)⟩)
        have hr9 : nI (kCnt (fun k => le i k ≤ (nI b).toInt64) 4) + cRw (nI b) 100 (fun j9 => if j9 < 4 then le i j9 else wa i j9) (-1) = nI (mCount (pRoot m i) (nI b).toInt64 100) := by
          have e := cRw_m (nI b) 100 (fun j9 => if j9 < 4 then le i j9 else wa i j9) 4 (Nat.le_refl 4)
          rw [show mLa 4 = -1 from rfl] at e
          rw [mCount, nI_add9, hk9, e, mTree_ag _ 100 (pRoot m i) (fun j9 => if j9 < 4 then le i j9 else wa i j9) 4 (fun k hk => by show pRoot m i k = if k < 4 then le i k else wa i k; rw [if_pos hk]; exact hag k hk)]
        have o3 := kR_some.mp ((hel i hi).at 3 rfl)
        have h3 : kCs f [(w i, .inr (2, [.ref (g1 i), .ref (g2 i), .ref (g3 i)])), (g2 i, kaJ G 4 (le i)), (g3 i, kaJ G 4 (wa i))] := kCs.le (show kCs (kR o 3 f) [(w i, .inr (2, [.ref (g1 i), .ref (g2 i), .ref (g3 i)])), (g2 i, kaJ G 4 (le i)), (g3 i, kaJ G 4 (wa i))] from (hel i hi).pick [0, 2, 3] (by decide) ⟨rfl, rfl, rfl, trivial⟩) (kR_le _ _ _)
        refine cI_ok ⟨rfl, rfl, Nat.le_of_ble_eq_true rfl, Nat.le_of_ble_eq_true rfl, Nat.le_of_ble_eq_true rfl, Nat.le_of_ble_eq_true rfl⟩ (kX8_count l G B0 f h c.gl sz (.ref c.sp) (.ref c.dl) (.ref c.rw) (.ref c.ml) (.ref c.pp) (.ref c.nn) w g1 g2 g3 fo le wa i b hH hls har hsz hi hb1 hb2 hng h3) (fun r f1 hp => ?_)
        obtain ⟨hr, h4, hK⟩ := hp
        refine ⟨hr.trans hr9, oN o 3 f, c, ?_⟩
        have hKo := kR_own (o := o) (k := 3) hK
        refine hI.step 3 hK (fun a ha => by rw [List.mem_singleton.mp ha]; exact o3.1) ?_ (fun _ _ _ h => h)
        refine ⟨sz, w, g1, g2, g3, fo, le, fun k => if k = i then (fun j9 => if j9 < 4 then le i j9 else wa i j9) else wa k, hL.kp hKo (fun a ha => by rw [List.mem_singleton.mp ha]; exact ⟨_, (hel i hi).at 3 rfl⟩), ?_, hd1, hd2, hsz, e7, hx⟩
        refine gk_keep hel (fun k hk => hKo _ _ (fun z => ?_) ((hel k hk).at 0 rfl)) (fun k hk => hKo _ _ (fun z => ?_) ((hel k hk).at 1 rfl)) (fun k hk => hKo _ _ (fun z => ?_) ((hel k hk).at 2 rfl)) (fun k hk => ?_)
        · have e := (hel k hk).at 0 rfl
          rw [List.mem_singleton.mp z, (hel i hi).at 3 rfl] at e; exact nomatch e
        · exact (hd2 i k hi hk).1 (List.mem_singleton.mp z).symm
        · exact (hd2 i k hi hk).2.1 (List.mem_singleton.mp z).symm
        · by_cases q : k = i
          · subst q; rw [if_pos rfl]; exact kR_some.mpr ⟨oN_own o3.1, h4⟩
          · rw [if_neg q]; exact hKo _ _ (fun z => (hd1 k i hk hi q).2.2 (List.mem_singleton.mp z)) ((hel k hk).at 3 rfl)
      · rw [if_neg hng]
        exact cI_no 3 ⟨by omega, by omega⟩ ⟨rfl, rfl, Nat.le_of_ble_eq_true rfl, Nat.le_of_ble_eq_true rfl, Nat.le_of_ble_eq_true rfl, Nat.le_of_ble_eq_true rfl⟩ (kX8_count_b3 l hst G B0 f h c.gl sz (.ref c.sp) (.ref c.dl) (.ref c.rw) (.ref c.ml) (.ref c.pp) (.ref c.nn) w g1 g2 g3 fo le wa i b hH hls har hsz hi hb1 hb2 hng) hI.same
    · rw [if_neg hp]
      exact cI_no 2 ⟨by omega, by omega⟩ ⟨rfl, rfl, Nat.le_of_ble_eq_true rfl, Nat.le_of_ble_eq_true rfl, Nat.le_of_ble_eq_true rfl, Nat.le_of_ble_eq_true rfl⟩ (kX8_count_b2 l hst G B0 f h c.gl sz (.ref c.sp) (.ref c.dl) (.ref c.rw) (.ref c.ml) (.ref c.pp) (.ref c.nn) w g1 g2 g3 fo le wa i x2 hH hls har hsz hi hp) hI.same
  · rw [if_neg hv]
    exact cI_no 1 ⟨by omega, by omega⟩ ⟨rfl, rfl, Nat.le_of_ble_eq_true rfl, Nat.le_of_ble_eq_true rfl, Nat.le_of_ble_eq_true rfl, Nat.le_of_ble_eq_true rfl⟩ (kX8_count_b1 l hst G B0 f h c.gl sz (.ref c.sp) (.ref c.dl) (.ref c.rw) (.ref c.ml) (.ref c.pp) (.ref c.nn) w g1 g2 g3 fo le wa x1 x2 hH hls har hsz hv) hI.same
theorem gk_as {G : kG} {g : kH} {w g1 g2 g3 : Nat} {fo le wa : Nat → Int64} (h : kCs g [(w, .inr (2, [.ref g1, .ref g2, .ref g3])), (g1, kaJ G 4 fo), (g2, kaJ G 4 le), (g3, kaJ G 4 wa)]) {a : Nat} (ha : (∃ l, g a = some (.inr (0, l))) ∨ ∃ cap g0, 10 ≤ cap ∧ g a = some (kaO G cap g0)) : a ∉ [w, g1, g2, g3] := fun z => by
  simp only [List.mem_cons, List.not_mem_nil, or_false] at z
  have key : ∀ y, g a = some (kaJ G 4 y) → False := fun y e => by
    rcases ha with ⟨l, e2⟩ | ⟨cap, g0, hc, e2⟩
    · rw [e] at e2; exact nomatch e2
    · rw [e] at e2
      have := congrArg (fun v : Option va_E => match v with | some (.inl (_, n, _)) => n | _ => 0) e2
      dsimp only at this
      omega
  rcases z with rfl | rfl | rfl | rfl
  · rcases ha with ⟨l, e2⟩ | ⟨cap, g0, hc, e2⟩
    · rw [h.at 0 rfl] at e2
      have := congrArg (fun v : Option va_E => match v with | some (.inr (n, _)) => n | _ => 0) e2
      dsimp only at this
      omega
    · rw [h.at 0 rfl] at e2; exact nomatch e2
  · exact key _ (h.at 1 rfl)
  · exact key _ (h.at 2 rfl)
  · exact key _ (h.at 3 rfl)
theorem cGsk_put {G : kG} {g g' : kH} {c : cSt} {m : pSt} {sz : Nat} {w g1 g2 g3 : Nat → Nat} {fo le wa : Nat → Nat → Int64} {x1 x2 x3 x4 : Int32} {t q1 q2 q3 : Nat} (hL : kLst G g' c.gl (sz + 1) (fun j => if j = sz then t else w j)) (hel : ∀ k, k < sz → kCs g [(w k, gkE g1 g2 g3 k), (g1 k, kaJ G 4 (fo k)), (g2 k, kaJ G 4 (le k)), (g3 k, kaJ G 4 (wa k))]) (hold : ∀ k, k < sz → kCs g' [(w k, gkE g1 g2 g3 k), (g1 k, kaJ G 4 (fo k)), (g2 k, kaJ G 4 (le k)), (g3 k, kaJ G 4 (wa k))])
    (hnew : kCs g' [(t, .inr (2, [.ref q1, .ref q2, .ref q3])), (q1, kaJ G 4 (xRow x1.toInt64 x2.toInt64 x3.toInt64 x4.toInt64)), (q2, kaJ G 4 (xLeast x1.toInt64 x2.toInt64 x3.toInt64 x4.toInt64)), (q3, kaJ G 4 (fun _ => 0))]) (f1 : g q1 = none) (f2 : g q2 = none) (f3 : g q3 = none)
    (hd1 : ∀ i j, i < sz → j < sz → ¬ i = j → g1 i ≠ g1 j ∧ g2 i ≠ g2 j ∧ g3 i ≠ g3 j) (hd2 : ∀ i j, i < sz → j < sz → g3 i ≠ g1 j ∧ g3 i ≠ g2 j ∧ g1 i ≠ g2 j) (hn : sz + 1 ≤ 8) (hw : mGk x1 x2 x3 x4)
    (hx : ∀ k, k < sz → gInv (fo k) (le k) ∧ (∀ j, j < 4 → ((le k) j).toInt.natAbs ≤ 1000000) ∧ (∀ j, j < 4 → m.fo (4 * k + j) = fo k j) ∧ ∀ j, j < 4 → m.ro (4 * k + j) = le k j) : cGsk G g' c (pMk m.cc m.fc m.nd (sz + 1) m.nm m.nc m.nw m.fa m.dx m.dy m.dr (pB19 m.fo sz x1.toInt64 x2.toInt64 x3.toInt64 x4.toInt64) (pB19 m.ro sz (xLeast x1.toInt64 x2.toInt64 x3.toInt64 x4.toInt64 0) (xLeast x1.toInt64 x2.toInt64 x3.toInt64 x4.toInt64 1) (xLeast x1.toInt64 x2.toInt64 x3.toInt64 x4.toInt64 2) (xLeast x1.toInt64 x2.toInt64 x3.toInt64 x4.toInt64 3)) m.mv m.pr m.ea m.eb) := by
  obtain ⟨hok, hle⟩ := gk_ok hw
  have n1 : ∀ k, k < sz → ∀ q, g q = none → g1 k ≠ q ∧ g2 k ≠ q ∧ g3 k ≠ q := fun k hk q hq => by
    refine ⟨fun z => ?_, fun z => ?_, fun z => ?_⟩
    · have e := (hel k hk).at 1 rfl; rw [z, hq] at e; exact nomatch e
    · have e := (hel k hk).at 2 rfl; rw [z, hq] at e; exact nomatch e
    · have e := (hel k hk).at 3 rfl; rw [z, hq] at e; exact nomatch e
  have nd := hnew.2
  simp only [List.map_cons, List.map_nil, List.nodup_cons, List.mem_cons, List.not_mem_nil, or_false, not_or, List.nodup_nil, and_true, not_false_eq_true] at nd
  refine ⟨sz + 1, _, fun j => if j = sz then q1 else g1 j, fun j => if j = sz then q2 else g2 j, fun j => if j = sz then q3 else g3 j, fun j => if j = sz then xRow x1.toInt64 x2.toInt64 x3.toInt64 x4.toInt64 else fo j, fun j => if j = sz then xLeast x1.toInt64 x2.toInt64 x3.toInt64 x4.toInt64 else le j, fun j => if j = sz then (fun _ => 0) else wa j, hL, fun k hk => ?_, fun i j hi hj hij => ?_, fun i j hi hj => ?_, hn, rfl, fun k hk => ?_⟩
  · by_cases q : k = sz
    · simp only [gkE, if_pos q]; exact hnew
    · simp only [gkE, if_neg q]; exact hold k (by omega)
  · by_cases a : i = sz <;> by_cases b : j = sz
    · omega
    · simp only [if_pos a, if_neg b]; have := n1 j (by omega); exact ⟨(this _ f1).1.symm, (this _ f2).2.1.symm, (this _ f3).2.2.symm⟩
    · simp only [if_neg a, if_pos b]; have := n1 i (by omega); exact ⟨(this _ f1).1, (this _ f2).2.1, (this _ f3).2.2⟩
    · simp only [if_neg a, if_neg b]; exact hd1 i j (by omega) (by omega) hij
  · by_cases a : i = sz <;> by_cases b : j = sz
    · simp only [if_pos a, if_pos b]; exact ⟨fun z => nd.2.1.2 z.symm, fun z => nd.2.2 z.symm, nd.2.1.1⟩
    · simp only [if_pos a, if_neg b]; have := n1 j (by omega); exact ⟨(this _ f3).1.symm, (this _ f3).2.1.symm, (this _ f1).2.1.symm⟩
    · simp only [if_neg a, if_pos b]; have := n1 i (by omega); exact ⟨(this _ f1).2.2, (this _ f2).2.2, (this _ f2).1⟩
    · simp only [if_neg a, if_neg b]; exact hd2 i j (by omega) (by omega)
  · by_cases q : k = sz
    · subst q
      simp only [if_pos]
      refine ⟨gInv.told hok hle, told_b hok hle, fun j hj => ?_, fun j hj => ?_⟩
      · show pB19 m.fo k x1.toInt64 x2.toInt64 x3.toInt64 x4.toInt64 (4 * k + j) = _
        obtain ⟨p0, p1, p2, p3⟩ := pB19_at m.fo k x1.toInt64 x2.toInt64 x3.toInt64 x4.toInt64
        rcases lt4 hj with rfl | rfl | rfl | rfl
        · exact p0
        · exact p1
        · exact p2
        · exact p3
      · show pB19 m.ro k (xLeast x1.toInt64 x2.toInt64 x3.toInt64 x4.toInt64 0) (xLeast x1.toInt64 x2.toInt64 x3.toInt64 x4.toInt64 1) (xLeast x1.toInt64 x2.toInt64 x3.toInt64 x4.toInt64 2) (xLeast x1.toInt64 x2.toInt64 x3.toInt64 x4.toInt64 3) (4 * k + j) = _
        obtain ⟨p0, p1, p2, p3⟩ := pB19_at m.ro k (xLeast x1.toInt64 x2.toInt64 x3.toInt64 x4.toInt64 0) (xLeast x1.toInt64 x2.toInt64 x3.toInt64 x4.toInt64 1) (xLeast x1.toInt64 x2.toInt64 x3.toInt64 x4.toInt64 2) (xLeast x1.toInt64 x2.toInt64 x3.toInt64 x4.toInt64 3)
        rcases lt4 hj with rfl | rfl | rfl | rfl
        · exact p0
        · exact p1
        · exact p2
        · exact p3
    · simp only [if_neg q]
      refine ⟨(hx k (by omega)).1, (hx k (by omega)).2.1, fun j hj => ?_, fun j hj => ?_⟩
      · show pB19 m.fo sz x1.toInt64 x2.toInt64 x3.toInt64 x4.toInt64 (4 * k + j) = _
        rw [pB19_off _ _ _ _ _ _ (by omega)]
        exact (hx k (by omega)).2.2.1 j hj
      · show pB19 m.ro sz (xLeast x1.toInt64 x2.toInt64 x3.toInt64 x4.toInt64 0) (xLeast x1.toInt64 x2.toInt64 x3.toInt64 x4.toInt64 1) (xLeast x1.toInt64 x2.toInt64 x3.toInt64 x4.toInt64 2) (xLeast x1.toInt64 x2.toInt64 x3.toInt64 x4.toInt64 3) (4 * k + j) = _
        rw [pB19_off _ _ _ _ _ _ (by omega)]
        exact (hx k (by omega)).2.2.2 j hj
theorem cop_gasket {l : Launch} (hst : l.stackTraces = false) {G : kG} {B0 h : Nat} {f : kH} {o : Nat → Nat} {c : cSt} {m : pSt} (hI : Inv2 G h f o c m) (x1 x2 x3 x4 : Int32) : cI l G B0 h f yX8_gasket wsX8_gasket [.int x1, .int x2, .int x3, .int x4] (c_gasket m x1 x2 x3 x4) := by
  have hG : cGsk G (kR o 3 f) c m := hI 3
  obtain ⟨sz, w, g1, g2, g3, fo, le, wa, hL, hel, hd1, hd2, hsz, e7, hx⟩ := hG
  have hH0 : kCs (kR o 0 f) (cHd h c) := hI 0
  have hH : kCs f (cHd h c) := hH0.le (kR_le _ _ _)
  have hls : kLs G f c.gl sz w (gkE g1 g2 g3) := (hL.ls (fun k hk => (hel k hk).at 0 rfl)).le (kR_le _ _ _)
  have har : gkA G f sz g1 g2 g3 fo le wa := fun k hk => ⟨(kR_some.mp ((hel k hk).at 1 rfl)).2, (kR_some.mp ((hel k hk).at 2 rfl)).2, (kR_some.mp ((hel k hk).at 3 rfl)).2⟩
  unfold c_gasket
  rw [e7]
  by_cases hw : mGk x1 x2 x3 x4
  · rw [if_pos hw]
    have hw8 := gk_iff.mpr hw
    by_cases h16 : 8 ≤ sz
    · rw [if_pos h16]
      exact cI_no 3 ⟨by omega, by omega⟩ ⟨rfl, rfl, Nat.le_of_ble_eq_true rfl, Nat.le_of_ble_eq_true rfl, Nat.le_of_ble_eq_true rfl, Nat.le_of_ble_eq_true rfl⟩ (kX8_gasket_b2 l hst G B0 f h c.gl sz (.ref c.sp) (.ref c.dl) (.ref c.rw) (.ref c.ml) (.ref c.pp) (.ref c.nn) w g1 g2 g3 fo le wa x1 x2 x3 x4 hH hls har hsz hw8 h16) hI.same
    rw [if_neg h16]
    have he : ∀ k, k < sz → kR o 3 f (w k) = some (gkE g1 g2 g3 k) := fun k hk => (hel k hk).at 0 rfl
    obtain ⟨mc, ⟨h0, h1⟩ | ⟨q, cap, g0, h1, h2, h10, h64, h5, h6⟩⟩ := hL
    · subst h0
      have a1 := kR_some.mp h1
      have hW : kCs f [(h, .inr (8, [.ref c.sp, .ref c.dl, .ref c.gl, .ref c.rw, .ref c.ml, .ref c.pp, .ref c.nn])), (c.gl, .inr (0, [.int mc, .ref (G.2.2 1), .int (nI 0)]))] := kCs_app hH0 (show kCs (kR o 3 f) [(c.gl, .inr (0, [.int mc, .ref (G.2.2 1), .int (nI 0)]))] from ⟨fun x hx => by rw [List.mem_singleton.mp hx]; exact h1, by simp⟩) (by decide)
      refine cI_ok ⟨rfl, rfl, Nat.le_of_ble_eq_true rfl, Nat.le_of_ble_eq_true rfl, Nat.le_of_ble_eq_true rfl, Nat.le_of_ble_eq_true rfl⟩ (kX8_gasket_0 l G B0 f h c.gl mc (.ref c.sp) (.ref c.dl) (.ref c.rw) (.ref c.ml) (.ref c.pp) (.ref c.nn) x1 x2 x3 x4 hw8.1 hw8.2 hW) (fun r0 f1 hp => ?_)
      obtain ⟨t, q1, q2, q3, q, hr, ⟨hT, hf1, hf2, hf3, hq⟩, h4, hK⟩ := hp
      refine ⟨hr, oN o 3 f, c, ?_⟩
      have hqt : q ≠ t := fun z => by have := h4.2; simp [z] at this
      refine hI.step 3 hK (fun a ha => by rw [List.mem_singleton.mp ha]; exact a1.1) ?_ (fun j g hj hP => ?_)
      · refine cGsk_put (w := w) (kLst.add_0 (w := w) h1 hT hq hqt (h4.pick [1, 6] (by decide) ⟨rfl, rfl, trivial⟩)) hel (fun k hk => absurd hk (Nat.not_lt_zero _)) (kCs_own (h4.pick [2, 3, 4, 5] (by decide) ⟨rfl, rfl, rfl, rfl, trivial⟩) (fun x hx => ?_)) (kR_none hf1) (kR_none hf2) (kR_none hf3) hd1 hd2 (by omega) hw hx
        simp only [List.mem_cons, List.not_mem_nil, or_false] at hx
        rcases hx with rfl | rfl | rfl | rfl
        · exact .inr hT
        · exact .inr hf1
        · exact .inr hf2
        · exact .inr hf3
      · unfold cPt at hP ⊢
        split
        case h_4 => exact absurd rfl hj
        all_goals first | exact hP | trivial
    · have a1 := (kCs_mem h1) _ List.mem_cons_self
      have a2 := (kCs_mem h1) _ (List.mem_cons_of_mem _ List.mem_cons_self)
      have hW : kCs f [(h, .inr (8, [.ref c.sp, .ref c.dl, .ref c.gl, .ref c.rw, .ref c.ml, .ref c.pp, .ref c.nn])), (c.gl, .inr (0, [.int mc, .ref q, .int (nI sz)])), (q, kaO G cap g0)] := kCs_app hH0 h1 (by decide)
      have hc : sz < cap := by omega
      refine cI_ok ⟨rfl, rfl, Nat.le_of_ble_eq_true rfl, Nat.le_of_ble_eq_true rfl, Nat.le_of_ble_eq_true rfl, Nat.le_of_ble_eq_true rfl⟩ (kX8_gasket_n l G B0 f h c.gl q mc sz cap g0 (.ref c.sp) (.ref c.dl) (.ref c.rw) (.ref c.ml) (.ref c.pp) (.ref c.nn) x1 x2 x3 x4 hw8.1 hw8.2 hW (by omega) hc (by omega)) (fun r0 f1 hp => ?_)
      obtain ⟨t, q1, q2, q3, hr, ⟨hT, hf1, hf2, hf3⟩, h4, hK⟩ := hp
      refine ⟨hr, oN o 3 f, c, ?_⟩
      refine hI.step 3 hK (fun a ha => ?_) ?_ (fun j g hj hP => ?_)
      · simp only [List.mem_cons, List.not_mem_nil, or_false] at ha
        rcases ha with rfl | rfl
        · exact a1.1
        · exact a2.1
      · refine cGsk_put (kLst.add_n h1 hc h10 h64 h5 h6 he hT (h4.pick [1, 2] (by decide) ⟨rfl, rfl, trivial⟩)) hel (fun k hk => kCs_kp (hel k hk) (kR_own hK) (fun a ha => ?_)) (kCs_own (h4.pick [3, 4, 5, 6] (by decide) ⟨rfl, rfl, rfl, rfl, trivial⟩) (fun x hx => ?_)) (kR_none hf1) (kR_none hf2) (kR_none hf3) hd1 hd2 (by omega) hw hx
        · refine gk_as (hel k hk) ?_
          simp only [List.mem_cons, List.not_mem_nil, or_false] at ha
          rcases ha with rfl | rfl
          · exact .inl ⟨_, h1.at 0 rfl⟩
          · exact .inr ⟨_, _, h10, h1.at 1 rfl⟩
        · simp only [List.mem_cons, List.not_mem_nil, or_false] at hx
          rcases hx with rfl | rfl | rfl | rfl
          · exact .inr hT
          · exact .inr hf1
          · exact .inr hf2
          · exact .inr hf3
      · unfold cPt at hP ⊢
        split
        case h_4 => exact absurd rfl hj
        all_goals first | exact hP | trivial
  · rw [if_neg hw]
    exact cI_no 2 ⟨by omega, by omega⟩ ⟨rfl, rfl, Nat.le_of_ble_eq_true rfl, Nat.le_of_ble_eq_true rfl, Nat.le_of_ble_eq_true rfl, Nat.le_of_ble_eq_true rfl⟩ (kX8_gasket_b1 l hst G B0 f h c.gl sz (.ref c.sp) (.ref c.dl) (.ref c.rw) (.ref c.ml) (.ref c.pp) (.ref c.nn) w g1 g2 g3 fo le wa x1 x2 x3 x4 hH hls har hsz (fun z => hw (gk_iff.mp z))) hI.same
theorem cop_remainders {l : Launch} (hst : l.stackTraces = false) {G : kG} {B0 h : Nat} {f : kH} {o : Nat → Nat} {c : cSt} {m : pSt} (hI : Inv2 G h f o c m) (x1 x2 : Int32) : cI l G B0 h f yX8_remainders wsX8_remainders [.int x1, .int x2] (c_remainders m x1 x2) := by
  have hG : cGsk G (kR o 3 f) c m := hI 3
  obtain ⟨sz, w, g1, g2, g3, fo, le, wa, hL, hel, hd1, hd2, hsz, e7, hx⟩ := hG
  have hH0 : kCs (kR o 0 f) (cHd h c) := hI 0
  have hH : kCs f (cHd h c) := hH0.le (kR_le _ _ _)
  have hls : kLs G f c.gl sz w (gkE g1 g2 g3) := (hL.ls (fun k hk => (hel k hk).at 0 rfl)).le (kR_le _ _ _)
  have har : gkA G f sz g1 g2 g3 fo le wa := fun k hk => ⟨(kR_some.mp ((hel k hk).at 1 rfl)).2, (kR_some.mp ((hel k hk).at 2 rfl)).2, (kR_some.mp ((hel k hk).at 3 rfl)).2⟩
  unfold c_remainders
  rw [e7]
  by_cases hv : mIn x1 sz
  · rw [if_pos hv]
    obtain ⟨i, hi, rfl⟩ := mIn_ex (by omega) hv
    rw [nI_clamp (show i < 2 ^ 31 by omega)]
    by_cases hp : mRg x2 (2 : Nat) (8 : Nat)
    · rw [if_pos hp]
      obtain ⟨b, hb1, hb2, rfl⟩ := mRg_nat (by omega) hp
      have hK4 : cWlk G (kR o 4 f) c m := hI 4
      obtain ⟨sA, wA, gs, gw, hw4⟩ := hK4
      have hR : kCs f [(c.rw, .inr (5, [.ref sA, .ref wA])), (sA, kaJ G 64 gs), (wA, kaJ G 64 gw), (g1 i, kaJ G 4 (fo i))] := kCs_app hw4 (show kCs (kR o 3 f) [(g1 i, kaJ G 4 (fo i))] from ⟨fun x hx => by rw [List.mem_singleton.mp hx]; exact (hel i hi).at 1 rfl, by simp⟩) (by decide)
      have hwl := wN_lt (g := fo i) hb1 hb2 4
      have hwc : (wCode (fo i) (nI b) 4).toNatClampNeg = wN (fo i) b 4 := by rw [wCode_at hb1 hb2 4 (Nat.le_refl 4)]; exact nI_clamp (by omega)
      have hc9 : mIn (wCode (fo i) (nI b) 4) 4096 := by
        rw [wCode_at hb1 hb2 4 (Nat.le_refl 4)]
        have e : (nI (wN (fo i) b 4)).toInt = (wN (fo i) b 4 : Nat) := nI_toInt (by omega)
        exact ⟨by omega, by omega⟩
      have hb6 : (nI b).toInt64 ≠ 0 := fun z => by
        have e := nI64 (b := b) (by omega)
        rw [z] at e
        have : (0 : Int64).toInt = 0 := rfl
        omega
      have hm4 := kCs_mem hw4
      simp only [List.mem_cons, List.not_mem_nil, or_false] at hm4
      have o1 : o c.rw = 4 := (hm4 _ (Or.inl rfl)).1
      have o2 : o sA = 4 := (hm4 _ (Or.inr (Or.inl rfl))).1
      have o3 : o wA = 4 := (hm4 _ (Or.inr (Or.inr rfl))).1
      have hcw : wCode (fun j => m.fo (4 * i + j)) (nI b) 4 = wCode (fo i) (nI b) 4 := wCode_cg (nI b) 4 (fun k hk => (hx i hi).2.2.1 k hk)
      have hc4 : (wCode (fo i) (nI b) 4).toNatClampNeg < 4096 := by rw [hwc]; omega
      refine cI_ok ⟨rfl, rfl, Nat.le_of_ble_eq_true rfl, Nat.le_of_ble_eq_true rfl, Nat.le_of_ble_eq_true rfl, Nat.le_of_ble_eq_true rfl⟩ (kX8_remainders l G B0 f h c.gl sz c.rw sA wA (.ref c.sp) (.ref c.dl) (.ref c.ml) (.ref c.pp) (.ref c.nn) w g1 g2 g3 fo le wa gs gw i b hH hls har hsz hR hi hb1 hb2 (cdOk_ok hb1 hb2) hc9 hb6) (fun r f1 hp => ?_)
      obtain ⟨hr, h4, hK⟩ := hp
      refine ⟨hr.trans ?_, oN o 4 f, c, ?_⟩
      · rw [pRem, hcw]
        exact (class_rem hb1 hb2 hc4 gs gw).eq (class_rem hb1 hb2 hc4 (fun _ => 0) (fun _ => 0))
      · refine hI.step 4 hK (fun a ha => ?_) ?_ (fun _ _ _ h => h)
        · simp only [List.mem_cons, List.not_mem_nil, or_false] at ha
          rcases ha with rfl | rfl | rfl
          · exact o1
          · exact o2
          · exact o3
        · refine ⟨sA, wA, _, _, kCs_own (h4.pick [0, 1, 2] (by decide) ⟨rfl, rfl, rfl, trivial⟩) (fun x hx => ?_)⟩
          simp only [List.mem_cons, List.not_mem_nil, or_false] at hx
          rcases hx with rfl | rfl | rfl
          · exact .inl o1
          · exact .inl o2
          · exact .inl o3
    · rw [if_neg hp]
      exact cI_no 2 ⟨by omega, by omega⟩ ⟨rfl, rfl, Nat.le_of_ble_eq_true rfl, Nat.le_of_ble_eq_true rfl, Nat.le_of_ble_eq_true rfl, Nat.le_of_ble_eq_true rfl⟩ (kX8_remainders_b2 l hst G B0 f h c.gl sz (.ref c.sp) (.ref c.dl) (.ref c.rw) (.ref c.ml) (.ref c.pp) (.ref c.nn) w g1 g2 g3 fo le wa i x2 hH hls har hsz hi hp) hI.same
  · rw [if_neg hv]
    exact cI_no 1 ⟨by omega, by omega⟩ ⟨rfl, rfl, Nat.le_of_ble_eq_true rfl, Nat.le_of_ble_eq_true rfl, Nat.le_of_ble_eq_true rfl, Nat.le_of_ble_eq_true rfl⟩ (kX8_remainders_b1 l hst G B0 f h c.gl sz (.ref c.sp) (.ref c.dl) (.ref c.rw) (.ref c.ml) (.ref c.pp) (.ref c.nn) w g1 g2 g3 fo le wa x1 x2 hH hls har hsz hv) hI.same
