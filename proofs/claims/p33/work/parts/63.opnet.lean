/-! the calls on the net -/
theorem kCs.tail {f : kH} {x : Nat × va_E} {ws : va_W} (h : kCs f (x :: ws)) : kCs f ws := ⟨fun q hq => h.1 q (List.mem_cons_of_mem _ hq), (List.nodup_cons.mp h.2).2⟩
theorem mAdj_syI {cc fc : Nat} {A : Nat → Int32} {N : Nat → Nat} {th : nTh} {fo : Nat → Nat → Nat} (hs : nSt cc fc N th fo) (hA : nNam A N fc) (x y : Int32) (h : mAdj A fc x y) : mAdj A fc y x := by
  obtain ⟨s, h1, h2, h3⟩ := mFaceOf_some _ h
  have hx := hs.2.2.2.1 _ h1
  have hy := hs.2.2.2.1 _ (mNx_lt h1)
  rw [hA _ h1] at h2
  rw [hA _ (mNx_lt h1)] at h3
  subst h2; subst h3
  exact mAdj_sy hs hA hx hy h
theorem mRg_ex {x : Int32} {n : Nat} (hn : n < 2 ^ 31) (h : mRg x (0) n) : ∃ k, k ≤ n ∧ x = nI k := by
  obtain ⟨h1, h2⟩ := h
  exact ⟨x.toInt.toNat, by omega, i32_of (by omega) (by omega)⟩
theorem nn_ex {x : Int32} (h : ¬ x < 0) : ∃ k, k < 2 ^ 31 ∧ x = nI k := by
  have h0 : 0 ≤ x.toInt := by
    have : ¬ x.toInt < 0 := fun q => h (i32_lt0.mpr q)
    omega
  have := Int32.toInt_lt x
  exact ⟨x.toInt.toNat, by omega, i32_of (by omega) (by omega)⟩
theorem flipV_n : ∀ u, u < 16 → ∀ v, v < 16 → mFlipV (nI u) (nI v) = nI (100 * (if u < v then u else v) + (if u < v then v else u)) := by decide
def pSpl (A : Nat → Int32) (cc fc t : Nat) : Nat → Int32 := nPutN (nPutN (nPutN A t (A (3 * t)).toNatClampNeg (A (3 * t + 1)).toNatClampNeg cc) fc (A (3 * t + 1)).toNatClampNeg (A (3 * t + 2)).toNatClampNeg cc) (fc + 1) (A (3 * t + 2)).toNatClampNeg (A (3 * t)).toNatClampNeg cc
def c_split (m : pSt) (x1 : Int32) : pRI := if mIn x1 m.fc then (if 16 ≤ m.cc then (3, 0, m) else (0, nI m.cc, (pMk (m.cc + 1) (m.fc + 2) m.nd m.ng m.nm m.nc m.nw (pSpl m.fa m.cc m.fc x1.toNatClampNeg) m.dx m.dy m.dr m.fo m.ro m.mv m.pr m.ea m.eb))) else (1, 0, m)
/-- the first of n corners from k on that is a neighbour of a -/
def pLow (A : Nat → Int32) (fc : Nat) (a : Int32) : Nat → Nat → Int32
  | 0, _ => -1
  | n + 1, k => if mAdj A fc a (nI k) then nI k else pLow A fc a n (k + 1)
theorem pLow_at {A : Nat → Int32} {fc : Nat} {a : Int32} {low : Nat} (h1 : mAdj A fc a (nI low)) (h2 : ∀ j, j < low → ¬ mAdj A fc a (nI j)) : ∀ n k, k ≤ low → low < k + n → pLow A fc a n k = nI low
  | 0, k, q1, q2 => by omega
  | n + 1, k, q1, q2 => by
    by_cases q : k = low
    · subst q; exact if_pos h1
    · exact (if_neg (h2 k (by omega))).trans (pLow_at h1 h2 n (k + 1) (by omega) (by omega))
def pFlF (A : Nat → Int32) (fc : Nat) (a b : Int32) : Nat := (mFaceOf A a b (3 * fc)).toNatClampNeg
def pFlO (A : Nat → Int32) (fc : Nat) (a b : Int32) : Nat := (mOpp A fc a b).toNatClampNeg
def pFlp (A : Nat → Int32) (fc : Nat) (a b : Int32) : Nat → Int32 := nPutN (nPutN A (pFlF A fc a b) a.toNatClampNeg (pFlO A fc b a) (pFlO A fc a b)) (pFlF A fc b a) (pFlO A fc b a) b.toNatClampNeg (pFlO A fc a b)
def pPair (u v : Nat) : Nat := 100 * (if u < v then u else v) + (if u < v then v else u)
def c_flip (m : pSt) (x1 x2 : Int32) : pRI := if mIn x1 m.cc ∧ mIn x2 m.cc then (if mCanFlip m.fa m.fc x1 x2 then (0, nI (pPair (pFlO m.fa m.fc x1 x2) (pFlO m.fa m.fc x2 x1)), (pMk m.cc m.fc m.nd m.ng m.nm m.nc m.nw (pFlp m.fa m.fc x1 x2) m.dx m.dy m.dr m.fo m.ro m.mv m.pr m.ea m.eb)) else (3, 0, m)) else (1, 0, m)
def c_corner (m : pSt) (x1 x2 : Int32) : pRI := if mIn x1 m.fc ∧ mRg x2 (0) 2 then (0, m.fa (3 * x1.toNatClampNeg + x2.toNatClampNeg), m) else (1, 0, m)
def c_around (m : pSt) (x1 x2 : Int32) : pRI := if mIn x1 m.cc ∧ ¬ x2 < 0 then (if x2.toNatClampNeg < mDeg m.fa m.fc x1 m.cc then (0, mWalk m.fa m.fc x1 (pLow m.fa m.fc x1 m.cc 0) x2.toNatClampNeg, m) else (0, -1, m)) else (1, 0, m)
def c_net (m : pSt) (x1 : Int32) : pRI := if mRg x1 (0) 4 then (0, nI (mNet m.fa m.fc m.cc x1.toNatClampNeg), m) else (1, 0, m)
theorem cop_split {l : Launch} (hst : l.stackTraces = false) {G : kG} {B0 h : Nat} {f : kH} {o : Nat → Nat} {c : cSt} {m : pSt} (hI : Inv2 G h f o c m) (x1 : Int32) : cI l G B0 h f yX8_split wsX8_split [.int x1] (c_split m x1) := by
  have hN : cNet G (kR o 1 f) c m := hI 1
  obtain ⟨nA, tA, cc, fc, T, h1, e0, e1, N, th, fo, hs, hA, hT⟩ := hN
  have hc4 : 4 ≤ cc := hs.1
  have hc16 : cc ≤ 16 := hs.2.1
  have hfc : fc + 4 = 2 * cc := hs.2.2.1
  have hfc28 : fc ≤ 28 := by omega
  have hW : kCs f [(h, .inr (8, [.ref c.sp, .ref c.dl, .ref c.gl, .ref c.rw, .ref c.ml, .ref c.pp, .ref c.nn])), (c.sp, .inr (3, [.ref nA, .ref tA, .int (nI cc), .int (nI fc)])), (nA, kaI G 84 m.fa), (tA, kaI G 256 T)] := kCs_app (show kCs (kR o 0 f) (cHd h c) from hI 0) h1 (by decide)
  unfold c_split
  rw [e0, e1]
  by_cases hv : mIn x1 fc
  · rw [if_pos hv]
    by_cases h16 : 16 ≤ cc
    · rw [if_pos h16]
      exact cI_no 3 ⟨by omega, by omega⟩ ⟨rfl, rfl, Nat.le_of_ble_eq_true rfl, Nat.le_of_ble_eq_true rfl, Nat.le_of_ble_eq_true rfl, Nat.le_of_ble_eq_true rfl⟩ (kX8_split_b2 l hst G B0 f h c.sp nA tA (.ref c.dl) (.ref c.gl) (.ref c.rw) (.ref c.ml) (.ref c.pp) (.ref c.nn) m.fa T cc fc x1 hW hc16 hfc28 hv h16) hI.same
    · rw [if_neg h16]
      obtain ⟨t, ht, rfl⟩ := mIn_ex (by omega) hv
      obtain ⟨b1, b2, b3, eA, hI1⟩ := split_m hs hA hT ht (by omega)
      have k0 : (nI t).toNatClampNeg = t := nI_clamp (by omega)
      have k1 : (m.fa (3 * t)).toNatClampNeg = N (3 * t) := by rw [hA _ (by omega)]; exact nI_clamp (by omega)
      have k2 : (m.fa (3 * t + 1)).toNatClampNeg = N (3 * t + 1) := by rw [hA _ (by omega)]; exact nI_clamp (by omega)
      have k3 : (m.fa (3 * t + 2)).toNatClampNeg = N (3 * t + 2) := by rw [hA _ (by omega)]; exact nI_clamp (by omega)
      rw [show pSpl m.fa cc fc (nI t).toNatClampNeg = nPutN (nPutN (nPutN m.fa t (N (3 * t)) (N (3 * t + 1)) cc) fc (N (3 * t + 1)) (N (3 * t + 2)) cc) (fc + 1) (N (3 * t + 2)) (N (3 * t)) cc by rw [k0, pSpl, k1, k2, k3]]
      refine cI_ok ⟨rfl, rfl, Nat.le_of_ble_eq_true rfl, Nat.le_of_ble_eq_true rfl, Nat.le_of_ble_eq_true rfl, Nat.le_of_ble_eq_true rfl⟩ (kX8_split l G B0 f h c.sp nA tA (.ref c.dl) (.ref c.gl) (.ref c.rw) (.ref c.ml) (.ref c.pp) (.ref c.nn) m.fa T cc fc t (N (3 * t)) (N (3 * t + 1)) (N (3 * t + 2)) hW hc16 hfc28 ht (by omega) (by omega) (hA _ (by omega)) (hA _ (by omega)) (hA _ (by omega)) (by omega) (by omega) (by omega)) (fun r f1 hp => ?_)
      obtain ⟨hr, h4, hK⟩ := hp
      refine ⟨hr, oN o 1 f, c, ?_⟩
      have hm1 := kCs_mem h1
      simp only [nW, List.mem_cons, List.not_mem_nil, or_false] at hm1
      have o1 : o c.sp = 1 := (hm1 _ (Or.inl rfl)).1
      have o2 : o nA = 1 := (hm1 _ (Or.inr (Or.inl rfl))).1
      have o3 : o tA = 1 := (hm1 _ (Or.inr (Or.inr rfl))).1
      refine hI.step 1 hK (fun a ha => ?_) ?_ (fun j g hj hP => ?_)
      · simp only [List.mem_cons, List.not_mem_nil, or_false] at ha
        rcases ha with rfl | rfl | rfl
        · exact o1
        · exact o2
        · exact o3
      · refine ⟨nA, tA, cc + 1, fc + 2, _, ?_, rfl, rfl, hI1⟩
        have h5 := h4.tail
        refine kCs_own h5 (fun q hq => ?_)
        simp only [nW, List.mem_cons, List.not_mem_nil, or_false] at hq
        rcases hq with rfl | rfl | rfl
        · exact .inl o1
        · exact .inl o2
        · exact .inl o3
      · unfold cPt at hP ⊢
        split
        case h_2 => exact absurd rfl hj
        all_goals first | exact hP | trivial
  · rw [if_neg hv]
    exact cI_no 1 ⟨by omega, by omega⟩ ⟨rfl, rfl, Nat.le_of_ble_eq_true rfl, Nat.le_of_ble_eq_true rfl, Nat.le_of_ble_eq_true rfl, Nat.le_of_ble_eq_true rfl⟩ (kX8_split_b1 l hst G B0 f h c.sp nA tA (.ref c.dl) (.ref c.gl) (.ref c.rw) (.ref c.ml) (.ref c.pp) (.ref c.nn) m.fa T cc fc x1 hW hc16 hfc28 hv) hI.same
theorem cop_flip {l : Launch} (hst : l.stackTraces = false) {G : kG} {B0 h : Nat} {f : kH} {o : Nat → Nat} {c : cSt} {m : pSt} (hI : Inv2 G h f o c m) (x1 x2 : Int32) : cI l G B0 h f yX8_flip wsX8_flip [.int x1, .int x2] (c_flip m x1 x2) := by
  have hN : cNet G (kR o 1 f) c m := hI 1
  obtain ⟨nA, tA, cc, fc, T, h1, e0, e1, N, th, fo, hs, hA, hT⟩ := hN
  have hc4 : 4 ≤ cc := hs.1
  have hc16 : cc ≤ 16 := hs.2.1
  have hfc : fc + 4 = 2 * cc := hs.2.2.1
  have hfc28 : fc ≤ 28 := by omega
  have hW : kCs f [(h, .inr (8, [.ref c.sp, .ref c.dl, .ref c.gl, .ref c.rw, .ref c.ml, .ref c.pp, .ref c.nn])), (c.sp, .inr (3, [.ref nA, .ref tA, .int (nI cc), .int (nI fc)])), (nA, kaI G 84 m.fa), (tA, kaI G 256 T)] := kCs_app (show kCs (kR o 0 f) (cHd h c) from hI 0) h1 (by decide)
  unfold c_flip
  rw [e0, e1]
  by_cases hv : mIn x1 cc ∧ mIn x2 cc
  · rw [if_pos hv]
    obtain ⟨x, hx, rfl⟩ := mIn_ex (by omega) hv.1
    obtain ⟨y, hy, rfl⟩ := mIn_ex (by omega) hv.2
    obtain ⟨q1, q2⟩ := flip_th hs hA hT hx hy
    by_cases hf : ∃ u v, th x y = some u ∧ th y x = some v ∧ th u v = none
    · have hc1 := q1.mpr hf
      have hc2 := q2.mpr hf
      rw [if_pos hc2]
      obtain ⟨u, v, z1, z2, z3⟩ := hf
      obtain ⟨d1, d2, d3, d4, d5, d6, d7, d8, d9, d10, huv, hu, hv9, eA, hI1⟩ := flip_m hs hA hT z1 z2 z3
      have k1 : pFlF m.fa fc (nI x) (nI y) = fo x y := by rw [pFlF, d7]; exact nI_clamp (by omega)
      have k2 : pFlF m.fa fc (nI y) (nI x) = fo y x := by rw [pFlF, d8]; exact nI_clamp (by omega)
      have k3 : pFlO m.fa fc (nI x) (nI y) = u := by rw [pFlO, d9]; exact nI_clamp (by omega)
      have k4 : pFlO m.fa fc (nI y) (nI x) = v := by rw [pFlO, d10]; exact nI_clamp (by omega)
      have k5 : (nI x).toNatClampNeg = x := nI_clamp (by omega)
      have k6 : (nI y).toNatClampNeg = y := nI_clamp (by omega)
      rw [show pFlp m.fa fc (nI x) (nI y) = nPutN (nPutN m.fa (fo x y) x v u) (fo y x) v y u by rw [pFlp, k1, k2, k3, k4, k5, k6], k3, k4]
      refine cI_ok ⟨rfl, rfl, Nat.le_of_ble_eq_true rfl, Nat.le_of_ble_eq_true rfl, Nat.le_of_ble_eq_true rfl, Nat.le_of_ble_eq_true rfl⟩ (kX8_flip l G B0 f h c.sp nA tA (.ref c.dl) (.ref c.gl) (.ref c.rw) (.ref c.ml) (.ref c.pp) (.ref c.nn) m.fa T cc fc x y u v (fo x y) (fo y x) hW hc16 hfc28 hx hy hc1 (by omega) (by omega) (by omega) (by omega) d3 d4 d1 d2 d5 d6) (fun r f1 hp => ?_)
      obtain ⟨hr, h4, hK⟩ := hp
      refine ⟨hr, oN o 1 f, c, ?_⟩
      have hm1 := kCs_mem h1
      simp only [nW, List.mem_cons, List.not_mem_nil, or_false] at hm1
      have o1 : o c.sp = 1 := (hm1 _ (Or.inl rfl)).1
      have o2 : o nA = 1 := (hm1 _ (Or.inr (Or.inl rfl))).1
      have o3 : o tA = 1 := (hm1 _ (Or.inr (Or.inr rfl))).1
      refine hI.step 1 hK (fun a ha => ?_) ?_ (fun j g hj hP => ?_)
      · simp only [List.mem_cons, List.not_mem_nil, or_false] at ha
        rcases ha with rfl | rfl | rfl
        · exact o1
        · exact o2
        · exact o3
      · refine ⟨nA, tA, cc, fc, _, ?_, rfl, rfl, hI1⟩
        have h5 := h4.tail
        refine kCs_own h5 (fun q hq => ?_)
        simp only [nW, List.mem_cons, List.not_mem_nil, or_false] at hq
        rcases hq with rfl | rfl | rfl
        · exact .inl o1
        · exact .inl o2
        · exact .inl o3
      · unfold cPt at hP ⊢
        split
        case h_2 => exact absurd rfl hj
        all_goals first | exact hP | trivial
    · have hc1 : ¬ nCanFlip T cc (nI x) (nI y) := fun z => hf (q1.mp z)
      have hc2 : ¬ mCanFlip m.fa fc (nI x) (nI y) := fun z => hf (q2.mp z)
      rw [if_neg hc2]
      exact cI_no 3 ⟨by omega, by omega⟩ ⟨rfl, rfl, Nat.le_of_ble_eq_true rfl, Nat.le_of_ble_eq_true rfl, Nat.le_of_ble_eq_true rfl, Nat.le_of_ble_eq_true rfl⟩ (kX8_flip_b2 l hst G B0 f h c.sp nA tA (.ref c.dl) (.ref c.gl) (.ref c.rw) (.ref c.ml) (.ref c.pp) (.ref c.nn) m.fa T cc fc (nI x) (nI y) hW hc16 hfc28 hv hc1) hI.same
  · rw [if_neg hv]
    exact cI_no 1 ⟨by omega, by omega⟩ ⟨rfl, rfl, Nat.le_of_ble_eq_true rfl, Nat.le_of_ble_eq_true rfl, Nat.le_of_ble_eq_true rfl, Nat.le_of_ble_eq_true rfl⟩ (kX8_flip_b1 l hst G B0 f h c.sp nA tA (.ref c.dl) (.ref c.gl) (.ref c.rw) (.ref c.ml) (.ref c.pp) (.ref c.nn) m.fa T cc fc x1 x2 hW hc16 hfc28 hv) hI.same
theorem cop_corner {l : Launch} (hst : l.stackTraces = false) {G : kG} {B0 h : Nat} {f : kH} {o : Nat → Nat} {c : cSt} {m : pSt} (hI : Inv2 G h f o c m) (x1 x2 : Int32) : cI l G B0 h f yX8_corner wsX8_corner [.int x1, .int x2] (c_corner m x1 x2) := by
  have hN : cNet G (kR o 1 f) c m := hI 1
  obtain ⟨nA, tA, cc, fc, T, h1, e0, e1, N, th, fo, hs, hA, hT⟩ := hN
  have hc4 : 4 ≤ cc := hs.1
  have hc16 : cc ≤ 16 := hs.2.1
  have hfc : fc + 4 = 2 * cc := hs.2.2.1
  have hfc28 : fc ≤ 28 := by omega
  have hW : kCs f [(h, .inr (8, [.ref c.sp, .ref c.dl, .ref c.gl, .ref c.rw, .ref c.ml, .ref c.pp, .ref c.nn])), (c.sp, .inr (3, [.ref nA, .ref tA, .int (nI cc), .int (nI fc)])), (nA, kaI G 84 m.fa), (tA, kaI G 256 T)] := kCs_app (show kCs (kR o 0 f) (cHd h c) from hI 0) h1 (by decide)
  unfold c_corner
  rw [e1]
  by_cases hv : mIn x1 fc ∧ mRg x2 (0) 2
  · rw [if_pos hv]
    obtain ⟨t, ht, rfl⟩ := mIn_ex (by omega) hv.1
    obtain ⟨k, hk, rfl⟩ := mRg_ex (n := 2) (by omega) hv.2
    rw [nI_clamp (show t < 2 ^ 31 by omega), nI_clamp (show k < 2 ^ 31 by omega)]
    exact cI_ok ⟨rfl, rfl, Nat.le_of_ble_eq_true rfl, Nat.le_of_ble_eq_true rfl, Nat.le_of_ble_eq_true rfl, Nat.le_of_ble_eq_true rfl⟩ (kX8_corner l G B0 f h c.sp nA tA (.ref c.dl) (.ref c.gl) (.ref c.rw) (.ref c.ml) (.ref c.pp) (.ref c.nn) m.fa T cc fc t k hW hc16 hfc28 ht (by omega)) (fun r f1 hp => ⟨hp.1, hI.same _ hp.2⟩)
  · rw [if_neg hv]
    exact cI_no 1 ⟨by omega, by omega⟩ ⟨rfl, rfl, Nat.le_of_ble_eq_true rfl, Nat.le_of_ble_eq_true rfl, Nat.le_of_ble_eq_true rfl, Nat.le_of_ble_eq_true rfl⟩ (kX8_corner_b1 l hst G B0 f h c.sp nA tA (.ref c.dl) (.ref c.gl) (.ref c.rw) (.ref c.ml) (.ref c.pp) (.ref c.nn) m.fa T cc fc x1 x2 hW hc16 hfc28 hv) hI.same
theorem cop_around {l : Launch} (hst : l.stackTraces = false) {G : kG} {B0 h : Nat} {f : kH} {o : Nat → Nat} {c : cSt} {m : pSt} (hI : Inv2 G h f o c m) (x1 x2 : Int32) : cI l G B0 h f yX8_around wsX8_around [.int x1, .int x2] (c_around m x1 x2) := by
  have hN : cNet G (kR o 1 f) c m := hI 1
  obtain ⟨nA, tA, cc, fc, T, h1, e0, e1, N, th, fo, hs, hA, hT⟩ := hN
  have hc4 : 4 ≤ cc := hs.1
  have hc16 : cc ≤ 16 := hs.2.1
  have hfc : fc + 4 = 2 * cc := hs.2.2.1
  have hfc28 : fc ≤ 28 := by omega
  have hW : kCs f [(h, .inr (8, [.ref c.sp, .ref c.dl, .ref c.gl, .ref c.rw, .ref c.ml, .ref c.pp, .ref c.nn])), (c.sp, .inr (3, [.ref nA, .ref tA, .int (nI cc), .int (nI fc)])), (nA, kaI G 84 m.fa), (tA, kaI G 256 T)] := kCs_app (show kCs (kR o 0 f) (cHd h c) from hI 0) h1 (by decide)
  unfold c_around
  rw [e0, e1]
  by_cases hv : mIn x1 cc ∧ ¬ x2 < 0
  · rw [if_pos hv]
    obtain ⟨x, hx, rfl⟩ := mIn_ex (by omega) hv.1
    obtain ⟨b, hb, rfl⟩ := nn_ex hv.2
    obtain ⟨low, w1, w2, w3, w4, w5⟩ := around_m hs hA hT hx
    have hd16 : mDeg m.fa fc (nI x) cc ≤ cc := kCnt_le _ _
    rw [nI_clamp (show b < 2 ^ 31 by omega)]
    by_cases hd : b < mDeg m.fa fc (nI x) cc
    · rw [if_pos hd, pLow_at w3 w4 cc 0 (by omega) (by omega)]
      exact cI_ok ⟨rfl, rfl, Nat.le_of_ble_eq_true rfl, Nat.le_of_ble_eq_true rfl, Nat.le_of_ble_eq_true rfl, Nat.le_of_ble_eq_true rfl⟩ (kX8_around l G B0 f h c.sp nA tA (.ref c.dl) (.ref c.gl) (.ref c.rw) (.ref c.ml) (.ref c.pp) (.ref c.nn) m.fa T cc fc (nI x) b hW hc16 hfc28 hv.1 hb) (fun r f1 hp => ⟨hp.1.trans (by rw [nAro, if_neg (by omega), w2, w5 b, if_pos hd]), hI.same _ hp.2⟩)
    · rw [if_neg hd]
      exact cI_ok ⟨rfl, rfl, Nat.le_of_ble_eq_true rfl, Nat.le_of_ble_eq_true rfl, Nat.le_of_ble_eq_true rfl, Nat.le_of_ble_eq_true rfl⟩ (kX8_around l G B0 f h c.sp nA tA (.ref c.dl) (.ref c.gl) (.ref c.rw) (.ref c.ml) (.ref c.pp) (.ref c.nn) m.fa T cc fc (nI x) b hW hc16 hfc28 hv.1 hb) (fun r f1 hp => ⟨hp.1.trans (by
        rw [nAro]
        split
        · rfl
        · rw [w2, w5 b, if_neg hd]), hI.same _ hp.2⟩)
  · rw [if_neg hv]
    exact cI_no 1 ⟨by omega, by omega⟩ ⟨rfl, rfl, Nat.le_of_ble_eq_true rfl, Nat.le_of_ble_eq_true rfl, Nat.le_of_ble_eq_true rfl, Nat.le_of_ble_eq_true rfl⟩ (kX8_around_b1 l hst G B0 f h c.sp nA tA (.ref c.dl) (.ref c.gl) (.ref c.rw) (.ref c.ml) (.ref c.pp) (.ref c.nn) m.fa T cc fc x1 x2 hW hc16 hfc28 hv) hI.same
theorem cop_net {l : Launch} (hst : l.stackTraces = false) {G : kG} {B0 h : Nat} {f : kH} {o : Nat → Nat} {c : cSt} {m : pSt} (hI : Inv2 G h f o c m) (x1 : Int32) : cI l G B0 h f yX8_net wsX8_net [.int x1] (c_net m x1) := by
  have hN : cNet G (kR o 1 f) c m := hI 1
  obtain ⟨nA, tA, cc, fc, T, h1, e0, e1, N, th, fo, hs, hA, hT⟩ := hN
  have hc4 : 4 ≤ cc := hs.1
  have hc16 : cc ≤ 16 := hs.2.1
  have hfc : fc + 4 = 2 * cc := hs.2.2.1
  have hfc28 : fc ≤ 28 := by omega
  have hW : kCs f [(h, .inr (8, [.ref c.sp, .ref c.dl, .ref c.gl, .ref c.rw, .ref c.ml, .ref c.pp, .ref c.nn])), (c.sp, .inr (3, [.ref nA, .ref tA, .int (nI cc), .int (nI fc)])), (nA, kaI G 84 m.fa), (tA, kaI G 256 T)] := kCs_app (show kCs (kR o 0 f) (cHd h c) from hI 0) h1 (by decide)
  unfold c_net
  rw [e0, e1]
  by_cases hv : mRg x1 (0) 4
  · rw [if_pos hv]
    obtain ⟨w, hw, rfl⟩ := mRg_ex (n := 4) (by omega) hv
    rw [nI_clamp (show w < 2 ^ 31 by omega)]
    have hcs : w = 0 ∨ w = 1 ∨ w = 2 ∨ w = 3 ∨ w = 4 := by omega
    rcases hcs with rfl | rfl | rfl | rfl | rfl
    · have hr9 : mNet m.fa fc cc 0 = cc := rfl
      rw [hr9]
      exact cI_ok ⟨rfl, rfl, Nat.le_of_ble_eq_true rfl, Nat.le_of_ble_eq_true rfl, Nat.le_of_ble_eq_true rfl, Nat.le_of_ble_eq_true rfl⟩ (kX8_net_0 l G B0 f h c.sp nA tA (.ref c.dl) (.ref c.gl) (.ref c.rw) (.ref c.ml) (.ref c.pp) (.ref c.nn) m.fa T cc fc hW hc16 hfc28 hc4) (fun r f1 hp => ⟨hp.1, hI.same _ hp.2⟩)
    · have hr9 : mNet m.fa fc cc 1 = 3 * fc / 2 := by show 3 * cc - 6 = 3 * fc / 2; omega
      rw [hr9]
      exact cI_ok ⟨rfl, rfl, Nat.le_of_ble_eq_true rfl, Nat.le_of_ble_eq_true rfl, Nat.le_of_ble_eq_true rfl, Nat.le_of_ble_eq_true rfl⟩ (kX8_net_1 l G B0 f h c.sp nA tA (.ref c.dl) (.ref c.gl) (.ref c.rw) (.ref c.ml) (.ref c.pp) (.ref c.nn) m.fa T cc fc hW hc16 hfc28 hc4) (fun r f1 hp => ⟨hp.1, hI.same _ hp.2⟩)
    · have hr9 : mNet m.fa fc cc 2 = fc := rfl
      rw [hr9]
      exact cI_ok ⟨rfl, rfl, Nat.le_of_ble_eq_true rfl, Nat.le_of_ble_eq_true rfl, Nat.le_of_ble_eq_true rfl, Nat.le_of_ble_eq_true rfl⟩ (kX8_net_2 l G B0 f h c.sp nA tA (.ref c.dl) (.ref c.gl) (.ref c.rw) (.ref c.ml) (.ref c.pp) (.ref c.nn) m.fa T cc fc hW hc16 hfc28 hc4) (fun r f1 hp => ⟨hp.1, hI.same _ hp.2⟩)
    · have hr9 : mNet m.fa fc cc 3 = kCnt2 (fun x9 y9 => nCanFlip T cc (nI y9) (nI x9)) cc := (flips_m hs hA hT).symm
      rw [hr9]
      exact cI_ok ⟨rfl, rfl, Nat.le_of_ble_eq_true rfl, Nat.le_of_ble_eq_true rfl, Nat.le_of_ble_eq_true rfl, Nat.le_of_ble_eq_true rfl⟩ (kX8_net_3 l G B0 f h c.sp nA tA (.ref c.dl) (.ref c.gl) (.ref c.rw) (.ref c.ml) (.ref c.pp) (.ref c.nn) m.fa T cc fc hW hc16 hfc28 hc4) (fun r f1 hp => ⟨hp.1, hI.same _ hp.2⟩)
    · have hr9 : mNet m.fa fc cc 4 = nMost m.fa fc cc := (nMost_m hs hA cc (Nat.le_refl cc)).symm
      rw [hr9]
      exact cI_ok ⟨rfl, rfl, Nat.le_of_ble_eq_true rfl, Nat.le_of_ble_eq_true rfl, Nat.le_of_ble_eq_true rfl, Nat.le_of_ble_eq_true rfl⟩ (kX8_net_4 l G B0 f h c.sp nA tA (.ref c.dl) (.ref c.gl) (.ref c.rw) (.ref c.ml) (.ref c.pp) (.ref c.nn) m.fa T cc fc hW hc16 hfc28 hc4) (fun r f1 hp => ⟨hp.1, hI.same _ hp.2⟩)
  · rw [if_neg hv]
    exact cI_no 1 ⟨by omega, by omega⟩ ⟨rfl, rfl, Nat.le_of_ble_eq_true rfl, Nat.le_of_ble_eq_true rfl, Nat.le_of_ble_eq_true rfl, Nat.le_of_ble_eq_true rfl⟩ (kX8_net_b1 l hst G B0 f h c.sp nA tA (.ref c.dl) (.ref c.gl) (.ref c.rw) (.ref c.ml) (.ref c.pp) (.ref c.nn) m.fa T cc fc x1 hW hc16 hfc28 hv) hI.same
