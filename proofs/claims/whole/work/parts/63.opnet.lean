/-! the calls on the net -/
theorem kCs.tail {f : kH} {x : Nat × va_E} {ws : va_W} (h : kCs f (x :: ws)) : kCs f ws := ⟨fun q hq => h.1 q (List.mem_cons_of_mem _ hq), (List.nodup_cons.mp h.2).2⟩
theorem mAdj_syI {cc fc : Nat} {A : Nat → Int32} {N : Nat → Nat} {th : nTh} {fo : Nat → Nat → Nat} (hs : nSt cc fc N th fo) (hA : nNam A N fc) (x y : Int32) (h : mAdj A fc x y) : mAdj A fc y x := by
  obtain ⟨s, h1, h2, h3⟩ := mFaceOf_some _ h
  have hx := hs.2.2.2.1 _ h1
  have hy := hs.2.2.2.1 _ (mNx_lt h1)
  rw [hA _ h1] at h2
  rw [hA _ (mNx_lt h1)] at h3
  subst h2; subst h3
  exact mAdj_sy hs hA hx hy h
theorem mRg_ex {x : Int32} {n : Nat} (hn : n < 2 ^ 31) (h : mRg x (0) n) : ∃ k, k ≤ n ∧ x = nI k := by
  obtain ⟨h1, h2⟩ := h
  exact ⟨x.toInt.toNat, by omega, i32_of (by omega) (by omega)⟩
theorem nn_ex {x : Int32} (h : ¬ x < 0) : ∃ k, k < 2 ^ 31 ∧ x = nI k := by
  have h0 : 0 ≤ x.toInt := by
    have : ¬ x.toInt < 0 := fun q => h (i32_lt0.mpr q)
    omega
  have := Int32.toInt_lt x
  exact ⟨x.toInt.toNat, by omega, i32_of (by omega) (by omega)⟩
theorem flipV_n : ∀ u, u < 16 → ∀ v, v < 16 → mFlipV (nI u) (nI v) = nI (100 * (if u < v then u else v) + (if u < v then v else u)) := by decide
theorem op_split {l : Launch} (hst : l.stackTraces = false) {G : kG} {B0 h hm po pd : Nat} {f : kH} {o : Nat → Nat} {c : cSt} {m : mSt} (hI : Inv2 G h hm po pd f o c m m) (x1 : Int32) : opI l G B0 h hm po pd f yL_split wsL_split [.ref h, .int x1, .ref po] yX9_split wsX9_split [.ref hm, .int x1] := by
  have hN : cNet G (kR o 1 f) c m := hI 1
  obtain ⟨nA, tA, cc, fc, T, h1, e0, e1, N, th, fo, hs, hA, hT⟩ := hN
  have hc4 : 4 ≤ cc := hs.1
  have hc16 : cc ≤ 16 := hs.2.1
  have hfc : fc + 4 = 2 * cc := hs.2.2.1
  have hfc28 : fc ≤ 28 := by omega
  have hW : kCs f [(h, .inr (8, [.ref c.sp, .ref c.dl, .ref c.gl, .ref c.rw, .ref c.ml, .ref c.pp, .ref c.nn])), (c.sp, .inr (3, [.ref nA, .ref tA, .int (nI cc), .int (nI fc)])), (nA, kaI G 84 m.a2), (tA, kaI G 256 T)] := kCs_app (show kCs (kR o 0 f) (cHd h c) from hI 0) h1 (by decide)
  by_cases hv : mIn x1 fc
  · by_cases h16 : 16 ≤ cc
    · exact opI_thr (m2 := (mMk m.q m.i0 m.i1 m.i3 m.i7 m.i18 m.i22 m.i23 (nI 2) m.j16 m.j17 m.a2 m.a4 m.a5 m.a6 m.b8 m.b9 m.b10 m.a11 m.a12 m.a13 m.a14 m.b15 m.b19 m.b20 m.b21 m.a24 m.a25 m.a26)) hI 2 (by omega) (kL_split_s l G B0 f h po x1 hI.hd rfl rfl (kX8_split_b2 l hst G B0 f h c.sp nA tA (.ref c.dl) (.ref c.gl) (.ref c.rw) (.ref c.ml) (.ref c.pp) (.ref c.nn) m.a2 T cc fc x1 hW hc16 hfc28 hv h16)) (fun f2 h2 => by rw [show f2 = f from h2]; exact kKp.rf) ⟨rfl, rfl, Nat.le_of_ble_eq_true rfl, Nat.le_of_ble_eq_true rfl, Nat.le_of_ble_eq_true rfl, Nat.le_of_ble_eq_true rfl⟩ (fun f2 hM => kX9_split_b2 l G B0 f2 hm m.q m.i0 m.i1 m.i3 m.i7 m.i18 m.i22 m.i23 m.i27 m.j16 m.j17 m.a2 m.a4 m.a5 m.a6 m.b8 m.b9 m.b10 m.a11 m.a12 m.a13 m.a14 m.b15 m.b19 m.b20 m.b21 m.a24 m.a25 m.a26 x1 fc cc hM e1 hfc28 e0 hc16 hv (by omega)) ⟨rfl, rfl, Nat.le_of_ble_eq_true rfl, Nat.le_of_ble_eq_true rfl, Nat.le_of_ble_eq_true rfl, Nat.le_of_ble_eq_true rfl⟩ ⟨rfl, rfl, rfl, rfl, rfl, rfl, rfl, rfl, rfl, rfl, rfl, rfl, rfl, rfl, rfl, rfl⟩ rfl rfl
    · obtain ⟨t, ht, rfl⟩ := mIn_ex (by omega) hv
      obtain ⟨b1, b2, b3, eA, hI1⟩ := split_m hs hA hT ht (by omega)
      refine opI_ok (m1 := (mMk m.q (nI (cc + 1)) (nI (fc + 2)) m.i3 m.i7 m.i18 m.i22 m.i23 (nI 0) m.j16 m.j17 (nPutN (nPutN (nPutN m.a2 t (N (3 * t)) (N (3 * t + 1)) cc) fc (N (3 * t + 1)) (N (3 * t + 2)) cc) (fc + 1) (N (3 * t + 2)) (N (3 * t)) cc) m.a4 m.a5 m.a6 m.b8 m.b9 m.b10 m.a11 m.a12 m.a13 m.a14 m.b15 m.b19 m.b20 m.b21 m.a24 m.a25 m.a26)) (nI cc).toInt64 (kL_split_g l G B0 f h po (nI t) hI.hd rfl rfl (kX8_split l G B0 f h c.sp nA tA (.ref c.dl) (.ref c.gl) (.ref c.rw) (.ref c.ml) (.ref c.pp) (.ref c.nn) m.a2 T cc fc t (N (3 * t)) (N (3 * t + 1)) (N (3 * t + 2)) hW hc16 hfc28 ht (by omega) (by omega) (hA _ (by omega)) (hA _ (by omega)) (hA _ (by omega)) (by omega) (by omega) (by omega)) (fun r0 f1 hp => ?_)) (fun f2 hp => ?_) ⟨rfl, rfl, Nat.le_of_ble_eq_true rfl, Nat.le_of_ble_eq_true rfl, Nat.le_of_ble_eq_true rfl, Nat.le_of_ble_eq_true rfl⟩ (fun f2 hM => kX9_split l G B0 f2 hm m.q m.i0 m.i1 m.i3 m.i7 m.i18 m.i22 m.i23 m.i27 m.j16 m.j17 m.a2 m.a4 m.a5 m.a6 m.b8 m.b9 m.b10 m.a11 m.a12 m.a13 m.a14 m.b15 m.b19 m.b20 m.b21 m.a24 m.a25 m.a26 t fc cc hM e1 hfc28 e0 hc16 ht (by omega) (by omega)) ⟨rfl, rfl, Nat.le_of_ble_eq_true rfl, Nat.le_of_ble_eq_true rfl, Nat.le_of_ble_eq_true rfl, Nat.le_of_ble_eq_true rfl⟩ (fun f2 r f3 hp => ?_)
      · obtain ⟨_, _, hK⟩ := hp
        obtain ⟨g9, h9⟩ := hI 9
        have e9 := kCs_mem h9 _ List.mem_cons_self
        refine ⟨g9, hK po _ (fun q => ?_) e9.2⟩
        have hm9 := kCs_mem h1
        simp only [nW, List.mem_cons, List.not_mem_nil, or_false] at q hm9
        have e9' : o po = 9 := e9.1
        rcases q with rfl | rfl | rfl
        · have := (hm9 _ (Or.inl rfl)).1; dsimp only at this; omega
        · have := (hm9 _ (Or.inr (Or.inl rfl))).1; dsimp only at this; omega
        · have := (hm9 _ (Or.inr (Or.inr rfl))).1; dsimp only at this; omega
      · obtain ⟨r0, f1, g, ⟨hr, h4, hK⟩, hg, he⟩ := hp
        refine ⟨f1, g, oN o 1 f, c, ?_, hg, he.trans (by rw [hr])⟩
        have hm1 := kCs_mem h1
        simp only [nW, List.mem_cons, List.not_mem_nil, or_false] at hm1
        have o1 : o c.sp = 1 := (hm1 _ (Or.inl rfl)).1
        have o2 : o nA = 1 := (hm1 _ (Or.inr (Or.inl rfl))).1
        have o3 : o tA = 1 := (hm1 _ (Or.inr (Or.inr rfl))).1
        refine hI.step 1 hK (fun a ha => ?_) ?_ (fun j g hj hP => ?_)
        · simp only [List.mem_cons, List.not_mem_nil, or_false] at ha
          rcases ha with rfl | rfl | rfl
          · exact o1
          · exact o2
          · exact o3
        · refine ⟨nA, tA, cc + 1, fc + 2, _, ?_, rfl, rfl, hI1⟩
          have h5 := h4.tail
          refine kCs_own h5 (fun q hq => ?_)
          simp only [nW, List.mem_cons, List.not_mem_nil, or_false] at hq
          rcases hq with rfl | rfl | rfl
          · exact .inl o1
          · exact .inl o2
          · exact .inl o3
        · unfold cPt at hP ⊢
          split
          case h_2 => exact absurd rfl hj
          all_goals first | exact hP | trivial
      · obtain ⟨hr, h4, h5⟩ := hp
        rw [eA] at h4
        exact ⟨by rw [hr], (mMk m.q (nI (cc + 1)) (nI (fc + 2)) m.i3 m.i7 m.i18 m.i22 m.i23 (nI 0) m.j16 m.j17 (nPutN (nPutN (nPutN m.a2 t (N (3 * t)) (N (3 * t + 1)) cc) fc (N (3 * t + 1)) (N (3 * t + 2)) cc) (fc + 1) (N (3 * t + 2)) (N (3 * t)) cc) m.a4 m.a5 m.a6 m.b8 m.b9 m.b10 m.a11 m.a12 m.a13 m.a14 m.b15 m.b19 m.b20 m.b21 m.a24 m.a25 m.a26), ⟨rfl, rfl, rfl, rfl, rfl, rfl, rfl, rfl, rfl, rfl, rfl, rfl, rfl, rfl, rfl, rfl⟩, rfl, rfl, h4, h5⟩
  · exact opI_thr (m2 := (mMk m.q m.i0 m.i1 m.i3 m.i7 m.i18 m.i22 m.i23 (nI 1) m.j16 m.j17 m.a2 m.a4 m.a5 m.a6 m.b8 m.b9 m.b10 m.a11 m.a12 m.a13 m.a14 m.b15 m.b19 m.b20 m.b21 m.a24 m.a25 m.a26)) hI 1 (by omega) (kL_split_o l G B0 f h po x1 hI.hd rfl rfl (kX8_split_b1 l hst G B0 f h c.sp nA tA (.ref c.dl) (.ref c.gl) (.ref c.rw) (.ref c.ml) (.ref c.pp) (.ref c.nn) m.a2 T cc fc x1 hW hc16 hfc28 hv)) (fun f2 h2 => by rw [show f2 = f from h2]; exact kKp.rf) ⟨rfl, rfl, Nat.le_of_ble_eq_true rfl, Nat.le_of_ble_eq_true rfl, Nat.le_of_ble_eq_true rfl, Nat.le_of_ble_eq_true rfl⟩ (fun f2 hM => kX9_split_b1 l G B0 f2 hm m.q m.i0 m.i1 m.i3 m.i7 m.i18 m.i22 m.i23 m.i27 m.j16 m.j17 m.a2 m.a4 m.a5 m.a6 m.b8 m.b9 m.b10 m.a11 m.a12 m.a13 m.a14 m.b15 m.b19 m.b20 m.b21 m.a24 m.a25 m.a26 x1 fc cc hM e1 hfc28 e0 hc16 hv) ⟨rfl, rfl, Nat.le_of_ble_eq_true rfl, Nat.le_of_ble_eq_true rfl, Nat.le_of_ble_eq_true rfl, Nat.le_of_ble_eq_true rfl⟩ ⟨rfl, rfl, rfl, rfl, rfl, rfl, rfl, rfl, rfl, rfl, rfl, rfl, rfl, rfl, rfl, rfl⟩ rfl rfl
theorem op_corner {l : Launch} (hst : l.stackTraces = false) {G : kG} {B0 h hm po pd : Nat} {f : kH} {o : Nat → Nat} {c : cSt} {m : mSt} (hI : Inv2 G h hm po pd f o c m m) (x1 x2 : Int32) : opI l G B0 h hm po pd f yL_corner wsL_corner [.ref h, .int x1, .int x2, .ref po] yX9_corner wsX9_corner [.ref hm, .int x1, .int x2] := by
  have hN : cNet G (kR o 1 f) c m := hI 1
  obtain ⟨nA, tA, cc, fc, T, h1, e0, e1, N, th, fo, hs, hA, hT⟩ := hN
  have hc4 : 4 ≤ cc := hs.1
  have hc16 : cc ≤ 16 := hs.2.1
  have hfc : fc + 4 = 2 * cc := hs.2.2.1
  have hfc28 : fc ≤ 28 := by omega
  have hW : kCs f [(h, .inr (8, [.ref c.sp, .ref c.dl, .ref c.gl, .ref c.rw, .ref c.ml, .ref c.pp, .ref c.nn])), (c.sp, .inr (3, [.ref nA, .ref tA, .int (nI cc), .int (nI fc)])), (nA, kaI G 84 m.a2), (tA, kaI G 256 T)] := kCs_app (show kCs (kR o 0 f) (cHd h c) from hI 0) h1 (by decide)
  by_cases hv : mIn x1 fc ∧ mRg x2 (0) 2
  · obtain ⟨t, ht, rfl⟩ := mIn_ex (by omega) hv.1
    obtain ⟨k, hk, rfl⟩ := mRg_ex (n := 2) (by omega) hv.2
    refine opI_ok (m1 := m) ((m.a2 (3 * t + k)).toInt64) (kL_corner_g l G B0 f h po (nI t) (nI k) hI.hd rfl rfl (kX8_corner l G B0 f h c.sp nA tA (.ref c.dl) (.ref c.gl) (.ref c.rw) (.ref c.ml) (.ref c.pp) (.ref c.nn) m.a2 T cc fc t k hW hc16 hfc28 ht (by omega)) (fun r0 f1 hp => by rw [hp.2]; exact hI.out)) (fun f2 hp => by obtain ⟨r0, f1, g, ⟨hr, hf⟩, hg, he⟩ := hp; rw [hf] at hg he; exact ⟨f, g, o, c, hI, hg, he.trans (by rw [hr])⟩) ⟨rfl, rfl, Nat.le_of_ble_eq_true rfl, Nat.le_of_ble_eq_true rfl, Nat.le_of_ble_eq_true rfl, Nat.le_of_ble_eq_true rfl⟩ (fun f2 hM => kX9_corner l G B0 f2 hm m.q m.i0 m.i1 m.i3 m.i7 m.i18 m.i22 m.i23 m.i27 m.j16 m.j17 m.a2 m.a4 m.a5 m.a6 m.b8 m.b9 m.b10 m.a11 m.a12 m.a13 m.a14 m.b15 m.b19 m.b20 m.b21 m.a24 m.a25 m.a26 t k fc hM e1 hfc28 ht (by omega)) ⟨rfl, rfl, Nat.le_of_ble_eq_true rfl, Nat.le_of_ble_eq_true rfl, Nat.le_of_ble_eq_true rfl, Nat.le_of_ble_eq_true rfl⟩ (fun f2 r f3 hp => ?_)
    exact ⟨by rw [hp.1], (mMk m.q m.i0 m.i1 m.i3 m.i7 m.i18 m.i22 m.i23 (nI 0) m.j16 m.j17 m.a2 m.a4 m.a5 m.a6 m.b8 m.b9 m.b10 m.a11 m.a12 m.a13 m.a14 m.b15 m.b19 m.b20 m.b21 m.a24 m.a25 m.a26), ⟨rfl, rfl, rfl, rfl, rfl, rfl, rfl, rfl, rfl, rfl, rfl, rfl, rfl, rfl, rfl, rfl⟩, rfl, rfl, hp.2.1, hp.2.2⟩
  · exact opI_thr (m2 := (mMk m.q m.i0 m.i1 m.i3 m.i7 m.i18 m.i22 m.i23 (nI 1) m.j16 m.j17 m.a2 m.a4 m.a5 m.a6 m.b8 m.b9 m.b10 m.a11 m.a12 m.a13 m.a14 m.b15 m.b19 m.b20 m.b21 m.a24 m.a25 m.a26)) hI 1 (by omega) (kL_corner_o l G B0 f h po x1 x2 hI.hd rfl rfl (kX8_corner_b1 l hst G B0 f h c.sp nA tA (.ref c.dl) (.ref c.gl) (.ref c.rw) (.ref c.ml) (.ref c.pp) (.ref c.nn) m.a2 T cc fc x1 x2 hW hc16 hfc28 hv)) (fun f2 h2 => by rw [show f2 = f from h2]; exact kKp.rf) ⟨rfl, rfl, Nat.le_of_ble_eq_true rfl, Nat.le_of_ble_eq_true rfl, Nat.le_of_ble_eq_true rfl, Nat.le_of_ble_eq_true rfl⟩ (fun f2 hM => kX9_corner_b1 l G B0 f2 hm m.q m.i0 m.i1 m.i3 m.i7 m.i18 m.i22 m.i23 m.i27 m.j16 m.j17 m.a2 m.a4 m.a5 m.a6 m.b8 m.b9 m.b10 m.a11 m.a12 m.a13 m.a14 m.b15 m.b19 m.b20 m.b21 m.a24 m.a25 m.a26 x1 x2 fc hM e1 hfc28 hv) ⟨rfl, rfl, Nat.le_of_ble_eq_true rfl, Nat.le_of_ble_eq_true rfl, Nat.le_of_ble_eq_true rfl, Nat.le_of_ble_eq_true rfl⟩ ⟨rfl, rfl, rfl, rfl, rfl, rfl, rfl, rfl, rfl, rfl, rfl, rfl, rfl, rfl, rfl, rfl⟩ rfl rfl
theorem op_around {l : Launch} (hst : l.stackTraces = false) {G : kG} {B0 h hm po pd : Nat} {f : kH} {o : Nat → Nat} {c : cSt} {m : mSt} (hI : Inv2 G h hm po pd f o c m m) (x1 x2 : Int32) : opI l G B0 h hm po pd f yL_around wsL_around [.ref h, .int x1, .int x2, .ref po] yX9_around wsX9_around [.ref hm, .int x1, .int x2] := by
  have hN : cNet G (kR o 1 f) c m := hI 1
  obtain ⟨nA, tA, cc, fc, T, h1, e0, e1, N, th, fo, hs, hA, hT⟩ := hN
  have hc4 : 4 ≤ cc := hs.1
  have hc16 : cc ≤ 16 := hs.2.1
  have hfc : fc + 4 = 2 * cc := hs.2.2.1
  have hfc28 : fc ≤ 28 := by omega
  have hW : kCs f [(h, .inr (8, [.ref c.sp, .ref c.dl, .ref c.gl, .ref c.rw, .ref c.ml, .ref c.pp, .ref c.nn])), (c.sp, .inr (3, [.ref nA, .ref tA, .int (nI cc), .int (nI fc)])), (nA, kaI G 84 m.a2), (tA, kaI G 256 T)] := kCs_app (show kCs (kR o 0 f) (cHd h c) from hI 0) h1 (by decide)
  by_cases hv : mIn x1 cc ∧ ¬ x2 < 0
  · obtain ⟨x, hx, rfl⟩ := mIn_ex (by omega) hv.1
    obtain ⟨b, hb, rfl⟩ := nn_ex hv.2
    obtain ⟨low, w1, w2, w3, w4, w5⟩ := around_m hs hA hT hx
    by_cases hd : b < mDeg m.a2 fc (nI x) cc
    · have hd16 : mDeg m.a2 fc (nI x) cc ≤ cc := kCnt_le _ _
      have hr9 : nAro T cc (nI x) b = mWalk m.a2 fc (nI x) (nI low) b := by rw [nAro, if_neg (by omega), w2, w5 b, if_pos hd]
      refine opI_ok (m1 := m) ((mWalk m.a2 fc (nI x) (nI low) b).toInt64) (kL_around_g l G B0 f h po (nI x) (nI b) hI.hd rfl rfl ((show Met l yX8_around wsX8_around rmX8_around _ (kQi G B0 (fun r f1 => r = mWalk m.a2 fc (nI x) (nI low) b ∧ f1 = f)) 0 0 (kAb B0) from hr9 ▸ kX8_around l G B0 f h c.sp nA tA (.ref c.dl) (.ref c.gl) (.ref c.rw) (.ref c.ml) (.ref c.pp) (.ref c.nn) m.a2 T cc fc (nI x) b hW hc16 hfc28 hv.1 hb)) (fun r0 f1 hp => by rw [hp.2]; exact hI.out)) (fun f2 hp => by obtain ⟨r0, f1, g, ⟨hr, hf⟩, hg, he⟩ := hp; rw [hf] at hg he; exact ⟨f, g, o, c, hI, hg, he.trans (by rw [hr])⟩) ⟨rfl, rfl, Nat.le_of_ble_eq_true rfl, Nat.le_of_ble_eq_true rfl, Nat.le_of_ble_eq_true rfl, Nat.le_of_ble_eq_true rfl⟩ (fun f2 hM => kX9_around l G B0 f2 hm m.q m.i0 m.i1 m.i3 m.i7 m.i18 m.i22 m.i23 m.i27 m.j16 m.j17 m.a2 m.a4 m.a5 m.a6 m.b8 m.b9 m.b10 m.a11 m.a12 m.a13 m.a14 m.b15 m.b19 m.b20 m.b21 m.a24 m.a25 m.a26 (nI x) b fc cc low hM e1 hfc28 e0 hc16 hv.1 hd w1 w3 w4 (fun z hz => mOpp_st hs hA hx z hz)) ⟨rfl, rfl, Nat.le_of_ble_eq_true rfl, Nat.le_of_ble_eq_true rfl, Nat.le_of_ble_eq_true rfl, Nat.le_of_ble_eq_true rfl⟩ (fun f2 r f3 hp => ?_)
      exact ⟨by rw [hp.1], (mMk m.q m.i0 m.i1 m.i3 m.i7 m.i18 m.i22 m.i23 (nI 0) m.j16 m.j17 m.a2 m.a4 m.a5 m.a6 m.b8 m.b9 m.b10 m.a11 m.a12 m.a13 m.a14 m.b15 m.b19 m.b20 m.b21 m.a24 m.a25 m.a26), ⟨rfl, rfl, rfl, rfl, rfl, rfl, rfl, rfl, rfl, rfl, rfl, rfl, rfl, rfl, rfl, rfl⟩, rfl, rfl, hp.2.1, hp.2.2⟩
    · have hr9 : nAro T cc (nI x) b = -1 := by
        rw [nAro]
        split
        · rfl
        · rw [w2, w5 b, if_neg hd]
      have hdl : mDeg m.a2 fc (nI x) cc ≤ b := by omega
      have hdi : nI (mDeg m.a2 fc (nI x) cc) ≤ nI b := by
        rw [Int32.le_iff_toInt_le, nI_toInt hb, nI_toInt (by omega)]; omega
      refine opI_ok (m1 := m) ((-1 : Int32).toInt64) (kL_around_g l G B0 f h po (nI x) (nI b) hI.hd rfl rfl ((show Met l yX8_around wsX8_around rmX8_around _ (kQi G B0 (fun r f1 => r = -1 ∧ f1 = f)) 0 0 (kAb B0) from hr9 ▸ kX8_around l G B0 f h c.sp nA tA (.ref c.dl) (.ref c.gl) (.ref c.rw) (.ref c.ml) (.ref c.pp) (.ref c.nn) m.a2 T cc fc (nI x) b hW hc16 hfc28 hv.1 hb)) (fun r0 f1 hp => by rw [hp.2]; exact hI.out)) (fun f2 hp => by obtain ⟨r0, f1, g, ⟨hr, hf⟩, hg, he⟩ := hp; rw [hf] at hg he; exact ⟨f, g, o, c, hI, hg, he.trans (by rw [hr])⟩) ⟨rfl, rfl, Nat.le_of_ble_eq_true rfl, Nat.le_of_ble_eq_true rfl, Nat.le_of_ble_eq_true rfl, Nat.le_of_ble_eq_true rfl⟩ (fun f2 hM => kX9_around_no l G B0 f2 hm m.q m.i0 m.i1 m.i3 m.i7 m.i18 m.i22 m.i23 m.i27 m.j16 m.j17 m.a2 m.a4 m.a5 m.a6 m.b8 m.b9 m.b10 m.a11 m.a12 m.a13 m.a14 m.b15 m.b19 m.b20 m.b21 m.a24 m.a25 m.a26 (nI x) (nI b) fc cc hM e1 hfc28 e0 hc16 hv hdi) ⟨rfl, rfl, Nat.le_of_ble_eq_true rfl, Nat.le_of_ble_eq_true rfl, Nat.le_of_ble_eq_true rfl, Nat.le_of_ble_eq_true rfl⟩ (fun f2 r f3 hp => ?_)
      exact ⟨by rw [hp.1], (mMk m.q m.i0 m.i1 m.i3 m.i7 m.i18 m.i22 m.i23 (nI 0) m.j16 m.j17 m.a2 m.a4 m.a5 m.a6 m.b8 m.b9 m.b10 m.a11 m.a12 m.a13 m.a14 m.b15 m.b19 m.b20 m.b21 m.a24 m.a25 m.a26), ⟨rfl, rfl, rfl, rfl, rfl, rfl, rfl, rfl, rfl, rfl, rfl, rfl, rfl, rfl, rfl, rfl⟩, rfl, rfl, hp.2.1, hp.2.2⟩
  · exact opI_thr (m2 := (mMk m.q m.i0 m.i1 m.i3 m.i7 m.i18 m.i22 m.i23 (nI 1) m.j16 m.j17 m.a2 m.a4 m.a5 m.a6 m.b8 m.b9 m.b10 m.a11 m.a12 m.a13 m.a14 m.b15 m.b19 m.b20 m.b21 m.a24 m.a25 m.a26)) hI 1 (by omega) (kL_around_o l G B0 f h po x1 x2 hI.hd rfl rfl (kX8_around_b1 l hst G B0 f h c.sp nA tA (.ref c.dl) (.ref c.gl) (.ref c.rw) (.ref c.ml) (.ref c.pp) (.ref c.nn) m.a2 T cc fc x1 x2 hW hc16 hfc28 hv)) (fun f2 h2 => by rw [show f2 = f from h2]; exact kKp.rf) ⟨rfl, rfl, Nat.le_of_ble_eq_true rfl, Nat.le_of_ble_eq_true rfl, Nat.le_of_ble_eq_true rfl, Nat.le_of_ble_eq_true rfl⟩ (fun f2 hM => kX9_around_b1 l G B0 f2 hm m.q m.i0 m.i1 m.i3 m.i7 m.i18 m.i22 m.i23 m.i27 m.j16 m.j17 m.a2 m.a4 m.a5 m.a6 m.b8 m.b9 m.b10 m.a11 m.a12 m.a13 m.a14 m.b15 m.b19 m.b20 m.b21 m.a24 m.a25 m.a26 x1 x2 fc cc hM e1 hfc28 e0 hc16 hv) ⟨rfl, rfl, Nat.le_of_ble_eq_true rfl, Nat.le_of_ble_eq_true rfl, Nat.le_of_ble_eq_true rfl, Nat.le_of_ble_eq_true rfl⟩ ⟨rfl, rfl, rfl, rfl, rfl, rfl, rfl, rfl, rfl, rfl, rfl, rfl, rfl, rfl, rfl, rfl⟩ rfl rfl
theorem op_net {l : Launch} (hst : l.stackTraces = false) {G : kG} {B0 h hm po pd : Nat} {f : kH} {o : Nat → Nat} {c : cSt} {m : mSt} (hI : Inv2 G h hm po pd f o c m m) (x1 : Int32) : opI l G B0 h hm po pd f yL_net wsL_net [.ref h, .int x1, .ref po] yX9_net wsX9_net [.ref hm, .int x1] := by
  have hN : cNet G (kR o 1 f) c m := hI 1
  obtain ⟨nA, tA, cc, fc, T, h1, e0, e1, N, th, fo, hs, hA, hT⟩ := hN
  have hc4 : 4 ≤ cc := hs.1
  have hc16 : cc ≤ 16 := hs.2.1
  have hfc : fc + 4 = 2 * cc := hs.2.2.1
  have hfc28 : fc ≤ 28 := by omega
  have hW : kCs f [(h, .inr (8, [.ref c.sp, .ref c.dl, .ref c.gl, .ref c.rw, .ref c.ml, .ref c.pp, .ref c.nn])), (c.sp, .inr (3, [.ref nA, .ref tA, .int (nI cc), .int (nI fc)])), (nA, kaI G 84 m.a2), (tA, kaI G 256 T)] := kCs_app (show kCs (kR o 0 f) (cHd h c) from hI 0) h1 (by decide)
  by_cases hv : mRg x1 (0) 4
  · obtain ⟨w, hw, rfl⟩ := mRg_ex (n := 4) (by omega) hv
    have hcs : w = 0 ∨ w = 1 ∨ w = 2 ∨ w = 3 ∨ w = 4 := by omega
    rcases hcs with rfl | rfl | rfl | rfl | rfl
    · have hr9 : mNet m.a2 fc cc 0 = cc := rfl
      refine opI_ok (m1 := m) ((nI (cc)).toInt64) (kL_net_g l G B0 f h po (nI 0) hI.hd rfl rfl (kX8_net_0 l G B0 f h c.sp nA tA (.ref c.dl) (.ref c.gl) (.ref c.rw) (.ref c.ml) (.ref c.pp) (.ref c.nn) m.a2 T cc fc hW hc16 hfc28 hc4) (fun r0 f1 hp => by rw [hp.2]; exact hI.out)) (fun f2 hp => by obtain ⟨r0, f1, g, ⟨hr, hf⟩, hg, he⟩ := hp; rw [hf] at hg he; exact ⟨f, g, o, c, hI, hg, he.trans (by rw [hr])⟩) ⟨rfl, rfl, Nat.le_of_ble_eq_true rfl, Nat.le_of_ble_eq_true rfl, Nat.le_of_ble_eq_true rfl, Nat.le_of_ble_eq_true rfl⟩ (fun f2 hM => kX9_net l G B0 f2 hm m.q m.i0 m.i1 m.i3 m.i7 m.i18 m.i22 m.i23 m.i27 m.j16 m.j17 m.a2 m.a4 m.a5 m.a6 m.b8 m.b9 m.b10 m.a11 m.a12 m.a13 m.a14 m.b15 m.b19 m.b20 m.b21 m.a24 m.a25 m.a26 0 fc cc hM e1 hfc28 e0 hc16 hc4 (by omega) (mAdj_syI hs hA)) ⟨rfl, rfl, Nat.le_of_ble_eq_true rfl, Nat.le_of_ble_eq_true rfl, Nat.le_of_ble_eq_true rfl, Nat.le_of_ble_eq_true rfl⟩ (fun f2 r f3 hp => ?_)
      exact ⟨by rw [hp.1, hr9], (mMk m.q m.i0 m.i1 m.i3 m.i7 m.i18 m.i22 m.i23 (nI 0) m.j16 m.j17 m.a2 m.a4 m.a5 m.a6 m.b8 m.b9 m.b10 m.a11 m.a12 m.a13 m.a14 m.b15 m.b19 m.b20 m.b21 m.a24 m.a25 m.a26), ⟨rfl, rfl, rfl, rfl, rfl, rfl, rfl, rfl, rfl, rfl, rfl, rfl, rfl, rfl, rfl, rfl⟩, rfl, rfl, hp.2.1, hp.2.2⟩
    · have hr9 : mNet m.a2 fc cc 1 = 3 * fc / 2 := by show 3 * cc - 6 = 3 * fc / 2; omega
      refine opI_ok (m1 := m) ((nI (3 * fc / 2)).toInt64) (kL_net_g l G B0 f h po (nI 1) hI.hd rfl rfl (kX8_net_1 l G B0 f h c.sp nA tA (.ref c.dl) (.ref c.gl) (.ref c.rw) (.ref c.ml) (.ref c.pp) (.ref c.nn) m.a2 T cc fc hW hc16 hfc28 hc4) (fun r0 f1 hp => by rw [hp.2]; exact hI.out)) (fun f2 hp => by obtain ⟨r0, f1, g, ⟨hr, hf⟩, hg, he⟩ := hp; rw [hf] at hg he; exact ⟨f, g, o, c, hI, hg, he.trans (by rw [hr])⟩) ⟨rfl, rfl, Nat.le_of_ble_eq_true rfl, Nat.le_of_ble_eq_true rfl, Nat.le_of_ble_eq_true rfl, Nat.le_of_ble_eq_true rfl⟩ (fun f2 hM => kX9_net l G B0 f2 hm m.q m.i0 m.i1 m.i3 m.i7 m.i18 m.i22 m.i23 m.i27 m.j16 m.j17 m.a2 m.a4 m.a5 m.a6 m.b8 m.b9 m.b10 m.a11 m.a12 m.a13 m.a14 m.b15 m.b19 m.b20 m.b21 m.a24 m.a25 m.a26 1 fc cc hM e1 hfc28 e0 hc16 hc4 (by omega) (mAdj_syI hs hA)) ⟨rfl, rfl, Nat.le_of_ble_eq_true rfl, Nat.le_of_ble_eq_true rfl, Nat.le_of_ble_eq_true rfl, Nat.le_of_ble_eq_true rfl⟩ (fun f2 r f3 hp => ?_)
      exact ⟨by rw [hp.1, hr9], (mMk m.q m.i0 m.i1 m.i3 m.i7 m.i18 m.i22 m.i23 (nI 0) m.j16 m.j17 m.a2 m.a4 m.a5 m.a6 m.b8 m.b9 m.b10 m.a11 m.a12 m.a13 m.a14 m.b15 m.b19 m.b20 m.b21 m.a24 m.a25 m.a26), ⟨rfl, rfl, rfl, rfl, rfl, rfl, rfl, rfl, rfl, rfl, rfl, rfl, rfl, rfl, rfl, rfl⟩, rfl, rfl, hp.2.1, hp.2.2⟩
    · have hr9 : mNet m.a2 fc cc 2 = fc := rfl
      refine opI_ok (m1 := m) ((nI (fc)).toInt64) (kL_net_g l G B0 f h po (nI 2) hI.hd rfl rfl (kX8_net_2 l G B0 f h c.sp nA tA (.ref c.dl) (.ref c.gl) (.ref c.rw) (.ref c.ml) (.ref c.pp) (.ref c.nn) m.a2 T cc fc hW hc16 hfc28 hc4) (fun r0 f1 hp => by rw [hp.2]; exact hI.out)) (fun f2 hp => by obtain ⟨r0, f1, g, ⟨hr, hf⟩, hg, he⟩ := hp; rw [hf] at hg he; exact ⟨f, g, o, c, hI, hg, he.trans (by rw [hr])⟩) ⟨rfl, rfl, Nat.le_of_ble_eq_true rfl, Nat.le_of_ble_eq_true rfl, Nat.le_of_ble_eq_true rfl, Nat.le_of_ble_eq_true rfl⟩ (fun f2 hM => kX9_net l G B0 f2 hm m.q m.i0 m.i1 m.i3 m.i7 m.i18 m.i22 m.i23 m.i27 m.j16 m.j17 m.a2 m.a4 m.a5 m.a6 m.b8 m.b9 m.b10 m.a11 m.a12 m.a13 m.a14 m.b15 m.b19 m.b20 m.b21 m.a24 m.a25 m.a26 2 fc cc hM e1 hfc28 e0 hc16 hc4 (by omega) (mAdj_syI hs hA)) ⟨rfl, rfl, Nat.le_of_ble_eq_true rfl, Nat.le_of_ble_eq_true rfl, Nat.le_of_ble_eq_true rfl, Nat.le_of_ble_eq_true rfl⟩ (fun f2 r f3 hp => ?_)
      exact ⟨by rw [hp.1, hr9], (mMk m.q m.i0 m.i1 m.i3 m.i7 m.i18 m.i22 m.i23 (nI 0) m.j16 m.j17 m.a2 m.a4 m.a5 m.a6 m.b8 m.b9 m.b10 m.a11 m.a12 m.a13 m.a14 m.b15 m.b19 m.b20 m.b21 m.a24 m.a25 m.a26), ⟨rfl, rfl, rfl, rfl, rfl, rfl, rfl, rfl, rfl, rfl, rfl, rfl, rfl, rfl, rfl, rfl⟩, rfl, rfl, hp.2.1, hp.2.2⟩
    · have hr9 : mNet m.a2 fc cc 3 = kCnt2 (fun x9 y9 => nCanFlip T cc (nI y9) (nI x9)) cc := (flips_m hs hA hT).symm
      refine opI_ok (m1 := m) ((nI (kCnt2 (fun x9 y9 => nCanFlip T cc (nI y9) (nI x9)) cc)).toInt64) (kL_net_g l G B0 f h po (nI 3) hI.hd rfl rfl (kX8_net_3 l G B0 f h c.sp nA tA (.ref c.dl) (.ref c.gl) (.ref c.rw) (.ref c.ml) (.ref c.pp) (.ref c.nn) m.a2 T cc fc hW hc16 hfc28 hc4) (fun r0 f1 hp => by rw [hp.2]; exact hI.out)) (fun f2 hp => by obtain ⟨r0, f1, g, ⟨hr, hf⟩, hg, he⟩ := hp; rw [hf] at hg he; exact ⟨f, g, o, c, hI, hg, he.trans (by rw [hr])⟩) ⟨rfl, rfl, Nat.le_of_ble_eq_true rfl, Nat.le_of_ble_eq_true rfl, Nat.le_of_ble_eq_true rfl, Nat.le_of_ble_eq_true rfl⟩ (fun f2 hM => kX9_net l G B0 f2 hm m.q m.i0 m.i1 m.i3 m.i7 m.i18 m.i22 m.i23 m.i27 m.j16 m.j17 m.a2 m.a4 m.a5 m.a6 m.b8 m.b9 m.b10 m.a11 m.a12 m.a13 m.a14 m.b15 m.b19 m.b20 m.b21 m.a24 m.a25 m.a26 3 fc cc hM e1 hfc28 e0 hc16 hc4 (by omega) (mAdj_syI hs hA)) ⟨rfl, rfl, Nat.le_of_ble_eq_true rfl, Nat.le_of_ble_eq_true rfl, Nat.le_of_ble_eq_true rfl, Nat.le_of_ble_eq_true rfl⟩ (fun f2 r f3 hp => ?_)
      exact ⟨by rw [hp.1, hr9], (mMk m.q m.i0 m.i1 m.i3 m.i7 m.i18 m.i22 m.i23 (nI 0) m.j16 m.j17 m.a2 m.a4 m.a5 m.a6 m.b8 m.b9 m.b10 m.a11 m.a12 m.a13 m.a14 m.b15 m.b19 m.b20 m.b21 m.a24 m.a25 m.a26), ⟨rfl, rfl, rfl, rfl, rfl, rfl, rfl, rfl, rfl, rfl, rfl, rfl, rfl, rfl, rfl, rfl⟩, rfl, rfl, hp.2.1, hp.2.2⟩
    · have hr9 : mNet m.a2 fc cc 4 = nMost m.a2 fc cc := (nMost_m hs hA cc (Nat.le_refl cc)).symm
      refine opI_ok (m1 := m) ((nI (nMost m.a2 fc cc)).toInt64) (kL_net_g l G B0 f h po (nI 4) hI.hd rfl rfl (kX8_net_4 l G B0 f h c.sp nA tA (.ref c.dl) (.ref c.gl) (.ref c.rw) (.ref c.ml) (.ref c.pp) (.ref c.nn) m.a2 T cc fc hW hc16 hfc28 hc4) (fun r0 f1 hp => by rw [hp.2]; exact hI.out)) (fun f2 hp => by obtain ⟨r0, f1, g, ⟨hr, hf⟩, hg, he⟩ := hp; rw [hf] at hg he; exact ⟨f, g, o, c, hI, hg, he.trans (by rw [hr])⟩) ⟨rfl, rfl, Nat.le_of_ble_eq_true rfl, Nat.le_of_ble_eq_true rfl, Nat.le_of_ble_eq_true rfl, Nat.le_of_ble_eq_true rfl⟩ (fun f2 hM => kX9_net l G B0 f2 hm m.q m.i0 m.i1 m.i3 m.i7 m.i18 m.i22 m.i23 m.i27 m.j16 m.j17 m.a2 m.a4 m.a5 m.a6 m.b8 m.b9 m.b10 m.a11 m.a12 m.a13 m.a14 m.b15 m.b19 m.b20 m.b21 m.a24 m.a25 m.a26 4 fc cc hM e1 hfc28 e0 hc16 hc4 (by omega) (mAdj_syI hs hA)) ⟨rfl, rfl, Nat.le_of_ble_eq_true rfl, Nat.le_of_ble_eq_true rfl, Nat.le_of_ble_eq_true rfl, Nat.le_of_ble_eq_true rfl⟩ (fun f2 r f3 hp => ?_)
      exact ⟨by rw [hp.1, hr9], (mMk m.q m.i0 m.i1 m.i3 m.i7 m.i18 m.i22 m.i23 (nI 0) m.j16 m.j17 m.a2 m.a4 m.a5 m.a6 m.b8 m.b9 m.b10 m.a11 m.a12 m.a13 m.a14 m.b15 m.b19 m.b20 m.b21 m.a24 m.a25 m.a26), ⟨rfl, rfl, rfl, rfl, rfl, rfl, rfl, rfl, rfl, rfl, rfl, rfl, rfl, rfl, rfl, rfl⟩, rfl, rfl, hp.2.1, hp.2.2⟩
  · exact opI_thr (m2 := (mMk m.q m.i0 m.i1 m.i3 m.i7 m.i18 m.i22 m.i23 (nI 1) m.j16 m.j17 m.a2 m.a4 m.a5 m.a6 m.b8 m.b9 m.b10 m.a11 m.a12 m.a13 m.a14 m.b15 m.b19 m.b20 m.b21 m.a24 m.a25 m.a26)) hI 1 (by omega) (kL_net_o l G B0 f h po x1 hI.hd rfl rfl (kX8_net_b1 l hst G B0 f h c.sp nA tA (.ref c.dl) (.ref c.gl) (.ref c.rw) (.ref c.ml) (.ref c.pp) (.ref c.nn) m.a2 T cc fc x1 hW hc16 hfc28 hv)) (fun f2 h2 => by rw [show f2 = f from h2]; exact kKp.rf) ⟨rfl, rfl, Nat.le_of_ble_eq_true rfl, Nat.le_of_ble_eq_true rfl, Nat.le_of_ble_eq_true rfl, Nat.le_of_ble_eq_true rfl⟩ (fun f2 hM => kX9_net_b1 l G B0 f2 hm m.q m.i0 m.i1 m.i3 m.i7 m.i18 m.i22 m.i23 m.i27 m.j16 m.j17 m.a2 m.a4 m.a5 m.a6 m.b8 m.b9 m.b10 m.a11 m.a12 m.a13 m.a14 m.b15 m.b19 m.b20 m.b21 m.a24 m.a25 m.a26 x1 fc cc hM e1 hfc28 e0 hc16 hv) ⟨rfl, rfl, Nat.le_of_ble_eq_true rfl, Nat.le_of_ble_eq_true rfl, Nat.le_of_ble_eq_true rfl, Nat.le_of_ble_eq_true rfl⟩ ⟨rfl, rfl, rfl, rfl, rfl, rfl, rfl, rfl, rfl, rfl, rfl, rfl, rfl, rfl, rfl, rfl⟩ rfl rfl
theorem op_flip {l : Launch} (hst : l.stackTraces = false) {G : kG} {B0 h hm po pd : Nat} {f : kH} {o : Nat → Nat} {c : cSt} {m : mSt} (hI : Inv2 G h hm po pd f o c m m) (x1 x2 : Int32) : opI l G B0 h hm po pd f yL_flip wsL_flip [.ref h, .int x1, .int x2, .ref po] yX9_flip wsX9_flip [.ref hm, .int x1, .int x2] := by
  have hN : cNet G (kR o 1 f) c m := hI 1
  obtain ⟨nA, tA, cc, fc, T, h1, e0, e1, N, th, fo, hs, hA, hT⟩ := hN
  have hc4 : 4 ≤ cc := hs.1
  have hc16 : cc ≤ 16 := hs.2.1
  have hfc : fc + 4 = 2 * cc := hs.2.2.1
  have hfc28 : fc ≤ 28 := by omega
  have hW : kCs f [(h, .inr (8, [.ref c.sp, .ref c.dl, .ref c.gl, .ref c.rw, .ref c.ml, .ref c.pp, .ref c.nn])), (c.sp, .inr (3, [.ref nA, .ref tA, .int (nI cc), .int (nI fc)])), (nA, kaI G 84 m.a2), (tA, kaI G 256 T)] := kCs_app (show kCs (kR o 0 f) (cHd h c) from hI 0) h1 (by decide)
  by_cases hv : mIn x1 cc ∧ mIn x2 cc
  · obtain ⟨x, hx, rfl⟩ := mIn_ex (by omega) hv.1
    obtain ⟨y, hy, rfl⟩ := mIn_ex (by omega) hv.2
    obtain ⟨q1, q2⟩ := flip_th hs hA hT hx hy
    by_cases hf : ∃ u v, th x y = some u ∧ th y x = some v ∧ th u v = none
    · have hc1 := q1.mpr hf
      have hc2 := q2.mpr hf
      obtain ⟨u, v, z1, z2, z3⟩ := hf
      obtain ⟨d1, d2, d3, d4, d5, d6, d7, d8, d9, d10, huv, hu, hv9, eA, hI1⟩ := flip_m hs hA hT z1 z2 z3
      refine opI_ok (m1 := (mMk m.q m.i0 m.i1 m.i3 m.i7 m.i18 m.i22 m.i23 (nI 0) m.j16 m.j17 (nPutN (nPutN m.a2 (fo x y) x v u) (fo y x) v y u) m.a4 m.a5 m.a6 m.b8 m.b9 m.b10 m.a11 m.a12 m.a13 m.a14 m.b15 m.b19 m.b20 m.b21 m.a24 m.a25 m.a26)) (nI (100 * (if u < v then u else v) + (if u < v then v else u))).toInt64 (kL_flip_g l G B0 f h po (nI x) (nI y) hI.hd rfl rfl (kX8_flip l G B0 f h c.sp nA tA (.ref c.dl) (.ref c.gl) (.ref c.rw) (.ref c.ml) (.ref c.pp) (.ref c.nn) m.a2 T cc fc x y u v (fo x y) (fo y x) hW hc16 hfc28 hx hy hc1 (by omega) (by omega) (by omega) (by omega) d3 d4 d1 d2 d5 d6) (fun r0 f1 hp => ?_)) (fun f2 hp => ?_) ⟨rfl, rfl, Nat.le_of_ble_eq_true rfl, Nat.le_of_ble_eq_true rfl, Nat.le_of_ble_eq_true rfl, Nat.le_of_ble_eq_true rfl⟩ (fun f2 hM => kX9_flip l G B0 f2 hm m.q m.i0 m.i1 m.i3 m.i7 m.i18 m.i22 m.i23 m.i27 m.j16 m.j17 m.a2 m.a4 m.a5 m.a6 m.b8 m.b9 m.b10 m.a11 m.a12 m.a13 m.a14 m.b15 m.b19 m.b20 m.b21 m.a24 m.a25 m.a26 (nI x) (nI y) fc cc hM e1 hfc28 e0 hc16 (fo x y) (fo y x) (mAdj_syI hs hA _ _) hv hc2 d3 d4 d7 d8) ⟨rfl, rfl, Nat.le_of_ble_eq_true rfl, Nat.le_of_ble_eq_true rfl, Nat.le_of_ble_eq_true rfl, Nat.le_of_ble_eq_true rfl⟩ (fun f2 r f3 hp => ?_)
      · obtain ⟨_, _, hK⟩ := hp
        obtain ⟨g9, h9⟩ := hI 9
        have e9 := kCs_mem h9 _ List.mem_cons_self
        refine ⟨g9, hK po _ (fun q => ?_) e9.2⟩
        have hm9 := kCs_mem h1
        simp only [nW, List.mem_cons, List.not_mem_nil, or_false] at q hm9
        have e9' : o po = 9 := e9.1
        rcases q with rfl | rfl | rfl
        · have := (hm9 _ (Or.inl rfl)).1; dsimp only at this; omega
        · have := (hm9 _ (Or.inr (Or.inl rfl))).1; dsimp only at this; omega
        · have := (hm9 _ (Or.inr (Or.inr rfl))).1; dsimp only at this; omega
      · obtain ⟨r0, f1, g, ⟨hr, h4, hK⟩, hg, he⟩ := hp
        refine ⟨f1, g, oN o 1 f, c, ?_, hg, he.trans (by rw [hr])⟩
        have hm1 := kCs_mem h1
        simp only [nW, List.mem_cons, List.not_mem_nil, or_false] at hm1
        have o1 : o c.sp = 1 := (hm1 _ (Or.inl rfl)).1
        have o2 : o nA = 1 := (hm1 _ (Or.inr (Or.inl rfl))).1
        have o3 : o tA = 1 := (hm1 _ (Or.inr (Or.inr rfl))).1
        refine hI.step 1 hK (fun a ha => ?_) ?_ (fun j g hj hP => ?_)
        · simp only [List.mem_cons, List.not_mem_nil, or_false] at ha
          rcases ha with rfl | rfl | rfl
          · exact o1
          · exact o2
          · exact o3
        · refine ⟨nA, tA, cc, fc, _, ?_, e0, e1, hI1⟩
          have h5 := h4.tail
          refine kCs_own h5 (fun q hq => ?_)
          simp only [nW, List.mem_cons, List.not_mem_nil, or_false] at hq
          rcases hq with rfl | rfl | rfl
          · exact .inl o1
          · exact .inl o2
          · exact .inl o3
        · unfold cPt at hP ⊢
          split
          case h_2 => exact absurd rfl hj
          all_goals first | exact hP | trivial
      · obtain ⟨hr, h4, h5⟩ := hp
        rw [d9, d10, eA] at h4
        rw [d9, d10, flipV_n u (by omega) v (by omega)] at hr
        exact ⟨by rw [hr], (mMk m.q m.i0 m.i1 m.i3 m.i7 m.i18 m.i22 m.i23 (nI 0) m.j16 m.j17 (nPutN (nPutN m.a2 (fo x y) x v u) (fo y x) v y u) m.a4 m.a5 m.a6 m.b8 m.b9 m.b10 m.a11 m.a12 m.a13 m.a14 m.b15 m.b19 m.b20 m.b21 m.a24 m.a25 m.a26), ⟨rfl, rfl, rfl, rfl, rfl, rfl, rfl, rfl, rfl, rfl, rfl, rfl, rfl, rfl, rfl, rfl⟩, rfl, rfl, h4, h5⟩
    · have hc1 : ¬ nCanFlip T cc (nI x) (nI y) := fun z => hf (q1.mp z)
      have hc2 : ¬ mCanFlip m.a2 fc (nI x) (nI y) := fun z => hf (q2.mp z)
      exact opI_thr (m2 := (mMk m.q m.i0 m.i1 m.i3 m.i7 m.i18 m.i22 m.i23 (nI 2) m.j16 m.j17 m.a2 m.a4 m.a5 m.a6 m.b8 m.b9 m.b10 m.a11 m.a12 m.a13 m.a14 m.b15 m.b19 m.b20 m.b21 m.a24 m.a25 m.a26)) hI 2 (by omega) (kL_flip_s l G B0 f h po (nI x) (nI y) hI.hd rfl rfl (kX8_flip_b2 l hst G B0 f h c.sp nA tA (.ref c.dl) (.ref c.gl) (.ref c.rw) (.ref c.ml) (.ref c.pp) (.ref c.nn) m.a2 T cc fc (nI x) (nI y) hW hc16 hfc28 hv hc1)) (fun f2 h2 => by rw [show f2 = f from h2]; exact kKp.rf) ⟨rfl, rfl, Nat.le_of_ble_eq_true rfl, Nat.le_of_ble_eq_true rfl, Nat.le_of_ble_eq_true rfl, Nat.le_of_ble_eq_true rfl⟩ (fun f2 hM => kX9_flip_b2 l G B0 f2 hm m.q m.i0 m.i1 m.i3 m.i7 m.i18 m.i22 m.i23 m.i27 m.j16 m.j17 m.a2 m.a4 m.a5 m.a6 m.b8 m.b9 m.b10 m.a11 m.a12 m.a13 m.a14 m.b15 m.b19 m.b20 m.b21 m.a24 m.a25 m.a26 (nI x) (nI y) fc cc hM e1 hfc28 e0 hc16 (mAdj_syI hs hA _ _) hv hc2) ⟨rfl, rfl, Nat.le_of_ble_eq_true rfl, Nat.le_of_ble_eq_true rfl, Nat.le_of_ble_eq_true rfl, Nat.le_of_ble_eq_true rfl⟩ ⟨rfl, rfl, rfl, rfl, rfl, rfl, rfl, rfl, rfl, rfl, rfl, rfl, rfl, rfl, rfl, rfl⟩ rfl rfl
  · exact opI_thr (m2 := (mMk m.q m.i0 m.i1 m.i3 m.i7 m.i18 m.i22 m.i23 (nI 1) m.j16 m.j17 m.a2 m.a4 m.a5 m.a6 m.b8 m.b9 m.b10 m.a11 m.a12 m.a13 m.a14 m.b15 m.b19 m.b20 m.b21 m.a24 m.a25 m.a26)) hI 1 (by omega) (kL_flip_o l G B0 f h po x1 x2 hI.hd rfl rfl (kX8_flip_b1 l hst G B0 f h c.sp nA tA (.ref c.dl) (.ref c.gl) (.ref c.rw) (.ref c.ml) (.ref c.pp) (.ref c.nn) m.a2 T cc fc x1 x2 hW hc16 hfc28 hv)) (fun f2 h2 => by rw [show f2 = f from h2]; exact kKp.rf) ⟨rfl, rfl, Nat.le_of_ble_eq_true rfl, Nat.le_of_ble_eq_true rfl, Nat.le_of_ble_eq_true rfl, Nat.le_of_ble_eq_true rfl⟩ (fun f2 hM => kX9_flip_b1 l G B0 f2 hm m.q m.i0 m.i1 m.i3 m.i7 m.i18 m.i22 m.i23 m.i27 m.j16 m.j17 m.a2 m.a4 m.a5 m.a6 m.b8 m.b9 m.b10 m.a11 m.a12 m.a13 m.a14 m.b15 m.b19 m.b20 m.b21 m.a24 m.a25 m.a26 x1 x2 fc cc hM e1 hfc28 e0 hc16 hv) ⟨rfl, rfl, Nat.le_of_ble_eq_true rfl, Nat.le_of_ble_eq_true rfl, Nat.le_of_ble_eq_true rfl, Nat.le_of_ble_eq_true rfl⟩ ⟨rfl, rfl, rfl, rfl, rfl, rfl, rfl, rfl, rfl, rfl, rfl, rfl, rfl, rfl, rfl, rfl⟩ rfl rfl
