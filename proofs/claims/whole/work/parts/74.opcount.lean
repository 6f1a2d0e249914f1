/-! the counts of a gasket; its remainders -/
theorem nI_add9 (a b : Nat) : nI (a + b) = nI a + nI b := by unfold nI; rw [Int32.ofNat_add]
theorem mRg_nat {x : Int32} {a b : Nat} (hb : b < 2 ^ 31) (h : mRg x a b) : ∃ k, a ≤ k ∧ k ≤ b ∧ x = nI k := by
  obtain ⟨h1, h2⟩ := h
  exact ⟨x.toInt.toNat, by omega, by omega, i32_of (by omega) (by omega)⟩
theorem op_countAnew {l : Launch} (hst : l.stackTraces = false) {G : kG} {B0 h hm po pd : Nat} {f : kH} {o : Nat → Nat} {c : cSt} {m : mSt} (hI : Inv2 G h hm po pd f o c m m) (x1 x2 : Int32) : opI l G B0 h hm po pd f yL_countAnew wsL_countAnew [.ref h, .int x1, .int x2, .ref po] yX9_countAnew wsX9_countAnew [.ref hm, .int x1, .int x2] := by
  have hG : cGsk G (kR o 3 f) c m := hI 3
  obtain ⟨sz, w, g1, g2, g3, fo, le, wa, hL, hel, hd1, hd2, hsz, e7, hx⟩ := hG
  have hH0 : kCs (kR o 0 f) (cHd h c) := hI 0
  have hH : kCs f (cHd h c) := hH0.le (kR_le _ _ _)
  have hls : kLs G f c.gl sz w (gkE g1 g2 g3) := (hL.ls (fun k hk => (hel k hk).at 0 rfl)).le (kR_le _ _ _)
  have har : gkA G f sz g1 g2 g3 fo le wa := fun k hk => ⟨(kR_some.mp ((hel k hk).at 1 rfl)).2, (kR_some.mp ((hel k hk).at 2 rfl)).2, (kR_some.mp ((hel k hk).at 3 rfl)).2⟩
  by_cases hv : mIn x1 sz
  · obtain ⟨i, hi, rfl⟩ := mIn_ex (by omega) hv
    by_cases hp : mRg x2 (1 : Nat) (1000 : Nat)
    · obtain ⟨b, hb1, hb2, rfl⟩ := mRg_nat (by omega) hp
      obtain ⟨N, hN⟩ := (hx i hi).1.use
      obtain ⟨hR, hS⟩ := hN _ (mCopy_ag (b9 := m.b9) (hx i hi).2.2)
      have hS0 : mRoot m.b8 m.b9 i N 0 = le i 0 := hS 0 (by omega)
      by_cases hng : le i 0 < 0
      · have hbt : (nI b).toInt64.toInt ≤ 1000 := by rw [nI64 (by omega)]; omega
        have hrt := (hx i hi).1.rt.1
        have hn0 : ∃ j, j < 4 ∧ (le i j).toInt < 0 := ⟨0, by omega, lt64.mp hng⟩
        have hfin : mFin (nI b).toInt64 100 (mRoot m.b8 m.b9 i N) 4 := mFin_ag _ 100 _ (le i) 4 hS (fin_root _ hbt hrt hn0)
        have hk9 : kCnt (fun k => le i k ≤ (nI b).toInt64) 4 = kCnt (fun x9 => ¬ (nI b).toInt64 < mRoot m.b8 m.b9 i N x9) 4 := kCnt_cg (fun k hk => by
          rw [show mRoot m.b8 m.b9 i N k = le i k from hS k hk]
          exact ⟨fun z z2 => absurd (lt64.mp z2) (by have := le64.mp z; omega), fun z => le64.mpr (by have : ¬ (nI b).toInt64.toInt < (le i k).toInt := fun z2 => z (lt64.mpr z2); omega)⟩)
        have hr9 : nI (kCnt (fun k => le i k ≤ (nI b).toInt64) 4) + cAm (nI b) 100 (le i 0) (le i 1) (le i 2) + cAm (nI b) 100 (le i 0) (le i 1) (le i 3) + cAm (nI b) 100 (le i 0) (le i 2) (le i 3) + cAm (nI b) 100 (le i 1) (le i 2) (le i 3) = nI (mCount (mRoot m.b8 m.b9 i N) (nI b).toInt64 100) := by
          have e := three_m (nI b) hbt hrt hn0 (hx i hi).2.1
          rw [mCount, nI_add9, mTree_ag _ 100 _ (le i) 4 hS, ← e, hk9]
          simp only [Int32.add_assoc]
        have hgw : g2 i ≠ w i := fun z => by
          have e := (hel i hi).at 0 rfl
          have e' := (hel i hi).at 2 rfl
          rw [z, e] at e'; exact nomatch e'
        have hcl : Met l yX8_countAnew wsX8_countAnew rmX8_countAnew (kP G B0 f [.ref h, .int (nI i), .int (nI b)]) (kQi G B0 (fun r f1 => r = nI (mCount (mRoot m.b8 m.b9 i N) (nI b).toInt64 100) ∧ f1 = f)) 0 0 (kAb B0) := by
          rw [← hr9]
          exact kX8_countAnew l G B0 f h c.gl sz (.ref c.sp) (.ref c.dl) (.ref c.rw) (.ref c.ml) (.ref c.pp) (.ref c.nn) w g1 g2 g3 fo le wa i b hH hls har hsz hi hb1 hb2 hng jNl_ok hgw
        refine opI_ok (m1 := m) (nI (mCount (mRoot m.b8 m.b9 i N) (nI b).toInt64 100)).toInt64 (kL_countAnew_g l G B0 f h po (nI i) (nI b) hI.hd rfl rfl hcl (fun r0 f1 hp => by rw [hp.2]; exact hI.out)) (fun f2 hp => by obtain ⟨r0, f1, g, ⟨hr, hf⟩, hg, he⟩ := hp; rw [hf] at hg he; exact ⟨f, g, o, c, hI, hg, he.trans (by rw [hr])⟩) ⟨rfl, rfl, Nat.le_of_ble_eq_true rfl, Nat.le_of_ble_eq_true rfl, Nat.le_of_ble_eq_true rfl, Nat.le_of_ble_eq_true rfl⟩ (fun f2 hM => kX9_countAnew l G B0 f2 hm m.q m.i0 m.i1 m.i3 m.i7 m.i18 m.i22 m.i23 m.i27 m.j16 m.j17 m.a2 m.a4 m.a5 m.a6 m.b8 m.b9 m.b10 m.a11 m.a12 m.a13 m.a14 m.b15 m.b19 m.b20 m.b21 m.a24 m.a25 m.a26 i b sz N hM e7 hsz hi hb1 hb2 hR 100 (by rw [hS0]; exact hng) hfin (by omega)) ⟨rfl, rfl, Nat.le_of_ble_eq_true rfl, Nat.le_of_ble_eq_true rfl, Nat.le_of_ble_eq_true rfl, Nat.le_of_ble_eq_true rfl⟩ (fun f2 v f3 hp => ?_)
        obtain ⟨hr, B9, C1, C2, h4, h5⟩ := hp
        exact ⟨by rw [hr], (mMk m.q m.i0 m.i1 m.i3 m.i7 m.i18 m.i22 m.i23 (nI 0) m.j16 m.j17 m.a2 m.a4 m.a5 m.a6 m.b8 (mRoot m.b8 m.b9 i N) (B9) (C1) (C2) m.a13 m.a14 m.b15 m.b19 m.b20 m.b21 m.a24 m.a25 m.a26), ⟨rfl, rfl, rfl, rfl, rfl, rfl, rfl, rfl, rfl, rfl, rfl, rfl, rfl, rfl, rfl, rfl⟩, rfl, rfl, h4, h5⟩
      · exact opI_thr (m2 := (mMk m.q m.i0 m.i1 m.i3 m.i7 m.i18 m.i22 m.i23 (nI 3) m.j16 m.j17 m.a2 m.a4 m.a5 m.a6 m.b8 (mRoot m.b8 m.b9 i N) m.b10 m.a11 m.a12 m.a13 m.a14 m.b15 m.b19 m.b20 m.b21 m.a24 m.a25 m.a26)) hI 3 (by omega) (kL_countAnew_s l G B0 f h po (nI i) (nI b) hI.hd rfl rfl (kX8_countAnew_b3 l hst G B0 f h c.gl sz (.ref c.sp) (.ref c.dl) (.ref c.rw) (.ref c.ml) (.ref c.pp) (.ref c.nn) w g1 g2 g3 fo le wa i b hH hls har hsz hi hb1 hb2 hng)) (fun f2 h2 => by rw [show f2 = f from h2]; exact kKp.rf) ⟨rfl, rfl, Nat.le_of_ble_eq_true rfl, Nat.le_of_ble_eq_true rfl, Nat.le_of_ble_eq_true rfl, Nat.le_of_ble_eq_true rfl⟩ (fun f2 hM => kX9_countAnew_b3 l G B0 f2 hm m.q m.i0 m.i1 m.i3 m.i7 m.i18 m.i22 m.i23 m.i27 m.j16 m.j17 m.a2 m.a4 m.a5 m.a6 m.b8 m.b9 m.b10 m.a11 m.a12 m.a13 m.a14 m.b15 m.b19 m.b20 m.b21 m.a24 m.a25 m.a26 i b sz N hM e7 hsz hi hb1 hb2 hR (by rw [hS0]; exact hng)) ⟨rfl, rfl, Nat.le_of_ble_eq_true rfl, Nat.le_of_ble_eq_true rfl, Nat.le_of_ble_eq_true rfl, Nat.le_of_ble_eq_true rfl⟩ ⟨rfl, rfl, rfl, rfl, rfl, rfl, rfl, rfl, rfl, rfl, rfl, rfl, rfl, rfl, rfl, rfl⟩ rfl rfl
    · exact opI_thr (m2 := (mMk m.q m.i0 m.i1 m.i3 m.i7 m.i18 m.i22 m.i23 (nI 2) m.j16 m.j17 m.a2 m.a4 m.a5 m.a6 m.b8 m.b9 m.b10 m.a11 m.a12 m.a13 m.a14 m.b15 m.b19 m.b20 m.b21 m.a24 m.a25 m.a26)) hI 2 (by omega) (kL_countAnew_a l G B0 f h po (nI i) x2 hI.hd rfl rfl (kX8_countAnew_b2 l hst G B0 f h c.gl sz (.ref c.sp) (.ref c.dl) (.ref c.rw) (.ref c.ml) (.ref c.pp) (.ref c.nn) w g1 g2 g3 fo le wa i x2 hH hls har hsz hi hp)) (fun f2 h2 => by rw [show f2 = f from h2]; exact kKp.rf) ⟨rfl, rfl, Nat.le_of_ble_eq_true rfl, Nat.le_of_ble_eq_true rfl, Nat.le_of_ble_eq_true rfl, Nat.le_of_ble_eq_true rfl⟩ (fun f2 hM => kX9_countAnew_b2 l G B0 f2 hm m.q m.i0 m.i1 m.i3 m.i7 m.i18 m.i22 m.i23 m.i27 m.j16 m.j17 m.a2 m.a4 m.a5 m.a6 m.b8 m.b9 m.b10 m.a11 m.a12 m.a13 m.a14 m.b15 m.b19 m.b20 m.b21 m.a24 m.a25 m.a26 (nI i) x2 sz hM e7 hsz hv hp) ⟨rfl, rfl, Nat.le_of_ble_eq_true rfl, Nat.le_of_ble_eq_true rfl, Nat.le_of_ble_eq_true rfl, Nat.le_of_ble_eq_true rfl⟩ ⟨rfl, rfl, rfl, rfl, rfl, rfl, rfl, rfl, rfl, rfl, rfl, rfl, rfl, rfl, rfl, rfl⟩ rfl rfl
  · exact opI_thr (m2 := (mMk m.q m.i0 m.i1 m.i3 m.i7 m.i18 m.i22 m.i23 (nI 1) m.j16 m.j17 m.a2 m.a4 m.a5 m.a6 m.b8 m.b9 m.b10 m.a11 m.a12 m.a13 m.a14 m.b15 m.b19 m.b20 m.b21 m.a24 m.a25 m.a26)) hI 1 (by omega) (kL_countAnew_o l G B0 f h po x1 x2 hI.hd rfl rfl (kX8_countAnew_b1 l hst G B0 f h c.gl sz (.ref c.sp) (.ref c.dl) (.ref c.rw) (.ref c.ml) (.ref c.pp) (.ref c.nn) w g1 g2 g3 fo le wa x1 x2 hH hls har hsz hv)) (fun f2 h2 => by rw [show f2 = f from h2]; exact kKp.rf) ⟨rfl, rfl, Nat.le_of_ble_eq_true rfl, Nat.le_of_ble_eq_true rfl, Nat.le_of_ble_eq_true rfl, Nat.le_of_ble_eq_true rfl⟩ (fun f2 hM => kX9_countAnew_b1 l G B0 f2 hm m.q m.i0 m.i1 m.i3 m.i7 m.i18 m.i22 m.i23 m.i27 m.j16 m.j17 m.a2 m.a4 m.a5 m.a6 m.b8 m.b9 m.b10 m.a11 m.a12 m.a13 m.a14 m.b15 m.b19 m.b20 m.b21 m.a24 m.a25 m.a26 x1 x2 sz hM e7 hsz hv) ⟨rfl, rfl, Nat.le_of_ble_eq_true rfl, Nat.le_of_ble_eq_true rfl, Nat.le_of_ble_eq_true rfl, Nat.le_of_ble_eq_true rfl⟩ ⟨rfl, rfl, rfl, rfl, rfl, rfl, rfl, rfl, rfl, rfl, rfl, rfl, rfl, rfl, rfl, rfl⟩ rfl rfl
theorem op_count {l : Launch} (hst : l.stackTraces = false) {G : kG} {B0 h hm po pd : Nat} {f : kH} {o : Nat → Nat} {c : cSt} {m : mSt} (hI : Inv2 G h hm po pd f o c m m) (x1 x2 : Int32) : opI l G B0 h hm po pd f yL_count wsL_count [.ref h, .int x1, .int x2, .ref po] yX9_count wsX9_count [.ref hm, .int x1, .int x2] := by
  have hG : cGsk G (kR o 3 f) c m := hI 3
  obtain ⟨sz, w, g1, g2, g3, fo, le, wa, hL, hel, hd1, hd2, hsz, e7, hx⟩ := hG
  have hH0 : kCs (kR o 0 f) (cHd h c) := hI 0
  have hH : kCs f (cHd h c) := hH0.le (kR_le _ _ _)
  have hls : kLs G f c.gl sz w (gkE g1 g2 g3) := (hL.ls (fun k hk => (hel k hk).at 0 rfl)).le (kR_le _ _ _)
  have har : gkA G f sz g1 g2 g3 fo le wa := fun k hk => ⟨(kR_some.mp ((hel k hk).at 1 rfl)).2, (kR_some.mp ((hel k hk).at 2 rfl)).2, (kR_some.mp ((hel k hk).at 3 rfl)).2⟩
  by_cases hv : mIn x1 sz
  · obtain ⟨i, hi, rfl⟩ := mIn_ex (by omega) hv
    by_cases hp : mRg x2 (1 : Nat) (1000 : Nat)
    · obtain ⟨b, hb1, hb2, rfl⟩ := mRg_nat (by omega) hp
      obtain ⟨N, hN⟩ := (hx i hi).1.use
      obtain ⟨hR, hS⟩ := hN _ (mCopy_ag (b9 := m.b9) (hx i hi).2.2)
      have hS0 : mRoot m.b8 m.b9 i N 0 = le i 0 := hS 0 (by omega)
      by_cases hng : le i 0 < 0
      · have hbt : (nI b).toInt64.toInt ≤ 1000 := by rw [nI64 (by omega)]; omega
        have hrt := (hx i hi).1.rt.1
        have hn0 : ∃ j, j < 4 ∧ (le i j).toInt < 0 := ⟨0, by omega, lt64.mp hng⟩
        have hfin : mFin (nI b).toInt64 100 (mRoot m.b8 m.b9 i N) 4 := mFin_ag _ 100 _ (le i) 4 hS (fin_root _ hbt hrt hn0)
        have hk9 : kCnt (fun k => le i k ≤ (nI b).toInt64) 4 = kCnt (fun x9 => ¬ (nI b).toInt64 < mRoot m.b8 m.b9 i N x9) 4 := kCnt_cg (fun k hk => by
          rw [show mRoot m.b8 m.b9 i N k = le i k from hS k hk]
          exact ⟨fun z z2 => absurd (lt64.mp z2) (by have := le64.mp z; omega), fun z => le64.mpr (by have : ¬ (nI b).toInt64.toInt < (le i k).toInt := fun z2 => z (lt64.mpr z2); omega)⟩)
        have hr9 : nI (kCnt (fun k => le i k ≤ (nI b).toInt64) 4) + cRw (nI b) 100 (fun j9 => if j9 < 4 then le i j9 else wa i j9) (-1) = nI (mCount (mRoot m.b8 m.b9 i N) (nI b).toInt64 100) := by
          have e := cRw_m (nI b) 100 (fun j9 => if j9 < 4 then le i j9 else wa i j9) 4 (Nat.le_refl 4)
          rw [show mLa 4 = -1 from rfl] at e
          rw [mCount, nI_add9, hk9, e, mTree_ag _ 100 (mRoot m.b8 m.b9 i N) (fun j9 => if j9 < 4 then le i j9 else wa i j9) 4 (fun k hk => by show mRoot m.b8 m.b9 i N k = if k < 4 then le i k else wa i k; rw [if_pos hk]; exact hS k hk)]
        have o3 := kR_some.mp ((hel i hi).at 3 rfl)
        have h3 : kCs f [(w i, .inr (2, [.ref (g1 i), .ref (g2 i), .ref (g3 i)])), (g2 i, kaJ G 4 (le i)), (g3 i, kaJ G 4 (wa i))] := kCs.le (show kCs (kR o 3 f) [(w i, .inr (2, [.ref (g1 i), .ref (g2 i), .ref (g3 i)])), (g2 i, kaJ G 4 (le i)), (g3 i, kaJ G 4 (wa i))] from (hel i hi).pick [0, 2, 3] (by decide) ⟨rfl, rfl, rfl, trivial⟩) (kR_le _ _ _)
        refine opI_ok (m1 := m) (nI (mCount (mRoot m.b8 m.b9 i N) (nI b).toInt64 100)).toInt64 (kL_count_g l G B0 f h po (nI i) (nI b) hI.hd rfl rfl (kX8_count l G B0 f h c.gl sz (.ref c.sp) (.ref c.dl) (.ref c.rw) (.ref c.ml) (.ref c.pp) (.ref c.nn) w g1 g2 g3 fo le wa i b hH hls har hsz hi hb1 hb2 hng h3) (fun r0 f1 hp => ?_)) (fun f2 hp => ?_) ⟨rfl, rfl, Nat.le_of_ble_eq_true rfl, Nat.le_of_ble_eq_true rfl, Nat.le_of_ble_eq_true rfl, Nat.le_of_ble_eq_true rfl⟩ (fun f2 hM => kX9_count l G B0 f2 hm m.q m.i0 m.i1 m.i3 m.i7 m.i18 m.i22 m.i23 m.i27 m.j16 m.j17 m.a2 m.a4 m.a5 m.a6 m.b8 m.b9 m.b10 m.a11 m.a12 m.a13 m.a14 m.b15 m.b19 m.b20 m.b21 m.a24 m.a25 m.a26 i b sz N hM e7 hsz hi hb1 hb2 hR 100 (by rw [hS0]; exact hng) hfin (by omega)) ⟨rfl, rfl, Nat.le_of_ble_eq_true rfl, Nat.le_of_ble_eq_true rfl, Nat.le_of_ble_eq_true rfl, Nat.le_of_ble_eq_true rfl⟩ (fun f2 v f3 hp => ?_)
        · exact hI.outK hp.2.2 (fun a ha z9 => by rw [List.mem_singleton.mp ha] at z9; have := o3.1; omega)
        · obtain ⟨r0, f1, g, ⟨hr, h4, hK⟩, hg, hf⟩ := hp
          refine ⟨f1, g, oN o 3 f, c, ?_, hg, hf.trans (by rw [hr, hr9])⟩
          have hKo := kR_own (o := o) (k := 3) hK
          refine hI.step 3 hK (fun a ha => by rw [List.mem_singleton.mp ha]; exact o3.1) ?_ (fun _ _ _ h => h)
          refine ⟨sz, w, g1, g2, g3, fo, le, fun k => if k = i then (fun j9 => if j9 < 4 then le i j9 else wa i j9) else wa k, hL.kp hKo (fun a ha => by rw [List.mem_singleton.mp ha]; exact ⟨_, (hel i hi).at 3 rfl⟩), ?_, hd1, hd2, hsz, e7, hx⟩
          refine gk_keep hel (fun k hk => hKo _ _ (fun z => ?_) ((hel k hk).at 0 rfl)) (fun k hk => hKo _ _ (fun z => ?_) ((hel k hk).at 1 rfl)) (fun k hk => hKo _ _ (fun z => ?_) ((hel k hk).at 2 rfl)) (fun k hk => ?_)
          · have e := (hel k hk).at 0 rfl
            rw [List.mem_singleton.mp z, (hel i hi).at 3 rfl] at e; exact nomatch e
          · exact (hd2 i k hi hk).1 (List.mem_singleton.mp z).symm
          · exact (hd2 i k hi hk).2.1 (List.mem_singleton.mp z).symm
          · by_cases q : k = i
            · subst q; rw [if_pos rfl]; exact kR_some.mpr ⟨oN_own o3.1, h4⟩
            · rw [if_neg q]; exact hKo _ _ (fun z => (hd1 k i hk hi q).2.2 (List.mem_singleton.mp z)) ((hel k hk).at 3 rfl)
        · obtain ⟨hr, B9, C1, C2, h4, h5⟩ := hp
          exact ⟨by rw [hr], (mMk m.q m.i0 m.i1 m.i3 m.i7 m.i18 m.i22 m.i23 (nI 0) m.j16 m.j17 m.a2 m.a4 m.a5 m.a6 m.b8 (mRoot m.b8 m.b9 i N) (B9) (C1) (C2) m.a13 m.a14 m.b15 m.b19 m.b20 m.b21 m.a24 m.a25 m.a26), ⟨rfl, rfl, rfl, rfl, rfl, rfl, rfl, rfl, rfl, rfl, rfl, rfl, rfl, rfl, rfl, rfl⟩, rfl, rfl, h4, h5⟩
      · exact opI_thr (m2 := (mMk m.q m.i0 m.i1 m.i3 m.i7 m.i18 m.i22 m.i23 (nI 3) m.j16 m.j17 m.a2 m.a4 m.a5 m.a6 m.b8 (mRoot m.b8 m.b9 i N) m.b10 m.a11 m.a12 m.a13 m.a14 m.b15 m.b19 m.b20 m.b21 m.a24 m.a25 m.a26)) hI 3 (by omega) (kL_count_s l G B0 f h po (nI i) (nI b) hI.hd rfl rfl (kX8_count_b3 l hst G B0 f h c.gl sz (.ref c.sp) (.ref c.dl) (.ref c.rw) (.ref c.ml) (.ref c.pp) (.ref c.nn) w g1 g2 g3 fo le wa i b hH hls har hsz hi hb1 hb2 hng)) (fun f2 h2 => by rw [show f2 = f from h2]; exact kKp.rf) ⟨rfl, rfl, Nat.le_of_ble_eq_true rfl, Nat.le_of_ble_eq_true rfl, Nat.le_of_ble_eq_true rfl, Nat.le_of_ble_eq_true rfl⟩ (fun f2 hM => kX9_count_b3 l G B0 f2 hm m.q m.i0 m.i1 m.i3 m.i7 m.i18 m.i22 m.i23 m.i27 m.j16 m.j17 m.a2 m.a4 m.a5 m.a6 m.b8 m.b9 m.b10 m.a11 m.a12 m.a13 m.a14 m.b15 m.b19 m.b20 m.b21 m.a24 m.a25 m.a26 i b sz N hM e7 hsz hi hb1 hb2 hR (by rw [hS0]; exact hng)) ⟨rfl, rfl, Nat.le_of_ble_eq_true rfl, Nat.le_of_ble_eq_true rfl, Nat.le_of_ble_eq_true rfl, Nat.le_of_ble_eq_true rfl⟩ ⟨rfl, rfl, rfl, rfl, rfl, rfl, rfl, rfl, rfl, rfl, rfl, rfl, rfl, rfl, rfl, rfl⟩ rfl rfl
    · exact opI_thr (m2 := (mMk m.q m.i0 m.i1 m.i3 m.i7 m.i18 m.i22 m.i23 (nI 2) m.j16 m.j17 m.a2 m.a4 m.a5 m.a6 m.b8 m.b9 m.b10 m.a11 m.a12 m.a13 m.a14 m.b15 m.b19 m.b20 m.b21 m.a24 m.a25 m.a26)) hI 2 (by omega) (kL_count_a l G B0 f h po (nI i) x2 hI.hd rfl rfl (kX8_count_b2 l hst G B0 f h c.gl sz (.ref c.sp) (.ref c.dl) (.ref c.rw) (.ref c.ml) (.ref c.pp) (.ref c.nn) w g1 g2 g3 fo le wa i x2 hH hls har hsz hi hp)) (fun f2 h2 => by rw [show f2 = f from h2]; exact kKp.rf) ⟨rfl, rfl, Nat.le_of_ble_eq_true rfl, Nat.le_of_ble_eq_true rfl, Nat.le_of_ble_eq_true rfl, Nat.le_of_ble_eq_true rfl⟩ (fun f2 hM => kX9_count_b2 l G B0 f2 hm m.q m.i0 m.i1 m.i3 m.i7 m.i18 m.i22 m.i23 m.i27 m.j16 m.j17 m.a2 m.a4 m.a5 m.a6 m.b8 m.b9 m.b10 m.a11 m.a12 m.a13 m.a14 m.b15 m.b19 m.b20 m.b21 m.a24 m.a25 m.a26 (nI i) x2 sz hM e7 hsz hv hp) ⟨rfl, rfl, Nat.le_of_ble_eq_true rfl, Nat.le_of_ble_eq_true rfl, Nat.le_of_ble_eq_true rfl, Nat.le_of_ble_eq_true rfl⟩ ⟨rfl, rfl, rfl, rfl, rfl, rfl, rfl, rfl, rfl, rfl, rfl, rfl, rfl, rfl, rfl, rfl⟩ rfl rfl
  · exact opI_thr (m2 := (mMk m.q m.i0 m.i1 m.i3 m.i7 m.i18 m.i22 m.i23 (nI 1) m.j16 m.j17 m.a2 m.a4 m.a5 m.a6 m.b8 m.b9 m.b10 m.a11 m.a12 m.a13 m.a14 m.b15 m.b19 m.b20 m.b21 m.a24 m.a25 m.a26)) hI 1 (by omega) (kL_count_o l G B0 f h po x1 x2 hI.hd rfl rfl (kX8_count_b1 l hst G B0 f h c.gl sz (.ref c.sp) (.ref c.dl) (.ref c.rw) (.ref c.ml) (.ref c.pp) (.ref c.nn) w g1 g2 g3 fo le wa x1 x2 hH hls har hsz hv)) (fun f2 h2 => by rw [show f2 = f from h2]; exact kKp.rf) ⟨rfl, rfl, Nat.le_of_ble_eq_true rfl, Nat.le_of_ble_eq_true rfl, Nat.le_of_ble_eq_true rfl, Nat.le_of_ble_eq_true rfl⟩ (fun f2 hM => kX9_count_b1 l G B0 f2 hm m.q m.i0 m.i1 m.i3 m.i7 m.i18 m.i22 m.i23 m.i27 m.j16 m.j17 m.a2 m.a4 m.a5 m.a6 m.b8 m.b9 m.b10 m.a11 m.a12 m.a13 m.a14 m.b15 m.b19 m.b20 m.b21 m.a24 m.a25 m.a26 x1 x2 sz hM e7 hsz hv) ⟨rfl, rfl, Nat.le_of_ble_eq_true rfl, Nat.le_of_ble_eq_true rfl, Nat.le_of_ble_eq_true rfl, Nat.le_of_ble_eq_true rfl⟩ ⟨rfl, rfl, rfl, rfl, rfl, rfl, rfl, rfl, rfl, rfl, rfl, rfl, rfl, rfl, rfl, rfl⟩ rfl rfl
