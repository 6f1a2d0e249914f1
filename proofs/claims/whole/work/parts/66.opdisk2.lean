/-! lie, pairs, move, draws -/
def opD (l : Launch) (G : kG) (B0 h hm po pd : Nat) (f : kH) (yL : MethodName) (wsL : List Cond) (yM : MethodName) (wsM : List Cond) : Prop :=
  ∃ (rm : Room) (mc ms : Nat) (Φ : Int32 → kH → Prop), rmOk rm mc ms ∧ Met l yL wsL rm (kP G B0 f [.ref h]) (kQi G B0 Φ) mc ms (kAb B0) ∧
    ∀ v f2, Φ v f2 → ∃ (rm2 : Room) (mc2 ms2 : Nat) (Ψ : Int32 → kH → Prop), rmOk rm2 mc2 ms2 ∧ Met l yM wsM rm2 (kP G B0 f2 [.ref hm]) (kQi G B0 Ψ) mc2 ms2 (kAb B0) ∧ (∃ m0 : mSt, kCs f2 (mCs G hm m0)) ∧
      ∀ r f3, Ψ r f3 → r = v ∧ ∃ m2 : mSt, Inv G h hm po pd f3 m2
theorem opD_ok {l : Launch} {G : kG} {B0 h hm po pd : Nat} {f : kH} {yL : MethodName} {wsL : List Cond} {yM : MethodName} {wsM : List Cond} {m m1 : mSt} (v : Int32) {Φ : Int32 → kH → Prop} {Ψ : kH → Int32 → kH → Prop} {rm rm2 : Room} {mc ms mc2 ms2 : Nat}
    (hcl : Met l yL wsL rm (kP G B0 f [.ref h]) (kQi G B0 Φ) mc ms (kAb B0)) (hΦ : ∀ r f2, Φ r f2 → r = v ∧ ∃ o1 c1, Inv2 G h hm po pd f2 o1 c1 m1 m) (hb : rmOk rm mc ms)
    (hmd : ∀ f2, kCs f2 (mCs G hm m) → Met l yM wsM rm2 (kP G B0 f2 [.ref hm]) (kQi G B0 (Ψ f2)) mc2 ms2 (kAb B0)) (hb2 : rmOk rm2 mc2 ms2)
    (hΨ : ∀ f2 r f3, Ψ f2 r f3 → r = v ∧ ∃ m2 : mSt, mAlike m1 m2 ∧ m2.q = m.q ∧ kCs f3 (mCs G hm m2) ∧ kOff (mAs hm m.q) f2 f3) : opD l G B0 h hm po pd f yL wsL yM wsM := by
  refine ⟨rm, mc, ms, Φ, hb, hcl, fun v1 f2 h2 => ?_⟩
  obtain ⟨rfl, o1, c1, hI2⟩ := hΦ v1 f2 h2
  refine ⟨rm2, mc2, ms2, _, hb2, hmd _ hI2.mC, ⟨m, hI2.mC⟩, fun r f3 h3 => ?_⟩
  obtain ⟨hv, m2, hsm, hq, h4, h5⟩ := hΨ _ _ _ h3
  exact ⟨hv, m2, _, _, (hI2.ref hq h4 h5).sm hsm⟩
theorem dsL_m {a4 a5 a6 : Nat → Int32} {dx dy dr : Nat → Int64} {sz i j : Nat} (hx : ∀ k, k < sz → dx k = (a4 k).toInt64 ∧ dy k = (a5 k).toInt64 ∧ dr k = (a6 k).toInt64 ∧ mDisk (a4 k) (a5 k) (a6 k)) (hi : i < sz) (hj : j < sz) : dsL dx dy dr i j = mLies a4 a5 a6 i j := by
  obtain ⟨a1, a2, a3, -⟩ := hx i hi
  obtain ⟨b1, b2, b3, -⟩ := hx j hj
  show kLie (kFar (dx i) (dx j) (dy i) (dy j)) (kBB (dr i) (dr j)) = _
  rw [a1, a2, a3, b1, b2, b3]
theorem mLies_sy (a4 a5 a6 : Nat → Int32) (i j : Nat) : mLies a4 a5 a6 i j = mLies a4 a5 a6 j i := by
  have e1 : kFar (a4 i).toInt64 (a4 j).toInt64 (a5 i).toInt64 (a5 j).toInt64 = kFar (a4 j).toInt64 (a4 i).toInt64 (a5 j).toInt64 (a5 i).toInt64 := by unfold kFar; grind
  have e2 : kBB (a6 i).toInt64 (a6 j).toInt64 = kBB (a6 j).toInt64 (a6 i).toInt64 := by unfold kBB; grind
  show kLie _ _ = kLie _ _
  rw [e1, e2]
theorem op_lie {l : Launch} (hst : l.stackTraces = false) {G : kG} {B0 h hm po pd : Nat} {f : kH} {o : Nat → Nat} {c : cSt} {m : mSt} (hI : Inv2 G h hm po pd f o c m m) (x1 x2 : Int32) : opI l G B0 h hm po pd f yL_lie wsL_lie [.ref h, .int x1, .int x2, .ref po] yX9_lie wsX9_lie [.ref hm, .int x1, .int x2] := by
  have hD : cDsk G (kR o 2 f) c m := hI 2
  obtain ⟨sz, w, dx, dy, dr, hL, he, hsz, e3, hx⟩ := hD
  have hH0 : kCs (kR o 0 f) (cHd h c) := hI 0
  have hH : kCs f (cHd h c) := hH0.le (kR_le _ _ _)
  have hls : kLs G f c.dl sz w (dsE dx dy dr) := (hL.ls he).le (kR_le _ _ _)
  by_cases hv : mIn x1 sz ∧ mIn x2 sz
  · by_cases hab : x1 = x2
    · exact opI_thr (m2 := (mMk m.q m.i0 m.i1 m.i3 m.i7 m.i18 m.i22 m.i23 (nI 2) m.j16 m.j17 m.a2 m.a4 m.a5 m.a6 m.b8 m.b9 m.b10 m.a11 m.a12 m.a13 m.a14 m.b15 m.b19 m.b20 m.b21 m.a24 m.a25 m.a26)) hI 2 (by omega) (kL_lie_a l G B0 f h po x1 x2 hI.hd rfl rfl (kX8_lie_b2 l hst G B0 f h c.dl sz (.ref c.sp) (.ref c.gl) (.ref c.rw) (.ref c.ml) (.ref c.pp) (.ref c.nn) w dx dy dr x1 x2 hH hls hsz hv hab)) (fun f2 h2 => by rw [show f2 = f from h2]; exact kKp.rf) ⟨rfl, rfl, Nat.le_of_ble_eq_true rfl, Nat.le_of_ble_eq_true rfl, Nat.le_of_ble_eq_true rfl, Nat.le_of_ble_eq_true rfl⟩ (fun f2 hM => kX9_lie_b2 l G B0 f2 hm m.q m.i0 m.i1 m.i3 m.i7 m.i18 m.i22 m.i23 m.i27 m.j16 m.j17 m.a2 m.a4 m.a5 m.a6 m.b8 m.b9 m.b10 m.a11 m.a12 m.a13 m.a14 m.b15 m.b19 m.b20 m.b21 m.a24 m.a25 m.a26 x1 x2 sz hM e3 hsz hv hab) ⟨rfl, rfl, Nat.le_of_ble_eq_true rfl, Nat.le_of_ble_eq_true rfl, Nat.le_of_ble_eq_true rfl, Nat.le_of_ble_eq_true rfl⟩ ⟨rfl, rfl, rfl, rfl, rfl, rfl, rfl, rfl, rfl, rfl, rfl, rfl, rfl, rfl, rfl, rfl⟩ rfl rfl
    obtain ⟨i, hi, rfl⟩ := mIn_ex (by omega) hv.1
    obtain ⟨j, hj, rfl⟩ := mIn_ex (by omega) hv.2
    have hij : ¬ i = j := fun z => hab (by rw [z])
    have hr9 := dsL_m hx hi hj
    refine opI_ok (m1 := m) ((dsL dx dy dr i j).toInt64) (kL_lie_g l G B0 f h po (nI i) (nI j) hI.hd rfl rfl (kX8_lie l G B0 f h c.dl sz (.ref c.sp) (.ref c.gl) (.ref c.rw) (.ref c.ml) (.ref c.pp) (.ref c.nn) w dx dy dr i j hH hls hsz hi hj hij) (fun r0 f1 hp => by rw [hp.2]; exact hI.out)) (fun f2 hp => by obtain ⟨r0, f1, g, ⟨hr, hf⟩, hg, he⟩ := hp; rw [hf] at hg he; exact ⟨f, g, o, c, hI, hg, he.trans (by rw [hr])⟩) ⟨rfl, rfl, Nat.le_of_ble_eq_true rfl, Nat.le_of_ble_eq_true rfl, Nat.le_of_ble_eq_true rfl, Nat.le_of_ble_eq_true rfl⟩ (fun f2 hM => kX9_lie l G B0 f2 hm m.q m.i0 m.i1 m.i3 m.i7 m.i18 m.i22 m.i23 m.i27 m.j16 m.j17 m.a2 m.a4 m.a5 m.a6 m.b8 m.b9 m.b10 m.a11 m.a12 m.a13 m.a14 m.b15 m.b19 m.b20 m.b21 m.a24 m.a25 m.a26 i j sz hM e3 hsz hi hj hij) ⟨rfl, rfl, Nat.le_of_ble_eq_true rfl, Nat.le_of_ble_eq_true rfl, Nat.le_of_ble_eq_true rfl, Nat.le_of_ble_eq_true rfl⟩ (fun f2 r f3 hp => ?_)
    exact ⟨by rw [hp.1, hr9], (mMk m.q m.i0 m.i1 m.i3 m.i7 m.i18 m.i22 m.i23 (nI 0) m.j16 m.j17 m.a2 m.a4 m.a5 m.a6 m.b8 m.b9 m.b10 m.a11 m.a12 m.a13 m.a14 m.b15 m.b19 m.b20 m.b21 m.a24 m.a25 m.a26), ⟨rfl, rfl, rfl, rfl, rfl, rfl, rfl, rfl, rfl, rfl, rfl, rfl, rfl, rfl, rfl, rfl⟩, rfl, rfl, hp.2.1, hp.2.2⟩
  · exact opI_thr (m2 := (mMk m.q m.i0 m.i1 m.i3 m.i7 m.i18 m.i22 m.i23 (nI 1) m.j16 m.j17 m.a2 m.a4 m.a5 m.a6 m.b8 m.b9 m.b10 m.a11 m.a12 m.a13 m.a14 m.b15 m.b19 m.b20 m.b21 m.a24 m.a25 m.a26)) hI 1 (by omega) (kL_lie_o l G B0 f h po x1 x2 hI.hd rfl rfl (kX8_lie_b1 l hst G B0 f h c.dl sz (.ref c.sp) (.ref c.gl) (.ref c.rw) (.ref c.ml) (.ref c.pp) (.ref c.nn) w dx dy dr x1 x2 hH hls hsz hv)) (fun f2 h2 => by rw [show f2 = f from h2]; exact kKp.rf) ⟨rfl, rfl, Nat.le_of_ble_eq_true rfl, Nat.le_of_ble_eq_true rfl, Nat.le_of_ble_eq_true rfl, Nat.le_of_ble_eq_true rfl⟩ (fun f2 hM => kX9_lie_b1 l G B0 f2 hm m.q m.i0 m.i1 m.i3 m.i7 m.i18 m.i22 m.i23 m.i27 m.j16 m.j17 m.a2 m.a4 m.a5 m.a6 m.b8 m.b9 m.b10 m.a11 m.a12 m.a13 m.a14 m.b15 m.b19 m.b20 m.b21 m.a24 m.a25 m.a26 x1 x2 sz hM e3 hsz hv) ⟨rfl, rfl, Nat.le_of_ble_eq_true rfl, Nat.le_of_ble_eq_true rfl, Nat.le_of_ble_eq_true rfl, Nat.le_of_ble_eq_true rfl⟩ ⟨rfl, rfl, rfl, rfl, rfl, rfl, rfl, rfl, rfl, rfl, rfl, rfl, rfl, rfl, rfl, rfl⟩ rfl rfl
theorem op_pairs {l : Launch} (hst : l.stackTraces = false) {G : kG} {B0 h hm po pd : Nat} {f : kH} {o : Nat → Nat} {c : cSt} {m : mSt} (hI : Inv2 G h hm po pd f o c m m) (x1 : Int32) : opI l G B0 h hm po pd f yL_pairs wsL_pairs [.ref h, .int x1, .ref po] yX9_pairs wsX9_pairs [.ref hm, .int x1] := by
  have hD : cDsk G (kR o 2 f) c m := hI 2
  obtain ⟨sz, w, dx, dy, dr, hL, he, hsz, e3, hx⟩ := hD
  have hH0 : kCs (kR o 0 f) (cHd h c) := hI 0
  have hH : kCs f (cHd h c) := hH0.le (kR_le _ _ _)
  have hls : kLs G f c.dl sz w (dsE dx dy dr) := (hL.ls he).le (kR_le _ _ _)
  by_cases hv : mRg x1 (0) 2
  · obtain ⟨t, ht, rfl⟩ := mRg_ex (n := 2) (by omega) hv
    have hr9 : kCnt2 (fun x9 y9 => mLies m.a4 m.a5 m.a6 x9 y9 = nI t) sz = kCnt2 (fun x9 y9 => dsL dx dy dr y9 x9 = nI t) (if sz = 0 then 1 else sz) := by
      by_cases h0 : sz = 0
      · rw [if_pos h0, h0]; rfl
      · rw [if_neg h0]
        refine kCnt2_cg sz (fun a b ha hb => ?_)
        rw [dsL_m hx (by omega) ha, mLies_sy]
    refine opI_ok (m1 := m) ((nI (kCnt2 (fun x9 y9 => dsL dx dy dr y9 x9 = nI t) (if sz = 0 then 1 else sz))).toInt64) (kL_pairs_g l G B0 f h po (nI t) hI.hd rfl rfl (kX8_pairs l G B0 f h c.dl sz (.ref c.sp) (.ref c.gl) (.ref c.rw) (.ref c.ml) (.ref c.pp) (.ref c.nn) w dx dy dr t hH hls hsz ht) (fun r0 f1 hp => by rw [hp.2]; exact hI.out)) (fun f2 hp => by obtain ⟨r0, f1, g, ⟨hr, hf⟩, hg, he⟩ := hp; rw [hf] at hg he; exact ⟨f, g, o, c, hI, hg, he.trans (by rw [hr])⟩) ⟨rfl, rfl, Nat.le_of_ble_eq_true rfl, Nat.le_of_ble_eq_true rfl, Nat.le_of_ble_eq_true rfl, Nat.le_of_ble_eq_true rfl⟩ (fun f2 hM => kX9_pairs l G B0 f2 hm m.q m.i0 m.i1 m.i3 m.i7 m.i18 m.i22 m.i23 m.i27 m.j16 m.j17 m.a2 m.a4 m.a5 m.a6 m.b8 m.b9 m.b10 m.a11 m.a12 m.a13 m.a14 m.b15 m.b19 m.b20 m.b21 m.a24 m.a25 m.a26 (nI t) sz hM e3 hsz hv) ⟨rfl, rfl, Nat.le_of_ble_eq_true rfl, Nat.le_of_ble_eq_true rfl, Nat.le_of_ble_eq_true rfl, Nat.le_of_ble_eq_true rfl⟩ (fun f2 r f3 hp => ?_)
    exact ⟨by rw [hp.1, hr9], (mMk m.q m.i0 m.i1 m.i3 m.i7 m.i18 m.i22 m.i23 (nI 0) m.j16 m.j17 m.a2 m.a4 m.a5 m.a6 m.b8 m.b9 m.b10 m.a11 m.a12 m.a13 m.a14 m.b15 m.b19 m.b20 m.b21 m.a24 m.a25 m.a26), ⟨rfl, rfl, rfl, rfl, rfl, rfl, rfl, rfl, rfl, rfl, rfl, rfl, rfl, rfl, rfl, rfl⟩, rfl, rfl, hp.2.1, hp.2.2⟩
  · exact opI_thr (m2 := (mMk m.q m.i0 m.i1 m.i3 m.i7 m.i18 m.i22 m.i23 (nI 1) m.j16 m.j17 m.a2 m.a4 m.a5 m.a6 m.b8 m.b9 m.b10 m.a11 m.a12 m.a13 m.a14 m.b15 m.b19 m.b20 m.b21 m.a24 m.a25 m.a26)) hI 1 (by omega) (kL_pairs_a l G B0 f h po x1 hI.hd rfl rfl (kX8_pairs_b1 l hst G B0 f h c.dl sz (.ref c.sp) (.ref c.gl) (.ref c.rw) (.ref c.ml) (.ref c.pp) (.ref c.nn) w dx dy dr x1 hH hls hsz hv)) (fun f2 h2 => by rw [show f2 = f from h2]; exact kKp.rf) ⟨rfl, rfl, Nat.le_of_ble_eq_true rfl, Nat.le_of_ble_eq_true rfl, Nat.le_of_ble_eq_true rfl, Nat.le_of_ble_eq_true rfl⟩ (fun f2 hM => kX9_pairs_b1 l G B0 f2 hm m.q m.i0 m.i1 m.i3 m.i7 m.i18 m.i22 m.i23 m.i27 m.j16 m.j17 m.a2 m.a4 m.a5 m.a6 m.b8 m.b9 m.b10 m.a11 m.a12 m.a13 m.a14 m.b15 m.b19 m.b20 m.b21 m.a24 m.a25 m.a26 x1 hM hv) ⟨rfl, rfl, Nat.le_of_ble_eq_true rfl, Nat.le_of_ble_eq_true rfl, Nat.le_of_ble_eq_true rfl, Nat.le_of_ble_eq_true rfl⟩ ⟨rfl, rfl, rfl, rfl, rfl, rfl, rfl, rfl, rfl, rfl, rfl, rfl, rfl, rfl, rfl, rfl⟩ rfl rfl
theorem op_move {l : Launch} (hst : l.stackTraces = false) {G : kG} {B0 h hm po pd : Nat} {f : kH} {o : Nat → Nat} {c : cSt} {m : mSt} (hI : Inv2 G h hm po pd f o c m m) (x1 x2 x3 x4 : Int32) : opI l G B0 h hm po pd f yL_move wsL_move [.ref h, .int x1, .int x2, .int x3, .int x4, .ref po] yX9_move wsX9_move [.ref hm, .int x1, .int x2, .int x3, .int x4] := by
  have hD : cDsk G (kR o 2 f) c m := hI 2
  obtain ⟨sz, w, dx, dy, dr, hL, he, hsz, e3, hx⟩ := hD
  have hH0 : kCs (kR o 0 f) (cHd h c) := hI 0
  have hH : kCs f (cHd h c) := hH0.le (kR_le _ _ _)
  have hls : kLs G f c.dl sz w (dsE dx dy dr) := (hL.ls he).le (kR_le _ _ _)
  by_cases hv : mIn x1 sz
  · by_cases hw : mDisk x2 x3 x4
    · have hw8 := dk_iff.mpr hw
      obtain ⟨i, hi, rfl⟩ := mIn_ex (by omega) hv
      obtain ⟨mc, ⟨h0, h1⟩ | ⟨q, cap, g0, h1, h2, h10, h64, h5, h6⟩⟩ := hL
      · omega
      have a1 := (kCs_mem h1) _ List.mem_cons_self
      have a2 := (kCs_mem h1) _ (List.mem_cons_of_mem _ List.mem_cons_self)
      have hW : kCs f [(h, .inr (8, [.ref c.sp, .ref c.dl, .ref c.gl, .ref c.rw, .ref c.ml, .ref c.pp, .ref c.nn])), (c.dl, .inr (0, [.int mc, .ref q, .int (nI sz)])), (q, kaO G cap g0), (w i, .inr (1, [.long (dx i), .long (dy i), .long (dr i)]))] := by
        refine kCs_app hH0 (show kCs (kR o 2 f) [(c.dl, .inr (0, [.int mc, .ref q, .int (nI sz)])), (q, kaO G cap g0), (w i, .inr (1, [.long (dx i), .long (dy i), .long (dr i)]))] from ⟨fun x hx9 => ?_, ?_⟩) (by decide)
        · simp only [List.mem_cons, List.not_mem_nil, or_false] at hx9
          rcases hx9 with rfl | rfl | rfl
          · exact h1.at 0 rfl
          · exact h1.at 1 rfl
          · exact he i hi
        · have n1 := h1.2
          have n2 := h5 i hi
          simp only [List.map_cons, List.map_nil, List.nodup_cons, List.mem_cons, List.not_mem_nil, or_false, not_or, List.nodup_nil, and_true, not_false_eq_true] at n1 ⊢
          exact ⟨⟨n1, fun z => n2.2.1 z.symm⟩, fun z => n2.2.2 z.symm⟩
      have hmd := fun f2 hM => kX9_move l G B0 f2 hm m.q m.i0 m.i1 m.i3 m.i7 m.i18 m.i22 m.i23 m.i27 m.j16 m.j17 m.a2 m.a4 m.a5 m.a6 m.b8 m.b9 m.b10 m.a11 m.a12 m.a13 m.a14 m.b15 m.b19 m.b20 m.b21 m.a24 m.a25 m.a26 i x2 x3 x4 sz hM e3 hsz hi hw
      have hr9 : (dr i).toInt32 = m.a6 i := by rw [(hx i hi).2.2.1]; simp
      refine opI_ok (m1 := (mMk m.q m.i0 m.i1 (nI sz) m.i7 m.i18 m.i22 m.i23 (nI 0) m.j16 m.j17 m.a2 (upd m.a4 i x2) (upd m.a5 i x3) (upd m.a6 i x4) m.b8 m.b9 m.b10 m.a11 m.a12 m.a13 m.a14 m.b15 m.b19 m.b20 m.b21 m.a24 m.a25 m.a26)) (m.a6 i).toInt64 (kL_move_g l G B0 f h po (nI i) x2 x3 x4 hI.hd rfl rfl (kX8_move l G B0 f h c.dl q (w i) mc sz cap i g0 (.ref c.sp) (.ref c.gl) (.ref c.rw) (.ref c.ml) (.ref c.pp) (.ref c.nn) (dx i) (dy i) (dr i) w dx dy dr x2 x3 x4 hw8 hW hls hsz hi h2 (by omega) (h5 i hi).1) (fun r0 f1 hp => ?_)) (fun f2 hp => ?_) ⟨rfl, rfl, Nat.le_of_ble_eq_true rfl, Nat.le_of_ble_eq_true rfl, Nat.le_of_ble_eq_true rfl, Nat.le_of_ble_eq_true rfl⟩ hmd ⟨rfl, rfl, Nat.le_of_ble_eq_true rfl, Nat.le_of_ble_eq_true rfl, Nat.le_of_ble_eq_true rfl, Nat.le_of_ble_eq_true rfl⟩ (fun f2 r f3 hp => ?_)
      · obtain ⟨t, _, _, _, hK⟩ := hp
        refine hI.outK hK (fun a ha z => ?_)
        simp only [List.mem_cons, List.not_mem_nil, or_false] at ha
        rcases ha with rfl | rfl
        · have := a1.1; dsimp only at this; omega
        · have := a2.1; dsimp only at this; omega
      · obtain ⟨r0, f1, g, ⟨t, hr, hT, h4, hK⟩, hg, hf⟩ := hp
        refine ⟨f1, g, oN o 2 f, c, ?_, hg, hf.trans (by rw [hr, hr9])⟩
        refine hI.step 2 hK (fun a ha => ?_) ?_ (fun j g hj hP => ?_)
        · simp only [List.mem_cons, List.not_mem_nil, or_false] at ha
          rcases ha with rfl | rfl
          · exact a1.1
          · exact a2.1
        · obtain ⟨s1, s2⟩ := kLst.set (p := i) h1 h2 h10 h64 h5 h6 he hT hK (h4.at 4 rfl) (h4.pick [1, 2] (by decide) ⟨rfl, rfl, trivial⟩)
          exact cDsk_put s1 s2 hsz hw hx (fun j hj _ => hj)
        · unfold cPt at hP ⊢
          split
          case h_3 => exact absurd rfl hj
          all_goals first | exact hP | trivial
      · exact ⟨by rw [hp.1], (mMk m.q m.i0 m.i1 m.i3 m.i7 m.i18 m.i22 m.i23 (nI 0) m.j16 m.j17 m.a2 (upd m.a4 i x2) (upd m.a5 i x3) (upd m.a6 i x4) m.b8 m.b9 m.b10 m.a11 m.a12 m.a13 m.a14 m.b15 m.b19 m.b20 m.b21 m.a24 m.a25 m.a26), ⟨rfl, rfl, e3.symm, rfl, rfl, rfl, rfl, rfl, rfl, rfl, rfl, rfl, rfl, rfl, rfl, rfl⟩, rfl, rfl, hp.2.1, hp.2.2⟩
    · exact opI_thr (m2 := (mMk m.q m.i0 m.i1 m.i3 m.i7 m.i18 m.i22 m.i23 (nI 2) m.j16 m.j17 m.a2 m.a4 m.a5 m.a6 m.b8 m.b9 m.b10 m.a11 m.a12 m.a13 m.a14 m.b15 m.b19 m.b20 m.b21 m.a24 m.a25 m.a26)) hI 2 (by omega) (kL_move_a l G B0 f h po x1 x2 x3 x4 hI.hd rfl rfl (kX8_move_b2 l hst G B0 f h c.dl sz (.ref c.sp) (.ref c.gl) (.ref c.rw) (.ref c.ml) (.ref c.pp) (.ref c.nn) w dx dy dr x1 x2 x3 x4 hH hls hsz hv (fun z => hw (dk_iff.mp z)))) (fun f2 h2 => by rw [show f2 = f from h2]; exact kKp.rf) ⟨rfl, rfl, Nat.le_of_ble_eq_true rfl, Nat.le_of_ble_eq_true rfl, Nat.le_of_ble_eq_true rfl, Nat.le_of_ble_eq_true rfl⟩ (fun f2 hM => kX9_move_b2 l G B0 f2 hm m.q m.i0 m.i1 m.i3 m.i7 m.i18 m.i22 m.i23 m.i27 m.j16 m.j17 m.a2 m.a4 m.a5 m.a6 m.b8 m.b9 m.b10 m.a11 m.a12 m.a13 m.a14 m.b15 m.b19 m.b20 m.b21 m.a24 m.a25 m.a26 x1 x2 x3 x4 sz hM e3 hsz hv hw) ⟨rfl, rfl, Nat.le_of_ble_eq_true rfl, Nat.le_of_ble_eq_true rfl, Nat.le_of_ble_eq_true rfl, Nat.le_of_ble_eq_true rfl⟩ ⟨rfl, rfl, rfl, rfl, rfl, rfl, rfl, rfl, rfl, rfl, rfl, rfl, rfl, rfl, rfl, rfl⟩ rfl rfl
  · exact opI_thr (m2 := (mMk m.q m.i0 m.i1 m.i3 m.i7 m.i18 m.i22 m.i23 (nI 1) m.j16 m.j17 m.a2 m.a4 m.a5 m.a6 m.b8 m.b9 m.b10 m.a11 m.a12 m.a13 m.a14 m.b15 m.b19 m.b20 m.b21 m.a24 m.a25 m.a26)) hI 1 (by omega) (kL_move_o l G B0 f h po x1 x2 x3 x4 hI.hd rfl rfl (kX8_move_b1 l hst G B0 f h c.dl sz (.ref c.sp) (.ref c.gl) (.ref c.rw) (.ref c.ml) (.ref c.pp) (.ref c.nn) w dx dy dr x1 x2 x3 x4 hH hls hsz hv)) (fun f2 h2 => by rw [show f2 = f from h2]; exact kKp.rf) ⟨rfl, rfl, Nat.le_of_ble_eq_true rfl, Nat.le_of_ble_eq_true rfl, Nat.le_of_ble_eq_true rfl, Nat.le_of_ble_eq_true rfl⟩ (fun f2 hM => kX9_move_b1 l G B0 f2 hm m.q m.i0 m.i1 m.i3 m.i7 m.i18 m.i22 m.i23 m.i27 m.j16 m.j17 m.a2 m.a4 m.a5 m.a6 m.b8 m.b9 m.b10 m.a11 m.a12 m.a13 m.a14 m.b15 m.b19 m.b20 m.b21 m.a24 m.a25 m.a26 x1 x2 x3 x4 sz hM e3 hsz hv) ⟨rfl, rfl, Nat.le_of_ble_eq_true rfl, Nat.le_of_ble_eq_true rfl, Nat.le_of_ble_eq_true rfl, Nat.le_of_ble_eq_true rfl⟩ ⟨rfl, rfl, rfl, rfl, rfl, rfl, rfl, rfl, rfl, rfl, rfl, rfl, rfl, rfl, rfl, rfl⟩ rfl rfl
theorem op_draws {l : Launch} {G : kG} {B0 h hm po pd : Nat} {f : kH} {o : Nat → Nat} {c : cSt} {m : mSt} (hI : Inv2 G h hm po pd f o c m m) : opD l G B0 h hm po pd f yX8_draws wsX8_draws yX9_draws wsX9_draws := by
  have hD : cDsk G (kR o 2 f) c m := hI 2
  obtain ⟨sz, w, dx, dy, dr, hL, he, hsz, e3, hx⟩ := hD
  have hH0 : kCs (kR o 0 f) (cHd h c) := hI 0
  have hH : kCs f (cHd h c) := hH0.le (kR_le _ _ _)
  have hls : kLs G f c.dl sz w (dsE dx dy dr) := (hL.ls he).le (kR_le _ _ _)
  have hN : cNet G (kR o 1 f) c m := hI 1
  obtain ⟨nA, tA, cc, fc, T, h1, e0, e1, N, th, fo, hs, hA, hT⟩ := hN
  have hc16 : cc ≤ 16 := hs.2.1
  have hfc : fc + 4 = 2 * cc := hs.2.2.1
  have hfc28 : fc ≤ 28 := by omega
  have hW : kCs f [(h, .inr (8, [.ref c.sp, .ref c.dl, .ref c.gl, .ref c.rw, .ref c.ml, .ref c.pp, .ref c.nn])), (c.sp, .inr (3, [.ref nA, .ref tA, .int (nI cc), .int (nI fc)])), (nA, kaI G 84 m.a2), (tA, kaI G 256 T)] := kCs_app hH0 h1 (by decide)
  have hr9 : cDr dx dy dr T cc sz ↔ mDr m.a2 m.a4 m.a5 m.a6 fc cc sz sz := by
    refine and_congr_right (fun hcc => forall_congr' fun u => forall_congr' fun hu => forall_congr' fun v => forall_congr' fun hv => ?_)
    show dsL dx dy dr v u = _ ↔ mLies m.a4 m.a5 m.a6 u v = _
    rw [dsL_m hx (by omega) hu, mLies_sy]
    have e : nAdj T cc (nI v) (nI u) ↔ mAdj m.a2 fc (nI u) (nI v) := by
      rw [nAdj_at hs hT (by omega) (by omega), mAdj_at hs hA (by omega) (by omega)]
      exact ⟨fun z => hs.sym z, fun z => hs.sym z⟩
    by_cases q : mAdj m.a2 fc (nI u) (nI v)
    · rw [if_pos q, if_pos (e.mpr q)]
    · rw [if_neg q, if_neg (fun z => q (e.mp z))]
  have hcl : Met l yX8_draws wsX8_draws rmX8_draws (kP G B0 f [.ref h]) (kQi G B0 (fun r f1 => r = kbI (mDr m.a2 m.a4 m.a5 m.a6 fc cc sz sz) ∧ f1 = f)) 0 0 (kAb B0) := by
    rw [← kbI_c hr9]
    exact kX8_draws l G B0 f h c.sp nA tA c.dl sz (.ref c.gl) (.ref c.rw) (.ref c.ml) (.ref c.pp) (.ref c.nn) m.a2 T cc fc w dx dy dr hW hc16 hfc28 hls hsz
  refine opD_ok (m1 := m) (kbI (mDr m.a2 m.a4 m.a5 m.a6 fc cc sz sz)) hcl (fun r f2 hp => ⟨hp.1, o, c, by rw [hp.2]; exact hI⟩) ⟨rfl, rfl, Nat.le_of_ble_eq_true rfl, Nat.le_of_ble_eq_true rfl, Nat.le_of_ble_eq_true rfl, Nat.le_of_ble_eq_true rfl⟩ (fun f2 hM => kX9_draws l G B0 f2 hm m.q m.i0 m.i1 m.i3 m.i7 m.i18 m.i22 m.i23 m.i27 m.j16 m.j17 m.a2 m.a4 m.a5 m.a6 m.b8 m.b9 m.b10 m.a11 m.a12 m.a13 m.a14 m.b15 m.b19 m.b20 m.b21 m.a24 m.a25 m.a26 fc cc sz hM e1 hfc28 e0 hc16 e3 hsz) ⟨rfl, rfl, Nat.le_of_ble_eq_true rfl, Nat.le_of_ble_eq_true rfl, Nat.le_of_ble_eq_true rfl, Nat.le_of_ble_eq_true rfl⟩ (fun f2 r f3 hp => ?_)
  exact ⟨hp.1, (mMk m.q m.i0 m.i1 m.i3 m.i7 m.i18 m.i22 m.i23 (nI 0) m.j16 m.j17 m.a2 m.a4 m.a5 m.a6 m.b8 m.b9 m.b10 m.a11 m.a12 m.a13 m.a14 m.b15 m.b19 m.b20 m.b21 m.a24 m.a25 m.a26), ⟨rfl, rfl, rfl, rfl, rfl, rfl, rfl, rfl, rfl, rfl, rfl, rfl, rfl, rfl, rfl, rfl⟩, rfl, hp.2.1, hp.2.2⟩
