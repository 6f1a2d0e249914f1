/-! remainders; radius -/
theorem Inv2.putD {G : kG} {h hm po pd : Nat} {f : kH} {o : Nat → Nat} {c : cSt} {m mM : mSt} (hI : Inv2 G h hm po pd f o c m mM) (g : Nat → UInt64) : Inv2 G h hm po pd (kst f pd (kaD G 1 g)) (oN o 10 f) c m mM := by
  obtain ⟨g9, h9⟩ := hI 10
  have hp := kCs_mem h9 _ List.mem_cons_self
  refine hI.step 10 kKp_put (fun a ha => by rw [List.mem_singleton.mp ha]; exact hp.1) ⟨g, ?_⟩ (fun _ _ _ h => h)
  refine kCs_own ⟨fun q hq => ?_, by simp⟩ (fun q hq => ?_)
  · rw [List.mem_singleton.mp hq]; exact if_pos rfl
  · rw [List.mem_singleton.mp hq]; exact .inl hp.1
def opF (l : Launch) (G : kG) (B0 h hm po pd : Nat) (f : kH) (yL : MethodName) (wsL : List Cond) (avL : List Value) (yM : MethodName) (wsM : List Cond) (avM : List Value) : Prop :=
  ∃ (k : Nat) (rm : Room) (mc ms : Nat) (Φ : kH → Prop), k < 4 ∧ rmOk rm mc ms ∧ vx_Met l yL wsL rm (kP G B0 f avL) (kQi G B0 (fun r f2 => r = nI k ∧ Φ f2)) (kXN G B0) mc ms (kAb B0) ∧
    ∀ f2, Φ f2 → ∃ (rm2 : Room) (mc2 ms2 : Nat) (Ψ : UInt32 → kH → Prop), rmOk rm2 mc2 ms2 ∧ Met l yM wsM rm2 (kP G B0 f2 avM) (kQf G B0 Ψ) mc2 ms2 (kAb B0) ∧ (∃ m0 : mSt, kCs f2 (mCs G hm m0)) ∧
      ∀ r f3, Ψ r f3 → ∃ m2 : mSt, Inv G h hm po pd f3 m2 ∧ m2.i27 = nI k ∧ (k = 0 → ∃ x g, r = kRad x ∧ f3 pd = some (kaD G 1 g) ∧ g 0 = FP.f2d r)
theorem op_remainders {l : Launch} (hst : l.stackTraces = false) {G : kG} {B0 h hm po pd : Nat} {f : kH} {o : Nat → Nat} {c : cSt} {m : mSt} (hI : Inv2 G h hm po pd f o c m m) (x1 x2 : Int32) : opI l G B0 h hm po pd f yL_remainders wsL_remainders [.ref h, .int x1, .int x2, .ref po] yX9_remainders wsX9_remainders [.ref hm, .int x1, .int x2] := by
  have hG : cGsk G (kR o 3 f) c m := hI 3
  obtain ⟨sz, w, g1, g2, g3, fo, le, wa, hL, hel, hd1, hd2, hsz, e7, hx⟩ := hG
  have hH0 : kCs (kR o 0 f) (cHd h c) := hI 0
  have hH : kCs f (cHd h c) := hH0.le (kR_le _ _ _)
  have hls : kLs G f c.gl sz w (gkE g1 g2 g3) := (hL.ls (fun k hk => (hel k hk).at 0 rfl)).le (kR_le _ _ _)
  have har : gkA G f sz g1 g2 g3 fo le wa := fun k hk => ⟨(kR_some.mp ((hel k hk).at 1 rfl)).2, (kR_some.mp ((hel k hk).at 2 rfl)).2, (kR_some.mp ((hel k hk).at 3 rfl)).2⟩
  by_cases hv : mIn x1 sz
  · obtain ⟨i, hi, rfl⟩ := mIn_ex (by omega) hv
    by_cases hp : mRg x2 (2 : Nat) (8 : Nat)
    · obtain ⟨b, hb1, hb2, rfl⟩ := mRg_nat (by omega) hp
      have hK4 : cWlk G (kR o 4 f) c m := hI 4
      obtain ⟨sA, wA, gs, gw, hw4⟩ := hK4
      have hR : kCs f [(c.rw, .inr (5, [.ref sA, .ref wA])), (sA, kaJ G 64 gs), (wA, kaJ G 64 gw), (g1 i, kaJ G 4 (fo i))] := kCs_app hw4 (show kCs (kR o 3 f) [(g1 i, kaJ G 4 (fo i))] from ⟨fun x hx => by rw [List.mem_singleton.mp hx]; exact (hel i hi).at 1 rfl, by simp⟩) (by decide)
      have hc9 : mIn (wCode (fo i) (nI b) 4) 4096 := by
        rw [wCode_at hb1 hb2 4 (Nat.le_refl 4)]
        have := wN_lt (g := fo i) hb1 hb2 4
        have e : (nI (wN (fo i) b 4)).toInt = (wN (fo i) b 4 : Nat) := nI_toInt (by omega)
        exact ⟨by omega, by omega⟩
      have hb6 : (nI b).toInt64 ≠ 0 := fun z => by
        have e := nI64 (b := b) (by omega)
        rw [z] at e
        have : (0 : Int64).toInt = 0 := rfl
        omega
      have hm4 := kCs_mem hw4
      simp only [List.mem_cons, List.not_mem_nil, or_false] at hm4
      have o1 : o c.rw = 4 := (hm4 _ (Or.inl rfl)).1
      have o2 : o sA = 4 := (hm4 _ (Or.inr (Or.inl rfl))).1
      have o3 : o wA = 4 := (hm4 _ (Or.inr (Or.inr rfl))).1
      refine opI_ok (m1 := m) ((rGo (nI b) 4096 (nI 0, rNs (fun j => if j < 64 then 0 else gs j) (wCode (fo i) (nI b) 4).toNatClampNeg, rNw (fun j => if j < 64 then 0 else gs j) (fun j => if j < 64 then 0 else gw j) (wCode (fo i) (nI b) 4).toNatClampNeg)).1).toInt64 (kL_remainders_g l G B0 f h po (nI i) (nI b) hI.hd rfl rfl (kX8_remainders l G B0 f h c.gl sz c.rw sA wA (.ref c.sp) (.ref c.dl) (.ref c.ml) (.ref c.pp) (.ref c.nn) w g1 g2 g3 fo le wa gs gw i b hH hls har hsz hR hi hb1 hb2 (cdOk_ok hb1 hb2) hc9 hb6) (fun r0 f1 hp => ?_)) (fun f2 hp => ?_) ⟨rfl, rfl, Nat.le_of_ble_eq_true rfl, Nat.le_of_ble_eq_true rfl, Nat.le_of_ble_eq_true rfl, Nat.le_of_ble_eq_true rfl⟩ (fun f2 hM => kX9_remainders l G B0 f2 hm m.q m.i0 m.i1 m.i3 m.i7 m.i18 m.i22 m.i23 m.i27 m.j16 m.j17 m.a2 m.a4 m.a5 m.a6 m.b8 m.b9 m.b10 m.a11 m.a12 m.a13 m.a14 m.b15 m.b19 m.b20 m.b21 m.a24 m.a25 m.a26 i b sz hM e7 hsz hi hb1 hb2) ⟨rfl, rfl, Nat.le_of_ble_eq_true rfl, Nat.le_of_ble_eq_true rfl, Nat.le_of_ble_eq_true rfl, Nat.le_of_ble_eq_true rfl⟩ (fun f2 v f3 hp => ?_)
      · refine hI.outK hp.2.2 (fun a ha z9 => ?_)
        simp only [List.mem_cons, List.not_mem_nil, or_false] at ha
        rcases ha with rfl | rfl | rfl
        · omega
        · omega
        · omega
      · obtain ⟨r0, f1, g, ⟨hr, h4, hK⟩, hg, hf⟩ := hp
        refine ⟨f1, g, oN o 4 f, c, ?_, hg, hf.trans (by rw [hr])⟩
        refine hI.step 4 hK (fun a ha => ?_) ?_ (fun _ _ _ h => h)
        · simp only [List.mem_cons, List.not_mem_nil, or_false] at ha
          rcases ha with rfl | rfl | rfl
          · exact o1
          · exact o2
          · exact o3
        · refine ⟨sA, wA, (rGo (nI b) 4096 (nI 0, rNs (fun j => if j < 64 then 0 else gs j) (wCode (fo i) (nI b) 4).toNatClampNeg, rNw (fun j => if j < 64 then 0 else gs j) (fun j => if j < 64 then 0 else gw j) (wCode (fo i) (nI b) 4).toNatClampNeg)).2.1, (rGo (nI b) 4096 (nI 0, rNs (fun j => if j < 64 then 0 else gs j) (wCode (fo i) (nI b) 4).toNatClampNeg, rNw (fun j => if j < 64 then 0 else gs j) (fun j => if j < 64 then 0 else gw j) (wCode (fo i) (nI b) 4).toNatClampNeg)).2.2, kCs_own (h4.pick [0, 1, 2] (by decide) ⟨rfl, rfl, rfl, trivial⟩) (fun x hx => ?_)⟩
          simp only [List.mem_cons, List.not_mem_nil, or_false] at hx
          rcases hx with rfl | rfl | rfl
          · exact .inl o1
          · exact .inl o2
          · exact .inl o3
      · obtain ⟨M9, hM9, hr, SN, QU, h4, h5⟩ := hp
        exact ⟨by rw [hr, rem_m hb1 hb2 (hx i hi).2.2 gs gw hM9], (mMk m.q m.i0 m.i1 m.i3 m.i7 m.i18 m.i22 m.i23 (nI 0) m.j16 m.j17 m.a2 m.a4 m.a5 m.a6 m.b8 m.b9 m.b10 m.a11 m.a12 (SN) (QU) m.b15 m.b19 m.b20 m.b21 m.a24 m.a25 m.a26), ⟨rfl, rfl, rfl, rfl, rfl, rfl, rfl, rfl, rfl, rfl, rfl, rfl, rfl, rfl, rfl, rfl⟩, rfl, rfl, h4, h5⟩
    · exact opI_thr (m2 := (mMk m.q m.i0 m.i1 m.i3 m.i7 m.i18 m.i22 m.i23 (nI 2) m.j16 m.j17 m.a2 m.a4 m.a5 m.a6 m.b8 m.b9 m.b10 m.a11 m.a12 m.a13 m.a14 m.b15 m.b19 m.b20 m.b21 m.a24 m.a25 m.a26)) hI 2 (by omega) (kL_remainders_a l G B0 f h po (nI i) x2 hI.hd rfl rfl (kX8_remainders_b2 l hst G B0 f h c.gl sz (.ref c.sp) (.ref c.dl) (.ref c.rw) (.ref c.ml) (.ref c.pp) (.ref c.nn) w g1 g2 g3 fo le wa i x2 hH hls har hsz hi hp)) (fun f2 h2 => by rw [show f2 = f from h2]; exact kKp.rf) ⟨rfl, rfl, Nat.le_of_ble_eq_true rfl, Nat.le_of_ble_eq_true rfl, Nat.le_of_ble_eq_true rfl, Nat.le_of_ble_eq_true rfl⟩ (fun f2 hM => kX9_remainders_b2 l G B0 f2 hm m.q m.i0 m.i1 m.i3 m.i7 m.i18 m.i22 m.i23 m.i27 m.j16 m.j17 m.a2 m.a4 m.a5 m.a6 m.b8 m.b9 m.b10 m.a11 m.a12 m.a13 m.a14 m.b15 m.b19 m.b20 m.b21 m.a24 m.a25 m.a26 (nI i) x2 sz hM e7 hsz hv hp) ⟨rfl, rfl, Nat.le_of_ble_eq_true rfl, Nat.le_of_ble_eq_true rfl, Nat.le_of_ble_eq_true rfl, Nat.le_of_ble_eq_true rfl⟩ ⟨rfl, rfl, rfl, rfl, rfl, rfl, rfl, rfl, rfl, rfl, rfl, rfl, rfl, rfl, rfl, rfl⟩ rfl rfl
  · exact opI_thr (m2 := (mMk m.q m.i0 m.i1 m.i3 m.i7 m.i18 m.i22 m.i23 (nI 1) m.j16 m.j17 m.a2 m.a4 m.a5 m.a6 m.b8 m.b9 m.b10 m.a11 m.a12 m.a13 m.a14 m.b15 m.b19 m.b20 m.b21 m.a24 m.a25 m.a26)) hI 1 (by omega) (kL_remainders_o l G B0 f h po x1 x2 hI.hd rfl rfl (kX8_remainders_b1 l hst G B0 f h c.gl sz (.ref c.sp) (.ref c.dl) (.ref c.rw) (.ref c.ml) (.ref c.pp) (.ref c.nn) w g1 g2 g3 fo le wa x1 x2 hH hls har hsz hv)) (fun f2 h2 => by rw [show f2 = f from h2]; exact kKp.rf) ⟨rfl, rfl, Nat.le_of_ble_eq_true rfl, Nat.le_of_ble_eq_true rfl, Nat.le_of_ble_eq_true rfl, Nat.le_of_ble_eq_true rfl⟩ (fun f2 hM => kX9_remainders_b1 l G B0 f2 hm m.q m.i0 m.i1 m.i3 m.i7 m.i18 m.i22 m.i23 m.i27 m.j16 m.j17 m.a2 m.a4 m.a5 m.a6 m.b8 m.b9 m.b10 m.a11 m.a12 m.a13 m.a14 m.b15 m.b19 m.b20 m.b21 m.a24 m.a25 m.a26 x1 x2 sz hM e7 hsz hv) ⟨rfl, rfl, Nat.le_of_ble_eq_true rfl, Nat.le_of_ble_eq_true rfl, Nat.le_of_ble_eq_true rfl, Nat.le_of_ble_eq_true rfl⟩ ⟨rfl, rfl, rfl, rfl, rfl, rfl, rfl, rfl, rfl, rfl, rfl, rfl, rfl, rfl, rfl, rfl⟩ rfl rfl
theorem op_radius {l : Launch} (hst : l.stackTraces = false) {G : kG} {B0 h hm po pd : Nat} {f : kH} {o : Nat → Nat} {c : cSt} {m : mSt} (hI : Inv2 G h hm po pd f o c m m) (x1 x2 : Int32) : opF l G B0 h hm po pd f yL_radius wsL_radius [.ref h, .int x1, .int x2, .ref pd] yX9_radius wsX9_radius [.ref hm, .int x1, .int x2] := by
  have hG : cGsk G (kR o 3 f) c m := hI 3
  obtain ⟨sz, w, g1, g2, g3, fo, le, wa, hL, hel, hd1, hd2, hsz, e7, hx⟩ := hG
  have hH0 : kCs (kR o 0 f) (cHd h c) := hI 0
  have hH : kCs f (cHd h c) := hH0.le (kR_le _ _ _)
  have hls : kLs G f c.gl sz w (gkE g1 g2 g3) := (hL.ls (fun k hk => (hel k hk).at 0 rfl)).le (kR_le _ _ _)
  have har : gkA G f sz g1 g2 g3 fo le wa := fun k hk => ⟨(kR_some.mp ((hel k hk).at 1 rfl)).2, (kR_some.mp ((hel k hk).at 2 rfl)).2, (kR_some.mp ((hel k hk).at 3 rfl)).2⟩
  have hn9 : ∀ hv : ¬ (mIn x1 sz ∧ mRg x2 (0) 3), ∀ f2, kCs f2 (mCs G hm m) → Met l yX9_radius wsX9_radius rmX9_radius_b1 (kP G B0 f2 [.ref hm, .int x1, .int x2]) (kQf G B0 (fun r f1 => kCs f1 (mCs G hm (mMk m.q m.i0 m.i1 m.i3 m.i7 m.i18 m.i22 m.i23 (nI 1) m.j16 m.j17 m.a2 m.a4 m.a5 m.a6 m.b8 m.b9 m.b10 m.a11 m.a12 m.a13 m.a14 m.b15 m.b19 m.b20 m.b21 m.a24 m.a25 m.a26)) ∧ kOff (mAs hm m.q) f2 f1)) 0 0 (kAb B0) := fun hv f2 hM => kX9_radius_b1 l G B0 f2 hm m.q m.i0 m.i1 m.i3 m.i7 m.i18 m.i22 m.i23 m.i27 m.j16 m.j17 m.a2 m.a4 m.a5 m.a6 m.b8 m.b9 m.b10 m.a11 m.a12 m.a13 m.a14 m.b15 m.b19 m.b20 m.b21 m.a24 m.a25 m.a26 x1 x2 sz hM e7 hsz hv
  by_cases hv : mIn x1 sz
  · obtain ⟨i, hi, rfl⟩ := mIn_ex (by omega) hv
    by_cases hp : mRg x2 (0) 3
    · obtain ⟨p, hp3, rfl⟩ := mRg_ex (n := 3) (by omega) hp
      refine ⟨0, _, 0, 0, _, by omega, ⟨rfl, rfl, Nat.le_of_ble_eq_true rfl, Nat.le_of_ble_eq_true rfl, Nat.le_of_ble_eq_true rfl, Nat.le_of_ble_eq_true rfl⟩, kL_radius_g l G B0 f h pd (nI i) (nI p) hI.hd rfl rfl (kX8_radius l G B0 f h c.gl sz (.ref c.sp) (.ref c.dl) (.ref c.rw) (.ref c.ml) (.ref c.pp) (.ref c.nn) w g1 g2 g3 fo le wa i p hH hls har hsz hi (by omega)) (fun r0 f1 hp => by rw [hp.2]; exact hI.outD) (fun r0 f1 hp => by rw [hp.1]; exact (kRad_d _).1), fun f2 h2 => ?_⟩
      obtain ⟨r0, f1, g, ⟨hr, hf⟩, hg, he⟩ := h2
      subst hf
      subst he
      have hI2 := hI.putD (vf_upd g 0 (FP.f2d r0))
      refine ⟨_, 0, 0, _, ⟨rfl, rfl, Nat.le_of_ble_eq_true rfl, Nat.le_of_ble_eq_true rfl, Nat.le_of_ble_eq_true rfl, Nat.le_of_ble_eq_true rfl⟩, kX9_radius l G B0 _ hm m.q m.i0 m.i1 m.i3 m.i7 m.i18 m.i22 m.i23 m.i27 m.j16 m.j17 m.a2 m.a4 m.a5 m.a6 m.b8 m.b9 m.b10 m.a11 m.a12 m.a13 m.a14 m.b15 m.b19 m.b20 m.b21 m.a24 m.a25 m.a26 i p sz hI2.mC e7 hsz hi (by omega), ⟨m, hI2.mC⟩, fun r f3 h3 => ?_⟩
      obtain ⟨hr3, h4, h5⟩ := h3
      have hrr : r = r0 := by rw [hr3, hr, (hx i hi).2.2 p (by omega)]
      refine ⟨(mMk m.q m.i0 m.i1 m.i3 m.i7 m.i18 m.i22 m.i23 (nI 0) m.j16 m.j17 m.a2 m.a4 m.a5 m.a6 m.b8 m.b9 m.b10 m.a11 m.a12 m.a13 m.a14 m.b15 m.b19 m.b20 m.b21 m.a24 m.a25 m.a26), ⟨_, _, (hI2.ref (mM1 := (mMk m.q m.i0 m.i1 m.i3 m.i7 m.i18 m.i22 m.i23 (nI 0) m.j16 m.j17 m.a2 m.a4 m.a5 m.a6 m.b8 m.b9 m.b10 m.a11 m.a12 m.a13 m.a14 m.b15 m.b19 m.b20 m.b21 m.a24 m.a25 m.a26)) rfl h4 h5).sm (m2 := (mMk m.q m.i0 m.i1 m.i3 m.i7 m.i18 m.i22 m.i23 (nI 0) m.j16 m.j17 m.a2 m.a4 m.a5 m.a6 m.b8 m.b9 m.b10 m.a11 m.a12 m.a13 m.a14 m.b15 m.b19 m.b20 m.b21 m.a24 m.a25 m.a26)) ⟨rfl, rfl, rfl, rfl, rfl, rfl, rfl, rfl, rfl, rfl, rfl, rfl, rfl, rfl, rfl, rfl⟩⟩, rfl, fun _ => ⟨_, vf_upd g 0 (FP.f2d r0), hr3, ?_, by rw [hrr]; exact if_pos rfl⟩⟩
      rw [h5 _ hI2.po8.2]; exact if_pos rfl
    · have hn := hn9 (fun z => hp z.2)
      refine ⟨1, _, 1, 6, fun f2 => f2 = f, by omega, ⟨rfl, rfl, Nat.le_of_ble_eq_true rfl, Nat.le_of_ble_eq_true rfl, Nat.le_of_ble_eq_true rfl, Nat.le_of_ble_eq_true rfl⟩, kL_radius_o l G B0 f h pd (nI i) x2 hI.hd rfl rfl (kX8_radius_b2 l hst G B0 f h c.gl sz (.ref c.sp) (.ref c.dl) (.ref c.rw) (.ref c.ml) (.ref c.pp) (.ref c.nn) w g1 g2 g3 fo le wa i x2 hH hls har hsz hi hp), fun f2 h2 => ?_⟩
      subst h2
      refine ⟨_, 0, 0, _, ⟨rfl, rfl, Nat.le_of_ble_eq_true rfl, Nat.le_of_ble_eq_true rfl, Nat.le_of_ble_eq_true rfl, Nat.le_of_ble_eq_true rfl⟩, hn _ hI.mC, ⟨m, hI.mC⟩, fun r f3 h3 => ?_⟩
      exact ⟨(mMk m.q m.i0 m.i1 m.i3 m.i7 m.i18 m.i22 m.i23 (nI 1) m.j16 m.j17 m.a2 m.a4 m.a5 m.a6 m.b8 m.b9 m.b10 m.a11 m.a12 m.a13 m.a14 m.b15 m.b19 m.b20 m.b21 m.a24 m.a25 m.a26), ⟨_, _, (hI.ref (mM1 := (mMk m.q m.i0 m.i1 m.i3 m.i7 m.i18 m.i22 m.i23 (nI 1) m.j16 m.j17 m.a2 m.a4 m.a5 m.a6 m.b8 m.b9 m.b10 m.a11 m.a12 m.a13 m.a14 m.b15 m.b19 m.b20 m.b21 m.a24 m.a25 m.a26)) rfl h3.1 h3.2).sm (m2 := (mMk m.q m.i0 m.i1 m.i3 m.i7 m.i18 m.i22 m.i23 (nI 1) m.j16 m.j17 m.a2 m.a4 m.a5 m.a6 m.b8 m.b9 m.b10 m.a11 m.a12 m.a13 m.a14 m.b15 m.b19 m.b20 m.b21 m.a24 m.a25 m.a26)) ⟨rfl, rfl, rfl, rfl, rfl, rfl, rfl, rfl, rfl, rfl, rfl, rfl, rfl, rfl, rfl, rfl⟩⟩, rfl, fun q => absurd q (by omega)⟩
  · have hn := hn9 (fun z => hv z.1)
    refine ⟨1, _, 1, 6, fun f2 => f2 = f, by omega, ⟨rfl, rfl, Nat.le_of_ble_eq_true rfl, Nat.le_of_ble_eq_true rfl, Nat.le_of_ble_eq_true rfl, Nat.le_of_ble_eq_true rfl⟩, kL_radius_o l G B0 f h pd x1 x2 hI.hd rfl rfl (kX8_radius_b1 l hst G B0 f h c.gl sz (.ref c.sp) (.ref c.dl) (.ref c.rw) (.ref c.ml) (.ref c.pp) (.ref c.nn) w g1 g2 g3 fo le wa x1 x2 hH hls har hsz hv), fun f2 h2 => ?_⟩
    subst h2
    refine ⟨_, 0, 0, _, ⟨rfl, rfl, Nat.le_of_ble_eq_true rfl, Nat.le_of_ble_eq_true rfl, Nat.le_of_ble_eq_true rfl, Nat.le_of_ble_eq_true rfl⟩, hn _ hI.mC, ⟨m, hI.mC⟩, fun r f3 h3 => ?_⟩
    exact ⟨(mMk m.q m.i0 m.i1 m.i3 m.i7 m.i18 m.i22 m.i23 (nI 1) m.j16 m.j17 m.a2 m.a4 m.a5 m.a6 m.b8 m.b9 m.b10 m.a11 m.a12 m.a13 m.a14 m.b15 m.b19 m.b20 m.b21 m.a24 m.a25 m.a26), ⟨_, _, (hI.ref (mM1 := (mMk m.q m.i0 m.i1 m.i3 m.i7 m.i18 m.i22 m.i23 (nI 1) m.j16 m.j17 m.a2 m.a4 m.a5 m.a6 m.b8 m.b9 m.b10 m.a11 m.a12 m.a13 m.a14 m.b15 m.b19 m.b20 m.b21 m.a24 m.a25 m.a26)) rfl h3.1 h3.2).sm (m2 := (mMk m.q m.i0 m.i1 m.i3 m.i7 m.i18 m.i22 m.i23 (nI 1) m.j16 m.j17 m.a2 m.a4 m.a5 m.a6 m.b8 m.b9 m.b10 m.a11 m.a12 m.a13 m.a14 m.b15 m.b19 m.b20 m.b21 m.a24 m.a25 m.a26)) ⟨rfl, rfl, rfl, rfl, rfl, rfl, rfl, rfl, rfl, rfl, rfl, rfl, rfl, rfl, rfl, rfl⟩⟩, rfl, fun q => absurd q (by omega)⟩
