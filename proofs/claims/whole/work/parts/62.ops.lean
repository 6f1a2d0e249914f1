/-! one call of the law: what the class does and what the reference does go together -/
/-- alike in all but the reference's scratch -/
def mAlike (m1 m2 : mSt) : Prop := m1.i0 = m2.i0 ∧ m1.i1 = m2.i1 ∧ m1.i3 = m2.i3 ∧ m1.i7 = m2.i7 ∧ m1.i18 = m2.i18 ∧ m1.i22 = m2.i22 ∧ m1.i23 = m2.i23 ∧ m1.a2 = m2.a2 ∧ m1.a4 = m2.a4 ∧ m1.a5 = m2.a5 ∧ m1.a6 = m2.a6 ∧ m1.b8 = m2.b8 ∧ m1.b19 = m2.b19 ∧ m1.b20 = m2.b20 ∧ m1.a24 = m2.a24 ∧ m1.a25 = m2.a25
theorem mAlike.rf {m : mSt} : mAlike m m := ⟨rfl, rfl, rfl, rfl, rfl, rfl, rfl, rfl, rfl, rfl, rfl, rfl, rfl, rfl, rfl, rfl⟩
theorem cPt.sm {G : kG} {h hm po pd : Nat} {c : cSt} {m1 m2 mM : mSt} (hs : mAlike m1 m2) (j : Nat) (g : kH) (hP : cPt G h hm po pd c m1 mM j g) : cPt G h hm po pd c m2 mM j g := by
  obtain ⟨e0, e1, e2, e3, e4, e5, e6, e7, e8, e9, e10, e11, e12, e13, e14, e15⟩ := hs
  unfold cPt at hP ⊢
  split
  all_goals first | exact hP | trivial | skip
  all_goals first | (unfold cNet at hP ⊢; simp only [e0, e1, e2, e3, e4, e5, e6, e7, e8, e9, e10, e11, e12, e13, e14, e15] at hP; exact hP) | (unfold cDsk at hP ⊢; simp only [e0, e1, e2, e3, e4, e5, e6, e7, e8, e9, e10, e11, e12, e13, e14, e15] at hP; exact hP) | (unfold cGsk at hP ⊢; simp only [e0, e1, e2, e3, e4, e5, e6, e7, e8, e9, e10, e11, e12, e13, e14, e15] at hP; exact hP) | (unfold cMov at hP ⊢; simp only [e0, e1, e2, e3, e4, e5, e6, e7, e8, e9, e10, e11, e12, e13, e14, e15] at hP; exact hP) | (unfold cPrd at hP ⊢; simp only [e0, e1, e2, e3, e4, e5, e6, e7, e8, e9, e10, e11, e12, e13, e14, e15] at hP; exact hP) | (unfold cNwk at hP ⊢; simp only [e0, e1, e2, e3, e4, e5, e6, e7, e8, e9, e10, e11, e12, e13, e14, e15] at hP; exact hP)
theorem Inv2.sm {G : kG} {h hm po pd : Nat} {f : kH} {o : Nat → Nat} {c : cSt} {m1 m2 mM : mSt} (hI : Inv2 G h hm po pd f o c m1 mM) (hs : mAlike m1 m2) : Inv2 G h hm po pd f o c m2 mM := fun j => (hI j).sm hs
/-- new cells that nobody keeps -/
theorem Inv2.new {G : kG} {h hm po pd : Nat} {f f1 : kH} {o : Nat → Nat} {c : cSt} {m mM : mSt} (hI : Inv2 G h hm po pd f o c m mM) (hK : kKp [] f f1) : Inv2 G h hm po pd f1 (oN o 11 f) c m mM := hI.step 11 hK (fun _ h => (nomatch h)) trivial (fun _ _ _ h => h)
theorem Inv2.po8 {G : kG} {h hm po pd : Nat} {f : kH} {o : Nat → Nat} {c : cSt} {m mM : mSt} (hI : Inv2 G h hm po pd f o c m mM) : po ∉ mAs hm mM.q ∧ pd ∉ mAs hm mM.q := by
  have hmem : ∀ a ∈ mAs hm mM.q, o a = 8 := fun a ha => by
    have h8 := hI 8
    have : a ∈ (mCs G hm mM).map Prod.fst := by rw [mCs_fst]; exact ha
    obtain ⟨q, hq, rfl⟩ := List.mem_map.mp this
    exact (kCs_mem h8 q hq).1
  obtain ⟨g9, h9⟩ := hI 9
  obtain ⟨g10, h10⟩ := hI 10
  have e9 := (kCs_mem h9 _ List.mem_cons_self).1
  have e10 := (kCs_mem h10 _ List.mem_cons_self).1
  refine ⟨fun q => ?_, fun q => ?_⟩
  · have := hmem _ q; dsimp only at e9; omega
  · have := hmem _ q; dsimp only at e10; omega
/-- a room that the law can give -/
def rmOk (rm : Room) (mc ms : Nat) : Prop := rm.cells = mc ∧ rm.slots = ms ∧ rm.frames ≤ 300 ∧ rm.locals ≤ 20000 ∧ mc ≤ 500 ∧ ms ≤ 7000
def opI (l : Launch) (G : kG) (B0 h hm po pd : Nat) (f : kH) (yL : MethodName) (wsL : List Cond) (avL : List Value) (yM : MethodName) (wsM : List Cond) (avM : List Value) : Prop :=
  ∃ (k : Nat) (rm : Room) (mc ms : Nat) (Φ : kH → Prop), k < 4 ∧ rmOk rm mc ms ∧ vx_Met l yL wsL rm (kP G B0 f avL) (kQi G B0 (fun r f2 => r = nI k ∧ Φ f2)) (kXN G B0) mc ms (kAb B0) ∧
    ∀ f2, Φ f2 → ∃ (rm2 : Room) (mc2 ms2 : Nat) (Ψ : Int32 → kH → Prop), rmOk rm2 mc2 ms2 ∧ Met l yM wsM rm2 (kP G B0 f2 avM) (kQi G B0 Ψ) mc2 ms2 (kAb B0) ∧ (∃ m0 : mSt, kCs f2 (mCs G hm m0)) ∧
      ∀ r f3, Ψ r f3 → ∃ m2 : mSt, Inv G h hm po pd f3 m2 ∧ m2.i27 = nI k ∧ (k = 0 → ∃ g, f3 po = some (kaJ G 1 g) ∧ g 0 = r.toInt64)
theorem opI_thr {l : Launch} {G : kG} {B0 h hm po pd : Nat} {f : kH} {yL : MethodName} {wsL : List Cond} {avL : List Value} {yM : MethodName} {wsM : List Cond} {avM : List Value} {o : Nat → Nat} {c : cSt} {m m2 : mSt} (hI : Inv2 G h hm po pd f o c m m) (k : Nat) (hk : 0 < k ∧ k < 4) {post : kH → Prop} {P : Int32 → Prop} {rm rm2 : Room} {mc ms mc2 ms2 : Nat}
    (hcl : vx_Met l yL wsL rm (kP G B0 f avL) (kQi G B0 (fun r f2 => r = nI k ∧ post f2)) (kXN G B0) mc ms (kAb B0)) (hp : ∀ f2, post f2 → kKp [] f f2) (hb : rmOk rm mc ms)
    (hmd : ∀ f2, kCs f2 (mCs G hm m) → Met l yM wsM rm2 (kP G B0 f2 avM) (kQi G B0 (fun r f3 => P r ∧ kCs f3 (mCs G hm m2) ∧ kOff (mAs hm m.q) f2 f3)) mc2 ms2 (kAb B0)) (hb2 : rmOk rm2 mc2 ms2) (hsm : mAlike m m2) (hq : m2.q = m.q) (h27 : m2.i27 = nI k) : opI l G B0 h hm po pd f yL wsL avL yM wsM avM := by
  refine ⟨k, rm, mc, ms, post, hk.2, hb, hcl, fun f2 h2 => ?_⟩
  have hI2 := hI.new (hp f2 h2)
  refine ⟨rm2, mc2, ms2, _, hb2, hmd f2 hI2.mC, ⟨m, hI2.mC⟩, fun r f3 h3 => ?_⟩
  exact ⟨m2, ⟨_, _, (hI2.ref hq h3.2.1 h3.2.2).sm hsm⟩, h27, fun q => absurd q (by omega)⟩
theorem opI_ok {l : Launch} {G : kG} {B0 h hm po pd : Nat} {f : kH} {yL : MethodName} {wsL : List Cond} {avL : List Value} {yM : MethodName} {wsM : List Cond} {avM : List Value} {m m1 : mSt} (v : Int64) {Θ : kH → Prop} {Ψ : kH → Int32 → kH → Prop} {rm rm2 : Room} {mc ms mc2 ms2 : Nat}
    (hcl : vx_Met l yL wsL rm (kP G B0 f avL) (kQi G B0 (fun r f2 => r = nI 0 ∧ Θ f2)) (kXN G B0) mc ms (kAb B0)) (hΘ : ∀ f2, Θ f2 → ∃ f1 g o1 c1, Inv2 G h hm po pd f1 o1 c1 m1 m ∧ f1 po = some (kaJ G 1 g) ∧ f2 = kst f1 po (kaJ G 1 (vp_updL g 0 v))) (hb : rmOk rm mc ms)
    (hmd : ∀ f2, kCs f2 (mCs G hm m) → Met l yM wsM rm2 (kP G B0 f2 avM) (kQi G B0 (Ψ f2)) mc2 ms2 (kAb B0)) (hb2 : rmOk rm2 mc2 ms2)
    (hΨ : ∀ f2 r f3, Ψ f2 r f3 → r.toInt64 = v ∧ ∃ m2 : mSt, mAlike m1 m2 ∧ m2.q = m.q ∧ m2.i27 = nI 0 ∧ kCs f3 (mCs G hm m2) ∧ kOff (mAs hm m.q) f2 f3) : opI l G B0 h hm po pd f yL wsL avL yM wsM avM := by
  refine ⟨0, rm, mc, ms, Θ, by omega, hb, hcl, fun f2 h2 => ?_⟩
  obtain ⟨f1, g, o1, c1, hI1, hg, rfl⟩ := hΘ f2 h2
  have hI2 := hI1.put (vp_updL g 0 v)
  refine ⟨rm2, mc2, ms2, _, hb2, hmd _ hI2.mC, ⟨m, hI2.mC⟩, fun r f3 h3 => ?_⟩
  obtain ⟨hv, m2, hsm, hq, h27, h4, h5⟩ := hΨ _ _ _ h3
  refine ⟨m2, ⟨_, _, (hI2.ref hq h4 h5).sm hsm⟩, h27, fun _ => ⟨vp_updL g 0 v, ?_, ?_⟩⟩
  · rw [h5 _ hI2.po8.1]; exact if_pos rfl
  · rw [hv]; exact pk_uLs
def opL (l : Launch) (G : kG) (B0 h hm po pd : Nat) (f : kH) (yL : MethodName) (wsL : List Cond) (avL : List Value) (yM : MethodName) (wsM : List Cond) (avM : List Value) : Prop :=
  ∃ (k : Nat) (rm : Room) (mc ms : Nat) (Φ : kH → Prop), k < 4 ∧ rmOk rm mc ms ∧ vx_Met l yL wsL rm (kP G B0 f avL) (kQi G B0 (fun r f2 => r = nI k ∧ Φ f2)) (kXN G B0) mc ms (kAb B0) ∧
    ∀ f2, Φ f2 → ∃ (rm2 : Room) (mc2 ms2 : Nat) (Ψ : Int64 → kH → Prop), rmOk rm2 mc2 ms2 ∧ Met l yM wsM rm2 (kP G B0 f2 avM) (kQl G B0 Ψ) mc2 ms2 (kAb B0) ∧ (∃ m0 : mSt, kCs f2 (mCs G hm m0)) ∧
      ∀ r f3, Ψ r f3 → ∃ m2 : mSt, Inv G h hm po pd f3 m2 ∧ m2.i27 = nI k ∧ (k = 0 → ∃ g, f3 po = some (kaJ G 1 g) ∧ g 0 = r)
theorem opL_thr {l : Launch} {G : kG} {B0 h hm po pd : Nat} {f : kH} {yL : MethodName} {wsL : List Cond} {avL : List Value} {yM : MethodName} {wsM : List Cond} {avM : List Value} {o : Nat → Nat} {c : cSt} {m m2 : mSt} (hI : Inv2 G h hm po pd f o c m m) (k : Nat) (hk : 0 < k ∧ k < 4) {post : kH → Prop} {P : Int64 → Prop} {rm rm2 : Room} {mc ms mc2 ms2 : Nat}
    (hcl : vx_Met l yL wsL rm (kP G B0 f avL) (kQi G B0 (fun r f2 => r = nI k ∧ post f2)) (kXN G B0) mc ms (kAb B0)) (hp : ∀ f2, post f2 → kKp [] f f2) (hb : rmOk rm mc ms)
    (hmd : ∀ f2, kCs f2 (mCs G hm m) → Met l yM wsM rm2 (kP G B0 f2 avM) (kQl G B0 (fun r f3 => P r ∧ kCs f3 (mCs G hm m2) ∧ kOff (mAs hm m.q) f2 f3)) mc2 ms2 (kAb B0)) (hb2 : rmOk rm2 mc2 ms2) (hsm : mAlike m m2) (hq : m2.q = m.q) (h27 : m2.i27 = nI k) : opL l G B0 h hm po pd f yL wsL avL yM wsM avM := by
  refine ⟨k, rm, mc, ms, post, hk.2, hb, hcl, fun f2 h2 => ?_⟩
  have hI2 := hI.new (hp f2 h2)
  refine ⟨rm2, mc2, ms2, _, hb2, hmd f2 hI2.mC, ⟨m, hI2.mC⟩, fun r f3 h3 => ?_⟩
  exact ⟨m2, ⟨_, _, (hI2.ref hq h3.2.1 h3.2.2).sm hsm⟩, h27, fun q => absurd q (by omega)⟩
theorem opL_ok {l : Launch} {G : kG} {B0 h hm po pd : Nat} {f : kH} {yL : MethodName} {wsL : List Cond} {avL : List Value} {yM : MethodName} {wsM : List Cond} {avM : List Value} {m m1 : mSt} (v : Int64) {Θ : kH → Prop} {Ψ : kH → Int64 → kH → Prop} {rm rm2 : Room} {mc ms mc2 ms2 : Nat}
    (hcl : vx_Met l yL wsL rm (kP G B0 f avL) (kQi G B0 (fun r f2 => r = nI 0 ∧ Θ f2)) (kXN G B0) mc ms (kAb B0)) (hΘ : ∀ f2, Θ f2 → ∃ f1 g o1 c1, Inv2 G h hm po pd f1 o1 c1 m1 m ∧ f1 po = some (kaJ G 1 g) ∧ f2 = kst f1 po (kaJ G 1 (vp_updL g 0 v))) (hb : rmOk rm mc ms)
    (hmd : ∀ f2, kCs f2 (mCs G hm m) → Met l yM wsM rm2 (kP G B0 f2 avM) (kQl G B0 (Ψ f2)) mc2 ms2 (kAb B0)) (hb2 : rmOk rm2 mc2 ms2)
    (hΨ : ∀ f2 r f3, Ψ f2 r f3 → r = v ∧ ∃ m2 : mSt, mAlike m1 m2 ∧ m2.q = m.q ∧ m2.i27 = nI 0 ∧ kCs f3 (mCs G hm m2) ∧ kOff (mAs hm m.q) f2 f3) : opL l G B0 h hm po pd f yL wsL avL yM wsM avM := by
  refine ⟨0, rm, mc, ms, Θ, by omega, hb, hcl, fun f2 h2 => ?_⟩
  obtain ⟨f1, g, o1, c1, hI1, hg, rfl⟩ := hΘ f2 h2
  have hI2 := hI1.put (vp_updL g 0 v)
  refine ⟨rm2, mc2, ms2, _, hb2, hmd _ hI2.mC, ⟨m, hI2.mC⟩, fun r f3 h3 => ?_⟩
  obtain ⟨hv, m2, hsm, hq, h27, h4, h5⟩ := hΨ _ _ _ h3
  refine ⟨m2, ⟨_, _, (hI2.ref hq h4 h5).sm hsm⟩, h27, fun _ => ⟨vp_updL g 0 v, ?_, ?_⟩⟩
  · rw [h5 _ hI2.po8.1]; exact if_pos rfl
  · rw [hv]; exact pk_uLs
