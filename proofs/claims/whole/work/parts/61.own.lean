/-! who owns which address: the heap in parts; the state of the class and of the reference between two calls -/
def fLe (f g : kH) : Prop := ∀ a e, f a = some e → g a = some e
theorem fLe.rf {f : kH} : fLe f f := fun _ _ h => h
def kR (o : Nat → Nat) (k : Nat) (f : kH) : kH := fun a => if o a = k then f a else none
def oN (o : Nat → Nat) (k : Nat) (f : kH) : Nat → Nat := fun a => if (f a).isSome = true then o a else k
theorem kR_some {o : Nat → Nat} {k : Nat} {f : kH} {a : Nat} {e : va_E} : kR o k f a = some e ↔ o a = k ∧ f a = some e := by
  unfold kR
  by_cases h : o a = k
  · rw [if_pos h]; exact ⟨fun q => ⟨h, q⟩, fun q => q.2⟩
  · rw [if_neg h]; exact ⟨fun q => (nomatch q), fun q => absurd q.1 h⟩
theorem kR_le (o : Nat → Nat) (k : Nat) (f : kH) : fLe (kR o k f) f := fun _ _ h => (kR_some.mp h).2
theorem oN_old {o : Nat → Nat} {k : Nat} {f : kH} {a : Nat} {e : va_E} (h : f a = some e) : oN o k f a = o a := by
  unfold oN; rw [if_pos (by rw [h]; rfl)]
theorem oN_new {o : Nat → Nat} {k : Nat} {f : kH} {a : Nat} (h : f a = none) : oN o k f a = k := by
  unfold oN; rw [if_neg (by rw [h]; exact fun q => nomatch q)]
theorem oN_own {o : Nat → Nat} {k : Nat} {f : kH} {a : Nat} (h : o a = k) : oN o k f a = k := by
  unfold oN; split
  · exact h
  · rfl
/-- the other parts stay -/
theorem kR_oth {o : Nat → Nat} {j k : Nat} {f f1 : kH} {as : List Nat} (hK : kKp as f f1) (ha : ∀ a ∈ as, ¬ o a = j) : fLe (kR o j f) (kR (oN o k f) j f1) := fun a e h => by
  obtain ⟨h1, h2⟩ := kR_some.mp h
  exact kR_some.mpr ⟨(oN_old h2).trans h1, hK a e (fun q => ha a q h1) h2⟩
/-- the part itself: what was there and was not written stays -/
theorem kR_own {o : Nat → Nat} {k : Nat} {f f1 : kH} {as : List Nat} (hK : kKp as f f1) : kKp as (kR o k f) (kR (oN o k f) k f1) := fun a e ha h => by
  obtain ⟨h1, h2⟩ := kR_some.mp h
  exact kR_some.mpr ⟨(oN_old h2).trans h1, hK a e ha h2⟩
theorem kR_none {o : Nat → Nat} {k : Nat} {f : kH} {a : Nat} (h : f a = none) : kR o k f a = none := by
  unfold kR; split
  · exact h
  · rfl
theorem kCs_own {o : Nat → Nat} {k : Nat} {f f1 : kH} {ws : va_W} (h : kCs f1 ws) (ho : ∀ q ∈ ws, o q.1 = k ∨ f q.1 = none) : kCs (kR (oN o k f) k f1) ws := ⟨fun q hq => kR_some.mpr ⟨(ho q hq).elim oN_own oN_new, h.1 q hq⟩, h.2⟩
theorem kCs_mem {o : Nat → Nat} {k : Nat} {f : kH} {ws : va_W} (h : kCs (kR o k f) ws) : ∀ q ∈ ws, o q.1 = k ∧ f q.1 = some q.2 := fun q hq => kR_some.mp (h.1 q hq)
theorem kCs.le {f g : kH} {ws : va_W} (h : kCs f ws) (hg : fLe f g) : kCs g ws := ⟨fun q hq => hg _ _ (h.1 q hq), h.2⟩
/-- two parts side by side -/
theorem kCs_app {o : Nat → Nat} {i j : Nat} {f : kH} {ws1 ws2 : va_W} (h1 : kCs (kR o i f) ws1) (h2 : kCs (kR o j f) ws2) (hij : i ≠ j) : kCs f (ws1 ++ ws2) := by
  refine ⟨fun q hq => ?_, ?_⟩
  · rcases List.mem_append.mp hq with h | h
    · exact (kCs_mem h1 q h).2
    · exact (kCs_mem h2 q h).2
  · rw [List.map_append, List.nodup_append]
    refine ⟨h1.2, h2.2, fun a ha b hb hab => ?_⟩
    obtain ⟨q, hq, rfl⟩ := List.mem_map.mp ha
    obtain ⟨r, hr, rfl⟩ := List.mem_map.mp hb
    exact hij ((kCs_mem h1 q hq).1.symm.trans ((by rw [hab]) : o q.1 = o r.1) |>.trans (kCs_mem h2 r hr).1)
theorem kLs.le {G : kG} {f g : kH} {dl sz : Nat} {w : Nat → Nat} {e : Nat → va_E} (h : kLs G f dl sz w e) (hg : fLe f g) : kLs G g dl sz w e := by
  obtain ⟨mc, v, h1, h2, h3, h4⟩ := h
  refine ⟨mc, v, hg _ _ h1, fun k hk => ?_, fun k hk => hg _ _ (h3 k hk), h4⟩
  obtain ⟨q, cap, g0, a1, a2, a3, a4⟩ := h2 k hk
  exact ⟨q, cap, g0, a1, a2, hg _ _ a3, a4⟩
/-- a list of objects: empty at first, or with an array of a known length -/
def kLst (G : kG) (f : kH) (dl sz : Nat) (w : Nat → Nat) : Prop := ∃ mc : Int32, (sz = 0 ∧ f dl = some (.inr (0, [.int mc, .ref (G.2.2 1), .int (nI 0)]))) ∨ ∃ (q cap : Nat) (g0 : Nat → Option Nat), kCs f [(dl, .inr (0, [.int mc, .ref q, .int (nI sz)])), (q, kaO G cap g0)] ∧ sz ≤ cap ∧ 10 ≤ cap ∧ cap < 64 ∧ (∀ k, k < sz → g0 k = some (w k) ∧ w k ≠ dl ∧ w k ≠ q) ∧ ∀ i j, i < sz → j < sz → ¬ i = j → w j ≠ w i
theorem kLst.le {G : kG} {f g : kH} {dl sz : Nat} {w : Nat → Nat} (h : kLst G f dl sz w) (hg : fLe f g) : kLst G g dl sz w := by
  obtain ⟨mc, h | ⟨q, cap, g0, h1, h2⟩⟩ := h
  · exact ⟨mc, .inl ⟨h.1, hg _ _ h.2⟩⟩
  · exact ⟨mc, .inr ⟨q, cap, g0, h1.le hg, h2⟩⟩
theorem kLst.ls {G : kG} {f : kH} {dl sz : Nat} {w : Nat → Nat} {e : Nat → va_E} (h : kLst G f dl sz w) (he : ∀ k, k < sz → f (w k) = some (e k)) : kLs G f dl sz w e := by
  obtain ⟨mc, ⟨h0, h1⟩ | ⟨q, cap, g0, h1, h2, h3, h4, h5, h6⟩⟩ := h
  · subst h0
    exact ⟨mc, _, h1, fun k hk => absurd hk (Nat.not_lt_zero _), fun k hk => absurd hk (Nat.not_lt_zero _), fun i _ hi => absurd hi (Nat.not_lt_zero _)⟩
  · refine ⟨mc, .ref q, h1.at 0 rfl, fun k hk => ⟨q, cap, g0, rfl, ?_, h1.at 1 rfl, h2, by omega, (h5 k hk).1⟩, he, h6⟩
    have := h1.2
    simp only [List.map_cons, List.map_nil, List.nodup_cons, List.mem_singleton] at this
    exact fun z => this.1 z.symm
/-- the reference's state -/
abbrev mSt : Type := (Nat → Nat) × Int32 × Int32 × Int32 × Int32 × Int32 × Int32 × Int32 × Int32 × Int64 × Int64 × (Nat → Int32) × (Nat → Int32) × (Nat → Int32) × (Nat → Int32) × (Nat → Int64) × (Nat → Int64) × (Nat → Int64) × (Nat → Int32) × (Nat → Int32) × (Nat → Int32) × (Nat → Int32) × (Nat → Int64) × (Nat → Int64) × (Nat → Int64) × (Nat → Int64) × (Nat → Int32) × (Nat → Int32) × (Nat → Int32)
abbrev mSt.q (m : mSt) : Nat → Nat := m.1
abbrev mSt.i0 (m : mSt) : Int32 := m.2.1
abbrev mSt.i1 (m : mSt) : Int32 := m.2.2.1
abbrev mSt.i3 (m : mSt) : Int32 := m.2.2.2.1
abbrev mSt.i7 (m : mSt) : Int32 := m.2.2.2.2.1
abbrev mSt.i18 (m : mSt) : Int32 := m.2.2.2.2.2.1
abbrev mSt.i22 (m : mSt) : Int32 := m.2.2.2.2.2.2.1
abbrev mSt.i23 (m : mSt) : Int32 := m.2.2.2.2.2.2.2.1
abbrev mSt.i27 (m : mSt) : Int32 := m.2.2.2.2.2.2.2.2.1
abbrev mSt.j16 (m : mSt) : Int64 := m.2.2.2.2.2.2.2.2.2.1
abbrev mSt.j17 (m : mSt) : Int64 := m.2.2.2.2.2.2.2.2.2.2.1
abbrev mSt.a2 (m : mSt) : Nat → Int32 := m.2.2.2.2.2.2.2.2.2.2.2.1
abbrev mSt.a4 (m : mSt) : Nat → Int32 := m.2.2.2.2.2.2.2.2.2.2.2.2.1
abbrev mSt.a5 (m : mSt) : Nat → Int32 := m.2.2.2.2.2.2.2.2.2.2.2.2.2.1
abbrev mSt.a6 (m : mSt) : Nat → Int32 := m.2.2.2.2.2.2.2.2.2.2.2.2.2.2.1
abbrev mSt.b8 (m : mSt) : Nat → Int64 := m.2.2.2.2.2.2.2.2.2.2.2.2.2.2.2.1
abbrev mSt.b9 (m : mSt) : Nat → Int64 := m.2.2.2.2.2.2.2.2.2.2.2.2.2.2.2.2.1
abbrev mSt.b10 (m : mSt) : Nat → Int64 := m.2.2.2.2.2.2.2.2.2.2.2.2.2.2.2.2.2.1
abbrev mSt.a11 (m : mSt) : Nat → Int32 := m.2.2.2.2.2.2.2.2.2.2.2.2.2.2.2.2.2.2.1
abbrev mSt.a12 (m : mSt) : Nat → Int32 := m.2.2.2.2.2.2.2.2.2.2.2.2.2.2.2.2.2.2.2.1
abbrev mSt.a13 (m : mSt) : Nat → Int32 := m.2.2.2.2.2.2.2.2.2.2.2.2.2.2.2.2.2.2.2.2.1
abbrev mSt.a14 (m : mSt) : Nat → Int32 := m.2.2.2.2.2.2.2.2.2.2.2.2.2.2.2.2.2.2.2.2.2.1
abbrev mSt.b15 (m : mSt) : Nat → Int64 := m.2.2.2.2.2.2.2.2.2.2.2.2.2.2.2.2.2.2.2.2.2.2.1
abbrev mSt.b19 (m : mSt) : Nat → Int64 := m.2.2.2.2.2.2.2.2.2.2.2.2.2.2.2.2.2.2.2.2.2.2.2.1
abbrev mSt.b20 (m : mSt) : Nat → Int64 := m.2.2.2.2.2.2.2.2.2.2.2.2.2.2.2.2.2.2.2.2.2.2.2.2.1
abbrev mSt.b21 (m : mSt) : Nat → Int64 := m.2.2.2.2.2.2.2.2.2.2.2.2.2.2.2.2.2.2.2.2.2.2.2.2.2.1
abbrev mSt.a24 (m : mSt) : Nat → Int32 := m.2.2.2.2.2.2.2.2.2.2.2.2.2.2.2.2.2.2.2.2.2.2.2.2.2.2.1
abbrev mSt.a25 (m : mSt) : Nat → Int32 := m.2.2.2.2.2.2.2.2.2.2.2.2.2.2.2.2.2.2.2.2.2.2.2.2.2.2.2.1
abbrev mSt.a26 (m : mSt) : Nat → Int32 := m.2.2.2.2.2.2.2.2.2.2.2.2.2.2.2.2.2.2.2.2.2.2.2.2.2.2.2.2
abbrev mMk (q : Nat → Nat) (i0 : Int32) (i1 : Int32) (i3 : Int32) (i7 : Int32) (i18 : Int32) (i22 : Int32) (i23 : Int32) (i27 : Int32) (j16 : Int64) (j17 : Int64) (a2 : Nat → Int32) (a4 : Nat → Int32) (a5 : Nat → Int32) (a6 : Nat → Int32) (b8 : Nat → Int64) (b9 : Nat → Int64) (b10 : Nat → Int64) (a11 : Nat → Int32) (a12 : Nat → Int32) (a13 : Nat → Int32) (a14 : Nat → Int32) (b15 : Nat → Int64) (b19 : Nat → Int64) (b20 : Nat → Int64) (b21 : Nat → Int64) (a24 : Nat → Int32) (a25 : Nat → Int32) (a26 : Nat → Int32) : mSt := (q, i0, i1, i3, i7, i18, i22, i23, i27, j16, j17, a2, a4, a5, a6, b8, b9, b10, a11, a12, a13, a14, b15, b19, b20, b21, a24, a25, a26)
abbrev mCs (G : kG) (h : Nat) (m : mSt) : va_W := mC G h m.q m.i0 m.i1 m.i3 m.i7 m.i18 m.i22 m.i23 m.i27 m.j16 m.j17 m.a2 m.a4 m.a5 m.a6 m.b8 m.b9 m.b10 m.a11 m.a12 m.a13 m.a14 m.b15 m.b19 m.b20 m.b21 m.a24 m.a25 m.a26
theorem mCs_fst (G : kG) (h : Nat) (m : mSt) : (mCs G h m).map Prod.fst = mAs h m.q := rfl
/-- where the class's parts lie -/
abbrev cSt : Type := Nat × Nat × Nat × Nat × Nat × Nat × Nat
abbrev cSt.sp (m : cSt) : Nat := m.1
abbrev cSt.dl (m : cSt) : Nat := m.2.1
abbrev cSt.gl (m : cSt) : Nat := m.2.2.1
abbrev cSt.rw (m : cSt) : Nat := m.2.2.2.1
abbrev cSt.ml (m : cSt) : Nat := m.2.2.2.2.1
abbrev cSt.pp (m : cSt) : Nat := m.2.2.2.2.2.1
abbrev cSt.nn (m : cSt) : Nat := m.2.2.2.2.2.2
abbrev cMk (sp : Nat) (dl : Nat) (gl : Nat) (rw : Nat) (ml : Nat) (pp : Nat) (nn : Nat) : cSt := (sp, dl, gl, rw, ml, pp, nn)
abbrev cHd (h : Nat) (c : cSt) : va_W := [(h, .inr (8, [.ref c.sp, .ref c.dl, .ref c.gl, .ref c.rw, .ref c.ml, .ref c.pp, .ref c.nn]))]
def cNet (G : kG) (g : kH) (c : cSt) (m : mSt) : Prop := ∃ (nA tA cc fc : Nat) (T : Nat → Int32), kCs g (nW G c.sp nA tA m.a2 T cc fc) ∧ m.i0 = nI cc ∧ m.i1 = nI fc ∧ nInv cc fc m.a2 T
def cDsk (G : kG) (g : kH) (c : cSt) (m : mSt) : Prop := ∃ (sz : Nat) (w : Nat → Nat) (dx dy dr : Nat → Int64), kLst G g c.dl sz w ∧ (∀ k, k < sz → g (w k) = some (dsE dx dy dr k)) ∧ sz ≤ 16 ∧ m.i3 = nI sz ∧ ∀ k, k < sz → dx k = (m.a4 k).toInt64 ∧ dy k = (m.a5 k).toInt64 ∧ dr k = (m.a6 k).toInt64 ∧ mDisk (m.a4 k) (m.a5 k) (m.a6 k)
def cGsk (G : kG) (g : kH) (c : cSt) (m : mSt) : Prop := ∃ (sz : Nat) (w g1 g2 g3 : Nat → Nat) (fo le wa : Nat → Nat → Int64), kLst G g c.gl sz w ∧ (∀ k, k < sz → kCs g [(w k, gkE g1 g2 g3 k), (g1 k, kaJ G 4 (fo k)), (g2 k, kaJ G 4 (le k)), (g3 k, kaJ G 4 (wa k))]) ∧ (∀ i j, i < sz → j < sz → ¬ i = j → g1 i ≠ g1 j ∧ g2 i ≠ g2 j ∧ g3 i ≠ g3 j) ∧ (∀ i j, i < sz → j < sz → g3 i ≠ g1 j ∧ g3 i ≠ g2 j ∧ g1 i ≠ g2 j) ∧ sz ≤ 8 ∧ m.i7 = nI sz ∧ ∀ k, k < sz → gInv (fo k) (le k) ∧ (∀ j, j < 4 → ((le k) j).toInt.natAbs ≤ 1000000) ∧ ∀ j, j < 4 → m.b8 (4 * k + j) = fo k j
def cWlk (G : kG) (g : kH) (c : cSt) (_ : mSt) : Prop := ∃ (sA wA : Nat) (gs gw : Nat → Int64), kCs g [(c.rw, .inr (5, [.ref sA, .ref wA])), (sA, kaJ G 64 gs), (wA, kaJ G 64 gw)]
def cMov (G : kG) (g : kH) (c : cSt) (m : mSt) : Prop := ∃ (sz : Nat) (w : Nat → Nat) (t1 t2 t3 t4 : Nat → Int64), kLst G g c.ml sz w ∧ (∀ k, k < sz → g (w k) = some (tbE t1 t2 t3 t4 k)) ∧ sz ≤ 4 ∧ m.i18 = nI sz ∧ ∀ k, k < sz → m.b19 (4 * k) = t1 k ∧ m.b19 (4 * k + 1) = t2 k ∧ m.b19 (4 * k + 2) = t3 k ∧ m.b19 (4 * k + 3) = t4 k ∧ ((t1 k).toInt.natAbs ≤ 1000000000 ∧ (t2 k).toInt.natAbs ≤ 1000000000 ∧ (t3 k).toInt.natAbs ≤ 1000000000 ∧ (t4 k).toInt.natAbs ≤ 1000000000)
def cPrd (_ : kG) (g : kH) (c : cSt) (m : mSt) : Prop := kCs g [(c.pp, .inr (6, [.long (m.b20 0), .long (m.b20 1), .long (m.b20 2), .long (m.b20 3)]))] ∧ ∀ k, k < 4 → (m.b20 k).toInt.natAbs ≤ 1000000000
def cNwk (G : kG) (g : kH) (c : cSt) (m : mSt) : Prop := ∃ (wL tA nc sz : Nat) (r z : Nat → Nat) (M : Nat → Nat → Int64) (w e1 e2 : Nat → Nat), kCs g (mxW G c.nn wL tA nc r z M) ∧ wL ∉ mxAs c.nn tA r ∧ mxZ z ∧ zInj 5 z ∧ kLst G g wL sz w ∧ (∀ k, k < sz → w k ∉ mxAs c.nn tA r ∧ g (w k) = some (.inr (7, [.int (nI (e1 k)), .int (nI (e2 k))]))) ∧ 2 ≤ nc ∧ nc ≤ 6 ∧ sz ≤ 10 ∧ m.i22 = nI nc ∧ m.i23 = nI sz ∧ ∀ k, k < sz → m.a24 k = nI (e1 k) ∧ m.a25 k = nI (e2 k) ∧ e1 k < nc ∧ e2 k < nc
/-- part k's heap g, the class as it should stand against the reference's m, the reference as it stands, mM -/
def cPt (G : kG) (h hm po pd : Nat) (c : cSt) (m mM : mSt) (k : Nat) (g : kH) : Prop :=
  match k with
  | 0 => kCs g (cHd h c)
  | 1 => cNet G g c m
  | 2 => cDsk G g c m
  | 3 => cGsk G g c m
  | 4 => cWlk G g c m
  | 5 => cMov G g c m
  | 6 => cPrd G g c m
  | 7 => cNwk G g c m
  | 8 => kCs g (mCs G hm mM)
  | 9 => ∃ g9, kCs g [(po, kaJ G 1 g9)]
  | 10 => ∃ g9, kCs g [(pd, kaD G 1 g9)]
  | _ => True
theorem cPt.le {G : kG} {h hm po pd : Nat} {c : cSt} {m mM : mSt} {k : Nat} {f g : kH} (hP : cPt G h hm po pd c m mM k f) (hg : fLe f g) : cPt G h hm po pd c m mM k g := by
  unfold cPt at hP ⊢
  split
  · exact hP.le hg
  · obtain ⟨nA, tA, cc, fc, T, h1, h2⟩ := hP
    exact ⟨nA, tA, cc, fc, T, h1.le hg, h2⟩
  · obtain ⟨sz, w, dx, dy, dr, h1, h2, h3⟩ := hP
    exact ⟨sz, w, dx, dy, dr, h1.le hg, fun k hk => hg _ _ (h2 k hk), h3⟩
  · obtain ⟨sz, w, g1, g2, g3, fo, le, wa, h1, h2, h3⟩ := hP
    exact ⟨sz, w, g1, g2, g3, fo, le, wa, h1.le hg, fun k hk => (h2 k hk).le hg, h3⟩
  · obtain ⟨sA, wA, gs, gw, h1⟩ := hP
    exact ⟨sA, wA, gs, gw, h1.le hg⟩
  · obtain ⟨sz, w, t1, t2, t3, t4, h1, h2, h3⟩ := hP
    exact ⟨sz, w, t1, t2, t3, t4, h1.le hg, fun k hk => hg _ _ (h2 k hk), h3⟩
  · exact ⟨hP.1.le hg, hP.2⟩
  · obtain ⟨wL, tA, nc, sz, r, z, M, w, e1, e2, h1, h2, h3, h3', h4, h5, h6⟩ := hP
    exact ⟨wL, tA, nc, sz, r, z, M, w, e1, e2, h1.le hg, h2, h3, h3', h4.le hg, fun k hk => ⟨(h5 k hk).1, hg _ _ (h5 k hk).2⟩, h6⟩
  · exact hP.le hg
  · exact ⟨hP.choose, hP.choose_spec.le hg⟩
  · exact ⟨hP.choose, hP.choose_spec.le hg⟩
  · trivial
/-- the state between: every part holds of its own heap -/
def Inv2 (G : kG) (h hm po pd : Nat) (f : kH) (o : Nat → Nat) (c : cSt) (m mM : mSt) : Prop := ∀ k, cPt G h hm po pd c m mM k (kR o k f)
def Inv (G : kG) (h hm po pd : Nat) (f : kH) (m : mSt) : Prop := ∃ o c, Inv2 G h hm po pd f o c m m
/-- a step that writes addresses of part k only (new ones are k's) -/
theorem Inv2.step {G : kG} {h hm po pd : Nat} {f f1 : kH} {o : Nat → Nat} {c c1 : cSt} {m mM m1 mM1 : mSt} (hI : Inv2 G h hm po pd f o c m mM) (k : Nat) {as : List Nat} (hK : kKp as f f1) (has : ∀ a ∈ as, o a = k)
    (hk : cPt G h hm po pd c1 m1 mM1 k (kR (oN o k f) k f1)) (hoth : ∀ j g, j ≠ k → cPt G h hm po pd c m mM j g → cPt G h hm po pd c1 m1 mM1 j g) : Inv2 G h hm po pd f1 (oN o k f) c1 m1 mM1 := fun j => by
  by_cases hj : j = k
  · subst hj; exact hk
  · exact hoth j _ hj ((hI j).le (kR_oth hK (fun a ha q => hj (q.symm.trans (has a ha)))))
/-- only the reference's own scratch changes -/
theorem cPt_oth8 {G : kG} {h hm po pd : Nat} {c : cSt} {m mM mM1 : mSt} : ∀ (j : Nat) (g : kH), j ≠ 8 → cPt G h hm po pd c m mM j g → cPt G h hm po pd c m mM1 j g := fun j g hj hP => by
  unfold cPt at hP ⊢
  split
  case h_9 => exact absurd rfl hj
  all_goals first | exact hP | trivial
theorem Inv2.hd {G : kG} {h hm po pd : Nat} {f : kH} {o : Nat → Nat} {c : cSt} {m mM : mSt} (hI : Inv2 G h hm po pd f o c m mM) : f h = some (.inr (8, [.ref c.sp, .ref c.dl, .ref c.gl, .ref c.rw, .ref c.ml, .ref c.pp, .ref c.nn])) := (kCs_mem (hI 0) _ List.mem_cons_self).2
theorem Inv2.mC {G : kG} {h hm po pd : Nat} {f : kH} {o : Nat → Nat} {c : cSt} {m mM : mSt} (hI : Inv2 G h hm po pd f o c m mM) : kCs f (mCs G hm mM) := kCs.le (hI 8) (kR_le _ _ _)
theorem Inv2.out {G : kG} {h hm po pd : Nat} {f : kH} {o : Nat → Nat} {c : cSt} {m mM : mSt} (hI : Inv2 G h hm po pd f o c m mM) : ∃ g, f po = some (kaJ G 1 g) := ⟨_, (kCs_mem (hI 9).choose_spec _ List.mem_cons_self).2⟩
theorem Inv2.outD {G : kG} {h hm po pd : Nat} {f : kH} {o : Nat → Nat} {c : cSt} {m mM : mSt} (hI : Inv2 G h hm po pd f o c m mM) : ∃ g, f pd = some (kaD G 1 g) := ⟨_, (kCs_mem (hI 10).choose_spec _ List.mem_cons_self).2⟩
theorem kKp_put {f : kH} {a : Nat} {e : va_E} : kKp [a] f (kst f a e) := fun b e1 hb h => by
  unfold kst; rw [if_neg (fun q => hb (by rw [q]; exact List.mem_cons_self))]; exact h
/-- an answer put down -/
theorem Inv2.put {G : kG} {h hm po pd : Nat} {f : kH} {o : Nat → Nat} {c : cSt} {m mM : mSt} (hI : Inv2 G h hm po pd f o c m mM) (g : Nat → Int64) : Inv2 G h hm po pd (kst f po (kaJ G 1 g)) (oN o 9 f) c m mM := by
  obtain ⟨g9, h9⟩ := hI 9
  have hp := kCs_mem h9 _ List.mem_cons_self
  refine hI.step 9 kKp_put (fun a ha => by rw [List.mem_singleton.mp ha]; exact hp.1) ⟨g, ?_⟩ (fun _ _ _ h => h)
  refine kCs_own ⟨fun q hq => ?_, by simp⟩ (fun q hq => ?_)
  · rw [List.mem_singleton.mp hq]; exact if_pos rfl
  · rw [List.mem_singleton.mp hq]; exact .inl hp.1
/-- the reference's step -/
theorem Inv2.ref {G : kG} {h hm po pd : Nat} {f f1 : kH} {o : Nat → Nat} {c : cSt} {m mM mM1 : mSt} (hI : Inv2 G h hm po pd f o c m mM) (hq : mM1.q = mM.q) (h1 : kCs f1 (mCs G hm mM1)) (hO : kOff (mAs hm mM.q) f f1) : Inv2 G h hm po pd f1 (oN o 8 f) c m mM1 := by
  have hmem : ∀ a ∈ mAs hm mM.q, o a = 8 := fun a ha => by
    have h8 := hI 8
    have : a ∈ (mCs G hm mM).map Prod.fst := by rw [mCs_fst]; exact ha
    obtain ⟨q, hq, rfl⟩ := List.mem_map.mp this
    exact (kCs_mem h8 q hq).1
  refine hI.step 8 (kKp.of hO) hmem ?_ cPt_oth8
  refine kCs_own h1 (fun q hq2 => .inl (hmem _ ?_))
  have : q.1 ∈ (mCs G hm mM1).map Prod.fst := List.mem_map.mpr ⟨q, hq2, rfl⟩
  rw [← hq, ← mCs_fst G hm mM1]
  exact this
