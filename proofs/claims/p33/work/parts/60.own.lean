/-! who owns which address: the heap in parts; the state of the class and of the reference between two calls -/
def fLe (f g : kH) : Prop := ∀ a e, f a = some e → g a = some e
theorem fLe.rf {f : kH} : fLe f f := fun _ _ h => h
def kR (o : Nat → Nat) (k : Nat) (f : kH) : kH := fun a => if o a = k then f a else none
def oN (o : Nat → Nat) (k : Nat) (f : kH) : Nat → Nat := fun a => if (f a).isSome = true then o a else k
theorem kR_some {o : Nat → Nat} {k : Nat} {f : kH} {a : Nat} {e : va_E} : kR o k f a = some e ↔ o a = k ∧ f a = some e := by
  unfold kR
  by_cases h : o a = k
  · rw [if_pos h]; exact ⟨fun q => ⟨h, q⟩, fun q => q.2⟩
  · rw [if_neg h]; exact ⟨fun q => (nomatch q), fun q => absurd q.1 h⟩
theorem kR_le (o : Nat → Nat) (k : Nat) (f : kH) : fLe (kR o k f) f := fun _ _ h => (kR_some.mp h).2
theorem oN_old {o : Nat → Nat} {k : Nat} {f : kH} {a : Nat} {e : va_E} (h : f a = some e) : oN o k f a = o a := by
  unfold oN; rw [if_pos (by rw [h]; rfl)]
theorem oN_new {o : Nat → Nat} {k : Nat} {f : kH} {a : Nat} (h : f a = none) : oN o k f a = k := by
  unfold oN; rw [if_neg (by rw [h]; exact fun q => nomatch q)]
theorem oN_own {o : Nat → Nat} {k : Nat} {f : kH} {a : Nat} (h : o a = k) : oN o k f a = k := by
  unfold oN; split
  · exact h
  · rfl
/-- the other parts stay -/
theorem kR_oth {o : Nat → Nat} {j k : Nat} {f f1 : kH} {as : List Nat} (hK : kKp as f f1) (ha : ∀ a ∈ as, ¬ o a = j) : fLe (kR o j f) (kR (oN o k f) j f1) := fun a e h => by
  obtain ⟨h1, h2⟩ := kR_some.mp h
  exact kR_some.mpr ⟨(oN_old h2).trans h1, hK a e (fun q => ha a q h1) h2⟩
/-- the part itself: what was there and was not written stays -/
theorem kR_own {o : Nat → Nat} {k : Nat} {f f1 : kH} {as : List Nat} (hK : kKp as f f1) : kKp as (kR o k f) (kR (oN o k f) k f1) := fun a e ha h => by
  obtain ⟨h1, h2⟩ := kR_some.mp h
  exact kR_some.mpr ⟨(oN_old h2).trans h1, hK a e ha h2⟩
theorem kR_none {o : Nat → Nat} {k : Nat} {f : kH} {a : Nat} (h : f a = none) : kR o k f a = none := by
  unfold kR; split
  · exact h
  · rfl
theorem kCs_own {o : Nat → Nat} {k : Nat} {f f1 : kH} {ws : va_W} (h : kCs f1 ws) (ho : ∀ q ∈ ws, o q.1 = k ∨ f q.1 = none) : kCs (kR (oN o k f) k f1) ws := ⟨fun q hq => kR_some.mpr ⟨(ho q hq).elim oN_own oN_new, h.1 q hq⟩, h.2⟩
theorem kCs_mem {o : Nat → Nat} {k : Nat} {f : kH} {ws : va_W} (h : kCs (kR o k f) ws) : ∀ q ∈ ws, o q.1 = k ∧ f q.1 = some q.2 := fun q hq => kR_some.mp (h.1 q hq)
theorem kCs.le {f g : kH} {ws : va_W} (h : kCs f ws) (hg : fLe f g) : kCs g ws := ⟨fun q hq => hg _ _ (h.1 q hq), h.2⟩
/-- two parts side by side -/
theorem kCs_app {o : Nat → Nat} {i j : Nat} {f : kH} {ws1 ws2 : va_W} (h1 : kCs (kR o i f) ws1) (h2 : kCs (kR o j f) ws2) (hij : i ≠ j) : kCs f (ws1 ++ ws2) := by
  refine ⟨fun q hq => ?_, ?_⟩
  · rcases List.mem_append.mp hq with h | h
    · exact (kCs_mem h1 q h).2
    · exact (kCs_mem h2 q h).2
  · rw [List.map_append, List.nodup_append]
    refine ⟨h1.2, h2.2, fun a ha b hb hab => ?_⟩
    obtain ⟨q, hq, rfl⟩ := List.mem_map.mp ha
    obtain ⟨r, hr, rfl⟩ := List.mem_map.mp hb
    exact hij ((kCs_mem h1 q hq).1.symm.trans ((by rw [hab]) : o q.1 = o r.1) |>.trans (kCs_mem h2 r hr).1)
theorem kLs.le {G : kG} {f g : kH} {dl sz : Nat} {w : Nat → Nat} {e : Nat → va_E} (h : kLs G f dl sz w e) (hg : fLe f g) : kLs G g dl sz w e := by
  obtain ⟨mc, v, h1, h2, h3, h4⟩ := h
  refine ⟨mc, v, hg _ _ h1, fun k hk => ?_, fun k hk => hg _ _ (h3 k hk), h4⟩
  obtain ⟨q, cap, g0, a1, a2, a3, a4⟩ := h2 k hk
  exact ⟨q, cap, g0, a1, a2, hg _ _ a3, a4⟩
/-- a list of objects: empty at first, or with an array of a known length -/
def kLst (G : kG) (f : kH) (dl sz : Nat) (w : Nat → Nat) : Prop := ∃ mc : Int32, (sz = 0 ∧ f dl = some (.inr (0, [.int mc, .ref (G.2.2 1), .int (nI 0)]))) ∨ ∃ (q cap : Nat) (g0 : Nat → Option Nat), kCs f [(dl, .inr (0, [.int mc, .ref q, .int (nI sz)])), (q, kaO G cap g0)] ∧ sz ≤ cap ∧ 10 ≤ cap ∧ cap < 64 ∧ (∀ k, k < sz → g0 k = some (w k) ∧ w k ≠ dl ∧ w k ≠ q) ∧ ∀ i j, i < sz → j < sz → ¬ i = j → w j ≠ w i
theorem kLst.le {G : kG} {f g : kH} {dl sz : Nat} {w : Nat → Nat} (h : kLst G f dl sz w) (hg : fLe f g) : kLst G g dl sz w := by
  obtain ⟨mc, h | ⟨q, cap, g0, h1, h2⟩⟩ := h
  · exact ⟨mc, .inl ⟨h.1, hg _ _ h.2⟩⟩
  · exact ⟨mc, .inr ⟨q, cap, g0, h1.le hg, h2⟩⟩
theorem kLst.ls {G : kG} {f : kH} {dl sz : Nat} {w : Nat → Nat} {e : Nat → va_E} (h : kLst G f dl sz w) (he : ∀ k, k < sz → f (w k) = some (e k)) : kLs G f dl sz w e := by
  obtain ⟨mc, ⟨h0, h1⟩ | ⟨q, cap, g0, h1, h2, h3, h4, h5, h6⟩⟩ := h
  · subst h0
    exact ⟨mc, _, h1, fun k hk => absurd hk (Nat.not_lt_zero _), fun k hk => absurd hk (Nat.not_lt_zero _), fun i _ hi => absurd hi (Nat.not_lt_zero _)⟩
  · refine ⟨mc, .ref q, h1.at 0 rfl, fun k hk => ⟨q, cap, g0, rfl, ?_, h1.at 1 rfl, h2, by omega, (h5 k hk).1⟩, he, h6⟩
    have := h1.2
    simp only [List.map_cons, List.map_nil, List.nodup_cons, List.mem_singleton] at this
    exact fun z => this.1 z.symm
/-- the state of the object: its net, disks, gaskets with their roots, moves, product, network -/
abbrev pSt : Type := Nat × Nat × Nat × Nat × Nat × Nat × Nat × (Nat → Int32) × (Nat → Int32) × (Nat → Int32) × (Nat → Int32) × (Nat → Int64) × (Nat → Int64) × (Nat → Int64) × (Nat → Int64) × (Nat → Nat) × (Nat → Nat)
abbrev pSt.cc (m : pSt) : Nat := m.1
abbrev pSt.fc (m : pSt) : Nat := m.2.1
abbrev pSt.nd (m : pSt) : Nat := m.2.2.1
abbrev pSt.ng (m : pSt) : Nat := m.2.2.2.1
abbrev pSt.nm (m : pSt) : Nat := m.2.2.2.2.1
abbrev pSt.nc (m : pSt) : Nat := m.2.2.2.2.2.1
abbrev pSt.nw (m : pSt) : Nat := m.2.2.2.2.2.2.1
abbrev pSt.fa (m : pSt) : Nat → Int32 := m.2.2.2.2.2.2.2.1
abbrev pSt.dx (m : pSt) : Nat → Int32 := m.2.2.2.2.2.2.2.2.1
abbrev pSt.dy (m : pSt) : Nat → Int32 := m.2.2.2.2.2.2.2.2.2.1
abbrev pSt.dr (m : pSt) : Nat → Int32 := m.2.2.2.2.2.2.2.2.2.2.1
abbrev pSt.fo (m : pSt) : Nat → Int64 := m.2.2.2.2.2.2.2.2.2.2.2.1
abbrev pSt.ro (m : pSt) : Nat → Int64 := m.2.2.2.2.2.2.2.2.2.2.2.2.1
abbrev pSt.mv (m : pSt) : Nat → Int64 := m.2.2.2.2.2.2.2.2.2.2.2.2.2.1
abbrev pSt.pr (m : pSt) : Nat → Int64 := m.2.2.2.2.2.2.2.2.2.2.2.2.2.2.1
abbrev pSt.ea (m : pSt) : Nat → Nat := m.2.2.2.2.2.2.2.2.2.2.2.2.2.2.2.1
abbrev pSt.eb (m : pSt) : Nat → Nat := m.2.2.2.2.2.2.2.2.2.2.2.2.2.2.2.2
abbrev pMk (cc : Nat) (fc : Nat) (nd : Nat) (ng : Nat) (nm : Nat) (nc : Nat) (nw : Nat) (fa : Nat → Int32) (dx : Nat → Int32) (dy : Nat → Int32) (dr : Nat → Int32) (fo : Nat → Int64) (ro : Nat → Int64) (mv : Nat → Int64) (pr : Nat → Int64) (ea : Nat → Nat) (eb : Nat → Nat) : pSt := (cc, fc, nd, ng, nm, nc, nw, fa, dx, dy, dr, fo, ro, mv, pr, ea, eb)
/-- where the class's parts lie -/
abbrev cSt : Type := Nat × Nat × Nat × Nat × Nat × Nat × Nat
abbrev cSt.sp (m : cSt) : Nat := m.1
abbrev cSt.dl (m : cSt) : Nat := m.2.1
abbrev cSt.gl (m : cSt) : Nat := m.2.2.1
abbrev cSt.rw (m : cSt) : Nat := m.2.2.2.1
abbrev cSt.ml (m : cSt) : Nat := m.2.2.2.2.1
abbrev cSt.pp (m : cSt) : Nat := m.2.2.2.2.2.1
abbrev cSt.nn (m : cSt) : Nat := m.2.2.2.2.2.2
abbrev cMk (sp : Nat) (dl : Nat) (gl : Nat) (rw : Nat) (ml : Nat) (pp : Nat) (nn : Nat) : cSt := (sp, dl, gl, rw, ml, pp, nn)
abbrev cHd (h : Nat) (c : cSt) : va_W := [(h, .inr (8, [.ref c.sp, .ref c.dl, .ref c.gl, .ref c.rw, .ref c.ml, .ref c.pp, .ref c.nn]))]
def cNet (G : kG) (g : kH) (c : cSt) (m : pSt) : Prop := ∃ (nA tA cc fc : Nat) (T : Nat → Int32), kCs g (nW G c.sp nA tA m.fa T cc fc) ∧ m.cc = cc ∧ m.fc = fc ∧ nInv cc fc m.fa T
def cDsk (G : kG) (g : kH) (c : cSt) (m : pSt) : Prop := ∃ (sz : Nat) (w : Nat → Nat) (dx dy dr : Nat → Int64), kLst G g c.dl sz w ∧ (∀ k, k < sz → g (w k) = some (dsE dx dy dr k)) ∧ sz ≤ 16 ∧ m.nd = sz ∧ ∀ k, k < sz → dx k = (m.dx k).toInt64 ∧ dy k = (m.dy k).toInt64 ∧ dr k = (m.dr k).toInt64 ∧ mDisk (m.dx k) (m.dy k) (m.dr k)
def cGsk (G : kG) (g : kH) (c : cSt) (m : pSt) : Prop := ∃ (sz : Nat) (w g1 g2 g3 : Nat → Nat) (fo le wa : Nat → Nat → Int64), kLst G g c.gl sz w ∧ (∀ k, k < sz → kCs g [(w k, gkE g1 g2 g3 k), (g1 k, kaJ G 4 (fo k)), (g2 k, kaJ G 4 (le k)), (g3 k, kaJ G 4 (wa k))]) ∧ (∀ i j, i < sz → j < sz → ¬ i = j → g1 i ≠ g1 j ∧ g2 i ≠ g2 j ∧ g3 i ≠ g3 j) ∧ (∀ i j, i < sz → j < sz → g3 i ≠ g1 j ∧ g3 i ≠ g2 j ∧ g1 i ≠ g2 j) ∧ sz ≤ 8 ∧ m.ng = sz ∧ ∀ k, k < sz → gInv (fo k) (le k) ∧ (∀ j, j < 4 → ((le k) j).toInt.natAbs ≤ 1000000) ∧ (∀ j, j < 4 → m.fo (4 * k + j) = fo k j) ∧ ∀ j, j < 4 → m.ro (4 * k + j) = le k j
def cWlk (G : kG) (g : kH) (c : cSt) (_ : pSt) : Prop := ∃ (sA wA : Nat) (gs gw : Nat → Int64), kCs g [(c.rw, .inr (5, [.ref sA, .ref wA])), (sA, kaJ G 64 gs), (wA, kaJ G 64 gw)]
def cMov (G : kG) (g : kH) (c : cSt) (m : pSt) : Prop := ∃ (sz : Nat) (w : Nat → Nat) (t1 t2 t3 t4 : Nat → Int64), kLst G g c.ml sz w ∧ (∀ k, k < sz → g (w k) = some (tbE t1 t2 t3 t4 k)) ∧ sz ≤ 4 ∧ m.nm = sz ∧ ∀ k, k < sz → m.mv (4 * k) = t1 k ∧ m.mv (4 * k + 1) = t2 k ∧ m.mv (4 * k + 2) = t3 k ∧ m.mv (4 * k + 3) = t4 k ∧ ((t1 k).toInt.natAbs ≤ 1000000000 ∧ (t2 k).toInt.natAbs ≤ 1000000000 ∧ (t3 k).toInt.natAbs ≤ 1000000000 ∧ (t4 k).toInt.natAbs ≤ 1000000000)
def cPrd (_ : kG) (g : kH) (c : cSt) (m : pSt) : Prop := kCs g [(c.pp, .inr (6, [.long (m.pr 0), .long (m.pr 1), .long (m.pr 2), .long (m.pr 3)]))] ∧ ∀ k, k < 4 → (m.pr k).toInt.natAbs ≤ 1000000000
def cNwk (G : kG) (g : kH) (c : cSt) (m : pSt) : Prop := ∃ (wL tA nc sz : Nat) (r z : Nat → Nat) (M : Nat → Nat → Int64) (w : Nat → Nat), kCs g (mxW G c.nn wL tA nc r z M) ∧ wL ∉ mxAs c.nn tA r ∧ mxZ z ∧ zInj 5 z ∧ kLst G g wL sz w ∧ (∀ k, k < sz → w k ∉ mxAs c.nn tA r ∧ g (w k) = some (.inr (7, [.int (nI (m.ea k)), .int (nI (m.eb k))]))) ∧ 2 ≤ nc ∧ nc ≤ 6 ∧ sz ≤ 10 ∧ m.nc = nc ∧ m.nw = sz ∧ ∀ k, k < sz → m.ea k < nc ∧ m.eb k < nc
/-- part k's heap g of the object at h, which stands as m -/
def cPt (G : kG) (h : Nat) (c : cSt) (m : pSt) (k : Nat) (g : kH) : Prop :=
  match k with
  | 0 => kCs g (cHd h c)
  | 1 => cNet G g c m
  | 2 => cDsk G g c m
  | 3 => cGsk G g c m
  | 4 => cWlk G g c m
  | 5 => cMov G g c m
  | 6 => cPrd G g c m
  | 7 => cNwk G g c m
  | _ => True
theorem cPt.le {G : kG} {h : Nat} {c : cSt} {m : pSt} {k : Nat} {f g : kH} (hP : cPt G h c m k f) (hg : fLe f g) : cPt G h c m k g := by
  unfold cPt at hP ⊢
  split
  · exact hP.le hg
  · obtain ⟨nA, tA, cc, fc, T, h1, h2⟩ := hP
    exact ⟨nA, tA, cc, fc, T, h1.le hg, h2⟩
  · obtain ⟨sz, w, dx, dy, dr, h1, h2, h3⟩ := hP
    exact ⟨sz, w, dx, dy, dr, h1.le hg, fun k hk => hg _ _ (h2 k hk), h3⟩
  · obtain ⟨sz, w, g1, g2, g3, fo, le, wa, h1, h2, h3⟩ := hP
    exact ⟨sz, w, g1, g2, g3, fo, le, wa, h1.le hg, fun k hk => (h2 k hk).le hg, h3⟩
  · obtain ⟨sA, wA, gs, gw, h1⟩ := hP
    exact ⟨sA, wA, gs, gw, h1.le hg⟩
  · obtain ⟨sz, w, t1, t2, t3, t4, h1, h2, h3⟩ := hP
    exact ⟨sz, w, t1, t2, t3, t4, h1.le hg, fun k hk => hg _ _ (h2 k hk), h3⟩
  · exact ⟨hP.1.le hg, hP.2⟩
  · obtain ⟨wL, tA, nc, sz, r, z, M, w, h1, h2, h3, h3', h4, h5, h6⟩ := hP
    exact ⟨wL, tA, nc, sz, r, z, M, w, h1.le hg, h2, h3, h3', h4.le hg, fun k hk => ⟨(h5 k hk).1, hg _ _ (h5 k hk).2⟩, h6⟩
  · trivial
/-- the object between two calls: every part holds of its own heap; what is nobody's is part 8's -/
def Inv2 (G : kG) (h : Nat) (f : kH) (o : Nat → Nat) (c : cSt) (m : pSt) : Prop := ∀ k, cPt G h c m k (kR o k f)
def Inv (G : kG) (h : Nat) (f : kH) (m : pSt) : Prop := ∃ o c, Inv2 G h f o c m
theorem Inv2.step {G : kG} {h : Nat} {f f1 : kH} {o : Nat → Nat} {c c1 : cSt} {m m1 : pSt} (hI : Inv2 G h f o c m) (k : Nat) {as : List Nat} (hK : kKp as f f1) (has : ∀ a ∈ as, o a = k)
    (hk : cPt G h c1 m1 k (kR (oN o k f) k f1)) (hoth : ∀ j g, j ≠ k → cPt G h c m j g → cPt G h c1 m1 j g) : Inv2 G h f1 (oN o k f) c1 m1 := fun j => by
  by_cases hj : j = k
  · subst hj; exact hk
  · exact hoth j _ hj ((hI j).le (kR_oth hK (fun a ha q => hj (q.symm.trans (has a ha)))))
theorem Inv2.hd {G : kG} {h : Nat} {f : kH} {o : Nat → Nat} {c : cSt} {m : pSt} (hI : Inv2 G h f o c m) : f h = some (.inr (8, [.ref c.sp, .ref c.dl, .ref c.gl, .ref c.rw, .ref c.ml, .ref c.pp, .ref c.nn])) := (kCs_mem (hI 0) _ List.mem_cons_self).2
/-- new cells that nobody keeps -/
theorem Inv2.new {G : kG} {h : Nat} {f f1 : kH} {o : Nat → Nat} {c : cSt} {m : pSt} (hI : Inv2 G h f o c m) (hK : kKp [] f f1) : Inv2 G h f1 (oN o 8 f) c m := hI.step 8 hK (fun _ h => (nomatch h)) trivial (fun _ _ _ h => h)
theorem kKp_put {f : kH} {a : Nat} {e : va_E} : kKp [a] f (kst f a e) := fun b e1 hb h => by
  unfold kst; rw [if_neg (fun q => hb (by rw [q]; exact List.mem_cons_self))]; exact h
