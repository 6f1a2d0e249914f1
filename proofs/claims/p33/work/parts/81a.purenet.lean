/-! the net: an edge flipped there and back; how many edges; the corners around -/
def nSA (cc fc : Nat) (A : Nat → Int32) (th : nTh) : Prop := ∃ (N : Nat → Nat) (T : Nat → Int32) (fo : Nat → Nat → Nat), nSt cc fc N th fo ∧ nNam A N fc ∧ nTab T th
theorem Inv.nsa {G : kG} {h : Nat} {f : kH} {m : pSt} (hI : Inv G h f m) : ∃ th, nSA m.cc m.fc m.fa th := by
  obtain ⟨T, N, th, fo, hs, hA, hT⟩ := hI.net
  exact ⟨th, N, T, fo, hs, hA, hT⟩
section PN
variable {cc fc : Nat} {A A' : Nat → Int32} {th th' : nTh} {x y u v : Nat}
theorem nSA.facts (h : nSA cc fc A th) (e1 : th x y = some u) (e2 : th y x = some v) (e3 : th u v = none) : x < cc ∧ y < cc ∧ u < cc ∧ v < cc ∧ x ≠ y ∧ y ≠ u ∧ x ≠ u ∧ x ≠ v ∧ y ≠ v ∧ u ≠ v ∧ th y u = some x ∧ th u x = some y ∧ th x v = some y ∧ th v y = some x ∧ th v u = none := by
  obtain ⟨N, T, fo, hs, hA, hT⟩ := h
  obtain ⟨-, a1, a2, a3, a4, a5, a6⟩ := hs.at e1
  obtain ⟨-, b1, b2, b3, b4, b5, b6⟩ := hs.at e2
  obtain ⟨-, -, huv, -⟩ := hs.flip e1 e2 e3
  have r1 := (hs.rot e1).1
  have r2 := (hs.rot r1).1
  have r3 := (hs.rot e2).1
  have r4 := (hs.rot r3).1
  refine ⟨a1, a2, a3, b3, a4, a5, a6, b5, b6, huv, r1, r2, r3, r4, ?_⟩
  exact Decidable.byContradiction fun q => hs.sym q e3
theorem fTh_at (h1 : x ≠ y) (h2 : y ≠ u) (h3 : x ≠ u) (h4 : x ≠ v) (h5 : y ≠ v) (h6 : u ≠ v) : fTh th x y u v u v = some y ∧ fTh th x y u v v u = some x ∧ fTh th x y u v x y = none ∧ fTh th x y u v y x = none := by
  refine ⟨?_, ?_, ?_, ?_⟩ <;> (unfold fTh pT; grind)
theorem fTh_back1 (h : nSA cc fc A th) (e1 : th x y = some u) (e2 : th y x = some v) (e3 : th u v = none) (a b : Nat) : fTh (fTh th x y u v) u v y x a b = th a b := by
  obtain ⟨-, -, -, -, h1, h2, h3, h4, h5, h6, r1, r2, r3, r4, r5⟩ := h.facts e1 e2 e3
  unfold fTh pT
  grind
theorem fTh_back2 (h : nSA cc fc A th) (e1 : th x y = some u) (e2 : th y x = some v) (e3 : th u v = none) (a b : Nat) : fTh (fTh th x y u v) v u x y a b = th a b := by
  obtain ⟨-, -, -, -, h1, h2, h3, h4, h5, h6, r1, r2, r3, r4, r5⟩ := h.facts e1 e2 e3
  unfold fTh pT
  grind
theorem nSA.flip (h : nSA cc fc A th) (e1 : th x y = some u) (e2 : th y x = some v) (e3 : th u v = none) : mCanFlip A fc (nI x) (nI y) ∧ pFlO A fc (nI x) (nI y) = u ∧ pFlO A fc (nI y) (nI x) = v ∧ nSA cc fc (pFlp A fc (nI x) (nI y)) (fTh th x y u v) := by
  obtain ⟨hxc, hyc, huc, hvc, h1, h2, h3, h4, h5, h6, -⟩ := h.facts e1 e2 e3
  obtain ⟨N, T, fo, hs, hA, hT⟩ := h
  have h16 := hs.2.1
  have hfc := hs.2.2.1
  obtain ⟨f1, f2, huv, hI⟩ := hs.flip e1 e2 e3
  have n1 : th x y ≠ none := by rw [e1]; exact fun z => nomatch z
  have n2 : th y x ≠ none := by rw [e2]; exact fun z => nomatch z
  have d7 : mFaceOf A (nI x) (nI y) (3 * fc) = nI (fo x y) := by rw [mFaceOf_th hs hA hxc hyc, if_pos n1]
  have d8 : mFaceOf A (nI y) (nI x) (3 * fc) = nI (fo y x) := by rw [mFaceOf_th hs hA hyc hxc, if_pos n2]
  have k1 : pFlF A fc (nI x) (nI y) = fo x y := by rw [pFlF, d7]; exact nI_clamp (by omega)
  have k2 : pFlF A fc (nI y) (nI x) = fo y x := by rw [pFlF, d8]; exact nI_clamp (by omega)
  have k3 : pFlO A fc (nI x) (nI y) = u := by rw [pFlO, nOpp_at hs hA e1]; exact nI_clamp (by omega)
  have k4 : pFlO A fc (nI y) (nI x) = v := by rw [pFlO, nOpp_at hs hA e2]; exact nI_clamp (by omega)
  have k5 : (nI x).toNatClampNeg = x := nI_clamp (by omega)
  have k6 : (nI y).toNatClampNeg = y := nI_clamp (by omega)
  refine ⟨(flip_th hs hA hT hxc hyc).2.mpr ⟨u, v, e1, e2, e3⟩, k3, k4, _, nPutT (nPutT (upd (upd T (16 * x + y) (-1)) (16 * y + x) (-1)) x v u) v y u, _, hI, ?_, ?_⟩
  · rw [pFlp, k1, k2, k3, k4, k5, k6]
    exact nPutN_nam (n := fc) (nPutN_nam (n := fc) hA (fun s _ => by omega)) (fun s _ => by omega)
  · exact nPutT_tab (nPutT_tab (clr_tab hT (by omega) (by omega)) (by omega) (by omega) (by omega) (by omega) (by omega) (by omega)) (by omega) (by omega) (by omega) (by omega) (by omega) (by omega)
theorem nSA.cg (h : nSA cc fc A th) (e : ∀ a b, th a b = th' a b) : nSA cc fc A th' := by
  have : th = th' := funext fun a => funext fun b => e a b
  rw [← this]; exact h
theorem nSA.flips (h : nSA cc fc A th) (h' : nSA cc fc A' th) : mNet A' fc cc 3 = mNet A fc cc 3 := by
  obtain ⟨N, T, fo, hs, hA, hT⟩ := h
  obtain ⟨N', T', fo', hs', hA', hT'⟩ := h'
  show kCnt2 (fun a b => mCanFlip A' fc (nI a) (nI b)) cc = kCnt2 (fun a b => mCanFlip A fc (nI a) (nI b)) cc
  refine kCnt2_cg cc (fun a b ha hb => ?_)
  rw [(flip_th hs' hA' hT' ha (by omega)).2, (flip_th hs hA hT ha (by omega)).2]
end PN
theorem pPair_c {u v : Nat} (h : u ≠ v) : pPair v u = pPair u v := by
  unfold pPair
  by_cases q : u < v
  · rw [if_pos q, if_pos q, if_neg (by omega), if_neg (by omega)]
  · rw [if_neg q, if_neg q, if_pos (by omega), if_pos (by omega)]
theorem c_flip_ok {m : pSt} {th : nTh} {x y u v : Nat} (h : nSA m.cc m.fc m.fa th) (e1 : th x y = some u) (e2 : th y x = some v) (e3 : th u v = none) : c_flip m (nI x) (nI y) = (0, nI (pPair u v), (pMk m.cc m.fc m.nd m.ng m.nm m.nc m.nw (pFlp m.fa m.fc (nI x) (nI y)) m.dx m.dy m.dr m.fo m.ro m.mv m.pr m.ea m.eb)) := by
  obtain ⟨hxc, hyc, -⟩ := h.facts e1 e2 e3
  obtain ⟨q1, q2, q3, -⟩ := h.flip e1 e2 e3
  obtain ⟨N, T, fo, hs, -, -⟩ := h
  have h16 := hs.2.1
  unfold c_flip
  rw [if_pos ⟨mIn_in hxc (by omega), mIn_in hyc (by omega)⟩, if_pos q1, q2, q3]
/-- there, back, and there again -/
theorem flip_all {m : pSt} {th : nTh} (h : nSA m.cc m.fc m.fa th) {a b : Nat} (ha : a < m.cc) (hb : b < m.cc) (hc : mCanFlip m.fa m.fc (nI a) (nI b)) : ∃ (u v : Nat) (A1 A2 A3 : Nat → Int32), u < 16 ∧ v < 16 ∧ u ≠ v ∧ a ≠ b ∧ c_flip m (nI a) (nI b) = (0, nI (pPair u v), (pMk m.cc m.fc m.nd m.ng m.nm m.nc m.nw (A1) m.dx m.dy m.dr m.fo m.ro m.mv m.pr m.ea m.eb)) ∧
    c_flip (pMk m.cc m.fc m.nd m.ng m.nm m.nc m.nw (A1) m.dx m.dy m.dr m.fo m.ro m.mv m.pr m.ea m.eb) (nI (if u < v then u else v)) (nI (if u < v then v else u)) = (0, nI (pPair a b), (pMk m.cc m.fc m.nd m.ng m.nm m.nc m.nw (A2) m.dx m.dy m.dr m.fo m.ro m.mv m.pr m.ea m.eb)) ∧ mNet A2 m.fc m.cc 3 = mNet m.fa m.fc m.cc 3 ∧ c_flip (pMk m.cc m.fc m.nd m.ng m.nm m.nc m.nw (A2) m.dx m.dy m.dr m.fo m.ro m.mv m.pr m.ea m.eb) (nI b) (nI a) = (0, nI (pPair u v), (pMk m.cc m.fc m.nd m.ng m.nm m.nc m.nw (A3) m.dx m.dy m.dr m.fo m.ro m.mv m.pr m.ea m.eb)) := by
  obtain ⟨u, v, e1, e2, e3⟩ : ∃ u v, th a b = some u ∧ th b a = some v ∧ th u v = none := by
    obtain ⟨N, T, fo, hs, hA, hT⟩ := id h
    exact (flip_th hs hA hT ha hb).2.mp hc
  obtain ⟨hxc, hyc, huc, hvc, h1, h2, h3, h4, h5, h6, r1, r2, r3, r4, r5⟩ := h.facts e1 e2 e3
  have h16 : m.cc ≤ 16 := by obtain ⟨N, T, fo, hs, -, -⟩ := h; exact hs.2.1
  obtain ⟨-, -, -, g1⟩ := h.flip e1 e2 e3
  obtain ⟨t1, t2, t3, t4⟩ := fTh_at (th := th) h1 h2 h3 h4 h5 h6
  by_cases q : u < v
  · obtain ⟨-, -, -, g2⟩ := g1.flip t1 t2 t4
    have g3 := g2.cg (fTh_back1 h e1 e2 e3)
    refine ⟨u, v, (pFlp m.fa m.fc (nI a) (nI b)), (pFlp (pFlp m.fa m.fc (nI a) (nI b)) m.fc (nI u) (nI v)), (pFlp (pFlp (pFlp m.fa m.fc (nI a) (nI b)) m.fc (nI u) (nI v)) m.fc (nI b) (nI a)), by omega, by omega, h6, h1, c_flip_ok h e1 e2 e3, ?_, h.flips g3, ?_⟩
    · rw [if_pos q, if_pos q, ← pPair_c h1]
      exact c_flip_ok (m := (pMk m.cc m.fc m.nd m.ng m.nm m.nc m.nw (pFlp m.fa m.fc (nI a) (nI b)) m.dx m.dy m.dr m.fo m.ro m.mv m.pr m.ea m.eb)) g1 t1 t2 t4
    · rw [← pPair_c h6]
      exact c_flip_ok (m := (pMk m.cc m.fc m.nd m.ng m.nm m.nc m.nw (pFlp (pFlp m.fa m.fc (nI a) (nI b)) m.fc (nI u) (nI v)) m.dx m.dy m.dr m.fo m.ro m.mv m.pr m.ea m.eb)) g3 e2 e1 r5
  · obtain ⟨-, -, -, g2⟩ := g1.flip t2 t1 t3
    have g3 := g2.cg (fTh_back2 h e1 e2 e3)
    refine ⟨u, v, (pFlp m.fa m.fc (nI a) (nI b)), (pFlp (pFlp m.fa m.fc (nI a) (nI b)) m.fc (nI v) (nI u)), (pFlp (pFlp (pFlp m.fa m.fc (nI a) (nI b)) m.fc (nI v) (nI u)) m.fc (nI b) (nI a)), by omega, by omega, h6, h1, c_flip_ok h e1 e2 e3, ?_, h.flips g3, ?_⟩
    · rw [if_neg q, if_neg q]
      exact c_flip_ok (m := (pMk m.cc m.fc m.nd m.ng m.nm m.nc m.nw (pFlp m.fa m.fc (nI a) (nI b)) m.dx m.dy m.dr m.fo m.ro m.mv m.pr m.ea m.eb)) g1 t2 t1 t3
    · rw [← pPair_c h6]
      exact c_flip_ok (m := (pMk m.cc m.fc m.nd m.ng m.nm m.nc m.nw (pFlp (pFlp m.fa m.fc (nI a) (nI b)) m.fc (nI v) (nI u)) m.dx m.dy m.dr m.fo m.ro m.mv m.pr m.ea m.eb)) g3 e2 e1 r5
theorem pair_nums : ∀ u, u < 16 → ∀ v, v < 16 → ¬ u = v → (nI (pPair u v)).toInt64 / 100 < (nI (pPair u v)).toInt64 - (nI (pPair u v)).toInt64 / 100 * 100 ∧ (nI (pPair u v)).toInt64.toInt32 / nI 100 = nI (if u < v then u else v) ∧ (nI (pPair u v)).toInt64.toInt32 - (nI (pPair u v)).toInt64.toInt32 / nI 100 * nI 100 = nI (if u < v then v else u) ∧ ¬ (nI (pPair u v)).toInt64 = -7000003 := by decide +kernel
section PE
variable {cc fc : Nat} {A : Nat → Int32} {th : nTh}
theorem kCnt_T : ∀ n, kCnt (fun _ => True) n = n
  | 0 => rfl
  | n + 1 => by simp only [kCnt]; rw [kCnt_T n]; rfl
theorem nSA.around (h : nSA cc fc A th) {x : Nat} (hx : x < cc) {k : Nat} (hk : k < 3) : ∃ b, b < cc ∧ k < mDeg A fc (nI x) cc ∧ mWalk A fc (nI x) (pLow A fc (nI x) cc 0) k = nI b := by
  obtain ⟨N, T, fo, hs, hA, hT⟩ := h
  have h16 := hs.2.1
  have hC := hs.2.2.2.2.2 x hx
  obtain ⟨low, hl1, hl2⟩ : ∃ low, th x low ≠ none ∧ ∀ j, j < low → th x j = none := by
    obtain ⟨d, k, a1, a2, a3, a4⟩ := hC
    have h0 : th x (k 0) ≠ none := by rw [a3 0 (by omega)]; exact fun z => nomatch z
    generalize k 0 = y at h0
    induction y using Nat.strongRecOn with
    | _ y ih =>
      by_cases q : ∃ j, j < y ∧ th x j ≠ none
      · obtain ⟨j, hj, hq⟩ := q
        exact ih j hj hq
      · exact ⟨y, h0, fun j hj => Decidable.byContradiction fun z => q ⟨j, hj, z⟩⟩
  have hlow : low < cc := by
    cases e : th x low with
    | none => exact absurd e hl1
    | some z => exact (hs.at e).2.2.1
  obtain ⟨d, k9, a1, a2, a3, a4, a0⟩ := hC.rot hl1
  have kl : ∀ i, i < d → k9 i < cc := fun i hi => (hs.at (a3 i hi)).2.2.1
  have hdeg : mDeg A fc (nI x) cc = d := by
    rw [← kCnt_T d]
    symm
    refine kCnt_bij d cc (fun _ => True) _ k9 (fun s h _ => ⟨kl s h, (mAdj_at hs hA hx (kl s h)).mpr (by rw [a3 s h]; exact fun z => nomatch z)⟩) (fun s t h1 h2 _ _ => a2 s t h1 h2) (fun y hy q => ?_)
    obtain ⟨i, hi, e⟩ := a4 y ((mAdj_at hs hA hx hy).mp q)
    exact ⟨i, hi, trivial, e⟩
  have walk : ∀ n, n < d → mWalk A fc (nI x) (nI low) n = nI (k9 n) := by
    intro n
    induction n with
    | zero => intro _; show nI low = _; rw [a0]
    | succ n ih =>
      intro hn
      rw [mWalk, ih (by omega)]
      have := a3 n (by omega)
      rw [if_pos hn] at this
      exact nOpp_at hs hA this
  refine ⟨k9 k, kl k (by omega), by omega, ?_⟩
  rw [pLow_at ((mAdj_at hs hA hx hlow).mpr hl1) (fun j hj z => (mAdj_at hs hA hx (by omega)).mp z (hl2 j hj)) cc 0 (by omega) (by omega)]
  exact walk k (by omega)
theorem mNx_mod (s : Nat) : mNx s / 3 = s / 3 ∧ mNx s % 3 = (s + 1) % 3 := by unfold mNx; split <;> omega
theorem kCnt_add (P : Nat → Prop) [DecidablePred P] (a : Nat) : ∀ b, kCnt P (a + b) = kCnt P a + kCnt (fun i => P (a + i)) b
  | 0 => rfl
  | b + 1 => by
    show kCnt P (a + b) + (if P (a + b) then 1 else 0) = kCnt P a + (kCnt (fun i => P (a + i)) b + (if P (a + b) then 1 else 0))
    rw [kCnt_add P a b]
    omega
def kRows (p : Nat → Nat → Prop) [∀ a b, Decidable (p a b)] (w : Nat) : Nat → Nat
  | 0 => 0
  | n + 1 => kRows p w n + kCnt (p n) w
theorem kCnt_rows (p : Nat → Nat → Prop) [∀ a b, Decidable (p a b)] : ∀ n, kCnt (fun q => p (q / 16) (q % 16)) (16 * n) = kRows p 16 n
  | 0 => rfl
  | n + 1 => by
    rw [show 16 * (n + 1) = 16 * n + 16 by omega, kCnt_add, kCnt_rows p n, kRows]
    congr 1
    refine kCnt_cg (fun i hi => ?_)
    rw [show (16 * n + i) / 16 = n by omega, show (16 * n + i) % 16 = i by omega]
theorem kRows_step (p : Nat → Nat → Prop) [∀ a b, Decidable (p a b)] (w : Nat) : ∀ n, kRows p (w + 1) n = kRows p w n + kCnt (fun a => p a w) n
  | 0 => rfl
  | n + 1 => by
    simp only [kRows, kCnt]
    rw [kRows_step p w n]
    omega
theorem kRows_sym (p : Nat → Nat → Prop) [∀ a b, Decidable (p a b)] (hs : ∀ a b, p a b → p b a) (hi : ∀ a, ¬ p a a) : ∀ n, kRows p n n = 2 * kCnt2 p n
  | 0 => rfl
  | n + 1 => by
    rw [kRows_step]
    simp only [kRows, kCnt, kCnt2]
    rw [kRows_sym p hs hi n, if_neg (hi n), kCnt_cg (P := fun a => p a n) (Q := p n) (fun i _ => ⟨hs i n, hs n i⟩)]
    omega
theorem kCnt2_more (p : Nat → Nat → Prop) [∀ a b, Decidable (p a b)] {n : Nat} (h : ∀ a b, n ≤ a → ¬ p a b) : ∀ k, kCnt2 p (n + k) = kCnt2 p n
  | 0 => rfl
  | k + 1 => by
    show kCnt2 p (n + k) + kCnt (p (n + k)) (n + k) = _
    rw [kCnt2_more p h k, kCnt_0.mpr (fun i _ => h _ _ (by omega))]
    exact Nat.add_zero _
theorem nSA.edges (h : nSA cc fc A th) : kCnt2 (fun a b => mAdj A fc (nI a) (nI b)) cc = 3 * cc - 6 := by
  obtain ⟨N, T, fo, hs, hA, hT⟩ := h
  have h16 := hs.2.1
  have hfc := hs.2.2.1
  have hlt : ∀ a b, th a b ≠ none → a < cc ∧ b < cc := fun a b q => by
    cases e : th a b with
    | none => exact absurd e q
    | some z => exact ⟨(hs.at e).2.1, (hs.at e).2.2.1⟩
  have e1 : kCnt2 (fun a b => mAdj A fc (nI a) (nI b)) cc = kCnt2 (fun a b => th a b ≠ none) cc := kCnt2_cg cc (fun a b ha hb => mAdj_at hs hA ha (by omega))
  have e2 : kCnt2 (fun a b => th a b ≠ none) 16 = kCnt2 (fun a b => th a b ≠ none) cc := by
    have := kCnt2_more (fun a b => th a b ≠ none) (n := cc) (fun a b ha q => by have := (hlt a b q).1; omega) (16 - cc)
    rw [show cc + (16 - cc) = 16 by omega] at this
    exact this
  have e3 := kRows_sym (fun a b => th a b ≠ none) (fun a b q => hs.sym q) (fun a q => by
    cases e : th a a with
    | none => exact q e
    | some z => exact (hs.at e).2.2.2.2.1 rfl) 16
  have e4 : kCnt (fun _ => True) (3 * fc) = kCnt (fun q => th (q / 16) (q % 16) ≠ none) 256 := by
    have hN : ∀ s, s < 3 * fc → N s < 16 := fun s q => by have := hs.2.2.2.1 s q; omega
    refine kCnt_bij (3 * fc) 256 (fun _ => True) _ (fun s => 16 * N s + N (mNx s)) (fun s q _ => ?_) (fun s t q1 q2 _ _ q => ?_) (fun y hy q => ?_)
    · have a := hN s q
      have b := hN (mNx s) (mNx_lt q)
      refine ⟨by omega, ?_⟩
      rw [show (16 * N s + N (mNx s)) / 16 = N s by omega, show (16 * N s + N (mNx s)) % 16 = N (mNx s) by omega]
      exact (spots_th hs).mp ⟨s, q, rfl, rfl⟩
    · have a := hN s q1
      have b := hN (mNx s) (mNx_lt q1)
      have a' := hN t q2
      have b' := hN (mNx t) (mNx_lt q2)
      have c1 : N s = N t := by omega
      have c2 : N (mNx s) = N (mNx t) := by omega
      have s1 := spot_th hs q1
      have s2 := spot_th hs q2
      have f3 : s / 3 = t / 3 := by
        have := s1.2
        rw [c1, c2, s2.2] at this
        exact this.symm
      obtain ⟨g1, g2, g3⟩ := hs.2.2.2.2.1.1 (s / 3) (by omega)
      have r : s % 3 = t % 3 := by
        have hs3 : s = 3 * (s / 3) + s % 3 := by omega
        have ht3 : t = 3 * (s / 3) + t % 3 := by omega
        have m1 : s % 3 = 0 ∨ s % 3 = 1 ∨ s % 3 = 2 := by omega
        have m2 : t % 3 = 0 ∨ t % 3 = 1 ∨ t % 3 = 2 := by omega
        rcases m1 with m1 | m1 | m1 <;> rcases m2 with m2 | m2 | m2 <;> rw [m1] at hs3 <;> rw [m2] at ht3 <;> rw [m1, m2] <;> (exfalso; rw [hs3, ht3] at c1; first | omega | (simp only [Nat.add_zero] at c1; omega))
      omega
    · obtain ⟨s, b1, b2, b3⟩ := (spots_th hs).mpr q
      exact ⟨s, b1, trivial, by rw [b2, b3]; omega⟩
  have e5 := kCnt_rows (fun a b => th a b ≠ none) 16
  rw [show (16 * 16 : Nat) = 256 from rfl] at e5
  rw [kCnt_T] at e4
  omega
end PE
