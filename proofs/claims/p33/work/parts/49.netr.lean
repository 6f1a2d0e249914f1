/-! around a corner; a step of each net; the start -/
section NR
variable {cc fc : Nat} {A T : Nat → Int32} {N : Nat → Nat} {th : nTh} {fo : Nat → Nat → Nat}
theorem nLow_at {T : Nat → Int32} {cc low : Nat} {a : Int32} (h1 : nAdj T cc a (nI low)) (h2 : ∀ j, j < low → ¬ nAdj T cc a (nI j)) : ∀ n k, k ≤ low → low < k + n → nLow T cc a n k = nI low
  | 0, k, _, _ => by omega
  | n + 1, k, hk, hn => by
    rw [nLow]
    by_cases q : k = low
    · rw [q, if_pos h1]
    · rw [if_neg (h2 k (by omega))]
      exact nLow_at h1 h2 n (k + 1) (by omega) (by omega)
theorem mFaceOf_some {A : Nat → Int32} {a b : Int32} : ∀ n, ¬ mFaceOf A a b n = -1 → ∃ s, s < n ∧ A s = a ∧ A (mNx s) = b
  | 0, h => absurd rfl h
  | n + 1, h => by
    rw [mFaceOf] at h
    by_cases q : A n = a ∧ A (mNx n) = b
    · exact ⟨n, by omega, q⟩
    · rw [if_neg q] at h
      obtain ⟨s, h1, h2⟩ := mFaceOf_some n h
      exact ⟨s, by omega, h2⟩
theorem mOpp_st (hs : nSt cc fc N th fo) (hA : nNam A N fc) {x : Nat} (hx : x < cc) (z : Int32) (h : mAdj A fc (nI x) z) : mAdj A fc (nI x) (mOpp A fc (nI x) z) := by
  obtain ⟨s, h1, h2, h3⟩ := mFaceOf_some _ h
  have hy := hs.2.2.2.1 _ (mNx_lt h1)
  rw [hA _ (mNx_lt h1)] at h3
  subst h3
  have hne := (mAdj_at hs hA hx hy).mp h
  cases e : th x (N (mNx s)) with
  | none => exact absurd e hne
  | some w =>
    rw [nOpp_at hs hA e]
    exact (mAdj_at hs hA hx (hs.at e).2.2.2.1).mpr (Cyc.next (hs.2.2.2.2.2 x hx) e)
theorem mAdj_sy (hs : nSt cc fc N th fo) (hA : nNam A N fc) {x y : Nat} (hx : x < cc) (hy : y < cc) (h : mAdj A fc (nI x) (nI y)) : mAdj A fc (nI y) (nI x) :=
  (mAdj_at hs hA hy hx).mpr (hs.sym ((mAdj_at hs hA hx hy).mp h))
theorem around_m (hs : nSt cc fc N th fo) (hA : nNam A N fc) (hT : nTab T th) {x : Nat} (hx : x < cc) : ∃ low, low < cc ∧ nLow T cc (nI x) cc 0 = nI low ∧ mAdj A fc (nI x) (nI low) ∧ (∀ j, j < low → ¬ mAdj A fc (nI x) (nI j)) ∧ ∀ b, nNb T cc (nI x) (nI low) b (nI low) = if b < mDeg A fc (nI x) cc then mWalk A fc (nI x) (nI low) b else -1 := by
  have h16 := hs.2.1
  have hC := hs.2.2.2.2.2 x hx
  -- the lowest neighbour
  obtain ⟨low, hl1, hl2⟩ : ∃ low, th x low ≠ none ∧ ∀ j, j < low → th x j = none := by
    obtain ⟨d, k, a1, a2, a3, a4⟩ := hC
    have h0 : th x (k 0) ≠ none := by rw [a3 0 (by omega)]; exact fun z => nomatch z
    generalize k 0 = y at h0
    induction y using Nat.strongRecOn with
    | _ y ih =>
      by_cases q : ∃ j, j < y ∧ th x j ≠ none
      · obtain ⟨j, hj, hq⟩ := q
        exact ih j hj hq
      · exact ⟨y, h0, fun j hj => Decidable.byContradiction fun z => q ⟨j, hj, z⟩⟩
  have hlow : low < cc := by
    cases e : th x low with
    | none => exact absurd e hl1
    | some z => exact (hs.at e).2.2.1
  refine ⟨low, hlow, nLow_at ((nAdj_at hs hT hx hlow).mpr hl1) (fun j hj z => (nAdj_at hs hT hx (by omega)).mp z (hl2 j hj)) cc 0 (by omega) (by omega), (mAdj_at hs hA hx hlow).mpr hl1, fun j hj z => (mAdj_at hs hA hx (by omega)).mp z (hl2 j hj), fun b => ?_⟩
  obtain ⟨d, k, a1, a2, a3, a4, a0⟩ := hC.rot hl1
  have kl : ∀ i, i < d → k i < cc := fun i hi => (hs.at (a3 i hi)).2.2.1
  have hdeg : mDeg A fc (nI x) cc = d := by
    have h1 : ∀ m, kCnt (fun _ => True) m = m := by
      intro m
      induction m with
      | zero => rfl
      | succ m ih => simp only [kCnt]; rw [ih]; rfl
    rw [← h1 d]
    symm
    refine kCnt_bij d cc (fun _ => True) _ k (fun s h _ => ⟨kl s h, (mAdj_at hs hA hx (kl s h)).mpr (by rw [a3 s h]; exact fun z => nomatch z)⟩) (fun s t h1 h2 _ _ => a2 s t h1 h2) (fun y hy q => ?_)
    obtain ⟨i, hi, e⟩ := a4 y ((mAdj_at hs hA hx hy).mp q)
    exact ⟨i, hi, trivial, e⟩
  have walk : ∀ n, n < d → mWalk A fc (nI x) (nI low) n = nI (k n) := by
    intro n
    induction n with
    | zero => intro _; show nI low = _; rw [a0]
    | succ n ih =>
      intro hn
      rw [mWalk, ih (by omega)]
      have := a3 n (by omega)
      rw [if_pos hn] at this
      exact nOpp_at hs hA this
  have nb : ∀ n i, i < d → nNb T cc (nI x) (nI low) n (nI (k i)) = if i + n < d then nI (k (i + n)) else -1 := by
    intro n
    induction n with
    | zero => intro i hi; rw [nNb, Nat.add_zero, if_pos hi]
    | succ n ih =>
      intro i hi
      have e : nThird T cc (nI x) (nI (k i)) = nI (k (if i + 1 < d then i + 1 else 0)) := by
        rw [nThird_at hs hT hx (kl i hi), a3 i hi]; rfl
      rw [nNb, e]
      by_cases q : i + 1 < d
      · rw [if_pos q]
        have h1 := kl (i + 1) q
        rw [if_neg (fun z => z.elim (fun z => by
          have z2 := (nI_eq (by omega) (by omega)).mp z
          rw [← a0] at z2
          have := a2 _ _ q (by omega) z2
          omega) (fun z => absurd z (nI_ne1 (by omega)))), ih (i + 1) q, show i + 1 + n = i + (n + 1) by omega]
      · rw [if_neg q, a0, if_pos (Or.inl rfl), if_neg (by omega)]
  have := nb b 0 (by omega)
  rw [a0, Nat.zero_add] at this
  rw [this, hdeg]
  by_cases q : b < d
  · rw [if_pos q, if_pos q, walk b q]
  · rw [if_neg q, if_neg q]
theorem split_m (hs : nSt cc fc N th fo) (hA : nNam A N fc) (hT : nTab T th) {t : Nat} (ht : t < fc) (hcc : cc < 16) : N (3 * t) < cc ∧ N (3 * t + 1) < cc ∧ N (3 * t + 2) < cc ∧
    mPut (mPut (mPut A t (A (3 * t)) (A (3 * t + 1)) (nI cc)) fc (A (3 * t + 1)) (A (3 * t + 2)) (nI cc)) (fc + 1) (A (3 * t + 2)) (A (3 * t)) (nI cc) = nPutN (nPutN (nPutN A t (N (3 * t)) (N (3 * t + 1)) cc) fc (N (3 * t + 1)) (N (3 * t + 2)) cc) (fc + 1) (N (3 * t + 2)) (N (3 * t)) cc ∧
    nInv (cc + 1) (fc + 2) (nPutN (nPutN (nPutN A t (N (3 * t)) (N (3 * t + 1)) cc) fc (N (3 * t + 1)) (N (3 * t + 2)) cc) (fc + 1) (N (3 * t + 2)) (N (3 * t)) cc) (nPutT (nPutT (nPutT T (N (3 * t)) (N (3 * t + 1)) cc) (N (3 * t + 1)) (N (3 * t + 2)) cc) (N (3 * t + 2)) (N (3 * t)) cc) := by
  have b1 := hs.2.2.2.1 (3 * t) (by omega)
  have b2 := hs.2.2.2.1 (3 * t + 1) (by omega)
  have b3 := hs.2.2.2.1 (3 * t + 2) (by omega)
  obtain ⟨c1, c2, c3⟩ := hs.2.2.2.2.1.1 t ht
  refine ⟨b1, b2, b3, ?_, _, _, _, hs.split ht hcc, ?_, ?_⟩
  · rw [hA (3 * t) (by omega), hA (3 * t + 1) (by omega), hA (3 * t + 2) (by omega), mPut_n (by omega) (by omega) (by omega) (by omega) (by omega) (by omega), mPut_n (by omega) (by omega) (by omega) (by omega) (by omega) (by omega), mPut_n (by omega) (by omega) (by omega) (by omega) (by omega) (by omega)]
  · refine nPutN_nam (n := fc + 1) ?_ (fun s _ => by omega)
    refine nPutN_nam (n := fc) ?_ (fun s _ => by omega)
    exact nPutN_nam hA (fun s _ => by omega)
  · exact nPutT_tab (nPutT_tab (nPutT_tab hT (by omega) (by omega) (by omega) (by omega) (by omega) (by omega)) (by omega) (by omega) (by omega) (by omega) (by omega) (by omega)) (by omega) (by omega) (by omega) (by omega) (by omega) (by omega)
theorem clr_tab {T : Nat → Int32} {th : nTh} (h : nTab T th) {x y : Nat} (hx : x < 16) (hy : y < 16) : nTab (upd (upd T (16 * x + y) (-1)) (16 * y + x) (-1)) (fun a b => if a = x ∧ b = y then none else if a = y ∧ b = x then none else th a b) := by
  intro a b ha hb
  unfold upd
  by_cases q1 : a = y ∧ b = x
  · rw [if_pos (by omega)]
    by_cases q2 : a = x ∧ b = y
    · simp only [if_pos q2]; rfl
    · simp only [if_neg q2, if_pos q1]; rfl
  · rw [if_neg (by omega)]
    by_cases q2 : a = x ∧ b = y
    · rw [if_pos (by omega)]; simp only [if_pos q2]; rfl
    · rw [if_neg (by omega)]; simp only [if_neg q2, if_neg q1]; exact h a b ha hb
theorem flip_m (hs : nSt cc fc N th fo) (hA : nNam A N fc) (hT : nTab T th) {x y u v : Nat} (e1 : th x y = some u) (e2 : th y x = some v) (e3 : th u v = none) :
    nThird T cc (nI x) (nI y) = nI u ∧ nThird T cc (nI y) (nI x) = nI v ∧ fo x y < fc ∧ fo y x < fc ∧ nFace A (nI x) (nI y) (3 * fc) 0 = nI (fo x y) ∧ nFace A (nI y) (nI x) (3 * fc) 0 = nI (fo y x) ∧
    mFaceOf A (nI x) (nI y) (3 * fc) = nI (fo x y) ∧ mFaceOf A (nI y) (nI x) (3 * fc) = nI (fo y x) ∧ mOpp A fc (nI x) (nI y) = nI u ∧ mOpp A fc (nI y) (nI x) = nI v ∧ u ≠ v ∧ u < cc ∧ v < cc ∧
    mPut (mPut A (fo x y) (nI x) (nI v) (nI u)) (fo y x) (nI v) (nI y) (nI u) = nPutN (nPutN A (fo x y) x v u) (fo y x) v y u ∧
    nInv cc fc (nPutN (nPutN A (fo x y) x v u) (fo y x) v y u) (nPutT (nPutT (upd (upd T (16 * x + y) (-1)) (16 * y + x) (-1)) x v u) v y u) := by
  have h16 := hs.2.1
  have a1 := hs.at e1
  have a2 := hs.at e2
  obtain ⟨f1, f2, huv, hI⟩ := hs.flip e1 e2 e3
  have n1 : th x y ≠ none := by rw [e1]; exact fun z => nomatch z
  have n2 : th y x ≠ none := by rw [e2]; exact fun z => nomatch z
  refine ⟨?_, ?_, f1, f2, ?_, ?_, ?_, ?_, nOpp_at hs hA e1, nOpp_at hs hA e2, huv, a1.2.2.2.1, a2.2.2.2.1, ?_, _, _, _, hI, ?_, ?_⟩
  · rw [nThird_at hs hT a1.2.1 a1.2.2.1, e1]; rfl
  · rw [nThird_at hs hT a1.2.2.1 a1.2.1, e2]; rfl
  · obtain ⟨s, b1, b2⟩ := (spots_th hs).mpr n1
    exact nFace_at hs hA a1.2.1 a1.2.2.1 _ 0 (by omega) ⟨s, by omega, by omega, b2⟩
  · obtain ⟨s, b1, b2⟩ := (spots_th hs).mpr n2
    exact nFace_at hs hA a1.2.2.1 a1.2.1 _ 0 (by omega) ⟨s, by omega, by omega, b2⟩
  · rw [mFaceOf_th hs hA a1.2.1 a1.2.2.1, if_pos n1]
  · rw [mFaceOf_th hs hA a1.2.2.1 a1.2.1, if_pos n2]
  · rw [mPut_n (by omega) (by omega) (by omega) (by omega) (by omega) (by omega), mPut_n (by omega) (by omega) (by omega) (by omega) (by omega) (by omega)]
  · exact nPutN_nam (n := fc) (nPutN_nam (n := fc) hA (fun s _ => by omega)) (fun s _ => by omega)
  · exact nPutT_tab (nPutT_tab (clr_tab hT (by omega) (by omega)) (by omega) (by omega) (by omega) (by omega) (by omega) (by omega)) (by omega) (by omega) (by omega) (by omega) (by omega) (by omega)
end NR
theorem iTT0_tab : nTab (iTT 0) (fun _ _ => none) := by
  intro x y hx hy
  show (if 16 * x + y < 256 then (-1 : Int32) else 0) = -1
  rw [if_pos (by omega)]
theorem net_start : mF0 = iNN 4 ∧ nInv 4 4 (iNN 4) (iTT 4) := by
  refine ⟨?_, N0, th0, fo0, nSt_start, ?_, ?_⟩
  · unfold mF0
    rw [mPut_n (by omega) (by omega) (by omega) (by omega) (by omega) (by omega), mPut_n (by omega) (by omega) (by omega) (by omega) (by omega) (by omega), mPut_n (by omega) (by omega) (by omega) (by omega) (by omega) (by omega), mPut_n (by omega) (by omega) (by omega) (by omega) (by omega) (by omega)]
    rfl
  · show nNam (nPutN (nPutN (nPutN (nPutN (fun _ => 0) 0 0 1 2) 1 0 3 1) 2 1 3 2) 3 0 2 3) N0 4
    refine nPutN_nam (n := 3) ?_ (fun s _ => by omega)
    refine nPutN_nam (n := 2) ?_ (fun s _ => by omega)
    refine nPutN_nam (n := 1) ?_ (fun s _ => by omega)
    exact nPutN_nam (n := 0) (fun s h => by omega) (fun s _ => by omega)
  · show nTab (nPutT (nPutT (nPutT (nPutT (iTT 0) 0 1 2) 0 3 1) 1 3 2) 0 2 3) th0
    exact nPutT_tab (nPutT_tab (nPutT_tab (nPutT_tab iTT0_tab (by omega) (by omega) (by omega) (by omega) (by omega) (by omega)) (by omega) (by omega) (by omega) (by omega) (by omega) (by omega)) (by omega) (by omega) (by omega) (by omega) (by omega) (by omega)) (by omega) (by omega) (by omega) (by omega) (by omega) (by omega)
