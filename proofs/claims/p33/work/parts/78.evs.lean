/-! values of calls that answer; states that agree -/
def hL (l : List Int64) : Nat → Int64 := fun k => l.getD k 0
def hE (l : List Nat) : Nat → Nat := fun k => l.getD k 0
section EV
variable {m m1 : pSt} {x1 x2 x3 x4 x5 : Int32} {v : Int32} {w : Int64}
theorem ev_net (h1 : mRg x1 (0) 4) (h2 : nI (mNet m.fa m.fc m.cc x1.toNatClampNeg) = v) : c_net m x1 = (0, v, m) := by unfold c_net; rw [if_pos h1, h2]
theorem ev_corner (h1 : mIn x1 m.fc ∧ mRg x2 (0) 2) (h2 : m.fa (3 * x1.toNatClampNeg + x2.toNatClampNeg) = v) : c_corner m x1 x2 = (0, v, m) := by unfold c_corner; rw [if_pos h1, h2]
theorem ev_around_y (h1 : mIn x1 m.cc ∧ ¬ x2 < 0) (h2 : x2.toNatClampNeg < mDeg m.fa m.fc x1 m.cc) (h3 : mWalk m.fa m.fc x1 (pLow m.fa m.fc x1 m.cc 0) x2.toNatClampNeg = v) : c_around m x1 x2 = (0, v, m) := by unfold c_around; rw [if_pos h1, if_pos h2, h3]
theorem ev_around_n (h1 : mIn x1 m.cc ∧ ¬ x2 < 0) (h2 : ¬ x2.toNatClampNeg < mDeg m.fa m.fc x1 m.cc) : c_around m x1 x2 = (0, -1, m) := by unfold c_around; rw [if_pos h1, if_neg h2]
theorem ev_lie (h1 : mIn x1 m.nd ∧ mIn x2 m.nd) (h2 : ¬ x1 = x2) (h3 : mLies m.dx m.dy m.dr x1.toNatClampNeg x2.toNatClampNeg = v) : c_lie m x1 x2 = (0, v, m) := by unfold c_lie; rw [if_pos h1, if_neg h2, h3]
theorem ev_pairs (h1 : mRg x1 (0) 2) (h2 : nI (kCnt2 (fun x9 y9 => mLies m.dx m.dy m.dr x9 y9 = x1) m.nd) = v) : c_pairs m x1 = (0, v, m) := by unfold c_pairs; rw [if_pos h1, h2]
theorem ev_draws (h1 : kbI (mDr m.fa m.dx m.dy m.dr m.fc m.cc m.nd m.nd) = v) : c_draws m = (0, v, m) := by unfold c_draws; rw [h1]
theorem ev_curvature (h1 : mIn x1 m.ng ∧ mRg x2 (0) 3) (h2 : m.fo (4 * x1.toNatClampNeg + x2.toNatClampNeg) = w) : c_curvature m x1 x2 = (0, w, m) := by unfold c_curvature; rw [if_pos h1, h2]
theorem ev_root (h1 : mIn x1 m.ng ∧ mRg x2 (0) 3) (h2 : m.ro (4 * x1.toNatClampNeg + x2.toNatClampNeg) = w) : c_root m x1 x2 = (0, w, m) := by unfold c_root; rw [if_pos h1, h2]
theorem ev_count (h1 : mIn x1 m.ng) (h2 : mRg x2 (1 : Nat) (1000 : Nat)) (h3 : m.ro (4 * x1.toNatClampNeg) < 0) (h4 : nI (mCount (pRoot m x1.toNatClampNeg) x2.toInt64 100) = v) : c_count m x1 x2 = (0, v, m) := by unfold c_count; rw [if_pos h1, if_pos h2, if_pos h3, h4]
theorem ev_countAnew (h1 : mIn x1 m.ng) (h2 : mRg x2 (1 : Nat) (1000 : Nat)) (h3 : m.ro (4 * x1.toNatClampNeg) < 0) (h4 : nI (mCount (pRoot m x1.toNatClampNeg) x2.toInt64 100) = v) : c_countAnew m x1 x2 = (0, v, m) := by unfold c_countAnew; rw [if_pos h1, if_pos h2, if_pos h3, h4]
theorem ev_remainders (h1 : mIn x1 m.ng) (h2 : mRg x2 (2 : Nat) (8 : Nat)) (h3 : pRem (fun j => m.fo (4 * x1.toNatClampNeg + j)) x2 = v) : c_remainders m x1 x2 = (0, v, m) := by unfold c_remainders; rw [if_pos h1, if_pos h2, h3]
theorem ev_ford (h1 : mFr x1 x2 1 ∧ mFr x3 x4 1) (h2 : mFord (mCross x1 x2 x3 x4) = v) : c_ford m x1 x2 x3 x4 = (0, v, m) := by unfold c_ford; rw [if_pos h1, h2]
theorem ev_between (h1 : mFr x1 x2 1 ∧ mFr x3 x4 1 ∧ ¬ mCross x1 x2 x3 x4 = 0) (h2 : (if mCross x1 x2 x3 x4 < 0 then cSide x5 x1 x2 x3 x4 else cSide x5 x3 x4 x1 x2) = w) : c_between m x1 x2 x3 x4 x5 = (0, w, m) := by unfold c_between; rw [if_pos h1, h2]
theorem ev_word (h1 : mRg x1 (0) 4) (h2 : (if x1.toNatClampNeg = 4 then nI (mKind m.pr) else (m.pr x1.toNatClampNeg).toInt32) = v) : c_word m x1 = (0, v, m) := by unfold c_word; rw [if_pos h1, h2]
theorem ev_image (h1 : cImOk x1 x2) (h2 : cIm (m.pr 0) (m.pr 1) (m.pr 2) (m.pr 3) x1 x2 x3 = w) : c_image m x1 x2 x3 = (0, w, m) := by unfold c_image; rw [if_pos h1, h2]
theorem ev_trees (h1 : nI (mTrees m.ea m.eb m.nc m.nw) = v) : c_trees m = (0, v, m) := by unfold c_trees; rw [h1]
theorem ev_treesAnew (h1 : nI (mTrees m.ea m.eb m.nc m.nw) = v) : c_treesAnew m = (0, v, m) := by unfold c_treesAnew; rw [h1]
theorem ev_side (h1 : mIn x1 m.nc ∧ mIn x2 m.nc ∧ (x3 = -1 ∨ mIn x3 m.nw)) (h2 : ¬ x1 = x2) (h3 : ¬ mTrees m.ea m.eb m.nc m.nw = 0) (h4 : pSide m x1 x2 x3 = v) : c_side m x1 x2 x3 = (0, v, m) := by unfold c_side; rw [if_pos h1, if_neg h2, if_neg h3, h4]
theorem ev_split (t x y z cc fc : Nat) (h1 : mIn (nI t) fc) (h2 : ¬ 16 ≤ cc) (ht : t < 2 ^ 31) (hc : m.cc = cc) (hf : m.fc = fc) (hx : (m.fa (3 * t)).toNatClampNeg = x) (hy : (m.fa (3 * t + 1)).toNatClampNeg = y) (hz : (m.fa (3 * t + 2)).toNatClampNeg = z) (hm : (pMk (cc + 1) (fc + 2) m.nd m.ng m.nm m.nc m.nw (nPutN (nPutN (nPutN m.fa t x y cc) fc y z cc) (fc + 1) z x cc) m.dx m.dy m.dr m.fo m.ro m.mv m.pr m.ea m.eb) = m1) : c_split m (nI t) = (0, nI cc, m1) := by
  unfold c_split pSpl
  rw [hc, hf, if_pos h1, if_neg h2, nI_clamp ht, hx, hy, hz, hm]
theorem ev_flip (x y u v t1 t2 w : Nat) (h1 : mIn (nI x) m.cc ∧ mIn (nI y) m.cc) (h2 : mCanFlip m.fa m.fc (nI x) (nI y)) (hx : x < 2 ^ 31) (hy : y < 2 ^ 31) (k1 : pFlF m.fa m.fc (nI x) (nI y) = t1) (k2 : pFlF m.fa m.fc (nI y) (nI x) = t2) (k3 : pFlO m.fa m.fc (nI x) (nI y) = u) (k4 : pFlO m.fa m.fc (nI y) (nI x) = v) (hv : pPair u v = w) (hm : (pMk m.cc m.fc m.nd m.ng m.nm m.nc m.nw (nPutN (nPutN m.fa t1 x v u) t2 v y u) m.dx m.dy m.dr m.fo m.ro m.mv m.pr m.ea m.eb) = m1) : c_flip m (nI x) (nI y) = (0, nI w, m1) := by
  unfold c_flip pFlp
  rw [if_pos h1, if_pos h2, k1, k2, k3, k4, hv, nI_clamp hx, nI_clamp hy, hm]
theorem ev_disk (n : Nat) (h1 : mDisk x1 x2 x3) (h2 : ¬ 16 ≤ n) (hn : m.nd = n) (hm : (pMk m.cc m.fc (n + 1) m.ng m.nm m.nc m.nw m.fa (upd m.dx n x1) (upd m.dy n x2) (upd m.dr n x3) m.fo m.ro m.mv m.pr m.ea m.eb) = m1) : c_disk m x1 x2 x3 = (0, nI n, m1) := by
  unfold c_disk
  rw [hn, if_pos h1, if_neg h2, hm]
theorem ev_move (i : Nat) (h1 : mIn (nI i) m.nd) (hi : i < 2 ^ 31) (h2 : mDisk x2 x3 x4) (h3 : m.dr i = v) (hm : (pMk m.cc m.fc m.nd m.ng m.nm m.nc m.nw m.fa (upd m.dx i x2) (upd m.dy i x3) (upd m.dr i x4) m.fo m.ro m.mv m.pr m.ea m.eb) = m1) : c_move m (nI i) x2 x3 x4 = (0, v, m1) := by
  unfold c_move
  rw [if_pos h1, if_pos h2, nI_clamp hi, h3, hm]
theorem ev_gasket (n : Nat) (h1 : mGk x1 x2 x3 x4) (h2 : ¬ 8 ≤ n) (hn : m.ng = n) (hm : (pMk m.cc m.fc m.nd (n + 1) m.nm m.nc m.nw m.fa m.dx m.dy m.dr (pB19 m.fo n x1.toInt64 x2.toInt64 x3.toInt64 x4.toInt64) (pB19 m.ro n (xLeast x1.toInt64 x2.toInt64 x3.toInt64 x4.toInt64 0) (xLeast x1.toInt64 x2.toInt64 x3.toInt64 x4.toInt64 1) (xLeast x1.toInt64 x2.toInt64 x3.toInt64 x4.toInt64 2) (xLeast x1.toInt64 x2.toInt64 x3.toInt64 x4.toInt64 3)) m.mv m.pr m.ea m.eb) = m1) : c_gasket m x1 x2 x3 x4 = (0, nI n, m1) := by
  unfold c_gasket
  rw [hn, if_pos h1, if_neg h2, hm]
theorem ev_turn (i p : Nat) (h1 : mIn (nI i) m.ng ∧ mRg (nI p) (0) 3) (hi : i < 2 ^ 31) (hp : p < 2 ^ 31) (h2 : mTurned m.fo (4 * i) p = w) (h3 : ¬ 1000000000000000 < w) (hm : (pMk m.cc m.fc m.nd m.ng m.nm m.nc m.nw m.fa m.dx m.dy m.dr (vp_updL m.fo (4 * i + p) w) m.ro m.mv m.pr m.ea m.eb) = m1) : c_turn m (nI i) (nI p) = (0, w, m1) := by
  unfold c_turn
  rw [if_pos h1, nI_clamp hi, nI_clamp hp, h2, if_neg h3, hm]
theorem ev_turn_s (i p : Nat) (h1 : mIn (nI i) m.ng ∧ mRg (nI p) (0) 3) (hi : i < 2 ^ 31) (hp : p < 2 ^ 31) (h3 : 1000000000000000 < mTurned m.fo (4 * i) p) : c_turn m (nI i) (nI p) = (3, 0, m) := by
  unfold c_turn
  rw [if_pos h1, nI_clamp hi, nI_clamp hp, if_pos h3]
theorem ev_tell (n : Nat) (h1 : mTl x1 x2 x3 x4) (h2 : ¬ 4 ≤ n) (hn : m.nm = n) (hm : (pMk m.cc m.fc m.nd m.ng (n + 1) m.nc m.nw m.fa m.dx m.dy m.dr m.fo m.ro (pB19 m.mv n x1.toInt64 x2.toInt64 x3.toInt64 x4.toInt64) m.pr m.ea m.eb) = m1) : c_tell m x1 x2 x3 x4 = (0, nI n, m1) := by
  unfold c_tell
  rw [hn, if_pos h1, if_neg h2, hm]
theorem ev_append (i : Nat) (h1 : mIn (nI i) m.nm) (hi : i < 2 ^ 31) (h2 : pIn4 (pPrd m.pr m.mv i x2)) (h3 : (pPrd m.pr m.mv i x2 0 + pPrd m.pr m.mv i x2 3).toInt32 = v) (hm : (pMk m.cc m.fc m.nd m.ng m.nm m.nc m.nw m.fa m.dx m.dy m.dr m.fo m.ro m.mv (pPrd m.pr m.mv i x2) m.ea m.eb) = m1) : c_append m (nI i) x2 = (0, v, m1) := by
  unfold c_append
  rw [if_pos h1, nI_clamp hi, if_pos h2, h3, hm]
theorem ev_home (h3 : (m.pr 0 + m.pr 3).toInt32 = v) (hm : (pMk m.cc m.fc m.nd m.ng m.nm m.nc m.nw m.fa m.dx m.dy m.dr m.fo m.ro m.mv (mW0) m.ea m.eb) = m1) : c_home m = (0, v, m1) := by
  unfold c_home
  rw [h3, hm]
theorem ev_nodes (b n : Nat) (h1 : mRg (nI b) (2 : Nat) (6 : Nat)) (hb : b < 2 ^ 31) (hn : m.nc = n) (hm : (pMk m.cc m.fc m.nd m.ng m.nm (b) (0) m.fa m.dx m.dy m.dr m.fo m.ro m.mv m.pr m.ea m.eb) = m1) : c_nodes m (nI b) = (0, nI n, m1) := by
  unfold c_nodes
  rw [if_pos h1, nI_clamp hb, hn, hm]
theorem ev_wire (a b n : Nat) (h1 : mIn (nI a) m.nc ∧ mIn (nI b) m.nc) (h2 : ¬ nI a = nI b) (ha : a < 2 ^ 31) (hb : b < 2 ^ 31) (h3 : ¬ 10 ≤ n) (hn : m.nw = n) (hm : (pMk m.cc m.fc m.nd m.ng m.nm m.nc (n + 1) m.fa m.dx m.dy m.dr m.fo m.ro m.mv m.pr (pUp m.ea n a) (pUp m.eb n b)) = m1) : c_wire m (nI a) (nI b) = (0, nI n, m1) := by
  unfold c_wire
  rw [if_pos h1, if_neg h2, hn, if_neg h3, nI_clamp ha, nI_clamp hb, hm]
end EV
abbrev pAg (m : pSt) (fo ro pr : Nat → Int64) (ea eb : Nat → Nat) : Prop := (∀ k, k < 32 → m.fo k = fo k ∧ m.ro k = ro k) ∧ (∀ k, k < 4 → m.pr k = pr k) ∧ ∀ k, k < 10 → m.ea k = ea k ∧ m.eb k = eb k
/-- numbers that agree where they are looked at -/
theorem Inv.cg {G : kG} {h : Nat} {f : kH} {m : pSt} (hI : Inv G h f m) (fo ro pr : Nat → Int64) (ea eb : Nat → Nat) (hA : pAg m fo ro pr ea eb) : Inv G h f (pMk m.cc m.fc m.nd m.ng m.nm m.nc m.nw m.fa m.dx m.dy m.dr (fo) (ro) m.mv (pr) (ea) (eb)) := by
  obtain ⟨o, c, hI⟩ := hI
  obtain ⟨a1, a2, a3⟩ := hA
  refine ⟨o, c, fun k => ?_⟩
  have hk := hI k
  unfold cPt at hk ⊢
  split
  · exact hk
  · exact hk
  · exact hk
  · obtain ⟨sz, w, g1, g2, g3, fo9, le, wa, hL, hel, hd1, hd2, hsz, e7, hx⟩ := hk
    exact ⟨sz, w, g1, g2, g3, fo9, le, wa, hL, hel, hd1, hd2, hsz, e7, fun k hk => ⟨(hx k hk).1, (hx k hk).2.1, fun j hj => ((a1 (4 * k + j) (by omega)).1).symm.trans ((hx k hk).2.2.1 j hj), fun j hj => ((a1 (4 * k + j) (by omega)).2).symm.trans ((hx k hk).2.2.2 j hj)⟩⟩
  · exact hk
  · exact hk
  · obtain ⟨hp, hb⟩ := hk
    refine ⟨?_, fun k hk => by have := hb k hk; rw [a2 k hk] at this; exact this⟩
    rw [a2 0 (by omega), a2 1 (by omega), a2 2 (by omega), a2 3 (by omega)] at hp
    exact hp
  · obtain ⟨wL, tA, nc, sz, r, z, MM, w, h1, hwL, hz, hzi, hL, hel, hn2, hn6, hs10, e22, e23, hx⟩ := hk
    refine ⟨wL, tA, nc, sz, r, z, MM, w, h1, hwL, hz, hzi, hL, fun k hk => ?_, hn2, hn6, hs10, e22, e23, fun k hk => ?_⟩
    · have := hel k hk
      rw [(a3 k (by omega)).1, (a3 k (by omega)).2] at this
      exact this
    · have := hx k hk
      rw [(a3 k (by omega)).1, (a3 k (by omega)).2] at this
      exact this
  · trivial
