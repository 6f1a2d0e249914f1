/-! values of calls that are refused -/
theorem mIn_lo {x : Int32} {n : Nat} (h : x.toInt < 0) : ¬ mIn x n := fun z => absurd z.1 (by omega)
theorem mIn_hi {a n : Nat} (h : n ≤ a) (ha : a < 2 ^ 31) : ¬ mIn (nI a) n := fun z => by
  have := z.2
  rw [nI_toInt ha] at this
  omega
theorem mIn_in {a n : Nat} (h : a < n) (ha : a < 2 ^ 31) : mIn (nI a) n := (mIn_nI ha).mpr h
section EV
variable {m : pSt} {x1 x2 x3 x4 x5 : Int32}
theorem e_split_o (h1 : ¬ mIn x1 m.fc) : c_split m x1 = (1, 0, m) := by unfold c_split; rw [if_neg h1]
theorem e_flip_o (h1 : ¬ (mIn x1 m.cc ∧ mIn x2 m.cc)) : c_flip m x1 x2 = (1, 0, m) := by unfold c_flip; rw [if_neg h1]
theorem e_flip_s (h1 : mIn x1 m.cc ∧ mIn x2 m.cc) (h2 : ¬ mCanFlip m.fa m.fc x1 x2) : c_flip m x1 x2 = (3, 0, m) := by unfold c_flip; rw [if_pos h1]; rw [if_neg h2]
theorem e_corner_o (h1 : ¬ (mIn x1 m.fc ∧ mRg x2 (0) 2)) : c_corner m x1 x2 = (1, 0, m) := by unfold c_corner; rw [if_neg h1]
theorem e_around_o (h1 : ¬ (mIn x1 m.cc ∧ ¬ x2 < 0)) : c_around m x1 x2 = (1, 0, m) := by unfold c_around; rw [if_neg h1]
theorem e_net_o (h1 : ¬ mRg x1 (0) 4) : c_net m x1 = (1, 0, m) := by unfold c_net; rw [if_neg h1]
theorem e_disk_a (h1 : ¬ mDisk x1 x2 x3) : c_disk m x1 x2 x3 = (2, 0, m) := by unfold c_disk; rw [if_neg h1]
theorem e_disk_s (h1 : mDisk x1 x2 x3) (h2 : 16 ≤ m.nd) : c_disk m x1 x2 x3 = (3, 0, m) := by unfold c_disk; rw [if_pos h1]; rw [if_pos h2]
theorem e_move_o (h1 : ¬ mIn x1 m.nd) : c_move m x1 x2 x3 x4 = (1, 0, m) := by unfold c_move; rw [if_neg h1]
theorem e_move_a (h1 : mIn x1 m.nd) (h2 : ¬ mDisk x2 x3 x4) : c_move m x1 x2 x3 x4 = (2, 0, m) := by unfold c_move; rw [if_pos h1]; rw [if_neg h2]
theorem e_lie_o (h1 : ¬ (mIn x1 m.nd ∧ mIn x2 m.nd)) : c_lie m x1 x2 = (1, 0, m) := by unfold c_lie; rw [if_neg h1]
theorem e_lie_a (h1 : mIn x1 m.nd ∧ mIn x2 m.nd) (h2 : x1 = x2) : c_lie m x1 x2 = (2, 0, m) := by unfold c_lie; rw [if_pos h1]; rw [if_pos h2]
theorem e_pairs_a (h1 : ¬ mRg x1 (0) 2) : c_pairs m x1 = (2, 0, m) := by unfold c_pairs; rw [if_neg h1]
theorem e_gasket_a (h1 : ¬ mGk x1 x2 x3 x4) : c_gasket m x1 x2 x3 x4 = (2, 0, m) := by unfold c_gasket; rw [if_neg h1]
theorem e_gasket_s (h1 : mGk x1 x2 x3 x4) (h2 : 8 ≤ m.ng) : c_gasket m x1 x2 x3 x4 = (3, 0, m) := by unfold c_gasket; rw [if_pos h1]; rw [if_pos h2]
theorem e_turn_o (h1 : ¬ (mIn x1 m.ng ∧ mRg x2 (0) 3)) : c_turn m x1 x2 = (1, 0, m) := by unfold c_turn; rw [if_neg h1]
theorem e_curvature_o (h1 : ¬ (mIn x1 m.ng ∧ mRg x2 (0) 3)) : c_curvature m x1 x2 = (1, 0, m) := by unfold c_curvature; rw [if_neg h1]
theorem e_root_o (h1 : ¬ (mIn x1 m.ng ∧ mRg x2 (0) 3)) : c_root m x1 x2 = (1, 0, m) := by unfold c_root; rw [if_neg h1]
theorem e_count_o (h1 : ¬ mIn x1 m.ng) : c_count m x1 x2 = (1, 0, m) := by unfold c_count; rw [if_neg h1]
theorem e_count_a (h1 : mIn x1 m.ng) (h2 : ¬ mRg x2 (1 : Nat) (1000 : Nat)) : c_count m x1 x2 = (2, 0, m) := by unfold c_count; rw [if_pos h1]; rw [if_neg h2]
theorem e_count_s (h1 : mIn x1 m.ng) (h2 : mRg x2 (1 : Nat) (1000 : Nat)) (h3 : ¬ m.ro (4 * x1.toNatClampNeg) < 0) : c_count m x1 x2 = (3, 0, m) := by unfold c_count; rw [if_pos h1]; rw [if_pos h2]; rw [if_neg h3]
theorem e_countAnew_o (h1 : ¬ mIn x1 m.ng) : c_countAnew m x1 x2 = (1, 0, m) := by unfold c_countAnew; rw [if_neg h1]
theorem e_countAnew_a (h1 : mIn x1 m.ng) (h2 : ¬ mRg x2 (1 : Nat) (1000 : Nat)) : c_countAnew m x1 x2 = (2, 0, m) := by unfold c_countAnew; rw [if_pos h1]; rw [if_neg h2]
theorem e_countAnew_s (h1 : mIn x1 m.ng) (h2 : mRg x2 (1 : Nat) (1000 : Nat)) (h3 : ¬ m.ro (4 * x1.toNatClampNeg) < 0) : c_countAnew m x1 x2 = (3, 0, m) := by unfold c_countAnew; rw [if_pos h1]; rw [if_pos h2]; rw [if_neg h3]
theorem e_remainders_o (h1 : ¬ mIn x1 m.ng) : c_remainders m x1 x2 = (1, 0, m) := by unfold c_remainders; rw [if_neg h1]
theorem e_remainders_a (h1 : mIn x1 m.ng) (h2 : ¬ mRg x2 (2 : Nat) (8 : Nat)) : c_remainders m x1 x2 = (2, 0, m) := by unfold c_remainders; rw [if_pos h1]; rw [if_neg h2]
theorem e_ford_a (h1 : ¬ (mFr x1 x2 1 ∧ mFr x3 x4 1)) : c_ford m x1 x2 x3 x4 = (2, 0, m) := by unfold c_ford; rw [if_neg h1]
theorem e_between_a (h1 : ¬ (mFr x1 x2 1 ∧ mFr x3 x4 1 ∧ ¬ mCross x1 x2 x3 x4 = 0)) : c_between m x1 x2 x3 x4 x5 = (2, 0, m) := by unfold c_between; rw [if_neg h1]
theorem e_tell_a (h1 : ¬ mTl x1 x2 x3 x4) : c_tell m x1 x2 x3 x4 = (2, 0, m) := by unfold c_tell; rw [if_neg h1]
theorem e_tell_s (h1 : mTl x1 x2 x3 x4) (h2 : 4 ≤ m.nm) : c_tell m x1 x2 x3 x4 = (3, 0, m) := by unfold c_tell; rw [if_pos h1]; rw [if_pos h2]
theorem e_append_o (h1 : ¬ mIn x1 m.nm) : c_append m x1 x2 = (1, 0, m) := by unfold c_append; rw [if_neg h1]
theorem e_append_s (h1 : mIn x1 m.nm) (h2 : ¬ pIn4 (pPrd m.pr m.mv x1.toNatClampNeg x2)) : c_append m x1 x2 = (3, 0, m) := by unfold c_append; rw [if_pos h1]; rw [if_neg h2]
theorem e_word_o (h1 : ¬ mRg x1 (0) 4) : c_word m x1 = (1, 0, m) := by unfold c_word; rw [if_neg h1]
theorem e_image_a (h1 : ¬ cImOk x1 x2) : c_image m x1 x2 x3 = (2, 0, m) := by unfold c_image; rw [if_neg h1]
theorem e_nodes_a (h1 : ¬ mRg x1 (2 : Nat) (6 : Nat)) : c_nodes m x1 = (2, 0, m) := by unfold c_nodes; rw [if_neg h1]
theorem e_wire_o (h1 : ¬ (mIn x1 m.nc ∧ mIn x2 m.nc)) : c_wire m x1 x2 = (1, 0, m) := by unfold c_wire; rw [if_neg h1]
theorem e_wire_a (h1 : mIn x1 m.nc ∧ mIn x2 m.nc) (h2 : x1 = x2) : c_wire m x1 x2 = (2, 0, m) := by unfold c_wire; rw [if_pos h1]; rw [if_pos h2]
theorem e_wire_s (h1 : mIn x1 m.nc ∧ mIn x2 m.nc) (h2 : ¬ x1 = x2) (h3 : 10 ≤ m.nw) : c_wire m x1 x2 = (3, 0, m) := by unfold c_wire; rw [if_pos h1]; rw [if_neg h2]; rw [if_pos h3]
theorem e_side_o (h1 : ¬ (mIn x1 m.nc ∧ mIn x2 m.nc ∧ (x3 = -1 ∨ mIn x3 m.nw))) : c_side m x1 x2 x3 = (1, 0, m) := by unfold c_side; rw [if_neg h1]
theorem e_side_a (h1 : mIn x1 m.nc ∧ mIn x2 m.nc ∧ (x3 = -1 ∨ mIn x3 m.nw)) (h2 : x1 = x2) : c_side m x1 x2 x3 = (2, 0, m) := by unfold c_side; rw [if_pos h1]; rw [if_pos h2]
theorem e_side_s (h1 : mIn x1 m.nc ∧ mIn x2 m.nc ∧ (x3 = -1 ∨ mIn x3 m.nw)) (h2 : ¬ x1 = x2) (h3 : mTrees m.ea m.eb m.nc m.nw = 0) : c_side m x1 x2 x3 = (3, 0, m) := by unfold c_side; rw [if_pos h1]; rw [if_neg h2]; rw [if_pos h3]
theorem e_net0 : c_net m (nI 0) = (0, nI m.cc, m) := by unfold c_net; rw [if_pos (by decide)]; rfl
theorem e_net1 : c_net m (nI 1) = (0, nI (3 * m.cc - 6), m) := by unfold c_net; rw [if_pos (by decide)]; rfl
theorem e_net2 : c_net m (nI 2) = (0, nI m.fc, m) := by unfold c_net; rw [if_pos (by decide)]; rfl
theorem e_word0 : c_word m (nI 0) = (0, (m.pr 0).toInt32, m) := by unfold c_word; rw [if_pos (by decide)]; rfl
end EV
/-- what always holds of the counts -/
theorem Inv.bd {G : kG} {h : Nat} {f : kH} {m : pSt} (hI : Inv G h f m) : 4 ≤ m.cc ∧ m.cc ≤ 16 ∧ m.fc + 4 = 2 * m.cc ∧ m.nd ≤ 16 ∧ m.ng ≤ 8 ∧ m.nm ≤ 4 ∧ 2 ≤ m.nc ∧ m.nc ≤ 6 ∧ m.nw ≤ 10 := by
  obtain ⟨o, c, hI⟩ := hI
  obtain ⟨nA, tA, cc, fc, T, -, e0, e1, N, th, fo, hs, -, -⟩ := (show cNet G (kR o 1 f) c m from hI 1)
  obtain ⟨sz2, w2, -, -, -, -, -, b2, e2, -⟩ := (show cDsk G (kR o 2 f) c m from hI 2)
  obtain ⟨sz3, w3, -, -, -, -, -, -, -, -, -, -, b3, e3, -⟩ := (show cGsk G (kR o 3 f) c m from hI 3)
  obtain ⟨sz5, w5, -, -, -, -, -, -, b5, e5, -⟩ := (show cMov G (kR o 5 f) c m from hI 5)
  obtain ⟨wL, tA7, nc, sz7, r, z, MM, w7, -, -, -, -, -, -, b7, b7', b7'', e7, e7', -⟩ := (show cNwk G (kR o 7 f) c m from hI 7)
  have := hs.1
  have := hs.2.1
  have := hs.2.2.1
  omega
/-- the net's state, as the invariant has it -/
theorem Inv.net {G : kG} {h : Nat} {f : kH} {m : pSt} (hI : Inv G h f m) : ∃ T, nInv m.cc m.fc m.fa T := by
  obtain ⟨o, c, hI⟩ := hI
  obtain ⟨nA, tA, cc, fc, T, -, e0, e1, hn⟩ := (show cNet G (kR o 1 f) c m from hI 1)
  exact ⟨T, by rw [e0, e1]; exact hn⟩
theorem e_flip_22 {G : kG} {h : Nat} {f : kH} {m : pSt} (hI : Inv G h f m) : c_flip m (nI 2) (nI 2) = (3, 0, m) := by
  obtain ⟨b4, b16, -⟩ := hI.bd
  obtain ⟨T, N, th, fo, hs, hA, hT⟩ := hI.net
  refine e_flip_s ⟨mIn_in (by omega) (by decide), mIn_in (by omega) (by decide)⟩ (fun z => ?_)
  obtain ⟨u, v, h1, h2, h3⟩ := (flip_th hs hA hT (show 2 < m.cc by omega) (show 2 < m.cc by omega)).2.mp z
  exact (hs.at h1).2.2.2.2.1 rfl
