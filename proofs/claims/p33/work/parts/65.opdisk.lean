/-! the calls on disks -/
theorem cDsk_put {G : kG} {g : kH} {c : cSt} {m : pSt} {sz n p : Nat} {w : Nat → Nat} {dx dy dr : Nat → Int64} {x1 x2 x3 : Int32} {t : Nat} (hL : kLst G g c.dl n (fun j => if j = p then t else w j)) (he : ∀ j, j < n → g (if j = p then t else w j) = some (if j = p then .inr (1, [.long x1.toInt64, .long x2.toInt64, .long x3.toInt64]) else dsE dx dy dr j)) (hn : n ≤ 16) (hw : mDisk x1 x2 x3)
    (hx : ∀ k, k < sz → dx k = (m.dx k).toInt64 ∧ dy k = (m.dy k).toInt64 ∧ dr k = (m.dr k).toInt64 ∧ mDisk (m.dx k) (m.dy k) (m.dr k)) (hs : ∀ j, j < n → ¬ j = p → j < sz) : cDsk G g c (pMk m.cc m.fc (n) m.ng m.nm m.nc m.nw m.fa (upd m.dx p x1) (upd m.dy p x2) (upd m.dr p x3) m.fo m.ro m.mv m.pr m.ea m.eb) := by
  refine ⟨n, _, fun j => if j = p then x1.toInt64 else dx j, fun j => if j = p then x2.toInt64 else dy j, fun j => if j = p then x3.toInt64 else dr j, hL, fun j hj => ?_, hn, rfl, fun j hj => ?_⟩
  · refine (he j hj).trans ?_
    by_cases q : j = p
    · rw [if_pos q]; simp only [dsE, if_pos q]
    · rw [if_neg q]; simp only [dsE, if_neg q]
  · show _ = (upd m.dx p x1 j).toInt64 ∧ _ = (upd m.dy p x2 j).toInt64 ∧ _ = (upd m.dr p x3 j).toInt64 ∧ mDisk (upd m.dx p x1 j) (upd m.dy p x2 j) (upd m.dr p x3 j)
    unfold upd
    by_cases q : j = p
    · simp only [if_pos q]; exact ⟨trivial, trivial, trivial, hw⟩
    · simp only [if_neg q]; exact hx j (hs j hj q)
def c_disk (m : pSt) (x1 x2 x3 : Int32) : pRI := if mDisk x1 x2 x3 then (if 16 ≤ m.nd then (3, 0, m) else (0, nI m.nd, (pMk m.cc m.fc (m.nd + 1) m.ng m.nm m.nc m.nw m.fa (upd m.dx m.nd x1) (upd m.dy m.nd x2) (upd m.dr m.nd x3) m.fo m.ro m.mv m.pr m.ea m.eb))) else (2, 0, m)
def c_lie (m : pSt) (x1 x2 : Int32) : pRI := if mIn x1 m.nd ∧ mIn x2 m.nd then (if x1 = x2 then (2, 0, m) else (0, mLies m.dx m.dy m.dr x1.toNatClampNeg x2.toNatClampNeg, m)) else (1, 0, m)
def c_pairs (m : pSt) (x1 : Int32) : pRI := if mRg x1 (0) 2 then (0, nI (kCnt2 (fun x9 y9 => mLies m.dx m.dy m.dr x9 y9 = x1) m.nd), m) else (2, 0, m)
def c_move (m : pSt) (x1 x2 x3 x4 : Int32) : pRI := if mIn x1 m.nd then (if mDisk x2 x3 x4 then (0, m.dr x1.toNatClampNeg, (pMk m.cc m.fc m.nd m.ng m.nm m.nc m.nw m.fa (upd m.dx x1.toNatClampNeg x2) (upd m.dy x1.toNatClampNeg x3) (upd m.dr x1.toNatClampNeg x4) m.fo m.ro m.mv m.pr m.ea m.eb)) else (2, 0, m)) else (1, 0, m)
def c_draws (m : pSt) : pRI := (0, kbI (mDr m.fa m.dx m.dy m.dr m.fc m.cc m.nd m.nd), m)
theorem dsL_m {a4 a5 a6 : Nat → Int32} {dx dy dr : Nat → Int64} {sz i j : Nat} (hx : ∀ k, k < sz → dx k = (a4 k).toInt64 ∧ dy k = (a5 k).toInt64 ∧ dr k = (a6 k).toInt64 ∧ mDisk (a4 k) (a5 k) (a6 k)) (hi : i < sz) (hj : j < sz) : dsL dx dy dr i j = mLies a4 a5 a6 i j := by
  obtain ⟨a1, a2, a3, -⟩ := hx i hi
  obtain ⟨b1, b2, b3, -⟩ := hx j hj
  show kLie (kFar (dx i) (dx j) (dy i) (dy j)) (kBB (dr i) (dr j)) = _
  rw [a1, a2, a3, b1, b2, b3]
theorem mLies_sy (a4 a5 a6 : Nat → Int32) (i j : Nat) : mLies a4 a5 a6 i j = mLies a4 a5 a6 j i := by
  have e1 : kFar (a4 i).toInt64 (a4 j).toInt64 (a5 i).toInt64 (a5 j).toInt64 = kFar (a4 j).toInt64 (a4 i).toInt64 (a5 j).toInt64 (a5 i).toInt64 := by unfold kFar; grind
  have e2 : kBB (a6 i).toInt64 (a6 j).toInt64 = kBB (a6 j).toInt64 (a6 i).toInt64 := by unfold kBB; grind
  show kLie _ _ = kLie _ _
  rw [e1, e2]
theorem cop_disk {l : Launch} (hst : l.stackTraces = false) {G : kG} {B0 h : Nat} {f : kH} {o : Nat → Nat} {c : cSt} {m : pSt} (hI : Inv2 G h f o c m) (x1 x2 x3 : Int32) : cI l G B0 h f yX8_disk wsX8_disk [.int x1, .int x2, .int x3] (c_disk m x1 x2 x3) := by
  have hD : cDsk G (kR o 2 f) c m := hI 2
  obtain ⟨sz, w, dx, dy, dr, hL, he, hsz, e3, hx⟩ := hD
  have hH0 : kCs (kR o 0 f) (cHd h c) := hI 0
  have hH : kCs f (cHd h c) := hH0.le (kR_le _ _ _)
  have hls : kLs G f c.dl sz w (dsE dx dy dr) := (hL.ls he).le (kR_le _ _ _)
  unfold c_disk
  rw [e3]
  by_cases hw : mDisk x1 x2 x3
  · rw [if_pos hw]
    have hw8 := dk_iff.mpr hw
    by_cases h16 : 16 ≤ sz
    · rw [if_pos h16]
      exact cI_no 3 ⟨by omega, by omega⟩ ⟨rfl, rfl, Nat.le_of_ble_eq_true rfl, Nat.le_of_ble_eq_true rfl, Nat.le_of_ble_eq_true rfl, Nat.le_of_ble_eq_true rfl⟩ (kX8_disk_b2 l hst G B0 f h c.dl sz (.ref c.sp) (.ref c.gl) (.ref c.rw) (.ref c.ml) (.ref c.pp) (.ref c.nn) w dx dy dr x1 x2 x3 hH hls hsz hw8 h16) hI.same
    rw [if_neg h16]
    obtain ⟨mc, ⟨h0, h1⟩ | ⟨q, cap, g0, h1, h2, h10, h64, h5, h6⟩⟩ := hL
    · subst h0
      have a1 := kR_some.mp h1
      have hW : kCs f [(h, .inr (8, [.ref c.sp, .ref c.dl, .ref c.gl, .ref c.rw, .ref c.ml, .ref c.pp, .ref c.nn])), (c.dl, .inr (0, [.int mc, .ref (G.2.2 1), .int (nI 0)]))] := kCs_app hH0 (show kCs (kR o 2 f) [(c.dl, .inr (0, [.int mc, .ref (G.2.2 1), .int (nI 0)]))] from ⟨fun x hx => by rw [List.mem_singleton.mp hx]; exact h1, by simp⟩) (by decide)
      refine cI_ok ⟨rfl, rfl, Nat.le_of_ble_eq_true rfl, Nat.le_of_ble_eq_true rfl, Nat.le_of_ble_eq_true rfl, Nat.le_of_ble_eq_true rfl⟩ (kX8_disk_0 l G B0 f h c.dl mc (.ref c.sp) (.ref c.gl) (.ref c.rw) (.ref c.ml) (.ref c.pp) (.ref c.nn) x1 x2 x3 hw8 hW) (fun r f1 hp => ?_)
      obtain ⟨t, q, hr, hT, hq, h4, hK⟩ := hp
      refine ⟨hr, oN o 2 f, c, ?_⟩
      have hqt : q ≠ t := fun z => by have := h4.2; simp [z] at this
      refine hI.step 2 hK (fun a ha => by rw [List.mem_singleton.mp ha]; exact a1.1) ?_ (fun j g hj hP => ?_)
      · exact cDsk_put (kLst.add_0 (w := w) h1 hT hq hqt (h4.pick [1, 3] (by decide) ⟨rfl, rfl, trivial⟩)) (kLst.more (sz := 0) (w := w) (e := dsE dx dy dr) hK (fun j hj => absurd hj (Nat.not_lt_zero _)) hT (h4.at 2 rfl)) (by omega) hw hx (fun j _ _ => by omega)
      · unfold cPt at hP ⊢
        split
        case h_3 => exact absurd rfl hj
        all_goals first | exact hP | trivial
    · have a1 := (kCs_mem h1) _ List.mem_cons_self
      have a2 := (kCs_mem h1) _ (List.mem_cons_of_mem _ List.mem_cons_self)
      have hW : kCs f [(h, .inr (8, [.ref c.sp, .ref c.dl, .ref c.gl, .ref c.rw, .ref c.ml, .ref c.pp, .ref c.nn])), (c.dl, .inr (0, [.int mc, .ref q, .int (nI sz)])), (q, kaO G cap g0)] := kCs_app hH0 h1 (by decide)
      by_cases hc : sz < cap
      · refine cI_ok ⟨rfl, rfl, Nat.le_of_ble_eq_true rfl, Nat.le_of_ble_eq_true rfl, Nat.le_of_ble_eq_true rfl, Nat.le_of_ble_eq_true rfl⟩ (kX8_disk_n l G B0 f h c.dl q mc sz cap g0 (.ref c.sp) (.ref c.gl) (.ref c.rw) (.ref c.ml) (.ref c.pp) (.ref c.nn) x1 x2 x3 hw8 hW (by omega) hc (by omega)) (fun r f1 hp => ?_)
        obtain ⟨t, hr, hT, h4, hK⟩ := hp
        refine ⟨hr, oN o 2 f, c, ?_⟩
        refine hI.step 2 hK (fun a ha => ?_) ?_ (fun j g hj hP => ?_)
        · simp only [List.mem_cons, List.not_mem_nil, or_false] at ha
          rcases ha with rfl | rfl
          · exact a1.1
          · exact a2.1
        · exact cDsk_put (kLst.add_n h1 hc h10 h64 h5 h6 he hT (h4.pick [1, 2] (by decide) ⟨rfl, rfl, trivial⟩)) (kLst.more hK (fun j hj => ⟨he j hj, fun z => by
            simp only [List.mem_cons, List.not_mem_nil, or_false] at z
            exact z.elim (h5 j hj).2.1 (h5 j hj).2.2⟩) hT (h4.at 3 rfl)) (by omega) hw hx (fun j _ _ => by omega)
        · unfold cPt at hP ⊢
          split
          case h_3 => exact absurd rfl hj
          all_goals first | exact hP | trivial
      · have hcs : sz = cap := by omega
        subst hcs
        have hE : kEl f c.dl q g0 sz := ⟨(RX0, TX0, 3), by decide +kernel, 1, rfl, fun i hi y hy => by
          have e5 := h5 i hi
          rw [e5.1] at hy
          cases hy
          exact ⟨e5.2.1, e5.2.2, _, (kR_some.mp (he i hi)).2⟩⟩
        refine cI_ok ⟨rfl, rfl, Nat.le_of_ble_eq_true rfl, Nat.le_of_ble_eq_true rfl, Nat.le_of_ble_eq_true rfl, Nat.le_of_ble_eq_true rfl⟩ (kX8_disk_g l G B0 f h c.dl q mc sz g0 (.ref c.sp) (.ref c.gl) (.ref c.rw) (.ref c.ml) (.ref c.pp) (.ref c.nn) x1 x2 x3 hw8 hW (by omega) (by omega) hE) (fun r f1 hp => ?_)
        obtain ⟨t, q2, hr, hT, hq, h4, hK⟩ := hp
        refine ⟨hr, oN o 2 f, c, ?_⟩
        have hqt : q2 ≠ t := fun z => by have := h4.2; simp [z] at this
        refine hI.step 2 hK (fun a ha => by rw [List.mem_singleton.mp ha]; exact a1.1) ?_ (fun j g hj hP => ?_)
        · exact cDsk_put (kLst.add_g h1 h10 (by omega) h5 h6 he hT hq hqt (h4.pick [1, 4] (by decide) ⟨rfl, rfl, trivial⟩)) (kLst.more hK (fun j hj => ⟨he j hj, fun z => (h5 j hj).2.1 (List.mem_singleton.mp z)⟩) hT (h4.at 3 rfl)) (by omega) hw hx (fun j _ _ => by omega)
        · unfold cPt at hP ⊢
          split
          case h_3 => exact absurd rfl hj
          all_goals first | exact hP | trivial
  · rw [if_neg hw]
    exact cI_no 2 ⟨by omega, by omega⟩ ⟨rfl, rfl, Nat.le_of_ble_eq_true rfl, Nat.le_of_ble_eq_true rfl, Nat.le_of_ble_eq_true rfl, Nat.le_of_ble_eq_true rfl⟩ (kX8_disk_b1 l hst G B0 f h c.dl sz (.ref c.sp) (.ref c.gl) (.ref c.rw) (.ref c.ml) (.ref c.pp) (.ref c.nn) w dx dy dr x1 x2 x3 hH hls hsz (fun z => hw (dk_iff.mp z))) hI.same
theorem cop_lie {l : Launch} (hst : l.stackTraces = false) {G : kG} {B0 h : Nat} {f : kH} {o : Nat → Nat} {c : cSt} {m : pSt} (hI : Inv2 G h f o c m) (x1 x2 : Int32) : cI l G B0 h f yX8_lie wsX8_lie [.int x1, .int x2] (c_lie m x1 x2) := by
  have hD : cDsk G (kR o 2 f) c m := hI 2
  obtain ⟨sz, w, dx, dy, dr, hL, he, hsz, e3, hx⟩ := hD
  have hH0 : kCs (kR o 0 f) (cHd h c) := hI 0
  have hH : kCs f (cHd h c) := hH0.le (kR_le _ _ _)
  have hls : kLs G f c.dl sz w (dsE dx dy dr) := (hL.ls he).le (kR_le _ _ _)
  unfold c_lie
  rw [e3]
  by_cases hv : mIn x1 sz ∧ mIn x2 sz
  · rw [if_pos hv]
    by_cases hab : x1 = x2
    · rw [if_pos hab]
      exact cI_no 2 ⟨by omega, by omega⟩ ⟨rfl, rfl, Nat.le_of_ble_eq_true rfl, Nat.le_of_ble_eq_true rfl, Nat.le_of_ble_eq_true rfl, Nat.le_of_ble_eq_true rfl⟩ (kX8_lie_b2 l hst G B0 f h c.dl sz (.ref c.sp) (.ref c.gl) (.ref c.rw) (.ref c.ml) (.ref c.pp) (.ref c.nn) w dx dy dr x1 x2 hH hls hsz hv hab) hI.same
    rw [if_neg hab]
    obtain ⟨i, hi, rfl⟩ := mIn_ex (by omega) hv.1
    obtain ⟨j, hj, rfl⟩ := mIn_ex (by omega) hv.2
    have hij : ¬ i = j := fun z => hab (by rw [z])
    rw [nI_clamp (show i < 2 ^ 31 by omega), nI_clamp (show j < 2 ^ 31 by omega), ← dsL_m hx hi hj]
    exact cI_ok ⟨rfl, rfl, Nat.le_of_ble_eq_true rfl, Nat.le_of_ble_eq_true rfl, Nat.le_of_ble_eq_true rfl, Nat.le_of_ble_eq_true rfl⟩ (kX8_lie l G B0 f h c.dl sz (.ref c.sp) (.ref c.gl) (.ref c.rw) (.ref c.ml) (.ref c.pp) (.ref c.nn) w dx dy dr i j hH hls hsz hi hj hij) (fun r f1 hp => ⟨hp.1, hI.same _ hp.2⟩)
  · rw [if_neg hv]
    exact cI_no 1 ⟨by omega, by omega⟩ ⟨rfl, rfl, Nat.le_of_ble_eq_true rfl, Nat.le_of_ble_eq_true rfl, Nat.le_of_ble_eq_true rfl, Nat.le_of_ble_eq_true rfl⟩ (kX8_lie_b1 l hst G B0 f h c.dl sz (.ref c.sp) (.ref c.gl) (.ref c.rw) (.ref c.ml) (.ref c.pp) (.ref c.nn) w dx dy dr x1 x2 hH hls hsz hv) hI.same
theorem cop_pairs {l : Launch} (hst : l.stackTraces = false) {G : kG} {B0 h : Nat} {f : kH} {o : Nat → Nat} {c : cSt} {m : pSt} (hI : Inv2 G h f o c m) (x1 : Int32) : cI l G B0 h f yX8_pairs wsX8_pairs [.int x1] (c_pairs m x1) := by
  have hD : cDsk G (kR o 2 f) c m := hI 2
  obtain ⟨sz, w, dx, dy, dr, hL, he, hsz, e3, hx⟩ := hD
  have hH0 : kCs (kR o 0 f) (cHd h c) := hI 0
  have hH : kCs f (cHd h c) := hH0.le (kR_le _ _ _)
  have hls : kLs G f c.dl sz w (dsE dx dy dr) := (hL.ls he).le (kR_le _ _ _)
  unfold c_pairs
  rw [e3]
  by_cases hv : mRg x1 (0) 2
  · rw [if_pos hv]
    obtain ⟨t, ht, rfl⟩ := mRg_ex (n := 2) (by omega) hv
    have hr9 : kCnt2 (fun x9 y9 => mLies m.dx m.dy m.dr x9 y9 = nI t) sz = kCnt2 (fun x9 y9 => dsL dx dy dr y9 x9 = nI t) (if sz = 0 then 1 else sz) := by
      by_cases h0 : sz = 0
      · rw [if_pos h0, h0]; rfl
      · rw [if_neg h0]
        refine kCnt2_cg sz (fun a b ha hb => ?_)
        rw [dsL_m hx (by omega) ha, mLies_sy]
    rw [hr9]
    exact cI_ok ⟨rfl, rfl, Nat.le_of_ble_eq_true rfl, Nat.le_of_ble_eq_true rfl, Nat.le_of_ble_eq_true rfl, Nat.le_of_ble_eq_true rfl⟩ (kX8_pairs l G B0 f h c.dl sz (.ref c.sp) (.ref c.gl) (.ref c.rw) (.ref c.ml) (.ref c.pp) (.ref c.nn) w dx dy dr t hH hls hsz ht) (fun r f1 hp => ⟨hp.1, hI.same _ hp.2⟩)
  · rw [if_neg hv]
    exact cI_no 2 ⟨by omega, by omega⟩ ⟨rfl, rfl, Nat.le_of_ble_eq_true rfl, Nat.le_of_ble_eq_true rfl, Nat.le_of_ble_eq_true rfl, Nat.le_of_ble_eq_true rfl⟩ (kX8_pairs_b1 l hst G B0 f h c.dl sz (.ref c.sp) (.ref c.gl) (.ref c.rw) (.ref c.ml) (.ref c.pp) (.ref c.nn) w dx dy dr x1 hH hls hsz hv) hI.same
theorem cop_move {l : Launch} (hst : l.stackTraces = false) {G : kG} {B0 h : Nat} {f : kH} {o : Nat → Nat} {c : cSt} {m : pSt} (hI : Inv2 G h f o c m) (x1 x2 x3 x4 : Int32) : cI l G B0 h f yX8_move wsX8_move [.int x1, .int x2, .int x3, .int x4] (c_move m x1 x2 x3 x4) := by
  have hD : cDsk G (kR o 2 f) c m := hI 2
  obtain ⟨sz, w, dx, dy, dr, hL, he, hsz, e3, hx⟩ := hD
  have hH0 : kCs (kR o 0 f) (cHd h c) := hI 0
  have hH : kCs f (cHd h c) := hH0.le (kR_le _ _ _)
  have hls : kLs G f c.dl sz w (dsE dx dy dr) := (hL.ls he).le (kR_le _ _ _)
  unfold c_move
  rw [e3]
  by_cases hv : mIn x1 sz
  · rw [if_pos hv]
    by_cases hw : mDisk x2 x3 x4
    · rw [if_pos hw]
      have hw8 := dk_iff.mpr hw
      obtain ⟨i, hi, rfl⟩ := mIn_ex (by omega) hv
      rw [nI_clamp (show i < 2 ^ 31 by omega)]
      obtain ⟨mc, ⟨h0, h1⟩ | ⟨q, cap, g0, h1, h2, h10, h64, h5, h6⟩⟩ := hL
      · omega
      have a1 := (kCs_mem h1) _ List.mem_cons_self
      have a2 := (kCs_mem h1) _ (List.mem_cons_of_mem _ List.mem_cons_self)
      have hW : kCs f [(h, .inr (8, [.ref c.sp, .ref c.dl, .ref c.gl, .ref c.rw, .ref c.ml, .ref c.pp, .ref c.nn])), (c.dl, .inr (0, [.int mc, .ref q, .int (nI sz)])), (q, kaO G cap g0), (w i, .inr (1, [.long (dx i), .long (dy i), .long (dr i)]))] := by
        refine kCs_app hH0 (show kCs (kR o 2 f) [(c.dl, .inr (0, [.int mc, .ref q, .int (nI sz)])), (q, kaO G cap g0), (w i, .inr (1, [.long (dx i), .long (dy i), .long (dr i)]))] from ⟨fun x hx9 => ?_, ?_⟩) (by decide)
        · simp only [List.mem_cons, List.not_mem_nil, or_false] at hx9
          rcases hx9 with rfl | rfl | rfl
          · exact h1.at 0 rfl
          · exact h1.at 1 rfl
          · exact he i hi
        · have n1 := h1.2
          have n2 := h5 i hi
          simp only [List.map_cons, List.map_nil, List.nodup_cons, List.mem_cons, List.not_mem_nil, or_false, not_or, List.nodup_nil, and_true, not_false_eq_true] at n1 ⊢
          exact ⟨⟨n1, fun z => n2.2.1 z.symm⟩, fun z => n2.2.2 z.symm⟩
      have hr9 : (dr i).toInt32 = m.dr i := by rw [(hx i hi).2.2.1]; simp
      refine cI_ok ⟨rfl, rfl, Nat.le_of_ble_eq_true rfl, Nat.le_of_ble_eq_true rfl, Nat.le_of_ble_eq_true rfl, Nat.le_of_ble_eq_true rfl⟩ (kX8_move l G B0 f h c.dl q (w i) mc sz cap i g0 (.ref c.sp) (.ref c.gl) (.ref c.rw) (.ref c.ml) (.ref c.pp) (.ref c.nn) (dx i) (dy i) (dr i) w dx dy dr x2 x3 x4 hw8 hW hls hsz hi h2 (by omega) (h5 i hi).1) (fun r f1 hp => ?_)
      obtain ⟨t, hr, hT, h4, hK⟩ := hp
      refine ⟨hr.trans hr9, oN o 2 f, c, ?_⟩
      refine hI.step 2 hK (fun a ha => ?_) ?_ (fun j g hj hP => ?_)
      · simp only [List.mem_cons, List.not_mem_nil, or_false] at ha
        rcases ha with rfl | rfl
        · exact a1.1
        · exact a2.1
      · obtain ⟨s1, s2⟩ := kLst.set (p := i) h1 h2 h10 h64 h5 h6 he hT hK (h4.at 4 rfl) (h4.pick [1, 2] (by decide) ⟨rfl, rfl, trivial⟩)
        exact cDsk_put s1 s2 hsz hw hx (fun j hj _ => hj)
      · unfold cPt at hP ⊢
        split
        case h_3 => exact absurd rfl hj
        all_goals first | exact hP | trivial
    · rw [if_neg hw]
      exact cI_no 2 ⟨by omega, by omega⟩ ⟨rfl, rfl, Nat.le_of_ble_eq_true rfl, Nat.le_of_ble_eq_true rfl, Nat.le_of_ble_eq_true rfl, Nat.le_of_ble_eq_true rfl⟩ (kX8_move_b2 l hst G B0 f h c.dl sz (.ref c.sp) (.ref c.gl) (.ref c.rw) (.ref c.ml) (.ref c.pp) (.ref c.nn) w dx dy dr x1 x2 x3 x4 hH hls hsz hv (fun z => hw (dk_iff.mp z))) hI.same
  · rw [if_neg hv]
    exact cI_no 1 ⟨by omega, by omega⟩ ⟨rfl, rfl, Nat.le_of_ble_eq_true rfl, Nat.le_of_ble_eq_true rfl, Nat.le_of_ble_eq_true rfl, Nat.le_of_ble_eq_true rfl⟩ (kX8_move_b1 l hst G B0 f h c.dl sz (.ref c.sp) (.ref c.gl) (.ref c.rw) (.ref c.ml) (.ref c.pp) (.ref c.nn) w dx dy dr x1 x2 x3 x4 hH hls hsz hv) hI.same
theorem cop_draws {l : Launch} {G : kG} {B0 h : Nat} {f : kH} {o : Nat → Nat} {c : cSt} {m : pSt} (hI : Inv2 G h f o c m)  : cI l G B0 h f yX8_draws wsX8_draws [] (c_draws m) := by
  have hD : cDsk G (kR o 2 f) c m := hI 2
  obtain ⟨sz, w, dx, dy, dr, hL, he, hsz, e3, hx⟩ := hD
  have hH0 : kCs (kR o 0 f) (cHd h c) := hI 0
  have hH : kCs f (cHd h c) := hH0.le (kR_le _ _ _)
  have hls : kLs G f c.dl sz w (dsE dx dy dr) := (hL.ls he).le (kR_le _ _ _)
  have hN : cNet G (kR o 1 f) c m := hI 1
  obtain ⟨nA, tA, cc, fc, T, h1, e0, e1, N, th, fo, hs, hA, hT⟩ := hN
  have hc16 : cc ≤ 16 := hs.2.1
  have hfc : fc + 4 = 2 * cc := hs.2.2.1
  have hfc28 : fc ≤ 28 := by omega
  have hW : kCs f [(h, .inr (8, [.ref c.sp, .ref c.dl, .ref c.gl, .ref c.rw, .ref c.ml, .ref c.pp, .ref c.nn])), (c.sp, .inr (3, [.ref nA, .ref tA, .int (nI cc), .int (nI fc)])), (nA, kaI G 84 m.fa), (tA, kaI G 256 T)] := kCs_app hH0 h1 (by decide)
  have hr9 : cDr dx dy dr T cc sz ↔ mDr m.fa m.dx m.dy m.dr fc cc sz sz := by
    refine and_congr_right (fun hcc => forall_congr' fun u => forall_congr' fun hu => forall_congr' fun v => forall_congr' fun hv => ?_)
    show dsL dx dy dr v u = _ ↔ mLies m.dx m.dy m.dr u v = _
    rw [dsL_m hx (by omega) hu, mLies_sy]
    have e : nAdj T cc (nI v) (nI u) ↔ mAdj m.fa fc (nI u) (nI v) := by
      rw [nAdj_at hs hT (by omega) (by omega), mAdj_at hs hA (by omega) (by omega)]
      exact ⟨fun z => hs.sym z, fun z => hs.sym z⟩
    by_cases q : mAdj m.fa fc (nI u) (nI v)
    · rw [if_pos q, if_pos (e.mpr q)]
    · rw [if_neg q, if_neg (fun z => q (e.mp z))]
  unfold c_draws
  rw [e0, e1, e3, ← kbI_c hr9]
  exact cI_ok ⟨rfl, rfl, Nat.le_of_ble_eq_true rfl, Nat.le_of_ble_eq_true rfl, Nat.le_of_ble_eq_true rfl, Nat.le_of_ble_eq_true rfl⟩ (kX8_draws l G B0 f h c.sp nA tA c.dl sz (.ref c.gl) (.ref c.rw) (.ref c.ml) (.ref c.pp) (.ref c.nn) m.fa T cc fc w dx dy dr hW hc16 hfc28 hls hsz) (fun r f1 hp => ⟨hp.1, hI.same _ hp.2⟩)
