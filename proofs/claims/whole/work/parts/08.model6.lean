/-- the search between two fractions: low top, low bottom, high top, high bottom -/
abbrev mB4 : Type := Int64 × Int64 × Int64 × Int64
abbrev bFl (s : mB4) : Int64 := mFloor s.1 s.2.1
abbrev bDone (s : mB4) : Prop := (bFl s + 1) * s.2.2.2 < s.2.2.1
abbrev bLess (s : mB4) : Int64 := s.1 - bFl s * s.2.1
abbrev bMore (s : mB4) : Int64 := s.2.2.1 - bFl s * s.2.2.2
def mBt (s : mB4) : Nat → mB4
  | 0 => s
  | n + 1 => ((mBt s n).2.2.2, bMore (mBt s n), (mBt s n).2.1, bLess (mBt s n))
def mQA (g : Nat → Int64) (s : mB4) : Nat → Nat → Int64
  | 0 => g
  | n + 1 => vp_updL (mQA g s n) n (bFl (mBt s n))
/-- back through the quotients, from the place M on, r steps -/
def mBk (Q : Nat → Int64) (M : Nat) : Nat → Int64 × Int64
  | 0 => (Q M, 1)
  | r + 1 => (Q (M - r - 1) * (mBk Q M r).1 + (mBk Q M r).2, (mBk Q M r).1)
def mBM (s : mB4) (N : Nat) : Nat := if bDone (mBt s N) then N else N + 1
def mBQ (g : Nat → Int64) (s : mB4) (N : Nat) : Nat → Int64 := if bDone (mBt s N) then vp_updL (mQA g s N) N (bFl (mBt s N) + 1) else vp_updL (vp_updL (mQA g s N) N (bFl (mBt s N))) (N + 1) ((mBt s N).2.2.2 / bMore (mBt s N) + 1)
/-- the search ends behind N steps -/
def mBEnds (s : mB4) (N : Nat) : Prop := (∀ i, i ≤ N → ¬ (mBt s i).2.1 = 0) ∧ (∀ i, i < N → ¬ bDone (mBt s i) ∧ ¬ bLess (mBt s i) = 0) ∧ (bDone (mBt s N) ∨ bLess (mBt s N) = 0) ∧ ¬ bMore (mBt s N) = 0 ∧ N + 1 < 128
theorem k_m1p {m : Nat} (h : ¬ nI m + -1 < 0) : 0 < m := by
  rcases Nat.eq_zero_or_pos m with q | q
  · subst q; exact absurd (by decide) h
  · exact q
theorem k_m1z {m : Nat} (h : nI m + -1 < 0) (hm : m < 2 ^ 31) : m = 0 := by
  rcases Nat.eq_zero_or_pos m with q | q
  · exact q
  · rw [sb_m1 q] at h; exact absurd h (nI_pos (by omega))
theorem k_m2 (m : Nat) : nI (m + 1) - nI 2 = nI m + -1 := by
  rw [← nI_1, Int32.sub_eq_add_neg, Int32.add_assoc]
  rfl

theorem hdX9_root_X9_isPlace : yX9_isPlace.cls ≠ "java/lang/invoke/MethodHandle" ∧ yX9_isPlace.cls ≠ "java/lang/invoke/VarHandle" ∧ (parseMethodDescriptor yX9_isPlace.desc).map (fun d => d.parameters.length) = some 2 := by decide +kernel
theorem lk_X9_root_f80 : Cond.fieldLink RX9 80 "KoebehallModel" "thrown" "I" ∈ wsX9_root := by decide +kernel
theorem hin_X9_root_RX9 : ∀ w ∈ u_ws RX9 TX9 28, w ∈ wsX9_root := by decide +kernel
abbrev rmX9_root_b1 : Room := { frames := 3, cells := 0, slots := 0, locals := 68 }
set_option maxHeartbeats 4000000 in
set_option maxRecDepth 100000 in
/-- X9_root_b1 -/
theorem kX9_root_b1 (l : Launch) (G : kG) (B0 : Nat) (f : kH) (h : Nat) (q : Nat → Nat) (i0 i1 i3 i7 i18 i22 i23 i27 : Int32) (j16 j17 : Int64) (a2 : Nat → Int32) (a4 : Nat → Int32) (a5 : Nat → Int32) (a6 : Nat → Int32) (b8 : Nat → Int64) (b9 : Nat → Int64) (b10 : Nat → Int64) (a11 : Nat → Int32) (a12 : Nat → Int32) (a13 : Nat → Int32) (a14 : Nat → Int32) (b15 : Nat → Int64) (b19 : Nat → Int64) (b20 : Nat → Int64) (b21 : Nat → Int64) (a24 : Nat → Int32) (a25 : Nat → Int32) (a26 : Nat → Int32) (a b : Int32) (g9 : Nat) (hM : kCs f (mC G h q i0 i1 i3 i7 i18 i22 i23 i27 j16 j17 a2 a4 a5 a6 b8 b9 b10 a11 a12 a13 a14 b15 b19 b20 b21 a24 a25 a26)) (hg0 : i7 = nI g9) (hg9 : g9 ≤ 8) (hv : ¬ (mIn a g9 ∧ mRg b (0) 3)) : Met l yX9_root wsX9_root (rmX9_root_b1) (kP G B0 f [.ref h, .int a, .int b]) (kQl G B0 (fun r f1 => r = 0 ∧ kCs f1 (mC G h q i0 i1 i3 i7 i18 i22 i23 (nI 1) j16 j17 a2 a4 a5 a6 b8 b9 b10 a11 a12 a13 a14 b15 b19 b20 b21 a24 a25 a26) ∧ kOff (mAs h q) f f1)) 0 0 (kAb B0) := by
  refine kMet (cc := cX9_root) (maxL := 3) (ret := (some .long)) (by decide) rfl (Nat.le_of_ble_eq_true rfl) ?_
  intro p e s m args below meth c H locs Q ls C hX hl hr hlocks hnm hQ
  have hO : kOff (mAs h q) f f := kOff.rf
  have hl : lv_has ls 3 [(0, .ref h), (1, .int a), (2, .int b)] := hl
  refine lv_aload_n C.x C.b dX9_root_0 rfl (lv_at hl 0 rfl) ?_
  refine lv_aload_n C.x C.b dX9_root_1 rfl (lv_at hl 0 rfl) ?_
  refine lv_iload_n C.x C.b dX9_root_2 rfl (lv_at hl 1 rfl) ?_
  refine lv_iload_n C.x C.b dX9_root_3 rfl (lv_at hl 2 rfl) ?_
  refine k_calli (va_runV (As := [.int a, .int b]) (rest := [.ref h]) C.1 (kX9_isPlace l G B0 f h q i0 i1 i3 i7 i18 i22 i23 i27 j16 j17 a2 a4 a5 a6 b8 b9 b10 a11 a12 a13 a14 b15 b19 b20 b21 a24 a25 a26 a b g9 hM hg0 hg9) (cwV 2 C.ts gX9_root_X9_isPlace rfl rfl rfl ⟨rfl, hdX9_root_X9_isPlace⟩ ⟨Nat.le_of_ble_eq_true rfl, Nat.le_of_ble_eq_true rfl⟩) (k_preV C hX (hM.at 0 rfl) rfl) rfl rfl hl.1 rfl (lv_room (Nat.le_of_ble_eq_true rfl)) dX9_root_4 ⟨Nat.le_of_ble_eq_true rfl, Nat.le_of_ble_eq_true rfl⟩) hX (fun r4 f4 H locs hp4 hX => ?_)
  obtain ⟨hr4, hf4⟩ := hp4
  rw [hf4] at hX
  refine k_topi (y := (kbI (mIn a g9 ∧ mRg b (0) 3))) hr4 ?_
  refine lv_if_eq (tgt := 14) C.x C.b dX9_root_7 (by decide) (fun c_7 => ?_) (fun c_7 => ?_)
  rotate_left
  · exact absurd (kbI_1 c_7) (hv)
  refine lv_iconst (v := nI 1) C.x C.b dX9_root_14 (by decide) ?_
  refine k_put (X := RX9) (T := TX9) (N := 28) (ty := .int) (v := .int (nI 1)) C hX (hM.at 0 rfl) rfl hin_X9_root_RX9 tyX9_ok nmX9 27 (by decide) lk_X9_root_f80 (fun _ h9 => h9) rfl (by decide +kernel) rfl rfl (Nat.le_of_ble_eq_true rfl) dX9_root_15 (fun H locs hX => ?_)
  obtain ⟨g1, hX, hM, hO⟩ := kX.wr hX hM hO 0 rfl (List.mem_of_getElem? (i := 0) rfl)
  have hM : kCs g1 (mC G h q i0 i1 i3 i7 i18 i22 i23 (nI 1) j16 j17 a2 a4 a5 a6 b8 b9 b10 a11 a12 a13 a14 b15 b19 b20 b21 a24 a25 a26) := hM
  refine lv_aload_n C.x C.b dX9_root_18 rfl (lv_at hl 0 rfl) ?_
  refine k_get (X := RX9) (T := TX9) (N := 28) (v := .int (nI 1)) C hX (hM.at 0 rfl) rfl hin_X9_root_RX9 27 (by decide) lk_X9_root_f80 (fun _ h9 => h9) rfl dX9_root_19 ?_
  refine lv_if_le (tgt := 27) C.x C.b dX9_root_22 (by decide) (fun c_22 => ?_) (fun c_22 => ?_)
  · exact absurd c_22 (by decide)
  refine lv_lconst (v := 0) C.x C.b dX9_root_25 (by decide) ?_
  exact k_lret C hX hr hlocks hQ (by omega) (by omega) (⟨rfl, hM, hO⟩) dX9_root_26

theorem hdX9_root_X9_findsRoot : yX9_findsRoot.cls ≠ "java/lang/invoke/MethodHandle" ∧ yX9_findsRoot.cls ≠ "java/lang/invoke/VarHandle" ∧ (parseMethodDescriptor yX9_findsRoot.desc).map (fun d => d.parameters.length) = some 1 := by decide +kernel
theorem lk_X9_root_f33 : Cond.fieldLink RX9 33 "KoebehallModel" "roots" "[J" ∈ wsX9_root := by decide +kernel
abbrev rmX9_root : Room := { frames := 3, cells := 0, slots := 0, locals := 68 }
set_option maxHeartbeats 4000000 in
set_option maxRecDepth 100000 in
/-- X9_root -/
theorem kX9_root (l : Launch) (G : kG) (B0 : Nat) (f : kH) (h : Nat) (q : Nat → Nat) (i0 i1 i3 i7 i18 i22 i23 i27 : Int32) (j16 j17 : Int64) (a2 : Nat → Int32) (a4 : Nat → Int32) (a5 : Nat → Int32) (a6 : Nat → Int32) (b8 : Nat → Int64) (b9 : Nat → Int64) (b10 : Nat → Int64) (a11 : Nat → Int32) (a12 : Nat → Int32) (a13 : Nat → Int32) (a14 : Nat → Int32) (b15 : Nat → Int64) (b19 : Nat → Int64) (b20 : Nat → Int64) (b21 : Nat → Int64) (a24 : Nat → Int32) (a25 : Nat → Int32) (a26 : Nat → Int32) (t k g9 N : Nat) (hM : kCs f (mC G h q i0 i1 i3 i7 i18 i22 i23 i27 j16 j17 a2 a4 a5 a6 b8 b9 b10 a11 a12 a13 a14 b15 b19 b20 b21 a24 a25 a26)) (hg0 : i7 = nI g9) (hg9 : g9 ≤ 8) (ht : t < g9) (hk : k < 4) (hN : mRooted (mCopy b9 b8 (4 * t) 4) N) : Met l yX9_root wsX9_root (rmX9_root) (kP G B0 f [.ref h, .int (nI t), .int (nI k)]) (kQl G B0 (fun r f1 => r = mRoot b8 b9 t N k ∧ kCs f1 (mC G h q i0 i1 i3 i7 i18 i22 i23 (nI 0) j16 j17 a2 a4 a5 a6 b8 (mRoot b8 b9 t N) b10 a11 a12 a13 a14 b15 b19 b20 b21 a24 a25 a26) ∧ kOff (mAs h q) f f1)) 0 0 (kAb B0) := by
  refine kMet (cc := cX9_root) (maxL := 3) (ret := (some .long)) (by decide) rfl (Nat.le_of_ble_eq_true rfl) ?_
  intro p e s m args below meth c H locs Q ls C hX hl hr hlocks hnm hQ
  have hO : kOff (mAs h q) f f := kOff.rf
  have hl : lv_has ls 3 [(0, .ref h), (1, .int (nI t)), (2, .int (nI k))] := hl
  refine lv_aload_n C.x C.b dX9_root_0 rfl (lv_at hl 0 rfl) ?_
  refine lv_aload_n C.x C.b dX9_root_1 rfl (lv_at hl 0 rfl) ?_
  refine lv_iload_n C.x C.b dX9_root_2 rfl (lv_at hl 1 rfl) ?_
  refine lv_iload_n C.x C.b dX9_root_3 rfl (lv_at hl 2 rfl) ?_
  refine k_calli (va_runV (As := [.int (nI t), .int (nI k)]) (rest := [.ref h]) C.1 (kX9_isPlace l G B0 f h q i0 i1 i3 i7 i18 i22 i23 i27 j16 j17 a2 a4 a5 a6 b8 b9 b10 a11 a12 a13 a14 b15 b19 b20 b21 a24 a25 a26 (nI t) (nI k) g9 hM hg0 hg9) (cwV 2 C.ts gX9_root_X9_isPlace rfl rfl rfl ⟨rfl, hdX9_root_X9_isPlace⟩ ⟨Nat.le_of_ble_eq_true rfl, Nat.le_of_ble_eq_true rfl⟩) (k_preV C hX (hM.at 0 rfl) rfl) rfl rfl hl.1 rfl (lv_room (Nat.le_of_ble_eq_true rfl)) dX9_root_4 ⟨Nat.le_of_ble_eq_true rfl, Nat.le_of_ble_eq_true rfl⟩) hX (fun r4 f4 H locs hp4 hX => ?_)
  obtain ⟨hr4, hf4⟩ := hp4
  rw [hf4] at hX
  refine k_topi (y := (kbI (mIn (nI t) g9 ∧ mRg (nI k) (0) 3))) hr4 ?_
  refine lv_if_eq (tgt := 14) C.x C.b dX9_root_7 (by decide) (fun c_7 => ?_) (fun c_7 => ?_)
  · exact absurd ((And.intro ((mIn_nI (by omega)).mpr ht) (by rw [mRg, nI_toInt (by omega)]; omega))) (kbI_0 c_7)
  refine lv_iconst (v := nI 0) C.x C.b dX9_root_10 (by decide) ?_
  refine lv_goto (tgt := 15) C.x C.b dX9_root_11 (by decide) ?_
  refine k_put (X := RX9) (T := TX9) (N := 28) (ty := .int) (v := .int (nI 0)) C hX (hM.at 0 rfl) rfl hin_X9_root_RX9 tyX9_ok nmX9 27 (by decide) lk_X9_root_f80 (fun _ h9 => h9) rfl (by decide +kernel) rfl rfl (Nat.le_of_ble_eq_true rfl) dX9_root_15 (fun H locs hX => ?_)
  obtain ⟨g1, hX, hM, hO⟩ := kX.wr hX hM hO 0 rfl (List.mem_of_getElem? (i := 0) rfl)
  have hM : kCs g1 (mC G h q i0 i1 i3 i7 i18 i22 i23 (nI 0) j16 j17 a2 a4 a5 a6 b8 b9 b10 a11 a12 a13 a14 b15 b19 b20 b21 a24 a25 a26) := hM
  refine lv_aload_n C.x C.b dX9_root_18 rfl (lv_at hl 0 rfl) ?_
  refine k_get (X := RX9) (T := TX9) (N := 28) (v := .int (nI 0)) C hX (hM.at 0 rfl) rfl hin_X9_root_RX9 27 (by decide) lk_X9_root_f80 (fun _ h9 => h9) rfl dX9_root_19 ?_
  refine lv_if_le (tgt := 27) C.x C.b dX9_root_22 (by decide) (fun c_22 => ?_) (fun c_22 => ?_)
  rotate_left
  · exact absurd c_22 (by decide)
  refine lv_aload_n C.x C.b dX9_root_27 rfl (lv_at hl 0 rfl) ?_
  refine lv_iload_n C.x C.b dX9_root_28 rfl (lv_at hl 1 rfl) ?_
  refine k_callv (va_runV (As := [.int (nI t)]) (rest := []) C.1 (kX9_findsRoot l G B0 g1 h q i0 i1 i3 i7 i18 i22 i23 (nI 0) j16 j17 a2 a4 a5 a6 b8 b9 b10 a11 a12 a13 a14 b15 b19 b20 b21 a24 a25 a26 t N hM (by omega) hN) (cwV 1 C.ts gX9_root_X9_findsRoot rfl rfl rfl ⟨rfl, hdX9_root_X9_findsRoot⟩ ⟨Nat.le_of_ble_eq_true rfl, Nat.le_of_ble_eq_true rfl⟩) (k_preV C hX (hM.at 0 rfl) rfl) rfl rfl hl.1 rfl (lv_room (Nat.le_of_ble_eq_true rfl)) dX9_root_29 ⟨Nat.le_of_ble_eq_true rfl, Nat.le_of_ble_eq_true rfl⟩) hX (fun f29 H locs hp29 hX => ?_)
  obtain ⟨hM, hO29⟩ := hp29
  have hO := hO.trans hO29
  have hM : kCs f29 (mC G h q i0 i1 i3 i7 i18 i22 i23 (nI 0) j16 j17 a2 a4 a5 a6 b8 (mRoot b8 b9 t N) b10 a11 a12 a13 a14 b15 b19 b20 b21 a24 a25 a26) := hM
  refine lv_aload_n C.x C.b dX9_root_32 rfl (lv_at hl 0 rfl) ?_
  refine k_get (X := RX9) (T := TX9) (N := 28) (v := .ref (q 9)) C hX (hM.at 0 rfl) rfl hin_X9_root_RX9 9 (by decide) lk_X9_root_f33 (fun _ h9 => h9) rfl dX9_root_33 ?_
  refine lv_iload_n C.x C.b dX9_root_36 rfl (lv_at hl 2 rfl) ?_
  refine k_lald C hX (hM.at 6 rfl) (vp_in_nI (by omega) (by omega)) dX9_root_37 ?_
  refine k_topl (y := (mRoot b8 b9 t N) k) (by rw [nI_clamp (by omega)]) ?_
  exact k_lret C hX hr hlocks hQ (by omega) (by omega) (⟨rfl, hM, hO⟩) dX9_root_38

theorem hdX9_findsBetween_X9_floor : yX9_floor.cls ≠ "java/lang/invoke/MethodHandle" ∧ yX9_floor.cls ≠ "java/lang/invoke/VarHandle" ∧ (parseMethodDescriptor yX9_floor.desc).map (fun d => d.parameters.length) = some 2 := by decide +kernel
theorem lk_X9_findsBetween_f52 : Cond.fieldLink RX9 52 "KoebehallModel" "quotients" "[J" ∈ wsX9_findsBetween := by decide +kernel
theorem hin_X9_findsBetween_RX9 : ∀ w ∈ u_ws RX9 TX9 28, w ∈ wsX9_findsBetween := by decide +kernel
theorem lk_X9_findsBetween_f186 : Cond.fieldLink RX9 186 "KoebehallModel" "top" "J" ∈ wsX9_findsBetween := by decide +kernel
theorem lk_X9_findsBetween_f190 : Cond.fieldLink RX9 190 "KoebehallModel" "below" "J" ∈ wsX9_findsBetween := by decide +kernel
abbrev rmX9_findsBetween_d : Room := { frames := 1, cells := 0, slots := 0, locals := 23 }
set_option maxHeartbeats 4000000 in
set_option maxRecDepth 100000 in
/-- X9_findsBetween_d -/
theorem kX9_findsBetween_d (l : Launch) (G : kG) (B0 : Nat) (f : kH) (h : Nat) (q : Nat → Nat) (i0 i1 i3 i7 i18 i22 i23 i27 : Int32) (j16 j17 : Int64) (a2 : Nat → Int32) (a4 : Nat → Int32) (a5 : Nat → Int32) (a6 : Nat → Int32) (b8 : Nat → Int64) (b9 : Nat → Int64) (b10 : Nat → Int64) (a11 : Nat → Int32) (a12 : Nat → Int32) (a13 : Nat → Int32) (a14 : Nat → Int32) (b15 : Nat → Int64) (b19 : Nat → Int64) (b20 : Nat → Int64) (b21 : Nat → Int64) (a24 : Nat → Int32) (a25 : Nat → Int32) (a26 : Nat → Int32) (x1 x2 x3 x4 : Int64) (N : Nat) (hM : kCs f (mC G h q i0 i1 i3 i7 i18 i22 i23 i27 j16 j17 a2 a4 a5 a6 b8 b9 b10 a11 a12 a13 a14 b15 b19 b20 b21 a24 a25 a26)) (hE : mBEnds (x1, x2, x3, x4) N) (hd : bDone (mBt (x1, x2, x3, x4) N)) : Met l yX9_findsBetween wsX9_findsBetween (rmX9_findsBetween_d) (kP G B0 f [.ref h, .long x1, .long x2, .long x3, .long x4]) (kQv G B0 (fun f1 => kCs f1 (mC G h q i0 i1 i3 i7 i18 i22 i23 i27 ((mBk (vp_updL (mQA b15 (x1, x2, x3, x4) N) N (bFl (mBt (x1, x2, x3, x4) N) + 1)) (N) N).1) ((mBk (vp_updL (mQA b15 (x1, x2, x3, x4) N) N (bFl (mBt (x1, x2, x3, x4) N) + 1)) (N) N).2) a2 a4 a5 a6 b8 b9 b10 a11 a12 a13 a14 (vp_updL (mQA b15 (x1, x2, x3, x4) N) N (bFl (mBt (x1, x2, x3, x4) N) + 1)) b19 b20 b21 a24 a25 a26) ∧ kOff (mAs h q) f f1)) 0 0 (kAb B0) := by
  refine kMet (cc := cX9_findsBetween) (maxL := 28) (ret := none) (by decide) rfl (Nat.le_of_ble_eq_true rfl) ?_
  intro p e s m args below meth c H locs Q ls C hX hl hr hlocks hnm hQ
  have hO : kOff (mAs h q) f f := kOff.rf
  have hl : lv_has ls 28 [(0, .ref h), (1, .long x1), (3, .long x2), (5, .long x3), (7, .long x4)] := hl
  refine lv_lload_n C.x C.b dX9_findsBetween_0 rfl (lv_at hl 1 rfl) ?_
  refine lv_lstore (lv' := [(9, .long x1), (0, .ref h), (1, .long x1), (3, .long x2), (5, .long x3), (7, .long x4)]) C.x C.b dX9_findsBetween_1 hl (by decide) rfl (fun ls hl => ?_)
  refine lv_lload_n C.x C.b dX9_findsBetween_3 rfl (lv_at hl 3 rfl) ?_
  refine lv_lstore (lv' := [(11, .long x2), (9, .long x1), (0, .ref h), (1, .long x1), (3, .long x2), (5, .long x3), (7, .long x4)]) C.x C.b dX9_findsBetween_4 hl (by decide) rfl (fun ls hl => ?_)
  refine lv_lload C.x C.b dX9_findsBetween_6 (lv_at hl 5 rfl) ?_
  refine lv_lstore (lv' := [(13, .long x3), (11, .long x2), (9, .long x1), (0, .ref h), (1, .long x1), (3, .long x2), (5, .long x3), (7, .long x4)]) C.x C.b dX9_findsBetween_8 hl (by decide) rfl (fun ls hl => ?_)
  refine lv_lload C.x C.b dX9_findsBetween_10 (lv_at hl 7 rfl) ?_
  refine lv_lstore (lv' := [(15, .long x4), (13, .long x3), (11, .long x2), (9, .long x1), (0, .ref h), (1, .long x1), (3, .long x2), (5, .long x3), (7, .long x4)]) C.x C.b dX9_findsBetween_12 hl (by decide) rfl (fun ls hl => ?_)
  refine lv_iconst (v := nI 0) C.x C.b dX9_findsBetween_14 (by decide) ?_
  refine lv_istore (lv' := [(17, .int (nI 0)), (15, .long x4), (13, .long x3), (11, .long x2), (9, .long x1), (0, .ref h), (1, .long x1), (3, .long x2), (5, .long x3), (7, .long x4)]) C.x C.b dX9_findsBetween_15 hl (by decide) rfl (fun ls hl => ?_)
  refine lv_iconst (v := nI 1) C.x C.b dX9_findsBetween_17 (by decide) ?_
  refine lv_istore (lv' := [(18, .int (nI 1)), (17, .int (nI 0)), (15, .long x4), (13, .long x3), (11, .long x2), (9, .long x1), (0, .ref h), (1, .long x1), (3, .long x2), (5, .long x3), (7, .long x4)]) C.x C.b dX9_findsBetween_18 hl (by decide) rfl (fun ls hl => ?_)
  have LOOP20 : ∀ (n : Nat) (i : Nat), (i ≤ N) → (N - i) < n → ∀ (ls : Array Slot), lv_has ls 28 [(9, .long ((mBt (x1, x2, x3, x4) i).1)), (11, .long ((mBt (x1, x2, x3, x4) i).2.1)), (13, .long ((mBt (x1, x2, x3, x4) i).2.2.1)), (15, .long ((mBt (x1, x2, x3, x4) i).2.2.2)), (17, .int (nI i)), (18, .int (nI 1)), (0, .ref h)] → ∀ (fL : kH), kCs fL (mC G h q i0 i1 i3 i7 i18 i22 i23 i27 j16 j17 a2 a4 a5 a6 b8 b9 b10 a11 a12 a13 a14 (mQA b15 (x1, x2, x3, x4) i) b19 b20 b21 a24 a25 a26) → kOff (mAs h q) f fL → ∀ (H : Heap) (locs : List Loc), kX G B0 s fL H locs → W p l e (rmX9_findsBetween_d) s m args below meth c H locs 0 0 Q (F0 m 20 ls []) := by
    intro n20
    induction n20 with
    | zero => intro i hi hn; exact absurd hn (Nat.not_lt_zero _)
    | succ n20 ih20 =>
      intro i hi hn ls hl fL hM hO H locs hX
      refine lv_iload C.x C.b dX9_findsBetween_20 (lv_at hl 5 rfl) ?_
      have hN9 := hE.2.2.2.2
      refine lv_if_eq (tgt := 162) C.x C.b dX9_findsBetween_22 (by decide) (fun c_22 => ?_) (fun c_22 => ?_)
      · exact absurd c_22 (by decide)
      refine lv_lload C.x C.b dX9_findsBetween_25 (lv_at hl 0 rfl) ?_
      refine lv_lload C.x C.b dX9_findsBetween_27 (lv_at hl 1 rfl) ?_
      refine k_calll (va_runS (As := [.long ((mBt (x1, x2, x3, x4) i).1), .long ((mBt (x1, x2, x3, x4) i).2.1)]) (rest := []) C.1 (kX9_floor l G B0 fL (mBt (x1, x2, x3, x4) i).1 (mBt (x1, x2, x3, x4) i).2.1 (hE.1 i hi)) (va_cwS 2 C.ts gX9_findsBetween_X9_floor rfl rfl rfl (hdX9_findsBetween_X9_floor) ⟨Nat.le_of_ble_eq_true rfl, Nat.le_of_ble_eq_true rfl⟩) (k_preS C hX) rfl rfl hl.1 rfl (lv_room (Nat.le_of_ble_eq_true rfl)) dX9_findsBetween_29 ⟨Nat.le_of_ble_eq_true rfl, Nat.le_of_ble_eq_true rfl⟩) hX (fun r29 f29 H locs hp29 hX => ?_)
      obtain ⟨hr29, hf29⟩ := hp29
      rw [hf29] at hX
      refine k_topl (y := (bFl (mBt (x1, x2, x3, x4) i))) hr29 ?_
      refine lv_lstore (lv' := [(19, .long (bFl (mBt (x1, x2, x3, x4) i))), (9, .long ((mBt (x1, x2, x3, x4) i).1)), (11, .long ((mBt (x1, x2, x3, x4) i).2.1)), (13, .long ((mBt (x1, x2, x3, x4) i).2.2.1)), (15, .long ((mBt (x1, x2, x3, x4) i).2.2.2)), (17, .int (nI i)), (18, .int (nI 1)), (0, .ref h)]) C.x C.b dX9_findsBetween_32 hl (by decide) rfl (fun ls hl => ?_)
      refine lv_lload C.x C.b dX9_findsBetween_34 (lv_at hl 0 rfl) ?_
      refine lv_lconst (v := 1) C.x C.b dX9_findsBetween_36 (by decide) ?_
      refine lv_ladd C.x C.b dX9_findsBetween_37 ?_
      refine lv_lload C.x C.b dX9_findsBetween_38 (lv_at hl 4 rfl) ?_
      refine lv_lmul C.x C.b dX9_findsBetween_40 ?_
      refine lv_lload C.x C.b dX9_findsBetween_41 (lv_at hl 3 rfl) ?_
      refine k_lcmp_ge (tgt := 51) C.x C.b dX9_findsBetween_43 dX9_findsBetween_44 (by decide) (fun c_44 => ?_) (fun c_44 => ?_)
      · skip
        have hi8 : i < N := by rcases Nat.lt_or_ge i N with q9 | q9; exact q9; exact absurd (by rw [show i = N by omega]; exact hd) c_44
        refine lv_iconst (v := nI 0) C.x C.b dX9_findsBetween_51 (by decide) ?_
        refine lv_istore (lv' := [(21, .int (nI 0)), (19, .long (bFl (mBt (x1, x2, x3, x4) i))), (9, .long ((mBt (x1, x2, x3, x4) i).1)), (11, .long ((mBt (x1, x2, x3, x4) i).2.1)), (13, .long ((mBt (x1, x2, x3, x4) i).2.2.1)), (15, .long ((mBt (x1, x2, x3, x4) i).2.2.2)), (17, .int (nI i)), (18, .int (nI 1)), (0, .ref h)]) C.x C.b dX9_findsBetween_52 hl (by decide) rfl (fun ls hl => ?_)
        refine lv_aload_n C.x C.b dX9_findsBetween_54 rfl (lv_at hl 8 rfl) ?_
        refine k_get (X := RX9) (T := TX9) (N := 28) (v := .ref (q 15)) C hX (hM.at 0 rfl) rfl hin_X9_findsBetween_RX9 15 (by decide) lk_X9_findsBetween_f52 (fun _ h9 => h9) rfl dX9_findsBetween_55 ?_
        refine lv_iload C.x C.b dX9_findsBetween_58 (lv_at hl 6 rfl) ?_
        refine lv_iload C.x C.b dX9_findsBetween_60 (lv_at hl 0 rfl) ?_
        refine lv_if_eq (tgt := 72) C.x C.b dX9_findsBetween_62 (by decide) (fun c_62 => ?_) (fun c_62 => ?_)
        rotate_left
        · exact absurd c_62 (by decide)
        refine lv_lload C.x C.b dX9_findsBetween_72 (lv_at hl 1 rfl) ?_
        refine k_last C hX (hM.at 12 rfl) (vp_in_nI (by omega) (by omega)) dX9_findsBetween_74 (fun H locs hX => ?_)
        rw [nI_clamp (by omega)] at hX
        obtain ⟨g2, hX, hM, hO⟩ := kX.wr hX hM hO 12 rfl (List.mem_of_getElem? (i := 12) rfl)
        have hM : kCs g2 (mC G h q i0 i1 i3 i7 i18 i22 i23 i27 j16 j17 a2 a4 a5 a6 b8 b9 b10 a11 a12 a13 a14 (vp_updL (mQA b15 (x1, x2, x3, x4) i) i (bFl (mBt (x1, x2, x3, x4) i))) b19 b20 b21 a24 a25 a26) := hM
        rw [show (vp_updL (mQA b15 (x1, x2, x3, x4) i) i (bFl (mBt (x1, x2, x3, x4) i))) = (mQA b15 (x1, x2, x3, x4) (i + 1)) from rfl] at hM
        have hM : kCs g2 (mC G h q i0 i1 i3 i7 i18 i22 i23 i27 j16 j17 a2 a4 a5 a6 b8 b9 b10 a11 a12 a13 a14 (mQA b15 (x1, x2, x3, x4) (i + 1)) b19 b20 b21 a24 a25 a26) := hM
        refine lv_iinc (v := (nI (i + 1))) (lv' := [(17, .int (nI (i + 1))), (21, .int (nI 0)), (19, .long (bFl (mBt (x1, x2, x3, x4) i))), (9, .long ((mBt (x1, x2, x3, x4) i).1)), (11, .long ((mBt (x1, x2, x3, x4) i).2.1)), (13, .long ((mBt (x1, x2, x3, x4) i).2.2.1)), (15, .long ((mBt (x1, x2, x3, x4) i).2.2.2)), (18, .int (nI 1)), (0, .ref h)]) C.x C.b dX9_findsBetween_75 hl (k := 6) rfl (nI_1 _) (by decide) rfl (fun ls hl => ?_)
        refine lv_lload C.x C.b dX9_findsBetween_78 (lv_at hl 3 rfl) ?_
        refine lv_lload C.x C.b dX9_findsBetween_80 (lv_at hl 2 rfl) ?_
        refine lv_lload C.x C.b dX9_findsBetween_82 (lv_at hl 4 rfl) ?_
        refine lv_lmul C.x C.b dX9_findsBetween_84 ?_
        refine lv_lsub C.x C.b dX9_findsBetween_85 ?_
        refine lv_lstore (lv' := [(22, .long (((mBt (x1, x2, x3, x4) i).1) - ((bFl (mBt (x1, x2, x3, x4) i)) * ((mBt (x1, x2, x3, x4) i).2.1)))), (17, .int (nI (i + 1))), (21, .int (nI 0)), (19, .long (bFl (mBt (x1, x2, x3, x4) i))), (9, .long ((mBt (x1, x2, x3, x4) i).1)), (11, .long ((mBt (x1, x2, x3, x4) i).2.1)), (13, .long ((mBt (x1, x2, x3, x4) i).2.2.1)), (15, .long ((mBt (x1, x2, x3, x4) i).2.2.2)), (18, .int (nI 1)), (0, .ref h)]) C.x C.b dX9_findsBetween_86 hl (by decide) rfl (fun ls hl => ?_)
        refine lv_lload C.x C.b dX9_findsBetween_88 (lv_at hl 6 rfl) ?_
        refine lv_lload C.x C.b dX9_findsBetween_90 (lv_at hl 3 rfl) ?_
        refine lv_lload C.x C.b dX9_findsBetween_92 (lv_at hl 7 rfl) ?_
        refine lv_lmul C.x C.b dX9_findsBetween_94 ?_
        refine lv_lsub C.x C.b dX9_findsBetween_95 ?_
        refine lv_lstore (lv' := [(24, .long (((mBt (x1, x2, x3, x4) i).2.2.1) - ((bFl (mBt (x1, x2, x3, x4) i)) * ((mBt (x1, x2, x3, x4) i).2.2.2)))), (22, .long (((mBt (x1, x2, x3, x4) i).1) - ((bFl (mBt (x1, x2, x3, x4) i)) * ((mBt (x1, x2, x3, x4) i).2.1)))), (17, .int (nI (i + 1))), (21, .int (nI 0)), (19, .long (bFl (mBt (x1, x2, x3, x4) i))), (9, .long ((mBt (x1, x2, x3, x4) i).1)), (11, .long ((mBt (x1, x2, x3, x4) i).2.1)), (13, .long ((mBt (x1, x2, x3, x4) i).2.2.1)), (15, .long ((mBt (x1, x2, x3, x4) i).2.2.2)), (18, .int (nI 1)), (0, .ref h)]) C.x C.b dX9_findsBetween_96 hl (by decide) rfl (fun ls hl => ?_)
        refine lv_iload C.x C.b dX9_findsBetween_98 (lv_at hl 3 rfl) ?_
        refine lv_if_eq (tgt := 109) C.x C.b dX9_findsBetween_100 (by decide) (fun c_100 => ?_) (fun c_100 => ?_)
        rotate_left
        · exact absurd c_100 (by decide)
        refine lv_lload C.x C.b dX9_findsBetween_109 (lv_at hl 1 rfl) ?_
        refine lv_lconst (v := 0) C.x C.b dX9_findsBetween_111 (by decide) ?_
        refine k_lcmp_ne (tgt := 139) C.x C.b dX9_findsBetween_112 dX9_findsBetween_113 (by decide) (fun c_113 => ?_) (fun c_113 => ?_)
        · skip
          have hi7 : i < N := by rcases Nat.lt_or_ge i N with q9 | q9; exact q9; have e7 : N = i := (by omega); rcases hE.2.2.1 with z9 | z9 <;> rw [e7] at z9 <;> first | exact absurd z9 c_44 | exact absurd z9 c_113
          refine lv_lload C.x C.b dX9_findsBetween_139 (lv_at hl 6 rfl) ?_
          refine lv_lstore (lv' := [(26, .long ((mBt (x1, x2, x3, x4) i).2.1)), (24, .long (((mBt (x1, x2, x3, x4) i).2.2.1) - ((bFl (mBt (x1, x2, x3, x4) i)) * ((mBt (x1, x2, x3, x4) i).2.2.2)))), (22, .long (((mBt (x1, x2, x3, x4) i).1) - ((bFl (mBt (x1, x2, x3, x4) i)) * ((mBt (x1, x2, x3, x4) i).2.1)))), (17, .int (nI (i + 1))), (21, .int (nI 0)), (19, .long (bFl (mBt (x1, x2, x3, x4) i))), (9, .long ((mBt (x1, x2, x3, x4) i).1)), (11, .long ((mBt (x1, x2, x3, x4) i).2.1)), (13, .long ((mBt (x1, x2, x3, x4) i).2.2.1)), (15, .long ((mBt (x1, x2, x3, x4) i).2.2.2)), (18, .int (nI 1)), (0, .ref h)]) C.x C.b dX9_findsBetween_141 hl (by decide) rfl (fun ls hl => ?_)
          refine lv_lload C.x C.b dX9_findsBetween_143 (lv_at hl 9 rfl) ?_
          refine lv_lstore (lv' := [(9, .long ((mBt (x1, x2, x3, x4) i).2.2.2)), (26, .long ((mBt (x1, x2, x3, x4) i).2.1)), (24, .long (((mBt (x1, x2, x3, x4) i).2.2.1) - ((bFl (mBt (x1, x2, x3, x4) i)) * ((mBt (x1, x2, x3, x4) i).2.2.2)))), (22, .long (((mBt (x1, x2, x3, x4) i).1) - ((bFl (mBt (x1, x2, x3, x4) i)) * ((mBt (x1, x2, x3, x4) i).2.1)))), (17, .int (nI (i + 1))), (21, .int (nI 0)), (19, .long (bFl (mBt (x1, x2, x3, x4) i))), (11, .long ((mBt (x1, x2, x3, x4) i).2.1)), (13, .long ((mBt (x1, x2, x3, x4) i).2.2.1)), (15, .long ((mBt (x1, x2, x3, x4) i).2.2.2)), (18, .int (nI 1)), (0, .ref h)]) C.x C.b dX9_findsBetween_145 hl (by decide) rfl (fun ls hl => ?_)
          refine lv_lload C.x C.b dX9_findsBetween_147 (lv_at hl 2 rfl) ?_
          refine lv_lstore (lv' := [(11, .long (((mBt (x1, x2, x3, x4) i).2.2.1) - ((bFl (mBt (x1, x2, x3, x4) i)) * ((mBt (x1, x2, x3, x4) i).2.2.2)))), (9, .long ((mBt (x1, x2, x3, x4) i).2.2.2)), (26, .long ((mBt (x1, x2, x3, x4) i).2.1)), (24, .long (((mBt (x1, x2, x3, x4) i).2.2.1) - ((bFl (mBt (x1, x2, x3, x4) i)) * ((mBt (x1, x2, x3, x4) i).2.2.2)))), (22, .long (((mBt (x1, x2, x3, x4) i).1) - ((bFl (mBt (x1, x2, x3, x4) i)) * ((mBt (x1, x2, x3, x4) i).2.1)))), (17, .int (nI (i + 1))), (21, .int (nI 0)), (19, .long (bFl (mBt (x1, x2, x3, x4) i))), (13, .long ((mBt (x1, x2, x3, x4) i).2.2.1)), (15, .long ((mBt (x1, x2, x3, x4) i).2.2.2)), (18, .int (nI 1)), (0, .ref h)]) C.x C.b dX9_findsBetween_149 hl (by decide) rfl (fun ls hl => ?_)
          refine lv_lload C.x C.b dX9_findsBetween_151 (lv_at hl 2 rfl) ?_
          refine lv_lstore (lv' := [(13, .long ((mBt (x1, x2, x3, x4) i).2.1)), (11, .long (((mBt (x1, x2, x3, x4) i).2.2.1) - ((bFl (mBt (x1, x2, x3, x4) i)) * ((mBt (x1, x2, x3, x4) i).2.2.2)))), (9, .long ((mBt (x1, x2, x3, x4) i).2.2.2)), (26, .long ((mBt (x1, x2, x3, x4) i).2.1)), (24, .long (((mBt (x1, x2, x3, x4) i).2.2.1) - ((bFl (mBt (x1, x2, x3, x4) i)) * ((mBt (x1, x2, x3, x4) i).2.2.2)))), (22, .long (((mBt (x1, x2, x3, x4) i).1) - ((bFl (mBt (x1, x2, x3, x4) i)) * ((mBt (x1, x2, x3, x4) i).2.1)))), (17, .int (nI (i + 1))), (21, .int (nI 0)), (19, .long (bFl (mBt (x1, x2, x3, x4) i))), (15, .long ((mBt (x1, x2, x3, x4) i).2.2.2)), (18, .int (nI 1)), (0, .ref h)]) C.x C.b dX9_findsBetween_153 hl (by decide) rfl (fun ls hl => ?_)
          refine lv_lload C.x C.b dX9_findsBetween_155 (lv_at hl 5 rfl) ?_
          refine lv_lstore (lv' := [(15, .long (((mBt (x1, x2, x3, x4) i).1) - ((bFl (mBt (x1, x2, x3, x4) i)) * ((mBt (x1, x2, x3, x4) i).2.1)))), (13, .long ((mBt (x1, x2, x3, x4) i).2.1)), (11, .long (((mBt (x1, x2, x3, x4) i).2.2.1) - ((bFl (mBt (x1, x2, x3, x4) i)) * ((mBt (x1, x2, x3, x4) i).2.2.2)))), (9, .long ((mBt (x1, x2, x3, x4) i).2.2.2)), (26, .long ((mBt (x1, x2, x3, x4) i).2.1)), (24, .long (((mBt (x1, x2, x3, x4) i).2.2.1) - ((bFl (mBt (x1, x2, x3, x4) i)) * ((mBt (x1, x2, x3, x4) i).2.2.2)))), (22, .long (((mBt (x1, x2, x3, x4) i).1) - ((bFl (mBt (x1, x2, x3, x4) i)) * ((mBt (x1, x2, x3, x4) i).2.1)))), (17, .int (nI (i + 1))), (21, .int (nI 0)), (19, .long (bFl (mBt (x1, x2, x3, x4) i))), (18, .int (nI 1)), (0, .ref h)]) C.x C.b dX9_findsBetween_157 hl (by decide) rfl (fun ls hl => ?_)
          refine lv_goto (tgt := 20) C.x C.b dX9_findsBetween_159 (by decide) ?_
          exact ih20 (i + 1) (by omega) (by omega) ls (lv_sub hl [3, 2, 1, 0, 7, 10, 11] rfl) _ hM hO _ _ hX
        · skip
          exact absurd c_113 (hE.2.1 i hi8).2
      · skip
        have hi9 : i = N := by rcases Nat.lt_or_ge i N with q9 | q9; exact absurd c_44 (hE.2.1 i q9).1; omega
        subst hi9
        refine lv_iconst (v := nI 1) C.x C.b dX9_findsBetween_47 (by decide) ?_
        refine lv_goto (tgt := 52) C.x C.b dX9_findsBetween_48 (by decide) ?_
        refine lv_istore (lv' := [(21, .int (nI 1)), (19, .long (bFl (mBt (x1, x2, x3, x4) i))), (9, .long ((mBt (x1, x2, x3, x4) i).1)), (11, .long ((mBt (x1, x2, x3, x4) i).2.1)), (13, .long ((mBt (x1, x2, x3, x4) i).2.2.1)), (15, .long ((mBt (x1, x2, x3, x4) i).2.2.2)), (17, .int (nI i)), (18, .int (nI 1)), (0, .ref h)]) C.x C.b dX9_findsBetween_52 hl (by decide) rfl (fun ls hl => ?_)
        refine lv_aload_n C.x C.b dX9_findsBetween_54 rfl (lv_at hl 8 rfl) ?_
        refine k_get (X := RX9) (T := TX9) (N := 28) (v := .ref (q 15)) C hX (hM.at 0 rfl) rfl hin_X9_findsBetween_RX9 15 (by decide) lk_X9_findsBetween_f52 (fun _ h9 => h9) rfl dX9_findsBetween_55 ?_
        refine lv_iload C.x C.b dX9_findsBetween_58 (lv_at hl 6 rfl) ?_
        refine lv_iload C.x C.b dX9_findsBetween_60 (lv_at hl 0 rfl) ?_
        refine lv_if_eq (tgt := 72) C.x C.b dX9_findsBetween_62 (by decide) (fun c_62 => ?_) (fun c_62 => ?_)
        · exact absurd c_62 (by decide)
        refine lv_lload C.x C.b dX9_findsBetween_65 (lv_at hl 1 rfl) ?_
        refine lv_lconst (v := 1) C.x C.b dX9_findsBetween_67 (by decide) ?_
        refine lv_ladd C.x C.b dX9_findsBetween_68 ?_
        refine lv_goto (tgt := 74) C.x C.b dX9_findsBetween_69 (by decide) ?_
        refine k_last C hX (hM.at 12 rfl) (vp_in_nI (by omega) (by omega)) dX9_findsBetween_74 (fun H locs hX => ?_)
        rw [nI_clamp (by omega)] at hX
        obtain ⟨g3, hX, hM, hO⟩ := kX.wr hX hM hO 12 rfl (List.mem_of_getElem? (i := 12) rfl)
        have hM : kCs g3 (mC G h q i0 i1 i3 i7 i18 i22 i23 i27 j16 j17 a2 a4 a5 a6 b8 b9 b10 a11 a12 a13 a14 (vp_updL (mQA b15 (x1, x2, x3, x4) i) i ((bFl (mBt (x1, x2, x3, x4) i)) + 1)) b19 b20 b21 a24 a25 a26) := hM
        refine lv_iinc (v := (nI (i + 1))) (lv' := [(17, .int (nI (i + 1))), (21, .int (nI 1)), (19, .long (bFl (mBt (x1, x2, x3, x4) i))), (9, .long ((mBt (x1, x2, x3, x4) i).1)), (11, .long ((mBt (x1, x2, x3, x4) i).2.1)), (13, .long ((mBt (x1, x2, x3, x4) i).2.2.1)), (15, .long ((mBt (x1, x2, x3, x4) i).2.2.2)), (18, .int (nI 1)), (0, .ref h)]) C.x C.b dX9_findsBetween_75 hl (k := 6) rfl (nI_1 _) (by decide) rfl (fun ls hl => ?_)
        refine lv_lload C.x C.b dX9_findsBetween_78 (lv_at hl 3 rfl) ?_
        refine lv_lload C.x C.b dX9_findsBetween_80 (lv_at hl 2 rfl) ?_
        refine lv_lload C.x C.b dX9_findsBetween_82 (lv_at hl 4 rfl) ?_
        refine lv_lmul C.x C.b dX9_findsBetween_84 ?_
        refine lv_lsub C.x C.b dX9_findsBetween_85 ?_
        refine lv_lstore (lv' := [(22, .long (((mBt (x1, x2, x3, x4) i).1) - ((bFl (mBt (x1, x2, x3, x4) i)) * ((mBt (x1, x2, x3, x4) i).2.1)))), (17, .int (nI (i + 1))), (21, .int (nI 1)), (19, .long (bFl (mBt (x1, x2, x3, x4) i))), (9, .long ((mBt (x1, x2, x3, x4) i).1)), (11, .long ((mBt (x1, x2, x3, x4) i).2.1)), (13, .long ((mBt (x1, x2, x3, x4) i).2.2.1)), (15, .long ((mBt (x1, x2, x3, x4) i).2.2.2)), (18, .int (nI 1)), (0, .ref h)]) C.x C.b dX9_findsBetween_86 hl (by decide) rfl (fun ls hl => ?_)
        refine lv_lload C.x C.b dX9_findsBetween_88 (lv_at hl 6 rfl) ?_
        refine lv_lload C.x C.b dX9_findsBetween_90 (lv_at hl 3 rfl) ?_
        refine lv_lload C.x C.b dX9_findsBetween_92 (lv_at hl 7 rfl) ?_
        refine lv_lmul C.x C.b dX9_findsBetween_94 ?_
        refine lv_lsub C.x C.b dX9_findsBetween_95 ?_
        refine lv_lstore (lv' := [(24, .long (((mBt (x1, x2, x3, x4) i).2.2.1) - ((bFl (mBt (x1, x2, x3, x4) i)) * ((mBt (x1, x2, x3, x4) i).2.2.2)))), (22, .long (((mBt (x1, x2, x3, x4) i).1) - ((bFl (mBt (x1, x2, x3, x4) i)) * ((mBt (x1, x2, x3, x4) i).2.1)))), (17, .int (nI (i + 1))), (21, .int (nI 1)), (19, .long (bFl (mBt (x1, x2, x3, x4) i))), (9, .long ((mBt (x1, x2, x3, x4) i).1)), (11, .long ((mBt (x1, x2, x3, x4) i).2.1)), (13, .long ((mBt (x1, x2, x3, x4) i).2.2.1)), (15, .long ((mBt (x1, x2, x3, x4) i).2.2.2)), (18, .int (nI 1)), (0, .ref h)]) C.x C.b dX9_findsBetween_96 hl (by decide) rfl (fun ls hl => ?_)
        refine lv_iload C.x C.b dX9_findsBetween_98 (lv_at hl 3 rfl) ?_
        refine lv_if_eq (tgt := 109) C.x C.b dX9_findsBetween_100 (by decide) (fun c_100 => ?_) (fun c_100 => ?_)
        · exact absurd c_100 (by decide)
        refine lv_iconst (v := nI 0) C.x C.b dX9_findsBetween_103 (by decide) ?_
        refine lv_istore (lv' := [(18, .int (nI 0)), (24, .long (((mBt (x1, x2, x3, x4) i).2.2.1) - ((bFl (mBt (x1, x2, x3, x4) i)) * ((mBt (x1, x2, x3, x4) i).2.2.2)))), (22, .long (((mBt (x1, x2, x3, x4) i).1) - ((bFl (mBt (x1, x2, x3, x4) i)) * ((mBt (x1, x2, x3, x4) i).2.1)))), (17, .int (nI (i + 1))), (21, .int (nI 1)), (19, .long (bFl (mBt (x1, x2, x3, x4) i))), (9, .long ((mBt (x1, x2, x3, x4) i).1)), (11, .long ((mBt (x1, x2, x3, x4) i).2.1)), (13, .long ((mBt (x1, x2, x3, x4) i).2.2.1)), (15, .long ((mBt (x1, x2, x3, x4) i).2.2.2)), (0, .ref h)]) C.x C.b dX9_findsBetween_104 hl (by decide) rfl (fun ls hl => ?_)
        refine lv_goto (tgt := 159) C.x C.b dX9_findsBetween_106 (by decide) ?_
        refine lv_goto (tgt := 20) C.x C.b dX9_findsBetween_159 (by decide) ?_
        refine lv_iload C.x C.b dX9_findsBetween_20 (lv_at hl 0 rfl) ?_
        have hN9 := hE.2.2.2.2
        refine lv_if_eq (tgt := 162) C.x C.b dX9_findsBetween_22 (by decide) (fun c_22 => ?_) (fun c_22 => ?_)
        rotate_left
        · exact absurd c_22 (by decide)
        refine lv_aload_n C.x C.b dX9_findsBetween_162 rfl (lv_at hl 10 rfl) ?_
        refine lv_aload_n C.x C.b dX9_findsBetween_163 rfl (lv_at hl 10 rfl) ?_
        refine k_get (X := RX9) (T := TX9) (N := 28) (v := .ref (q 15)) C hX (hM.at 0 rfl) rfl hin_X9_findsBetween_RX9 15 (by decide) lk_X9_findsBetween_f52 (fun _ h9 => h9) rfl dX9_findsBetween_164 ?_
        have hN9 := hE.2.2.2.2
        refine lv_iload C.x C.b dX9_findsBetween_167 (lv_at hl 3 rfl) ?_
        refine lv_iconst (v := nI 1) C.x C.b dX9_findsBetween_169 (by decide) ?_
        refine lv_isub C.x C.b dX9_findsBetween_170 ?_
        refine k_topi (y := (nI i)) (pk_sub (by omega)) ?_
        refine k_lald C hX (hM.at 12 rfl) (vp_in_nI (by omega) (by omega)) dX9_findsBetween_171 ?_
        refine k_topl (y := (vp_updL (mQA b15 (x1, x2, x3, x4) i) i ((bFl (mBt (x1, x2, x3, x4) i)) + 1)) i) (by rw [nI_clamp (by omega)]) ?_
        refine k_put (X := RX9) (T := TX9) (N := 28) (ty := .long) (v := .long ((vp_updL (mQA b15 (x1, x2, x3, x4) i) i ((bFl (mBt (x1, x2, x3, x4) i)) + 1)) i)) C hX (hM.at 0 rfl) rfl hin_X9_findsBetween_RX9 tyX9_ok nmX9 16 (by decide) lk_X9_findsBetween_f186 (fun _ h9 => h9) rfl (by decide +kernel) rfl rfl (Nat.le_of_ble_eq_true rfl) dX9_findsBetween_172 (fun H locs hX => ?_)
        obtain ⟨g4, hX, hM, hO⟩ := kX.wr hX hM hO 0 rfl (List.mem_of_getElem? (i := 0) rfl)
        have hM : kCs g4 (mC G h q i0 i1 i3 i7 i18 i22 i23 i27 ((vp_updL (mQA b15 (x1, x2, x3, x4) i) i ((bFl (mBt (x1, x2, x3, x4) i)) + 1)) i) j17 a2 a4 a5 a6 b8 b9 b10 a11 a12 a13 a14 (vp_updL (mQA b15 (x1, x2, x3, x4) i) i ((bFl (mBt (x1, x2, x3, x4) i)) + 1)) b19 b20 b21 a24 a25 a26) := hM
        refine lv_aload_n C.x C.b dX9_findsBetween_175 rfl (lv_at hl 10 rfl) ?_
        refine lv_lconst (v := 1) C.x C.b dX9_findsBetween_176 (by decide) ?_
        refine k_put (X := RX9) (T := TX9) (N := 28) (ty := .long) (v := .long 1) C hX (hM.at 0 rfl) rfl hin_X9_findsBetween_RX9 tyX9_ok nmX9 17 (by decide) lk_X9_findsBetween_f190 (fun _ h9 => h9) rfl (by decide +kernel) rfl rfl (Nat.le_of_ble_eq_true rfl) dX9_findsBetween_177 (fun H locs hX => ?_)
        obtain ⟨g5, hX, hM, hO⟩ := kX.wr hX hM hO 0 rfl (List.mem_of_getElem? (i := 0) rfl)
        have hM : kCs g5 (mC G h q i0 i1 i3 i7 i18 i22 i23 i27 ((vp_updL (mQA b15 (x1, x2, x3, x4) i) i ((bFl (mBt (x1, x2, x3, x4) i)) + 1)) i) 1 a2 a4 a5 a6 b8 b9 b10 a11 a12 a13 a14 (vp_updL (mQA b15 (x1, x2, x3, x4) i) i ((bFl (mBt (x1, x2, x3, x4) i)) + 1)) b19 b20 b21 a24 a25 a26) := hM
        refine lv_iload C.x C.b dX9_findsBetween_180 (lv_at hl 3 rfl) ?_
        refine lv_iconst (v := nI 2) C.x C.b dX9_findsBetween_182 (by decide) ?_
        refine lv_isub C.x C.b dX9_findsBetween_183 ?_
        refine lv_istore (lv' := [(19, .int ((nI (i + 1)) - (nI 2))), (18, .int (nI 0)), (24, .long (((mBt (x1, x2, x3, x4) i).2.2.1) - ((bFl (mBt (x1, x2, x3, x4) i)) * ((mBt (x1, x2, x3, x4) i).2.2.2)))), (22, .long (((mBt (x1, x2, x3, x4) i).1) - ((bFl (mBt (x1, x2, x3, x4) i)) * ((mBt (x1, x2, x3, x4) i).2.1)))), (17, .int (nI (i + 1))), (21, .int (nI 1)), (9, .long ((mBt (x1, x2, x3, x4) i).1)), (11, .long ((mBt (x1, x2, x3, x4) i).2.1)), (13, .long ((mBt (x1, x2, x3, x4) i).2.2.1)), (15, .long ((mBt (x1, x2, x3, x4) i).2.2.2)), (0, .ref h)]) C.x C.b dX9_findsBetween_184 hl (by decide) rfl (fun ls hl => ?_)
        rw [show ((nI (i + 1)) - (nI 2)) = (nI (i - 0) + -1) from k_m2 _] at hl
        have LOOP186 : ∀ (n : Nat) (r9 : Nat), (r9 ≤ i) → (i - r9) < n → ∀ (ls : Array Slot), lv_has ls 28 [(19, .int (nI (i - r9) + -1)), (0, .ref h)] → ∀ (fL : kH), kCs fL (mC G h q i0 i1 i3 i7 i18 i22 i23 i27 ((mBk (vp_updL (mQA b15 (x1, x2, x3, x4) i) i (bFl (mBt (x1, x2, x3, x4) i) + 1)) (i) r9).1) ((mBk (vp_updL (mQA b15 (x1, x2, x3, x4) i) i (bFl (mBt (x1, x2, x3, x4) i) + 1)) (i) r9).2) a2 a4 a5 a6 b8 b9 b10 a11 a12 a13 a14 (vp_updL (mQA b15 (x1, x2, x3, x4) i) i (bFl (mBt (x1, x2, x3, x4) i) + 1)) b19 b20 b21 a24 a25 a26) → kOff (mAs h q) f fL → ∀ (H : Heap) (locs : List Loc), kX G B0 s fL H locs → W p l e (rmX9_findsBetween_d) s m args below meth c H locs 0 0 Q (F0 m 186 ls []) := by
          intro n186
          induction n186 with
          | zero => intro r9 hr9 hn; exact absurd hn (Nat.not_lt_zero _)
          | succ n186 ih186 =>
            intro r9 hr9 hn ls hl fL hM hO H locs hX
            refine lv_iload C.x C.b dX9_findsBetween_186 (lv_at hl 0 rfl) ?_
            refine lv_if_lt (tgt := 230) C.x C.b dX9_findsBetween_188 (by decide) (fun c_188 => ?_) (fun c_188 => ?_)
            · skip
              have hm9 := k_m1z c_188 (by omega)
              have hr8 : i = r9 := by omega
              exact k_vret C hX hr hlocks hQ (by omega) (by omega) (⟨by rw [← hr8] at hM; exact hM, hO⟩) dX9_findsBetween_230
            · skip
              have hm9 := k_m1p c_188
              rw [sb_m1 hm9] at hl
              refine lv_aload_n C.x C.b dX9_findsBetween_191 rfl (lv_at hl 1 rfl) ?_
              refine k_get (X := RX9) (T := TX9) (N := 28) (v := .ref (q 15)) C hX (hM.at 0 rfl) rfl hin_X9_findsBetween_RX9 15 (by decide) lk_X9_findsBetween_f52 (fun _ h9 => h9) rfl dX9_findsBetween_192 ?_
              refine lv_iload C.x C.b dX9_findsBetween_195 (lv_at hl 0 rfl) ?_
              refine k_lald C hX (hM.at 12 rfl) (vp_in_nI (by omega) (by omega)) dX9_findsBetween_197 ?_
              refine k_topl (y := (vp_updL (mQA b15 (x1, x2, x3, x4) i) i (bFl (mBt (x1, x2, x3, x4) i) + 1)) (i - r9 - 1)) (by rw [nI_clamp (by omega)]) ?_
              refine lv_aload_n C.x C.b dX9_findsBetween_198 rfl (lv_at hl 1 rfl) ?_
              refine k_get (X := RX9) (T := TX9) (N := 28) (v := .long ((mBk (vp_updL (mQA b15 (x1, x2, x3, x4) i) i (bFl (mBt (x1, x2, x3, x4) i) + 1)) (i) r9).1)) C hX (hM.at 0 rfl) rfl hin_X9_findsBetween_RX9 16 (by decide) lk_X9_findsBetween_f186 (fun _ h9 => h9) rfl dX9_findsBetween_199 ?_
              refine lv_lmul C.x C.b dX9_findsBetween_202 ?_
              refine lv_aload_n C.x C.b dX9_findsBetween_203 rfl (lv_at hl 1 rfl) ?_
              refine k_get (X := RX9) (T := TX9) (N := 28) (v := .long ((mBk (vp_updL (mQA b15 (x1, x2, x3, x4) i) i (bFl (mBt (x1, x2, x3, x4) i) + 1)) (i) r9).2)) C hX (hM.at 0 rfl) rfl hin_X9_findsBetween_RX9 17 (by decide) lk_X9_findsBetween_f190 (fun _ h9 => h9) rfl dX9_findsBetween_204 ?_
              refine lv_ladd C.x C.b dX9_findsBetween_207 ?_
              refine lv_lstore (lv' := [(20, .long ((((vp_updL (mQA b15 (x1, x2, x3, x4) i) i (bFl (mBt (x1, x2, x3, x4) i) + 1)) (i - r9 - 1)) * ((mBk (vp_updL (mQA b15 (x1, x2, x3, x4) i) i (bFl (mBt (x1, x2, x3, x4) i) + 1)) (i) r9).1)) + ((mBk (vp_updL (mQA b15 (x1, x2, x3, x4) i) i (bFl (mBt (x1, x2, x3, x4) i) + 1)) (i) r9).2))), (19, .int (nI (i - r9 - 1))), (0, .ref h)]) C.x C.b dX9_findsBetween_208 hl (by decide) rfl (fun ls hl => ?_)
              refine lv_aload_n C.x C.b dX9_findsBetween_210 rfl (lv_at hl 2 rfl) ?_
              refine lv_aload_n C.x C.b dX9_findsBetween_211 rfl (lv_at hl 2 rfl) ?_
              refine k_get (X := RX9) (T := TX9) (N := 28) (v := .long ((mBk (vp_updL (mQA b15 (x1, x2, x3, x4) i) i (bFl (mBt (x1, x2, x3, x4) i) + 1)) (i) r9).1)) C hX (hM.at 0 rfl) rfl hin_X9_findsBetween_RX9 16 (by decide) lk_X9_findsBetween_f186 (fun _ h9 => h9) rfl dX9_findsBetween_212 ?_
              refine k_put (X := RX9) (T := TX9) (N := 28) (ty := .long) (v := .long ((mBk (vp_updL (mQA b15 (x1, x2, x3, x4) i) i (bFl (mBt (x1, x2, x3, x4) i) + 1)) (i) r9).1)) C hX (hM.at 0 rfl) rfl hin_X9_findsBetween_RX9 tyX9_ok nmX9 17 (by decide) lk_X9_findsBetween_f190 (fun _ h9 => h9) rfl (by decide +kernel) rfl rfl (Nat.le_of_ble_eq_true rfl) dX9_findsBetween_215 (fun H locs hX => ?_)
              obtain ⟨g7, hX, hM, hO⟩ := kX.wr hX hM hO 0 rfl (List.mem_of_getElem? (i := 0) rfl)
              have hM : kCs g7 (mC G h q i0 i1 i3 i7 i18 i22 i23 i27 ((mBk (vp_updL (mQA b15 (x1, x2, x3, x4) i) i (bFl (mBt (x1, x2, x3, x4) i) + 1)) (i) r9).1) ((mBk (vp_updL (mQA b15 (x1, x2, x3, x4) i) i (bFl (mBt (x1, x2, x3, x4) i) + 1)) (i) r9).1) a2 a4 a5 a6 b8 b9 b10 a11 a12 a13 a14 (vp_updL (mQA b15 (x1, x2, x3, x4) i) i (bFl (mBt (x1, x2, x3, x4) i) + 1)) b19 b20 b21 a24 a25 a26) := hM
              refine lv_aload_n C.x C.b dX9_findsBetween_218 rfl (lv_at hl 2 rfl) ?_
              refine lv_lload C.x C.b dX9_findsBetween_219 (lv_at hl 0 rfl) ?_
              refine k_put (X := RX9) (T := TX9) (N := 28) (ty := .long) (v := .long ((((vp_updL (mQA b15 (x1, x2, x3, x4) i) i (bFl (mBt (x1, x2, x3, x4) i) + 1)) (i - r9 - 1)) * ((mBk (vp_updL (mQA b15 (x1, x2, x3, x4) i) i (bFl (mBt (x1, x2, x3, x4) i) + 1)) (i) r9).1)) + ((mBk (vp_updL (mQA b15 (x1, x2, x3, x4) i) i (bFl (mBt (x1, x2, x3, x4) i) + 1)) (i) r9).2))) C hX (hM.at 0 rfl) rfl hin_X9_findsBetween_RX9 tyX9_ok nmX9 16 (by decide) lk_X9_findsBetween_f186 (fun _ h9 => h9) rfl (by decide +kernel) rfl rfl (Nat.le_of_ble_eq_true rfl) dX9_findsBetween_221 (fun H locs hX => ?_)
              obtain ⟨g8, hX, hM, hO⟩ := kX.wr hX hM hO 0 rfl (List.mem_of_getElem? (i := 0) rfl)
              have hM : kCs g8 (mC G h q i0 i1 i3 i7 i18 i22 i23 i27 ((((vp_updL (mQA b15 (x1, x2, x3, x4) i) i (bFl (mBt (x1, x2, x3, x4) i) + 1)) (i - r9 - 1)) * ((mBk (vp_updL (mQA b15 (x1, x2, x3, x4) i) i (bFl (mBt (x1, x2, x3, x4) i) + 1)) (i) r9).1)) + ((mBk (vp_updL (mQA b15 (x1, x2, x3, x4) i) i (bFl (mBt (x1, x2, x3, x4) i) + 1)) (i) r9).2)) ((mBk (vp_updL (mQA b15 (x1, x2, x3, x4) i) i (bFl (mBt (x1, x2, x3, x4) i) + 1)) (i) r9).1) a2 a4 a5 a6 b8 b9 b10 a11 a12 a13 a14 (vp_updL (mQA b15 (x1, x2, x3, x4) i) i (bFl (mBt (x1, x2, x3, x4) i) + 1)) b19 b20 b21 a24 a25 a26) := hM
              refine lv_iinc (v := ((nI (i - r9 - 1)) + -1)) (lv' := [(19, .int ((nI (i - r9 - 1)) + -1)), (20, .long ((((vp_updL (mQA b15 (x1, x2, x3, x4) i) i (bFl (mBt (x1, x2, x3, x4) i) + 1)) (i - r9 - 1)) * ((mBk (vp_updL (mQA b15 (x1, x2, x3, x4) i) i (bFl (mBt (x1, x2, x3, x4) i) + 1)) (i) r9).1)) + ((mBk (vp_updL (mQA b15 (x1, x2, x3, x4) i) i (bFl (mBt (x1, x2, x3, x4) i) + 1)) (i) r9).2))), (0, .ref h)]) C.x C.b dX9_findsBetween_224 hl (k := 1) rfl (rfl) (by decide) rfl (fun ls hl => ?_)
              refine lv_goto (tgt := 186) C.x C.b dX9_findsBetween_227 (by decide) ?_
              rw [show ((nI (i - r9 - 1)) + -1) = (nI (i - (r9 + 1)) + -1) from congrArg (fun z => nI z + -1) (by omega)] at hl
              exact ih186 (r9 + 1) (by omega) (by omega) ls (lv_sub hl [0, 2] rfl) _ hM hO _ _ hX
        exact LOOP186 _ 0 (Nat.zero_le _) (Nat.lt_succ_self _) ls (lv_sub hl [0, 10] rfl) _ hM hO _ _ hX
  exact LOOP20 _ 0 (Nat.zero_le _) (Nat.lt_succ_self _) ls (lv_sub hl [5, 4, 3, 2, 1, 0, 6] rfl) _ hM hO _ _ hX

abbrev rmX9_findsBetween_l : Room := { frames := 1, cells := 0, slots := 0, locals := 23 }
set_option maxHeartbeats 4000000 in
set_option maxRecDepth 100000 in
/-- X9_findsBetween_l -/
theorem kX9_findsBetween_l (l : Launch) (G : kG) (B0 : Nat) (f : kH) (h : Nat) (q : Nat → Nat) (i0 i1 i3 i7 i18 i22 i23 i27 : Int32) (j16 j17 : Int64) (a2 : Nat → Int32) (a4 : Nat → Int32) (a5 : Nat → Int32) (a6 : Nat → Int32) (b8 : Nat → Int64) (b9 : Nat → Int64) (b10 : Nat → Int64) (a11 : Nat → Int32) (a12 : Nat → Int32) (a13 : Nat → Int32) (a14 : Nat → Int32) (b15 : Nat → Int64) (b19 : Nat → Int64) (b20 : Nat → Int64) (b21 : Nat → Int64) (a24 : Nat → Int32) (a25 : Nat → Int32) (a26 : Nat → Int32) (x1 x2 x3 x4 : Int64) (N : Nat) (hM : kCs f (mC G h q i0 i1 i3 i7 i18 i22 i23 i27 j16 j17 a2 a4 a5 a6 b8 b9 b10 a11 a12 a13 a14 b15 b19 b20 b21 a24 a25 a26)) (hE : mBEnds (x1, x2, x3, x4) N) (hd : ¬ bDone (mBt (x1, x2, x3, x4) N)) : Met l yX9_findsBetween wsX9_findsBetween (rmX9_findsBetween_l) (kP G B0 f [.ref h, .long x1, .long x2, .long x3, .long x4]) (kQv G B0 (fun f1 => kCs f1 (mC G h q i0 i1 i3 i7 i18 i22 i23 i27 ((mBk (vp_updL (vp_updL (mQA b15 (x1, x2, x3, x4) N) N (bFl (mBt (x1, x2, x3, x4) N))) (N + 1) ((mBt (x1, x2, x3, x4) N).2.2.2 / bMore (mBt (x1, x2, x3, x4) N) + 1)) ((N + 1)) (N + 1)).1) ((mBk (vp_updL (vp_updL (mQA b15 (x1, x2, x3, x4) N) N (bFl (mBt (x1, x2, x3, x4) N))) (N + 1) ((mBt (x1, x2, x3, x4) N).2.2.2 / bMore (mBt (x1, x2, x3, x4) N) + 1)) ((N + 1)) (N + 1)).2) a2 a4 a5 a6 b8 b9 b10 a11 a12 a13 a14 (vp_updL (vp_updL (mQA b15 (x1, x2, x3, x4) N) N (bFl (mBt (x1, x2, x3, x4) N))) (N + 1) ((mBt (x1, x2, x3, x4) N).2.2.2 / bMore (mBt (x1, x2, x3, x4) N) + 1)) b19 b20 b21 a24 a25 a26) ∧ kOff (mAs h q) f f1)) 0 0 (kAb B0) := by
  refine kMet (cc := cX9_findsBetween) (maxL := 28) (ret := none) (by decide) rfl (Nat.le_of_ble_eq_true rfl) ?_
  intro p e s m args below meth c H locs Q ls C hX hl hr hlocks hnm hQ
  have hO : kOff (mAs h q) f f := kOff.rf
  have hl : lv_has ls 28 [(0, .ref h), (1, .long x1), (3, .long x2), (5, .long x3), (7, .long x4)] := hl
  refine lv_lload_n C.x C.b dX9_findsBetween_0 rfl (lv_at hl 1 rfl) ?_
  refine lv_lstore (lv' := [(9, .long x1), (0, .ref h), (1, .long x1), (3, .long x2), (5, .long x3), (7, .long x4)]) C.x C.b dX9_findsBetween_1 hl (by decide) rfl (fun ls hl => ?_)
  refine lv_lload_n C.x C.b dX9_findsBetween_3 rfl (lv_at hl 3 rfl) ?_
  refine lv_lstore (lv' := [(11, .long x2), (9, .long x1), (0, .ref h), (1, .long x1), (3, .long x2), (5, .long x3), (7, .long x4)]) C.x C.b dX9_findsBetween_4 hl (by decide) rfl (fun ls hl => ?_)
  refine lv_lload C.x C.b dX9_findsBetween_6 (lv_at hl 5 rfl) ?_
  refine lv_lstore (lv' := [(13, .long x3), (11, .long x2), (9, .long x1), (0, .ref h), (1, .long x1), (3, .long x2), (5, .long x3), (7, .long x4)]) C.x C.b dX9_findsBetween_8 hl (by decide) rfl (fun ls hl => ?_)
  refine lv_lload C.x C.b dX9_findsBetween_10 (lv_at hl 7 rfl) ?_
  refine lv_lstore (lv' := [(15, .long x4), (13, .long x3), (11, .long x2), (9, .long x1), (0, .ref h), (1, .long x1), (3, .long x2), (5, .long x3), (7, .long x4)]) C.x C.b dX9_findsBetween_12 hl (by decide) rfl (fun ls hl => ?_)
  refine lv_iconst (v := nI 0) C.x C.b dX9_findsBetween_14 (by decide) ?_
  refine lv_istore (lv' := [(17, .int (nI 0)), (15, .long x4), (13, .long x3), (11, .long x2), (9, .long x1), (0, .ref h), (1, .long x1), (3, .long x2), (5, .long x3), (7, .long x4)]) C.x C.b dX9_findsBetween_15 hl (by decide) rfl (fun ls hl => ?_)
  refine lv_iconst (v := nI 1) C.x C.b dX9_findsBetween_17 (by decide) ?_
  refine lv_istore (lv' := [(18, .int (nI 1)), (17, .int (nI 0)), (15, .long x4), (13, .long x3), (11, .long x2), (9, .long x1), (0, .ref h), (1, .long x1), (3, .long x2), (5, .long x3), (7, .long x4)]) C.x C.b dX9_findsBetween_18 hl (by decide) rfl (fun ls hl => ?_)
  have LOOP20 : ∀ (n : Nat) (i : Nat), (i ≤ N) → (N - i) < n → ∀ (ls : Array Slot), lv_has ls 28 [(9, .long ((mBt (x1, x2, x3, x4) i).1)), (11, .long ((mBt (x1, x2, x3, x4) i).2.1)), (13, .long ((mBt (x1, x2, x3, x4) i).2.2.1)), (15, .long ((mBt (x1, x2, x3, x4) i).2.2.2)), (17, .int (nI i)), (18, .int (nI 1)), (0, .ref h)] → ∀ (fL : kH), kCs fL (mC G h q i0 i1 i3 i7 i18 i22 i23 i27 j16 j17 a2 a4 a5 a6 b8 b9 b10 a11 a12 a13 a14 (mQA b15 (x1, x2, x3, x4) i) b19 b20 b21 a24 a25 a26) → kOff (mAs h q) f fL → ∀ (H : Heap) (locs : List Loc), kX G B0 s fL H locs → W p l e (rmX9_findsBetween_l) s m args below meth c H locs 0 0 Q (F0 m 20 ls []) := by
    intro n20
    induction n20 with
    | zero => intro i hi hn; exact absurd hn (Nat.not_lt_zero _)
    | succ n20 ih20 =>
      intro i hi hn ls hl fL hM hO H locs hX
      refine lv_iload C.x C.b dX9_findsBetween_20 (lv_at hl 5 rfl) ?_
      have hN9 := hE.2.2.2.2
      refine lv_if_eq (tgt := 162) C.x C.b dX9_findsBetween_22 (by decide) (fun c_22 => ?_) (fun c_22 => ?_)
      · exact absurd c_22 (by decide)
      refine lv_lload C.x C.b dX9_findsBetween_25 (lv_at hl 0 rfl) ?_
      refine lv_lload C.x C.b dX9_findsBetween_27 (lv_at hl 1 rfl) ?_
      refine k_calll (va_runS (As := [.long ((mBt (x1, x2, x3, x4) i).1), .long ((mBt (x1, x2, x3, x4) i).2.1)]) (rest := []) C.1 (kX9_floor l G B0 fL (mBt (x1, x2, x3, x4) i).1 (mBt (x1, x2, x3, x4) i).2.1 (hE.1 i hi)) (va_cwS 2 C.ts gX9_findsBetween_X9_floor rfl rfl rfl (hdX9_findsBetween_X9_floor) ⟨Nat.le_of_ble_eq_true rfl, Nat.le_of_ble_eq_true rfl⟩) (k_preS C hX) rfl rfl hl.1 rfl (lv_room (Nat.le_of_ble_eq_true rfl)) dX9_findsBetween_29 ⟨Nat.le_of_ble_eq_true rfl, Nat.le_of_ble_eq_true rfl⟩) hX (fun r29 f29 H locs hp29 hX => ?_)
      obtain ⟨hr29, hf29⟩ := hp29
      rw [hf29] at hX
      refine k_topl (y := (bFl (mBt (x1, x2, x3, x4) i))) hr29 ?_
      refine lv_lstore (lv' := [(19, .long (bFl (mBt (x1, x2, x3, x4) i))), (9, .long ((mBt (x1, x2, x3, x4) i).1)), (11, .long ((mBt (x1, x2, x3, x4) i).2.1)), (13, .long ((mBt (x1, x2, x3, x4) i).2.2.1)), (15, .long ((mBt (x1, x2, x3, x4) i).2.2.2)), (17, .int (nI i)), (18, .int (nI 1)), (0, .ref h)]) C.x C.b dX9_findsBetween_32 hl (by decide) rfl (fun ls hl => ?_)
      refine lv_lload C.x C.b dX9_findsBetween_34 (lv_at hl 0 rfl) ?_
      refine lv_lconst (v := 1) C.x C.b dX9_findsBetween_36 (by decide) ?_
      refine lv_ladd C.x C.b dX9_findsBetween_37 ?_
      refine lv_lload C.x C.b dX9_findsBetween_38 (lv_at hl 4 rfl) ?_
      refine lv_lmul C.x C.b dX9_findsBetween_40 ?_
      refine lv_lload C.x C.b dX9_findsBetween_41 (lv_at hl 3 rfl) ?_
      refine k_lcmp_ge (tgt := 51) C.x C.b dX9_findsBetween_43 dX9_findsBetween_44 (by decide) (fun c_44 => ?_) (fun c_44 => ?_)
      · skip
        refine lv_iconst (v := nI 0) C.x C.b dX9_findsBetween_51 (by decide) ?_
        refine lv_istore (lv' := [(21, .int (nI 0)), (19, .long (bFl (mBt (x1, x2, x3, x4) i))), (9, .long ((mBt (x1, x2, x3, x4) i).1)), (11, .long ((mBt (x1, x2, x3, x4) i).2.1)), (13, .long ((mBt (x1, x2, x3, x4) i).2.2.1)), (15, .long ((mBt (x1, x2, x3, x4) i).2.2.2)), (17, .int (nI i)), (18, .int (nI 1)), (0, .ref h)]) C.x C.b dX9_findsBetween_52 hl (by decide) rfl (fun ls hl => ?_)
        refine lv_aload_n C.x C.b dX9_findsBetween_54 rfl (lv_at hl 8 rfl) ?_
        refine k_get (X := RX9) (T := TX9) (N := 28) (v := .ref (q 15)) C hX (hM.at 0 rfl) rfl hin_X9_findsBetween_RX9 15 (by decide) lk_X9_findsBetween_f52 (fun _ h9 => h9) rfl dX9_findsBetween_55 ?_
        refine lv_iload C.x C.b dX9_findsBetween_58 (lv_at hl 6 rfl) ?_
        refine lv_iload C.x C.b dX9_findsBetween_60 (lv_at hl 0 rfl) ?_
        refine lv_if_eq (tgt := 72) C.x C.b dX9_findsBetween_62 (by decide) (fun c_62 => ?_) (fun c_62 => ?_)
        rotate_left
        · exact absurd c_62 (by decide)
        refine lv_lload C.x C.b dX9_findsBetween_72 (lv_at hl 1 rfl) ?_
        refine k_last C hX (hM.at 12 rfl) (vp_in_nI (by omega) (by omega)) dX9_findsBetween_74 (fun H locs hX => ?_)
        rw [nI_clamp (by omega)] at hX
        obtain ⟨g2, hX, hM, hO⟩ := kX.wr hX hM hO 12 rfl (List.mem_of_getElem? (i := 12) rfl)
        have hM : kCs g2 (mC G h q i0 i1 i3 i7 i18 i22 i23 i27 j16 j17 a2 a4 a5 a6 b8 b9 b10 a11 a12 a13 a14 (vp_updL (mQA b15 (x1, x2, x3, x4) i) i (bFl (mBt (x1, x2, x3, x4) i))) b19 b20 b21 a24 a25 a26) := hM
        refine lv_iinc (v := (nI (i + 1))) (lv' := [(17, .int (nI (i + 1))), (21, .int (nI 0)), (19, .long (bFl (mBt (x1, x2, x3, x4) i))), (9, .long ((mBt (x1, x2, x3, x4) i).1)), (11, .long ((mBt (x1, x2, x3, x4) i).2.1)), (13, .long ((mBt (x1, x2, x3, x4) i).2.2.1)), (15, .long ((mBt (x1, x2, x3, x4) i).2.2.2)), (18, .int (nI 1)), (0, .ref h)]) C.x C.b dX9_findsBetween_75 hl (k := 6) rfl (nI_1 _) (by decide) rfl (fun ls hl => ?_)
        refine lv_lload C.x C.b dX9_findsBetween_78 (lv_at hl 3 rfl) ?_
        refine lv_lload C.x C.b dX9_findsBetween_80 (lv_at hl 2 rfl) ?_
        refine lv_lload C.x C.b dX9_findsBetween_82 (lv_at hl 4 rfl) ?_
        refine lv_lmul C.x C.b dX9_findsBetween_84 ?_
        refine lv_lsub C.x C.b dX9_findsBetween_85 ?_
        refine lv_lstore (lv' := [(22, .long (((mBt (x1, x2, x3, x4) i).1) - ((bFl (mBt (x1, x2, x3, x4) i)) * ((mBt (x1, x2, x3, x4) i).2.1)))), (17, .int (nI (i + 1))), (21, .int (nI 0)), (19, .long (bFl (mBt (x1, x2, x3, x4) i))), (9, .long ((mBt (x1, x2, x3, x4) i).1)), (11, .long ((mBt (x1, x2, x3, x4) i).2.1)), (13, .long ((mBt (x1, x2, x3, x4) i).2.2.1)), (15, .long ((mBt (x1, x2, x3, x4) i).2.2.2)), (18, .int (nI 1)), (0, .ref h)]) C.x C.b dX9_findsBetween_86 hl (by decide) rfl (fun ls hl => ?_)
        refine lv_lload C.x C.b dX9_findsBetween_88 (lv_at hl 6 rfl) ?_
        refine lv_lload C.x C.b dX9_findsBetween_90 (lv_at hl 3 rfl) ?_
        refine lv_lload C.x C.b dX9_findsBetween_92 (lv_at hl 7 rfl) ?_
        refine lv_lmul C.x C.b dX9_findsBetween_94 ?_
        refine lv_lsub C.x C.b dX9_findsBetween_95 ?_
        refine lv_lstore (lv' := [(24, .long (((mBt (x1, x2, x3, x4) i).2.2.1) - ((bFl (mBt (x1, x2, x3, x4) i)) * ((mBt (x1, x2, x3, x4) i).2.2.2)))), (22, .long (((mBt (x1, x2, x3, x4) i).1) - ((bFl (mBt (x1, x2, x3, x4) i)) * ((mBt (x1, x2, x3, x4) i).2.1)))), (17, .int (nI (i + 1))), (21, .int (nI 0)), (19, .long (bFl (mBt (x1, x2, x3, x4) i))), (9, .long ((mBt (x1, x2, x3, x4) i).1)), (11, .long ((mBt (x1, x2, x3, x4) i).2.1)), (13, .long ((mBt (x1, x2, x3, x4) i).2.2.1)), (15, .long ((mBt (x1, x2, x3, x4) i).2.2.2)), (18, .int (nI 1)), (0, .ref h)]) C.x C.b dX9_findsBetween_96 hl (by decide) rfl (fun ls hl => ?_)
        refine lv_iload C.x C.b dX9_findsBetween_98 (lv_at hl 3 rfl) ?_
        refine lv_if_eq (tgt := 109) C.x C.b dX9_findsBetween_100 (by decide) (fun c_100 => ?_) (fun c_100 => ?_)
        rotate_left
        · exact absurd c_100 (by decide)
        refine lv_lload C.x C.b dX9_findsBetween_109 (lv_at hl 1 rfl) ?_
        refine lv_lconst (v := 0) C.x C.b dX9_findsBetween_111 (by decide) ?_
        refine k_lcmp_ne (tgt := 139) C.x C.b dX9_findsBetween_112 dX9_findsBetween_113 (by decide) (fun c_113 => ?_) (fun c_113 => ?_)
        · skip
          have hi7 : i < N := by rcases Nat.lt_or_ge i N with q9 | q9; exact q9; have e7 : N = i := (by omega); rcases hE.2.2.1 with z9 | z9 <;> rw [e7] at z9 <;> first | exact absurd z9 c_44 | exact absurd z9 c_113
          refine lv_lload C.x C.b dX9_findsBetween_139 (lv_at hl 6 rfl) ?_
          refine lv_lstore (lv' := [(26, .long ((mBt (x1, x2, x3, x4) i).2.1)), (24, .long (((mBt (x1, x2, x3, x4) i).2.2.1) - ((bFl (mBt (x1, x2, x3, x4) i)) * ((mBt (x1, x2, x3, x4) i).2.2.2)))), (22, .long (((mBt (x1, x2, x3, x4) i).1) - ((bFl (mBt (x1, x2, x3, x4) i)) * ((mBt (x1, x2, x3, x4) i).2.1)))), (17, .int (nI (i + 1))), (21, .int (nI 0)), (19, .long (bFl (mBt (x1, x2, x3, x4) i))), (9, .long ((mBt (x1, x2, x3, x4) i).1)), (11, .long ((mBt (x1, x2, x3, x4) i).2.1)), (13, .long ((mBt (x1, x2, x3, x4) i).2.2.1)), (15, .long ((mBt (x1, x2, x3, x4) i).2.2.2)), (18, .int (nI 1)), (0, .ref h)]) C.x C.b dX9_findsBetween_141 hl (by decide) rfl (fun ls hl => ?_)
          refine lv_lload C.x C.b dX9_findsBetween_143 (lv_at hl 9 rfl) ?_
          refine lv_lstore (lv' := [(9, .long ((mBt (x1, x2, x3, x4) i).2.2.2)), (26, .long ((mBt (x1, x2, x3, x4) i).2.1)), (24, .long (((mBt (x1, x2, x3, x4) i).2.2.1) - ((bFl (mBt (x1, x2, x3, x4) i)) * ((mBt (x1, x2, x3, x4) i).2.2.2)))), (22, .long (((mBt (x1, x2, x3, x4) i).1) - ((bFl (mBt (x1, x2, x3, x4) i)) * ((mBt (x1, x2, x3, x4) i).2.1)))), (17, .int (nI (i + 1))), (21, .int (nI 0)), (19, .long (bFl (mBt (x1, x2, x3, x4) i))), (11, .long ((mBt (x1, x2, x3, x4) i).2.1)), (13, .long ((mBt (x1, x2, x3, x4) i).2.2.1)), (15, .long ((mBt (x1, x2, x3, x4) i).2.2.2)), (18, .int (nI 1)), (0, .ref h)]) C.x C.b dX9_findsBetween_145 hl (by decide) rfl (fun ls hl => ?_)
          refine lv_lload C.x C.b dX9_findsBetween_147 (lv_at hl 2 rfl) ?_
          refine lv_lstore (lv' := [(11, .long (((mBt (x1, x2, x3, x4) i).2.2.1) - ((bFl (mBt (x1, x2, x3, x4) i)) * ((mBt (x1, x2, x3, x4) i).2.2.2)))), (9, .long ((mBt (x1, x2, x3, x4) i).2.2.2)), (26, .long ((mBt (x1, x2, x3, x4) i).2.1)), (24, .long (((mBt (x1, x2, x3, x4) i).2.2.1) - ((bFl (mBt (x1, x2, x3, x4) i)) * ((mBt (x1, x2, x3, x4) i).2.2.2)))), (22, .long (((mBt (x1, x2, x3, x4) i).1) - ((bFl (mBt (x1, x2, x3, x4) i)) * ((mBt (x1, x2, x3, x4) i).2.1)))), (17, .int (nI (i + 1))), (21, .int (nI 0)), (19, .long (bFl (mBt (x1, x2, x3, x4) i))), (13, .long ((mBt (x1, x2, x3, x4) i).2.2.1)), (15, .long ((mBt (x1, x2, x3, x4) i).2.2.2)), (18, .int (nI 1)), (0, .ref h)]) C.x C.b dX9_findsBetween_149 hl (by decide) rfl (fun ls hl => ?_)
          refine lv_lload C.x C.b dX9_findsBetween_151 (lv_at hl 2 rfl) ?_
          refine lv_lstore (lv' := [(13, .long ((mBt (x1, x2, x3, x4) i).2.1)), (11, .long (((mBt (x1, x2, x3, x4) i).2.2.1) - ((bFl (mBt (x1, x2, x3, x4) i)) * ((mBt (x1, x2, x3, x4) i).2.2.2)))), (9, .long ((mBt (x1, x2, x3, x4) i).2.2.2)), (26, .long ((mBt (x1, x2, x3, x4) i).2.1)), (24, .long (((mBt (x1, x2, x3, x4) i).2.2.1) - ((bFl (mBt (x1, x2, x3, x4) i)) * ((mBt (x1, x2, x3, x4) i).2.2.2)))), (22, .long (((mBt (x1, x2, x3, x4) i).1) - ((bFl (mBt (x1, x2, x3, x4) i)) * ((mBt (x1, x2, x3, x4) i).2.1)))), (17, .int (nI (i + 1))), (21, .int (nI 0)), (19, .long (bFl (mBt (x1, x2, x3, x4) i))), (15, .long ((mBt (x1, x2, x3, x4) i).2.2.2)), (18, .int (nI 1)), (0, .ref h)]) C.x C.b dX9_findsBetween_153 hl (by decide) rfl (fun ls hl => ?_)
          refine lv_lload C.x C.b dX9_findsBetween_155 (lv_at hl 5 rfl) ?_
          refine lv_lstore (lv' := [(15, .long (((mBt (x1, x2, x3, x4) i).1) - ((bFl (mBt (x1, x2, x3, x4) i)) * ((mBt (x1, x2, x3, x4) i).2.1)))), (13, .long ((mBt (x1, x2, x3, x4) i).2.1)), (11, .long (((mBt (x1, x2, x3, x4) i).2.2.1) - ((bFl (mBt (x1, x2, x3, x4) i)) * ((mBt (x1, x2, x3, x4) i).2.2.2)))), (9, .long ((mBt (x1, x2, x3, x4) i).2.2.2)), (26, .long ((mBt (x1, x2, x3, x4) i).2.1)), (24, .long (((mBt (x1, x2, x3, x4) i).2.2.1) - ((bFl (mBt (x1, x2, x3, x4) i)) * ((mBt (x1, x2, x3, x4) i).2.2.2)))), (22, .long (((mBt (x1, x2, x3, x4) i).1) - ((bFl (mBt (x1, x2, x3, x4) i)) * ((mBt (x1, x2, x3, x4) i).2.1)))), (17, .int (nI (i + 1))), (21, .int (nI 0)), (19, .long (bFl (mBt (x1, x2, x3, x4) i))), (18, .int (nI 1)), (0, .ref h)]) C.x C.b dX9_findsBetween_157 hl (by decide) rfl (fun ls hl => ?_)
          refine lv_goto (tgt := 20) C.x C.b dX9_findsBetween_159 (by decide) ?_
          exact ih20 (i + 1) (by omega) (by omega) ls (lv_sub hl [3, 2, 1, 0, 7, 10, 11] rfl) _ hM hO _ _ hX
        · skip
          have hi9 : i = N := by rcases Nat.lt_or_ge i N with q9 | q9; exact absurd c_113 (hE.2.1 i q9).2; omega
          subst hi9
          refine lv_aload_n C.x C.b dX9_findsBetween_116 rfl (lv_at hl 10 rfl) ?_
          refine k_get (X := RX9) (T := TX9) (N := 28) (v := .ref (q 15)) C hX (hM.at 0 rfl) rfl hin_X9_findsBetween_RX9 15 (by decide) lk_X9_findsBetween_f52 (fun _ h9 => h9) rfl dX9_findsBetween_117 ?_
          refine lv_iload C.x C.b dX9_findsBetween_120 (lv_at hl 2 rfl) ?_
          refine lv_lload C.x C.b dX9_findsBetween_122 (lv_at hl 8 rfl) ?_
          refine lv_lload C.x C.b dX9_findsBetween_124 (lv_at hl 0 rfl) ?_
          refine lv_ldiv C.x C.b dX9_findsBetween_126 (hE.2.2.2.1) ?_
          refine lv_lconst (v := 1) C.x C.b dX9_findsBetween_127 (by decide) ?_
          refine lv_ladd C.x C.b dX9_findsBetween_128 ?_
          refine k_last C hX (hM.at 12 rfl) (vp_in_nI (by omega) (by omega)) dX9_findsBetween_129 (fun H locs hX => ?_)
          rw [nI_clamp (by omega)] at hX
          obtain ⟨g3, hX, hM, hO⟩ := kX.wr hX hM hO 12 rfl (List.mem_of_getElem? (i := 12) rfl)
          have hM : kCs g3 (mC G h q i0 i1 i3 i7 i18 i22 i23 i27 j16 j17 a2 a4 a5 a6 b8 b9 b10 a11 a12 a13 a14 (vp_updL (vp_updL (mQA b15 (x1, x2, x3, x4) i) i (bFl (mBt (x1, x2, x3, x4) i))) (i + 1) ((((mBt (x1, x2, x3, x4) i).2.2.2) / (((mBt (x1, x2, x3, x4) i).2.2.1) - ((bFl (mBt (x1, x2, x3, x4) i)) * ((mBt (x1, x2, x3, x4) i).2.2.2)))) + 1)) b19 b20 b21 a24 a25 a26) := hM
          refine lv_iinc (v := (nI (i + 1 + 1))) (lv' := [(17, .int (nI (i + 1 + 1))), (24, .long (((mBt (x1, x2, x3, x4) i).2.2.1) - ((bFl (mBt (x1, x2, x3, x4) i)) * ((mBt (x1, x2, x3, x4) i).2.2.2)))), (22, .long (((mBt (x1, x2, x3, x4) i).1) - ((bFl (mBt (x1, x2, x3, x4) i)) * ((mBt (x1, x2, x3, x4) i).2.1)))), (21, .int (nI 0)), (19, .long (bFl (mBt (x1, x2, x3, x4) i))), (9, .long ((mBt (x1, x2, x3, x4) i).1)), (11, .long ((mBt (x1, x2, x3, x4) i).2.1)), (13, .long ((mBt (x1, x2, x3, x4) i).2.2.1)), (15, .long ((mBt (x1, x2, x3, x4) i).2.2.2)), (18, .int (nI 1)), (0, .ref h)]) C.x C.b dX9_findsBetween_130 hl (k := 2) rfl (nI_1 _) (by decide) rfl (fun ls hl => ?_)
          refine lv_iconst (v := nI 0) C.x C.b dX9_findsBetween_133 (by decide) ?_
          refine lv_istore (lv' := [(18, .int (nI 0)), (17, .int (nI (i + 1 + 1))), (24, .long (((mBt (x1, x2, x3, x4) i).2.2.1) - ((bFl (mBt (x1, x2, x3, x4) i)) * ((mBt (x1, x2, x3, x4) i).2.2.2)))), (22, .long (((mBt (x1, x2, x3, x4) i).1) - ((bFl (mBt (x1, x2, x3, x4) i)) * ((mBt (x1, x2, x3, x4) i).2.1)))), (21, .int (nI 0)), (19, .long (bFl (mBt (x1, x2, x3, x4) i))), (9, .long ((mBt (x1, x2, x3, x4) i).1)), (11, .long ((mBt (x1, x2, x3, x4) i).2.1)), (13, .long ((mBt (x1, x2, x3, x4) i).2.2.1)), (15, .long ((mBt (x1, x2, x3, x4) i).2.2.2)), (0, .ref h)]) C.x C.b dX9_findsBetween_134 hl (by decide) rfl (fun ls hl => ?_)
          refine lv_goto (tgt := 159) C.x C.b dX9_findsBetween_136 (by decide) ?_
          refine lv_goto (tgt := 20) C.x C.b dX9_findsBetween_159 (by decide) ?_
          refine lv_iload C.x C.b dX9_findsBetween_20 (lv_at hl 0 rfl) ?_
          have hN9 := hE.2.2.2.2
          refine lv_if_eq (tgt := 162) C.x C.b dX9_findsBetween_22 (by decide) (fun c_22 => ?_) (fun c_22 => ?_)
          rotate_left
          · exact absurd c_22 (by decide)
          refine lv_aload_n C.x C.b dX9_findsBetween_162 rfl (lv_at hl 10 rfl) ?_
          refine lv_aload_n C.x C.b dX9_findsBetween_163 rfl (lv_at hl 10 rfl) ?_
          refine k_get (X := RX9) (T := TX9) (N := 28) (v := .ref (q 15)) C hX (hM.at 0 rfl) rfl hin_X9_findsBetween_RX9 15 (by decide) lk_X9_findsBetween_f52 (fun _ h9 => h9) rfl dX9_findsBetween_164 ?_
          have hN9 := hE.2.2.2.2
          refine lv_iload C.x C.b dX9_findsBetween_167 (lv_at hl 1 rfl) ?_
          refine lv_iconst (v := nI 1) C.x C.b dX9_findsBetween_169 (by decide) ?_
          refine lv_isub C.x C.b dX9_findsBetween_170 ?_
          refine k_topi (y := (nI (i + 1))) (pk_sub (by omega)) ?_
          refine k_lald C hX (hM.at 12 rfl) (vp_in_nI (by omega) (by omega)) dX9_findsBetween_171 ?_
          refine k_topl (y := (vp_updL (vp_updL (mQA b15 (x1, x2, x3, x4) i) i (bFl (mBt (x1, x2, x3, x4) i))) (i + 1) ((((mBt (x1, x2, x3, x4) i).2.2.2) / (((mBt (x1, x2, x3, x4) i).2.2.1) - ((bFl (mBt (x1, x2, x3, x4) i)) * ((mBt (x1, x2, x3, x4) i).2.2.2)))) + 1)) (i + 1)) (by rw [nI_clamp (by omega)]) ?_
          refine k_put (X := RX9) (T := TX9) (N := 28) (ty := .long) (v := .long ((vp_updL (vp_updL (mQA b15 (x1, x2, x3, x4) i) i (bFl (mBt (x1, x2, x3, x4) i))) (i + 1) ((((mBt (x1, x2, x3, x4) i).2.2.2) / (((mBt (x1, x2, x3, x4) i).2.2.1) - ((bFl (mBt (x1, x2, x3, x4) i)) * ((mBt (x1, x2, x3, x4) i).2.2.2)))) + 1)) (i + 1))) C hX (hM.at 0 rfl) rfl hin_X9_findsBetween_RX9 tyX9_ok nmX9 16 (by decide) lk_X9_findsBetween_f186 (fun _ h9 => h9) rfl (by decide +kernel) rfl rfl (Nat.le_of_ble_eq_true rfl) dX9_findsBetween_172 (fun H locs hX => ?_)
          obtain ⟨g4, hX, hM, hO⟩ := kX.wr hX hM hO 0 rfl (List.mem_of_getElem? (i := 0) rfl)
          have hM : kCs g4 (mC G h q i0 i1 i3 i7 i18 i22 i23 i27 ((vp_updL (vp_updL (mQA b15 (x1, x2, x3, x4) i) i (bFl (mBt (x1, x2, x3, x4) i))) (i + 1) ((((mBt (x1, x2, x3, x4) i).2.2.2) / (((mBt (x1, x2, x3, x4) i).2.2.1) - ((bFl (mBt (x1, x2, x3, x4) i)) * ((mBt (x1, x2, x3, x4) i).2.2.2)))) + 1)) (i + 1)) j17 a2 a4 a5 a6 b8 b9 b10 a11 a12 a13 a14 (vp_updL (vp_updL (mQA b15 (x1, x2, x3, x4) i) i (bFl (mBt (x1, x2, x3, x4) i))) (i + 1) ((((mBt (x1, x2, x3, x4) i).2.2.2) / (((mBt (x1, x2, x3, x4) i).2.2.1) - ((bFl (mBt (x1, x2, x3, x4) i)) * ((mBt (x1, x2, x3, x4) i).2.2.2)))) + 1)) b19 b20 b21 a24 a25 a26) := hM
          refine lv_aload_n C.x C.b dX9_findsBetween_175 rfl (lv_at hl 10 rfl) ?_
          refine lv_lconst (v := 1) C.x C.b dX9_findsBetween_176 (by decide) ?_
          refine k_put (X := RX9) (T := TX9) (N := 28) (ty := .long) (v := .long 1) C hX (hM.at 0 rfl) rfl hin_X9_findsBetween_RX9 tyX9_ok nmX9 17 (by decide) lk_X9_findsBetween_f190 (fun _ h9 => h9) rfl (by decide +kernel) rfl rfl (Nat.le_of_ble_eq_true rfl) dX9_findsBetween_177 (fun H locs hX => ?_)
          obtain ⟨g5, hX, hM, hO⟩ := kX.wr hX hM hO 0 rfl (List.mem_of_getElem? (i := 0) rfl)
          have hM : kCs g5 (mC G h q i0 i1 i3 i7 i18 i22 i23 i27 ((vp_updL (vp_updL (mQA b15 (x1, x2, x3, x4) i) i (bFl (mBt (x1, x2, x3, x4) i))) (i + 1) ((((mBt (x1, x2, x3, x4) i).2.2.2) / (((mBt (x1, x2, x3, x4) i).2.2.1) - ((bFl (mBt (x1, x2, x3, x4) i)) * ((mBt (x1, x2, x3, x4) i).2.2.2)))) + 1)) (i + 1)) 1 a2 a4 a5 a6 b8 b9 b10 a11 a12 a13 a14 (vp_updL (vp_updL (mQA b15 (x1, x2, x3, x4) i) i (bFl (mBt (x1, x2, x3, x4) i))) (i + 1) ((((mBt (x1, x2, x3, x4) i).2.2.2) / (((mBt (x1, x2, x3, x4) i).2.2.1) - ((bFl (mBt (x1, x2, x3, x4) i)) * ((mBt (x1, x2, x3, x4) i).2.2.2)))) + 1)) b19 b20 b21 a24 a25 a26) := hM
          refine lv_iload C.x C.b dX9_findsBetween_180 (lv_at hl 1 rfl) ?_
          refine lv_iconst (v := nI 2) C.x C.b dX9_findsBetween_182 (by decide) ?_
          refine lv_isub C.x C.b dX9_findsBetween_183 ?_
          refine lv_istore (lv' := [(19, .int ((nI (i + 1 + 1)) - (nI 2))), (18, .int (nI 0)), (17, .int (nI (i + 1 + 1))), (24, .long (((mBt (x1, x2, x3, x4) i).2.2.1) - ((bFl (mBt (x1, x2, x3, x4) i)) * ((mBt (x1, x2, x3, x4) i).2.2.2)))), (22, .long (((mBt (x1, x2, x3, x4) i).1) - ((bFl (mBt (x1, x2, x3, x4) i)) * ((mBt (x1, x2, x3, x4) i).2.1)))), (21, .int (nI 0)), (9, .long ((mBt (x1, x2, x3, x4) i).1)), (11, .long ((mBt (x1, x2, x3, x4) i).2.1)), (13, .long ((mBt (x1, x2, x3, x4) i).2.2.1)), (15, .long ((mBt (x1, x2, x3, x4) i).2.2.2)), (0, .ref h)]) C.x C.b dX9_findsBetween_184 hl (by decide) rfl (fun ls hl => ?_)
          rw [show ((nI (i + 1 + 1)) - (nI 2)) = (nI ((i + 1) - 0) + -1) from k_m2 _] at hl
          have LOOP186 : ∀ (n : Nat) (r9 : Nat), (r9 ≤ (i + 1)) → ((i + 1) - r9) < n → ∀ (ls : Array Slot), lv_has ls 28 [(19, .int (nI ((i + 1) - r9) + -1)), (0, .ref h)] → ∀ (fL : kH), kCs fL (mC G h q i0 i1 i3 i7 i18 i22 i23 i27 ((mBk (vp_updL (vp_updL (mQA b15 (x1, x2, x3, x4) i) i (bFl (mBt (x1, x2, x3, x4) i))) (i + 1) ((mBt (x1, x2, x3, x4) i).2.2.2 / bMore (mBt (x1, x2, x3, x4) i) + 1)) ((i + 1)) r9).1) ((mBk (vp_updL (vp_updL (mQA b15 (x1, x2, x3, x4) i) i (bFl (mBt (x1, x2, x3, x4) i))) (i + 1) ((mBt (x1, x2, x3, x4) i).2.2.2 / bMore (mBt (x1, x2, x3, x4) i) + 1)) ((i + 1)) r9).2) a2 a4 a5 a6 b8 b9 b10 a11 a12 a13 a14 (vp_updL (vp_updL (mQA b15 (x1, x2, x3, x4) i) i (bFl (mBt (x1, x2, x3, x4) i))) (i + 1) ((mBt (x1, x2, x3, x4) i).2.2.2 / bMore (mBt (x1, x2, x3, x4) i) + 1)) b19 b20 b21 a24 a25 a26) → kOff (mAs h q) f fL → ∀ (H : Heap) (locs : List Loc), kX G B0 s fL H locs → W p l e (rmX9_findsBetween_l) s m args below meth c H locs 0 0 Q (F0 m 186 ls []) := by
            intro n186
            induction n186 with
            | zero => intro r9 hr9 hn; exact absurd hn (Nat.not_lt_zero _)
            | succ n186 ih186 =>
              intro r9 hr9 hn ls hl fL hM hO H locs hX
              refine lv_iload C.x C.b dX9_findsBetween_186 (lv_at hl 0 rfl) ?_
              refine lv_if_lt (tgt := 230) C.x C.b dX9_findsBetween_188 (by decide) (fun c_188 => ?_) (fun c_188 => ?_)
              · skip
                have hm9 := k_m1z c_188 (by omega)
                have hr8 : (i + 1) = r9 := by omega
                exact k_vret C hX hr hlocks hQ (by omega) (by omega) (⟨by rw [← hr8] at hM; exact hM, hO⟩) dX9_findsBetween_230
              · skip
                have hm9 := k_m1p c_188
                rw [sb_m1 hm9] at hl
                refine lv_aload_n C.x C.b dX9_findsBetween_191 rfl (lv_at hl 1 rfl) ?_
                refine k_get (X := RX9) (T := TX9) (N := 28) (v := .ref (q 15)) C hX (hM.at 0 rfl) rfl hin_X9_findsBetween_RX9 15 (by decide) lk_X9_findsBetween_f52 (fun _ h9 => h9) rfl dX9_findsBetween_192 ?_
                refine lv_iload C.x C.b dX9_findsBetween_195 (lv_at hl 0 rfl) ?_
                refine k_lald C hX (hM.at 12 rfl) (vp_in_nI (by omega) (by omega)) dX9_findsBetween_197 ?_
                refine k_topl (y := (vp_updL (vp_updL (mQA b15 (x1, x2, x3, x4) i) i (bFl (mBt (x1, x2, x3, x4) i))) (i + 1) ((mBt (x1, x2, x3, x4) i).2.2.2 / bMore (mBt (x1, x2, x3, x4) i) + 1)) ((i + 1) - r9 - 1)) (by rw [nI_clamp (by omega)]) ?_
                refine lv_aload_n C.x C.b dX9_findsBetween_198 rfl (lv_at hl 1 rfl) ?_
                refine k_get (X := RX9) (T := TX9) (N := 28) (v := .long ((mBk (vp_updL (vp_updL (mQA b15 (x1, x2, x3, x4) i) i (bFl (mBt (x1, x2, x3, x4) i))) (i + 1) ((mBt (x1, x2, x3, x4) i).2.2.2 / bMore (mBt (x1, x2, x3, x4) i) + 1)) ((i + 1)) r9).1)) C hX (hM.at 0 rfl) rfl hin_X9_findsBetween_RX9 16 (by decide) lk_X9_findsBetween_f186 (fun _ h9 => h9) rfl dX9_findsBetween_199 ?_
                refine lv_lmul C.x C.b dX9_findsBetween_202 ?_
                refine lv_aload_n C.x C.b dX9_findsBetween_203 rfl (lv_at hl 1 rfl) ?_
                refine k_get (X := RX9) (T := TX9) (N := 28) (v := .long ((mBk (vp_updL (vp_updL (mQA b15 (x1, x2, x3, x4) i) i (bFl (mBt (x1, x2, x3, x4) i))) (i + 1) ((mBt (x1, x2, x3, x4) i).2.2.2 / bMore (mBt (x1, x2, x3, x4) i) + 1)) ((i + 1)) r9).2)) C hX (hM.at 0 rfl) rfl hin_X9_findsBetween_RX9 17 (by decide) lk_X9_findsBetween_f190 (fun _ h9 => h9) rfl dX9_findsBetween_204 ?_
                refine lv_ladd C.x C.b dX9_findsBetween_207 ?_
                refine lv_lstore (lv' := [(20, .long ((((vp_updL (vp_updL (mQA b15 (x1, x2, x3, x4) i) i (bFl (mBt (x1, x2, x3, x4) i))) (i + 1) ((mBt (x1, x2, x3, x4) i).2.2.2 / bMore (mBt (x1, x2, x3, x4) i) + 1)) ((i + 1) - r9 - 1)) * ((mBk (vp_updL (vp_updL (mQA b15 (x1, x2, x3, x4) i) i (bFl (mBt (x1, x2, x3, x4) i))) (i + 1) ((mBt (x1, x2, x3, x4) i).2.2.2 / bMore (mBt (x1, x2, x3, x4) i) + 1)) ((i + 1)) r9).1)) + ((mBk (vp_updL (vp_updL (mQA b15 (x1, x2, x3, x4) i) i (bFl (mBt (x1, x2, x3, x4) i))) (i + 1) ((mBt (x1, x2, x3, x4) i).2.2.2 / bMore (mBt (x1, x2, x3, x4) i) + 1)) ((i + 1)) r9).2))), (19, .int (nI ((i + 1) - r9 - 1))), (0, .ref h)]) C.x C.b dX9_findsBetween_208 hl (by decide) rfl (fun ls hl => ?_)
                refine lv_aload_n C.x C.b dX9_findsBetween_210 rfl (lv_at hl 2 rfl) ?_
                refine lv_aload_n C.x C.b dX9_findsBetween_211 rfl (lv_at hl 2 rfl) ?_
                refine k_get (X := RX9) (T := TX9) (N := 28) (v := .long ((mBk (vp_updL (vp_updL (mQA b15 (x1, x2, x3, x4) i) i (bFl (mBt (x1, x2, x3, x4) i))) (i + 1) ((mBt (x1, x2, x3, x4) i).2.2.2 / bMore (mBt (x1, x2, x3, x4) i) + 1)) ((i + 1)) r9).1)) C hX (hM.at 0 rfl) rfl hin_X9_findsBetween_RX9 16 (by decide) lk_X9_findsBetween_f186 (fun _ h9 => h9) rfl dX9_findsBetween_212 ?_
                refine k_put (X := RX9) (T := TX9) (N := 28) (ty := .long) (v := .long ((mBk (vp_updL (vp_updL (mQA b15 (x1, x2, x3, x4) i) i (bFl (mBt (x1, x2, x3, x4) i))) (i + 1) ((mBt (x1, x2, x3, x4) i).2.2.2 / bMore (mBt (x1, x2, x3, x4) i) + 1)) ((i + 1)) r9).1)) C hX (hM.at 0 rfl) rfl hin_X9_findsBetween_RX9 tyX9_ok nmX9 17 (by decide) lk_X9_findsBetween_f190 (fun _ h9 => h9) rfl (by decide +kernel) rfl rfl (Nat.le_of_ble_eq_true rfl) dX9_findsBetween_215 (fun H locs hX => ?_)
                obtain ⟨g7, hX, hM, hO⟩ := kX.wr hX hM hO 0 rfl (List.mem_of_getElem? (i := 0) rfl)
                have hM : kCs g7 (mC G h q i0 i1 i3 i7 i18 i22 i23 i27 ((mBk (vp_updL (vp_updL (mQA b15 (x1, x2, x3, x4) i) i (bFl (mBt (x1, x2, x3, x4) i))) (i + 1) ((mBt (x1, x2, x3, x4) i).2.2.2 / bMore (mBt (x1, x2, x3, x4) i) + 1)) ((i + 1)) r9).1) ((mBk (vp_updL (vp_updL (mQA b15 (x1, x2, x3, x4) i) i (bFl (mBt (x1, x2, x3, x4) i))) (i + 1) ((mBt (x1, x2, x3, x4) i).2.2.2 / bMore (mBt (x1, x2, x3, x4) i) + 1)) ((i + 1)) r9).1) a2 a4 a5 a6 b8 b9 b10 a11 a12 a13 a14 (vp_updL (vp_updL (mQA b15 (x1, x2, x3, x4) i) i (bFl (mBt (x1, x2, x3, x4) i))) (i + 1) ((mBt (x1, x2, x3, x4) i).2.2.2 / bMore (mBt (x1, x2, x3, x4) i) + 1)) b19 b20 b21 a24 a25 a26) := hM
                refine lv_aload_n C.x C.b dX9_findsBetween_218 rfl (lv_at hl 2 rfl) ?_
                refine lv_lload C.x C.b dX9_findsBetween_219 (lv_at hl 0 rfl) ?_
                refine k_put (X := RX9) (T := TX9) (N := 28) (ty := .long) (v := .long ((((vp_updL (vp_updL (mQA b15 (x1, x2, x3, x4) i) i (bFl (mBt (x1, x2, x3, x4) i))) (i + 1) ((mBt (x1, x2, x3, x4) i).2.2.2 / bMore (mBt (x1, x2, x3, x4) i) + 1)) ((i + 1) - r9 - 1)) * ((mBk (vp_updL (vp_updL (mQA b15 (x1, x2, x3, x4) i) i (bFl (mBt (x1, x2, x3, x4) i))) (i + 1) ((mBt (x1, x2, x3, x4) i).2.2.2 / bMore (mBt (x1, x2, x3, x4) i) + 1)) ((i + 1)) r9).1)) + ((mBk (vp_updL (vp_updL (mQA b15 (x1, x2, x3, x4) i) i (bFl (mBt (x1, x2, x3, x4) i))) (i + 1) ((mBt (x1, x2, x3, x4) i).2.2.2 / bMore (mBt (x1, x2, x3, x4) i) + 1)) ((i + 1)) r9).2))) C hX (hM.at 0 rfl) rfl hin_X9_findsBetween_RX9 tyX9_ok nmX9 16 (by decide) lk_X9_findsBetween_f186 (fun _ h9 => h9) rfl (by decide +kernel) rfl rfl (Nat.le_of_ble_eq_true rfl) dX9_findsBetween_221 (fun H locs hX => ?_)
                obtain ⟨g8, hX, hM, hO⟩ := kX.wr hX hM hO 0 rfl (List.mem_of_getElem? (i := 0) rfl)
                have hM : kCs g8 (mC G h q i0 i1 i3 i7 i18 i22 i23 i27 ((((vp_updL (vp_updL (mQA b15 (x1, x2, x3, x4) i) i (bFl (mBt (x1, x2, x3, x4) i))) (i + 1) ((mBt (x1, x2, x3, x4) i).2.2.2 / bMore (mBt (x1, x2, x3, x4) i) + 1)) ((i + 1) - r9 - 1)) * ((mBk (vp_updL (vp_updL (mQA b15 (x1, x2, x3, x4) i) i (bFl (mBt (x1, x2, x3, x4) i))) (i + 1) ((mBt (x1, x2, x3, x4) i).2.2.2 / bMore (mBt (x1, x2, x3, x4) i) + 1)) ((i + 1)) r9).1)) + ((mBk (vp_updL (vp_updL (mQA b15 (x1, x2, x3, x4) i) i (bFl (mBt (x1, x2, x3, x4) i))) (i + 1) ((mBt (x1, x2, x3, x4) i).2.2.2 / bMore (mBt (x1, x2, x3, x4) i) + 1)) ((i + 1)) r9).2)) ((mBk (vp_updL (vp_updL (mQA b15 (x1, x2, x3, x4) i) i (bFl (mBt (x1, x2, x3, x4) i))) (i + 1) ((mBt (x1, x2, x3, x4) i).2.2.2 / bMore (mBt (x1, x2, x3, x4) i) + 1)) ((i + 1)) r9).1) a2 a4 a5 a6 b8 b9 b10 a11 a12 a13 a14 (vp_updL (vp_updL (mQA b15 (x1, x2, x3, x4) i) i (bFl (mBt (x1, x2, x3, x4) i))) (i + 1) ((mBt (x1, x2, x3, x4) i).2.2.2 / bMore (mBt (x1, x2, x3, x4) i) + 1)) b19 b20 b21 a24 a25 a26) := hM
                refine lv_iinc (v := ((nI ((i + 1) - r9 - 1)) + -1)) (lv' := [(19, .int ((nI ((i + 1) - r9 - 1)) + -1)), (20, .long ((((vp_updL (vp_updL (mQA b15 (x1, x2, x3, x4) i) i (bFl (mBt (x1, x2, x3, x4) i))) (i + 1) ((mBt (x1, x2, x3, x4) i).2.2.2 / bMore (mBt (x1, x2, x3, x4) i) + 1)) ((i + 1) - r9 - 1)) * ((mBk (vp_updL (vp_updL (mQA b15 (x1, x2, x3, x4) i) i (bFl (mBt (x1, x2, x3, x4) i))) (i + 1) ((mBt (x1, x2, x3, x4) i).2.2.2 / bMore (mBt (x1, x2, x3, x4) i) + 1)) ((i + 1)) r9).1)) + ((mBk (vp_updL (vp_updL (mQA b15 (x1, x2, x3, x4) i) i (bFl (mBt (x1, x2, x3, x4) i))) (i + 1) ((mBt (x1, x2, x3, x4) i).2.2.2 / bMore (mBt (x1, x2, x3, x4) i) + 1)) ((i + 1)) r9).2))), (0, .ref h)]) C.x C.b dX9_findsBetween_224 hl (k := 1) rfl (rfl) (by decide) rfl (fun ls hl => ?_)
                refine lv_goto (tgt := 186) C.x C.b dX9_findsBetween_227 (by decide) ?_
                rw [show ((nI ((i + 1) - r9 - 1)) + -1) = (nI ((i + 1) - (r9 + 1)) + -1) from congrArg (fun z => nI z + -1) (by omega)] at hl
                exact ih186 (r9 + 1) (by omega) (by omega) ls (lv_sub hl [0, 2] rfl) _ hM hO _ _ hX
          exact LOOP186 _ 0 (Nat.zero_le _) (Nat.lt_succ_self _) ls (lv_sub hl [0, 10] rfl) _ hM hO _ _ hX
      · skip
        rcases Nat.lt_or_ge i N with q9 | q9; exact absurd c_44 (hE.2.1 i q9).1; exact absurd (by rw [show N = i by omega]; exact c_44) hd
  exact LOOP20 _ 0 (Nat.zero_le _) (Nat.lt_succ_self _) ls (lv_sub hl [5, 4, 3, 2, 1, 0, 6] rfl) _ hM hO _ _ hX

abbrev rmX9_findsBetween : Room := rmX9_findsBetween_d
theorem kX9_findsBetween (l : Launch) (G : kG) (B0 : Nat) (f : kH) (h : Nat) (q : Nat → Nat) (i0 i1 i3 i7 i18 i22 i23 i27 : Int32) (j16 j17 : Int64) (a2 : Nat → Int32) (a4 : Nat → Int32) (a5 : Nat → Int32) (a6 : Nat → Int32) (b8 : Nat → Int64) (b9 : Nat → Int64) (b10 : Nat → Int64) (a11 : Nat → Int32) (a12 : Nat → Int32) (a13 : Nat → Int32) (a14 : Nat → Int32) (b15 : Nat → Int64) (b19 : Nat → Int64) (b20 : Nat → Int64) (b21 : Nat → Int64) (a24 : Nat → Int32) (a25 : Nat → Int32) (a26 : Nat → Int32) (x1 x2 x3 x4 : Int64) (N : Nat) (hM : kCs f (mC G h q i0 i1 i3 i7 i18 i22 i23 i27 j16 j17 a2 a4 a5 a6 b8 b9 b10 a11 a12 a13 a14 b15 b19 b20 b21 a24 a25 a26)) (hE : mBEnds (x1, x2, x3, x4) N) : Met l yX9_findsBetween wsX9_findsBetween rmX9_findsBetween (kP G B0 f [.ref h, .long x1, .long x2, .long x3, .long x4]) (kQv G B0 (fun f1 => kCs f1 (mC G h q i0 i1 i3 i7 i18 i22 i23 i27 ((mBk (mBQ b15 (x1, x2, x3, x4) N) (mBM (x1, x2, x3, x4) N) (mBM (x1, x2, x3, x4) N)).1) ((mBk (mBQ b15 (x1, x2, x3, x4) N) (mBM (x1, x2, x3, x4) N) (mBM (x1, x2, x3, x4) N)).2) a2 a4 a5 a6 b8 b9 b10 a11 a12 a13 a14 (mBQ b15 (x1, x2, x3, x4) N) b19 b20 b21 a24 a25 a26) ∧ kOff (mAs h q) f f1)) 0 0 (kAb B0) := by
  by_cases hd : bDone (mBt (x1, x2, x3, x4) N)
  · have e1 : mBQ b15 (x1, x2, x3, x4) N = vp_updL (mQA b15 (x1, x2, x3, x4) N) N (bFl (mBt (x1, x2, x3, x4) N) + 1) := if_pos hd
    have e2 : mBM (x1, x2, x3, x4) N = N := if_pos hd
    rw [e1, e2]
    exact kX9_findsBetween_d l G B0 f h q i0 i1 i3 i7 i18 i22 i23 i27 j16 j17 a2 a4 a5 a6 b8 b9 b10 a11 a12 a13 a14 b15 b19 b20 b21 a24 a25 a26 x1 x2 x3 x4 N hM hE hd
  · have e1 : mBQ b15 (x1, x2, x3, x4) N = vp_updL (vp_updL (mQA b15 (x1, x2, x3, x4) N) N (bFl (mBt (x1, x2, x3, x4) N))) (N + 1) ((mBt (x1, x2, x3, x4) N).2.2.2 / bMore (mBt (x1, x2, x3, x4) N) + 1) := if_neg hd
    have e2 : mBM (x1, x2, x3, x4) N = N + 1 := if_neg hd
    rw [e1, e2]
    exact kX9_findsBetween_l l G B0 f h q i0 i1 i3 i7 i18 i22 i23 i27 j16 j17 a2 a4 a5 a6 b8 b9 b10 a11 a12 a13 a14 b15 b19 b20 b21 a24 a25 a26 x1 x2 x3 x4 N hM hE hd

theorem hdX9_between_X9_isFraction : yX9_isFraction.cls ≠ "java/lang/invoke/MethodHandle" ∧ yX9_isFraction.cls ≠ "java/lang/invoke/VarHandle" ∧ (parseMethodDescriptor yX9_isFraction.desc).map (fun d => d.parameters.length) = some 3 := by decide +kernel
theorem lk_X9_between_f80 : Cond.fieldLink RX9 80 "KoebehallModel" "thrown" "I" ∈ wsX9_between := by decide +kernel
theorem hin_X9_between_RX9 : ∀ w ∈ u_ws RX9 TX9 28, w ∈ wsX9_between := by decide +kernel
theorem hdX9_between_X9_cross : yX9_cross.cls ≠ "java/lang/invoke/MethodHandle" ∧ yX9_cross.cls ≠ "java/lang/invoke/VarHandle" ∧ (parseMethodDescriptor yX9_cross.desc).map (fun d => d.parameters.length) = some 4 := by decide +kernel
abbrev rmX9_between_b1 : Room := { frames := 2, cells := 0, slots := 0, locals := 51 }
set_option maxHeartbeats 4000000 in
set_option maxRecDepth 100000 in
/-- X9_between_b1 -/
theorem kX9_between_b1 (l : Launch) (G : kG) (B0 : Nat) (f : kH) (h : Nat) (q : Nat → Nat) (i0 i1 i3 i7 i18 i22 i23 i27 : Int32) (j16 j17 : Int64) (a2 : Nat → Int32) (a4 : Nat → Int32) (a5 : Nat → Int32) (a6 : Nat → Int32) (b8 : Nat → Int64) (b9 : Nat → Int64) (b10 : Nat → Int64) (a11 : Nat → Int32) (a12 : Nat → Int32) (a13 : Nat → Int32) (a14 : Nat → Int32) (b15 : Nat → Int64) (b19 : Nat → Int64) (b20 : Nat → Int64) (b21 : Nat → Int64) (a24 : Nat → Int32) (a25 : Nat → Int32) (a26 : Nat → Int32) (a b c9 e9 : Int32) (z9 : Int32) (hM : kCs f (mC G h q i0 i1 i3 i7 i18 i22 i23 i27 j16 j17 a2 a4 a5 a6 b8 b9 b10 a11 a12 a13 a14 b15 b19 b20 b21 a24 a25 a26)) (hv : ¬ (mFr a b (1 : Nat) ∧ mFr c9 e9 (1 : Nat) ∧ ¬ mCross a b c9 e9 = 0)) : Met l yX9_between wsX9_between (rmX9_between_b1) (kP G B0 f [.ref h, .int a, .int b, .int c9, .int e9, .int z9]) (kQl G B0 (fun r f1 => r = 0 ∧ kCs f1 (mC G h q i0 i1 i3 i7 i18 i22 i23 (nI 1) j16 j17 a2 a4 a5 a6 b8 b9 b10 a11 a12 a13 a14 b15 b19 b20 b21 a24 a25 a26) ∧ kOff (mAs h q) f f1)) 0 0 (kAb B0) := by
  refine kMet (cc := cX9_between) (maxL := 6) (ret := (some .long)) (by decide) rfl (Nat.le_of_ble_eq_true rfl) ?_
  intro p e s m args below meth c H locs Q ls C hX hl hr hlocks hnm hQ
  have hO : kOff (mAs h q) f f := kOff.rf
  have hl : lv_has ls 6 [(0, .ref h), (1, .int a), (2, .int b), (3, .int c9), (4, .int e9), (5, .int z9)] := hl
  refine lv_aload_n C.x C.b dX9_between_0 rfl (lv_at hl 0 rfl) ?_
  refine lv_iload_n C.x C.b dX9_between_1 rfl (lv_at hl 1 rfl) ?_
  refine lv_iload_n C.x C.b dX9_between_2 rfl (lv_at hl 2 rfl) ?_
  refine lv_iconst (v := nI 1) C.x C.b dX9_between_3 (by decide) ?_
  refine k_calli (va_runS (As := [.int a, .int b, .int (nI 1)]) (rest := [.ref h]) C.1 (kX9_isFraction l G B0 f a b 1 (by omega)) (va_cwS 3 C.ts gX9_between_X9_isFraction rfl rfl rfl (hdX9_between_X9_isFraction) ⟨Nat.le_of_ble_eq_true rfl, Nat.le_of_ble_eq_true rfl⟩) (k_preS C hX) rfl rfl hl.1 rfl (lv_room (Nat.le_of_ble_eq_true rfl)) dX9_between_4 ⟨Nat.le_of_ble_eq_true rfl, Nat.le_of_ble_eq_true rfl⟩) hX (fun r4 f4 H locs hp4 hX => ?_)
  obtain ⟨hr4, hf4⟩ := hp4
  rw [hf4] at hX
  refine k_topi (y := (kbI (mFr a b (1 : Nat)))) hr4 ?_
  refine lv_if_eq (tgt := 37) C.x C.b dX9_between_7 (by decide) (fun c_7 => ?_) (fun c_7 => ?_)
  · skip
    have c_7 := kbI_0 c_7
    refine lv_iconst (v := nI 1) C.x C.b dX9_between_37 (by decide) ?_
    refine k_put (X := RX9) (T := TX9) (N := 28) (ty := .int) (v := .int (nI 1)) C hX (hM.at 0 rfl) rfl hin_X9_between_RX9 tyX9_ok nmX9 27 (by decide) lk_X9_between_f80 (fun _ h9 => h9) rfl (by decide +kernel) rfl rfl (Nat.le_of_ble_eq_true rfl) dX9_between_38 (fun H locs hX => ?_)
    obtain ⟨g1, hX, hM, hO⟩ := kX.wr hX hM hO 0 rfl (List.mem_of_getElem? (i := 0) rfl)
    have hM : kCs g1 (mC G h q i0 i1 i3 i7 i18 i22 i23 (nI 1) j16 j17 a2 a4 a5 a6 b8 b9 b10 a11 a12 a13 a14 b15 b19 b20 b21 a24 a25 a26) := hM
    refine lv_aload_n C.x C.b dX9_between_41 rfl (lv_at hl 0 rfl) ?_
    refine k_get (X := RX9) (T := TX9) (N := 28) (v := .int (nI 1)) C hX (hM.at 0 rfl) rfl hin_X9_between_RX9 27 (by decide) lk_X9_between_f80 (fun _ h9 => h9) rfl dX9_between_42 ?_
    refine lv_if_le (tgt := 50) C.x C.b dX9_between_45 (by decide) (fun c_45 => ?_) (fun c_45 => ?_)
    · exact absurd c_45 (by decide)
    refine lv_lconst (v := 0) C.x C.b dX9_between_48 (by decide) ?_
    exact k_lret C hX hr hlocks hQ (by omega) (by omega) (⟨rfl, hM, hO⟩) dX9_between_49
  · skip
    have c_7 := kbI_1 c_7
    refine lv_iload_n C.x C.b dX9_between_10 rfl (lv_at hl 3 rfl) ?_
    refine lv_iload C.x C.b dX9_between_11 (lv_at hl 4 rfl) ?_
    refine lv_iconst (v := nI 1) C.x C.b dX9_between_13 (by decide) ?_
    refine k_calli (va_runS (As := [.int c9, .int e9, .int (nI 1)]) (rest := [.ref h]) C.1 (kX9_isFraction l G B0 f c9 e9 1 (by omega)) (va_cwS 3 C.ts gX9_between_X9_isFraction rfl rfl rfl (hdX9_between_X9_isFraction) ⟨Nat.le_of_ble_eq_true rfl, Nat.le_of_ble_eq_true rfl⟩) (k_preS C hX) rfl rfl hl.1 rfl (lv_room (Nat.le_of_ble_eq_true rfl)) dX9_between_14 ⟨Nat.le_of_ble_eq_true rfl, Nat.le_of_ble_eq_true rfl⟩) hX (fun r14 f14 H locs hp14 hX => ?_)
    obtain ⟨hr14, hf14⟩ := hp14
    rw [hf14] at hX
    refine k_topi (y := (kbI (mFr c9 e9 (1 : Nat)))) hr14 ?_
    refine lv_if_eq (tgt := 37) C.x C.b dX9_between_17 (by decide) (fun c_17 => ?_) (fun c_17 => ?_)
    · skip
      have c_17 := kbI_0 c_17
      refine lv_iconst (v := nI 1) C.x C.b dX9_between_37 (by decide) ?_
      refine k_put (X := RX9) (T := TX9) (N := 28) (ty := .int) (v := .int (nI 1)) C hX (hM.at 0 rfl) rfl hin_X9_between_RX9 tyX9_ok nmX9 27 (by decide) lk_X9_between_f80 (fun _ h9 => h9) rfl (by decide +kernel) rfl rfl (Nat.le_of_ble_eq_true rfl) dX9_between_38 (fun H locs hX => ?_)
      obtain ⟨g2, hX, hM, hO⟩ := kX.wr hX hM hO 0 rfl (List.mem_of_getElem? (i := 0) rfl)
      have hM : kCs g2 (mC G h q i0 i1 i3 i7 i18 i22 i23 (nI 1) j16 j17 a2 a4 a5 a6 b8 b9 b10 a11 a12 a13 a14 b15 b19 b20 b21 a24 a25 a26) := hM
      refine lv_aload_n C.x C.b dX9_between_41 rfl (lv_at hl 0 rfl) ?_
      refine k_get (X := RX9) (T := TX9) (N := 28) (v := .int (nI 1)) C hX (hM.at 0 rfl) rfl hin_X9_between_RX9 27 (by decide) lk_X9_between_f80 (fun _ h9 => h9) rfl dX9_between_42 ?_
      refine lv_if_le (tgt := 50) C.x C.b dX9_between_45 (by decide) (fun c_45 => ?_) (fun c_45 => ?_)
      · exact absurd c_45 (by decide)
      refine lv_lconst (v := 0) C.x C.b dX9_between_48 (by decide) ?_
      exact k_lret C hX hr hlocks hQ (by omega) (by omega) (⟨rfl, hM, hO⟩) dX9_between_49
    · skip
      have c_17 := kbI_1 c_17
      refine lv_iload_n C.x C.b dX9_between_20 rfl (lv_at hl 1 rfl) ?_
      refine lv_iload_n C.x C.b dX9_between_21 rfl (lv_at hl 2 rfl) ?_
      refine lv_iload_n C.x C.b dX9_between_22 rfl (lv_at hl 3 rfl) ?_
      refine lv_iload C.x C.b dX9_between_23 (lv_at hl 4 rfl) ?_
      refine k_calll (va_runS (As := [.int a, .int b, .int c9, .int e9]) (rest := [.ref h]) C.1 (kX9_cross l G B0 f a b c9 e9) (va_cwS 4 C.ts gX9_between_X9_cross rfl rfl rfl (hdX9_between_X9_cross) ⟨Nat.le_of_ble_eq_true rfl, Nat.le_of_ble_eq_true rfl⟩) (k_preS C hX) rfl rfl hl.1 rfl (lv_room (Nat.le_of_ble_eq_true rfl)) dX9_between_25 ⟨Nat.le_of_ble_eq_true rfl, Nat.le_of_ble_eq_true rfl⟩) hX (fun r25 f25 H locs hp25 hX => ?_)
      obtain ⟨hr25, hf25⟩ := hp25
      rw [hf25] at hX
      refine k_topl (y := (mCross a b c9 e9)) hr25 ?_
      refine lv_lconst (v := 0) C.x C.b dX9_between_28 (by decide) ?_
      refine k_lcmp_eq (tgt := 37) C.x C.b dX9_between_29 dX9_between_30 (by decide) (fun c_30 => ?_) (fun c_30 => ?_)
      · skip
        refine lv_iconst (v := nI 1) C.x C.b dX9_between_37 (by decide) ?_
        refine k_put (X := RX9) (T := TX9) (N := 28) (ty := .int) (v := .int (nI 1)) C hX (hM.at 0 rfl) rfl hin_X9_between_RX9 tyX9_ok nmX9 27 (by decide) lk_X9_between_f80 (fun _ h9 => h9) rfl (by decide +kernel) rfl rfl (Nat.le_of_ble_eq_true rfl) dX9_between_38 (fun H locs hX => ?_)
        obtain ⟨g3, hX, hM, hO⟩ := kX.wr hX hM hO 0 rfl (List.mem_of_getElem? (i := 0) rfl)
        have hM : kCs g3 (mC G h q i0 i1 i3 i7 i18 i22 i23 (nI 1) j16 j17 a2 a4 a5 a6 b8 b9 b10 a11 a12 a13 a14 b15 b19 b20 b21 a24 a25 a26) := hM
        refine lv_aload_n C.x C.b dX9_between_41 rfl (lv_at hl 0 rfl) ?_
        refine k_get (X := RX9) (T := TX9) (N := 28) (v := .int (nI 1)) C hX (hM.at 0 rfl) rfl hin_X9_between_RX9 27 (by decide) lk_X9_between_f80 (fun _ h9 => h9) rfl dX9_between_42 ?_
        refine lv_if_le (tgt := 50) C.x C.b dX9_between_45 (by decide) (fun c_45 => ?_) (fun c_45 => ?_)
        · exact absurd c_45 (by decide)
        refine lv_lconst (v := 0) C.x C.b dX9_between_48 (by decide) ?_
        exact k_lret C hX hr hlocks hQ (by omega) (by omega) (⟨rfl, hM, hO⟩) dX9_between_49
      · skip
        exact absurd ⟨c_7, c_17, c_30⟩ hv

theorem hdX9_between_X9_findsBetween : yX9_findsBetween.cls ≠ "java/lang/invoke/MethodHandle" ∧ yX9_findsBetween.cls ≠ "java/lang/invoke/VarHandle" ∧ (parseMethodDescriptor yX9_findsBetween.desc).map (fun d => d.parameters.length) = some 4 := by decide +kernel
theorem lk_X9_between_f186 : Cond.fieldLink RX9 186 "KoebehallModel" "top" "J" ∈ wsX9_between := by decide +kernel
abbrev rmX9_between_lo_t : Room := { frames := 2, cells := 0, slots := 0, locals := 70 }
set_option maxHeartbeats 4000000 in
set_option maxRecDepth 100000 in
/-- X9_between_lo_t -/
theorem kX9_between_lo_t (l : Launch) (G : kG) (B0 : Nat) (f : kH) (h : Nat) (q : Nat → Nat) (i0 i1 i3 i7 i18 i22 i23 i27 : Int32) (j16 j17 : Int64) (a2 : Nat → Int32) (a4 : Nat → Int32) (a5 : Nat → Int32) (a6 : Nat → Int32) (b8 : Nat → Int64) (b9 : Nat → Int64) (b10 : Nat → Int64) (a11 : Nat → Int32) (a12 : Nat → Int32) (a13 : Nat → Int32) (a14 : Nat → Int32) (b15 : Nat → Int64) (b19 : Nat → Int64) (b20 : Nat → Int64) (b21 : Nat → Int64) (a24 : Nat → Int32) (a25 : Nat → Int32) (a26 : Nat → Int32) (a b c9 e9 : Int32) (N : Nat) (hM : kCs f (mC G h q i0 i1 i3 i7 i18 i22 i23 i27 j16 j17 a2 a4 a5 a6 b8 b9 b10 a11 a12 a13 a14 b15 b19 b20 b21 a24 a25 a26)) (hv : mFr a b (1 : Nat) ∧ mFr c9 e9 (1 : Nat) ∧ ¬ mCross a b c9 e9 = 0) (hx : mCross a b c9 e9 < 0) (hE : mBEnds (a.toInt64, b.toInt64, c9.toInt64, e9.toInt64) N) : Met l yX9_between wsX9_between (rmX9_between_lo_t) (kP G B0 f [.ref h, .int a, .int b, .int c9, .int e9, .int (nI 1)]) (kQl G B0 (fun r f1 => r = (mBk (mBQ b15 (a.toInt64, b.toInt64, c9.toInt64, e9.toInt64) N) (mBM (a.toInt64, b.toInt64, c9.toInt64, e9.toInt64) N) (mBM (a.toInt64, b.toInt64, c9.toInt64, e9.toInt64) N)).1 ∧ kCs f1 (mC G h q i0 i1 i3 i7 i18 i22 i23 (nI 0) ((mBk (mBQ b15 (a.toInt64, b.toInt64, c9.toInt64, e9.toInt64) N) (mBM (a.toInt64, b.toInt64, c9.toInt64, e9.toInt64) N) (mBM (a.toInt64, b.toInt64, c9.toInt64, e9.toInt64) N)).1) ((mBk (mBQ b15 (a.toInt64, b.toInt64, c9.toInt64, e9.toInt64) N) (mBM (a.toInt64, b.toInt64, c9.toInt64, e9.toInt64) N) (mBM (a.toInt64, b.toInt64, c9.toInt64, e9.toInt64) N)).2) a2 a4 a5 a6 b8 b9 b10 a11 a12 a13 a14 (mBQ b15 (a.toInt64, b.toInt64, c9.toInt64, e9.toInt64) N) b19 b20 b21 a24 a25 a26) ∧ kOff (mAs h q) f f1)) 0 0 (kAb B0) := by
  refine kMet (cc := cX9_between) (maxL := 6) (ret := (some .long)) (by decide) rfl (Nat.le_of_ble_eq_true rfl) ?_
  intro p e s m args below meth c H locs Q ls C hX hl hr hlocks hnm hQ
  have hO : kOff (mAs h q) f f := kOff.rf
  have hl : lv_has ls 6 [(0, .ref h), (1, .int a), (2, .int b), (3, .int c9), (4, .int e9), (5, .int (nI 1))] := hl
  refine lv_aload_n C.x C.b dX9_between_0 rfl (lv_at hl 0 rfl) ?_
  refine lv_iload_n C.x C.b dX9_between_1 rfl (lv_at hl 1 rfl) ?_
  refine lv_iload_n C.x C.b dX9_between_2 rfl (lv_at hl 2 rfl) ?_
  refine lv_iconst (v := nI 1) C.x C.b dX9_between_3 (by decide) ?_
  refine k_calli (va_runS (As := [.int a, .int b, .int (nI 1)]) (rest := [.ref h]) C.1 (kX9_isFraction l G B0 f a b 1 (by omega)) (va_cwS 3 C.ts gX9_between_X9_isFraction rfl rfl rfl (hdX9_between_X9_isFraction) ⟨Nat.le_of_ble_eq_true rfl, Nat.le_of_ble_eq_true rfl⟩) (k_preS C hX) rfl rfl hl.1 rfl (lv_room (Nat.le_of_ble_eq_true rfl)) dX9_between_4 ⟨Nat.le_of_ble_eq_true rfl, Nat.le_of_ble_eq_true rfl⟩) hX (fun r4 f4 H locs hp4 hX => ?_)
  obtain ⟨hr4, hf4⟩ := hp4
  rw [hf4] at hX
  refine k_topi (y := (kbI (mFr a b (1 : Nat)))) hr4 ?_
  refine lv_if_eq (tgt := 37) C.x C.b dX9_between_7 (by decide) (fun c_7 => ?_) (fun c_7 => ?_)
  · exact absurd (hv.1) (kbI_0 c_7)
  refine lv_iload_n C.x C.b dX9_between_10 rfl (lv_at hl 3 rfl) ?_
  refine lv_iload C.x C.b dX9_between_11 (lv_at hl 4 rfl) ?_
  refine lv_iconst (v := nI 1) C.x C.b dX9_between_13 (by decide) ?_
  refine k_calli (va_runS (As := [.int c9, .int e9, .int (nI 1)]) (rest := [.ref h]) C.1 (kX9_isFraction l G B0 f c9 e9 1 (by omega)) (va_cwS 3 C.ts gX9_between_X9_isFraction rfl rfl rfl (hdX9_between_X9_isFraction) ⟨Nat.le_of_ble_eq_true rfl, Nat.le_of_ble_eq_true rfl⟩) (k_preS C hX) rfl rfl hl.1 rfl (lv_room (Nat.le_of_ble_eq_true rfl)) dX9_between_14 ⟨Nat.le_of_ble_eq_true rfl, Nat.le_of_ble_eq_true rfl⟩) hX (fun r14 f14 H locs hp14 hX => ?_)
  obtain ⟨hr14, hf14⟩ := hp14
  rw [hf14] at hX
  refine k_topi (y := (kbI (mFr c9 e9 (1 : Nat)))) hr14 ?_
  refine lv_if_eq (tgt := 37) C.x C.b dX9_between_17 (by decide) (fun c_17 => ?_) (fun c_17 => ?_)
  · exact absurd (hv.2.1) (kbI_0 c_17)
  refine lv_iload_n C.x C.b dX9_between_20 rfl (lv_at hl 1 rfl) ?_
  refine lv_iload_n C.x C.b dX9_between_21 rfl (lv_at hl 2 rfl) ?_
  refine lv_iload_n C.x C.b dX9_between_22 rfl (lv_at hl 3 rfl) ?_
  refine lv_iload C.x C.b dX9_between_23 (lv_at hl 4 rfl) ?_
  refine k_calll (va_runS (As := [.int a, .int b, .int c9, .int e9]) (rest := [.ref h]) C.1 (kX9_cross l G B0 f a b c9 e9) (va_cwS 4 C.ts gX9_between_X9_cross rfl rfl rfl (hdX9_between_X9_cross) ⟨Nat.le_of_ble_eq_true rfl, Nat.le_of_ble_eq_true rfl⟩) (k_preS C hX) rfl rfl hl.1 rfl (lv_room (Nat.le_of_ble_eq_true rfl)) dX9_between_25 ⟨Nat.le_of_ble_eq_true rfl, Nat.le_of_ble_eq_true rfl⟩) hX (fun r25 f25 H locs hp25 hX => ?_)
  obtain ⟨hr25, hf25⟩ := hp25
  rw [hf25] at hX
  refine k_topl (y := (mCross a b c9 e9)) hr25 ?_
  refine lv_lconst (v := 0) C.x C.b dX9_between_28 (by decide) ?_
  refine k_lcmp_eq (tgt := 37) C.x C.b dX9_between_29 dX9_between_30 (by decide) (fun c_30 => ?_) (fun c_30 => ?_)
  · skip
    exact absurd c_30 hv.2.2
  · skip
    refine lv_iconst (v := nI 0) C.x C.b dX9_between_33 (by decide) ?_
    refine lv_goto (tgt := 38) C.x C.b dX9_between_34 (by decide) ?_
    refine k_put (X := RX9) (T := TX9) (N := 28) (ty := .int) (v := .int (nI 0)) C hX (hM.at 0 rfl) rfl hin_X9_between_RX9 tyX9_ok nmX9 27 (by decide) lk_X9_between_f80 (fun _ h9 => h9) rfl (by decide +kernel) rfl rfl (Nat.le_of_ble_eq_true rfl) dX9_between_38 (fun H locs hX => ?_)
    obtain ⟨g1, hX, hM, hO⟩ := kX.wr hX hM hO 0 rfl (List.mem_of_getElem? (i := 0) rfl)
    have hM : kCs g1 (mC G h q i0 i1 i3 i7 i18 i22 i23 (nI 0) j16 j17 a2 a4 a5 a6 b8 b9 b10 a11 a12 a13 a14 b15 b19 b20 b21 a24 a25 a26) := hM
    refine lv_aload_n C.x C.b dX9_between_41 rfl (lv_at hl 0 rfl) ?_
    refine k_get (X := RX9) (T := TX9) (N := 28) (v := .int (nI 0)) C hX (hM.at 0 rfl) rfl hin_X9_between_RX9 27 (by decide) lk_X9_between_f80 (fun _ h9 => h9) rfl dX9_between_42 ?_
    refine lv_if_le (tgt := 50) C.x C.b dX9_between_45 (by decide) (fun c_45 => ?_) (fun c_45 => ?_)
    rotate_left
    · exact absurd c_45 (by decide)
    refine lv_iload_n C.x C.b dX9_between_50 rfl (lv_at hl 1 rfl) ?_
    refine lv_iload_n C.x C.b dX9_between_51 rfl (lv_at hl 2 rfl) ?_
    refine lv_iload_n C.x C.b dX9_between_52 rfl (lv_at hl 3 rfl) ?_
    refine lv_iload C.x C.b dX9_between_53 (lv_at hl 4 rfl) ?_
    refine k_calll (va_runS (As := [.int a, .int b, .int c9, .int e9]) (rest := []) C.1 (kX9_cross l G B0 g1 a b c9 e9) (va_cwS 4 C.ts gX9_between_X9_cross rfl rfl rfl (hdX9_between_X9_cross) ⟨Nat.le_of_ble_eq_true rfl, Nat.le_of_ble_eq_true rfl⟩) (k_preS C hX) rfl rfl hl.1 rfl (lv_room (Nat.le_of_ble_eq_true rfl)) dX9_between_55 ⟨Nat.le_of_ble_eq_true rfl, Nat.le_of_ble_eq_true rfl⟩) hX (fun r55 f55 H locs hp55 hX => ?_)
    obtain ⟨hr55, hf55⟩ := hp55
    rw [hf55] at hX
    refine k_topl (y := (mCross a b c9 e9)) hr55 ?_
    refine lv_lconst (v := 0) C.x C.b dX9_between_58 (by decide) ?_
    refine k_lcmp_ge (tgt := 79) C.x C.b dX9_between_59 dX9_between_60 (by decide) (fun c_60 => ?_) (fun c_60 => ?_)
    · skip
      exact absurd hx c_60
    · skip
      refine lv_aload_n C.x C.b dX9_between_63 rfl (lv_at hl 0 rfl) ?_
      refine lv_iload_n C.x C.b dX9_between_64 rfl (lv_at hl 1 rfl) ?_
      refine lv_i2l (v := a.toInt64) C.x C.b dX9_between_65 rfl ?_
      refine lv_iload_n C.x C.b dX9_between_66 rfl (lv_at hl 2 rfl) ?_
      refine lv_i2l (v := b.toInt64) C.x C.b dX9_between_67 rfl ?_
      refine lv_iload_n C.x C.b dX9_between_68 rfl (lv_at hl 3 rfl) ?_
      refine lv_i2l (v := c9.toInt64) C.x C.b dX9_between_69 rfl ?_
      refine lv_iload C.x C.b dX9_between_70 (lv_at hl 4 rfl) ?_
      refine lv_i2l (v := e9.toInt64) C.x C.b dX9_between_72 rfl ?_
      refine k_callv (va_runV (As := [.long a.toInt64, .long b.toInt64, .long c9.toInt64, .long e9.toInt64]) (rest := []) C.1 (kX9_findsBetween l G B0 g1 h q i0 i1 i3 i7 i18 i22 i23 (nI 0) j16 j17 a2 a4 a5 a6 b8 b9 b10 a11 a12 a13 a14 b15 b19 b20 b21 a24 a25 a26 a.toInt64 b.toInt64 c9.toInt64 e9.toInt64 N hM hE) (cwV 4 C.ts gX9_between_X9_findsBetween rfl rfl rfl ⟨rfl, hdX9_between_X9_findsBetween⟩ ⟨Nat.le_of_ble_eq_true rfl, Nat.le_of_ble_eq_true rfl⟩) (k_preV C hX (hM.at 0 rfl) rfl) rfl rfl hl.1 rfl (lv_room (Nat.le_of_ble_eq_true rfl)) dX9_between_73 ⟨Nat.le_of_ble_eq_true rfl, Nat.le_of_ble_eq_true rfl⟩) hX (fun f73 H locs hp73 hX => ?_)
      obtain ⟨hM, hO73⟩ := hp73
      have hO := hO.trans hO73
      have hM : kCs f73 (mC G h q i0 i1 i3 i7 i18 i22 i23 (nI 0) ((mBk (mBQ b15 (a.toInt64, b.toInt64, c9.toInt64, e9.toInt64) N) (mBM (a.toInt64, b.toInt64, c9.toInt64, e9.toInt64) N) (mBM (a.toInt64, b.toInt64, c9.toInt64, e9.toInt64) N)).1) ((mBk (mBQ b15 (a.toInt64, b.toInt64, c9.toInt64, e9.toInt64) N) (mBM (a.toInt64, b.toInt64, c9.toInt64, e9.toInt64) N) (mBM (a.toInt64, b.toInt64, c9.toInt64, e9.toInt64) N)).2) a2 a4 a5 a6 b8 b9 b10 a11 a12 a13 a14 (mBQ b15 (a.toInt64, b.toInt64, c9.toInt64, e9.toInt64) N) b19 b20 b21 a24 a25 a26) := hM
      refine lv_goto (tgt := 92) C.x C.b dX9_between_76 (by decide) ?_
      refine lv_iload C.x C.b dX9_between_92 (lv_at hl 5 rfl) ?_
      refine lv_if_eq (tgt := 104) C.x C.b dX9_between_94 (by decide) (fun c_94 => ?_) (fun c_94 => ?_)
      · exact absurd c_94 (by decide)
      refine lv_aload_n C.x C.b dX9_between_97 rfl (lv_at hl 0 rfl) ?_
      refine k_get (X := RX9) (T := TX9) (N := 28) (v := .long ((mBk (mBQ b15 (a.toInt64, b.toInt64, c9.toInt64, e9.toInt64) N) (mBM (a.toInt64, b.toInt64, c9.toInt64, e9.toInt64) N) (mBM (a.toInt64, b.toInt64, c9.toInt64, e9.toInt64) N)).1)) C hX (hM.at 0 rfl) rfl hin_X9_between_RX9 16 (by decide) lk_X9_between_f186 (fun _ h9 => h9) rfl dX9_between_98 ?_
      refine lv_goto (tgt := 108) C.x C.b dX9_between_101 (by decide) ?_
      exact k_lret C hX hr hlocks hQ (by omega) (by omega) (⟨rfl, hM, hO⟩) dX9_between_108

theorem lk_X9_between_f190 : Cond.fieldLink RX9 190 "KoebehallModel" "below" "J" ∈ wsX9_between := by decide +kernel
abbrev rmX9_between_lo_b : Room := { frames := 2, cells := 0, slots := 0, locals := 70 }
set_option maxHeartbeats 4000000 in
set_option maxRecDepth 100000 in
/-- X9_between_lo_b -/
theorem kX9_between_lo_b (l : Launch) (G : kG) (B0 : Nat) (f : kH) (h : Nat) (q : Nat → Nat) (i0 i1 i3 i7 i18 i22 i23 i27 : Int32) (j16 j17 : Int64) (a2 : Nat → Int32) (a4 : Nat → Int32) (a5 : Nat → Int32) (a6 : Nat → Int32) (b8 : Nat → Int64) (b9 : Nat → Int64) (b10 : Nat → Int64) (a11 : Nat → Int32) (a12 : Nat → Int32) (a13 : Nat → Int32) (a14 : Nat → Int32) (b15 : Nat → Int64) (b19 : Nat → Int64) (b20 : Nat → Int64) (b21 : Nat → Int64) (a24 : Nat → Int32) (a25 : Nat → Int32) (a26 : Nat → Int32) (a b c9 e9 : Int32) (N : Nat) (hM : kCs f (mC G h q i0 i1 i3 i7 i18 i22 i23 i27 j16 j17 a2 a4 a5 a6 b8 b9 b10 a11 a12 a13 a14 b15 b19 b20 b21 a24 a25 a26)) (hv : mFr a b (1 : Nat) ∧ mFr c9 e9 (1 : Nat) ∧ ¬ mCross a b c9 e9 = 0) (hx : mCross a b c9 e9 < 0) (hE : mBEnds (a.toInt64, b.toInt64, c9.toInt64, e9.toInt64) N) : Met l yX9_between wsX9_between (rmX9_between_lo_b) (kP G B0 f [.ref h, .int a, .int b, .int c9, .int e9, .int (nI 0)]) (kQl G B0 (fun r f1 => r = (mBk (mBQ b15 (a.toInt64, b.toInt64, c9.toInt64, e9.toInt64) N) (mBM (a.toInt64, b.toInt64, c9.toInt64, e9.toInt64) N) (mBM (a.toInt64, b.toInt64, c9.toInt64, e9.toInt64) N)).2 ∧ kCs f1 (mC G h q i0 i1 i3 i7 i18 i22 i23 (nI 0) ((mBk (mBQ b15 (a.toInt64, b.toInt64, c9.toInt64, e9.toInt64) N) (mBM (a.toInt64, b.toInt64, c9.toInt64, e9.toInt64) N) (mBM (a.toInt64, b.toInt64, c9.toInt64, e9.toInt64) N)).1) ((mBk (mBQ b15 (a.toInt64, b.toInt64, c9.toInt64, e9.toInt64) N) (mBM (a.toInt64, b.toInt64, c9.toInt64, e9.toInt64) N) (mBM (a.toInt64, b.toInt64, c9.toInt64, e9.toInt64) N)).2) a2 a4 a5 a6 b8 b9 b10 a11 a12 a13 a14 (mBQ b15 (a.toInt64, b.toInt64, c9.toInt64, e9.toInt64) N) b19 b20 b21 a24 a25 a26) ∧ kOff (mAs h q) f f1)) 0 0 (kAb B0) := by
  refine kMet (cc := cX9_between) (maxL := 6) (ret := (some .long)) (by decide) rfl (Nat.le_of_ble_eq_true rfl) ?_
  intro p e s m args below meth c H locs Q ls C hX hl hr hlocks hnm hQ
  have hO : kOff (mAs h q) f f := kOff.rf
  have hl : lv_has ls 6 [(0, .ref h), (1, .int a), (2, .int b), (3, .int c9), (4, .int e9), (5, .int (nI 0))] := hl
  refine lv_aload_n C.x C.b dX9_between_0 rfl (lv_at hl 0 rfl) ?_
  refine lv_iload_n C.x C.b dX9_between_1 rfl (lv_at hl 1 rfl) ?_
  refine lv_iload_n C.x C.b dX9_between_2 rfl (lv_at hl 2 rfl) ?_
  refine lv_iconst (v := nI 1) C.x C.b dX9_between_3 (by decide) ?_
  refine k_calli (va_runS (As := [.int a, .int b, .int (nI 1)]) (rest := [.ref h]) C.1 (kX9_isFraction l G B0 f a b 1 (by omega)) (va_cwS 3 C.ts gX9_between_X9_isFraction rfl rfl rfl (hdX9_between_X9_isFraction) ⟨Nat.le_of_ble_eq_true rfl, Nat.le_of_ble_eq_true rfl⟩) (k_preS C hX) rfl rfl hl.1 rfl (lv_room (Nat.le_of_ble_eq_true rfl)) dX9_between_4 ⟨Nat.le_of_ble_eq_true rfl, Nat.le_of_ble_eq_true rfl⟩) hX (fun r4 f4 H locs hp4 hX => ?_)
  obtain ⟨hr4, hf4⟩ := hp4
  rw [hf4] at hX
  refine k_topi (y := (kbI (mFr a b (1 : Nat)))) hr4 ?_
  refine lv_if_eq (tgt := 37) C.x C.b dX9_between_7 (by decide) (fun c_7 => ?_) (fun c_7 => ?_)
  · exact absurd (hv.1) (kbI_0 c_7)
  refine lv_iload_n C.x C.b dX9_between_10 rfl (lv_at hl 3 rfl) ?_
  refine lv_iload C.x C.b dX9_between_11 (lv_at hl 4 rfl) ?_
  refine lv_iconst (v := nI 1) C.x C.b dX9_between_13 (by decide) ?_
  refine k_calli (va_runS (As := [.int c9, .int e9, .int (nI 1)]) (rest := [.ref h]) C.1 (kX9_isFraction l G B0 f c9 e9 1 (by omega)) (va_cwS 3 C.ts gX9_between_X9_isFraction rfl rfl rfl (hdX9_between_X9_isFraction) ⟨Nat.le_of_ble_eq_true rfl, Nat.le_of_ble_eq_true rfl⟩) (k_preS C hX) rfl rfl hl.1 rfl (lv_room (Nat.le_of_ble_eq_true rfl)) dX9_between_14 ⟨Nat.le_of_ble_eq_true rfl, Nat.le_of_ble_eq_true rfl⟩) hX (fun r14 f14 H locs hp14 hX => ?_)
  obtain ⟨hr14, hf14⟩ := hp14
  rw [hf14] at hX
  refine k_topi (y := (kbI (mFr c9 e9 (1 : Nat)))) hr14 ?_
  refine lv_if_eq (tgt := 37) C.x C.b dX9_between_17 (by decide) (fun c_17 => ?_) (fun c_17 => ?_)
  · exact absurd (hv.2.1) (kbI_0 c_17)
  refine lv_iload_n C.x C.b dX9_between_20 rfl (lv_at hl 1 rfl) ?_
  refine lv_iload_n C.x C.b dX9_between_21 rfl (lv_at hl 2 rfl) ?_
  refine lv_iload_n C.x C.b dX9_between_22 rfl (lv_at hl 3 rfl) ?_
  refine lv_iload C.x C.b dX9_between_23 (lv_at hl 4 rfl) ?_
  refine k_calll (va_runS (As := [.int a, .int b, .int c9, .int e9]) (rest := [.ref h]) C.1 (kX9_cross l G B0 f a b c9 e9) (va_cwS 4 C.ts gX9_between_X9_cross rfl rfl rfl (hdX9_between_X9_cross) ⟨Nat.le_of_ble_eq_true rfl, Nat.le_of_ble_eq_true rfl⟩) (k_preS C hX) rfl rfl hl.1 rfl (lv_room (Nat.le_of_ble_eq_true rfl)) dX9_between_25 ⟨Nat.le_of_ble_eq_true rfl, Nat.le_of_ble_eq_true rfl⟩) hX (fun r25 f25 H locs hp25 hX => ?_)
  obtain ⟨hr25, hf25⟩ := hp25
  rw [hf25] at hX
  refine k_topl (y := (mCross a b c9 e9)) hr25 ?_
  refine lv_lconst (v := 0) C.x C.b dX9_between_28 (by decide) ?_
  refine k_lcmp_eq (tgt := 37) C.x C.b dX9_between_29 dX9_between_30 (by decide) (fun c_30 => ?_) (fun c_30 => ?_)
  · skip
    exact absurd c_30 hv.2.2
  · skip
    refine lv_iconst (v := nI 0) C.x C.b dX9_between_33 (by decide) ?_
    refine lv_goto (tgt := 38) C.x C.b dX9_between_34 (by decide) ?_
    refine k_put (X := RX9) (T := TX9) (N := 28) (ty := .int) (v := .int (nI 0)) C hX (hM.at 0 rfl) rfl hin_X9_between_RX9 tyX9_ok nmX9 27 (by decide) lk_X9_between_f80 (fun _ h9 => h9) rfl (by decide +kernel) rfl rfl (Nat.le_of_ble_eq_true rfl) dX9_between_38 (fun H locs hX => ?_)
    obtain ⟨g1, hX, hM, hO⟩ := kX.wr hX hM hO 0 rfl (List.mem_of_getElem? (i := 0) rfl)
    have hM : kCs g1 (mC G h q i0 i1 i3 i7 i18 i22 i23 (nI 0) j16 j17 a2 a4 a5 a6 b8 b9 b10 a11 a12 a13 a14 b15 b19 b20 b21 a24 a25 a26) := hM
    refine lv_aload_n C.x C.b dX9_between_41 rfl (lv_at hl 0 rfl) ?_
    refine k_get (X := RX9) (T := TX9) (N := 28) (v := .int (nI 0)) C hX (hM.at 0 rfl) rfl hin_X9_between_RX9 27 (by decide) lk_X9_between_f80 (fun _ h9 => h9) rfl dX9_between_42 ?_
    refine lv_if_le (tgt := 50) C.x C.b dX9_between_45 (by decide) (fun c_45 => ?_) (fun c_45 => ?_)
    rotate_left
    · exact absurd c_45 (by decide)
    refine lv_iload_n C.x C.b dX9_between_50 rfl (lv_at hl 1 rfl) ?_
    refine lv_iload_n C.x C.b dX9_between_51 rfl (lv_at hl 2 rfl) ?_
    refine lv_iload_n C.x C.b dX9_between_52 rfl (lv_at hl 3 rfl) ?_
    refine lv_iload C.x C.b dX9_between_53 (lv_at hl 4 rfl) ?_
    refine k_calll (va_runS (As := [.int a, .int b, .int c9, .int e9]) (rest := []) C.1 (kX9_cross l G B0 g1 a b c9 e9) (va_cwS 4 C.ts gX9_between_X9_cross rfl rfl rfl (hdX9_between_X9_cross) ⟨Nat.le_of_ble_eq_true rfl, Nat.le_of_ble_eq_true rfl⟩) (k_preS C hX) rfl rfl hl.1 rfl (lv_room (Nat.le_of_ble_eq_true rfl)) dX9_between_55 ⟨Nat.le_of_ble_eq_true rfl, Nat.le_of_ble_eq_true rfl⟩) hX (fun r55 f55 H locs hp55 hX => ?_)
    obtain ⟨hr55, hf55⟩ := hp55
    rw [hf55] at hX
    refine k_topl (y := (mCross a b c9 e9)) hr55 ?_
    refine lv_lconst (v := 0) C.x C.b dX9_between_58 (by decide) ?_
    refine k_lcmp_ge (tgt := 79) C.x C.b dX9_between_59 dX9_between_60 (by decide) (fun c_60 => ?_) (fun c_60 => ?_)
    · skip
      exact absurd hx c_60
    · skip
      refine lv_aload_n C.x C.b dX9_between_63 rfl (lv_at hl 0 rfl) ?_
      refine lv_iload_n C.x C.b dX9_between_64 rfl (lv_at hl 1 rfl) ?_
      refine lv_i2l (v := a.toInt64) C.x C.b dX9_between_65 rfl ?_
      refine lv_iload_n C.x C.b dX9_between_66 rfl (lv_at hl 2 rfl) ?_
      refine lv_i2l (v := b.toInt64) C.x C.b dX9_between_67 rfl ?_
      refine lv_iload_n C.x C.b dX9_between_68 rfl (lv_at hl 3 rfl) ?_
      refine lv_i2l (v := c9.toInt64) C.x C.b dX9_between_69 rfl ?_
      refine lv_iload C.x C.b dX9_between_70 (lv_at hl 4 rfl) ?_
      refine lv_i2l (v := e9.toInt64) C.x C.b dX9_between_72 rfl ?_
      refine k_callv (va_runV (As := [.long a.toInt64, .long b.toInt64, .long c9.toInt64, .long e9.toInt64]) (rest := []) C.1 (kX9_findsBetween l G B0 g1 h q i0 i1 i3 i7 i18 i22 i23 (nI 0) j16 j17 a2 a4 a5 a6 b8 b9 b10 a11 a12 a13 a14 b15 b19 b20 b21 a24 a25 a26 a.toInt64 b.toInt64 c9.toInt64 e9.toInt64 N hM hE) (cwV 4 C.ts gX9_between_X9_findsBetween rfl rfl rfl ⟨rfl, hdX9_between_X9_findsBetween⟩ ⟨Nat.le_of_ble_eq_true rfl, Nat.le_of_ble_eq_true rfl⟩) (k_preV C hX (hM.at 0 rfl) rfl) rfl rfl hl.1 rfl (lv_room (Nat.le_of_ble_eq_true rfl)) dX9_between_73 ⟨Nat.le_of_ble_eq_true rfl, Nat.le_of_ble_eq_true rfl⟩) hX (fun f73 H locs hp73 hX => ?_)
      obtain ⟨hM, hO73⟩ := hp73
      have hO := hO.trans hO73
      have hM : kCs f73 (mC G h q i0 i1 i3 i7 i18 i22 i23 (nI 0) ((mBk (mBQ b15 (a.toInt64, b.toInt64, c9.toInt64, e9.toInt64) N) (mBM (a.toInt64, b.toInt64, c9.toInt64, e9.toInt64) N) (mBM (a.toInt64, b.toInt64, c9.toInt64, e9.toInt64) N)).1) ((mBk (mBQ b15 (a.toInt64, b.toInt64, c9.toInt64, e9.toInt64) N) (mBM (a.toInt64, b.toInt64, c9.toInt64, e9.toInt64) N) (mBM (a.toInt64, b.toInt64, c9.toInt64, e9.toInt64) N)).2) a2 a4 a5 a6 b8 b9 b10 a11 a12 a13 a14 (mBQ b15 (a.toInt64, b.toInt64, c9.toInt64, e9.toInt64) N) b19 b20 b21 a24 a25 a26) := hM
      refine lv_goto (tgt := 92) C.x C.b dX9_between_76 (by decide) ?_
      refine lv_iload C.x C.b dX9_between_92 (lv_at hl 5 rfl) ?_
      refine lv_if_eq (tgt := 104) C.x C.b dX9_between_94 (by decide) (fun c_94 => ?_) (fun c_94 => ?_)
      rotate_left
      · exact absurd c_94 (by decide)
      refine lv_aload_n C.x C.b dX9_between_104 rfl (lv_at hl 0 rfl) ?_
      refine k_get (X := RX9) (T := TX9) (N := 28) (v := .long ((mBk (mBQ b15 (a.toInt64, b.toInt64, c9.toInt64, e9.toInt64) N) (mBM (a.toInt64, b.toInt64, c9.toInt64, e9.toInt64) N) (mBM (a.toInt64, b.toInt64, c9.toInt64, e9.toInt64) N)).2)) C hX (hM.at 0 rfl) rfl hin_X9_between_RX9 17 (by decide) lk_X9_between_f190 (fun _ h9 => h9) rfl dX9_between_105 ?_
      exact k_lret C hX hr hlocks hQ (by omega) (by omega) (⟨rfl, hM, hO⟩) dX9_between_108

abbrev rmX9_between_hi_t : Room := { frames := 2, cells := 0, slots := 0, locals := 70 }
set_option maxHeartbeats 4000000 in
set_option maxRecDepth 100000 in
/-- X9_between_hi_t -/
theorem kX9_between_hi_t (l : Launch) (G : kG) (B0 : Nat) (f : kH) (h : Nat) (q : Nat → Nat) (i0 i1 i3 i7 i18 i22 i23 i27 : Int32) (j16 j17 : Int64) (a2 : Nat → Int32) (a4 : Nat → Int32) (a5 : Nat → Int32) (a6 : Nat → Int32) (b8 : Nat → Int64) (b9 : Nat → Int64) (b10 : Nat → Int64) (a11 : Nat → Int32) (a12 : Nat → Int32) (a13 : Nat → Int32) (a14 : Nat → Int32) (b15 : Nat → Int64) (b19 : Nat → Int64) (b20 : Nat → Int64) (b21 : Nat → Int64) (a24 : Nat → Int32) (a25 : Nat → Int32) (a26 : Nat → Int32) (a b c9 e9 : Int32) (N : Nat) (hM : kCs f (mC G h q i0 i1 i3 i7 i18 i22 i23 i27 j16 j17 a2 a4 a5 a6 b8 b9 b10 a11 a12 a13 a14 b15 b19 b20 b21 a24 a25 a26)) (hv : mFr a b (1 : Nat) ∧ mFr c9 e9 (1 : Nat) ∧ ¬ mCross a b c9 e9 = 0) (hx : ¬ mCross a b c9 e9 < 0) (hE : mBEnds (c9.toInt64, e9.toInt64, a.toInt64, b.toInt64) N) : Met l yX9_between wsX9_between (rmX9_between_hi_t) (kP G B0 f [.ref h, .int a, .int b, .int c9, .int e9, .int (nI 1)]) (kQl G B0 (fun r f1 => r = (mBk (mBQ b15 (c9.toInt64, e9.toInt64, a.toInt64, b.toInt64) N) (mBM (c9.toInt64, e9.toInt64, a.toInt64, b.toInt64) N) (mBM (c9.toInt64, e9.toInt64, a.toInt64, b.toInt64) N)).1 ∧ kCs f1 (mC G h q i0 i1 i3 i7 i18 i22 i23 (nI 0) ((mBk (mBQ b15 (c9.toInt64, e9.toInt64, a.toInt64, b.toInt64) N) (mBM (c9.toInt64, e9.toInt64, a.toInt64, b.toInt64) N) (mBM (c9.toInt64, e9.toInt64, a.toInt64, b.toInt64) N)).1) ((mBk (mBQ b15 (c9.toInt64, e9.toInt64, a.toInt64, b.toInt64) N) (mBM (c9.toInt64, e9.toInt64, a.toInt64, b.toInt64) N) (mBM (c9.toInt64, e9.toInt64, a.toInt64, b.toInt64) N)).2) a2 a4 a5 a6 b8 b9 b10 a11 a12 a13 a14 (mBQ b15 (c9.toInt64, e9.toInt64, a.toInt64, b.toInt64) N) b19 b20 b21 a24 a25 a26) ∧ kOff (mAs h q) f f1)) 0 0 (kAb B0) := by
  refine kMet (cc := cX9_between) (maxL := 6) (ret := (some .long)) (by decide) rfl (Nat.le_of_ble_eq_true rfl) ?_
  intro p e s m args below meth c H locs Q ls C hX hl hr hlocks hnm hQ
  have hO : kOff (mAs h q) f f := kOff.rf
  have hl : lv_has ls 6 [(0, .ref h), (1, .int a), (2, .int b), (3, .int c9), (4, .int e9), (5, .int (nI 1))] := hl
  refine lv_aload_n C.x C.b dX9_between_0 rfl (lv_at hl 0 rfl) ?_
  refine lv_iload_n C.x C.b dX9_between_1 rfl (lv_at hl 1 rfl) ?_
  refine lv_iload_n C.x C.b dX9_between_2 rfl (lv_at hl 2 rfl) ?_
  refine lv_iconst (v := nI 1) C.x C.b dX9_between_3 (by decide) ?_
  refine k_calli (va_runS (As := [.int a, .int b, .int (nI 1)]) (rest := [.ref h]) C.1 (kX9_isFraction l G B0 f a b 1 (by omega)) (va_cwS 3 C.ts gX9_between_X9_isFraction rfl rfl rfl (hdX9_between_X9_isFraction) ⟨Nat.le_of_ble_eq_true rfl, Nat.le_of_ble_eq_true rfl⟩) (k_preS C hX) rfl rfl hl.1 rfl (lv_room (Nat.le_of_ble_eq_true rfl)) dX9_between_4 ⟨Nat.le_of_ble_eq_true rfl, Nat.le_of_ble_eq_true rfl⟩) hX (fun r4 f4 H locs hp4 hX => ?_)
  obtain ⟨hr4, hf4⟩ := hp4
  rw [hf4] at hX
  refine k_topi (y := (kbI (mFr a b (1 : Nat)))) hr4 ?_
  refine lv_if_eq (tgt := 37) C.x C.b dX9_between_7 (by decide) (fun c_7 => ?_) (fun c_7 => ?_)
  · exact absurd (hv.1) (kbI_0 c_7)
  refine lv_iload_n C.x C.b dX9_between_10 rfl (lv_at hl 3 rfl) ?_
  refine lv_iload C.x C.b dX9_between_11 (lv_at hl 4 rfl) ?_
  refine lv_iconst (v := nI 1) C.x C.b dX9_between_13 (by decide) ?_
  refine k_calli (va_runS (As := [.int c9, .int e9, .int (nI 1)]) (rest := [.ref h]) C.1 (kX9_isFraction l G B0 f c9 e9 1 (by omega)) (va_cwS 3 C.ts gX9_between_X9_isFraction rfl rfl rfl (hdX9_between_X9_isFraction) ⟨Nat.le_of_ble_eq_true rfl, Nat.le_of_ble_eq_true rfl⟩) (k_preS C hX) rfl rfl hl.1 rfl (lv_room (Nat.le_of_ble_eq_true rfl)) dX9_between_14 ⟨Nat.le_of_ble_eq_true rfl, Nat.le_of_ble_eq_true rfl⟩) hX (fun r14 f14 H locs hp14 hX => ?_)
  obtain ⟨hr14, hf14⟩ := hp14
  rw [hf14] at hX
  refine k_topi (y := (kbI (mFr c9 e9 (1 : Nat)))) hr14 ?_
  refine lv_if_eq (tgt := 37) C.x C.b dX9_between_17 (by decide) (fun c_17 => ?_) (fun c_17 => ?_)
  · exact absurd (hv.2.1) (kbI_0 c_17)
  refine lv_iload_n C.x C.b dX9_between_20 rfl (lv_at hl 1 rfl) ?_
  refine lv_iload_n C.x C.b dX9_between_21 rfl (lv_at hl 2 rfl) ?_
  refine lv_iload_n C.x C.b dX9_between_22 rfl (lv_at hl 3 rfl) ?_
  refine lv_iload C.x C.b dX9_between_23 (lv_at hl 4 rfl) ?_
  refine k_calll (va_runS (As := [.int a, .int b, .int c9, .int e9]) (rest := [.ref h]) C.1 (kX9_cross l G B0 f a b c9 e9) (va_cwS 4 C.ts gX9_between_X9_cross rfl rfl rfl (hdX9_between_X9_cross) ⟨Nat.le_of_ble_eq_true rfl, Nat.le_of_ble_eq_true rfl⟩) (k_preS C hX) rfl rfl hl.1 rfl (lv_room (Nat.le_of_ble_eq_true rfl)) dX9_between_25 ⟨Nat.le_of_ble_eq_true rfl, Nat.le_of_ble_eq_true rfl⟩) hX (fun r25 f25 H locs hp25 hX => ?_)
  obtain ⟨hr25, hf25⟩ := hp25
  rw [hf25] at hX
  refine k_topl (y := (mCross a b c9 e9)) hr25 ?_
  refine lv_lconst (v := 0) C.x C.b dX9_between_28 (by decide) ?_
  refine k_lcmp_eq (tgt := 37) C.x C.b dX9_between_29 dX9_between_30 (by decide) (fun c_30 => ?_) (fun c_30 => ?_)
  · skip
    exact absurd c_30 hv.2.2
  · skip
    refine lv_iconst (v := nI 0) C.x C.b dX9_between_33 (by decide) ?_
    refine lv_goto (tgt := 38) C.x C.b dX9_between_34 (by decide) ?_
    refine k_put (X := RX9) (T := TX9) (N := 28) (ty := .int) (v := .int (nI 0)) C hX (hM.at 0 rfl) rfl hin_X9_between_RX9 tyX9_ok nmX9 27 (by decide) lk_X9_between_f80 (fun _ h9 => h9) rfl (by decide +kernel) rfl rfl (Nat.le_of_ble_eq_true rfl) dX9_between_38 (fun H locs hX => ?_)
    obtain ⟨g1, hX, hM, hO⟩ := kX.wr hX hM hO 0 rfl (List.mem_of_getElem? (i := 0) rfl)
    have hM : kCs g1 (mC G h q i0 i1 i3 i7 i18 i22 i23 (nI 0) j16 j17 a2 a4 a5 a6 b8 b9 b10 a11 a12 a13 a14 b15 b19 b20 b21 a24 a25 a26) := hM
    refine lv_aload_n C.x C.b dX9_between_41 rfl (lv_at hl 0 rfl) ?_
    refine k_get (X := RX9) (T := TX9) (N := 28) (v := .int (nI 0)) C hX (hM.at 0 rfl) rfl hin_X9_between_RX9 27 (by decide) lk_X9_between_f80 (fun _ h9 => h9) rfl dX9_between_42 ?_
    refine lv_if_le (tgt := 50) C.x C.b dX9_between_45 (by decide) (fun c_45 => ?_) (fun c_45 => ?_)
    rotate_left
    · exact absurd c_45 (by decide)
    refine lv_iload_n C.x C.b dX9_between_50 rfl (lv_at hl 1 rfl) ?_
    refine lv_iload_n C.x C.b dX9_between_51 rfl (lv_at hl 2 rfl) ?_
    refine lv_iload_n C.x C.b dX9_between_52 rfl (lv_at hl 3 rfl) ?_
    refine lv_iload C.x C.b dX9_between_53 (lv_at hl 4 rfl) ?_
    refine k_calll (va_runS (As := [.int a, .int b, .int c9, .int e9]) (rest := []) C.1 (kX9_cross l G B0 g1 a b c9 e9) (va_cwS 4 C.ts gX9_between_X9_cross rfl rfl rfl (hdX9_between_X9_cross) ⟨Nat.le_of_ble_eq_true rfl, Nat.le_of_ble_eq_true rfl⟩) (k_preS C hX) rfl rfl hl.1 rfl (lv_room (Nat.le_of_ble_eq_true rfl)) dX9_between_55 ⟨Nat.le_of_ble_eq_true rfl, Nat.le_of_ble_eq_true rfl⟩) hX (fun r55 f55 H locs hp55 hX => ?_)
    obtain ⟨hr55, hf55⟩ := hp55
    rw [hf55] at hX
    refine k_topl (y := (mCross a b c9 e9)) hr55 ?_
    refine lv_lconst (v := 0) C.x C.b dX9_between_58 (by decide) ?_
    refine k_lcmp_ge (tgt := 79) C.x C.b dX9_between_59 dX9_between_60 (by decide) (fun c_60 => ?_) (fun c_60 => ?_)
    · skip
      refine lv_aload_n C.x C.b dX9_between_79 rfl (lv_at hl 0 rfl) ?_
      refine lv_iload_n C.x C.b dX9_between_80 rfl (lv_at hl 3 rfl) ?_
      refine lv_i2l (v := c9.toInt64) C.x C.b dX9_between_81 rfl ?_
      refine lv_iload C.x C.b dX9_between_82 (lv_at hl 4 rfl) ?_
      refine lv_i2l (v := e9.toInt64) C.x C.b dX9_between_84 rfl ?_
      refine lv_iload_n C.x C.b dX9_between_85 rfl (lv_at hl 1 rfl) ?_
      refine lv_i2l (v := a.toInt64) C.x C.b dX9_between_86 rfl ?_
      refine lv_iload_n C.x C.b dX9_between_87 rfl (lv_at hl 2 rfl) ?_
      refine lv_i2l (v := b.toInt64) C.x C.b dX9_between_88 rfl ?_
      refine k_callv (va_runV (As := [.long c9.toInt64, .long e9.toInt64, .long a.toInt64, .long b.toInt64]) (rest := []) C.1 (kX9_findsBetween l G B0 g1 h q i0 i1 i3 i7 i18 i22 i23 (nI 0) j16 j17 a2 a4 a5 a6 b8 b9 b10 a11 a12 a13 a14 b15 b19 b20 b21 a24 a25 a26 c9.toInt64 e9.toInt64 a.toInt64 b.toInt64 N hM hE) (cwV 4 C.ts gX9_between_X9_findsBetween rfl rfl rfl ⟨rfl, hdX9_between_X9_findsBetween⟩ ⟨Nat.le_of_ble_eq_true rfl, Nat.le_of_ble_eq_true rfl⟩) (k_preV C hX (hM.at 0 rfl) rfl) rfl rfl hl.1 rfl (lv_room (Nat.le_of_ble_eq_true rfl)) dX9_between_89 ⟨Nat.le_of_ble_eq_true rfl, Nat.le_of_ble_eq_true rfl⟩) hX (fun f89 H locs hp89 hX => ?_)
      obtain ⟨hM, hO89⟩ := hp89
      have hO := hO.trans hO89
      have hM : kCs f89 (mC G h q i0 i1 i3 i7 i18 i22 i23 (nI 0) ((mBk (mBQ b15 (c9.toInt64, e9.toInt64, a.toInt64, b.toInt64) N) (mBM (c9.toInt64, e9.toInt64, a.toInt64, b.toInt64) N) (mBM (c9.toInt64, e9.toInt64, a.toInt64, b.toInt64) N)).1) ((mBk (mBQ b15 (c9.toInt64, e9.toInt64, a.toInt64, b.toInt64) N) (mBM (c9.toInt64, e9.toInt64, a.toInt64, b.toInt64) N) (mBM (c9.toInt64, e9.toInt64, a.toInt64, b.toInt64) N)).2) a2 a4 a5 a6 b8 b9 b10 a11 a12 a13 a14 (mBQ b15 (c9.toInt64, e9.toInt64, a.toInt64, b.toInt64) N) b19 b20 b21 a24 a25 a26) := hM
      refine lv_iload C.x C.b dX9_between_92 (lv_at hl 5 rfl) ?_
      refine lv_if_eq (tgt := 104) C.x C.b dX9_between_94 (by decide) (fun c_94 => ?_) (fun c_94 => ?_)
      · exact absurd c_94 (by decide)
      refine lv_aload_n C.x C.b dX9_between_97 rfl (lv_at hl 0 rfl) ?_
      refine k_get (X := RX9) (T := TX9) (N := 28) (v := .long ((mBk (mBQ b15 (c9.toInt64, e9.toInt64, a.toInt64, b.toInt64) N) (mBM (c9.toInt64, e9.toInt64, a.toInt64, b.toInt64) N) (mBM (c9.toInt64, e9.toInt64, a.toInt64, b.toInt64) N)).1)) C hX (hM.at 0 rfl) rfl hin_X9_between_RX9 16 (by decide) lk_X9_between_f186 (fun _ h9 => h9) rfl dX9_between_98 ?_
      refine lv_goto (tgt := 108) C.x C.b dX9_between_101 (by decide) ?_
      exact k_lret C hX hr hlocks hQ (by omega) (by omega) (⟨rfl, hM, hO⟩) dX9_between_108
    · skip
      exact absurd c_60 hx

abbrev rmX9_between_hi_b : Room := { frames := 2, cells := 0, slots := 0, locals := 70 }
set_option maxHeartbeats 4000000 in
set_option maxRecDepth 100000 in
/-- X9_between_hi_b -/
theorem kX9_between_hi_b (l : Launch) (G : kG) (B0 : Nat) (f : kH) (h : Nat) (q : Nat → Nat) (i0 i1 i3 i7 i18 i22 i23 i27 : Int32) (j16 j17 : Int64) (a2 : Nat → Int32) (a4 : Nat → Int32) (a5 : Nat → Int32) (a6 : Nat → Int32) (b8 : Nat → Int64) (b9 : Nat → Int64) (b10 : Nat → Int64) (a11 : Nat → Int32) (a12 : Nat → Int32) (a13 : Nat → Int32) (a14 : Nat → Int32) (b15 : Nat → Int64) (b19 : Nat → Int64) (b20 : Nat → Int64) (b21 : Nat → Int64) (a24 : Nat → Int32) (a25 : Nat → Int32) (a26 : Nat → Int32) (a b c9 e9 : Int32) (N : Nat) (hM : kCs f (mC G h q i0 i1 i3 i7 i18 i22 i23 i27 j16 j17 a2 a4 a5 a6 b8 b9 b10 a11 a12 a13 a14 b15 b19 b20 b21 a24 a25 a26)) (hv : mFr a b (1 : Nat) ∧ mFr c9 e9 (1 : Nat) ∧ ¬ mCross a b c9 e9 = 0) (hx : ¬ mCross a b c9 e9 < 0) (hE : mBEnds (c9.toInt64, e9.toInt64, a.toInt64, b.toInt64) N) : Met l yX9_between wsX9_between (rmX9_between_hi_b) (kP G B0 f [.ref h, .int a, .int b, .int c9, .int e9, .int (nI 0)]) (kQl G B0 (fun r f1 => r = (mBk (mBQ b15 (c9.toInt64, e9.toInt64, a.toInt64, b.toInt64) N) (mBM (c9.toInt64, e9.toInt64, a.toInt64, b.toInt64) N) (mBM (c9.toInt64, e9.toInt64, a.toInt64, b.toInt64) N)).2 ∧ kCs f1 (mC G h q i0 i1 i3 i7 i18 i22 i23 (nI 0) ((mBk (mBQ b15 (c9.toInt64, e9.toInt64, a.toInt64, b.toInt64) N) (mBM (c9.toInt64, e9.toInt64, a.toInt64, b.toInt64) N) (mBM (c9.toInt64, e9.toInt64, a.toInt64, b.toInt64) N)).1) ((mBk (mBQ b15 (c9.toInt64, e9.toInt64, a.toInt64, b.toInt64) N) (mBM (c9.toInt64, e9.toInt64, a.toInt64, b.toInt64) N) (mBM (c9.toInt64, e9.toInt64, a.toInt64, b.toInt64) N)).2) a2 a4 a5 a6 b8 b9 b10 a11 a12 a13 a14 (mBQ b15 (c9.toInt64, e9.toInt64, a.toInt64, b.toInt64) N) b19 b20 b21 a24 a25 a26) ∧ kOff (mAs h q) f f1)) 0 0 (kAb B0) := by
  refine kMet (cc := cX9_between) (maxL := 6) (ret := (some .long)) (by decide) rfl (Nat.le_of_ble_eq_true rfl) ?_
  intro p e s m args below meth c H locs Q ls C hX hl hr hlocks hnm hQ
  have hO : kOff (mAs h q) f f := kOff.rf
  have hl : lv_has ls 6 [(0, .ref h), (1, .int a), (2, .int b), (3, .int c9), (4, .int e9), (5, .int (nI 0))] := hl
  refine lv_aload_n C.x C.b dX9_between_0 rfl (lv_at hl 0 rfl) ?_
  refine lv_iload_n C.x C.b dX9_between_1 rfl (lv_at hl 1 rfl) ?_
  refine lv_iload_n C.x C.b dX9_between_2 rfl (lv_at hl 2 rfl) ?_
  refine lv_iconst (v := nI 1) C.x C.b dX9_between_3 (by decide) ?_
  refine k_calli (va_runS (As := [.int a, .int b, .int (nI 1)]) (rest := [.ref h]) C.1 (kX9_isFraction l G B0 f a b 1 (by omega)) (va_cwS 3 C.ts gX9_between_X9_isFraction rfl rfl rfl (hdX9_between_X9_isFraction) ⟨Nat.le_of_ble_eq_true rfl, Nat.le_of_ble_eq_true rfl⟩) (k_preS C hX) rfl rfl hl.1 rfl (lv_room (Nat.le_of_ble_eq_true rfl)) dX9_between_4 ⟨Nat.le_of_ble_eq_true rfl, Nat.le_of_ble_eq_true rfl⟩) hX (fun r4 f4 H locs hp4 hX => ?_)
  obtain ⟨hr4, hf4⟩ := hp4
  rw [hf4] at hX
  refine k_topi (y := (kbI (mFr a b (1 : Nat)))) hr4 ?_
  refine lv_if_eq (tgt := 37) C.x C.b dX9_between_7 (by decide) (fun c_7 => ?_) (fun c_7 => ?_)
  · exact absurd (hv.1) (kbI_0 c_7)
  refine lv_iload_n C.x C.b dX9_between_10 rfl (lv_at hl 3 rfl) ?_
  refine lv_iload C.x C.b dX9_between_11 (lv_at hl 4 rfl) ?_
  refine lv_iconst (v := nI 1) C.x C.b dX9_between_13 (by decide) ?_
  refine k_calli (va_runS (As := [.int c9, .int e9, .int (nI 1)]) (rest := [.ref h]) C.1 (kX9_isFraction l G B0 f c9 e9 1 (by omega)) (va_cwS 3 C.ts gX9_between_X9_isFraction rfl rfl rfl (hdX9_between_X9_isFraction) ⟨Nat.le_of_ble_eq_true rfl, Nat.le_of_ble_eq_true rfl⟩) (k_preS C hX) rfl rfl hl.1 rfl (lv_room (Nat.le_of_ble_eq_true rfl)) dX9_between_14 ⟨Nat.le_of_ble_eq_true rfl, Nat.le_of_ble_eq_true rfl⟩) hX (fun r14 f14 H locs hp14 hX => ?_)
  obtain ⟨hr14, hf14⟩ := hp14
  rw [hf14] at hX
  refine k_topi (y := (kbI (mFr c9 e9 (1 : Nat)))) hr14 ?_
  refine lv_if_eq (tgt := 37) C.x C.b dX9_between_17 (by decide) (fun c_17 => ?_) (fun c_17 => ?_)
  · exact absurd (hv.2.1) (kbI_0 c_17)
  refine lv_iload_n C.x C.b dX9_between_20 rfl (lv_at hl 1 rfl) ?_
  refine lv_iload_n C.x C.b dX9_between_21 rfl (lv_at hl 2 rfl) ?_
  refine lv_iload_n C.x C.b dX9_between_22 rfl (lv_at hl 3 rfl) ?_
  refine lv_iload C.x C.b dX9_between_23 (lv_at hl 4 rfl) ?_
  refine k_calll (va_runS (As := [.int a, .int b, .int c9, .int e9]) (rest := [.ref h]) C.1 (kX9_cross l G B0 f a b c9 e9) (va_cwS 4 C.ts gX9_between_X9_cross rfl rfl rfl (hdX9_between_X9_cross) ⟨Nat.le_of_ble_eq_true rfl, Nat.le_of_ble_eq_true rfl⟩) (k_preS C hX) rfl rfl hl.1 rfl (lv_room (Nat.le_of_ble_eq_true rfl)) dX9_between_25 ⟨Nat.le_of_ble_eq_true rfl, Nat.le_of_ble_eq_true rfl⟩) hX (fun r25 f25 H locs hp25 hX => ?_)
  obtain ⟨hr25, hf25⟩ := hp25
  rw [hf25] at hX
  refine k_topl (y := (mCross a b c9 e9)) hr25 ?_
  refine lv_lconst (v := 0) C.x C.b dX9_between_28 (by decide) ?_
  refine k_lcmp_eq (tgt := 37) C.x C.b dX9_between_29 dX9_between_30 (by decide) (fun c_30 => ?_) (fun c_30 => ?_)
  · skip
    exact absurd c_30 hv.2.2
  · skip
    refine lv_iconst (v := nI 0) C.x C.b dX9_between_33 (by decide) ?_
    refine lv_goto (tgt := 38) C.x C.b dX9_between_34 (by decide) ?_
    refine k_put (X := RX9) (T := TX9) (N := 28) (ty := .int) (v := .int (nI 0)) C hX (hM.at 0 rfl) rfl hin_X9_between_RX9 tyX9_ok nmX9 27 (by decide) lk_X9_between_f80 (fun _ h9 => h9) rfl (by decide +kernel) rfl rfl (Nat.le_of_ble_eq_true rfl) dX9_between_38 (fun H locs hX => ?_)
    obtain ⟨g1, hX, hM, hO⟩ := kX.wr hX hM hO 0 rfl (List.mem_of_getElem? (i := 0) rfl)
    have hM : kCs g1 (mC G h q i0 i1 i3 i7 i18 i22 i23 (nI 0) j16 j17 a2 a4 a5 a6 b8 b9 b10 a11 a12 a13 a14 b15 b19 b20 b21 a24 a25 a26) := hM
    refine lv_aload_n C.x C.b dX9_between_41 rfl (lv_at hl 0 rfl) ?_
    refine k_get (X := RX9) (T := TX9) (N := 28) (v := .int (nI 0)) C hX (hM.at 0 rfl) rfl hin_X9_between_RX9 27 (by decide) lk_X9_between_f80 (fun _ h9 => h9) rfl dX9_between_42 ?_
    refine lv_if_le (tgt := 50) C.x C.b dX9_between_45 (by decide) (fun c_45 => ?_) (fun c_45 => ?_)
    rotate_left
    · exact absurd c_45 (by decide)
    refine lv_iload_n C.x C.b dX9_between_50 rfl (lv_at hl 1 rfl) ?_
    refine lv_iload_n C.x C.b dX9_between_51 rfl (lv_at hl 2 rfl) ?_
    refine lv_iload_n C.x C.b dX9_between_52 rfl (lv_at hl 3 rfl) ?_
    refine lv_iload C.x C.b dX9_between_53 (lv_at hl 4 rfl) ?_
    refine k_calll (va_runS (As := [.int a, .int b, .int c9, .int e9]) (rest := []) C.1 (kX9_cross l G B0 g1 a b c9 e9) (va_cwS 4 C.ts gX9_between_X9_cross rfl rfl rfl (hdX9_between_X9_cross) ⟨Nat.le_of_ble_eq_true rfl, Nat.le_of_ble_eq_true rfl⟩) (k_preS C hX) rfl rfl hl.1 rfl (lv_room (Nat.le_of_ble_eq_true rfl)) dX9_between_55 ⟨Nat.le_of_ble_eq_true rfl, Nat.le_of_ble_eq_true rfl⟩) hX (fun r55 f55 H locs hp55 hX => ?_)
    obtain ⟨hr55, hf55⟩ := hp55
    rw [hf55] at hX
    refine k_topl (y := (mCross a b c9 e9)) hr55 ?_
    refine lv_lconst (v := 0) C.x C.b dX9_between_58 (by decide) ?_
    refine k_lcmp_ge (tgt := 79) C.x C.b dX9_between_59 dX9_between_60 (by decide) (fun c_60 => ?_) (fun c_60 => ?_)
    · skip
      refine lv_aload_n C.x C.b dX9_between_79 rfl (lv_at hl 0 rfl) ?_
      refine lv_iload_n C.x C.b dX9_between_80 rfl (lv_at hl 3 rfl) ?_
      refine lv_i2l (v := c9.toInt64) C.x C.b dX9_between_81 rfl ?_
      refine lv_iload C.x C.b dX9_between_82 (lv_at hl 4 rfl) ?_
      refine lv_i2l (v := e9.toInt64) C.x C.b dX9_between_84 rfl ?_
      refine lv_iload_n C.x C.b dX9_between_85 rfl (lv_at hl 1 rfl) ?_
      refine lv_i2l (v := a.toInt64) C.x C.b dX9_between_86 rfl ?_
      refine lv_iload_n C.x C.b dX9_between_87 rfl (lv_at hl 2 rfl) ?_
      refine lv_i2l (v := b.toInt64) C.x C.b dX9_between_88 rfl ?_
      refine k_callv (va_runV (As := [.long c9.toInt64, .long e9.toInt64, .long a.toInt64, .long b.toInt64]) (rest := []) C.1 (kX9_findsBetween l G B0 g1 h q i0 i1 i3 i7 i18 i22 i23 (nI 0) j16 j17 a2 a4 a5 a6 b8 b9 b10 a11 a12 a13 a14 b15 b19 b20 b21 a24 a25 a26 c9.toInt64 e9.toInt64 a.toInt64 b.toInt64 N hM hE) (cwV 4 C.ts gX9_between_X9_findsBetween rfl rfl rfl ⟨rfl, hdX9_between_X9_findsBetween⟩ ⟨Nat.le_of_ble_eq_true rfl, Nat.le_of_ble_eq_true rfl⟩) (k_preV C hX (hM.at 0 rfl) rfl) rfl rfl hl.1 rfl (lv_room (Nat.le_of_ble_eq_true rfl)) dX9_between_89 ⟨Nat.le_of_ble_eq_true rfl, Nat.le_of_ble_eq_true rfl⟩) hX (fun f89 H locs hp89 hX => ?_)
      obtain ⟨hM, hO89⟩ := hp89
      have hO := hO.trans hO89
      have hM : kCs f89 (mC G h q i0 i1 i3 i7 i18 i22 i23 (nI 0) ((mBk (mBQ b15 (c9.toInt64, e9.toInt64, a.toInt64, b.toInt64) N) (mBM (c9.toInt64, e9.toInt64, a.toInt64, b.toInt64) N) (mBM (c9.toInt64, e9.toInt64, a.toInt64, b.toInt64) N)).1) ((mBk (mBQ b15 (c9.toInt64, e9.toInt64, a.toInt64, b.toInt64) N) (mBM (c9.toInt64, e9.toInt64, a.toInt64, b.toInt64) N) (mBM (c9.toInt64, e9.toInt64, a.toInt64, b.toInt64) N)).2) a2 a4 a5 a6 b8 b9 b10 a11 a12 a13 a14 (mBQ b15 (c9.toInt64, e9.toInt64, a.toInt64, b.toInt64) N) b19 b20 b21 a24 a25 a26) := hM
      refine lv_iload C.x C.b dX9_between_92 (lv_at hl 5 rfl) ?_
      refine lv_if_eq (tgt := 104) C.x C.b dX9_between_94 (by decide) (fun c_94 => ?_) (fun c_94 => ?_)
      rotate_left
      · exact absurd c_94 (by decide)
      refine lv_aload_n C.x C.b dX9_between_104 rfl (lv_at hl 0 rfl) ?_
      refine k_get (X := RX9) (T := TX9) (N := 28) (v := .long ((mBk (mBQ b15 (c9.toInt64, e9.toInt64, a.toInt64, b.toInt64) N) (mBM (c9.toInt64, e9.toInt64, a.toInt64, b.toInt64) N) (mBM (c9.toInt64, e9.toInt64, a.toInt64, b.toInt64) N)).2)) C hX (hM.at 0 rfl) rfl hin_X9_between_RX9 17 (by decide) lk_X9_between_f190 (fun _ h9 => h9) rfl dX9_between_105 ?_
      exact k_lret C hX hr hlocks hQ (by omega) (by omega) (⟨rfl, hM, hO⟩) dX9_between_108
    · skip
      exact absurd c_60 hx
