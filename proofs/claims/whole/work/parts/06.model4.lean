def mCopy0 (g src : Nat → Int64) : Nat → Nat → Int64
  | 0 => g
  | n + 1 => vp_updL (mCopy0 g src n) n (src n)
def mProd (g W : Nat → Int64) (a b c d : Int64) : Nat → Int64 := vp_updL (vp_updL (vp_updL (vp_updL g 0 (W 0 * a + W 1 * c)) 1 (W 0 * b + W 1 * d)) 2 (W 2 * a + W 3 * c)) 3 (W 2 * b + W 3 * d)
theorem kbI_all {P : Nat → Prop} [DecidablePred P] {k : Nat} : kbI (∀ j : Nat, j < k → P j) &&& kbI (P k) = kbI (∀ j : Nat, j < k + 1 → P j) := by
  rw [kbI_and]
  exact kbI_c ⟨fun z j hj => by rcases Nat.lt_or_ge j k with q | q; exact z.1 j q; rw [show j = k by omega]; exact z.2, fun z => ⟨fun j hj => z j (by omega), z k (by omega)⟩⟩
abbrev mIm (a b : Int32) : Prop := mFr a b (0 : Nat) ∧ (0 < b ∨ a = nI 1)
theorem k_shl1 : ∀ w, w < 31 → nI 1 <<< (nI w &&& 31) = nI (2 ^ w) := by decide
theorem k_31 : ∀ w, w < 32 → ((nI w &&& 31).toBitVec.smod 32).toNat = w := by decide
theorem k_bit {s w : Nat} (hs : s < 2 ^ 31) (hw : w < 32) : (nI s >>> (nI w &&& 31)) &&& nI 1 = nI (s / 2 ^ w % 2) := by
  rw [pk_shrN hs _ w (k_31 w hw)]
  exact pk_andN (m := nI 1) (Nat.lt_of_le_of_lt (Nat.div_le_self _ _) (by omega)) 1 (by decide)
/-- the parts of the nodes by the first w wires, those of the set s: which label each node has, how many labels; none if a wire closes a ring -/
def mPB (en ot : Nat → Nat) (n s : Nat) : Nat → Option ((Nat → Nat) × Int32)
  | 0 => some (fun k => k, nI n)
  | w + 1 => match mPB en ot n s w with
    | none => none
    | some x => if s / 2 ^ w % 2 = 1 then if x.1 (en w) = x.1 (ot w) then none else some (fun k => if x.1 k = x.1 (ot w) then x.1 (en w) else x.1 k, x.2 + -1) else some x
def mPV (en ot : Nat → Nat) (n w s : Nat) : Int32 := match mPB en ot n s w with
  | none => -1
  | some x => x.2
theorem mPB_none {en ot : Nat → Nat} {n s w : Nat} (h : mPB en ot n s w = none) : ∀ v, mPB en ot n s (w + v) = none
  | 0 => h
  | v + 1 => by
    have := mPB_none h v
    show mPB en ot n s (w + v + 1) = none
    simp only [mPB, this]
theorem mPB_lt {en ot : Nat → Nat} {n s : Nat} : ∀ {w : Nat} {x : (Nat → Nat) × Int32}, (∀ k, k < w → en k < n) → mPB en ot n s w = some x → ∀ k, k < n → x.1 k < n
  | 0, x, _, h, k, hk => by simp only [mPB, Option.some.injEq] at h; rw [← h]; exact hk
  | w + 1, x, he, h, k, hk => by
    simp only [mPB] at h
    cases hx : mPB en ot n s w with
    | none => rw [hx] at h; cases h
    | some y =>
      rw [hx] at h
      have ih := mPB_lt (fun k hk => he k (by omega)) hx
      simp only at h
      split at h
      · split at h
        · cases h
        · cases h
          simp only
          split
          · exact ih _ (he w (by omega))
          · exact ih k hk
      · cases h; exact ih k hk
def mMerge (F : Nat → Int32) (a b : Int32) : Nat → Nat → Int32
  | 0 => F
  | k + 1 => upd (mMerge F a b k) k (if mMerge F a b k k = b then a else mMerge F a b k k)
theorem mMerge_ge (F : Nat → Int32) (a b : Int32) : ∀ n k, n ≤ k → mMerge F a b n k = F k
  | 0, k, _ => rfl
  | n + 1, k, h => by
    simp only [mMerge, upd]
    rw [if_neg (by omega)]
    exact mMerge_ge F a b n k (by omega)
theorem mMerge_lt (F : Nat → Int32) (a b : Int32) : ∀ n k, k < n → mMerge F a b n k = if F k = b then a else F k
  | 0, k, h => absurd h (Nat.not_lt_zero _)
  | n + 1, k, h => by
    simp only [mMerge, upd]
    split
    · rename_i e; subst e; rw [mMerge_ge F a b k k (Nat.le_refl _)]
    · exact mMerge_lt F a b n k (by omega)
def mIota (F : Nat → Int32) : Nat → Nat → Int32
  | 0 => F
  | k + 1 => upd (mIota F k) k (nI k)
theorem mIota_lt (F : Nat → Int32) : ∀ n k, k < n → mIota F n k = nI k
  | 0, k, h => absurd h (Nat.not_lt_zero _)
  | n + 1, k, h => by
    simp only [mIota, upd]
    split
    · rename_i e; rw [e]
    · exact mIota_lt F n k (by omega)
abbrev mTrees (en ot : Nat → Nat) (n w : Nat) : Nat := kCnt (fun s9 => mPV en ot n w s9 = nI 1) (2 ^ w)
/-- a set that leaves two parts, with its and fr in one, to in the other -/
def mHP (en ot : Nat → Nat) (n w fr to its : Nat) (s : Nat) : Prop := match mPB en ot n s w with
  | none => False
  | some x => x.2 = nI 2 ∧ ¬ x.1 fr = x.1 to ∧ x.1 its = x.1 fr
theorem k_pow {w : Nat} (h : w ≤ 10) : 2 ^ w ≤ 1024 := Nat.pow_le_pow_right (n := 2) (by omega) h

theorem lk_X9_word_c115 : Cond.constantLong RX9 115 (4) ∈ wsX9_word := by decide +kernel
theorem hdX9_word_X9_isIn : yX9_isIn.cls ≠ "java/lang/invoke/MethodHandle" ∧ yX9_isIn.cls ≠ "java/lang/invoke/VarHandle" ∧ (parseMethodDescriptor yX9_isIn.desc).map (fun d => d.parameters.length) = some 3 := by decide +kernel
theorem lk_X9_word_f80 : Cond.fieldLink RX9 80 "KoebehallModel" "thrown" "I" ∈ wsX9_word := by decide +kernel
theorem hin_X9_word_RX9 : ∀ w ∈ u_ws RX9 TX9 28, w ∈ wsX9_word := by decide +kernel
abbrev rmX9_word_b1 : Room := { frames := 1, cells := 0, slots := 0, locals := 25 }
set_option maxHeartbeats 4000000 in
set_option maxRecDepth 100000 in
/-- X9_word_b1 -/
theorem kX9_word_b1 (l : Launch) (G : kG) (B0 : Nat) (f : kH) (h : Nat) (q : Nat → Nat) (i0 i1 i3 i7 i18 i22 i23 i27 : Int32) (j16 j17 : Int64) (a2 : Nat → Int32) (a4 : Nat → Int32) (a5 : Nat → Int32) (a6 : Nat → Int32) (b8 : Nat → Int64) (b9 : Nat → Int64) (b10 : Nat → Int64) (a11 : Nat → Int32) (a12 : Nat → Int32) (a13 : Nat → Int32) (a14 : Nat → Int32) (b15 : Nat → Int64) (b19 : Nat → Int64) (b20 : Nat → Int64) (b21 : Nat → Int64) (a24 : Nat → Int32) (a25 : Nat → Int32) (a26 : Nat → Int32) (a : Int32) (hM : kCs f (mC G h q i0 i1 i3 i7 i18 i22 i23 i27 j16 j17 a2 a4 a5 a6 b8 b9 b10 a11 a12 a13 a14 b15 b19 b20 b21 a24 a25 a26)) (hv : ¬ mRg a (0) 4) : Met l yX9_word wsX9_word (rmX9_word_b1) (kP G B0 f [.ref h, .int a]) (kQi G B0 (fun r f1 => r = nI 0 ∧ kCs f1 (mC G h q i0 i1 i3 i7 i18 i22 i23 (nI 1) j16 j17 a2 a4 a5 a6 b8 b9 b10 a11 a12 a13 a14 b15 b19 b20 b21 a24 a25 a26) ∧ kOff (mAs h q) f f1)) 0 0 (kAb B0) := by
  refine kMet (cc := cX9_word) (maxL := 6) (ret := (some .int)) (by decide) rfl (Nat.le_of_ble_eq_true rfl) ?_
  intro p e s m args below meth c H locs Q ls C hX hl hr hlocks hnm hQ
  have hO : kOff (mAs h q) f f := kOff.rf
  have hl : lv_has ls 6 [(0, .ref h), (1, .int a)] := hl
  refine lv_aload_n C.x C.b dX9_word_0 rfl (lv_at hl 0 rfl) ?_
  refine lv_iload_n C.x C.b dX9_word_1 rfl (lv_at hl 1 rfl) ?_
  refine lv_i2l (v := a.toInt64) C.x C.b dX9_word_2 rfl ?_
  refine lv_lconst (v := 0) C.x C.b dX9_word_3 (by decide) ?_
  refine lv_ldc2 (v := 4) C.x C.b C.ow (C.ts _ lk_X9_word_c115) dX9_word_4 ?_
  refine k_calli (va_runS (As := [.long a.toInt64, .long 0, .long 4]) (rest := [.ref h]) C.1 (kX9_isIn l G B0 f a.toInt64 0 4) (va_cwS 3 C.ts gX9_word_X9_isIn rfl rfl rfl (hdX9_word_X9_isIn) ⟨Nat.le_of_ble_eq_true rfl, Nat.le_of_ble_eq_true rfl⟩) (k_preS C hX) rfl rfl hl.1 rfl (lv_room (Nat.le_of_ble_eq_true rfl)) dX9_word_7 ⟨Nat.le_of_ble_eq_true rfl, Nat.le_of_ble_eq_true rfl⟩) hX (fun r7 f7 H locs hp7 hX => ?_)
  obtain ⟨hr7, hf7⟩ := hp7
  rw [hf7] at hX
  refine k_topi (y := (kbI ((0 : Int64) ≤ a.toInt64 ∧ a.toInt64 ≤ 4))) hr7 ?_
  refine k_topi (y := (kbI (mRg a (0) 4))) (kbI_c (m_rg (by decide) (by decide))) ?_
  refine lv_if_eq (tgt := 17) C.x C.b dX9_word_10 (by decide) (fun c_10 => ?_) (fun c_10 => ?_)
  rotate_left
  · exact absurd (kbI_1 c_10) (hv)
  refine lv_iconst (v := nI 1) C.x C.b dX9_word_17 (by decide) ?_
  refine k_put (X := RX9) (T := TX9) (N := 28) (ty := .int) (v := .int (nI 1)) C hX (hM.at 0 rfl) rfl hin_X9_word_RX9 tyX9_ok nmX9 27 (by decide) lk_X9_word_f80 (fun _ h9 => h9) rfl (by decide +kernel) rfl rfl (Nat.le_of_ble_eq_true rfl) dX9_word_18 (fun H locs hX => ?_)
  obtain ⟨g1, hX, hM, hO⟩ := kX.wr hX hM hO 0 rfl (List.mem_of_getElem? (i := 0) rfl)
  have hM : kCs g1 (mC G h q i0 i1 i3 i7 i18 i22 i23 (nI 1) j16 j17 a2 a4 a5 a6 b8 b9 b10 a11 a12 a13 a14 b15 b19 b20 b21 a24 a25 a26) := hM
  refine lv_aload_n C.x C.b dX9_word_21 rfl (lv_at hl 0 rfl) ?_
  refine k_get (X := RX9) (T := TX9) (N := 28) (v := .int (nI 1)) C hX (hM.at 0 rfl) rfl hin_X9_word_RX9 27 (by decide) lk_X9_word_f80 (fun _ h9 => h9) rfl dX9_word_22 ?_
  refine lv_if_le (tgt := 30) C.x C.b dX9_word_25 (by decide) (fun c_25 => ?_) (fun c_25 => ?_)
  · exact absurd c_25 (by decide)
  refine lv_iconst (v := nI 0) C.x C.b dX9_word_28 (by decide) ?_
  exact k_iret C hX hr hlocks hQ (by omega) (by omega) (⟨rfl, hM, hO⟩) dX9_word_29

theorem lk_X9_word_f58 : Cond.fieldLink RX9 58 "KoebehallModel" "word" "[J" ∈ wsX9_word := by decide +kernel
theorem lk_X9_word_c181 : Cond.constantLong RX9 181 (-1) ∈ wsX9_word := by decide +kernel
theorem lk_X9_word_c205 : Cond.constantLong RX9 205 (-2) ∈ wsX9_word := by decide +kernel
theorem lk_X9_word_c109 : Cond.constantLong RX9 109 (2) ∈ wsX9_word := by decide +kernel
abbrev rmX9_word : Room := { frames := 1, cells := 0, slots := 0, locals := 25 }
set_option maxHeartbeats 4000000 in
set_option maxRecDepth 100000 in
/-- X9_word -/
theorem kX9_word (l : Launch) (G : kG) (B0 : Nat) (f : kH) (h : Nat) (q : Nat → Nat) (i0 i1 i3 i7 i18 i22 i23 i27 : Int32) (j16 j17 : Int64) (a2 : Nat → Int32) (a4 : Nat → Int32) (a5 : Nat → Int32) (a6 : Nat → Int32) (b8 : Nat → Int64) (b9 : Nat → Int64) (b10 : Nat → Int64) (a11 : Nat → Int32) (a12 : Nat → Int32) (a13 : Nat → Int32) (a14 : Nat → Int32) (b15 : Nat → Int64) (b19 : Nat → Int64) (b20 : Nat → Int64) (b21 : Nat → Int64) (a24 : Nat → Int32) (a25 : Nat → Int32) (a26 : Nat → Int32) (w : Nat) (hM : kCs f (mC G h q i0 i1 i3 i7 i18 i22 i23 i27 j16 j17 a2 a4 a5 a6 b8 b9 b10 a11 a12 a13 a14 b15 b19 b20 b21 a24 a25 a26)) (hw : w ≤ 4) : Met l yX9_word wsX9_word (rmX9_word) (kP G B0 f [.ref h, .int (nI w)]) (kQi G B0 (fun r f1 => r = (if w < 4 then (b20 w).toInt32 else nI (mKind b20)) ∧ kCs f1 (mC G h q i0 i1 i3 i7 i18 i22 i23 (nI 0) j16 j17 a2 a4 a5 a6 b8 b9 b10 a11 a12 a13 a14 b15 b19 b20 b21 a24 a25 a26) ∧ kOff (mAs h q) f f1)) 0 0 (kAb B0) := by
  refine kMet (cc := cX9_word) (maxL := 6) (ret := (some .int)) (by decide) rfl (Nat.le_of_ble_eq_true rfl) ?_
  intro p e s m args below meth c H locs Q ls C hX hl hr hlocks hnm hQ
  have hO : kOff (mAs h q) f f := kOff.rf
  have hl : lv_has ls 6 [(0, .ref h), (1, .int (nI w))] := hl
  refine lv_aload_n C.x C.b dX9_word_0 rfl (lv_at hl 0 rfl) ?_
  refine lv_iload_n C.x C.b dX9_word_1 rfl (lv_at hl 1 rfl) ?_
  refine lv_i2l (v := (nI w).toInt64) C.x C.b dX9_word_2 rfl ?_
  refine lv_lconst (v := 0) C.x C.b dX9_word_3 (by decide) ?_
  refine lv_ldc2 (v := 4) C.x C.b C.ow (C.ts _ lk_X9_word_c115) dX9_word_4 ?_
  refine k_calli (va_runS (As := [.long ((nI w).toInt64), .long 0, .long 4]) (rest := [.ref h]) C.1 (kX9_isIn l G B0 f ((nI w).toInt64) 0 4) (va_cwS 3 C.ts gX9_word_X9_isIn rfl rfl rfl (hdX9_word_X9_isIn) ⟨Nat.le_of_ble_eq_true rfl, Nat.le_of_ble_eq_true rfl⟩) (k_preS C hX) rfl rfl hl.1 rfl (lv_room (Nat.le_of_ble_eq_true rfl)) dX9_word_7 ⟨Nat.le_of_ble_eq_true rfl, Nat.le_of_ble_eq_true rfl⟩) hX (fun r7 f7 H locs hp7 hX => ?_)
  obtain ⟨hr7, hf7⟩ := hp7
  rw [hf7] at hX
  refine k_topi (y := (kbI ((0 : Int64) ≤ (nI w).toInt64 ∧ (nI w).toInt64 ≤ 4))) hr7 ?_
  refine k_topi (y := (kbI (mRg (nI w) (0) 4))) (kbI_c (m_rg (by decide) (by decide))) ?_
  refine lv_if_eq (tgt := 17) C.x C.b dX9_word_10 (by decide) (fun c_10 => ?_) (fun c_10 => ?_)
  · exact absurd ((by rw [mRg, nI_toInt (by omega)]; omega)) (kbI_0 c_10)
  refine lv_iconst (v := nI 0) C.x C.b dX9_word_13 (by decide) ?_
  refine lv_goto (tgt := 18) C.x C.b dX9_word_14 (by decide) ?_
  refine k_put (X := RX9) (T := TX9) (N := 28) (ty := .int) (v := .int (nI 0)) C hX (hM.at 0 rfl) rfl hin_X9_word_RX9 tyX9_ok nmX9 27 (by decide) lk_X9_word_f80 (fun _ h9 => h9) rfl (by decide +kernel) rfl rfl (Nat.le_of_ble_eq_true rfl) dX9_word_18 (fun H locs hX => ?_)
  obtain ⟨g1, hX, hM, hO⟩ := kX.wr hX hM hO 0 rfl (List.mem_of_getElem? (i := 0) rfl)
  have hM : kCs g1 (mC G h q i0 i1 i3 i7 i18 i22 i23 (nI 0) j16 j17 a2 a4 a5 a6 b8 b9 b10 a11 a12 a13 a14 b15 b19 b20 b21 a24 a25 a26) := hM
  refine lv_aload_n C.x C.b dX9_word_21 rfl (lv_at hl 0 rfl) ?_
  refine k_get (X := RX9) (T := TX9) (N := 28) (v := .int (nI 0)) C hX (hM.at 0 rfl) rfl hin_X9_word_RX9 27 (by decide) lk_X9_word_f80 (fun _ h9 => h9) rfl dX9_word_22 ?_
  refine lv_if_le (tgt := 30) C.x C.b dX9_word_25 (by decide) (fun c_25 => ?_) (fun c_25 => ?_)
  rotate_left
  · exact absurd c_25 (by decide)
  refine lv_aload_n C.x C.b dX9_word_30 rfl (lv_at hl 0 rfl) ?_
  refine k_get (X := RX9) (T := TX9) (N := 28) (v := .ref (q 20)) C hX (hM.at 0 rfl) rfl hin_X9_word_RX9 20 (by decide) lk_X9_word_f58 (fun _ h9 => h9) rfl dX9_word_31 ?_
  refine lv_iconst (v := nI 0) C.x C.b dX9_word_34 (by decide) ?_
  refine k_lald C hX (hM.at 14 rfl) (vp_in_nI (by omega) (by omega)) dX9_word_35 ?_
  refine k_topl (y := b20 0) (by rw [nI_clamp (by omega)]) ?_
  refine lv_aload_n C.x C.b dX9_word_36 rfl (lv_at hl 0 rfl) ?_
  refine k_get (X := RX9) (T := TX9) (N := 28) (v := .ref (q 20)) C hX (hM.at 0 rfl) rfl hin_X9_word_RX9 20 (by decide) lk_X9_word_f58 (fun _ h9 => h9) rfl dX9_word_37 ?_
  refine lv_iconst (v := nI 3) C.x C.b dX9_word_40 (by decide) ?_
  refine k_lald C hX (hM.at 14 rfl) (vp_in_nI (by omega) (by omega)) dX9_word_41 ?_
  refine k_topl (y := b20 3) (by rw [nI_clamp (by omega)]) ?_
  refine lv_ladd C.x C.b dX9_word_42 ?_
  refine lv_lstore_n (lv' := [(2, .long ((b20 0) + (b20 3))), (0, .ref h), (1, .int (nI w))]) C.x C.b dX9_word_43 rfl hl (by decide) rfl (fun ls hl => ?_)
  refine lv_aload_n C.x C.b dX9_word_44 rfl (lv_at hl 1 rfl) ?_
  refine k_get (X := RX9) (T := TX9) (N := 28) (v := .ref (q 20)) C hX (hM.at 0 rfl) rfl hin_X9_word_RX9 20 (by decide) lk_X9_word_f58 (fun _ h9 => h9) rfl dX9_word_45 ?_
  refine lv_iconst (v := nI 1) C.x C.b dX9_word_48 (by decide) ?_
  refine k_lald C hX (hM.at 14 rfl) (vp_in_nI (by omega) (by omega)) dX9_word_49 ?_
  refine k_topl (y := b20 1) (by rw [nI_clamp (by omega)]) ?_
  refine lv_lconst (v := 0) C.x C.b dX9_word_50 (by decide) ?_
  have J87 : ∀ (ls : Array Slot), lv_has ls 6 [(2, .long ((b20 0) + (b20 3))), (0, .ref h), (1, .int (nI w))] → ∀ (H : Heap) (locs : List Loc), kX G B0 s g1 H locs → W p l e (rmX9_word) s m args below meth c H locs 0 0 Q (F0 m 87 ls [.int (kbI (b20 1 = 0 ∧ b20 2 = 0 ∧ b20 0 = b20 3))]) := by
    intro ls hl H locs hX
    refine lv_istore (lv' := [(4, .int (kbI (b20 1 = 0 ∧ b20 2 = 0 ∧ b20 0 = b20 3))), (2, .long ((b20 0) + (b20 3))), (0, .ref h), (1, .int (nI w))]) C.x C.b dX9_word_87 hl (by decide) rfl (fun ls hl => ?_)
    refine lv_iload C.x C.b dX9_word_89 (lv_at hl 0 rfl) ?_
    have J131 : ∀ (ls : Array Slot), lv_has ls 6 [(4, .int (kbI (b20 1 = 0 ∧ b20 2 = 0 ∧ b20 0 = b20 3))), (2, .long ((b20 0) + (b20 3))), (0, .ref h), (1, .int (nI w))] → ∀ (H : Heap) (locs : List Loc), kX G B0 s g1 H locs → W p l e (rmX9_word) s m args below meth c H locs 0 0 Q (F0 m 131 ls [.int (nI (mKind b20))]) := by
      intro ls hl H locs hX
      refine lv_istore (lv' := [(5, .int (nI (mKind b20))), (4, .int (kbI (b20 1 = 0 ∧ b20 2 = 0 ∧ b20 0 = b20 3))), (2, .long ((b20 0) + (b20 3))), (0, .ref h), (1, .int (nI w))]) C.x C.b dX9_word_131 hl (by decide) rfl (fun ls hl => ?_)
      refine lv_iload_n C.x C.b dX9_word_133 rfl (lv_at hl 4 rfl) ?_
      refine lv_iconst (v := nI 4) C.x C.b dX9_word_134 (by decide) ?_
      refine lv_icmp_ge (tgt := 148) C.x C.b dX9_word_135 (by decide) (fun c_135 => ?_) (fun c_135 => ?_)
      · skip
        have c_135 : 4 ≤ w := (nI_leI (by omega) (by omega)).mp c_135
        refine lv_iload C.x C.b dX9_word_148 (lv_at hl 0 rfl) ?_
        exact k_iret C hX hr hlocks hQ (by omega) (by omega) (⟨by first | rw [if_pos (by omega)] | rw [if_neg (by omega)], hM, hO⟩) dX9_word_150
      · skip
        have c_135 : ¬ (4 ≤ w) := fun h9 => c_135 ((nI_leI (by omega) (by omega)).mpr h9)
        refine lv_aload_n C.x C.b dX9_word_138 rfl (lv_at hl 3 rfl) ?_
        refine k_get (X := RX9) (T := TX9) (N := 28) (v := .ref (q 20)) C hX (hM.at 0 rfl) rfl hin_X9_word_RX9 20 (by decide) lk_X9_word_f58 (fun _ h9 => h9) rfl dX9_word_139 ?_
        refine lv_iload_n C.x C.b dX9_word_142 rfl (lv_at hl 4 rfl) ?_
        refine k_lald C hX (hM.at 14 rfl) (vp_in_nI (by omega) (by omega)) dX9_word_143 ?_
        refine k_topl (y := b20 w) (by rw [nI_clamp (by omega)]) ?_
        refine lv_l2i (v := (b20 w).toInt32) C.x C.b dX9_word_144 rfl ?_
        refine lv_goto (tgt := 150) C.x C.b dX9_word_145 (by decide) ?_
        exact k_iret C hX hr hlocks hQ (by omega) (by omega) (⟨by first | rw [if_pos (by omega)] | rw [if_neg (by omega)], hM, hO⟩) dX9_word_150
    refine lv_if_eq (tgt := 98) C.x C.b dX9_word_91 (by decide) (fun c_91 => ?_) (fun c_91 => ?_)
    · skip
      have c_91 := kbI_0 c_91
      refine lv_lload_n C.x C.b dX9_word_98 rfl (lv_at hl 1 rfl) ?_
      refine lv_ldc2 (v := -1) C.x C.b C.ow (C.ts _ lk_X9_word_c181) dX9_word_99 ?_
      refine lv_lconst (v := 1) C.x C.b dX9_word_102 (by decide) ?_
      refine k_calli (va_runS (As := [.long ((b20 0) + (b20 3)), .long (-1), .long 1]) (rest := []) C.1 (kX9_isIn l G B0 g1 (b20 0 + b20 3) (-1) 1) (va_cwS 3 C.ts gX9_word_X9_isIn rfl rfl rfl (hdX9_word_X9_isIn) ⟨Nat.le_of_ble_eq_true rfl, Nat.le_of_ble_eq_true rfl⟩) (k_preS C hX) rfl rfl hl.1 rfl (lv_room (Nat.le_of_ble_eq_true rfl)) dX9_word_103 ⟨Nat.le_of_ble_eq_true rfl, Nat.le_of_ble_eq_true rfl⟩) hX (fun r103 f103 H locs hp103 hX => ?_)
      obtain ⟨hr103, hf103⟩ := hp103
      rw [hf103] at hX
      refine k_topi (y := (kbI ((-1) ≤ b20 0 + b20 3 ∧ b20 0 + b20 3 ≤ 1))) hr103 ?_
      refine lv_if_eq (tgt := 113) C.x C.b dX9_word_106 (by decide) (fun c_106 => ?_) (fun c_106 => ?_)
      · skip
        have c_106 := kbI_0 c_106
        refine lv_lload_n C.x C.b dX9_word_113 rfl (lv_at hl 1 rfl) ?_
        refine lv_ldc2 (v := -2) C.x C.b C.ow (C.ts _ lk_X9_word_c205) dX9_word_114 ?_
        refine lv_ldc2 (v := 2) C.x C.b C.ow (C.ts _ lk_X9_word_c109) dX9_word_117 ?_
        refine k_calli (va_runS (As := [.long ((b20 0) + (b20 3)), .long (-2), .long 2]) (rest := []) C.1 (kX9_isIn l G B0 g1 (b20 0 + b20 3) (-2) 2) (va_cwS 3 C.ts gX9_word_X9_isIn rfl rfl rfl (hdX9_word_X9_isIn) ⟨Nat.le_of_ble_eq_true rfl, Nat.le_of_ble_eq_true rfl⟩) (k_preS C hX) rfl rfl hl.1 rfl (lv_room (Nat.le_of_ble_eq_true rfl)) dX9_word_120 ⟨Nat.le_of_ble_eq_true rfl, Nat.le_of_ble_eq_true rfl⟩) hX (fun r120 f120 H locs hp120 hX => ?_)
        obtain ⟨hr120, hf120⟩ := hp120
        rw [hf120] at hX
        refine k_topi (y := (kbI ((-2) ≤ b20 0 + b20 3 ∧ b20 0 + b20 3 ≤ 2))) hr120 ?_
        refine lv_if_eq (tgt := 130) C.x C.b dX9_word_123 (by decide) (fun c_123 => ?_) (fun c_123 => ?_)
        · skip
          have c_123 := kbI_0 c_123
          refine lv_iconst (v := nI 3) C.x C.b dX9_word_130 (by decide) ?_
          refine k_topi (y := (nI (mKind b20))) (congrArg nI (by simp only [mKind]; first | (rw [if_pos c_91]; done) | (rw [if_neg c_91, if_pos c_106]; done) | (rw [if_neg c_91, if_neg c_106, if_pos c_123]; done) | (rw [if_neg c_91, if_neg c_106, if_neg c_123]; done))) ?_
          exact J131 ls (lv_sub hl [0, 1, 2, 3] rfl) _ _ hX
        · skip
          have c_123 := kbI_1 c_123
          refine lv_iconst (v := nI 2) C.x C.b dX9_word_126 (by decide) ?_
          refine lv_goto (tgt := 131) C.x C.b dX9_word_127 (by decide) ?_
          refine k_topi (y := (nI (mKind b20))) (congrArg nI (by simp only [mKind]; first | (rw [if_pos c_91]; done) | (rw [if_neg c_91, if_pos c_106]; done) | (rw [if_neg c_91, if_neg c_106, if_pos c_123]; done) | (rw [if_neg c_91, if_neg c_106, if_neg c_123]; done))) ?_
          exact J131 ls (lv_sub hl [0, 1, 2, 3] rfl) _ _ hX
      · skip
        have c_106 := kbI_1 c_106
        refine lv_iconst (v := nI 1) C.x C.b dX9_word_109 (by decide) ?_
        refine lv_goto (tgt := 131) C.x C.b dX9_word_110 (by decide) ?_
        refine k_topi (y := (nI (mKind b20))) (congrArg nI (by simp only [mKind]; first | (rw [if_pos c_91]; done) | (rw [if_neg c_91, if_pos c_106]; done) | (rw [if_neg c_91, if_neg c_106, if_pos c_123]; done) | (rw [if_neg c_91, if_neg c_106, if_neg c_123]; done))) ?_
        exact J131 ls (lv_sub hl [0, 1, 2, 3] rfl) _ _ hX
    · skip
      have c_91 := kbI_1 c_91
      refine lv_iconst (v := nI 0) C.x C.b dX9_word_94 (by decide) ?_
      refine lv_goto (tgt := 131) C.x C.b dX9_word_95 (by decide) ?_
      refine k_topi (y := (nI (mKind b20))) (congrArg nI (by simp only [mKind]; first | (rw [if_pos c_91]; done) | (rw [if_neg c_91, if_pos c_106]; done) | (rw [if_neg c_91, if_neg c_106, if_pos c_123]; done) | (rw [if_neg c_91, if_neg c_106, if_neg c_123]; done))) ?_
      exact J131 ls (lv_sub hl [0, 1, 2, 3] rfl) _ _ hX
  refine k_lcmp_ne (tgt := 86) C.x C.b dX9_word_51 dX9_word_52 (by decide) (fun c_52 => ?_) (fun c_52 => ?_)
  · skip
    refine lv_iconst (v := nI 0) C.x C.b dX9_word_86 (by decide) ?_
    refine k_topi (y := (kbI (b20 1 = 0 ∧ b20 2 = 0 ∧ b20 0 = b20 3))) (by first | exact kbI_tN ⟨c_52, c_63, c_79⟩ | exact kbI_fN (fun z => c_52 z.1) | exact kbI_fN (fun z => c_63 z.2.1) | exact kbI_fN (fun z => c_79 z.2.2)) ?_
    exact J87 ls (lv_sub hl [0, 1, 2] rfl) _ _ hX
  · skip
    refine lv_aload_n C.x C.b dX9_word_55 rfl (lv_at hl 1 rfl) ?_
    refine k_get (X := RX9) (T := TX9) (N := 28) (v := .ref (q 20)) C hX (hM.at 0 rfl) rfl hin_X9_word_RX9 20 (by decide) lk_X9_word_f58 (fun _ h9 => h9) rfl dX9_word_56 ?_
    refine lv_iconst (v := nI 2) C.x C.b dX9_word_59 (by decide) ?_
    refine k_lald C hX (hM.at 14 rfl) (vp_in_nI (by omega) (by omega)) dX9_word_60 ?_
    refine k_topl (y := b20 2) (by rw [nI_clamp (by omega)]) ?_
    refine lv_lconst (v := 0) C.x C.b dX9_word_61 (by decide) ?_
    refine k_lcmp_ne (tgt := 86) C.x C.b dX9_word_62 dX9_word_63 (by decide) (fun c_63 => ?_) (fun c_63 => ?_)
    · skip
      refine lv_iconst (v := nI 0) C.x C.b dX9_word_86 (by decide) ?_
      refine k_topi (y := (kbI (b20 1 = 0 ∧ b20 2 = 0 ∧ b20 0 = b20 3))) (by first | exact kbI_tN ⟨c_52, c_63, c_79⟩ | exact kbI_fN (fun z => c_52 z.1) | exact kbI_fN (fun z => c_63 z.2.1) | exact kbI_fN (fun z => c_79 z.2.2)) ?_
      exact J87 ls (lv_sub hl [0, 1, 2] rfl) _ _ hX
    · skip
      refine lv_aload_n C.x C.b dX9_word_66 rfl (lv_at hl 1 rfl) ?_
      refine k_get (X := RX9) (T := TX9) (N := 28) (v := .ref (q 20)) C hX (hM.at 0 rfl) rfl hin_X9_word_RX9 20 (by decide) lk_X9_word_f58 (fun _ h9 => h9) rfl dX9_word_67 ?_
      refine lv_iconst (v := nI 0) C.x C.b dX9_word_70 (by decide) ?_
      refine k_lald C hX (hM.at 14 rfl) (vp_in_nI (by omega) (by omega)) dX9_word_71 ?_
      refine k_topl (y := b20 0) (by rw [nI_clamp (by omega)]) ?_
      refine lv_aload_n C.x C.b dX9_word_72 rfl (lv_at hl 1 rfl) ?_
      refine k_get (X := RX9) (T := TX9) (N := 28) (v := .ref (q 20)) C hX (hM.at 0 rfl) rfl hin_X9_word_RX9 20 (by decide) lk_X9_word_f58 (fun _ h9 => h9) rfl dX9_word_73 ?_
      refine lv_iconst (v := nI 3) C.x C.b dX9_word_76 (by decide) ?_
      refine k_lald C hX (hM.at 14 rfl) (vp_in_nI (by omega) (by omega)) dX9_word_77 ?_
      refine k_topl (y := b20 3) (by rw [nI_clamp (by omega)]) ?_
      refine k_lcmp_ne (tgt := 86) C.x C.b dX9_word_78 dX9_word_79 (by decide) (fun c_79 => ?_) (fun c_79 => ?_)
      · skip
        refine lv_iconst (v := nI 0) C.x C.b dX9_word_86 (by decide) ?_
        refine k_topi (y := (kbI (b20 1 = 0 ∧ b20 2 = 0 ∧ b20 0 = b20 3))) (by first | exact kbI_tN ⟨c_52, c_63, c_79⟩ | exact kbI_fN (fun z => c_52 z.1) | exact kbI_fN (fun z => c_63 z.2.1) | exact kbI_fN (fun z => c_79 z.2.2)) ?_
        exact J87 ls (lv_sub hl [0, 1, 2] rfl) _ _ hX
      · skip
        refine lv_iconst (v := nI 1) C.x C.b dX9_word_82 (by decide) ?_
        refine lv_goto (tgt := 87) C.x C.b dX9_word_83 (by decide) ?_
        refine k_topi (y := (kbI (b20 1 = 0 ∧ b20 2 = 0 ∧ b20 0 = b20 3))) (by first | exact kbI_tN ⟨c_52, c_63, c_79⟩ | exact kbI_fN (fun z => c_52 z.1) | exact kbI_fN (fun z => c_63 z.2.1) | exact kbI_fN (fun z => c_79 z.2.2)) ?_
        exact J87 ls (lv_sub hl [0, 1, 2] rfl) _ _ hX

theorem hdX9_image_X9_isFraction : yX9_isFraction.cls ≠ "java/lang/invoke/MethodHandle" ∧ yX9_isFraction.cls ≠ "java/lang/invoke/VarHandle" ∧ (parseMethodDescriptor yX9_isFraction.desc).map (fun d => d.parameters.length) = some 3 := by decide +kernel
theorem lk_X9_image_f80 : Cond.fieldLink RX9 80 "KoebehallModel" "thrown" "I" ∈ wsX9_image := by decide +kernel
theorem hin_X9_image_RX9 : ∀ w ∈ u_ws RX9 TX9 28, w ∈ wsX9_image := by decide +kernel
abbrev rmX9_image_b1 : Room := { frames := 2, cells := 0, slots := 0, locals := 51 }
set_option maxHeartbeats 4000000 in
set_option maxRecDepth 100000 in
/-- X9_image_b1 -/
theorem kX9_image_b1 (l : Launch) (G : kG) (B0 : Nat) (f : kH) (h : Nat) (q : Nat → Nat) (i0 i1 i3 i7 i18 i22 i23 i27 : Int32) (j16 j17 : Int64) (a2 : Nat → Int32) (a4 : Nat → Int32) (a5 : Nat → Int32) (a6 : Nat → Int32) (b8 : Nat → Int64) (b9 : Nat → Int64) (b10 : Nat → Int64) (a11 : Nat → Int32) (a12 : Nat → Int32) (a13 : Nat → Int32) (a14 : Nat → Int32) (b15 : Nat → Int64) (b19 : Nat → Int64) (b20 : Nat → Int64) (b21 : Nat → Int64) (a24 : Nat → Int32) (a25 : Nat → Int32) (a26 : Nat → Int32) (a b : Int32) (hM : kCs f (mC G h q i0 i1 i3 i7 i18 i22 i23 i27 j16 j17 a2 a4 a5 a6 b8 b9 b10 a11 a12 a13 a14 b15 b19 b20 b21 a24 a25 a26)) (z9 : Int32) (hv : ¬ mIm a b) : Met l yX9_image wsX9_image (rmX9_image_b1) (kP G B0 f [.ref h, .int a, .int b, .int z9]) (kQl G B0 (fun r f1 => r = 0 ∧ kCs f1 (mC G h q i0 i1 i3 i7 i18 i22 i23 (nI 1) j16 j17 a2 a4 a5 a6 b8 b9 b10 a11 a12 a13 a14 b15 b19 b20 b21 a24 a25 a26) ∧ kOff (mAs h q) f f1)) 0 0 (kAb B0) := by
  refine kMet (cc := cX9_image) (maxL := 9) (ret := (some .long)) (by decide) rfl (Nat.le_of_ble_eq_true rfl) ?_
  intro p e s m args below meth c H locs Q ls C hX hl hr hlocks hnm hQ
  have hO : kOff (mAs h q) f f := kOff.rf
  have hl : lv_has ls 9 [(0, .ref h), (1, .int a), (2, .int b), (3, .int z9)] := hl
  refine lv_aload_n C.x C.b dX9_image_0 rfl (lv_at hl 0 rfl) ?_
  refine lv_iload_n C.x C.b dX9_image_1 rfl (lv_at hl 1 rfl) ?_
  refine lv_iload_n C.x C.b dX9_image_2 rfl (lv_at hl 2 rfl) ?_
  refine lv_iconst (v := nI 0) C.x C.b dX9_image_3 (by decide) ?_
  refine k_calli (va_runS (As := [.int a, .int b, .int (nI 0)]) (rest := [.ref h]) C.1 (kX9_isFraction l G B0 f a b 0 (by omega)) (va_cwS 3 C.ts gX9_image_X9_isFraction rfl rfl rfl (hdX9_image_X9_isFraction) ⟨Nat.le_of_ble_eq_true rfl, Nat.le_of_ble_eq_true rfl⟩) (k_preS C hX) rfl rfl hl.1 rfl (lv_room (Nat.le_of_ble_eq_true rfl)) dX9_image_4 ⟨Nat.le_of_ble_eq_true rfl, Nat.le_of_ble_eq_true rfl⟩) hX (fun r4 f4 H locs hp4 hX => ?_)
  obtain ⟨hr4, hf4⟩ := hp4
  rw [hf4] at hX
  refine k_topi (y := (kbI (mFr a b (0 : Nat)))) hr4 ?_
  refine lv_if_eq (tgt := 23) C.x C.b dX9_image_7 (by decide) (fun c_7 => ?_) (fun c_7 => ?_)
  · skip
    have c_7 := kbI_0 c_7
    refine lv_iconst (v := nI 1) C.x C.b dX9_image_23 (by decide) ?_
    refine k_put (X := RX9) (T := TX9) (N := 28) (ty := .int) (v := .int (nI 1)) C hX (hM.at 0 rfl) rfl hin_X9_image_RX9 tyX9_ok nmX9 27 (by decide) lk_X9_image_f80 (fun _ h9 => h9) rfl (by decide +kernel) rfl rfl (Nat.le_of_ble_eq_true rfl) dX9_image_24 (fun H locs hX => ?_)
    obtain ⟨g1, hX, hM, hO⟩ := kX.wr hX hM hO 0 rfl (List.mem_of_getElem? (i := 0) rfl)
    have hM : kCs g1 (mC G h q i0 i1 i3 i7 i18 i22 i23 (nI 1) j16 j17 a2 a4 a5 a6 b8 b9 b10 a11 a12 a13 a14 b15 b19 b20 b21 a24 a25 a26) := hM
    refine lv_aload_n C.x C.b dX9_image_27 rfl (lv_at hl 0 rfl) ?_
    refine k_get (X := RX9) (T := TX9) (N := 28) (v := .int (nI 1)) C hX (hM.at 0 rfl) rfl hin_X9_image_RX9 27 (by decide) lk_X9_image_f80 (fun _ h9 => h9) rfl dX9_image_28 ?_
    refine lv_if_le (tgt := 36) C.x C.b dX9_image_31 (by decide) (fun c_31 => ?_) (fun c_31 => ?_)
    · exact absurd c_31 (by decide)
    refine lv_lconst (v := 0) C.x C.b dX9_image_34 (by decide) ?_
    exact k_lret C hX hr hlocks hQ (by omega) (by omega) (⟨rfl, hM, hO⟩) dX9_image_35
  · skip
    have c_7 := kbI_1 c_7
    refine lv_iload_n C.x C.b dX9_image_10 rfl (lv_at hl 2 rfl) ?_
    refine lv_if_gt (tgt := 19) C.x C.b dX9_image_11 (by decide) (fun c_11 => ?_) (fun c_11 => ?_)
    · skip
      exact absurd ⟨c_7, Or.inl c_11⟩ hv
    · skip
      refine lv_iload_n C.x C.b dX9_image_14 rfl (lv_at hl 1 rfl) ?_
      refine lv_iconst (v := nI 1) C.x C.b dX9_image_15 (by decide) ?_
      refine lv_icmp_ne (tgt := 23) C.x C.b dX9_image_16 (by decide) (fun c_16 => ?_) (fun c_16 => ?_)
      · skip
        refine lv_iconst (v := nI 1) C.x C.b dX9_image_23 (by decide) ?_
        refine k_put (X := RX9) (T := TX9) (N := 28) (ty := .int) (v := .int (nI 1)) C hX (hM.at 0 rfl) rfl hin_X9_image_RX9 tyX9_ok nmX9 27 (by decide) lk_X9_image_f80 (fun _ h9 => h9) rfl (by decide +kernel) rfl rfl (Nat.le_of_ble_eq_true rfl) dX9_image_24 (fun H locs hX => ?_)
        obtain ⟨g2, hX, hM, hO⟩ := kX.wr hX hM hO 0 rfl (List.mem_of_getElem? (i := 0) rfl)
        have hM : kCs g2 (mC G h q i0 i1 i3 i7 i18 i22 i23 (nI 1) j16 j17 a2 a4 a5 a6 b8 b9 b10 a11 a12 a13 a14 b15 b19 b20 b21 a24 a25 a26) := hM
        refine lv_aload_n C.x C.b dX9_image_27 rfl (lv_at hl 0 rfl) ?_
        refine k_get (X := RX9) (T := TX9) (N := 28) (v := .int (nI 1)) C hX (hM.at 0 rfl) rfl hin_X9_image_RX9 27 (by decide) lk_X9_image_f80 (fun _ h9 => h9) rfl dX9_image_28 ?_
        refine lv_if_le (tgt := 36) C.x C.b dX9_image_31 (by decide) (fun c_31 => ?_) (fun c_31 => ?_)
        · exact absurd c_31 (by decide)
        refine lv_lconst (v := 0) C.x C.b dX9_image_34 (by decide) ?_
        exact k_lret C hX hr hlocks hQ (by omega) (by omega) (⟨rfl, hM, hO⟩) dX9_image_35
      · skip
        exact absurd ⟨c_7, Or.inr c_16⟩ hv

theorem lk_X9_image_f58 : Cond.fieldLink RX9 58 "KoebehallModel" "word" "[J" ∈ wsX9_image := by decide +kernel
abbrev rmX9_image_t : Room := { frames := 2, cells := 0, slots := 0, locals := 51 }
set_option maxHeartbeats 4000000 in
set_option maxRecDepth 100000 in
/-- X9_image_t -/
theorem kX9_image_t (l : Launch) (G : kG) (B0 : Nat) (f : kH) (h : Nat) (q : Nat → Nat) (i0 i1 i3 i7 i18 i22 i23 i27 : Int32) (j16 j17 : Int64) (a2 : Nat → Int32) (a4 : Nat → Int32) (a5 : Nat → Int32) (a6 : Nat → Int32) (b8 : Nat → Int64) (b9 : Nat → Int64) (b10 : Nat → Int64) (a11 : Nat → Int32) (a12 : Nat → Int32) (a13 : Nat → Int32) (a14 : Nat → Int32) (b15 : Nat → Int64) (b19 : Nat → Int64) (b20 : Nat → Int64) (b21 : Nat → Int64) (a24 : Nat → Int32) (a25 : Nat → Int32) (a26 : Nat → Int32) (a b : Int32) (hM : kCs f (mC G h q i0 i1 i3 i7 i18 i22 i23 i27 j16 j17 a2 a4 a5 a6 b8 b9 b10 a11 a12 a13 a14 b15 b19 b20 b21 a24 a25 a26)) (hv : mIm a b) : Met l yX9_image wsX9_image (rmX9_image_t) (kP G B0 f [.ref h, .int a, .int b, .int (nI 1)]) (kQl G B0 (fun r f1 => r = (if mTurn b20 a b then -mTop b20 a b else mTop b20 a b) ∧ kCs f1 (mC G h q i0 i1 i3 i7 i18 i22 i23 (nI 0) j16 j17 a2 a4 a5 a6 b8 b9 b10 a11 a12 a13 a14 b15 b19 b20 b21 a24 a25 a26) ∧ kOff (mAs h q) f f1)) 0 0 (kAb B0) := by
  refine kMet (cc := cX9_image) (maxL := 9) (ret := (some .long)) (by decide) rfl (Nat.le_of_ble_eq_true rfl) ?_
  intro p e s m args below meth c H locs Q ls C hX hl hr hlocks hnm hQ
  have hO : kOff (mAs h q) f f := kOff.rf
  have hl : lv_has ls 9 [(0, .ref h), (1, .int a), (2, .int b), (3, .int (nI 1))] := hl
  refine lv_aload_n C.x C.b dX9_image_0 rfl (lv_at hl 0 rfl) ?_
  refine lv_iload_n C.x C.b dX9_image_1 rfl (lv_at hl 1 rfl) ?_
  refine lv_iload_n C.x C.b dX9_image_2 rfl (lv_at hl 2 rfl) ?_
  refine lv_iconst (v := nI 0) C.x C.b dX9_image_3 (by decide) ?_
  refine k_calli (va_runS (As := [.int a, .int b, .int (nI 0)]) (rest := [.ref h]) C.1 (kX9_isFraction l G B0 f a b 0 (by omega)) (va_cwS 3 C.ts gX9_image_X9_isFraction rfl rfl rfl (hdX9_image_X9_isFraction) ⟨Nat.le_of_ble_eq_true rfl, Nat.le_of_ble_eq_true rfl⟩) (k_preS C hX) rfl rfl hl.1 rfl (lv_room (Nat.le_of_ble_eq_true rfl)) dX9_image_4 ⟨Nat.le_of_ble_eq_true rfl, Nat.le_of_ble_eq_true rfl⟩) hX (fun r4 f4 H locs hp4 hX => ?_)
  obtain ⟨hr4, hf4⟩ := hp4
  rw [hf4] at hX
  refine k_topi (y := (kbI (mFr a b (0 : Nat)))) hr4 ?_
  refine lv_if_eq (tgt := 23) C.x C.b dX9_image_7 (by decide) (fun c_7 => ?_) (fun c_7 => ?_)
  · exact absurd (hv.1) (kbI_0 c_7)
  have J19 : ∀ (ls : Array Slot), lv_has ls 9 [(0, .ref h), (1, .int a), (2, .int b), (3, .int (nI 1))] → ∀ (H : Heap) (locs : List Loc), kX G B0 s f H locs → W p l e (rmX9_image_t) s m args below meth c H locs 0 0 Q (F0 m 19 ls [.ref h]) := by
    intro ls hl H locs hX
    refine lv_iconst (v := nI 0) C.x C.b dX9_image_19 (by decide) ?_
    refine lv_goto (tgt := 24) C.x C.b dX9_image_20 (by decide) ?_
    refine k_put (X := RX9) (T := TX9) (N := 28) (ty := .int) (v := .int (nI 0)) C hX (hM.at 0 rfl) rfl hin_X9_image_RX9 tyX9_ok nmX9 27 (by decide) lk_X9_image_f80 (fun _ h9 => h9) rfl (by decide +kernel) rfl rfl (Nat.le_of_ble_eq_true rfl) dX9_image_24 (fun H locs hX => ?_)
    obtain ⟨g1, hX, hM, hO⟩ := kX.wr hX hM hO 0 rfl (List.mem_of_getElem? (i := 0) rfl)
    have hM : kCs g1 (mC G h q i0 i1 i3 i7 i18 i22 i23 (nI 0) j16 j17 a2 a4 a5 a6 b8 b9 b10 a11 a12 a13 a14 b15 b19 b20 b21 a24 a25 a26) := hM
    refine lv_aload_n C.x C.b dX9_image_27 rfl (lv_at hl 0 rfl) ?_
    refine k_get (X := RX9) (T := TX9) (N := 28) (v := .int (nI 0)) C hX (hM.at 0 rfl) rfl hin_X9_image_RX9 27 (by decide) lk_X9_image_f80 (fun _ h9 => h9) rfl dX9_image_28 ?_
    refine lv_if_le (tgt := 36) C.x C.b dX9_image_31 (by decide) (fun c_31 => ?_) (fun c_31 => ?_)
    rotate_left
    · exact absurd c_31 (by decide)
    refine lv_aload_n C.x C.b dX9_image_36 rfl (lv_at hl 0 rfl) ?_
    refine k_get (X := RX9) (T := TX9) (N := 28) (v := .ref (q 20)) C hX (hM.at 0 rfl) rfl hin_X9_image_RX9 20 (by decide) lk_X9_image_f58 (fun _ h9 => h9) rfl dX9_image_37 ?_
    refine lv_iconst (v := nI 0) C.x C.b dX9_image_40 (by decide) ?_
    refine k_lald C hX (hM.at 14 rfl) (vp_in_nI (by omega) (by omega)) dX9_image_41 ?_
    refine k_topl (y := b20 0) (by rw [nI_clamp (by omega)]) ?_
    refine lv_iload_n C.x C.b dX9_image_42 rfl (lv_at hl 1 rfl) ?_
    refine lv_i2l (v := a.toInt64) C.x C.b dX9_image_43 rfl ?_
    refine lv_lmul C.x C.b dX9_image_44 ?_
    refine lv_aload_n C.x C.b dX9_image_45 rfl (lv_at hl 0 rfl) ?_
    refine k_get (X := RX9) (T := TX9) (N := 28) (v := .ref (q 20)) C hX (hM.at 0 rfl) rfl hin_X9_image_RX9 20 (by decide) lk_X9_image_f58 (fun _ h9 => h9) rfl dX9_image_46 ?_
    refine lv_iconst (v := nI 1) C.x C.b dX9_image_49 (by decide) ?_
    refine k_lald C hX (hM.at 14 rfl) (vp_in_nI (by omega) (by omega)) dX9_image_50 ?_
    refine k_topl (y := b20 1) (by rw [nI_clamp (by omega)]) ?_
    refine lv_iload_n C.x C.b dX9_image_51 rfl (lv_at hl 2 rfl) ?_
    refine lv_i2l (v := b.toInt64) C.x C.b dX9_image_52 rfl ?_
    refine lv_lmul C.x C.b dX9_image_53 ?_
    refine lv_ladd C.x C.b dX9_image_54 ?_
    refine lv_lstore (lv' := [(4, .long (((b20 0) * a.toInt64) + ((b20 1) * b.toInt64))), (0, .ref h), (1, .int a), (2, .int b), (3, .int (nI 1))]) C.x C.b dX9_image_55 hl (by decide) rfl (fun ls hl => ?_)
    refine lv_aload_n C.x C.b dX9_image_57 rfl (lv_at hl 1 rfl) ?_
    refine k_get (X := RX9) (T := TX9) (N := 28) (v := .ref (q 20)) C hX (hM.at 0 rfl) rfl hin_X9_image_RX9 20 (by decide) lk_X9_image_f58 (fun _ h9 => h9) rfl dX9_image_58 ?_
    refine lv_iconst (v := nI 2) C.x C.b dX9_image_61 (by decide) ?_
    refine k_lald C hX (hM.at 14 rfl) (vp_in_nI (by omega) (by omega)) dX9_image_62 ?_
    refine k_topl (y := b20 2) (by rw [nI_clamp (by omega)]) ?_
    refine lv_iload_n C.x C.b dX9_image_63 rfl (lv_at hl 2 rfl) ?_
    refine lv_i2l (v := a.toInt64) C.x C.b dX9_image_64 rfl ?_
    refine lv_lmul C.x C.b dX9_image_65 ?_
    refine lv_aload_n C.x C.b dX9_image_66 rfl (lv_at hl 1 rfl) ?_
    refine k_get (X := RX9) (T := TX9) (N := 28) (v := .ref (q 20)) C hX (hM.at 0 rfl) rfl hin_X9_image_RX9 20 (by decide) lk_X9_image_f58 (fun _ h9 => h9) rfl dX9_image_67 ?_
    refine lv_iconst (v := nI 3) C.x C.b dX9_image_70 (by decide) ?_
    refine k_lald C hX (hM.at 14 rfl) (vp_in_nI (by omega) (by omega)) dX9_image_71 ?_
    refine k_topl (y := b20 3) (by rw [nI_clamp (by omega)]) ?_
    refine lv_iload_n C.x C.b dX9_image_72 rfl (lv_at hl 3 rfl) ?_
    refine lv_i2l (v := b.toInt64) C.x C.b dX9_image_73 rfl ?_
    refine lv_lmul C.x C.b dX9_image_74 ?_
    refine lv_ladd C.x C.b dX9_image_75 ?_
    refine lv_lstore (lv' := [(6, .long (((b20 2) * a.toInt64) + ((b20 3) * b.toInt64))), (4, .long (((b20 0) * a.toInt64) + ((b20 1) * b.toInt64))), (0, .ref h), (1, .int a), (2, .int b), (3, .int (nI 1))]) C.x C.b dX9_image_76 hl (by decide) rfl (fun ls hl => ?_)
    refine lv_lload C.x C.b dX9_image_78 (lv_at hl 0 rfl) ?_
    refine lv_lconst (v := 0) C.x C.b dX9_image_80 (by decide) ?_
    have J104 : ∀ (ls : Array Slot), lv_has ls 9 [(6, .long (((b20 2) * a.toInt64) + ((b20 3) * b.toInt64))), (4, .long (((b20 0) * a.toInt64) + ((b20 1) * b.toInt64))), (0, .ref h), (1, .int a), (2, .int b), (3, .int (nI 1))] → ∀ (H : Heap) (locs : List Loc), kX G B0 s g1 H locs → W p l e (rmX9_image_t) s m args below meth c H locs 0 0 Q (F0 m 104 ls [.int (kbI (mTurn b20 a b))]) := by
      intro ls hl H locs hX
      refine lv_istore (lv' := [(8, .int (kbI (mTurn b20 a b))), (6, .long (((b20 2) * a.toInt64) + ((b20 3) * b.toInt64))), (4, .long (((b20 0) * a.toInt64) + ((b20 1) * b.toInt64))), (0, .ref h), (1, .int a), (2, .int b), (3, .int (nI 1))]) C.x C.b dX9_image_104 hl (by decide) rfl (fun ls hl => ?_)
      refine lv_iload_n C.x C.b dX9_image_106 rfl (lv_at hl 6 rfl) ?_
      refine lv_if_eq (tgt := 126) C.x C.b dX9_image_107 (by decide) (fun c_107 => ?_) (fun c_107 => ?_)
      · exact absurd c_107 (by decide)
      refine lv_iload C.x C.b dX9_image_110 (lv_at hl 0 rfl) ?_
      refine lv_if_eq (tgt := 121) C.x C.b dX9_image_112 (by decide) (fun c_112 => ?_) (fun c_112 => ?_)
      · skip
        have c_112 := kbI_0 c_112
        refine lv_lload C.x C.b dX9_image_121 (lv_at hl 2 rfl) ?_
        refine lv_goto (tgt := 139) C.x C.b dX9_image_123 (by decide) ?_
        exact k_lret C hX hr hlocks hQ (by omega) (by omega) (⟨by first | rw [if_pos c_112] | rw [if_neg c_112], hM, hO⟩) dX9_image_139
      · skip
        have c_112 := kbI_1 c_112
        refine lv_lload C.x C.b dX9_image_115 (lv_at hl 2 rfl) ?_
        refine lv_lneg C.x C.b dX9_image_117 ?_
        refine lv_goto (tgt := 139) C.x C.b dX9_image_118 (by decide) ?_
        exact k_lret C hX hr hlocks hQ (by omega) (by omega) (⟨by first | rw [if_pos c_112] | rw [if_neg c_112], hM, hO⟩) dX9_image_139
    refine k_lcmp_lt (tgt := 99) C.x C.b dX9_image_81 dX9_image_82 (by decide) (fun c_82 => ?_) (fun c_82 => ?_)
    · skip
      refine lv_iconst (v := nI 1) C.x C.b dX9_image_99 (by decide) ?_
      refine lv_goto (tgt := 104) C.x C.b dX9_image_100 (by decide) ?_
      refine k_topi (y := (kbI (mTurn b20 a b))) (by first | exact kbI_tN (Or.inl c_82) | exact kbI_tN (Or.inr ⟨c_89, c_96⟩) | exact kbI_fN (fun z => by rcases z with y | y; exact c_82 y; exact c_89 y.1) | exact kbI_fN (fun z => by rcases z with y | y; exact c_82 y; exact c_96 y.2)) ?_
      exact J104 ls (lv_sub hl [0, 1, 2, 3, 4, 5] rfl) _ _ hX
    · skip
      refine lv_lload C.x C.b dX9_image_85 (lv_at hl 0 rfl) ?_
      refine lv_lconst (v := 0) C.x C.b dX9_image_87 (by decide) ?_
      refine k_lcmp_ne (tgt := 103) C.x C.b dX9_image_88 dX9_image_89 (by decide) (fun c_89 => ?_) (fun c_89 => ?_)
      · skip
        refine lv_iconst (v := nI 0) C.x C.b dX9_image_103 (by decide) ?_
        refine k_topi (y := (kbI (mTurn b20 a b))) (by first | exact kbI_tN (Or.inl c_82) | exact kbI_tN (Or.inr ⟨c_89, c_96⟩) | exact kbI_fN (fun z => by rcases z with y | y; exact c_82 y; exact c_89 y.1) | exact kbI_fN (fun z => by rcases z with y | y; exact c_82 y; exact c_96 y.2)) ?_
        exact J104 ls (lv_sub hl [0, 1, 2, 3, 4, 5] rfl) _ _ hX
      · skip
        refine lv_lload C.x C.b dX9_image_92 (lv_at hl 1 rfl) ?_
        refine lv_lconst (v := 0) C.x C.b dX9_image_94 (by decide) ?_
        refine k_lcmp_ge (tgt := 103) C.x C.b dX9_image_95 dX9_image_96 (by decide) (fun c_96 => ?_) (fun c_96 => ?_)
        · skip
          refine lv_iconst (v := nI 0) C.x C.b dX9_image_103 (by decide) ?_
          refine k_topi (y := (kbI (mTurn b20 a b))) (by first | exact kbI_tN (Or.inl c_82) | exact kbI_tN (Or.inr ⟨c_89, c_96⟩) | exact kbI_fN (fun z => by rcases z with y | y; exact c_82 y; exact c_89 y.1) | exact kbI_fN (fun z => by rcases z with y | y; exact c_82 y; exact c_96 y.2)) ?_
          exact J104 ls (lv_sub hl [0, 1, 2, 3, 4, 5] rfl) _ _ hX
        · skip
          refine lv_iconst (v := nI 1) C.x C.b dX9_image_99 (by decide) ?_
          refine lv_goto (tgt := 104) C.x C.b dX9_image_100 (by decide) ?_
          refine k_topi (y := (kbI (mTurn b20 a b))) (by first | exact kbI_tN (Or.inl c_82) | exact kbI_tN (Or.inr ⟨c_89, c_96⟩) | exact kbI_fN (fun z => by rcases z with y | y; exact c_82 y; exact c_89 y.1) | exact kbI_fN (fun z => by rcases z with y | y; exact c_82 y; exact c_96 y.2)) ?_
          exact J104 ls (lv_sub hl [0, 1, 2, 3, 4, 5] rfl) _ _ hX
  refine lv_iload_n C.x C.b dX9_image_10 rfl (lv_at hl 2 rfl) ?_
  refine lv_if_gt (tgt := 19) C.x C.b dX9_image_11 (by decide) (fun c_11 => ?_) (fun c_11 => ?_)
  · skip
    exact J19 ls (lv_sub hl [0, 1, 2, 3] rfl) _ _ hX
  · skip
    refine lv_iload_n C.x C.b dX9_image_14 rfl (lv_at hl 1 rfl) ?_
    refine lv_iconst (v := nI 1) C.x C.b dX9_image_15 (by decide) ?_
    refine lv_icmp_ne (tgt := 23) C.x C.b dX9_image_16 (by decide) (fun c_16 => ?_) (fun c_16 => ?_)
    · skip
      exact hv.2.elim (fun z => absurd z c_11) (fun z => absurd z c_16)
    · skip
      exact J19 ls (lv_sub hl [0, 1, 2, 3] rfl) _ _ hX

abbrev rmX9_image_b : Room := { frames := 2, cells := 0, slots := 0, locals := 51 }
set_option maxHeartbeats 4000000 in
set_option maxRecDepth 100000 in
/-- X9_image_b -/
theorem kX9_image_b (l : Launch) (G : kG) (B0 : Nat) (f : kH) (h : Nat) (q : Nat → Nat) (i0 i1 i3 i7 i18 i22 i23 i27 : Int32) (j16 j17 : Int64) (a2 : Nat → Int32) (a4 : Nat → Int32) (a5 : Nat → Int32) (a6 : Nat → Int32) (b8 : Nat → Int64) (b9 : Nat → Int64) (b10 : Nat → Int64) (a11 : Nat → Int32) (a12 : Nat → Int32) (a13 : Nat → Int32) (a14 : Nat → Int32) (b15 : Nat → Int64) (b19 : Nat → Int64) (b20 : Nat → Int64) (b21 : Nat → Int64) (a24 : Nat → Int32) (a25 : Nat → Int32) (a26 : Nat → Int32) (a b : Int32) (hM : kCs f (mC G h q i0 i1 i3 i7 i18 i22 i23 i27 j16 j17 a2 a4 a5 a6 b8 b9 b10 a11 a12 a13 a14 b15 b19 b20 b21 a24 a25 a26)) (hv : mIm a b) : Met l yX9_image wsX9_image (rmX9_image_b) (kP G B0 f [.ref h, .int a, .int b, .int (nI 0)]) (kQl G B0 (fun r f1 => r = (if mTurn b20 a b then -mBot b20 a b else mBot b20 a b) ∧ kCs f1 (mC G h q i0 i1 i3 i7 i18 i22 i23 (nI 0) j16 j17 a2 a4 a5 a6 b8 b9 b10 a11 a12 a13 a14 b15 b19 b20 b21 a24 a25 a26) ∧ kOff (mAs h q) f f1)) 0 0 (kAb B0) := by
  refine kMet (cc := cX9_image) (maxL := 9) (ret := (some .long)) (by decide) rfl (Nat.le_of_ble_eq_true rfl) ?_
  intro p e s m args below meth c H locs Q ls C hX hl hr hlocks hnm hQ
  have hO : kOff (mAs h q) f f := kOff.rf
  have hl : lv_has ls 9 [(0, .ref h), (1, .int a), (2, .int b), (3, .int (nI 0))] := hl
  refine lv_aload_n C.x C.b dX9_image_0 rfl (lv_at hl 0 rfl) ?_
  refine lv_iload_n C.x C.b dX9_image_1 rfl (lv_at hl 1 rfl) ?_
  refine lv_iload_n C.x C.b dX9_image_2 rfl (lv_at hl 2 rfl) ?_
  refine lv_iconst (v := nI 0) C.x C.b dX9_image_3 (by decide) ?_
  refine k_calli (va_runS (As := [.int a, .int b, .int (nI 0)]) (rest := [.ref h]) C.1 (kX9_isFraction l G B0 f a b 0 (by omega)) (va_cwS 3 C.ts gX9_image_X9_isFraction rfl rfl rfl (hdX9_image_X9_isFraction) ⟨Nat.le_of_ble_eq_true rfl, Nat.le_of_ble_eq_true rfl⟩) (k_preS C hX) rfl rfl hl.1 rfl (lv_room (Nat.le_of_ble_eq_true rfl)) dX9_image_4 ⟨Nat.le_of_ble_eq_true rfl, Nat.le_of_ble_eq_true rfl⟩) hX (fun r4 f4 H locs hp4 hX => ?_)
  obtain ⟨hr4, hf4⟩ := hp4
  rw [hf4] at hX
  refine k_topi (y := (kbI (mFr a b (0 : Nat)))) hr4 ?_
  refine lv_if_eq (tgt := 23) C.x C.b dX9_image_7 (by decide) (fun c_7 => ?_) (fun c_7 => ?_)
  · exact absurd (hv.1) (kbI_0 c_7)
  have J19 : ∀ (ls : Array Slot), lv_has ls 9 [(0, .ref h), (1, .int a), (2, .int b), (3, .int (nI 0))] → ∀ (H : Heap) (locs : List Loc), kX G B0 s f H locs → W p l e (rmX9_image_b) s m args below meth c H locs 0 0 Q (F0 m 19 ls [.ref h]) := by
    intro ls hl H locs hX
    refine lv_iconst (v := nI 0) C.x C.b dX9_image_19 (by decide) ?_
    refine lv_goto (tgt := 24) C.x C.b dX9_image_20 (by decide) ?_
    refine k_put (X := RX9) (T := TX9) (N := 28) (ty := .int) (v := .int (nI 0)) C hX (hM.at 0 rfl) rfl hin_X9_image_RX9 tyX9_ok nmX9 27 (by decide) lk_X9_image_f80 (fun _ h9 => h9) rfl (by decide +kernel) rfl rfl (Nat.le_of_ble_eq_true rfl) dX9_image_24 (fun H locs hX => ?_)
    obtain ⟨g1, hX, hM, hO⟩ := kX.wr hX hM hO 0 rfl (List.mem_of_getElem? (i := 0) rfl)
    have hM : kCs g1 (mC G h q i0 i1 i3 i7 i18 i22 i23 (nI 0) j16 j17 a2 a4 a5 a6 b8 b9 b10 a11 a12 a13 a14 b15 b19 b20 b21 a24 a25 a26) := hM
    refine lv_aload_n C.x C.b dX9_image_27 rfl (lv_at hl 0 rfl) ?_
    refine k_get (X := RX9) (T := TX9) (N := 28) (v := .int (nI 0)) C hX (hM.at 0 rfl) rfl hin_X9_image_RX9 27 (by decide) lk_X9_image_f80 (fun _ h9 => h9) rfl dX9_image_28 ?_
    refine lv_if_le (tgt := 36) C.x C.b dX9_image_31 (by decide) (fun c_31 => ?_) (fun c_31 => ?_)
    rotate_left
    · exact absurd c_31 (by decide)
    refine lv_aload_n C.x C.b dX9_image_36 rfl (lv_at hl 0 rfl) ?_
    refine k_get (X := RX9) (T := TX9) (N := 28) (v := .ref (q 20)) C hX (hM.at 0 rfl) rfl hin_X9_image_RX9 20 (by decide) lk_X9_image_f58 (fun _ h9 => h9) rfl dX9_image_37 ?_
    refine lv_iconst (v := nI 0) C.x C.b dX9_image_40 (by decide) ?_
    refine k_lald C hX (hM.at 14 rfl) (vp_in_nI (by omega) (by omega)) dX9_image_41 ?_
    refine k_topl (y := b20 0) (by rw [nI_clamp (by omega)]) ?_
    refine lv_iload_n C.x C.b dX9_image_42 rfl (lv_at hl 1 rfl) ?_
    refine lv_i2l (v := a.toInt64) C.x C.b dX9_image_43 rfl ?_
    refine lv_lmul C.x C.b dX9_image_44 ?_
    refine lv_aload_n C.x C.b dX9_image_45 rfl (lv_at hl 0 rfl) ?_
    refine k_get (X := RX9) (T := TX9) (N := 28) (v := .ref (q 20)) C hX (hM.at 0 rfl) rfl hin_X9_image_RX9 20 (by decide) lk_X9_image_f58 (fun _ h9 => h9) rfl dX9_image_46 ?_
    refine lv_iconst (v := nI 1) C.x C.b dX9_image_49 (by decide) ?_
    refine k_lald C hX (hM.at 14 rfl) (vp_in_nI (by omega) (by omega)) dX9_image_50 ?_
    refine k_topl (y := b20 1) (by rw [nI_clamp (by omega)]) ?_
    refine lv_iload_n C.x C.b dX9_image_51 rfl (lv_at hl 2 rfl) ?_
    refine lv_i2l (v := b.toInt64) C.x C.b dX9_image_52 rfl ?_
    refine lv_lmul C.x C.b dX9_image_53 ?_
    refine lv_ladd C.x C.b dX9_image_54 ?_
    refine lv_lstore (lv' := [(4, .long (((b20 0) * a.toInt64) + ((b20 1) * b.toInt64))), (0, .ref h), (1, .int a), (2, .int b), (3, .int (nI 0))]) C.x C.b dX9_image_55 hl (by decide) rfl (fun ls hl => ?_)
    refine lv_aload_n C.x C.b dX9_image_57 rfl (lv_at hl 1 rfl) ?_
    refine k_get (X := RX9) (T := TX9) (N := 28) (v := .ref (q 20)) C hX (hM.at 0 rfl) rfl hin_X9_image_RX9 20 (by decide) lk_X9_image_f58 (fun _ h9 => h9) rfl dX9_image_58 ?_
    refine lv_iconst (v := nI 2) C.x C.b dX9_image_61 (by decide) ?_
    refine k_lald C hX (hM.at 14 rfl) (vp_in_nI (by omega) (by omega)) dX9_image_62 ?_
    refine k_topl (y := b20 2) (by rw [nI_clamp (by omega)]) ?_
    refine lv_iload_n C.x C.b dX9_image_63 rfl (lv_at hl 2 rfl) ?_
    refine lv_i2l (v := a.toInt64) C.x C.b dX9_image_64 rfl ?_
    refine lv_lmul C.x C.b dX9_image_65 ?_
    refine lv_aload_n C.x C.b dX9_image_66 rfl (lv_at hl 1 rfl) ?_
    refine k_get (X := RX9) (T := TX9) (N := 28) (v := .ref (q 20)) C hX (hM.at 0 rfl) rfl hin_X9_image_RX9 20 (by decide) lk_X9_image_f58 (fun _ h9 => h9) rfl dX9_image_67 ?_
    refine lv_iconst (v := nI 3) C.x C.b dX9_image_70 (by decide) ?_
    refine k_lald C hX (hM.at 14 rfl) (vp_in_nI (by omega) (by omega)) dX9_image_71 ?_
    refine k_topl (y := b20 3) (by rw [nI_clamp (by omega)]) ?_
    refine lv_iload_n C.x C.b dX9_image_72 rfl (lv_at hl 3 rfl) ?_
    refine lv_i2l (v := b.toInt64) C.x C.b dX9_image_73 rfl ?_
    refine lv_lmul C.x C.b dX9_image_74 ?_
    refine lv_ladd C.x C.b dX9_image_75 ?_
    refine lv_lstore (lv' := [(6, .long (((b20 2) * a.toInt64) + ((b20 3) * b.toInt64))), (4, .long (((b20 0) * a.toInt64) + ((b20 1) * b.toInt64))), (0, .ref h), (1, .int a), (2, .int b), (3, .int (nI 0))]) C.x C.b dX9_image_76 hl (by decide) rfl (fun ls hl => ?_)
    refine lv_lload C.x C.b dX9_image_78 (lv_at hl 0 rfl) ?_
    refine lv_lconst (v := 0) C.x C.b dX9_image_80 (by decide) ?_
    have J104 : ∀ (ls : Array Slot), lv_has ls 9 [(6, .long (((b20 2) * a.toInt64) + ((b20 3) * b.toInt64))), (4, .long (((b20 0) * a.toInt64) + ((b20 1) * b.toInt64))), (0, .ref h), (1, .int a), (2, .int b), (3, .int (nI 0))] → ∀ (H : Heap) (locs : List Loc), kX G B0 s g1 H locs → W p l e (rmX9_image_b) s m args below meth c H locs 0 0 Q (F0 m 104 ls [.int (kbI (mTurn b20 a b))]) := by
      intro ls hl H locs hX
      refine lv_istore (lv' := [(8, .int (kbI (mTurn b20 a b))), (6, .long (((b20 2) * a.toInt64) + ((b20 3) * b.toInt64))), (4, .long (((b20 0) * a.toInt64) + ((b20 1) * b.toInt64))), (0, .ref h), (1, .int a), (2, .int b), (3, .int (nI 0))]) C.x C.b dX9_image_104 hl (by decide) rfl (fun ls hl => ?_)
      refine lv_iload_n C.x C.b dX9_image_106 rfl (lv_at hl 6 rfl) ?_
      refine lv_if_eq (tgt := 126) C.x C.b dX9_image_107 (by decide) (fun c_107 => ?_) (fun c_107 => ?_)
      rotate_left
      · exact absurd c_107 (by decide)
      refine lv_iload C.x C.b dX9_image_126 (lv_at hl 0 rfl) ?_
      refine lv_if_eq (tgt := 137) C.x C.b dX9_image_128 (by decide) (fun c_128 => ?_) (fun c_128 => ?_)
      · skip
        have c_128 := kbI_0 c_128
        refine lv_lload C.x C.b dX9_image_137 (lv_at hl 1 rfl) ?_
        exact k_lret C hX hr hlocks hQ (by omega) (by omega) (⟨by first | rw [if_pos c_128] | rw [if_neg c_128], hM, hO⟩) dX9_image_139
      · skip
        have c_128 := kbI_1 c_128
        refine lv_lload C.x C.b dX9_image_131 (lv_at hl 1 rfl) ?_
        refine lv_lneg C.x C.b dX9_image_133 ?_
        refine lv_goto (tgt := 139) C.x C.b dX9_image_134 (by decide) ?_
        exact k_lret C hX hr hlocks hQ (by omega) (by omega) (⟨by first | rw [if_pos c_128] | rw [if_neg c_128], hM, hO⟩) dX9_image_139
    refine k_lcmp_lt (tgt := 99) C.x C.b dX9_image_81 dX9_image_82 (by decide) (fun c_82 => ?_) (fun c_82 => ?_)
    · skip
      refine lv_iconst (v := nI 1) C.x C.b dX9_image_99 (by decide) ?_
      refine lv_goto (tgt := 104) C.x C.b dX9_image_100 (by decide) ?_
      refine k_topi (y := (kbI (mTurn b20 a b))) (by first | exact kbI_tN (Or.inl c_82) | exact kbI_tN (Or.inr ⟨c_89, c_96⟩) | exact kbI_fN (fun z => by rcases z with y | y; exact c_82 y; exact c_89 y.1) | exact kbI_fN (fun z => by rcases z with y | y; exact c_82 y; exact c_96 y.2)) ?_
      exact J104 ls (lv_sub hl [0, 1, 2, 3, 4, 5] rfl) _ _ hX
    · skip
      refine lv_lload C.x C.b dX9_image_85 (lv_at hl 0 rfl) ?_
      refine lv_lconst (v := 0) C.x C.b dX9_image_87 (by decide) ?_
      refine k_lcmp_ne (tgt := 103) C.x C.b dX9_image_88 dX9_image_89 (by decide) (fun c_89 => ?_) (fun c_89 => ?_)
      · skip
        refine lv_iconst (v := nI 0) C.x C.b dX9_image_103 (by decide) ?_
        refine k_topi (y := (kbI (mTurn b20 a b))) (by first | exact kbI_tN (Or.inl c_82) | exact kbI_tN (Or.inr ⟨c_89, c_96⟩) | exact kbI_fN (fun z => by rcases z with y | y; exact c_82 y; exact c_89 y.1) | exact kbI_fN (fun z => by rcases z with y | y; exact c_82 y; exact c_96 y.2)) ?_
        exact J104 ls (lv_sub hl [0, 1, 2, 3, 4, 5] rfl) _ _ hX
      · skip
        refine lv_lload C.x C.b dX9_image_92 (lv_at hl 1 rfl) ?_
        refine lv_lconst (v := 0) C.x C.b dX9_image_94 (by decide) ?_
        refine k_lcmp_ge (tgt := 103) C.x C.b dX9_image_95 dX9_image_96 (by decide) (fun c_96 => ?_) (fun c_96 => ?_)
        · skip
          refine lv_iconst (v := nI 0) C.x C.b dX9_image_103 (by decide) ?_
          refine k_topi (y := (kbI (mTurn b20 a b))) (by first | exact kbI_tN (Or.inl c_82) | exact kbI_tN (Or.inr ⟨c_89, c_96⟩) | exact kbI_fN (fun z => by rcases z with y | y; exact c_82 y; exact c_89 y.1) | exact kbI_fN (fun z => by rcases z with y | y; exact c_82 y; exact c_96 y.2)) ?_
          exact J104 ls (lv_sub hl [0, 1, 2, 3, 4, 5] rfl) _ _ hX
        · skip
          refine lv_iconst (v := nI 1) C.x C.b dX9_image_99 (by decide) ?_
          refine lv_goto (tgt := 104) C.x C.b dX9_image_100 (by decide) ?_
          refine k_topi (y := (kbI (mTurn b20 a b))) (by first | exact kbI_tN (Or.inl c_82) | exact kbI_tN (Or.inr ⟨c_89, c_96⟩) | exact kbI_fN (fun z => by rcases z with y | y; exact c_82 y; exact c_89 y.1) | exact kbI_fN (fun z => by rcases z with y | y; exact c_82 y; exact c_96 y.2)) ?_
          exact J104 ls (lv_sub hl [0, 1, 2, 3, 4, 5] rfl) _ _ hX
  refine lv_iload_n C.x C.b dX9_image_10 rfl (lv_at hl 2 rfl) ?_
  refine lv_if_gt (tgt := 19) C.x C.b dX9_image_11 (by decide) (fun c_11 => ?_) (fun c_11 => ?_)
  · skip
    exact J19 ls (lv_sub hl [0, 1, 2, 3] rfl) _ _ hX
  · skip
    refine lv_iload_n C.x C.b dX9_image_14 rfl (lv_at hl 1 rfl) ?_
    refine lv_iconst (v := nI 1) C.x C.b dX9_image_15 (by decide) ?_
    refine lv_icmp_ne (tgt := 23) C.x C.b dX9_image_16 (by decide) (fun c_16 => ?_) (fun c_16 => ?_)
    · skip
      exact hv.2.elim (fun z => absurd z c_11) (fun z => absurd z c_16)
    · skip
      exact J19 ls (lv_sub hl [0, 1, 2, 3] rfl) _ _ hX

theorem lk_X9_append_f202 : Cond.fieldLink RX9 202 "KoebehallModel" "moves" "I" ∈ wsX9_append := by decide +kernel
theorem hin_X9_append_RX9 : ∀ w ∈ u_ws RX9 TX9 28, w ∈ wsX9_append := by decide +kernel
theorem hdX9_append_X9_isIn : yX9_isIn.cls ≠ "java/lang/invoke/MethodHandle" ∧ yX9_isIn.cls ≠ "java/lang/invoke/VarHandle" ∧ (parseMethodDescriptor yX9_isIn.desc).map (fun d => d.parameters.length) = some 3 := by decide +kernel
theorem lk_X9_append_f80 : Cond.fieldLink RX9 80 "KoebehallModel" "thrown" "I" ∈ wsX9_append := by decide +kernel
abbrev rmX9_append_b1 : Room := { frames := 1, cells := 0, slots := 0, locals := 25 }
set_option maxHeartbeats 4000000 in
set_option maxRecDepth 100000 in
/-- X9_append_b1 -/
theorem kX9_append_b1 (l : Launch) (G : kG) (B0 : Nat) (f : kH) (h : Nat) (q : Nat → Nat) (i0 i1 i3 i7 i18 i22 i23 i27 : Int32) (j16 j17 : Int64) (a2 : Nat → Int32) (a4 : Nat → Int32) (a5 : Nat → Int32) (a6 : Nat → Int32) (b8 : Nat → Int64) (b9 : Nat → Int64) (b10 : Nat → Int64) (a11 : Nat → Int32) (a12 : Nat → Int32) (a13 : Nat → Int32) (a14 : Nat → Int32) (b15 : Nat → Int64) (b19 : Nat → Int64) (b20 : Nat → Int64) (b21 : Nat → Int64) (a24 : Nat → Int32) (a25 : Nat → Int32) (a26 : Nat → Int32) (a z9 : Int32) (m9 : Nat) (hM : kCs f (mC G h q i0 i1 i3 i7 i18 i22 i23 i27 j16 j17 a2 a4 a5 a6 b8 b9 b10 a11 a12 a13 a14 b15 b19 b20 b21 a24 a25 a26)) (hm0 : i18 = nI m9) (hm9 : m9 ≤ 4) (hv : ¬ mIn a m9) : Met l yX9_append wsX9_append (rmX9_append_b1) (kP G B0 f [.ref h, .int a, .int z9]) (kQi G B0 (fun r f1 => r = nI 0 ∧ kCs f1 (mC G h q i0 i1 i3 i7 i18 i22 i23 (nI 1) j16 j17 a2 a4 a5 a6 b8 b9 b10 a11 a12 a13 a14 b15 b19 b20 b21 a24 a25 a26) ∧ kOff (mAs h q) f f1)) 0 0 (kAb B0) := by
  refine kMet (cc := cX9_append) (maxL := 14) (ret := (some .int)) (by decide) rfl (Nat.le_of_ble_eq_true rfl) ?_
  intro p e s m args below meth c H locs Q ls C hX hl hr hlocks hnm hQ
  have hO : kOff (mAs h q) f f := kOff.rf
  have hl : lv_has ls 14 [(0, .ref h), (1, .int a), (2, .int z9)] := hl
  refine lv_aload_n C.x C.b dX9_append_0 rfl (lv_at hl 0 rfl) ?_
  refine lv_iload_n C.x C.b dX9_append_1 rfl (lv_at hl 1 rfl) ?_
  refine lv_i2l (v := a.toInt64) C.x C.b dX9_append_2 rfl ?_
  refine lv_lconst (v := 0) C.x C.b dX9_append_3 (by decide) ?_
  refine lv_aload_n C.x C.b dX9_append_4 rfl (lv_at hl 0 rfl) ?_
  refine k_get (X := RX9) (T := TX9) (N := 28) (v := .int i18) C hX (hM.at 0 rfl) rfl hin_X9_append_RX9 18 (by decide) lk_X9_append_f202 (fun _ h9 => h9) rfl dX9_append_5 ?_
  refine k_topi (y := (nI m9)) (hm0) ?_
  refine lv_iconst (v := nI 1) C.x C.b dX9_append_8 (by decide) ?_
  refine lv_isub C.x C.b dX9_append_9 ?_
  refine lv_i2l (v := ((nI m9) - (nI 1)).toInt64) C.x C.b dX9_append_10 rfl ?_
  refine k_calli (va_runS (As := [.long a.toInt64, .long 0, .long (((nI m9) - (nI 1)).toInt64)]) (rest := [.ref h]) C.1 (kX9_isIn l G B0 f a.toInt64 0 ((nI m9 - nI 1).toInt64)) (va_cwS 3 C.ts gX9_append_X9_isIn rfl rfl rfl (hdX9_append_X9_isIn) ⟨Nat.le_of_ble_eq_true rfl, Nat.le_of_ble_eq_true rfl⟩) (k_preS C hX) rfl rfl hl.1 rfl (lv_room (Nat.le_of_ble_eq_true rfl)) dX9_append_11 ⟨Nat.le_of_ble_eq_true rfl, Nat.le_of_ble_eq_true rfl⟩) hX (fun r11 f11 H locs hp11 hX => ?_)
  obtain ⟨hr11, hf11⟩ := hp11
  rw [hf11] at hX
  refine k_topi (y := (kbI ((0 : Int64) ≤ a.toInt64 ∧ a.toInt64 ≤ (nI m9 - nI 1).toInt64))) hr11 ?_
  refine k_topi (y := (kbI (mIn a m9))) (kbI_c (m_in (by omega))) ?_
  refine lv_if_eq (tgt := 21) C.x C.b dX9_append_14 (by decide) (fun c_14 => ?_) (fun c_14 => ?_)
  rotate_left
  · exact absurd (kbI_1 c_14) (hv)
  refine lv_iconst (v := nI 1) C.x C.b dX9_append_21 (by decide) ?_
  refine k_put (X := RX9) (T := TX9) (N := 28) (ty := .int) (v := .int (nI 1)) C hX (hM.at 0 rfl) rfl hin_X9_append_RX9 tyX9_ok nmX9 27 (by decide) lk_X9_append_f80 (fun _ h9 => h9) rfl (by decide +kernel) rfl rfl (Nat.le_of_ble_eq_true rfl) dX9_append_22 (fun H locs hX => ?_)
  obtain ⟨g1, hX, hM, hO⟩ := kX.wr hX hM hO 0 rfl (List.mem_of_getElem? (i := 0) rfl)
  have hM : kCs g1 (mC G h q i0 i1 i3 i7 i18 i22 i23 (nI 1) j16 j17 a2 a4 a5 a6 b8 b9 b10 a11 a12 a13 a14 b15 b19 b20 b21 a24 a25 a26) := hM
  refine lv_aload_n C.x C.b dX9_append_25 rfl (lv_at hl 0 rfl) ?_
  refine k_get (X := RX9) (T := TX9) (N := 28) (v := .int (nI 1)) C hX (hM.at 0 rfl) rfl hin_X9_append_RX9 27 (by decide) lk_X9_append_f80 (fun _ h9 => h9) rfl dX9_append_26 ?_
  refine lv_if_le (tgt := 34) C.x C.b dX9_append_29 (by decide) (fun c_29 => ?_) (fun c_29 => ?_)
  · exact absurd c_29 (by decide)
  refine lv_iconst (v := nI 0) C.x C.b dX9_append_32 (by decide) ?_
  exact k_iret C hX hr hlocks hQ (by omega) (by omega) (⟨rfl, hM, hO⟩) dX9_append_33

theorem lk_X9_append_f55 : Cond.fieldLink RX9 55 "KoebehallModel" "tables" "[J" ∈ wsX9_append := by decide +kernel
theorem lk_X9_append_f61 : Cond.fieldLink RX9 61 "KoebehallModel" "product" "[J" ∈ wsX9_append := by decide +kernel
theorem lk_X9_append_f58 : Cond.fieldLink RX9 58 "KoebehallModel" "word" "[J" ∈ wsX9_append := by decide +kernel
theorem lk_X9_append_c117 : Cond.constantLong RX9 117 (-1000000000) ∈ wsX9_append := by decide +kernel
theorem lk_X9_append_c119 : Cond.constantLong RX9 119 (1000000000) ∈ wsX9_append := by decide +kernel
abbrev rmX9_append_n : Room := { frames := 1, cells := 0, slots := 0, locals := 25 }
set_option maxHeartbeats 4000000 in
set_option maxRecDepth 100000 in
/-- X9_append_n -/
theorem kX9_append_n (l : Launch) (G : kG) (B0 : Nat) (f : kH) (h : Nat) (q : Nat → Nat) (i0 i1 i3 i7 i18 i22 i23 i27 : Int32) (j16 j17 : Int64) (a2 : Nat → Int32) (a4 : Nat → Int32) (a5 : Nat → Int32) (a6 : Nat → Int32) (b8 : Nat → Int64) (b9 : Nat → Int64) (b10 : Nat → Int64) (a11 : Nat → Int32) (a12 : Nat → Int32) (a13 : Nat → Int32) (a14 : Nat → Int32) (b15 : Nat → Int64) (b19 : Nat → Int64) (b20 : Nat → Int64) (b21 : Nat → Int64) (a24 : Nat → Int32) (a25 : Nat → Int32) (a26 : Nat → Int32) (t m9 : Nat) (hM : kCs f (mC G h q i0 i1 i3 i7 i18 i22 i23 i27 j16 j17 a2 a4 a5 a6 b8 b9 b10 a11 a12 a13 a14 b15 b19 b20 b21 a24 a25 a26)) (hm0 : i18 = nI m9) (hm9 : m9 ≤ 4) (ht : t < m9) (hp : ∀ j : Nat, j < 4 → mRl ((mProd b21 b20 (b19 (4 * t)) (b19 (4 * t + 1)) (b19 (4 * t + 2)) (b19 (4 * t + 3))) j)) : Met l yX9_append wsX9_append (rmX9_append_n) (kP G B0 f [.ref h, .int (nI t), .int (nI 0)]) (kQi G B0 (fun r f1 => r = ((mCopy0 b20 (mProd b21 b20 (b19 (4 * t)) (b19 (4 * t + 1)) (b19 (4 * t + 2)) (b19 (4 * t + 3))) 4) 0 + (mCopy0 b20 (mProd b21 b20 (b19 (4 * t)) (b19 (4 * t + 1)) (b19 (4 * t + 2)) (b19 (4 * t + 3))) 4) 3).toInt32 ∧ kCs f1 (mC G h q i0 i1 i3 i7 i18 i22 i23 (nI 0) j16 j17 a2 a4 a5 a6 b8 b9 b10 a11 a12 a13 a14 b15 b19 (mCopy0 b20 (mProd b21 b20 (b19 (4 * t)) (b19 (4 * t + 1)) (b19 (4 * t + 2)) (b19 (4 * t + 3))) 4) (mProd b21 b20 (b19 (4 * t)) (b19 (4 * t + 1)) (b19 (4 * t + 2)) (b19 (4 * t + 3))) a24 a25 a26) ∧ kOff (mAs h q) f f1)) 0 0 (kAb B0) := by
  refine kMet (cc := cX9_append) (maxL := 14) (ret := (some .int)) (by decide) rfl (Nat.le_of_ble_eq_true rfl) ?_
  intro p e s m args below meth c H locs Q ls C hX hl hr hlocks hnm hQ
  have hO : kOff (mAs h q) f f := kOff.rf
  have hl : lv_has ls 14 [(0, .ref h), (1, .int (nI t)), (2, .int (nI 0))] := hl
  refine lv_aload_n C.x C.b dX9_append_0 rfl (lv_at hl 0 rfl) ?_
  refine lv_iload_n C.x C.b dX9_append_1 rfl (lv_at hl 1 rfl) ?_
  refine lv_i2l (v := (nI t).toInt64) C.x C.b dX9_append_2 rfl ?_
  refine lv_lconst (v := 0) C.x C.b dX9_append_3 (by decide) ?_
  refine lv_aload_n C.x C.b dX9_append_4 rfl (lv_at hl 0 rfl) ?_
  refine k_get (X := RX9) (T := TX9) (N := 28) (v := .int i18) C hX (hM.at 0 rfl) rfl hin_X9_append_RX9 18 (by decide) lk_X9_append_f202 (fun _ h9 => h9) rfl dX9_append_5 ?_
  refine k_topi (y := (nI m9)) (hm0) ?_
  refine lv_iconst (v := nI 1) C.x C.b dX9_append_8 (by decide) ?_
  refine lv_isub C.x C.b dX9_append_9 ?_
  refine lv_i2l (v := ((nI m9) - (nI 1)).toInt64) C.x C.b dX9_append_10 rfl ?_
  refine k_calli (va_runS (As := [.long ((nI t).toInt64), .long 0, .long (((nI m9) - (nI 1)).toInt64)]) (rest := [.ref h]) C.1 (kX9_isIn l G B0 f ((nI t).toInt64) 0 ((nI m9 - nI 1).toInt64)) (va_cwS 3 C.ts gX9_append_X9_isIn rfl rfl rfl (hdX9_append_X9_isIn) ⟨Nat.le_of_ble_eq_true rfl, Nat.le_of_ble_eq_true rfl⟩) (k_preS C hX) rfl rfl hl.1 rfl (lv_room (Nat.le_of_ble_eq_true rfl)) dX9_append_11 ⟨Nat.le_of_ble_eq_true rfl, Nat.le_of_ble_eq_true rfl⟩) hX (fun r11 f11 H locs hp11 hX => ?_)
  obtain ⟨hr11, hf11⟩ := hp11
  rw [hf11] at hX
  refine k_topi (y := (kbI ((0 : Int64) ≤ (nI t).toInt64 ∧ (nI t).toInt64 ≤ (nI m9 - nI 1).toInt64))) hr11 ?_
  refine k_topi (y := (kbI (mIn (nI t) m9))) (kbI_c (m_in (by omega))) ?_
  refine lv_if_eq (tgt := 21) C.x C.b dX9_append_14 (by decide) (fun c_14 => ?_) (fun c_14 => ?_)
  · exact absurd ((mIn_nI (by omega)).mpr ht) (kbI_0 c_14)
  refine lv_iconst (v := nI 0) C.x C.b dX9_append_17 (by decide) ?_
  refine lv_goto (tgt := 22) C.x C.b dX9_append_18 (by decide) ?_
  refine k_put (X := RX9) (T := TX9) (N := 28) (ty := .int) (v := .int (nI 0)) C hX (hM.at 0 rfl) rfl hin_X9_append_RX9 tyX9_ok nmX9 27 (by decide) lk_X9_append_f80 (fun _ h9 => h9) rfl (by decide +kernel) rfl rfl (Nat.le_of_ble_eq_true rfl) dX9_append_22 (fun H locs hX => ?_)
  obtain ⟨g1, hX, hM, hO⟩ := kX.wr hX hM hO 0 rfl (List.mem_of_getElem? (i := 0) rfl)
  have hM : kCs g1 (mC G h q i0 i1 i3 i7 i18 i22 i23 (nI 0) j16 j17 a2 a4 a5 a6 b8 b9 b10 a11 a12 a13 a14 b15 b19 b20 b21 a24 a25 a26) := hM
  refine lv_aload_n C.x C.b dX9_append_25 rfl (lv_at hl 0 rfl) ?_
  refine k_get (X := RX9) (T := TX9) (N := 28) (v := .int (nI 0)) C hX (hM.at 0 rfl) rfl hin_X9_append_RX9 27 (by decide) lk_X9_append_f80 (fun _ h9 => h9) rfl dX9_append_26 ?_
  refine lv_if_le (tgt := 34) C.x C.b dX9_append_29 (by decide) (fun c_29 => ?_) (fun c_29 => ?_)
  rotate_left
  · exact absurd c_29 (by decide)
  refine lv_iconst (v := nI 4) C.x C.b dX9_append_34 (by decide) ?_
  refine lv_iload_n C.x C.b dX9_append_35 rfl (lv_at hl 1 rfl) ?_
  refine lv_imul C.x C.b dX9_append_36 ?_
  refine k_topi (y := nI (4 * t)) (pk_mul _ _) ?_
  refine lv_istore_n (lv' := [(3, .int (nI (4 * t))), (0, .ref h), (1, .int (nI t)), (2, .int (nI 0))]) C.x C.b dX9_append_37 rfl hl (by decide) rfl (fun ls hl => ?_)
  refine lv_iload_n C.x C.b dX9_append_38 rfl (lv_at hl 3 rfl) ?_
  refine lv_if_eq (tgt := 53) C.x C.b dX9_append_39 (by decide) (fun c_39 => ?_) (fun c_39 => ?_)
  rotate_left
  · exact absurd c_39 (by decide)
  refine lv_aload_n C.x C.b dX9_append_53 rfl (lv_at hl 1 rfl) ?_
  refine k_get (X := RX9) (T := TX9) (N := 28) (v := .ref (q 19)) C hX (hM.at 0 rfl) rfl hin_X9_append_RX9 19 (by decide) lk_X9_append_f55 (fun _ h9 => h9) rfl dX9_append_54 ?_
  refine lv_iload_n C.x C.b dX9_append_57 rfl (lv_at hl 0 rfl) ?_
  refine k_lald C hX (hM.at 13 rfl) (vp_in_nI (by omega) (by omega)) dX9_append_58 ?_
  refine k_topl (y := b19 (4 * t)) (by rw [nI_clamp (by omega)]) ?_
  refine lv_lstore (lv' := [(4, .long (b19 (4 * t))), (3, .int (nI (4 * t))), (0, .ref h), (1, .int (nI t)), (2, .int (nI 0))]) C.x C.b dX9_append_59 hl (by decide) rfl (fun ls hl => ?_)
  refine lv_iload_n C.x C.b dX9_append_61 rfl (lv_at hl 4 rfl) ?_
  refine lv_if_eq (tgt := 77) C.x C.b dX9_append_62 (by decide) (fun c_62 => ?_) (fun c_62 => ?_)
  rotate_left
  · exact absurd c_62 (by decide)
  refine lv_aload_n C.x C.b dX9_append_77 rfl (lv_at hl 2 rfl) ?_
  refine k_get (X := RX9) (T := TX9) (N := 28) (v := .ref (q 19)) C hX (hM.at 0 rfl) rfl hin_X9_append_RX9 19 (by decide) lk_X9_append_f55 (fun _ h9 => h9) rfl dX9_append_78 ?_
  refine lv_iload_n C.x C.b dX9_append_81 rfl (lv_at hl 1 rfl) ?_
  refine lv_iconst (v := nI 1) C.x C.b dX9_append_82 (by decide) ?_
  refine lv_iadd C.x C.b dX9_append_83 ?_
  refine k_topi (y := nI ((4 * t) + 1)) (nI_add _ _) ?_
  refine k_lald C hX (hM.at 13 rfl) (vp_in_nI (by omega) (by omega)) dX9_append_84 ?_
  refine k_topl (y := b19 ((4 * t) + 1)) (by rw [nI_clamp (by omega)]) ?_
  refine lv_lstore (lv' := [(6, .long (b19 ((4 * t) + 1))), (4, .long (b19 (4 * t))), (3, .int (nI (4 * t))), (0, .ref h), (1, .int (nI t)), (2, .int (nI 0))]) C.x C.b dX9_append_85 hl (by decide) rfl (fun ls hl => ?_)
  refine lv_iload_n C.x C.b dX9_append_87 rfl (lv_at hl 5 rfl) ?_
  refine lv_if_eq (tgt := 103) C.x C.b dX9_append_88 (by decide) (fun c_88 => ?_) (fun c_88 => ?_)
  rotate_left
  · exact absurd c_88 (by decide)
  refine lv_aload_n C.x C.b dX9_append_103 rfl (lv_at hl 3 rfl) ?_
  refine k_get (X := RX9) (T := TX9) (N := 28) (v := .ref (q 19)) C hX (hM.at 0 rfl) rfl hin_X9_append_RX9 19 (by decide) lk_X9_append_f55 (fun _ h9 => h9) rfl dX9_append_104 ?_
  refine lv_iload_n C.x C.b dX9_append_107 rfl (lv_at hl 2 rfl) ?_
  refine lv_iconst (v := nI 2) C.x C.b dX9_append_108 (by decide) ?_
  refine lv_iadd C.x C.b dX9_append_109 ?_
  refine k_topi (y := nI ((4 * t) + 2)) (nI_add _ _) ?_
  refine k_lald C hX (hM.at 13 rfl) (vp_in_nI (by omega) (by omega)) dX9_append_110 ?_
  refine k_topl (y := b19 ((4 * t) + 2)) (by rw [nI_clamp (by omega)]) ?_
  refine lv_lstore (lv' := [(8, .long (b19 ((4 * t) + 2))), (6, .long (b19 ((4 * t) + 1))), (4, .long (b19 (4 * t))), (3, .int (nI (4 * t))), (0, .ref h), (1, .int (nI t)), (2, .int (nI 0))]) C.x C.b dX9_append_111 hl (by decide) rfl (fun ls hl => ?_)
  refine lv_iload_n C.x C.b dX9_append_113 rfl (lv_at hl 6 rfl) ?_
  refine lv_if_eq (tgt := 126) C.x C.b dX9_append_114 (by decide) (fun c_114 => ?_) (fun c_114 => ?_)
  rotate_left
  · exact absurd c_114 (by decide)
  refine lv_aload_n C.x C.b dX9_append_126 rfl (lv_at hl 4 rfl) ?_
  refine k_get (X := RX9) (T := TX9) (N := 28) (v := .ref (q 19)) C hX (hM.at 0 rfl) rfl hin_X9_append_RX9 19 (by decide) lk_X9_append_f55 (fun _ h9 => h9) rfl dX9_append_127 ?_
  refine lv_iload_n C.x C.b dX9_append_130 rfl (lv_at hl 3 rfl) ?_
  refine lv_iconst (v := nI 3) C.x C.b dX9_append_131 (by decide) ?_
  refine lv_iadd C.x C.b dX9_append_132 ?_
  refine k_topi (y := nI ((4 * t) + 3)) (nI_add _ _) ?_
  refine k_lald C hX (hM.at 13 rfl) (vp_in_nI (by omega) (by omega)) dX9_append_133 ?_
  refine k_topl (y := b19 ((4 * t) + 3)) (by rw [nI_clamp (by omega)]) ?_
  refine lv_lstore (lv' := [(10, .long (b19 ((4 * t) + 3))), (8, .long (b19 ((4 * t) + 2))), (6, .long (b19 ((4 * t) + 1))), (4, .long (b19 (4 * t))), (3, .int (nI (4 * t))), (0, .ref h), (1, .int (nI t)), (2, .int (nI 0))]) C.x C.b dX9_append_134 hl (by decide) rfl (fun ls hl => ?_)
  refine lv_aload_n C.x C.b dX9_append_136 rfl (lv_at hl 5 rfl) ?_
  refine k_get (X := RX9) (T := TX9) (N := 28) (v := .ref (q 21)) C hX (hM.at 0 rfl) rfl hin_X9_append_RX9 21 (by decide) lk_X9_append_f61 (fun _ h9 => h9) rfl dX9_append_137 ?_
  refine lv_iconst (v := nI 0) C.x C.b dX9_append_140 (by decide) ?_
  refine lv_aload_n C.x C.b dX9_append_141 rfl (lv_at hl 5 rfl) ?_
  refine k_get (X := RX9) (T := TX9) (N := 28) (v := .ref (q 20)) C hX (hM.at 0 rfl) rfl hin_X9_append_RX9 20 (by decide) lk_X9_append_f58 (fun _ h9 => h9) rfl dX9_append_142 ?_
  refine lv_iconst (v := nI 0) C.x C.b dX9_append_145 (by decide) ?_
  refine k_lald C hX (hM.at 14 rfl) (vp_in_nI (by omega) (by omega)) dX9_append_146 ?_
  refine k_topl (y := b20 0) (by rw [nI_clamp (by omega)]) ?_
  refine lv_lload C.x C.b dX9_append_147 (lv_at hl 3 rfl) ?_
  refine lv_lmul C.x C.b dX9_append_149 ?_
  refine lv_aload_n C.x C.b dX9_append_150 rfl (lv_at hl 5 rfl) ?_
  refine k_get (X := RX9) (T := TX9) (N := 28) (v := .ref (q 20)) C hX (hM.at 0 rfl) rfl hin_X9_append_RX9 20 (by decide) lk_X9_append_f58 (fun _ h9 => h9) rfl dX9_append_151 ?_
  refine lv_iconst (v := nI 1) C.x C.b dX9_append_154 (by decide) ?_
  refine k_lald C hX (hM.at 14 rfl) (vp_in_nI (by omega) (by omega)) dX9_append_155 ?_
  refine k_topl (y := b20 1) (by rw [nI_clamp (by omega)]) ?_
  refine lv_lload C.x C.b dX9_append_156 (lv_at hl 1 rfl) ?_
  refine lv_lmul C.x C.b dX9_append_158 ?_
  refine lv_ladd C.x C.b dX9_append_159 ?_
  refine k_last C hX (hM.at 15 rfl) (vp_in_nI (by omega) (by omega)) dX9_append_160 (fun H locs hX => ?_)
  rw [nI_clamp (by omega)] at hX
  obtain ⟨g2, hX, hM, hO⟩ := kX.wr hX hM hO 15 rfl (List.mem_of_getElem? (i := 15) rfl)
  have hM : kCs g2 (mC G h q i0 i1 i3 i7 i18 i22 i23 (nI 0) j16 j17 a2 a4 a5 a6 b8 b9 b10 a11 a12 a13 a14 b15 b19 b20 (vp_updL b21 0 (((b20 0) * (b19 (4 * t))) + ((b20 1) * (b19 ((4 * t) + 2))))) a24 a25 a26) := hM
  refine lv_aload_n C.x C.b dX9_append_161 rfl (lv_at hl 5 rfl) ?_
  refine k_get (X := RX9) (T := TX9) (N := 28) (v := .ref (q 21)) C hX (hM.at 0 rfl) rfl hin_X9_append_RX9 21 (by decide) lk_X9_append_f61 (fun _ h9 => h9) rfl dX9_append_162 ?_
  refine lv_iconst (v := nI 1) C.x C.b dX9_append_165 (by decide) ?_
  refine lv_aload_n C.x C.b dX9_append_166 rfl (lv_at hl 5 rfl) ?_
  refine k_get (X := RX9) (T := TX9) (N := 28) (v := .ref (q 20)) C hX (hM.at 0 rfl) rfl hin_X9_append_RX9 20 (by decide) lk_X9_append_f58 (fun _ h9 => h9) rfl dX9_append_167 ?_
  refine lv_iconst (v := nI 0) C.x C.b dX9_append_170 (by decide) ?_
  refine k_lald C hX (hM.at 14 rfl) (vp_in_nI (by omega) (by omega)) dX9_append_171 ?_
  refine k_topl (y := b20 0) (by rw [nI_clamp (by omega)]) ?_
  refine lv_lload C.x C.b dX9_append_172 (lv_at hl 2 rfl) ?_
  refine lv_lmul C.x C.b dX9_append_174 ?_
  refine lv_aload_n C.x C.b dX9_append_175 rfl (lv_at hl 5 rfl) ?_
  refine k_get (X := RX9) (T := TX9) (N := 28) (v := .ref (q 20)) C hX (hM.at 0 rfl) rfl hin_X9_append_RX9 20 (by decide) lk_X9_append_f58 (fun _ h9 => h9) rfl dX9_append_176 ?_
  refine lv_iconst (v := nI 1) C.x C.b dX9_append_179 (by decide) ?_
  refine k_lald C hX (hM.at 14 rfl) (vp_in_nI (by omega) (by omega)) dX9_append_180 ?_
  refine k_topl (y := b20 1) (by rw [nI_clamp (by omega)]) ?_
  refine lv_lload C.x C.b dX9_append_181 (lv_at hl 0 rfl) ?_
  refine lv_lmul C.x C.b dX9_append_183 ?_
  refine lv_ladd C.x C.b dX9_append_184 ?_
  refine k_last C hX (hM.at 15 rfl) (vp_in_nI (by omega) (by omega)) dX9_append_185 (fun H locs hX => ?_)
  rw [nI_clamp (by omega)] at hX
  obtain ⟨g3, hX, hM, hO⟩ := kX.wr hX hM hO 15 rfl (List.mem_of_getElem? (i := 15) rfl)
  have hM : kCs g3 (mC G h q i0 i1 i3 i7 i18 i22 i23 (nI 0) j16 j17 a2 a4 a5 a6 b8 b9 b10 a11 a12 a13 a14 b15 b19 b20 (vp_updL (vp_updL b21 0 (((b20 0) * (b19 (4 * t))) + ((b20 1) * (b19 ((4 * t) + 2))))) 1 (((b20 0) * (b19 ((4 * t) + 1))) + ((b20 1) * (b19 ((4 * t) + 3))))) a24 a25 a26) := hM
  refine lv_aload_n C.x C.b dX9_append_186 rfl (lv_at hl 5 rfl) ?_
  refine k_get (X := RX9) (T := TX9) (N := 28) (v := .ref (q 21)) C hX (hM.at 0 rfl) rfl hin_X9_append_RX9 21 (by decide) lk_X9_append_f61 (fun _ h9 => h9) rfl dX9_append_187 ?_
  refine lv_iconst (v := nI 2) C.x C.b dX9_append_190 (by decide) ?_
  refine lv_aload_n C.x C.b dX9_append_191 rfl (lv_at hl 5 rfl) ?_
  refine k_get (X := RX9) (T := TX9) (N := 28) (v := .ref (q 20)) C hX (hM.at 0 rfl) rfl hin_X9_append_RX9 20 (by decide) lk_X9_append_f58 (fun _ h9 => h9) rfl dX9_append_192 ?_
  refine lv_iconst (v := nI 2) C.x C.b dX9_append_195 (by decide) ?_
  refine k_lald C hX (hM.at 14 rfl) (vp_in_nI (by omega) (by omega)) dX9_append_196 ?_
  refine k_topl (y := b20 2) (by rw [nI_clamp (by omega)]) ?_
  refine lv_lload C.x C.b dX9_append_197 (lv_at hl 3 rfl) ?_
  refine lv_lmul C.x C.b dX9_append_199 ?_
  refine lv_aload_n C.x C.b dX9_append_200 rfl (lv_at hl 5 rfl) ?_
  refine k_get (X := RX9) (T := TX9) (N := 28) (v := .ref (q 20)) C hX (hM.at 0 rfl) rfl hin_X9_append_RX9 20 (by decide) lk_X9_append_f58 (fun _ h9 => h9) rfl dX9_append_201 ?_
  refine lv_iconst (v := nI 3) C.x C.b dX9_append_204 (by decide) ?_
  refine k_lald C hX (hM.at 14 rfl) (vp_in_nI (by omega) (by omega)) dX9_append_205 ?_
  refine k_topl (y := b20 3) (by rw [nI_clamp (by omega)]) ?_
  refine lv_lload C.x C.b dX9_append_206 (lv_at hl 1 rfl) ?_
  refine lv_lmul C.x C.b dX9_append_208 ?_
  refine lv_ladd C.x C.b dX9_append_209 ?_
  refine k_last C hX (hM.at 15 rfl) (vp_in_nI (by omega) (by omega)) dX9_append_210 (fun H locs hX => ?_)
  rw [nI_clamp (by omega)] at hX
  obtain ⟨g4, hX, hM, hO⟩ := kX.wr hX hM hO 15 rfl (List.mem_of_getElem? (i := 15) rfl)
  have hM : kCs g4 (mC G h q i0 i1 i3 i7 i18 i22 i23 (nI 0) j16 j17 a2 a4 a5 a6 b8 b9 b10 a11 a12 a13 a14 b15 b19 b20 (vp_updL (vp_updL (vp_updL b21 0 (((b20 0) * (b19 (4 * t))) + ((b20 1) * (b19 ((4 * t) + 2))))) 1 (((b20 0) * (b19 ((4 * t) + 1))) + ((b20 1) * (b19 ((4 * t) + 3))))) 2 (((b20 2) * (b19 (4 * t))) + ((b20 3) * (b19 ((4 * t) + 2))))) a24 a25 a26) := hM
  refine lv_aload_n C.x C.b dX9_append_211 rfl (lv_at hl 5 rfl) ?_
  refine k_get (X := RX9) (T := TX9) (N := 28) (v := .ref (q 21)) C hX (hM.at 0 rfl) rfl hin_X9_append_RX9 21 (by decide) lk_X9_append_f61 (fun _ h9 => h9) rfl dX9_append_212 ?_
  refine lv_iconst (v := nI 3) C.x C.b dX9_append_215 (by decide) ?_
  refine lv_aload_n C.x C.b dX9_append_216 rfl (lv_at hl 5 rfl) ?_
  refine k_get (X := RX9) (T := TX9) (N := 28) (v := .ref (q 20)) C hX (hM.at 0 rfl) rfl hin_X9_append_RX9 20 (by decide) lk_X9_append_f58 (fun _ h9 => h9) rfl dX9_append_217 ?_
  refine lv_iconst (v := nI 2) C.x C.b dX9_append_220 (by decide) ?_
  refine k_lald C hX (hM.at 14 rfl) (vp_in_nI (by omega) (by omega)) dX9_append_221 ?_
  refine k_topl (y := b20 2) (by rw [nI_clamp (by omega)]) ?_
  refine lv_lload C.x C.b dX9_append_222 (lv_at hl 2 rfl) ?_
  refine lv_lmul C.x C.b dX9_append_224 ?_
  refine lv_aload_n C.x C.b dX9_append_225 rfl (lv_at hl 5 rfl) ?_
  refine k_get (X := RX9) (T := TX9) (N := 28) (v := .ref (q 20)) C hX (hM.at 0 rfl) rfl hin_X9_append_RX9 20 (by decide) lk_X9_append_f58 (fun _ h9 => h9) rfl dX9_append_226 ?_
  refine lv_iconst (v := nI 3) C.x C.b dX9_append_229 (by decide) ?_
  refine k_lald C hX (hM.at 14 rfl) (vp_in_nI (by omega) (by omega)) dX9_append_230 ?_
  refine k_topl (y := b20 3) (by rw [nI_clamp (by omega)]) ?_
  refine lv_lload C.x C.b dX9_append_231 (lv_at hl 0 rfl) ?_
  refine lv_lmul C.x C.b dX9_append_233 ?_
  refine lv_ladd C.x C.b dX9_append_234 ?_
  refine k_last C hX (hM.at 15 rfl) (vp_in_nI (by omega) (by omega)) dX9_append_235 (fun H locs hX => ?_)
  rw [nI_clamp (by omega)] at hX
  obtain ⟨g5, hX, hM, hO⟩ := kX.wr hX hM hO 15 rfl (List.mem_of_getElem? (i := 15) rfl)
  have hM : kCs g5 (mC G h q i0 i1 i3 i7 i18 i22 i23 (nI 0) j16 j17 a2 a4 a5 a6 b8 b9 b10 a11 a12 a13 a14 b15 b19 b20 (vp_updL (vp_updL (vp_updL (vp_updL b21 0 (((b20 0) * (b19 (4 * t))) + ((b20 1) * (b19 ((4 * t) + 2))))) 1 (((b20 0) * (b19 ((4 * t) + 1))) + ((b20 1) * (b19 ((4 * t) + 3))))) 2 (((b20 2) * (b19 (4 * t))) + ((b20 3) * (b19 ((4 * t) + 2))))) 3 (((b20 2) * (b19 ((4 * t) + 1))) + ((b20 3) * (b19 ((4 * t) + 3))))) a24 a25 a26) := hM
  rw [show (vp_updL (vp_updL (vp_updL (vp_updL b21 0 (((b20 0) * (b19 (4 * t))) + ((b20 1) * (b19 ((4 * t) + 2))))) 1 (((b20 0) * (b19 ((4 * t) + 1))) + ((b20 1) * (b19 ((4 * t) + 3))))) 2 (((b20 2) * (b19 (4 * t))) + ((b20 3) * (b19 ((4 * t) + 2))))) 3 (((b20 2) * (b19 ((4 * t) + 1))) + ((b20 3) * (b19 ((4 * t) + 3))))) = (mProd b21 b20 (b19 (4 * t)) (b19 (4 * t + 1)) (b19 (4 * t + 2)) (b19 (4 * t + 3))) from rfl] at hM
  have hM : kCs g5 (mC G h q i0 i1 i3 i7 i18 i22 i23 (nI 0) j16 j17 a2 a4 a5 a6 b8 b9 b10 a11 a12 a13 a14 b15 b19 b20 (mProd b21 b20 (b19 (4 * t)) (b19 (4 * t + 1)) (b19 (4 * t + 2)) (b19 (4 * t + 3))) a24 a25 a26) := hM
  refine lv_iconst (v := nI 1) C.x C.b dX9_append_236 (by decide) ?_
  refine lv_istore (lv' := [(12, .int (nI 1)), (10, .long (b19 ((4 * t) + 3))), (8, .long (b19 ((4 * t) + 2))), (6, .long (b19 ((4 * t) + 1))), (4, .long (b19 (4 * t))), (3, .int (nI (4 * t))), (0, .ref h), (1, .int (nI t)), (2, .int (nI 0))]) C.x C.b dX9_append_237 hl (by decide) rfl (fun ls hl => ?_)
  refine lv_iconst (v := nI 0) C.x C.b dX9_append_239 (by decide) ?_
  refine lv_istore (lv' := [(13, .int (nI 0)), (12, .int (nI 1)), (10, .long (b19 ((4 * t) + 3))), (8, .long (b19 ((4 * t) + 2))), (6, .long (b19 ((4 * t) + 1))), (4, .long (b19 (4 * t))), (3, .int (nI (4 * t))), (0, .ref h), (1, .int (nI t)), (2, .int (nI 0))]) C.x C.b dX9_append_240 hl (by decide) rfl (fun ls hl => ?_)
  rw [show (nI 1) = (kbI (∀ j : Nat, j < 0 → mRl ((mProd b21 b20 (b19 (4 * t)) (b19 (4 * t + 1)) (b19 (4 * t + 2)) (b19 (4 * t + 3))) j))) from kbI_tN (fun j hj => absurd hj (Nat.not_lt_zero _))] at hl
  have LOOP242 : ∀ (n : Nat) (k : Nat), (k ≤ 4) → (4 - k) < n → ∀ (ls : Array Slot), lv_has ls 14 [(12, .int (kbI (∀ j : Nat, j < k → mRl ((mProd b21 b20 (b19 (4 * t)) (b19 (4 * t + 1)) (b19 (4 * t + 2)) (b19 (4 * t + 3))) j)))), (13, .int (nI k)), (0, .ref h), (3, .int (nI (4 * t)))] → ∀ (H : Heap) (locs : List Loc), kX G B0 s g5 H locs → W p l e (rmX9_append_n) s m args below meth c H locs 0 0 Q (F0 m 242 ls []) := by
    intro n242
    induction n242 with
    | zero => intro k hk hn; exact absurd hn (Nat.not_lt_zero _)
    | succ n242 ih242 =>
      intro k hk hn ls hl H locs hX
      refine lv_iload C.x C.b dX9_append_242 (lv_at hl 1 rfl) ?_
      refine lv_iconst (v := nI 4) C.x C.b dX9_append_244 (by decide) ?_
      refine lv_icmp_ge (tgt := 275) C.x C.b dX9_append_245 (by decide) (fun c_245 => ?_) (fun c_245 => ?_)
      · skip
        have c_245 : 4 ≤ k := (nI_leI (by omega) (by omega)).mp c_245
        have hk9 : 4 = k := by omega
        subst hk9
        refine lv_aload_n C.x C.b dX9_append_275 rfl (lv_at hl 2 rfl) ?_
        refine lv_iload C.x C.b dX9_append_276 (lv_at hl 0 rfl) ?_
        refine lv_if_eq (tgt := 285) C.x C.b dX9_append_278 (by decide) (fun c_278 => ?_) (fun c_278 => ?_)
        · exact absurd (hp) (kbI_0 c_278)
        refine lv_iconst (v := nI 0) C.x C.b dX9_append_281 (by decide) ?_
        refine lv_goto (tgt := 286) C.x C.b dX9_append_282 (by decide) ?_
        refine k_put (X := RX9) (T := TX9) (N := 28) (ty := .int) (v := .int (nI 0)) C hX (hM.at 0 rfl) rfl hin_X9_append_RX9 tyX9_ok nmX9 27 (by decide) lk_X9_append_f80 (fun _ h9 => h9) rfl (by decide +kernel) rfl rfl (Nat.le_of_ble_eq_true rfl) dX9_append_286 (fun H locs hX => ?_)
        obtain ⟨g7, hX, hM, hO⟩ := kX.wr hX hM hO 0 rfl (List.mem_of_getElem? (i := 0) rfl)
        have hM : kCs g7 (mC G h q i0 i1 i3 i7 i18 i22 i23 (nI 0) j16 j17 a2 a4 a5 a6 b8 b9 b10 a11 a12 a13 a14 b15 b19 b20 (mProd b21 b20 (b19 (4 * t)) (b19 (4 * t + 1)) (b19 (4 * t + 2)) (b19 (4 * t + 3))) a24 a25 a26) := hM
        refine lv_iconst (v := nI 0) C.x C.b dX9_append_289 (by decide) ?_
        refine lv_istore (lv' := [(13, .int (nI 0)), (12, .int (kbI (∀ j : Nat, j < 4 → mRl ((mProd b21 b20 (b19 (4 * t)) (b19 (4 * t + 1)) (b19 (4 * t + 2)) (b19 (4 * t + 3))) j)))), (0, .ref h), (3, .int (nI (4 * t)))]) C.x C.b dX9_append_290 hl (by decide) rfl (fun ls hl => ?_)
        have LOOP292 : ∀ (n : Nat) (k : Nat), (k ≤ 4) → (4 - k) < n → ∀ (ls : Array Slot), lv_has ls 14 [(13, .int (nI k)), (12, .int (kbI (∀ j : Nat, j < 4 → mRl ((mProd b21 b20 (b19 (4 * t)) (b19 (4 * t + 1)) (b19 (4 * t + 2)) (b19 (4 * t + 3))) j)))), (0, .ref h)] → ∀ (fL : kH), kCs fL (mC G h q i0 i1 i3 i7 i18 i22 i23 (nI 0) j16 j17 a2 a4 a5 a6 b8 b9 b10 a11 a12 a13 a14 b15 b19 (mCopy0 b20 (mProd b21 b20 (b19 (4 * t)) (b19 (4 * t + 1)) (b19 (4 * t + 2)) (b19 (4 * t + 3))) k) (mProd b21 b20 (b19 (4 * t)) (b19 (4 * t + 1)) (b19 (4 * t + 2)) (b19 (4 * t + 3))) a24 a25 a26) → kOff (mAs h q) f fL → ∀ (H : Heap) (locs : List Loc), kX G B0 s fL H locs → W p l e (rmX9_append_n) s m args below meth c H locs 0 0 Q (F0 m 292 ls []) := by
          intro n292
          induction n292 with
          | zero => intro k hk hn; exact absurd hn (Nat.not_lt_zero _)
          | succ n292 ih292 =>
            intro k hk hn ls hl fL hM hO H locs hX
            refine lv_iload C.x C.b dX9_append_292 (lv_at hl 0 rfl) ?_
            refine lv_iconst (v := nI 4) C.x C.b dX9_append_294 (by decide) ?_
            refine lv_icmp_ge (tgt := 333) C.x C.b dX9_append_295 (by decide) (fun c_295 => ?_) (fun c_295 => ?_)
            · skip
              have c_295 : 4 ≤ k := (nI_leI (by omega) (by omega)).mp c_295
              have hk9 : 4 = k := by omega
              subst hk9
              refine lv_aload_n C.x C.b dX9_append_333 rfl (lv_at hl 2 rfl) ?_
              refine k_get (X := RX9) (T := TX9) (N := 28) (v := .int (nI 0)) C hX (hM.at 0 rfl) rfl hin_X9_append_RX9 27 (by decide) lk_X9_append_f80 (fun _ h9 => h9) rfl dX9_append_334 ?_
              refine lv_if_le (tgt := 344) C.x C.b dX9_append_337 (by decide) (fun c_337 => ?_) (fun c_337 => ?_)
              rotate_left
              · exact absurd c_337 (by decide)
              refine lv_aload_n C.x C.b dX9_append_344 rfl (lv_at hl 2 rfl) ?_
              refine k_get (X := RX9) (T := TX9) (N := 28) (v := .ref (q 20)) C hX (hM.at 0 rfl) rfl hin_X9_append_RX9 20 (by decide) lk_X9_append_f58 (fun _ h9 => h9) rfl dX9_append_345 ?_
              refine lv_iconst (v := nI 0) C.x C.b dX9_append_348 (by decide) ?_
              refine k_lald C hX (hM.at 14 rfl) (vp_in_nI (by omega) (by omega)) dX9_append_349 ?_
              refine k_topl (y := (mCopy0 b20 (mProd b21 b20 (b19 (4 * t)) (b19 (4 * t + 1)) (b19 (4 * t + 2)) (b19 (4 * t + 3))) 4) 0) (by rw [nI_clamp (by omega)]) ?_
              refine lv_aload_n C.x C.b dX9_append_350 rfl (lv_at hl 2 rfl) ?_
              refine k_get (X := RX9) (T := TX9) (N := 28) (v := .ref (q 20)) C hX (hM.at 0 rfl) rfl hin_X9_append_RX9 20 (by decide) lk_X9_append_f58 (fun _ h9 => h9) rfl dX9_append_351 ?_
              refine lv_iconst (v := nI 3) C.x C.b dX9_append_354 (by decide) ?_
              refine k_lald C hX (hM.at 14 rfl) (vp_in_nI (by omega) (by omega)) dX9_append_355 ?_
              refine k_topl (y := (mCopy0 b20 (mProd b21 b20 (b19 (4 * t)) (b19 (4 * t + 1)) (b19 (4 * t + 2)) (b19 (4 * t + 3))) 4) 3) (by rw [nI_clamp (by omega)]) ?_
              refine lv_ladd C.x C.b dX9_append_356 ?_
              refine lv_l2i (v := (((mCopy0 b20 (mProd b21 b20 (b19 (4 * t)) (b19 (4 * t + 1)) (b19 (4 * t + 2)) (b19 (4 * t + 3))) 4) 0) + ((mCopy0 b20 (mProd b21 b20 (b19 (4 * t)) (b19 (4 * t + 1)) (b19 (4 * t + 2)) (b19 (4 * t + 3))) 4) 3)).toInt32) C.x C.b dX9_append_357 rfl ?_
              exact k_iret C hX hr hlocks hQ (by omega) (by omega) (⟨rfl, hM, hO⟩) dX9_append_358
            · skip
              have c_295 : ¬ (4 ≤ k) := fun h9 => c_295 ((nI_leI (by omega) (by omega)).mpr h9)
              refine lv_aload_n C.x C.b dX9_append_298 rfl (lv_at hl 2 rfl) ?_
              refine k_get (X := RX9) (T := TX9) (N := 28) (v := .ref (q 20)) C hX (hM.at 0 rfl) rfl hin_X9_append_RX9 20 (by decide) lk_X9_append_f58 (fun _ h9 => h9) rfl dX9_append_299 ?_
              refine lv_iload C.x C.b dX9_append_302 (lv_at hl 0 rfl) ?_
              refine lv_iload C.x C.b dX9_append_304 (lv_at hl 1 rfl) ?_
              refine lv_if_eq (tgt := 319) C.x C.b dX9_append_306 (by decide) (fun c_306 => ?_) (fun c_306 => ?_)
              · exact absurd (hp) (kbI_0 c_306)
              refine lv_aload_n C.x C.b dX9_append_309 rfl (lv_at hl 2 rfl) ?_
              refine k_get (X := RX9) (T := TX9) (N := 28) (v := .ref (q 21)) C hX (hM.at 0 rfl) rfl hin_X9_append_RX9 21 (by decide) lk_X9_append_f61 (fun _ h9 => h9) rfl dX9_append_310 ?_
              refine lv_iload C.x C.b dX9_append_313 (lv_at hl 0 rfl) ?_
              refine k_lald C hX (hM.at 15 rfl) (vp_in_nI (by omega) (by omega)) dX9_append_315 ?_
              refine k_topl (y := (mProd b21 b20 (b19 (4 * t)) (b19 (4 * t + 1)) (b19 (4 * t + 2)) (b19 (4 * t + 3))) k) (by rw [nI_clamp (by omega)]) ?_
              refine lv_goto (tgt := 326) C.x C.b dX9_append_316 (by decide) ?_
              refine k_last C hX (hM.at 14 rfl) (vp_in_nI (by omega) (by omega)) dX9_append_326 (fun H locs hX => ?_)
              rw [nI_clamp (by omega)] at hX
              obtain ⟨g9, hX, hM, hO⟩ := kX.wr hX hM hO 14 rfl (List.mem_of_getElem? (i := 14) rfl)
              have hM : kCs g9 (mC G h q i0 i1 i3 i7 i18 i22 i23 (nI 0) j16 j17 a2 a4 a5 a6 b8 b9 b10 a11 a12 a13 a14 b15 b19 (vp_updL (mCopy0 b20 (mProd b21 b20 (b19 (4 * t)) (b19 (4 * t + 1)) (b19 (4 * t + 2)) (b19 (4 * t + 3))) k) k ((mProd b21 b20 (b19 (4 * t)) (b19 (4 * t + 1)) (b19 (4 * t + 2)) (b19 (4 * t + 3))) k)) (mProd b21 b20 (b19 (4 * t)) (b19 (4 * t + 1)) (b19 (4 * t + 2)) (b19 (4 * t + 3))) a24 a25 a26) := hM
              refine lv_iinc (v := (nI (k + 1))) (lv' := [(13, .int (nI (k + 1))), (12, .int (kbI (∀ j : Nat, j < 4 → mRl ((mProd b21 b20 (b19 (4 * t)) (b19 (4 * t + 1)) (b19 (4 * t + 2)) (b19 (4 * t + 3))) j)))), (0, .ref h)]) C.x C.b dX9_append_327 hl (k := 0) rfl (nI_1 _) (by decide) rfl (fun ls hl => ?_)
              refine lv_goto (tgt := 292) C.x C.b dX9_append_330 (by decide) ?_
              exact ih292 (k + 1) (by omega) (by omega) ls (lv_sub hl [0, 1, 2] rfl) _ hM hO _ _ hX
        exact LOOP292 _ 0 (by omega) (Nat.lt_succ_self _) ls (lv_sub hl [0, 1, 2] rfl) _ hM hO _ _ hX
      · skip
        have c_245 : ¬ (4 ≤ k) := fun h9 => c_245 ((nI_leI (by omega) (by omega)).mpr h9)
        refine lv_iload C.x C.b dX9_append_248 (lv_at hl 0 rfl) ?_
        refine lv_aload_n C.x C.b dX9_append_250 rfl (lv_at hl 2 rfl) ?_
        refine k_get (X := RX9) (T := TX9) (N := 28) (v := .ref (q 21)) C hX (hM.at 0 rfl) rfl hin_X9_append_RX9 21 (by decide) lk_X9_append_f61 (fun _ h9 => h9) rfl dX9_append_251 ?_
        refine lv_iload C.x C.b dX9_append_254 (lv_at hl 1 rfl) ?_
        refine k_lald C hX (hM.at 15 rfl) (vp_in_nI (by omega) (by omega)) dX9_append_256 ?_
        refine k_topl (y := (mProd b21 b20 (b19 (4 * t)) (b19 (4 * t + 1)) (b19 (4 * t + 2)) (b19 (4 * t + 3))) k) (by rw [nI_clamp (by omega)]) ?_
        refine lv_ldc2 (v := -1000000000) C.x C.b C.ow (C.ts _ lk_X9_append_c117) dX9_append_257 ?_
        refine lv_ldc2 (v := 1000000000) C.x C.b C.ow (C.ts _ lk_X9_append_c119) dX9_append_260 ?_
        refine k_calli (va_runS (As := [.long ((mProd b21 b20 (b19 (4 * t)) (b19 (4 * t + 1)) (b19 (4 * t + 2)) (b19 (4 * t + 3))) k), .long (-1000000000), .long 1000000000]) (rest := [.int (kbI (∀ j : Nat, j < k → mRl ((mProd b21 b20 (b19 (4 * t)) (b19 (4 * t + 1)) (b19 (4 * t + 2)) (b19 (4 * t + 3))) j)))]) C.1 (kX9_isIn l G B0 g5 ((mProd b21 b20 (b19 (4 * t)) (b19 (4 * t + 1)) (b19 (4 * t + 2)) (b19 (4 * t + 3))) k) (-1000000000) 1000000000) (va_cwS 3 C.ts gX9_append_X9_isIn rfl rfl rfl (hdX9_append_X9_isIn) ⟨Nat.le_of_ble_eq_true rfl, Nat.le_of_ble_eq_true rfl⟩) (k_preS C hX) rfl rfl hl.1 rfl (lv_room (Nat.le_of_ble_eq_true rfl)) dX9_append_263 ⟨Nat.le_of_ble_eq_true rfl, Nat.le_of_ble_eq_true rfl⟩) hX (fun r263 f263 H locs hp263 hX => ?_)
        obtain ⟨hr263, hf263⟩ := hp263
        rw [hf263] at hX
        refine k_topi (y := (kbI (mRl ((mProd b21 b20 (b19 (4 * t)) (b19 (4 * t + 1)) (b19 (4 * t + 2)) (b19 (4 * t + 3))) k)))) hr263 ?_
        refine lv_iand C.x C.b dX9_append_266 ?_
        refine k_topi (y := (kbI (∀ j : Nat, j < k + 1 → mRl ((mProd b21 b20 (b19 (4 * t)) (b19 (4 * t + 1)) (b19 (4 * t + 2)) (b19 (4 * t + 3))) j)))) (kbI_all (P := fun j => mRl ((mProd b21 b20 (b19 (4 * t)) (b19 (4 * t + 1)) (b19 (4 * t + 2)) (b19 (4 * t + 3))) j))) ?_
        refine lv_istore (lv' := [(12, .int (kbI (∀ j : Nat, j < k + 1 → mRl ((mProd b21 b20 (b19 (4 * t)) (b19 (4 * t + 1)) (b19 (4 * t + 2)) (b19 (4 * t + 3))) j)))), (13, .int (nI k)), (0, .ref h), (3, .int (nI (4 * t)))]) C.x C.b dX9_append_267 hl (by decide) rfl (fun ls hl => ?_)
        refine lv_iinc (v := (nI (k + 1))) (lv' := [(13, .int (nI (k + 1))), (12, .int (kbI (∀ j : Nat, j < k + 1 → mRl ((mProd b21 b20 (b19 (4 * t)) (b19 (4 * t + 1)) (b19 (4 * t + 2)) (b19 (4 * t + 3))) j)))), (0, .ref h), (3, .int (nI (4 * t)))]) C.x C.b dX9_append_269 hl (k := 1) rfl (nI_1 _) (by decide) rfl (fun ls hl => ?_)
        refine lv_goto (tgt := 242) C.x C.b dX9_append_272 (by decide) ?_
        exact ih242 (k + 1) (by omega) (by omega) ls (lv_sub hl [1, 0, 2, 3] rfl) _ _ hX
  exact LOOP242 _ 0 (by omega) (Nat.lt_succ_self _) ls (lv_sub hl [1, 0, 7, 6] rfl) _ _ hX

abbrev rmX9_append_n_b2 : Room := { frames := 1, cells := 0, slots := 0, locals := 25 }
set_option maxHeartbeats 4000000 in
set_option maxRecDepth 100000 in
/-- X9_append_n_b2 -/
theorem kX9_append_n_b2 (l : Launch) (G : kG) (B0 : Nat) (f : kH) (h : Nat) (q : Nat → Nat) (i0 i1 i3 i7 i18 i22 i23 i27 : Int32) (j16 j17 : Int64) (a2 : Nat → Int32) (a4 : Nat → Int32) (a5 : Nat → Int32) (a6 : Nat → Int32) (b8 : Nat → Int64) (b9 : Nat → Int64) (b10 : Nat → Int64) (a11 : Nat → Int32) (a12 : Nat → Int32) (a13 : Nat → Int32) (a14 : Nat → Int32) (b15 : Nat → Int64) (b19 : Nat → Int64) (b20 : Nat → Int64) (b21 : Nat → Int64) (a24 : Nat → Int32) (a25 : Nat → Int32) (a26 : Nat → Int32) (t m9 : Nat) (hM : kCs f (mC G h q i0 i1 i3 i7 i18 i22 i23 i27 j16 j17 a2 a4 a5 a6 b8 b9 b10 a11 a12 a13 a14 b15 b19 b20 b21 a24 a25 a26)) (hm0 : i18 = nI m9) (hm9 : m9 ≤ 4) (ht : t < m9) (hp : ¬ (∀ j : Nat, j < 4 → mRl ((mProd b21 b20 (b19 (4 * t)) (b19 (4 * t + 1)) (b19 (4 * t + 2)) (b19 (4 * t + 3))) j))) : Met l yX9_append wsX9_append (rmX9_append_n_b2) (kP G B0 f [.ref h, .int (nI t), .int (nI 0)]) (kQi G B0 (fun r f1 => r = nI 0 ∧ kCs f1 (mC G h q i0 i1 i3 i7 i18 i22 i23 (nI 2) j16 j17 a2 a4 a5 a6 b8 b9 b10 a11 a12 a13 a14 b15 b19 b20 (mProd b21 b20 (b19 (4 * t)) (b19 (4 * t + 1)) (b19 (4 * t + 2)) (b19 (4 * t + 3))) a24 a25 a26) ∧ kOff (mAs h q) f f1)) 0 0 (kAb B0) := by
  refine kMet (cc := cX9_append) (maxL := 14) (ret := (some .int)) (by decide) rfl (Nat.le_of_ble_eq_true rfl) ?_
  intro p e s m args below meth c H locs Q ls C hX hl hr hlocks hnm hQ
  have hO : kOff (mAs h q) f f := kOff.rf
  have hl : lv_has ls 14 [(0, .ref h), (1, .int (nI t)), (2, .int (nI 0))] := hl
  refine lv_aload_n C.x C.b dX9_append_0 rfl (lv_at hl 0 rfl) ?_
  refine lv_iload_n C.x C.b dX9_append_1 rfl (lv_at hl 1 rfl) ?_
  refine lv_i2l (v := (nI t).toInt64) C.x C.b dX9_append_2 rfl ?_
  refine lv_lconst (v := 0) C.x C.b dX9_append_3 (by decide) ?_
  refine lv_aload_n C.x C.b dX9_append_4 rfl (lv_at hl 0 rfl) ?_
  refine k_get (X := RX9) (T := TX9) (N := 28) (v := .int i18) C hX (hM.at 0 rfl) rfl hin_X9_append_RX9 18 (by decide) lk_X9_append_f202 (fun _ h9 => h9) rfl dX9_append_5 ?_
  refine k_topi (y := (nI m9)) (hm0) ?_
  refine lv_iconst (v := nI 1) C.x C.b dX9_append_8 (by decide) ?_
  refine lv_isub C.x C.b dX9_append_9 ?_
  refine lv_i2l (v := ((nI m9) - (nI 1)).toInt64) C.x C.b dX9_append_10 rfl ?_
  refine k_calli (va_runS (As := [.long ((nI t).toInt64), .long 0, .long (((nI m9) - (nI 1)).toInt64)]) (rest := [.ref h]) C.1 (kX9_isIn l G B0 f ((nI t).toInt64) 0 ((nI m9 - nI 1).toInt64)) (va_cwS 3 C.ts gX9_append_X9_isIn rfl rfl rfl (hdX9_append_X9_isIn) ⟨Nat.le_of_ble_eq_true rfl, Nat.le_of_ble_eq_true rfl⟩) (k_preS C hX) rfl rfl hl.1 rfl (lv_room (Nat.le_of_ble_eq_true rfl)) dX9_append_11 ⟨Nat.le_of_ble_eq_true rfl, Nat.le_of_ble_eq_true rfl⟩) hX (fun r11 f11 H locs hp11 hX => ?_)
  obtain ⟨hr11, hf11⟩ := hp11
  rw [hf11] at hX
  refine k_topi (y := (kbI ((0 : Int64) ≤ (nI t).toInt64 ∧ (nI t).toInt64 ≤ (nI m9 - nI 1).toInt64))) hr11 ?_
  refine k_topi (y := (kbI (mIn (nI t) m9))) (kbI_c (m_in (by omega))) ?_
  refine lv_if_eq (tgt := 21) C.x C.b dX9_append_14 (by decide) (fun c_14 => ?_) (fun c_14 => ?_)
  · exact absurd ((mIn_nI (by omega)).mpr ht) (kbI_0 c_14)
  refine lv_iconst (v := nI 0) C.x C.b dX9_append_17 (by decide) ?_
  refine lv_goto (tgt := 22) C.x C.b dX9_append_18 (by decide) ?_
  refine k_put (X := RX9) (T := TX9) (N := 28) (ty := .int) (v := .int (nI 0)) C hX (hM.at 0 rfl) rfl hin_X9_append_RX9 tyX9_ok nmX9 27 (by decide) lk_X9_append_f80 (fun _ h9 => h9) rfl (by decide +kernel) rfl rfl (Nat.le_of_ble_eq_true rfl) dX9_append_22 (fun H locs hX => ?_)
  obtain ⟨g1, hX, hM, hO⟩ := kX.wr hX hM hO 0 rfl (List.mem_of_getElem? (i := 0) rfl)
  have hM : kCs g1 (mC G h q i0 i1 i3 i7 i18 i22 i23 (nI 0) j16 j17 a2 a4 a5 a6 b8 b9 b10 a11 a12 a13 a14 b15 b19 b20 b21 a24 a25 a26) := hM
  refine lv_aload_n C.x C.b dX9_append_25 rfl (lv_at hl 0 rfl) ?_
  refine k_get (X := RX9) (T := TX9) (N := 28) (v := .int (nI 0)) C hX (hM.at 0 rfl) rfl hin_X9_append_RX9 27 (by decide) lk_X9_append_f80 (fun _ h9 => h9) rfl dX9_append_26 ?_
  refine lv_if_le (tgt := 34) C.x C.b dX9_append_29 (by decide) (fun c_29 => ?_) (fun c_29 => ?_)
  rotate_left
  · exact absurd c_29 (by decide)
  refine lv_iconst (v := nI 4) C.x C.b dX9_append_34 (by decide) ?_
  refine lv_iload_n C.x C.b dX9_append_35 rfl (lv_at hl 1 rfl) ?_
  refine lv_imul C.x C.b dX9_append_36 ?_
  refine k_topi (y := nI (4 * t)) (pk_mul _ _) ?_
  refine lv_istore_n (lv' := [(3, .int (nI (4 * t))), (0, .ref h), (1, .int (nI t)), (2, .int (nI 0))]) C.x C.b dX9_append_37 rfl hl (by decide) rfl (fun ls hl => ?_)
  refine lv_iload_n C.x C.b dX9_append_38 rfl (lv_at hl 3 rfl) ?_
  refine lv_if_eq (tgt := 53) C.x C.b dX9_append_39 (by decide) (fun c_39 => ?_) (fun c_39 => ?_)
  rotate_left
  · exact absurd c_39 (by decide)
  refine lv_aload_n C.x C.b dX9_append_53 rfl (lv_at hl 1 rfl) ?_
  refine k_get (X := RX9) (T := TX9) (N := 28) (v := .ref (q 19)) C hX (hM.at 0 rfl) rfl hin_X9_append_RX9 19 (by decide) lk_X9_append_f55 (fun _ h9 => h9) rfl dX9_append_54 ?_
  refine lv_iload_n C.x C.b dX9_append_57 rfl (lv_at hl 0 rfl) ?_
  refine k_lald C hX (hM.at 13 rfl) (vp_in_nI (by omega) (by omega)) dX9_append_58 ?_
  refine k_topl (y := b19 (4 * t)) (by rw [nI_clamp (by omega)]) ?_
  refine lv_lstore (lv' := [(4, .long (b19 (4 * t))), (3, .int (nI (4 * t))), (0, .ref h), (1, .int (nI t)), (2, .int (nI 0))]) C.x C.b dX9_append_59 hl (by decide) rfl (fun ls hl => ?_)
  refine lv_iload_n C.x C.b dX9_append_61 rfl (lv_at hl 4 rfl) ?_
  refine lv_if_eq (tgt := 77) C.x C.b dX9_append_62 (by decide) (fun c_62 => ?_) (fun c_62 => ?_)
  rotate_left
  · exact absurd c_62 (by decide)
  refine lv_aload_n C.x C.b dX9_append_77 rfl (lv_at hl 2 rfl) ?_
  refine k_get (X := RX9) (T := TX9) (N := 28) (v := .ref (q 19)) C hX (hM.at 0 rfl) rfl hin_X9_append_RX9 19 (by decide) lk_X9_append_f55 (fun _ h9 => h9) rfl dX9_append_78 ?_
  refine lv_iload_n C.x C.b dX9_append_81 rfl (lv_at hl 1 rfl) ?_
  refine lv_iconst (v := nI 1) C.x C.b dX9_append_82 (by decide) ?_
  refine lv_iadd C.x C.b dX9_append_83 ?_
  refine k_topi (y := nI ((4 * t) + 1)) (nI_add _ _) ?_
  refine k_lald C hX (hM.at 13 rfl) (vp_in_nI (by omega) (by omega)) dX9_append_84 ?_
  refine k_topl (y := b19 ((4 * t) + 1)) (by rw [nI_clamp (by omega)]) ?_
  refine lv_lstore (lv' := [(6, .long (b19 ((4 * t) + 1))), (4, .long (b19 (4 * t))), (3, .int (nI (4 * t))), (0, .ref h), (1, .int (nI t)), (2, .int (nI 0))]) C.x C.b dX9_append_85 hl (by decide) rfl (fun ls hl => ?_)
  refine lv_iload_n C.x C.b dX9_append_87 rfl (lv_at hl 5 rfl) ?_
  refine lv_if_eq (tgt := 103) C.x C.b dX9_append_88 (by decide) (fun c_88 => ?_) (fun c_88 => ?_)
  rotate_left
  · exact absurd c_88 (by decide)
  refine lv_aload_n C.x C.b dX9_append_103 rfl (lv_at hl 3 rfl) ?_
  refine k_get (X := RX9) (T := TX9) (N := 28) (v := .ref (q 19)) C hX (hM.at 0 rfl) rfl hin_X9_append_RX9 19 (by decide) lk_X9_append_f55 (fun _ h9 => h9) rfl dX9_append_104 ?_
  refine lv_iload_n C.x C.b dX9_append_107 rfl (lv_at hl 2 rfl) ?_
  refine lv_iconst (v := nI 2) C.x C.b dX9_append_108 (by decide) ?_
  refine lv_iadd C.x C.b dX9_append_109 ?_
  refine k_topi (y := nI ((4 * t) + 2)) (nI_add _ _) ?_
  refine k_lald C hX (hM.at 13 rfl) (vp_in_nI (by omega) (by omega)) dX9_append_110 ?_
  refine k_topl (y := b19 ((4 * t) + 2)) (by rw [nI_clamp (by omega)]) ?_
  refine lv_lstore (lv' := [(8, .long (b19 ((4 * t) + 2))), (6, .long (b19 ((4 * t) + 1))), (4, .long (b19 (4 * t))), (3, .int (nI (4 * t))), (0, .ref h), (1, .int (nI t)), (2, .int (nI 0))]) C.x C.b dX9_append_111 hl (by decide) rfl (fun ls hl => ?_)
  refine lv_iload_n C.x C.b dX9_append_113 rfl (lv_at hl 6 rfl) ?_
  refine lv_if_eq (tgt := 126) C.x C.b dX9_append_114 (by decide) (fun c_114 => ?_) (fun c_114 => ?_)
  rotate_left
  · exact absurd c_114 (by decide)
  refine lv_aload_n C.x C.b dX9_append_126 rfl (lv_at hl 4 rfl) ?_
  refine k_get (X := RX9) (T := TX9) (N := 28) (v := .ref (q 19)) C hX (hM.at 0 rfl) rfl hin_X9_append_RX9 19 (by decide) lk_X9_append_f55 (fun _ h9 => h9) rfl dX9_append_127 ?_
  refine lv_iload_n C.x C.b dX9_append_130 rfl (lv_at hl 3 rfl) ?_
  refine lv_iconst (v := nI 3) C.x C.b dX9_append_131 (by decide) ?_
  refine lv_iadd C.x C.b dX9_append_132 ?_
  refine k_topi (y := nI ((4 * t) + 3)) (nI_add _ _) ?_
  refine k_lald C hX (hM.at 13 rfl) (vp_in_nI (by omega) (by omega)) dX9_append_133 ?_
  refine k_topl (y := b19 ((4 * t) + 3)) (by rw [nI_clamp (by omega)]) ?_
  refine lv_lstore (lv' := [(10, .long (b19 ((4 * t) + 3))), (8, .long (b19 ((4 * t) + 2))), (6, .long (b19 ((4 * t) + 1))), (4, .long (b19 (4 * t))), (3, .int (nI (4 * t))), (0, .ref h), (1, .int (nI t)), (2, .int (nI 0))]) C.x C.b dX9_append_134 hl (by decide) rfl (fun ls hl => ?_)
  refine lv_aload_n C.x C.b dX9_append_136 rfl (lv_at hl 5 rfl) ?_
  refine k_get (X := RX9) (T := TX9) (N := 28) (v := .ref (q 21)) C hX (hM.at 0 rfl) rfl hin_X9_append_RX9 21 (by decide) lk_X9_append_f61 (fun _ h9 => h9) rfl dX9_append_137 ?_
  refine lv_iconst (v := nI 0) C.x C.b dX9_append_140 (by decide) ?_
  refine lv_aload_n C.x C.b dX9_append_141 rfl (lv_at hl 5 rfl) ?_
  refine k_get (X := RX9) (T := TX9) (N := 28) (v := .ref (q 20)) C hX (hM.at 0 rfl) rfl hin_X9_append_RX9 20 (by decide) lk_X9_append_f58 (fun _ h9 => h9) rfl dX9_append_142 ?_
  refine lv_iconst (v := nI 0) C.x C.b dX9_append_145 (by decide) ?_
  refine k_lald C hX (hM.at 14 rfl) (vp_in_nI (by omega) (by omega)) dX9_append_146 ?_
  refine k_topl (y := b20 0) (by rw [nI_clamp (by omega)]) ?_
  refine lv_lload C.x C.b dX9_append_147 (lv_at hl 3 rfl) ?_
  refine lv_lmul C.x C.b dX9_append_149 ?_
  refine lv_aload_n C.x C.b dX9_append_150 rfl (lv_at hl 5 rfl) ?_
  refine k_get (X := RX9) (T := TX9) (N := 28) (v := .ref (q 20)) C hX (hM.at 0 rfl) rfl hin_X9_append_RX9 20 (by decide) lk_X9_append_f58 (fun _ h9 => h9) rfl dX9_append_151 ?_
  refine lv_iconst (v := nI 1) C.x C.b dX9_append_154 (by decide) ?_
  refine k_lald C hX (hM.at 14 rfl) (vp_in_nI (by omega) (by omega)) dX9_append_155 ?_
  refine k_topl (y := b20 1) (by rw [nI_clamp (by omega)]) ?_
  refine lv_lload C.x C.b dX9_append_156 (lv_at hl 1 rfl) ?_
  refine lv_lmul C.x C.b dX9_append_158 ?_
  refine lv_ladd C.x C.b dX9_append_159 ?_
  refine k_last C hX (hM.at 15 rfl) (vp_in_nI (by omega) (by omega)) dX9_append_160 (fun H locs hX => ?_)
  rw [nI_clamp (by omega)] at hX
  obtain ⟨g2, hX, hM, hO⟩ := kX.wr hX hM hO 15 rfl (List.mem_of_getElem? (i := 15) rfl)
  have hM : kCs g2 (mC G h q i0 i1 i3 i7 i18 i22 i23 (nI 0) j16 j17 a2 a4 a5 a6 b8 b9 b10 a11 a12 a13 a14 b15 b19 b20 (vp_updL b21 0 (((b20 0) * (b19 (4 * t))) + ((b20 1) * (b19 ((4 * t) + 2))))) a24 a25 a26) := hM
  refine lv_aload_n C.x C.b dX9_append_161 rfl (lv_at hl 5 rfl) ?_
  refine k_get (X := RX9) (T := TX9) (N := 28) (v := .ref (q 21)) C hX (hM.at 0 rfl) rfl hin_X9_append_RX9 21 (by decide) lk_X9_append_f61 (fun _ h9 => h9) rfl dX9_append_162 ?_
  refine lv_iconst (v := nI 1) C.x C.b dX9_append_165 (by decide) ?_
  refine lv_aload_n C.x C.b dX9_append_166 rfl (lv_at hl 5 rfl) ?_
  refine k_get (X := RX9) (T := TX9) (N := 28) (v := .ref (q 20)) C hX (hM.at 0 rfl) rfl hin_X9_append_RX9 20 (by decide) lk_X9_append_f58 (fun _ h9 => h9) rfl dX9_append_167 ?_
  refine lv_iconst (v := nI 0) C.x C.b dX9_append_170 (by decide) ?_
  refine k_lald C hX (hM.at 14 rfl) (vp_in_nI (by omega) (by omega)) dX9_append_171 ?_
  refine k_topl (y := b20 0) (by rw [nI_clamp (by omega)]) ?_
  refine lv_lload C.x C.b dX9_append_172 (lv_at hl 2 rfl) ?_
  refine lv_lmul C.x C.b dX9_append_174 ?_
  refine lv_aload_n C.x C.b dX9_append_175 rfl (lv_at hl 5 rfl) ?_
  refine k_get (X := RX9) (T := TX9) (N := 28) (v := .ref (q 20)) C hX (hM.at 0 rfl) rfl hin_X9_append_RX9 20 (by decide) lk_X9_append_f58 (fun _ h9 => h9) rfl dX9_append_176 ?_
  refine lv_iconst (v := nI 1) C.x C.b dX9_append_179 (by decide) ?_
  refine k_lald C hX (hM.at 14 rfl) (vp_in_nI (by omega) (by omega)) dX9_append_180 ?_
  refine k_topl (y := b20 1) (by rw [nI_clamp (by omega)]) ?_
  refine lv_lload C.x C.b dX9_append_181 (lv_at hl 0 rfl) ?_
  refine lv_lmul C.x C.b dX9_append_183 ?_
  refine lv_ladd C.x C.b dX9_append_184 ?_
  refine k_last C hX (hM.at 15 rfl) (vp_in_nI (by omega) (by omega)) dX9_append_185 (fun H locs hX => ?_)
  rw [nI_clamp (by omega)] at hX
  obtain ⟨g3, hX, hM, hO⟩ := kX.wr hX hM hO 15 rfl (List.mem_of_getElem? (i := 15) rfl)
  have hM : kCs g3 (mC G h q i0 i1 i3 i7 i18 i22 i23 (nI 0) j16 j17 a2 a4 a5 a6 b8 b9 b10 a11 a12 a13 a14 b15 b19 b20 (vp_updL (vp_updL b21 0 (((b20 0) * (b19 (4 * t))) + ((b20 1) * (b19 ((4 * t) + 2))))) 1 (((b20 0) * (b19 ((4 * t) + 1))) + ((b20 1) * (b19 ((4 * t) + 3))))) a24 a25 a26) := hM
  refine lv_aload_n C.x C.b dX9_append_186 rfl (lv_at hl 5 rfl) ?_
  refine k_get (X := RX9) (T := TX9) (N := 28) (v := .ref (q 21)) C hX (hM.at 0 rfl) rfl hin_X9_append_RX9 21 (by decide) lk_X9_append_f61 (fun _ h9 => h9) rfl dX9_append_187 ?_
  refine lv_iconst (v := nI 2) C.x C.b dX9_append_190 (by decide) ?_
  refine lv_aload_n C.x C.b dX9_append_191 rfl (lv_at hl 5 rfl) ?_
  refine k_get (X := RX9) (T := TX9) (N := 28) (v := .ref (q 20)) C hX (hM.at 0 rfl) rfl hin_X9_append_RX9 20 (by decide) lk_X9_append_f58 (fun _ h9 => h9) rfl dX9_append_192 ?_
  refine lv_iconst (v := nI 2) C.x C.b dX9_append_195 (by decide) ?_
  refine k_lald C hX (hM.at 14 rfl) (vp_in_nI (by omega) (by omega)) dX9_append_196 ?_
  refine k_topl (y := b20 2) (by rw [nI_clamp (by omega)]) ?_
  refine lv_lload C.x C.b dX9_append_197 (lv_at hl 3 rfl) ?_
  refine lv_lmul C.x C.b dX9_append_199 ?_
  refine lv_aload_n C.x C.b dX9_append_200 rfl (lv_at hl 5 rfl) ?_
  refine k_get (X := RX9) (T := TX9) (N := 28) (v := .ref (q 20)) C hX (hM.at 0 rfl) rfl hin_X9_append_RX9 20 (by decide) lk_X9_append_f58 (fun _ h9 => h9) rfl dX9_append_201 ?_
  refine lv_iconst (v := nI 3) C.x C.b dX9_append_204 (by decide) ?_
  refine k_lald C hX (hM.at 14 rfl) (vp_in_nI (by omega) (by omega)) dX9_append_205 ?_
  refine k_topl (y := b20 3) (by rw [nI_clamp (by omega)]) ?_
  refine lv_lload C.x C.b dX9_append_206 (lv_at hl 1 rfl) ?_
  refine lv_lmul C.x C.b dX9_append_208 ?_
  refine lv_ladd C.x C.b dX9_append_209 ?_
  refine k_last C hX (hM.at 15 rfl) (vp_in_nI (by omega) (by omega)) dX9_append_210 (fun H locs hX => ?_)
  rw [nI_clamp (by omega)] at hX
  obtain ⟨g4, hX, hM, hO⟩ := kX.wr hX hM hO 15 rfl (List.mem_of_getElem? (i := 15) rfl)
  have hM : kCs g4 (mC G h q i0 i1 i3 i7 i18 i22 i23 (nI 0) j16 j17 a2 a4 a5 a6 b8 b9 b10 a11 a12 a13 a14 b15 b19 b20 (vp_updL (vp_updL (vp_updL b21 0 (((b20 0) * (b19 (4 * t))) + ((b20 1) * (b19 ((4 * t) + 2))))) 1 (((b20 0) * (b19 ((4 * t) + 1))) + ((b20 1) * (b19 ((4 * t) + 3))))) 2 (((b20 2) * (b19 (4 * t))) + ((b20 3) * (b19 ((4 * t) + 2))))) a24 a25 a26) := hM
  refine lv_aload_n C.x C.b dX9_append_211 rfl (lv_at hl 5 rfl) ?_
  refine k_get (X := RX9) (T := TX9) (N := 28) (v := .ref (q 21)) C hX (hM.at 0 rfl) rfl hin_X9_append_RX9 21 (by decide) lk_X9_append_f61 (fun _ h9 => h9) rfl dX9_append_212 ?_
  refine lv_iconst (v := nI 3) C.x C.b dX9_append_215 (by decide) ?_
  refine lv_aload_n C.x C.b dX9_append_216 rfl (lv_at hl 5 rfl) ?_
  refine k_get (X := RX9) (T := TX9) (N := 28) (v := .ref (q 20)) C hX (hM.at 0 rfl) rfl hin_X9_append_RX9 20 (by decide) lk_X9_append_f58 (fun _ h9 => h9) rfl dX9_append_217 ?_
  refine lv_iconst (v := nI 2) C.x C.b dX9_append_220 (by decide) ?_
  refine k_lald C hX (hM.at 14 rfl) (vp_in_nI (by omega) (by omega)) dX9_append_221 ?_
  refine k_topl (y := b20 2) (by rw [nI_clamp (by omega)]) ?_
  refine lv_lload C.x C.b dX9_append_222 (lv_at hl 2 rfl) ?_
  refine lv_lmul C.x C.b dX9_append_224 ?_
  refine lv_aload_n C.x C.b dX9_append_225 rfl (lv_at hl 5 rfl) ?_
  refine k_get (X := RX9) (T := TX9) (N := 28) (v := .ref (q 20)) C hX (hM.at 0 rfl) rfl hin_X9_append_RX9 20 (by decide) lk_X9_append_f58 (fun _ h9 => h9) rfl dX9_append_226 ?_
  refine lv_iconst (v := nI 3) C.x C.b dX9_append_229 (by decide) ?_
  refine k_lald C hX (hM.at 14 rfl) (vp_in_nI (by omega) (by omega)) dX9_append_230 ?_
  refine k_topl (y := b20 3) (by rw [nI_clamp (by omega)]) ?_
  refine lv_lload C.x C.b dX9_append_231 (lv_at hl 0 rfl) ?_
  refine lv_lmul C.x C.b dX9_append_233 ?_
  refine lv_ladd C.x C.b dX9_append_234 ?_
  refine k_last C hX (hM.at 15 rfl) (vp_in_nI (by omega) (by omega)) dX9_append_235 (fun H locs hX => ?_)
  rw [nI_clamp (by omega)] at hX
  obtain ⟨g5, hX, hM, hO⟩ := kX.wr hX hM hO 15 rfl (List.mem_of_getElem? (i := 15) rfl)
  have hM : kCs g5 (mC G h q i0 i1 i3 i7 i18 i22 i23 (nI 0) j16 j17 a2 a4 a5 a6 b8 b9 b10 a11 a12 a13 a14 b15 b19 b20 (vp_updL (vp_updL (vp_updL (vp_updL b21 0 (((b20 0) * (b19 (4 * t))) + ((b20 1) * (b19 ((4 * t) + 2))))) 1 (((b20 0) * (b19 ((4 * t) + 1))) + ((b20 1) * (b19 ((4 * t) + 3))))) 2 (((b20 2) * (b19 (4 * t))) + ((b20 3) * (b19 ((4 * t) + 2))))) 3 (((b20 2) * (b19 ((4 * t) + 1))) + ((b20 3) * (b19 ((4 * t) + 3))))) a24 a25 a26) := hM
  rw [show (vp_updL (vp_updL (vp_updL (vp_updL b21 0 (((b20 0) * (b19 (4 * t))) + ((b20 1) * (b19 ((4 * t) + 2))))) 1 (((b20 0) * (b19 ((4 * t) + 1))) + ((b20 1) * (b19 ((4 * t) + 3))))) 2 (((b20 2) * (b19 (4 * t))) + ((b20 3) * (b19 ((4 * t) + 2))))) 3 (((b20 2) * (b19 ((4 * t) + 1))) + ((b20 3) * (b19 ((4 * t) + 3))))) = (mProd b21 b20 (b19 (4 * t)) (b19 (4 * t + 1)) (b19 (4 * t + 2)) (b19 (4 * t + 3))) from rfl] at hM
  have hM : kCs g5 (mC G h q i0 i1 i3 i7 i18 i22 i23 (nI 0) j16 j17 a2 a4 a5 a6 b8 b9 b10 a11 a12 a13 a14 b15 b19 b20 (mProd b21 b20 (b19 (4 * t)) (b19 (4 * t + 1)) (b19 (4 * t + 2)) (b19 (4 * t + 3))) a24 a25 a26) := hM
  refine lv_iconst (v := nI 1) C.x C.b dX9_append_236 (by decide) ?_
  refine lv_istore (lv' := [(12, .int (nI 1)), (10, .long (b19 ((4 * t) + 3))), (8, .long (b19 ((4 * t) + 2))), (6, .long (b19 ((4 * t) + 1))), (4, .long (b19 (4 * t))), (3, .int (nI (4 * t))), (0, .ref h), (1, .int (nI t)), (2, .int (nI 0))]) C.x C.b dX9_append_237 hl (by decide) rfl (fun ls hl => ?_)
  refine lv_iconst (v := nI 0) C.x C.b dX9_append_239 (by decide) ?_
  refine lv_istore (lv' := [(13, .int (nI 0)), (12, .int (nI 1)), (10, .long (b19 ((4 * t) + 3))), (8, .long (b19 ((4 * t) + 2))), (6, .long (b19 ((4 * t) + 1))), (4, .long (b19 (4 * t))), (3, .int (nI (4 * t))), (0, .ref h), (1, .int (nI t)), (2, .int (nI 0))]) C.x C.b dX9_append_240 hl (by decide) rfl (fun ls hl => ?_)
  rw [show (nI 1) = (kbI (∀ j : Nat, j < 0 → mRl ((mProd b21 b20 (b19 (4 * t)) (b19 (4 * t + 1)) (b19 (4 * t + 2)) (b19 (4 * t + 3))) j))) from kbI_tN (fun j hj => absurd hj (Nat.not_lt_zero _))] at hl
  have LOOP242 : ∀ (n : Nat) (k : Nat), (k ≤ 4) → (4 - k) < n → ∀ (ls : Array Slot), lv_has ls 14 [(12, .int (kbI (∀ j : Nat, j < k → mRl ((mProd b21 b20 (b19 (4 * t)) (b19 (4 * t + 1)) (b19 (4 * t + 2)) (b19 (4 * t + 3))) j)))), (13, .int (nI k)), (0, .ref h), (3, .int (nI (4 * t)))] → ∀ (H : Heap) (locs : List Loc), kX G B0 s g5 H locs → W p l e (rmX9_append_n_b2) s m args below meth c H locs 0 0 Q (F0 m 242 ls []) := by
    intro n242
    induction n242 with
    | zero => intro k hk hn; exact absurd hn (Nat.not_lt_zero _)
    | succ n242 ih242 =>
      intro k hk hn ls hl H locs hX
      refine lv_iload C.x C.b dX9_append_242 (lv_at hl 1 rfl) ?_
      refine lv_iconst (v := nI 4) C.x C.b dX9_append_244 (by decide) ?_
      refine lv_icmp_ge (tgt := 275) C.x C.b dX9_append_245 (by decide) (fun c_245 => ?_) (fun c_245 => ?_)
      · skip
        have c_245 : 4 ≤ k := (nI_leI (by omega) (by omega)).mp c_245
        have hk9 : 4 = k := by omega
        subst hk9
        refine lv_aload_n C.x C.b dX9_append_275 rfl (lv_at hl 2 rfl) ?_
        refine lv_iload C.x C.b dX9_append_276 (lv_at hl 0 rfl) ?_
        refine lv_if_eq (tgt := 285) C.x C.b dX9_append_278 (by decide) (fun c_278 => ?_) (fun c_278 => ?_)
        rotate_left
        · exact absurd (kbI_1 c_278) (hp)
        refine lv_iconst (v := nI 2) C.x C.b dX9_append_285 (by decide) ?_
        refine k_put (X := RX9) (T := TX9) (N := 28) (ty := .int) (v := .int (nI 2)) C hX (hM.at 0 rfl) rfl hin_X9_append_RX9 tyX9_ok nmX9 27 (by decide) lk_X9_append_f80 (fun _ h9 => h9) rfl (by decide +kernel) rfl rfl (Nat.le_of_ble_eq_true rfl) dX9_append_286 (fun H locs hX => ?_)
        obtain ⟨g7, hX, hM, hO⟩ := kX.wr hX hM hO 0 rfl (List.mem_of_getElem? (i := 0) rfl)
        have hM : kCs g7 (mC G h q i0 i1 i3 i7 i18 i22 i23 (nI 2) j16 j17 a2 a4 a5 a6 b8 b9 b10 a11 a12 a13 a14 b15 b19 b20 (mProd b21 b20 (b19 (4 * t)) (b19 (4 * t + 1)) (b19 (4 * t + 2)) (b19 (4 * t + 3))) a24 a25 a26) := hM
        refine lv_iconst (v := nI 0) C.x C.b dX9_append_289 (by decide) ?_
        refine lv_istore (lv' := [(13, .int (nI 0)), (12, .int (kbI (∀ j : Nat, j < 4 → mRl ((mProd b21 b20 (b19 (4 * t)) (b19 (4 * t + 1)) (b19 (4 * t + 2)) (b19 (4 * t + 3))) j)))), (0, .ref h), (3, .int (nI (4 * t)))]) C.x C.b dX9_append_290 hl (by decide) rfl (fun ls hl => ?_)
        have LOOP292 : ∀ (n : Nat) (k : Nat), (k ≤ 4) → (4 - k) < n → ∀ (ls : Array Slot), lv_has ls 14 [(13, .int (nI k)), (12, .int (kbI (∀ j : Nat, j < 4 → mRl ((mProd b21 b20 (b19 (4 * t)) (b19 (4 * t + 1)) (b19 (4 * t + 2)) (b19 (4 * t + 3))) j)))), (0, .ref h)] → ∀ (fL : kH), kCs fL (mC G h q i0 i1 i3 i7 i18 i22 i23 (nI 2) j16 j17 a2 a4 a5 a6 b8 b9 b10 a11 a12 a13 a14 b15 b19 b20 (mProd b21 b20 (b19 (4 * t)) (b19 (4 * t + 1)) (b19 (4 * t + 2)) (b19 (4 * t + 3))) a24 a25 a26) → kOff (mAs h q) f fL → ∀ (H : Heap) (locs : List Loc), kX G B0 s fL H locs → W p l e (rmX9_append_n_b2) s m args below meth c H locs 0 0 Q (F0 m 292 ls []) := by
          intro n292
          induction n292 with
          | zero => intro k hk hn; exact absurd hn (Nat.not_lt_zero _)
          | succ n292 ih292 =>
            intro k hk hn ls hl fL hM hO H locs hX
            refine lv_iload C.x C.b dX9_append_292 (lv_at hl 0 rfl) ?_
            refine lv_iconst (v := nI 4) C.x C.b dX9_append_294 (by decide) ?_
            refine lv_icmp_ge (tgt := 333) C.x C.b dX9_append_295 (by decide) (fun c_295 => ?_) (fun c_295 => ?_)
            · skip
              have c_295 : 4 ≤ k := (nI_leI (by omega) (by omega)).mp c_295
              have hk9 : 4 = k := by omega
              subst hk9
              refine lv_aload_n C.x C.b dX9_append_333 rfl (lv_at hl 2 rfl) ?_
              refine k_get (X := RX9) (T := TX9) (N := 28) (v := .int (nI 2)) C hX (hM.at 0 rfl) rfl hin_X9_append_RX9 27 (by decide) lk_X9_append_f80 (fun _ h9 => h9) rfl dX9_append_334 ?_
              refine lv_if_le (tgt := 344) C.x C.b dX9_append_337 (by decide) (fun c_337 => ?_) (fun c_337 => ?_)
              · exact absurd c_337 (by decide)
              refine lv_iconst (v := nI 0) C.x C.b dX9_append_340 (by decide) ?_
              refine lv_goto (tgt := 358) C.x C.b dX9_append_341 (by decide) ?_
              exact k_iret C hX hr hlocks hQ (by omega) (by omega) (⟨rfl, hM, hO⟩) dX9_append_358
            · skip
              have c_295 : ¬ (4 ≤ k) := fun h9 => c_295 ((nI_leI (by omega) (by omega)).mpr h9)
              refine lv_aload_n C.x C.b dX9_append_298 rfl (lv_at hl 2 rfl) ?_
              refine k_get (X := RX9) (T := TX9) (N := 28) (v := .ref (q 20)) C hX (hM.at 0 rfl) rfl hin_X9_append_RX9 20 (by decide) lk_X9_append_f58 (fun _ h9 => h9) rfl dX9_append_299 ?_
              refine lv_iload C.x C.b dX9_append_302 (lv_at hl 0 rfl) ?_
              refine lv_iload C.x C.b dX9_append_304 (lv_at hl 1 rfl) ?_
              refine lv_if_eq (tgt := 319) C.x C.b dX9_append_306 (by decide) (fun c_306 => ?_) (fun c_306 => ?_)
              rotate_left
              · exact absurd (kbI_1 c_306) (hp)
              refine lv_aload_n C.x C.b dX9_append_319 rfl (lv_at hl 2 rfl) ?_
              refine k_get (X := RX9) (T := TX9) (N := 28) (v := .ref (q 20)) C hX (hM.at 0 rfl) rfl hin_X9_append_RX9 20 (by decide) lk_X9_append_f58 (fun _ h9 => h9) rfl dX9_append_320 ?_
              refine lv_iload C.x C.b dX9_append_323 (lv_at hl 0 rfl) ?_
              refine k_lald C hX (hM.at 14 rfl) (vp_in_nI (by omega) (by omega)) dX9_append_325 ?_
              refine k_topl (y := b20 k) (by rw [nI_clamp (by omega)]) ?_
              refine k_last C hX (hM.at 14 rfl) (vp_in_nI (by omega) (by omega)) dX9_append_326 (fun H locs hX => ?_)
              rw [nI_clamp (by omega)] at hX
              obtain ⟨g9, hX, hM, hO⟩ := kX.wr hX hM hO 14 rfl (List.mem_of_getElem? (i := 14) rfl)
              have hM : kCs g9 (mC G h q i0 i1 i3 i7 i18 i22 i23 (nI 2) j16 j17 a2 a4 a5 a6 b8 b9 b10 a11 a12 a13 a14 b15 b19 (vp_updL b20 k (b20 k)) (mProd b21 b20 (b19 (4 * t)) (b19 (4 * t + 1)) (b19 (4 * t + 2)) (b19 (4 * t + 3))) a24 a25 a26) := hM
              rw [show (vp_updL b20 k (b20 k)) = b20 from vp_selfL _ _] at hM
              have hM : kCs g9 (mC G h q i0 i1 i3 i7 i18 i22 i23 (nI 2) j16 j17 a2 a4 a5 a6 b8 b9 b10 a11 a12 a13 a14 b15 b19 b20 (mProd b21 b20 (b19 (4 * t)) (b19 (4 * t + 1)) (b19 (4 * t + 2)) (b19 (4 * t + 3))) a24 a25 a26) := hM
              refine lv_iinc (v := (nI (k + 1))) (lv' := [(13, .int (nI (k + 1))), (12, .int (kbI (∀ j : Nat, j < 4 → mRl ((mProd b21 b20 (b19 (4 * t)) (b19 (4 * t + 1)) (b19 (4 * t + 2)) (b19 (4 * t + 3))) j)))), (0, .ref h)]) C.x C.b dX9_append_327 hl (k := 0) rfl (nI_1 _) (by decide) rfl (fun ls hl => ?_)
              refine lv_goto (tgt := 292) C.x C.b dX9_append_330 (by decide) ?_
              exact ih292 (k + 1) (by omega) (by omega) ls (lv_sub hl [0, 1, 2] rfl) _ hM hO _ _ hX
        exact LOOP292 _ 0 (by omega) (Nat.lt_succ_self _) ls (lv_sub hl [0, 1, 2] rfl) _ hM hO _ _ hX
      · skip
        have c_245 : ¬ (4 ≤ k) := fun h9 => c_245 ((nI_leI (by omega) (by omega)).mpr h9)
        refine lv_iload C.x C.b dX9_append_248 (lv_at hl 0 rfl) ?_
        refine lv_aload_n C.x C.b dX9_append_250 rfl (lv_at hl 2 rfl) ?_
        refine k_get (X := RX9) (T := TX9) (N := 28) (v := .ref (q 21)) C hX (hM.at 0 rfl) rfl hin_X9_append_RX9 21 (by decide) lk_X9_append_f61 (fun _ h9 => h9) rfl dX9_append_251 ?_
        refine lv_iload C.x C.b dX9_append_254 (lv_at hl 1 rfl) ?_
        refine k_lald C hX (hM.at 15 rfl) (vp_in_nI (by omega) (by omega)) dX9_append_256 ?_
        refine k_topl (y := (mProd b21 b20 (b19 (4 * t)) (b19 (4 * t + 1)) (b19 (4 * t + 2)) (b19 (4 * t + 3))) k) (by rw [nI_clamp (by omega)]) ?_
        refine lv_ldc2 (v := -1000000000) C.x C.b C.ow (C.ts _ lk_X9_append_c117) dX9_append_257 ?_
        refine lv_ldc2 (v := 1000000000) C.x C.b C.ow (C.ts _ lk_X9_append_c119) dX9_append_260 ?_
        refine k_calli (va_runS (As := [.long ((mProd b21 b20 (b19 (4 * t)) (b19 (4 * t + 1)) (b19 (4 * t + 2)) (b19 (4 * t + 3))) k), .long (-1000000000), .long 1000000000]) (rest := [.int (kbI (∀ j : Nat, j < k → mRl ((mProd b21 b20 (b19 (4 * t)) (b19 (4 * t + 1)) (b19 (4 * t + 2)) (b19 (4 * t + 3))) j)))]) C.1 (kX9_isIn l G B0 g5 ((mProd b21 b20 (b19 (4 * t)) (b19 (4 * t + 1)) (b19 (4 * t + 2)) (b19 (4 * t + 3))) k) (-1000000000) 1000000000) (va_cwS 3 C.ts gX9_append_X9_isIn rfl rfl rfl (hdX9_append_X9_isIn) ⟨Nat.le_of_ble_eq_true rfl, Nat.le_of_ble_eq_true rfl⟩) (k_preS C hX) rfl rfl hl.1 rfl (lv_room (Nat.le_of_ble_eq_true rfl)) dX9_append_263 ⟨Nat.le_of_ble_eq_true rfl, Nat.le_of_ble_eq_true rfl⟩) hX (fun r263 f263 H locs hp263 hX => ?_)
        obtain ⟨hr263, hf263⟩ := hp263
        rw [hf263] at hX
        refine k_topi (y := (kbI (mRl ((mProd b21 b20 (b19 (4 * t)) (b19 (4 * t + 1)) (b19 (4 * t + 2)) (b19 (4 * t + 3))) k)))) hr263 ?_
        refine lv_iand C.x C.b dX9_append_266 ?_
        refine k_topi (y := (kbI (∀ j : Nat, j < k + 1 → mRl ((mProd b21 b20 (b19 (4 * t)) (b19 (4 * t + 1)) (b19 (4 * t + 2)) (b19 (4 * t + 3))) j)))) (kbI_all (P := fun j => mRl ((mProd b21 b20 (b19 (4 * t)) (b19 (4 * t + 1)) (b19 (4 * t + 2)) (b19 (4 * t + 3))) j))) ?_
        refine lv_istore (lv' := [(12, .int (kbI (∀ j : Nat, j < k + 1 → mRl ((mProd b21 b20 (b19 (4 * t)) (b19 (4 * t + 1)) (b19 (4 * t + 2)) (b19 (4 * t + 3))) j)))), (13, .int (nI k)), (0, .ref h), (3, .int (nI (4 * t)))]) C.x C.b dX9_append_267 hl (by decide) rfl (fun ls hl => ?_)
        refine lv_iinc (v := (nI (k + 1))) (lv' := [(13, .int (nI (k + 1))), (12, .int (kbI (∀ j : Nat, j < k + 1 → mRl ((mProd b21 b20 (b19 (4 * t)) (b19 (4 * t + 1)) (b19 (4 * t + 2)) (b19 (4 * t + 3))) j)))), (0, .ref h), (3, .int (nI (4 * t)))]) C.x C.b dX9_append_269 hl (k := 1) rfl (nI_1 _) (by decide) rfl (fun ls hl => ?_)
        refine lv_goto (tgt := 242) C.x C.b dX9_append_272 (by decide) ?_
        exact ih242 (k + 1) (by omega) (by omega) ls (lv_sub hl [1, 0, 2, 3] rfl) _ _ hX
  exact LOOP242 _ 0 (by omega) (Nat.lt_succ_self _) ls (lv_sub hl [1, 0, 7, 6] rfl) _ _ hX

abbrev rmX9_append_u : Room := { frames := 1, cells := 0, slots := 0, locals := 25 }
set_option maxHeartbeats 4000000 in
set_option maxRecDepth 100000 in
/-- X9_append_u -/
theorem kX9_append_u (l : Launch) (G : kG) (B0 : Nat) (f : kH) (h : Nat) (q : Nat → Nat) (i0 i1 i3 i7 i18 i22 i23 i27 : Int32) (j16 j17 : Int64) (a2 : Nat → Int32) (a4 : Nat → Int32) (a5 : Nat → Int32) (a6 : Nat → Int32) (b8 : Nat → Int64) (b9 : Nat → Int64) (b10 : Nat → Int64) (a11 : Nat → Int32) (a12 : Nat → Int32) (a13 : Nat → Int32) (a14 : Nat → Int32) (b15 : Nat → Int64) (b19 : Nat → Int64) (b20 : Nat → Int64) (b21 : Nat → Int64) (a24 : Nat → Int32) (a25 : Nat → Int32) (a26 : Nat → Int32) (t m9 : Nat) (hM : kCs f (mC G h q i0 i1 i3 i7 i18 i22 i23 i27 j16 j17 a2 a4 a5 a6 b8 b9 b10 a11 a12 a13 a14 b15 b19 b20 b21 a24 a25 a26)) (hm0 : i18 = nI m9) (hm9 : m9 ≤ 4) (ht : t < m9) (hp : ∀ j : Nat, j < 4 → mRl ((mProd b21 b20 (b19 (4 * t + 3)) (-b19 (4 * t + 1)) (-b19 (4 * t + 2)) (b19 (4 * t))) j)) : Met l yX9_append wsX9_append (rmX9_append_u) (kP G B0 f [.ref h, .int (nI t), .int (nI 1)]) (kQi G B0 (fun r f1 => r = ((mCopy0 b20 (mProd b21 b20 (b19 (4 * t + 3)) (-b19 (4 * t + 1)) (-b19 (4 * t + 2)) (b19 (4 * t))) 4) 0 + (mCopy0 b20 (mProd b21 b20 (b19 (4 * t + 3)) (-b19 (4 * t + 1)) (-b19 (4 * t + 2)) (b19 (4 * t))) 4) 3).toInt32 ∧ kCs f1 (mC G h q i0 i1 i3 i7 i18 i22 i23 (nI 0) j16 j17 a2 a4 a5 a6 b8 b9 b10 a11 a12 a13 a14 b15 b19 (mCopy0 b20 (mProd b21 b20 (b19 (4 * t + 3)) (-b19 (4 * t + 1)) (-b19 (4 * t + 2)) (b19 (4 * t))) 4) (mProd b21 b20 (b19 (4 * t + 3)) (-b19 (4 * t + 1)) (-b19 (4 * t + 2)) (b19 (4 * t))) a24 a25 a26) ∧ kOff (mAs h q) f f1)) 0 0 (kAb B0) := by
  refine kMet (cc := cX9_append) (maxL := 14) (ret := (some .int)) (by decide) rfl (Nat.le_of_ble_eq_true rfl) ?_
  intro p e s m args below meth c H locs Q ls C hX hl hr hlocks hnm hQ
  have hO : kOff (mAs h q) f f := kOff.rf
  have hl : lv_has ls 14 [(0, .ref h), (1, .int (nI t)), (2, .int (nI 1))] := hl
  refine lv_aload_n C.x C.b dX9_append_0 rfl (lv_at hl 0 rfl) ?_
  refine lv_iload_n C.x C.b dX9_append_1 rfl (lv_at hl 1 rfl) ?_
  refine lv_i2l (v := (nI t).toInt64) C.x C.b dX9_append_2 rfl ?_
  refine lv_lconst (v := 0) C.x C.b dX9_append_3 (by decide) ?_
  refine lv_aload_n C.x C.b dX9_append_4 rfl (lv_at hl 0 rfl) ?_
  refine k_get (X := RX9) (T := TX9) (N := 28) (v := .int i18) C hX (hM.at 0 rfl) rfl hin_X9_append_RX9 18 (by decide) lk_X9_append_f202 (fun _ h9 => h9) rfl dX9_append_5 ?_
  refine k_topi (y := (nI m9)) (hm0) ?_
  refine lv_iconst (v := nI 1) C.x C.b dX9_append_8 (by decide) ?_
  refine lv_isub C.x C.b dX9_append_9 ?_
  refine lv_i2l (v := ((nI m9) - (nI 1)).toInt64) C.x C.b dX9_append_10 rfl ?_
  refine k_calli (va_runS (As := [.long ((nI t).toInt64), .long 0, .long (((nI m9) - (nI 1)).toInt64)]) (rest := [.ref h]) C.1 (kX9_isIn l G B0 f ((nI t).toInt64) 0 ((nI m9 - nI 1).toInt64)) (va_cwS 3 C.ts gX9_append_X9_isIn rfl rfl rfl (hdX9_append_X9_isIn) ⟨Nat.le_of_ble_eq_true rfl, Nat.le_of_ble_eq_true rfl⟩) (k_preS C hX) rfl rfl hl.1 rfl (lv_room (Nat.le_of_ble_eq_true rfl)) dX9_append_11 ⟨Nat.le_of_ble_eq_true rfl, Nat.le_of_ble_eq_true rfl⟩) hX (fun r11 f11 H locs hp11 hX => ?_)
  obtain ⟨hr11, hf11⟩ := hp11
  rw [hf11] at hX
  refine k_topi (y := (kbI ((0 : Int64) ≤ (nI t).toInt64 ∧ (nI t).toInt64 ≤ (nI m9 - nI 1).toInt64))) hr11 ?_
  refine k_topi (y := (kbI (mIn (nI t) m9))) (kbI_c (m_in (by omega))) ?_
  refine lv_if_eq (tgt := 21) C.x C.b dX9_append_14 (by decide) (fun c_14 => ?_) (fun c_14 => ?_)
  · exact absurd ((mIn_nI (by omega)).mpr ht) (kbI_0 c_14)
  refine lv_iconst (v := nI 0) C.x C.b dX9_append_17 (by decide) ?_
  refine lv_goto (tgt := 22) C.x C.b dX9_append_18 (by decide) ?_
  refine k_put (X := RX9) (T := TX9) (N := 28) (ty := .int) (v := .int (nI 0)) C hX (hM.at 0 rfl) rfl hin_X9_append_RX9 tyX9_ok nmX9 27 (by decide) lk_X9_append_f80 (fun _ h9 => h9) rfl (by decide +kernel) rfl rfl (Nat.le_of_ble_eq_true rfl) dX9_append_22 (fun H locs hX => ?_)
  obtain ⟨g1, hX, hM, hO⟩ := kX.wr hX hM hO 0 rfl (List.mem_of_getElem? (i := 0) rfl)
  have hM : kCs g1 (mC G h q i0 i1 i3 i7 i18 i22 i23 (nI 0) j16 j17 a2 a4 a5 a6 b8 b9 b10 a11 a12 a13 a14 b15 b19 b20 b21 a24 a25 a26) := hM
  refine lv_aload_n C.x C.b dX9_append_25 rfl (lv_at hl 0 rfl) ?_
  refine k_get (X := RX9) (T := TX9) (N := 28) (v := .int (nI 0)) C hX (hM.at 0 rfl) rfl hin_X9_append_RX9 27 (by decide) lk_X9_append_f80 (fun _ h9 => h9) rfl dX9_append_26 ?_
  refine lv_if_le (tgt := 34) C.x C.b dX9_append_29 (by decide) (fun c_29 => ?_) (fun c_29 => ?_)
  rotate_left
  · exact absurd c_29 (by decide)
  refine lv_iconst (v := nI 4) C.x C.b dX9_append_34 (by decide) ?_
  refine lv_iload_n C.x C.b dX9_append_35 rfl (lv_at hl 1 rfl) ?_
  refine lv_imul C.x C.b dX9_append_36 ?_
  refine k_topi (y := nI (4 * t)) (pk_mul _ _) ?_
  refine lv_istore_n (lv' := [(3, .int (nI (4 * t))), (0, .ref h), (1, .int (nI t)), (2, .int (nI 1))]) C.x C.b dX9_append_37 rfl hl (by decide) rfl (fun ls hl => ?_)
  refine lv_iload_n C.x C.b dX9_append_38 rfl (lv_at hl 3 rfl) ?_
  refine lv_if_eq (tgt := 53) C.x C.b dX9_append_39 (by decide) (fun c_39 => ?_) (fun c_39 => ?_)
  · exact absurd c_39 (by decide)
  refine lv_aload_n C.x C.b dX9_append_42 rfl (lv_at hl 1 rfl) ?_
  refine k_get (X := RX9) (T := TX9) (N := 28) (v := .ref (q 19)) C hX (hM.at 0 rfl) rfl hin_X9_append_RX9 19 (by decide) lk_X9_append_f55 (fun _ h9 => h9) rfl dX9_append_43 ?_
  refine lv_iload_n C.x C.b dX9_append_46 rfl (lv_at hl 0 rfl) ?_
  refine lv_iconst (v := nI 3) C.x C.b dX9_append_47 (by decide) ?_
  refine lv_iadd C.x C.b dX9_append_48 ?_
  refine k_topi (y := nI ((4 * t) + 3)) (nI_add _ _) ?_
  refine k_lald C hX (hM.at 13 rfl) (vp_in_nI (by omega) (by omega)) dX9_append_49 ?_
  refine k_topl (y := b19 ((4 * t) + 3)) (by rw [nI_clamp (by omega)]) ?_
  refine lv_goto (tgt := 59) C.x C.b dX9_append_50 (by decide) ?_
  refine lv_lstore (lv' := [(4, .long (b19 ((4 * t) + 3))), (3, .int (nI (4 * t))), (0, .ref h), (1, .int (nI t)), (2, .int (nI 1))]) C.x C.b dX9_append_59 hl (by decide) rfl (fun ls hl => ?_)
  refine lv_iload_n C.x C.b dX9_append_61 rfl (lv_at hl 4 rfl) ?_
  refine lv_if_eq (tgt := 77) C.x C.b dX9_append_62 (by decide) (fun c_62 => ?_) (fun c_62 => ?_)
  · exact absurd c_62 (by decide)
  refine lv_aload_n C.x C.b dX9_append_65 rfl (lv_at hl 2 rfl) ?_
  refine k_get (X := RX9) (T := TX9) (N := 28) (v := .ref (q 19)) C hX (hM.at 0 rfl) rfl hin_X9_append_RX9 19 (by decide) lk_X9_append_f55 (fun _ h9 => h9) rfl dX9_append_66 ?_
  refine lv_iload_n C.x C.b dX9_append_69 rfl (lv_at hl 1 rfl) ?_
  refine lv_iconst (v := nI 1) C.x C.b dX9_append_70 (by decide) ?_
  refine lv_iadd C.x C.b dX9_append_71 ?_
  refine k_topi (y := nI ((4 * t) + 1)) (nI_add _ _) ?_
  refine k_lald C hX (hM.at 13 rfl) (vp_in_nI (by omega) (by omega)) dX9_append_72 ?_
  refine k_topl (y := b19 ((4 * t) + 1)) (by rw [nI_clamp (by omega)]) ?_
  refine lv_lneg C.x C.b dX9_append_73 ?_
  refine lv_goto (tgt := 85) C.x C.b dX9_append_74 (by decide) ?_
  refine lv_lstore (lv' := [(6, .long (-(b19 ((4 * t) + 1)))), (4, .long (b19 ((4 * t) + 3))), (3, .int (nI (4 * t))), (0, .ref h), (1, .int (nI t)), (2, .int (nI 1))]) C.x C.b dX9_append_85 hl (by decide) rfl (fun ls hl => ?_)
  refine lv_iload_n C.x C.b dX9_append_87 rfl (lv_at hl 5 rfl) ?_
  refine lv_if_eq (tgt := 103) C.x C.b dX9_append_88 (by decide) (fun c_88 => ?_) (fun c_88 => ?_)
  · exact absurd c_88 (by decide)
  refine lv_aload_n C.x C.b dX9_append_91 rfl (lv_at hl 3 rfl) ?_
  refine k_get (X := RX9) (T := TX9) (N := 28) (v := .ref (q 19)) C hX (hM.at 0 rfl) rfl hin_X9_append_RX9 19 (by decide) lk_X9_append_f55 (fun _ h9 => h9) rfl dX9_append_92 ?_
  refine lv_iload_n C.x C.b dX9_append_95 rfl (lv_at hl 2 rfl) ?_
  refine lv_iconst (v := nI 2) C.x C.b dX9_append_96 (by decide) ?_
  refine lv_iadd C.x C.b dX9_append_97 ?_
  refine k_topi (y := nI ((4 * t) + 2)) (nI_add _ _) ?_
  refine k_lald C hX (hM.at 13 rfl) (vp_in_nI (by omega) (by omega)) dX9_append_98 ?_
  refine k_topl (y := b19 ((4 * t) + 2)) (by rw [nI_clamp (by omega)]) ?_
  refine lv_lneg C.x C.b dX9_append_99 ?_
  refine lv_goto (tgt := 111) C.x C.b dX9_append_100 (by decide) ?_
  refine lv_lstore (lv' := [(8, .long (-(b19 ((4 * t) + 2)))), (6, .long (-(b19 ((4 * t) + 1)))), (4, .long (b19 ((4 * t) + 3))), (3, .int (nI (4 * t))), (0, .ref h), (1, .int (nI t)), (2, .int (nI 1))]) C.x C.b dX9_append_111 hl (by decide) rfl (fun ls hl => ?_)
  refine lv_iload_n C.x C.b dX9_append_113 rfl (lv_at hl 6 rfl) ?_
  refine lv_if_eq (tgt := 126) C.x C.b dX9_append_114 (by decide) (fun c_114 => ?_) (fun c_114 => ?_)
  · exact absurd c_114 (by decide)
  refine lv_aload_n C.x C.b dX9_append_117 rfl (lv_at hl 4 rfl) ?_
  refine k_get (X := RX9) (T := TX9) (N := 28) (v := .ref (q 19)) C hX (hM.at 0 rfl) rfl hin_X9_append_RX9 19 (by decide) lk_X9_append_f55 (fun _ h9 => h9) rfl dX9_append_118 ?_
  refine lv_iload_n C.x C.b dX9_append_121 rfl (lv_at hl 3 rfl) ?_
  refine k_lald C hX (hM.at 13 rfl) (vp_in_nI (by omega) (by omega)) dX9_append_122 ?_
  refine k_topl (y := b19 (4 * t)) (by rw [nI_clamp (by omega)]) ?_
  refine lv_goto (tgt := 134) C.x C.b dX9_append_123 (by decide) ?_
  refine lv_lstore (lv' := [(10, .long (b19 (4 * t))), (8, .long (-(b19 ((4 * t) + 2)))), (6, .long (-(b19 ((4 * t) + 1)))), (4, .long (b19 ((4 * t) + 3))), (3, .int (nI (4 * t))), (0, .ref h), (1, .int (nI t)), (2, .int (nI 1))]) C.x C.b dX9_append_134 hl (by decide) rfl (fun ls hl => ?_)
  refine lv_aload_n C.x C.b dX9_append_136 rfl (lv_at hl 5 rfl) ?_
  refine k_get (X := RX9) (T := TX9) (N := 28) (v := .ref (q 21)) C hX (hM.at 0 rfl) rfl hin_X9_append_RX9 21 (by decide) lk_X9_append_f61 (fun _ h9 => h9) rfl dX9_append_137 ?_
  refine lv_iconst (v := nI 0) C.x C.b dX9_append_140 (by decide) ?_
  refine lv_aload_n C.x C.b dX9_append_141 rfl (lv_at hl 5 rfl) ?_
  refine k_get (X := RX9) (T := TX9) (N := 28) (v := .ref (q 20)) C hX (hM.at 0 rfl) rfl hin_X9_append_RX9 20 (by decide) lk_X9_append_f58 (fun _ h9 => h9) rfl dX9_append_142 ?_
  refine lv_iconst (v := nI 0) C.x C.b dX9_append_145 (by decide) ?_
  refine k_lald C hX (hM.at 14 rfl) (vp_in_nI (by omega) (by omega)) dX9_append_146 ?_
  refine k_topl (y := b20 0) (by rw [nI_clamp (by omega)]) ?_
  refine lv_lload C.x C.b dX9_append_147 (lv_at hl 3 rfl) ?_
  refine lv_lmul C.x C.b dX9_append_149 ?_
  refine lv_aload_n C.x C.b dX9_append_150 rfl (lv_at hl 5 rfl) ?_
  refine k_get (X := RX9) (T := TX9) (N := 28) (v := .ref (q 20)) C hX (hM.at 0 rfl) rfl hin_X9_append_RX9 20 (by decide) lk_X9_append_f58 (fun _ h9 => h9) rfl dX9_append_151 ?_
  refine lv_iconst (v := nI 1) C.x C.b dX9_append_154 (by decide) ?_
  refine k_lald C hX (hM.at 14 rfl) (vp_in_nI (by omega) (by omega)) dX9_append_155 ?_
  refine k_topl (y := b20 1) (by rw [nI_clamp (by omega)]) ?_
  refine lv_lload C.x C.b dX9_append_156 (lv_at hl 1 rfl) ?_
  refine lv_lmul C.x C.b dX9_append_158 ?_
  refine lv_ladd C.x C.b dX9_append_159 ?_
  refine k_last C hX (hM.at 15 rfl) (vp_in_nI (by omega) (by omega)) dX9_append_160 (fun H locs hX => ?_)
  rw [nI_clamp (by omega)] at hX
  obtain ⟨g2, hX, hM, hO⟩ := kX.wr hX hM hO 15 rfl (List.mem_of_getElem? (i := 15) rfl)
  have hM : kCs g2 (mC G h q i0 i1 i3 i7 i18 i22 i23 (nI 0) j16 j17 a2 a4 a5 a6 b8 b9 b10 a11 a12 a13 a14 b15 b19 b20 (vp_updL b21 0 (((b20 0) * (b19 ((4 * t) + 3))) + ((b20 1) * (-(b19 ((4 * t) + 2)))))) a24 a25 a26) := hM
  refine lv_aload_n C.x C.b dX9_append_161 rfl (lv_at hl 5 rfl) ?_
  refine k_get (X := RX9) (T := TX9) (N := 28) (v := .ref (q 21)) C hX (hM.at 0 rfl) rfl hin_X9_append_RX9 21 (by decide) lk_X9_append_f61 (fun _ h9 => h9) rfl dX9_append_162 ?_
  refine lv_iconst (v := nI 1) C.x C.b dX9_append_165 (by decide) ?_
  refine lv_aload_n C.x C.b dX9_append_166 rfl (lv_at hl 5 rfl) ?_
  refine k_get (X := RX9) (T := TX9) (N := 28) (v := .ref (q 20)) C hX (hM.at 0 rfl) rfl hin_X9_append_RX9 20 (by decide) lk_X9_append_f58 (fun _ h9 => h9) rfl dX9_append_167 ?_
  refine lv_iconst (v := nI 0) C.x C.b dX9_append_170 (by decide) ?_
  refine k_lald C hX (hM.at 14 rfl) (vp_in_nI (by omega) (by omega)) dX9_append_171 ?_
  refine k_topl (y := b20 0) (by rw [nI_clamp (by omega)]) ?_
  refine lv_lload C.x C.b dX9_append_172 (lv_at hl 2 rfl) ?_
  refine lv_lmul C.x C.b dX9_append_174 ?_
  refine lv_aload_n C.x C.b dX9_append_175 rfl (lv_at hl 5 rfl) ?_
  refine k_get (X := RX9) (T := TX9) (N := 28) (v := .ref (q 20)) C hX (hM.at 0 rfl) rfl hin_X9_append_RX9 20 (by decide) lk_X9_append_f58 (fun _ h9 => h9) rfl dX9_append_176 ?_
  refine lv_iconst (v := nI 1) C.x C.b dX9_append_179 (by decide) ?_
  refine k_lald C hX (hM.at 14 rfl) (vp_in_nI (by omega) (by omega)) dX9_append_180 ?_
  refine k_topl (y := b20 1) (by rw [nI_clamp (by omega)]) ?_
  refine lv_lload C.x C.b dX9_append_181 (lv_at hl 0 rfl) ?_
  refine lv_lmul C.x C.b dX9_append_183 ?_
  refine lv_ladd C.x C.b dX9_append_184 ?_
  refine k_last C hX (hM.at 15 rfl) (vp_in_nI (by omega) (by omega)) dX9_append_185 (fun H locs hX => ?_)
  rw [nI_clamp (by omega)] at hX
  obtain ⟨g3, hX, hM, hO⟩ := kX.wr hX hM hO 15 rfl (List.mem_of_getElem? (i := 15) rfl)
  have hM : kCs g3 (mC G h q i0 i1 i3 i7 i18 i22 i23 (nI 0) j16 j17 a2 a4 a5 a6 b8 b9 b10 a11 a12 a13 a14 b15 b19 b20 (vp_updL (vp_updL b21 0 (((b20 0) * (b19 ((4 * t) + 3))) + ((b20 1) * (-(b19 ((4 * t) + 2)))))) 1 (((b20 0) * (-(b19 ((4 * t) + 1)))) + ((b20 1) * (b19 (4 * t))))) a24 a25 a26) := hM
  refine lv_aload_n C.x C.b dX9_append_186 rfl (lv_at hl 5 rfl) ?_
  refine k_get (X := RX9) (T := TX9) (N := 28) (v := .ref (q 21)) C hX (hM.at 0 rfl) rfl hin_X9_append_RX9 21 (by decide) lk_X9_append_f61 (fun _ h9 => h9) rfl dX9_append_187 ?_
  refine lv_iconst (v := nI 2) C.x C.b dX9_append_190 (by decide) ?_
  refine lv_aload_n C.x C.b dX9_append_191 rfl (lv_at hl 5 rfl) ?_
  refine k_get (X := RX9) (T := TX9) (N := 28) (v := .ref (q 20)) C hX (hM.at 0 rfl) rfl hin_X9_append_RX9 20 (by decide) lk_X9_append_f58 (fun _ h9 => h9) rfl dX9_append_192 ?_
  refine lv_iconst (v := nI 2) C.x C.b dX9_append_195 (by decide) ?_
  refine k_lald C hX (hM.at 14 rfl) (vp_in_nI (by omega) (by omega)) dX9_append_196 ?_
  refine k_topl (y := b20 2) (by rw [nI_clamp (by omega)]) ?_
  refine lv_lload C.x C.b dX9_append_197 (lv_at hl 3 rfl) ?_
  refine lv_lmul C.x C.b dX9_append_199 ?_
  refine lv_aload_n C.x C.b dX9_append_200 rfl (lv_at hl 5 rfl) ?_
  refine k_get (X := RX9) (T := TX9) (N := 28) (v := .ref (q 20)) C hX (hM.at 0 rfl) rfl hin_X9_append_RX9 20 (by decide) lk_X9_append_f58 (fun _ h9 => h9) rfl dX9_append_201 ?_
  refine lv_iconst (v := nI 3) C.x C.b dX9_append_204 (by decide) ?_
  refine k_lald C hX (hM.at 14 rfl) (vp_in_nI (by omega) (by omega)) dX9_append_205 ?_
  refine k_topl (y := b20 3) (by rw [nI_clamp (by omega)]) ?_
  refine lv_lload C.x C.b dX9_append_206 (lv_at hl 1 rfl) ?_
  refine lv_lmul C.x C.b dX9_append_208 ?_
  refine lv_ladd C.x C.b dX9_append_209 ?_
  refine k_last C hX (hM.at 15 rfl) (vp_in_nI (by omega) (by omega)) dX9_append_210 (fun H locs hX => ?_)
  rw [nI_clamp (by omega)] at hX
  obtain ⟨g4, hX, hM, hO⟩ := kX.wr hX hM hO 15 rfl (List.mem_of_getElem? (i := 15) rfl)
  have hM : kCs g4 (mC G h q i0 i1 i3 i7 i18 i22 i23 (nI 0) j16 j17 a2 a4 a5 a6 b8 b9 b10 a11 a12 a13 a14 b15 b19 b20 (vp_updL (vp_updL (vp_updL b21 0 (((b20 0) * (b19 ((4 * t) + 3))) + ((b20 1) * (-(b19 ((4 * t) + 2)))))) 1 (((b20 0) * (-(b19 ((4 * t) + 1)))) + ((b20 1) * (b19 (4 * t))))) 2 (((b20 2) * (b19 ((4 * t) + 3))) + ((b20 3) * (-(b19 ((4 * t) + 2)))))) a24 a25 a26) := hM
  refine lv_aload_n C.x C.b dX9_append_211 rfl (lv_at hl 5 rfl) ?_
  refine k_get (X := RX9) (T := TX9) (N := 28) (v := .ref (q 21)) C hX (hM.at 0 rfl) rfl hin_X9_append_RX9 21 (by decide) lk_X9_append_f61 (fun _ h9 => h9) rfl dX9_append_212 ?_
  refine lv_iconst (v := nI 3) C.x C.b dX9_append_215 (by decide) ?_
  refine lv_aload_n C.x C.b dX9_append_216 rfl (lv_at hl 5 rfl) ?_
  refine k_get (X := RX9) (T := TX9) (N := 28) (v := .ref (q 20)) C hX (hM.at 0 rfl) rfl hin_X9_append_RX9 20 (by decide) lk_X9_append_f58 (fun _ h9 => h9) rfl dX9_append_217 ?_
  refine lv_iconst (v := nI 2) C.x C.b dX9_append_220 (by decide) ?_
  refine k_lald C hX (hM.at 14 rfl) (vp_in_nI (by omega) (by omega)) dX9_append_221 ?_
  refine k_topl (y := b20 2) (by rw [nI_clamp (by omega)]) ?_
  refine lv_lload C.x C.b dX9_append_222 (lv_at hl 2 rfl) ?_
  refine lv_lmul C.x C.b dX9_append_224 ?_
  refine lv_aload_n C.x C.b dX9_append_225 rfl (lv_at hl 5 rfl) ?_
  refine k_get (X := RX9) (T := TX9) (N := 28) (v := .ref (q 20)) C hX (hM.at 0 rfl) rfl hin_X9_append_RX9 20 (by decide) lk_X9_append_f58 (fun _ h9 => h9) rfl dX9_append_226 ?_
  refine lv_iconst (v := nI 3) C.x C.b dX9_append_229 (by decide) ?_
  refine k_lald C hX (hM.at 14 rfl) (vp_in_nI (by omega) (by omega)) dX9_append_230 ?_
  refine k_topl (y := b20 3) (by rw [nI_clamp (by omega)]) ?_
  refine lv_lload C.x C.b dX9_append_231 (lv_at hl 0 rfl) ?_
  refine lv_lmul C.x C.b dX9_append_233 ?_
  refine lv_ladd C.x C.b dX9_append_234 ?_
  refine k_last C hX (hM.at 15 rfl) (vp_in_nI (by omega) (by omega)) dX9_append_235 (fun H locs hX => ?_)
  rw [nI_clamp (by omega)] at hX
  obtain ⟨g5, hX, hM, hO⟩ := kX.wr hX hM hO 15 rfl (List.mem_of_getElem? (i := 15) rfl)
  have hM : kCs g5 (mC G h q i0 i1 i3 i7 i18 i22 i23 (nI 0) j16 j17 a2 a4 a5 a6 b8 b9 b10 a11 a12 a13 a14 b15 b19 b20 (vp_updL (vp_updL (vp_updL (vp_updL b21 0 (((b20 0) * (b19 ((4 * t) + 3))) + ((b20 1) * (-(b19 ((4 * t) + 2)))))) 1 (((b20 0) * (-(b19 ((4 * t) + 1)))) + ((b20 1) * (b19 (4 * t))))) 2 (((b20 2) * (b19 ((4 * t) + 3))) + ((b20 3) * (-(b19 ((4 * t) + 2)))))) 3 (((b20 2) * (-(b19 ((4 * t) + 1)))) + ((b20 3) * (b19 (4 * t))))) a24 a25 a26) := hM
  rw [show (vp_updL (vp_updL (vp_updL (vp_updL b21 0 (((b20 0) * (b19 ((4 * t) + 3))) + ((b20 1) * (-(b19 ((4 * t) + 2)))))) 1 (((b20 0) * (-(b19 ((4 * t) + 1)))) + ((b20 1) * (b19 (4 * t))))) 2 (((b20 2) * (b19 ((4 * t) + 3))) + ((b20 3) * (-(b19 ((4 * t) + 2)))))) 3 (((b20 2) * (-(b19 ((4 * t) + 1)))) + ((b20 3) * (b19 (4 * t))))) = (mProd b21 b20 (b19 (4 * t + 3)) (-b19 (4 * t + 1)) (-b19 (4 * t + 2)) (b19 (4 * t))) from rfl] at hM
  have hM : kCs g5 (mC G h q i0 i1 i3 i7 i18 i22 i23 (nI 0) j16 j17 a2 a4 a5 a6 b8 b9 b10 a11 a12 a13 a14 b15 b19 b20 (mProd b21 b20 (b19 (4 * t + 3)) (-b19 (4 * t + 1)) (-b19 (4 * t + 2)) (b19 (4 * t))) a24 a25 a26) := hM
  refine lv_iconst (v := nI 1) C.x C.b dX9_append_236 (by decide) ?_
  refine lv_istore (lv' := [(12, .int (nI 1)), (10, .long (b19 (4 * t))), (8, .long (-(b19 ((4 * t) + 2)))), (6, .long (-(b19 ((4 * t) + 1)))), (4, .long (b19 ((4 * t) + 3))), (3, .int (nI (4 * t))), (0, .ref h), (1, .int (nI t)), (2, .int (nI 1))]) C.x C.b dX9_append_237 hl (by decide) rfl (fun ls hl => ?_)
  refine lv_iconst (v := nI 0) C.x C.b dX9_append_239 (by decide) ?_
  refine lv_istore (lv' := [(13, .int (nI 0)), (12, .int (nI 1)), (10, .long (b19 (4 * t))), (8, .long (-(b19 ((4 * t) + 2)))), (6, .long (-(b19 ((4 * t) + 1)))), (4, .long (b19 ((4 * t) + 3))), (3, .int (nI (4 * t))), (0, .ref h), (1, .int (nI t)), (2, .int (nI 1))]) C.x C.b dX9_append_240 hl (by decide) rfl (fun ls hl => ?_)
  rw [show (nI 1) = (kbI (∀ j : Nat, j < 0 → mRl ((mProd b21 b20 (b19 (4 * t + 3)) (-b19 (4 * t + 1)) (-b19 (4 * t + 2)) (b19 (4 * t))) j))) from kbI_tN (fun j hj => absurd hj (Nat.not_lt_zero _))] at hl
  have LOOP242 : ∀ (n : Nat) (k : Nat), (k ≤ 4) → (4 - k) < n → ∀ (ls : Array Slot), lv_has ls 14 [(12, .int (kbI (∀ j : Nat, j < k → mRl ((mProd b21 b20 (b19 (4 * t + 3)) (-b19 (4 * t + 1)) (-b19 (4 * t + 2)) (b19 (4 * t))) j)))), (13, .int (nI k)), (0, .ref h), (3, .int (nI (4 * t)))] → ∀ (H : Heap) (locs : List Loc), kX G B0 s g5 H locs → W p l e (rmX9_append_u) s m args below meth c H locs 0 0 Q (F0 m 242 ls []) := by
    intro n242
    induction n242 with
    | zero => intro k hk hn; exact absurd hn (Nat.not_lt_zero _)
    | succ n242 ih242 =>
      intro k hk hn ls hl H locs hX
      refine lv_iload C.x C.b dX9_append_242 (lv_at hl 1 rfl) ?_
      refine lv_iconst (v := nI 4) C.x C.b dX9_append_244 (by decide) ?_
      refine lv_icmp_ge (tgt := 275) C.x C.b dX9_append_245 (by decide) (fun c_245 => ?_) (fun c_245 => ?_)
      · skip
        have c_245 : 4 ≤ k := (nI_leI (by omega) (by omega)).mp c_245
        have hk9 : 4 = k := by omega
        subst hk9
        refine lv_aload_n C.x C.b dX9_append_275 rfl (lv_at hl 2 rfl) ?_
        refine lv_iload C.x C.b dX9_append_276 (lv_at hl 0 rfl) ?_
        refine lv_if_eq (tgt := 285) C.x C.b dX9_append_278 (by decide) (fun c_278 => ?_) (fun c_278 => ?_)
        · exact absurd (hp) (kbI_0 c_278)
        refine lv_iconst (v := nI 0) C.x C.b dX9_append_281 (by decide) ?_
        refine lv_goto (tgt := 286) C.x C.b dX9_append_282 (by decide) ?_
        refine k_put (X := RX9) (T := TX9) (N := 28) (ty := .int) (v := .int (nI 0)) C hX (hM.at 0 rfl) rfl hin_X9_append_RX9 tyX9_ok nmX9 27 (by decide) lk_X9_append_f80 (fun _ h9 => h9) rfl (by decide +kernel) rfl rfl (Nat.le_of_ble_eq_true rfl) dX9_append_286 (fun H locs hX => ?_)
        obtain ⟨g7, hX, hM, hO⟩ := kX.wr hX hM hO 0 rfl (List.mem_of_getElem? (i := 0) rfl)
        have hM : kCs g7 (mC G h q i0 i1 i3 i7 i18 i22 i23 (nI 0) j16 j17 a2 a4 a5 a6 b8 b9 b10 a11 a12 a13 a14 b15 b19 b20 (mProd b21 b20 (b19 (4 * t + 3)) (-b19 (4 * t + 1)) (-b19 (4 * t + 2)) (b19 (4 * t))) a24 a25 a26) := hM
        refine lv_iconst (v := nI 0) C.x C.b dX9_append_289 (by decide) ?_
        refine lv_istore (lv' := [(13, .int (nI 0)), (12, .int (kbI (∀ j : Nat, j < 4 → mRl ((mProd b21 b20 (b19 (4 * t + 3)) (-b19 (4 * t + 1)) (-b19 (4 * t + 2)) (b19 (4 * t))) j)))), (0, .ref h), (3, .int (nI (4 * t)))]) C.x C.b dX9_append_290 hl (by decide) rfl (fun ls hl => ?_)
        have LOOP292 : ∀ (n : Nat) (k : Nat), (k ≤ 4) → (4 - k) < n → ∀ (ls : Array Slot), lv_has ls 14 [(13, .int (nI k)), (12, .int (kbI (∀ j : Nat, j < 4 → mRl ((mProd b21 b20 (b19 (4 * t + 3)) (-b19 (4 * t + 1)) (-b19 (4 * t + 2)) (b19 (4 * t))) j)))), (0, .ref h)] → ∀ (fL : kH), kCs fL (mC G h q i0 i1 i3 i7 i18 i22 i23 (nI 0) j16 j17 a2 a4 a5 a6 b8 b9 b10 a11 a12 a13 a14 b15 b19 (mCopy0 b20 (mProd b21 b20 (b19 (4 * t + 3)) (-b19 (4 * t + 1)) (-b19 (4 * t + 2)) (b19 (4 * t))) k) (mProd b21 b20 (b19 (4 * t + 3)) (-b19 (4 * t + 1)) (-b19 (4 * t + 2)) (b19 (4 * t))) a24 a25 a26) → kOff (mAs h q) f fL → ∀ (H : Heap) (locs : List Loc), kX G B0 s fL H locs → W p l e (rmX9_append_u) s m args below meth c H locs 0 0 Q (F0 m 292 ls []) := by
          intro n292
          induction n292 with
          | zero => intro k hk hn; exact absurd hn (Nat.not_lt_zero _)
          | succ n292 ih292 =>
            intro k hk hn ls hl fL hM hO H locs hX
            refine lv_iload C.x C.b dX9_append_292 (lv_at hl 0 rfl) ?_
            refine lv_iconst (v := nI 4) C.x C.b dX9_append_294 (by decide) ?_
            refine lv_icmp_ge (tgt := 333) C.x C.b dX9_append_295 (by decide) (fun c_295 => ?_) (fun c_295 => ?_)
            · skip
              have c_295 : 4 ≤ k := (nI_leI (by omega) (by omega)).mp c_295
              have hk9 : 4 = k := by omega
              subst hk9
              refine lv_aload_n C.x C.b dX9_append_333 rfl (lv_at hl 2 rfl) ?_
              refine k_get (X := RX9) (T := TX9) (N := 28) (v := .int (nI 0)) C hX (hM.at 0 rfl) rfl hin_X9_append_RX9 27 (by decide) lk_X9_append_f80 (fun _ h9 => h9) rfl dX9_append_334 ?_
              refine lv_if_le (tgt := 344) C.x C.b dX9_append_337 (by decide) (fun c_337 => ?_) (fun c_337 => ?_)
              rotate_left
              · exact absurd c_337 (by decide)
              refine lv_aload_n C.x C.b dX9_append_344 rfl (lv_at hl 2 rfl) ?_
              refine k_get (X := RX9) (T := TX9) (N := 28) (v := .ref (q 20)) C hX (hM.at 0 rfl) rfl hin_X9_append_RX9 20 (by decide) lk_X9_append_f58 (fun _ h9 => h9) rfl dX9_append_345 ?_
              refine lv_iconst (v := nI 0) C.x C.b dX9_append_348 (by decide) ?_
              refine k_lald C hX (hM.at 14 rfl) (vp_in_nI (by omega) (by omega)) dX9_append_349 ?_
              refine k_topl (y := (mCopy0 b20 (mProd b21 b20 (b19 (4 * t + 3)) (-b19 (4 * t + 1)) (-b19 (4 * t + 2)) (b19 (4 * t))) 4) 0) (by rw [nI_clamp (by omega)]) ?_
              refine lv_aload_n C.x C.b dX9_append_350 rfl (lv_at hl 2 rfl) ?_
              refine k_get (X := RX9) (T := TX9) (N := 28) (v := .ref (q 20)) C hX (hM.at 0 rfl) rfl hin_X9_append_RX9 20 (by decide) lk_X9_append_f58 (fun _ h9 => h9) rfl dX9_append_351 ?_
              refine lv_iconst (v := nI 3) C.x C.b dX9_append_354 (by decide) ?_
              refine k_lald C hX (hM.at 14 rfl) (vp_in_nI (by omega) (by omega)) dX9_append_355 ?_
              refine k_topl (y := (mCopy0 b20 (mProd b21 b20 (b19 (4 * t + 3)) (-b19 (4 * t + 1)) (-b19 (4 * t + 2)) (b19 (4 * t))) 4) 3) (by rw [nI_clamp (by omega)]) ?_
              refine lv_ladd C.x C.b dX9_append_356 ?_
              refine lv_l2i (v := (((mCopy0 b20 (mProd b21 b20 (b19 (4 * t + 3)) (-b19 (4 * t + 1)) (-b19 (4 * t + 2)) (b19 (4 * t))) 4) 0) + ((mCopy0 b20 (mProd b21 b20 (b19 (4 * t + 3)) (-b19 (4 * t + 1)) (-b19 (4 * t + 2)) (b19 (4 * t))) 4) 3)).toInt32) C.x C.b dX9_append_357 rfl ?_
              exact k_iret C hX hr hlocks hQ (by omega) (by omega) (⟨rfl, hM, hO⟩) dX9_append_358
            · skip
              have c_295 : ¬ (4 ≤ k) := fun h9 => c_295 ((nI_leI (by omega) (by omega)).mpr h9)
              refine lv_aload_n C.x C.b dX9_append_298 rfl (lv_at hl 2 rfl) ?_
              refine k_get (X := RX9) (T := TX9) (N := 28) (v := .ref (q 20)) C hX (hM.at 0 rfl) rfl hin_X9_append_RX9 20 (by decide) lk_X9_append_f58 (fun _ h9 => h9) rfl dX9_append_299 ?_
              refine lv_iload C.x C.b dX9_append_302 (lv_at hl 0 rfl) ?_
              refine lv_iload C.x C.b dX9_append_304 (lv_at hl 1 rfl) ?_
              refine lv_if_eq (tgt := 319) C.x C.b dX9_append_306 (by decide) (fun c_306 => ?_) (fun c_306 => ?_)
              · exact absurd (hp) (kbI_0 c_306)
              refine lv_aload_n C.x C.b dX9_append_309 rfl (lv_at hl 2 rfl) ?_
              refine k_get (X := RX9) (T := TX9) (N := 28) (v := .ref (q 21)) C hX (hM.at 0 rfl) rfl hin_X9_append_RX9 21 (by decide) lk_X9_append_f61 (fun _ h9 => h9) rfl dX9_append_310 ?_
              refine lv_iload C.x C.b dX9_append_313 (lv_at hl 0 rfl) ?_
              refine k_lald C hX (hM.at 15 rfl) (vp_in_nI (by omega) (by omega)) dX9_append_315 ?_
              refine k_topl (y := (mProd b21 b20 (b19 (4 * t + 3)) (-b19 (4 * t + 1)) (-b19 (4 * t + 2)) (b19 (4 * t))) k) (by rw [nI_clamp (by omega)]) ?_
              refine lv_goto (tgt := 326) C.x C.b dX9_append_316 (by decide) ?_
              refine k_last C hX (hM.at 14 rfl) (vp_in_nI (by omega) (by omega)) dX9_append_326 (fun H locs hX => ?_)
              rw [nI_clamp (by omega)] at hX
              obtain ⟨g9, hX, hM, hO⟩ := kX.wr hX hM hO 14 rfl (List.mem_of_getElem? (i := 14) rfl)
              have hM : kCs g9 (mC G h q i0 i1 i3 i7 i18 i22 i23 (nI 0) j16 j17 a2 a4 a5 a6 b8 b9 b10 a11 a12 a13 a14 b15 b19 (vp_updL (mCopy0 b20 (mProd b21 b20 (b19 (4 * t + 3)) (-b19 (4 * t + 1)) (-b19 (4 * t + 2)) (b19 (4 * t))) k) k ((mProd b21 b20 (b19 (4 * t + 3)) (-b19 (4 * t + 1)) (-b19 (4 * t + 2)) (b19 (4 * t))) k)) (mProd b21 b20 (b19 (4 * t + 3)) (-b19 (4 * t + 1)) (-b19 (4 * t + 2)) (b19 (4 * t))) a24 a25 a26) := hM
              refine lv_iinc (v := (nI (k + 1))) (lv' := [(13, .int (nI (k + 1))), (12, .int (kbI (∀ j : Nat, j < 4 → mRl ((mProd b21 b20 (b19 (4 * t + 3)) (-b19 (4 * t + 1)) (-b19 (4 * t + 2)) (b19 (4 * t))) j)))), (0, .ref h)]) C.x C.b dX9_append_327 hl (k := 0) rfl (nI_1 _) (by decide) rfl (fun ls hl => ?_)
              refine lv_goto (tgt := 292) C.x C.b dX9_append_330 (by decide) ?_
              exact ih292 (k + 1) (by omega) (by omega) ls (lv_sub hl [0, 1, 2] rfl) _ hM hO _ _ hX
        exact LOOP292 _ 0 (by omega) (Nat.lt_succ_self _) ls (lv_sub hl [0, 1, 2] rfl) _ hM hO _ _ hX
      · skip
        have c_245 : ¬ (4 ≤ k) := fun h9 => c_245 ((nI_leI (by omega) (by omega)).mpr h9)
        refine lv_iload C.x C.b dX9_append_248 (lv_at hl 0 rfl) ?_
        refine lv_aload_n C.x C.b dX9_append_250 rfl (lv_at hl 2 rfl) ?_
        refine k_get (X := RX9) (T := TX9) (N := 28) (v := .ref (q 21)) C hX (hM.at 0 rfl) rfl hin_X9_append_RX9 21 (by decide) lk_X9_append_f61 (fun _ h9 => h9) rfl dX9_append_251 ?_
        refine lv_iload C.x C.b dX9_append_254 (lv_at hl 1 rfl) ?_
        refine k_lald C hX (hM.at 15 rfl) (vp_in_nI (by omega) (by omega)) dX9_append_256 ?_
        refine k_topl (y := (mProd b21 b20 (b19 (4 * t + 3)) (-b19 (4 * t + 1)) (-b19 (4 * t + 2)) (b19 (4 * t))) k) (by rw [nI_clamp (by omega)]) ?_
        refine lv_ldc2 (v := -1000000000) C.x C.b C.ow (C.ts _ lk_X9_append_c117) dX9_append_257 ?_
        refine lv_ldc2 (v := 1000000000) C.x C.b C.ow (C.ts _ lk_X9_append_c119) dX9_append_260 ?_
        refine k_calli (va_runS (As := [.long ((mProd b21 b20 (b19 (4 * t + 3)) (-b19 (4 * t + 1)) (-b19 (4 * t + 2)) (b19 (4 * t))) k), .long (-1000000000), .long 1000000000]) (rest := [.int (kbI (∀ j : Nat, j < k → mRl ((mProd b21 b20 (b19 (4 * t + 3)) (-b19 (4 * t + 1)) (-b19 (4 * t + 2)) (b19 (4 * t))) j)))]) C.1 (kX9_isIn l G B0 g5 ((mProd b21 b20 (b19 (4 * t + 3)) (-b19 (4 * t + 1)) (-b19 (4 * t + 2)) (b19 (4 * t))) k) (-1000000000) 1000000000) (va_cwS 3 C.ts gX9_append_X9_isIn rfl rfl rfl (hdX9_append_X9_isIn) ⟨Nat.le_of_ble_eq_true rfl, Nat.le_of_ble_eq_true rfl⟩) (k_preS C hX) rfl rfl hl.1 rfl (lv_room (Nat.le_of_ble_eq_true rfl)) dX9_append_263 ⟨Nat.le_of_ble_eq_true rfl, Nat.le_of_ble_eq_true rfl⟩) hX (fun r263 f263 H locs hp263 hX => ?_)
        obtain ⟨hr263, hf263⟩ := hp263
        rw [hf263] at hX
        refine k_topi (y := (kbI (mRl ((mProd b21 b20 (b19 (4 * t + 3)) (-b19 (4 * t + 1)) (-b19 (4 * t + 2)) (b19 (4 * t))) k)))) hr263 ?_
        refine lv_iand C.x C.b dX9_append_266 ?_
        refine k_topi (y := (kbI (∀ j : Nat, j < k + 1 → mRl ((mProd b21 b20 (b19 (4 * t + 3)) (-b19 (4 * t + 1)) (-b19 (4 * t + 2)) (b19 (4 * t))) j)))) (kbI_all (P := fun j => mRl ((mProd b21 b20 (b19 (4 * t + 3)) (-b19 (4 * t + 1)) (-b19 (4 * t + 2)) (b19 (4 * t))) j))) ?_
        refine lv_istore (lv' := [(12, .int (kbI (∀ j : Nat, j < k + 1 → mRl ((mProd b21 b20 (b19 (4 * t + 3)) (-b19 (4 * t + 1)) (-b19 (4 * t + 2)) (b19 (4 * t))) j)))), (13, .int (nI k)), (0, .ref h), (3, .int (nI (4 * t)))]) C.x C.b dX9_append_267 hl (by decide) rfl (fun ls hl => ?_)
        refine lv_iinc (v := (nI (k + 1))) (lv' := [(13, .int (nI (k + 1))), (12, .int (kbI (∀ j : Nat, j < k + 1 → mRl ((mProd b21 b20 (b19 (4 * t + 3)) (-b19 (4 * t + 1)) (-b19 (4 * t + 2)) (b19 (4 * t))) j)))), (0, .ref h), (3, .int (nI (4 * t)))]) C.x C.b dX9_append_269 hl (k := 1) rfl (nI_1 _) (by decide) rfl (fun ls hl => ?_)
        refine lv_goto (tgt := 242) C.x C.b dX9_append_272 (by decide) ?_
        exact ih242 (k + 1) (by omega) (by omega) ls (lv_sub hl [1, 0, 2, 3] rfl) _ _ hX
  exact LOOP242 _ 0 (by omega) (Nat.lt_succ_self _) ls (lv_sub hl [1, 0, 7, 6] rfl) _ _ hX

abbrev rmX9_append_u_b2 : Room := { frames := 1, cells := 0, slots := 0, locals := 25 }
set_option maxHeartbeats 4000000 in
set_option maxRecDepth 100000 in
/-- X9_append_u_b2 -/
theorem kX9_append_u_b2 (l : Launch) (G : kG) (B0 : Nat) (f : kH) (h : Nat) (q : Nat → Nat) (i0 i1 i3 i7 i18 i22 i23 i27 : Int32) (j16 j17 : Int64) (a2 : Nat → Int32) (a4 : Nat → Int32) (a5 : Nat → Int32) (a6 : Nat → Int32) (b8 : Nat → Int64) (b9 : Nat → Int64) (b10 : Nat → Int64) (a11 : Nat → Int32) (a12 : Nat → Int32) (a13 : Nat → Int32) (a14 : Nat → Int32) (b15 : Nat → Int64) (b19 : Nat → Int64) (b20 : Nat → Int64) (b21 : Nat → Int64) (a24 : Nat → Int32) (a25 : Nat → Int32) (a26 : Nat → Int32) (t m9 : Nat) (hM : kCs f (mC G h q i0 i1 i3 i7 i18 i22 i23 i27 j16 j17 a2 a4 a5 a6 b8 b9 b10 a11 a12 a13 a14 b15 b19 b20 b21 a24 a25 a26)) (hm0 : i18 = nI m9) (hm9 : m9 ≤ 4) (ht : t < m9) (hp : ¬ (∀ j : Nat, j < 4 → mRl ((mProd b21 b20 (b19 (4 * t + 3)) (-b19 (4 * t + 1)) (-b19 (4 * t + 2)) (b19 (4 * t))) j))) : Met l yX9_append wsX9_append (rmX9_append_u_b2) (kP G B0 f [.ref h, .int (nI t), .int (nI 1)]) (kQi G B0 (fun r f1 => r = nI 0 ∧ kCs f1 (mC G h q i0 i1 i3 i7 i18 i22 i23 (nI 2) j16 j17 a2 a4 a5 a6 b8 b9 b10 a11 a12 a13 a14 b15 b19 b20 (mProd b21 b20 (b19 (4 * t + 3)) (-b19 (4 * t + 1)) (-b19 (4 * t + 2)) (b19 (4 * t))) a24 a25 a26) ∧ kOff (mAs h q) f f1)) 0 0 (kAb B0) := by
  refine kMet (cc := cX9_append) (maxL := 14) (ret := (some .int)) (by decide) rfl (Nat.le_of_ble_eq_true rfl) ?_
  intro p e s m args below meth c H locs Q ls C hX hl hr hlocks hnm hQ
  have hO : kOff (mAs h q) f f := kOff.rf
  have hl : lv_has ls 14 [(0, .ref h), (1, .int (nI t)), (2, .int (nI 1))] := hl
  refine lv_aload_n C.x C.b dX9_append_0 rfl (lv_at hl 0 rfl) ?_
  refine lv_iload_n C.x C.b dX9_append_1 rfl (lv_at hl 1 rfl) ?_
  refine lv_i2l (v := (nI t).toInt64) C.x C.b dX9_append_2 rfl ?_
  refine lv_lconst (v := 0) C.x C.b dX9_append_3 (by decide) ?_
  refine lv_aload_n C.x C.b dX9_append_4 rfl (lv_at hl 0 rfl) ?_
  refine k_get (X := RX9) (T := TX9) (N := 28) (v := .int i18) C hX (hM.at 0 rfl) rfl hin_X9_append_RX9 18 (by decide) lk_X9_append_f202 (fun _ h9 => h9) rfl dX9_append_5 ?_
  refine k_topi (y := (nI m9)) (hm0) ?_
  refine lv_iconst (v := nI 1) C.x C.b dX9_append_8 (by decide) ?_
  refine lv_isub C.x C.b dX9_append_9 ?_
  refine lv_i2l (v := ((nI m9) - (nI 1)).toInt64) C.x C.b dX9_append_10 rfl ?_
  refine k_calli (va_runS (As := [.long ((nI t).toInt64), .long 0, .long (((nI m9) - (nI 1)).toInt64)]) (rest := [.ref h]) C.1 (kX9_isIn l G B0 f ((nI t).toInt64) 0 ((nI m9 - nI 1).toInt64)) (va_cwS 3 C.ts gX9_append_X9_isIn rfl rfl rfl (hdX9_append_X9_isIn) ⟨Nat.le_of_ble_eq_true rfl, Nat.le_of_ble_eq_true rfl⟩) (k_preS C hX) rfl rfl hl.1 rfl (lv_room (Nat.le_of_ble_eq_true rfl)) dX9_append_11 ⟨Nat.le_of_ble_eq_true rfl, Nat.le_of_ble_eq_true rfl⟩) hX (fun r11 f11 H locs hp11 hX => ?_)
  obtain ⟨hr11, hf11⟩ := hp11
  rw [hf11] at hX
  refine k_topi (y := (kbI ((0 : Int64) ≤ (nI t).toInt64 ∧ (nI t).toInt64 ≤ (nI m9 - nI 1).toInt64))) hr11 ?_
  refine k_topi (y := (kbI (mIn (nI t) m9))) (kbI_c (m_in (by omega))) ?_
  refine lv_if_eq (tgt := 21) C.x C.b dX9_append_14 (by decide) (fun c_14 => ?_) (fun c_14 => ?_)
  · exact absurd ((mIn_nI (by omega)).mpr ht) (kbI_0 c_14)
  refine lv_iconst (v := nI 0) C.x C.b dX9_append_17 (by decide) ?_
  refine lv_goto (tgt := 22) C.x C.b dX9_append_18 (by decide) ?_
  refine k_put (X := RX9) (T := TX9) (N := 28) (ty := .int) (v := .int (nI 0)) C hX (hM.at 0 rfl) rfl hin_X9_append_RX9 tyX9_ok nmX9 27 (by decide) lk_X9_append_f80 (fun _ h9 => h9) rfl (by decide +kernel) rfl rfl (Nat.le_of_ble_eq_true rfl) dX9_append_22 (fun H locs hX => ?_)
  obtain ⟨g1, hX, hM, hO⟩ := kX.wr hX hM hO 0 rfl (List.mem_of_getElem? (i := 0) rfl)
  have hM : kCs g1 (mC G h q i0 i1 i3 i7 i18 i22 i23 (nI 0) j16 j17 a2 a4 a5 a6 b8 b9 b10 a11 a12 a13 a14 b15 b19 b20 b21 a24 a25 a26) := hM
  refine lv_aload_n C.x C.b dX9_append_25 rfl (lv_at hl 0 rfl) ?_
  refine k_get (X := RX9) (T := TX9) (N := 28) (v := .int (nI 0)) C hX (hM.at 0 rfl) rfl hin_X9_append_RX9 27 (by decide) lk_X9_append_f80 (fun _ h9 => h9) rfl dX9_append_26 ?_
  refine lv_if_le (tgt := 34) C.x C.b dX9_append_29 (by decide) (fun c_29 => ?_) (fun c_29 => ?_)
  rotate_left
  · exact absurd c_29 (by decide)
  refine lv_iconst (v := nI 4) C.x C.b dX9_append_34 (by decide) ?_
  refine lv_iload_n C.x C.b dX9_append_35 rfl (lv_at hl 1 rfl) ?_
  refine lv_imul C.x C.b dX9_append_36 ?_
  refine k_topi (y := nI (4 * t)) (pk_mul _ _) ?_
  refine lv_istore_n (lv' := [(3, .int (nI (4 * t))), (0, .ref h), (1, .int (nI t)), (2, .int (nI 1))]) C.x C.b dX9_append_37 rfl hl (by decide) rfl (fun ls hl => ?_)
  refine lv_iload_n C.x C.b dX9_append_38 rfl (lv_at hl 3 rfl) ?_
  refine lv_if_eq (tgt := 53) C.x C.b dX9_append_39 (by decide) (fun c_39 => ?_) (fun c_39 => ?_)
  · exact absurd c_39 (by decide)
  refine lv_aload_n C.x C.b dX9_append_42 rfl (lv_at hl 1 rfl) ?_
  refine k_get (X := RX9) (T := TX9) (N := 28) (v := .ref (q 19)) C hX (hM.at 0 rfl) rfl hin_X9_append_RX9 19 (by decide) lk_X9_append_f55 (fun _ h9 => h9) rfl dX9_append_43 ?_
  refine lv_iload_n C.x C.b dX9_append_46 rfl (lv_at hl 0 rfl) ?_
  refine lv_iconst (v := nI 3) C.x C.b dX9_append_47 (by decide) ?_
  refine lv_iadd C.x C.b dX9_append_48 ?_
  refine k_topi (y := nI ((4 * t) + 3)) (nI_add _ _) ?_
  refine k_lald C hX (hM.at 13 rfl) (vp_in_nI (by omega) (by omega)) dX9_append_49 ?_
  refine k_topl (y := b19 ((4 * t) + 3)) (by rw [nI_clamp (by omega)]) ?_
  refine lv_goto (tgt := 59) C.x C.b dX9_append_50 (by decide) ?_
  refine lv_lstore (lv' := [(4, .long (b19 ((4 * t) + 3))), (3, .int (nI (4 * t))), (0, .ref h), (1, .int (nI t)), (2, .int (nI 1))]) C.x C.b dX9_append_59 hl (by decide) rfl (fun ls hl => ?_)
  refine lv_iload_n C.x C.b dX9_append_61 rfl (lv_at hl 4 rfl) ?_
  refine lv_if_eq (tgt := 77) C.x C.b dX9_append_62 (by decide) (fun c_62 => ?_) (fun c_62 => ?_)
  · exact absurd c_62 (by decide)
  refine lv_aload_n C.x C.b dX9_append_65 rfl (lv_at hl 2 rfl) ?_
  refine k_get (X := RX9) (T := TX9) (N := 28) (v := .ref (q 19)) C hX (hM.at 0 rfl) rfl hin_X9_append_RX9 19 (by decide) lk_X9_append_f55 (fun _ h9 => h9) rfl dX9_append_66 ?_
  refine lv_iload_n C.x C.b dX9_append_69 rfl (lv_at hl 1 rfl) ?_
  refine lv_iconst (v := nI 1) C.x C.b dX9_append_70 (by decide) ?_
  refine lv_iadd C.x C.b dX9_append_71 ?_
  refine k_topi (y := nI ((4 * t) + 1)) (nI_add _ _) ?_
  refine k_lald C hX (hM.at 13 rfl) (vp_in_nI (by omega) (by omega)) dX9_append_72 ?_
  refine k_topl (y := b19 ((4 * t) + 1)) (by rw [nI_clamp (by omega)]) ?_
  refine lv_lneg C.x C.b dX9_append_73 ?_
  refine lv_goto (tgt := 85) C.x C.b dX9_append_74 (by decide) ?_
  refine lv_lstore (lv' := [(6, .long (-(b19 ((4 * t) + 1)))), (4, .long (b19 ((4 * t) + 3))), (3, .int (nI (4 * t))), (0, .ref h), (1, .int (nI t)), (2, .int (nI 1))]) C.x C.b dX9_append_85 hl (by decide) rfl (fun ls hl => ?_)
  refine lv_iload_n C.x C.b dX9_append_87 rfl (lv_at hl 5 rfl) ?_
  refine lv_if_eq (tgt := 103) C.x C.b dX9_append_88 (by decide) (fun c_88 => ?_) (fun c_88 => ?_)
  · exact absurd c_88 (by decide)
  refine lv_aload_n C.x C.b dX9_append_91 rfl (lv_at hl 3 rfl) ?_
  refine k_get (X := RX9) (T := TX9) (N := 28) (v := .ref (q 19)) C hX (hM.at 0 rfl) rfl hin_X9_append_RX9 19 (by decide) lk_X9_append_f55 (fun _ h9 => h9) rfl dX9_append_92 ?_
  refine lv_iload_n C.x C.b dX9_append_95 rfl (lv_at hl 2 rfl) ?_
  refine lv_iconst (v := nI 2) C.x C.b dX9_append_96 (by decide) ?_
  refine lv_iadd C.x C.b dX9_append_97 ?_
  refine k_topi (y := nI ((4 * t) + 2)) (nI_add _ _) ?_
  refine k_lald C hX (hM.at 13 rfl) (vp_in_nI (by omega) (by omega)) dX9_append_98 ?_
  refine k_topl (y := b19 ((4 * t) + 2)) (by rw [nI_clamp (by omega)]) ?_
  refine lv_lneg C.x C.b dX9_append_99 ?_
  refine lv_goto (tgt := 111) C.x C.b dX9_append_100 (by decide) ?_
  refine lv_lstore (lv' := [(8, .long (-(b19 ((4 * t) + 2)))), (6, .long (-(b19 ((4 * t) + 1)))), (4, .long (b19 ((4 * t) + 3))), (3, .int (nI (4 * t))), (0, .ref h), (1, .int (nI t)), (2, .int (nI 1))]) C.x C.b dX9_append_111 hl (by decide) rfl (fun ls hl => ?_)
  refine lv_iload_n C.x C.b dX9_append_113 rfl (lv_at hl 6 rfl) ?_
  refine lv_if_eq (tgt := 126) C.x C.b dX9_append_114 (by decide) (fun c_114 => ?_) (fun c_114 => ?_)
  · exact absurd c_114 (by decide)
  refine lv_aload_n C.x C.b dX9_append_117 rfl (lv_at hl 4 rfl) ?_
  refine k_get (X := RX9) (T := TX9) (N := 28) (v := .ref (q 19)) C hX (hM.at 0 rfl) rfl hin_X9_append_RX9 19 (by decide) lk_X9_append_f55 (fun _ h9 => h9) rfl dX9_append_118 ?_
  refine lv_iload_n C.x C.b dX9_append_121 rfl (lv_at hl 3 rfl) ?_
  refine k_lald C hX (hM.at 13 rfl) (vp_in_nI (by omega) (by omega)) dX9_append_122 ?_
  refine k_topl (y := b19 (4 * t)) (by rw [nI_clamp (by omega)]) ?_
  refine lv_goto (tgt := 134) C.x C.b dX9_append_123 (by decide) ?_
  refine lv_lstore (lv' := [(10, .long (b19 (4 * t))), (8, .long (-(b19 ((4 * t) + 2)))), (6, .long (-(b19 ((4 * t) + 1)))), (4, .long (b19 ((4 * t) + 3))), (3, .int (nI (4 * t))), (0, .ref h), (1, .int (nI t)), (2, .int (nI 1))]) C.x C.b dX9_append_134 hl (by decide) rfl (fun ls hl => ?_)
  refine lv_aload_n C.x C.b dX9_append_136 rfl (lv_at hl 5 rfl) ?_
  refine k_get (X := RX9) (T := TX9) (N := 28) (v := .ref (q 21)) C hX (hM.at 0 rfl) rfl hin_X9_append_RX9 21 (by decide) lk_X9_append_f61 (fun _ h9 => h9) rfl dX9_append_137 ?_
  refine lv_iconst (v := nI 0) C.x C.b dX9_append_140 (by decide) ?_
  refine lv_aload_n C.x C.b dX9_append_141 rfl (lv_at hl 5 rfl) ?_
  refine k_get (X := RX9) (T := TX9) (N := 28) (v := .ref (q 20)) C hX (hM.at 0 rfl) rfl hin_X9_append_RX9 20 (by decide) lk_X9_append_f58 (fun _ h9 => h9) rfl dX9_append_142 ?_
  refine lv_iconst (v := nI 0) C.x C.b dX9_append_145 (by decide) ?_
  refine k_lald C hX (hM.at 14 rfl) (vp_in_nI (by omega) (by omega)) dX9_append_146 ?_
  refine k_topl (y := b20 0) (by rw [nI_clamp (by omega)]) ?_
  refine lv_lload C.x C.b dX9_append_147 (lv_at hl 3 rfl) ?_
  refine lv_lmul C.x C.b dX9_append_149 ?_
  refine lv_aload_n C.x C.b dX9_append_150 rfl (lv_at hl 5 rfl) ?_
  refine k_get (X := RX9) (T := TX9) (N := 28) (v := .ref (q 20)) C hX (hM.at 0 rfl) rfl hin_X9_append_RX9 20 (by decide) lk_X9_append_f58 (fun _ h9 => h9) rfl dX9_append_151 ?_
  refine lv_iconst (v := nI 1) C.x C.b dX9_append_154 (by decide) ?_
  refine k_lald C hX (hM.at 14 rfl) (vp_in_nI (by omega) (by omega)) dX9_append_155 ?_
  refine k_topl (y := b20 1) (by rw [nI_clamp (by omega)]) ?_
  refine lv_lload C.x C.b dX9_append_156 (lv_at hl 1 rfl) ?_
  refine lv_lmul C.x C.b dX9_append_158 ?_
  refine lv_ladd C.x C.b dX9_append_159 ?_
  refine k_last C hX (hM.at 15 rfl) (vp_in_nI (by omega) (by omega)) dX9_append_160 (fun H locs hX => ?_)
  rw [nI_clamp (by omega)] at hX
  obtain ⟨g2, hX, hM, hO⟩ := kX.wr hX hM hO 15 rfl (List.mem_of_getElem? (i := 15) rfl)
  have hM : kCs g2 (mC G h q i0 i1 i3 i7 i18 i22 i23 (nI 0) j16 j17 a2 a4 a5 a6 b8 b9 b10 a11 a12 a13 a14 b15 b19 b20 (vp_updL b21 0 (((b20 0) * (b19 ((4 * t) + 3))) + ((b20 1) * (-(b19 ((4 * t) + 2)))))) a24 a25 a26) := hM
  refine lv_aload_n C.x C.b dX9_append_161 rfl (lv_at hl 5 rfl) ?_
  refine k_get (X := RX9) (T := TX9) (N := 28) (v := .ref (q 21)) C hX (hM.at 0 rfl) rfl hin_X9_append_RX9 21 (by decide) lk_X9_append_f61 (fun _ h9 => h9) rfl dX9_append_162 ?_
  refine lv_iconst (v := nI 1) C.x C.b dX9_append_165 (by decide) ?_
  refine lv_aload_n C.x C.b dX9_append_166 rfl (lv_at hl 5 rfl) ?_
  refine k_get (X := RX9) (T := TX9) (N := 28) (v := .ref (q 20)) C hX (hM.at 0 rfl) rfl hin_X9_append_RX9 20 (by decide) lk_X9_append_f58 (fun _ h9 => h9) rfl dX9_append_167 ?_
  refine lv_iconst (v := nI 0) C.x C.b dX9_append_170 (by decide) ?_
  refine k_lald C hX (hM.at 14 rfl) (vp_in_nI (by omega) (by omega)) dX9_append_171 ?_
  refine k_topl (y := b20 0) (by rw [nI_clamp (by omega)]) ?_
  refine lv_lload C.x C.b dX9_append_172 (lv_at hl 2 rfl) ?_
  refine lv_lmul C.x C.b dX9_append_174 ?_
  refine lv_aload_n C.x C.b dX9_append_175 rfl (lv_at hl 5 rfl) ?_
  refine k_get (X := RX9) (T := TX9) (N := 28) (v := .ref (q 20)) C hX (hM.at 0 rfl) rfl hin_X9_append_RX9 20 (by decide) lk_X9_append_f58 (fun _ h9 => h9) rfl dX9_append_176 ?_
  refine lv_iconst (v := nI 1) C.x C.b dX9_append_179 (by decide) ?_
  refine k_lald C hX (hM.at 14 rfl) (vp_in_nI (by omega) (by omega)) dX9_append_180 ?_
  refine k_topl (y := b20 1) (by rw [nI_clamp (by omega)]) ?_
  refine lv_lload C.x C.b dX9_append_181 (lv_at hl 0 rfl) ?_
  refine lv_lmul C.x C.b dX9_append_183 ?_
  refine lv_ladd C.x C.b dX9_append_184 ?_
  refine k_last C hX (hM.at 15 rfl) (vp_in_nI (by omega) (by omega)) dX9_append_185 (fun H locs hX => ?_)
  rw [nI_clamp (by omega)] at hX
  obtain ⟨g3, hX, hM, hO⟩ := kX.wr hX hM hO 15 rfl (List.mem_of_getElem? (i := 15) rfl)
  have hM : kCs g3 (mC G h q i0 i1 i3 i7 i18 i22 i23 (nI 0) j16 j17 a2 a4 a5 a6 b8 b9 b10 a11 a12 a13 a14 b15 b19 b20 (vp_updL (vp_updL b21 0 (((b20 0) * (b19 ((4 * t) + 3))) + ((b20 1) * (-(b19 ((4 * t) + 2)))))) 1 (((b20 0) * (-(b19 ((4 * t) + 1)))) + ((b20 1) * (b19 (4 * t))))) a24 a25 a26) := hM
  refine lv_aload_n C.x C.b dX9_append_186 rfl (lv_at hl 5 rfl) ?_
  refine k_get (X := RX9) (T := TX9) (N := 28) (v := .ref (q 21)) C hX (hM.at 0 rfl) rfl hin_X9_append_RX9 21 (by decide) lk_X9_append_f61 (fun _ h9 => h9) rfl dX9_append_187 ?_
  refine lv_iconst (v := nI 2) C.x C.b dX9_append_190 (by decide) ?_
  refine lv_aload_n C.x C.b dX9_append_191 rfl (lv_at hl 5 rfl) ?_
  refine k_get (X := RX9) (T := TX9) (N := 28) (v := .ref (q 20)) C hX (hM.at 0 rfl) rfl hin_X9_append_RX9 20 (by decide) lk_X9_append_f58 (fun _ h9 => h9) rfl dX9_append_192 ?_
  refine lv_iconst (v := nI 2) C.x C.b dX9_append_195 (by decide) ?_
  refine k_lald C hX (hM.at 14 rfl) (vp_in_nI (by omega) (by omega)) dX9_append_196 ?_
  refine k_topl (y := b20 2) (by rw [nI_clamp (by omega)]) ?_
  refine lv_lload C.x C.b dX9_append_197 (lv_at hl 3 rfl) ?_
  refine lv_lmul C.x C.b dX9_append_199 ?_
  refine lv_aload_n C.x C.b dX9_append_200 rfl (lv_at hl 5 rfl) ?_
  refine k_get (X := RX9) (T := TX9) (N := 28) (v := .ref (q 20)) C hX (hM.at 0 rfl) rfl hin_X9_append_RX9 20 (by decide) lk_X9_append_f58 (fun _ h9 => h9) rfl dX9_append_201 ?_
  refine lv_iconst (v := nI 3) C.x C.b dX9_append_204 (by decide) ?_
  refine k_lald C hX (hM.at 14 rfl) (vp_in_nI (by omega) (by omega)) dX9_append_205 ?_
  refine k_topl (y := b20 3) (by rw [nI_clamp (by omega)]) ?_
  refine lv_lload C.x C.b dX9_append_206 (lv_at hl 1 rfl) ?_
  refine lv_lmul C.x C.b dX9_append_208 ?_
  refine lv_ladd C.x C.b dX9_append_209 ?_
  refine k_last C hX (hM.at 15 rfl) (vp_in_nI (by omega) (by omega)) dX9_append_210 (fun H locs hX => ?_)
  rw [nI_clamp (by omega)] at hX
  obtain ⟨g4, hX, hM, hO⟩ := kX.wr hX hM hO 15 rfl (List.mem_of_getElem? (i := 15) rfl)
  have hM : kCs g4 (mC G h q i0 i1 i3 i7 i18 i22 i23 (nI 0) j16 j17 a2 a4 a5 a6 b8 b9 b10 a11 a12 a13 a14 b15 b19 b20 (vp_updL (vp_updL (vp_updL b21 0 (((b20 0) * (b19 ((4 * t) + 3))) + ((b20 1) * (-(b19 ((4 * t) + 2)))))) 1 (((b20 0) * (-(b19 ((4 * t) + 1)))) + ((b20 1) * (b19 (4 * t))))) 2 (((b20 2) * (b19 ((4 * t) + 3))) + ((b20 3) * (-(b19 ((4 * t) + 2)))))) a24 a25 a26) := hM
  refine lv_aload_n C.x C.b dX9_append_211 rfl (lv_at hl 5 rfl) ?_
  refine k_get (X := RX9) (T := TX9) (N := 28) (v := .ref (q 21)) C hX (hM.at 0 rfl) rfl hin_X9_append_RX9 21 (by decide) lk_X9_append_f61 (fun _ h9 => h9) rfl dX9_append_212 ?_
  refine lv_iconst (v := nI 3) C.x C.b dX9_append_215 (by decide) ?_
  refine lv_aload_n C.x C.b dX9_append_216 rfl (lv_at hl 5 rfl) ?_
  refine k_get (X := RX9) (T := TX9) (N := 28) (v := .ref (q 20)) C hX (hM.at 0 rfl) rfl hin_X9_append_RX9 20 (by decide) lk_X9_append_f58 (fun _ h9 => h9) rfl dX9_append_217 ?_
  refine lv_iconst (v := nI 2) C.x C.b dX9_append_220 (by decide) ?_
  refine k_lald C hX (hM.at 14 rfl) (vp_in_nI (by omega) (by omega)) dX9_append_221 ?_
  refine k_topl (y := b20 2) (by rw [nI_clamp (by omega)]) ?_
  refine lv_lload C.x C.b dX9_append_222 (lv_at hl 2 rfl) ?_
  refine lv_lmul C.x C.b dX9_append_224 ?_
  refine lv_aload_n C.x C.b dX9_append_225 rfl (lv_at hl 5 rfl) ?_
  refine k_get (X := RX9) (T := TX9) (N := 28) (v := .ref (q 20)) C hX (hM.at 0 rfl) rfl hin_X9_append_RX9 20 (by decide) lk_X9_append_f58 (fun _ h9 => h9) rfl dX9_append_226 ?_
  refine lv_iconst (v := nI 3) C.x C.b dX9_append_229 (by decide) ?_
  refine k_lald C hX (hM.at 14 rfl) (vp_in_nI (by omega) (by omega)) dX9_append_230 ?_
  refine k_topl (y := b20 3) (by rw [nI_clamp (by omega)]) ?_
  refine lv_lload C.x C.b dX9_append_231 (lv_at hl 0 rfl) ?_
  refine lv_lmul C.x C.b dX9_append_233 ?_
  refine lv_ladd C.x C.b dX9_append_234 ?_
  refine k_last C hX (hM.at 15 rfl) (vp_in_nI (by omega) (by omega)) dX9_append_235 (fun H locs hX => ?_)
  rw [nI_clamp (by omega)] at hX
  obtain ⟨g5, hX, hM, hO⟩ := kX.wr hX hM hO 15 rfl (List.mem_of_getElem? (i := 15) rfl)
  have hM : kCs g5 (mC G h q i0 i1 i3 i7 i18 i22 i23 (nI 0) j16 j17 a2 a4 a5 a6 b8 b9 b10 a11 a12 a13 a14 b15 b19 b20 (vp_updL (vp_updL (vp_updL (vp_updL b21 0 (((b20 0) * (b19 ((4 * t) + 3))) + ((b20 1) * (-(b19 ((4 * t) + 2)))))) 1 (((b20 0) * (-(b19 ((4 * t) + 1)))) + ((b20 1) * (b19 (4 * t))))) 2 (((b20 2) * (b19 ((4 * t) + 3))) + ((b20 3) * (-(b19 ((4 * t) + 2)))))) 3 (((b20 2) * (-(b19 ((4 * t) + 1)))) + ((b20 3) * (b19 (4 * t))))) a24 a25 a26) := hM
  rw [show (vp_updL (vp_updL (vp_updL (vp_updL b21 0 (((b20 0) * (b19 ((4 * t) + 3))) + ((b20 1) * (-(b19 ((4 * t) + 2)))))) 1 (((b20 0) * (-(b19 ((4 * t) + 1)))) + ((b20 1) * (b19 (4 * t))))) 2 (((b20 2) * (b19 ((4 * t) + 3))) + ((b20 3) * (-(b19 ((4 * t) + 2)))))) 3 (((b20 2) * (-(b19 ((4 * t) + 1)))) + ((b20 3) * (b19 (4 * t))))) = (mProd b21 b20 (b19 (4 * t + 3)) (-b19 (4 * t + 1)) (-b19 (4 * t + 2)) (b19 (4 * t))) from rfl] at hM
  have hM : kCs g5 (mC G h q i0 i1 i3 i7 i18 i22 i23 (nI 0) j16 j17 a2 a4 a5 a6 b8 b9 b10 a11 a12 a13 a14 b15 b19 b20 (mProd b21 b20 (b19 (4 * t + 3)) (-b19 (4 * t + 1)) (-b19 (4 * t + 2)) (b19 (4 * t))) a24 a25 a26) := hM
  refine lv_iconst (v := nI 1) C.x C.b dX9_append_236 (by decide) ?_
  refine lv_istore (lv' := [(12, .int (nI 1)), (10, .long (b19 (4 * t))), (8, .long (-(b19 ((4 * t) + 2)))), (6, .long (-(b19 ((4 * t) + 1)))), (4, .long (b19 ((4 * t) + 3))), (3, .int (nI (4 * t))), (0, .ref h), (1, .int (nI t)), (2, .int (nI 1))]) C.x C.b dX9_append_237 hl (by decide) rfl (fun ls hl => ?_)
  refine lv_iconst (v := nI 0) C.x C.b dX9_append_239 (by decide) ?_
  refine lv_istore (lv' := [(13, .int (nI 0)), (12, .int (nI 1)), (10, .long (b19 (4 * t))), (8, .long (-(b19 ((4 * t) + 2)))), (6, .long (-(b19 ((4 * t) + 1)))), (4, .long (b19 ((4 * t) + 3))), (3, .int (nI (4 * t))), (0, .ref h), (1, .int (nI t)), (2, .int (nI 1))]) C.x C.b dX9_append_240 hl (by decide) rfl (fun ls hl => ?_)
  rw [show (nI 1) = (kbI (∀ j : Nat, j < 0 → mRl ((mProd b21 b20 (b19 (4 * t + 3)) (-b19 (4 * t + 1)) (-b19 (4 * t + 2)) (b19 (4 * t))) j))) from kbI_tN (fun j hj => absurd hj (Nat.not_lt_zero _))] at hl
  have LOOP242 : ∀ (n : Nat) (k : Nat), (k ≤ 4) → (4 - k) < n → ∀ (ls : Array Slot), lv_has ls 14 [(12, .int (kbI (∀ j : Nat, j < k → mRl ((mProd b21 b20 (b19 (4 * t + 3)) (-b19 (4 * t + 1)) (-b19 (4 * t + 2)) (b19 (4 * t))) j)))), (13, .int (nI k)), (0, .ref h), (3, .int (nI (4 * t)))] → ∀ (H : Heap) (locs : List Loc), kX G B0 s g5 H locs → W p l e (rmX9_append_u_b2) s m args below meth c H locs 0 0 Q (F0 m 242 ls []) := by
    intro n242
    induction n242 with
    | zero => intro k hk hn; exact absurd hn (Nat.not_lt_zero _)
    | succ n242 ih242 =>
      intro k hk hn ls hl H locs hX
      refine lv_iload C.x C.b dX9_append_242 (lv_at hl 1 rfl) ?_
      refine lv_iconst (v := nI 4) C.x C.b dX9_append_244 (by decide) ?_
      refine lv_icmp_ge (tgt := 275) C.x C.b dX9_append_245 (by decide) (fun c_245 => ?_) (fun c_245 => ?_)
      · skip
        have c_245 : 4 ≤ k := (nI_leI (by omega) (by omega)).mp c_245
        have hk9 : 4 = k := by omega
        subst hk9
        refine lv_aload_n C.x C.b dX9_append_275 rfl (lv_at hl 2 rfl) ?_
        refine lv_iload C.x C.b dX9_append_276 (lv_at hl 0 rfl) ?_
        refine lv_if_eq (tgt := 285) C.x C.b dX9_append_278 (by decide) (fun c_278 => ?_) (fun c_278 => ?_)
        rotate_left
        · exact absurd (kbI_1 c_278) (hp)
        refine lv_iconst (v := nI 2) C.x C.b dX9_append_285 (by decide) ?_
        refine k_put (X := RX9) (T := TX9) (N := 28) (ty := .int) (v := .int (nI 2)) C hX (hM.at 0 rfl) rfl hin_X9_append_RX9 tyX9_ok nmX9 27 (by decide) lk_X9_append_f80 (fun _ h9 => h9) rfl (by decide +kernel) rfl rfl (Nat.le_of_ble_eq_true rfl) dX9_append_286 (fun H locs hX => ?_)
        obtain ⟨g7, hX, hM, hO⟩ := kX.wr hX hM hO 0 rfl (List.mem_of_getElem? (i := 0) rfl)
        have hM : kCs g7 (mC G h q i0 i1 i3 i7 i18 i22 i23 (nI 2) j16 j17 a2 a4 a5 a6 b8 b9 b10 a11 a12 a13 a14 b15 b19 b20 (mProd b21 b20 (b19 (4 * t + 3)) (-b19 (4 * t + 1)) (-b19 (4 * t + 2)) (b19 (4 * t))) a24 a25 a26) := hM
        refine lv_iconst (v := nI 0) C.x C.b dX9_append_289 (by decide) ?_
        refine lv_istore (lv' := [(13, .int (nI 0)), (12, .int (kbI (∀ j : Nat, j < 4 → mRl ((mProd b21 b20 (b19 (4 * t + 3)) (-b19 (4 * t + 1)) (-b19 (4 * t + 2)) (b19 (4 * t))) j)))), (0, .ref h), (3, .int (nI (4 * t)))]) C.x C.b dX9_append_290 hl (by decide) rfl (fun ls hl => ?_)
        have LOOP292 : ∀ (n : Nat) (k : Nat), (k ≤ 4) → (4 - k) < n → ∀ (ls : Array Slot), lv_has ls 14 [(13, .int (nI k)), (12, .int (kbI (∀ j : Nat, j < 4 → mRl ((mProd b21 b20 (b19 (4 * t + 3)) (-b19 (4 * t + 1)) (-b19 (4 * t + 2)) (b19 (4 * t))) j)))), (0, .ref h)] → ∀ (fL : kH), kCs fL (mC G h q i0 i1 i3 i7 i18 i22 i23 (nI 2) j16 j17 a2 a4 a5 a6 b8 b9 b10 a11 a12 a13 a14 b15 b19 b20 (mProd b21 b20 (b19 (4 * t + 3)) (-b19 (4 * t + 1)) (-b19 (4 * t + 2)) (b19 (4 * t))) a24 a25 a26) → kOff (mAs h q) f fL → ∀ (H : Heap) (locs : List Loc), kX G B0 s fL H locs → W p l e (rmX9_append_u_b2) s m args below meth c H locs 0 0 Q (F0 m 292 ls []) := by
          intro n292
          induction n292 with
          | zero => intro k hk hn; exact absurd hn (Nat.not_lt_zero _)
          | succ n292 ih292 =>
            intro k hk hn ls hl fL hM hO H locs hX
            refine lv_iload C.x C.b dX9_append_292 (lv_at hl 0 rfl) ?_
            refine lv_iconst (v := nI 4) C.x C.b dX9_append_294 (by decide) ?_
            refine lv_icmp_ge (tgt := 333) C.x C.b dX9_append_295 (by decide) (fun c_295 => ?_) (fun c_295 => ?_)
            · skip
              have c_295 : 4 ≤ k := (nI_leI (by omega) (by omega)).mp c_295
              have hk9 : 4 = k := by omega
              subst hk9
              refine lv_aload_n C.x C.b dX9_append_333 rfl (lv_at hl 2 rfl) ?_
              refine k_get (X := RX9) (T := TX9) (N := 28) (v := .int (nI 2)) C hX (hM.at 0 rfl) rfl hin_X9_append_RX9 27 (by decide) lk_X9_append_f80 (fun _ h9 => h9) rfl dX9_append_334 ?_
              refine lv_if_le (tgt := 344) C.x C.b dX9_append_337 (by decide) (fun c_337 => ?_) (fun c_337 => ?_)
              · exact absurd c_337 (by decide)
              refine lv_iconst (v := nI 0) C.x C.b dX9_append_340 (by decide) ?_
              refine lv_goto (tgt := 358) C.x C.b dX9_append_341 (by decide) ?_
              exact k_iret C hX hr hlocks hQ (by omega) (by omega) (⟨rfl, hM, hO⟩) dX9_append_358
            · skip
              have c_295 : ¬ (4 ≤ k) := fun h9 => c_295 ((nI_leI (by omega) (by omega)).mpr h9)
              refine lv_aload_n C.x C.b dX9_append_298 rfl (lv_at hl 2 rfl) ?_
              refine k_get (X := RX9) (T := TX9) (N := 28) (v := .ref (q 20)) C hX (hM.at 0 rfl) rfl hin_X9_append_RX9 20 (by decide) lk_X9_append_f58 (fun _ h9 => h9) rfl dX9_append_299 ?_
              refine lv_iload C.x C.b dX9_append_302 (lv_at hl 0 rfl) ?_
              refine lv_iload C.x C.b dX9_append_304 (lv_at hl 1 rfl) ?_
              refine lv_if_eq (tgt := 319) C.x C.b dX9_append_306 (by decide) (fun c_306 => ?_) (fun c_306 => ?_)
              rotate_left
              · exact absurd (kbI_1 c_306) (hp)
              refine lv_aload_n C.x C.b dX9_append_319 rfl (lv_at hl 2 rfl) ?_
              refine k_get (X := RX9) (T := TX9) (N := 28) (v := .ref (q 20)) C hX (hM.at 0 rfl) rfl hin_X9_append_RX9 20 (by decide) lk_X9_append_f58 (fun _ h9 => h9) rfl dX9_append_320 ?_
              refine lv_iload C.x C.b dX9_append_323 (lv_at hl 0 rfl) ?_
              refine k_lald C hX (hM.at 14 rfl) (vp_in_nI (by omega) (by omega)) dX9_append_325 ?_
              refine k_topl (y := b20 k) (by rw [nI_clamp (by omega)]) ?_
              refine k_last C hX (hM.at 14 rfl) (vp_in_nI (by omega) (by omega)) dX9_append_326 (fun H locs hX => ?_)
              rw [nI_clamp (by omega)] at hX
              obtain ⟨g9, hX, hM, hO⟩ := kX.wr hX hM hO 14 rfl (List.mem_of_getElem? (i := 14) rfl)
              have hM : kCs g9 (mC G h q i0 i1 i3 i7 i18 i22 i23 (nI 2) j16 j17 a2 a4 a5 a6 b8 b9 b10 a11 a12 a13 a14 b15 b19 (vp_updL b20 k (b20 k)) (mProd b21 b20 (b19 (4 * t + 3)) (-b19 (4 * t + 1)) (-b19 (4 * t + 2)) (b19 (4 * t))) a24 a25 a26) := hM
              rw [show (vp_updL b20 k (b20 k)) = b20 from vp_selfL _ _] at hM
              have hM : kCs g9 (mC G h q i0 i1 i3 i7 i18 i22 i23 (nI 2) j16 j17 a2 a4 a5 a6 b8 b9 b10 a11 a12 a13 a14 b15 b19 b20 (mProd b21 b20 (b19 (4 * t + 3)) (-b19 (4 * t + 1)) (-b19 (4 * t + 2)) (b19 (4 * t))) a24 a25 a26) := hM
              refine lv_iinc (v := (nI (k + 1))) (lv' := [(13, .int (nI (k + 1))), (12, .int (kbI (∀ j : Nat, j < 4 → mRl ((mProd b21 b20 (b19 (4 * t + 3)) (-b19 (4 * t + 1)) (-b19 (4 * t + 2)) (b19 (4 * t))) j)))), (0, .ref h)]) C.x C.b dX9_append_327 hl (k := 0) rfl (nI_1 _) (by decide) rfl (fun ls hl => ?_)
              refine lv_goto (tgt := 292) C.x C.b dX9_append_330 (by decide) ?_
              exact ih292 (k + 1) (by omega) (by omega) ls (lv_sub hl [0, 1, 2] rfl) _ hM hO _ _ hX
        exact LOOP292 _ 0 (by omega) (Nat.lt_succ_self _) ls (lv_sub hl [0, 1, 2] rfl) _ hM hO _ _ hX
      · skip
        have c_245 : ¬ (4 ≤ k) := fun h9 => c_245 ((nI_leI (by omega) (by omega)).mpr h9)
        refine lv_iload C.x C.b dX9_append_248 (lv_at hl 0 rfl) ?_
        refine lv_aload_n C.x C.b dX9_append_250 rfl (lv_at hl 2 rfl) ?_
        refine k_get (X := RX9) (T := TX9) (N := 28) (v := .ref (q 21)) C hX (hM.at 0 rfl) rfl hin_X9_append_RX9 21 (by decide) lk_X9_append_f61 (fun _ h9 => h9) rfl dX9_append_251 ?_
        refine lv_iload C.x C.b dX9_append_254 (lv_at hl 1 rfl) ?_
        refine k_lald C hX (hM.at 15 rfl) (vp_in_nI (by omega) (by omega)) dX9_append_256 ?_
        refine k_topl (y := (mProd b21 b20 (b19 (4 * t + 3)) (-b19 (4 * t + 1)) (-b19 (4 * t + 2)) (b19 (4 * t))) k) (by rw [nI_clamp (by omega)]) ?_
        refine lv_ldc2 (v := -1000000000) C.x C.b C.ow (C.ts _ lk_X9_append_c117) dX9_append_257 ?_
        refine lv_ldc2 (v := 1000000000) C.x C.b C.ow (C.ts _ lk_X9_append_c119) dX9_append_260 ?_
        refine k_calli (va_runS (As := [.long ((mProd b21 b20 (b19 (4 * t + 3)) (-b19 (4 * t + 1)) (-b19 (4 * t + 2)) (b19 (4 * t))) k), .long (-1000000000), .long 1000000000]) (rest := [.int (kbI (∀ j : Nat, j < k → mRl ((mProd b21 b20 (b19 (4 * t + 3)) (-b19 (4 * t + 1)) (-b19 (4 * t + 2)) (b19 (4 * t))) j)))]) C.1 (kX9_isIn l G B0 g5 ((mProd b21 b20 (b19 (4 * t + 3)) (-b19 (4 * t + 1)) (-b19 (4 * t + 2)) (b19 (4 * t))) k) (-1000000000) 1000000000) (va_cwS 3 C.ts gX9_append_X9_isIn rfl rfl rfl (hdX9_append_X9_isIn) ⟨Nat.le_of_ble_eq_true rfl, Nat.le_of_ble_eq_true rfl⟩) (k_preS C hX) rfl rfl hl.1 rfl (lv_room (Nat.le_of_ble_eq_true rfl)) dX9_append_263 ⟨Nat.le_of_ble_eq_true rfl, Nat.le_of_ble_eq_true rfl⟩) hX (fun r263 f263 H locs hp263 hX => ?_)
        obtain ⟨hr263, hf263⟩ := hp263
        rw [hf263] at hX
        refine k_topi (y := (kbI (mRl ((mProd b21 b20 (b19 (4 * t + 3)) (-b19 (4 * t + 1)) (-b19 (4 * t + 2)) (b19 (4 * t))) k)))) hr263 ?_
        refine lv_iand C.x C.b dX9_append_266 ?_
        refine k_topi (y := (kbI (∀ j : Nat, j < k + 1 → mRl ((mProd b21 b20 (b19 (4 * t + 3)) (-b19 (4 * t + 1)) (-b19 (4 * t + 2)) (b19 (4 * t))) j)))) (kbI_all (P := fun j => mRl ((mProd b21 b20 (b19 (4 * t + 3)) (-b19 (4 * t + 1)) (-b19 (4 * t + 2)) (b19 (4 * t))) j))) ?_
        refine lv_istore (lv' := [(12, .int (kbI (∀ j : Nat, j < k + 1 → mRl ((mProd b21 b20 (b19 (4 * t + 3)) (-b19 (4 * t + 1)) (-b19 (4 * t + 2)) (b19 (4 * t))) j)))), (13, .int (nI k)), (0, .ref h), (3, .int (nI (4 * t)))]) C.x C.b dX9_append_267 hl (by decide) rfl (fun ls hl => ?_)
        refine lv_iinc (v := (nI (k + 1))) (lv' := [(13, .int (nI (k + 1))), (12, .int (kbI (∀ j : Nat, j < k + 1 → mRl ((mProd b21 b20 (b19 (4 * t + 3)) (-b19 (4 * t + 1)) (-b19 (4 * t + 2)) (b19 (4 * t))) j)))), (0, .ref h), (3, .int (nI (4 * t)))]) C.x C.b dX9_append_269 hl (k := 1) rfl (nI_1 _) (by decide) rfl (fun ls hl => ?_)
        refine lv_goto (tgt := 242) C.x C.b dX9_append_272 (by decide) ?_
        exact ih242 (k + 1) (by omega) (by omega) ls (lv_sub hl [1, 0, 2, 3] rfl) _ _ hX
  exact LOOP242 _ 0 (by omega) (Nat.lt_succ_self _) ls (lv_sub hl [1, 0, 7, 6] rfl) _ _ hX

theorem lk_X9_partsBy_f64 : Cond.fieldLink RX9 64 "KoebehallModel" "nodes" "I" ∈ wsX9_partsBy := by decide +kernel
theorem hin_X9_partsBy_RX9 : ∀ w ∈ u_ws RX9 TX9 28, w ∈ wsX9_partsBy := by decide +kernel
theorem lk_X9_partsBy_f209 : Cond.fieldLink RX9 209 "KoebehallModel" "wires" "I" ∈ wsX9_partsBy := by decide +kernel
theorem lk_X9_partsBy_f73 : Cond.fieldLink RX9 73 "KoebehallModel" "part" "[I" ∈ wsX9_partsBy := by decide +kernel
theorem lk_X9_partsBy_f67 : Cond.fieldLink RX9 67 "KoebehallModel" "ends" "[I" ∈ wsX9_partsBy := by decide +kernel
theorem lk_X9_partsBy_f70 : Cond.fieldLink RX9 70 "KoebehallModel" "others" "[I" ∈ wsX9_partsBy := by decide +kernel
abbrev rmX9_partsBy : Room := { frames := 0, cells := 0, slots := 0, locals := 0 }
set_option maxHeartbeats 4000000 in
set_option maxRecDepth 100000 in
/-- X9_partsBy -/
theorem kX9_partsBy (l : Launch) (G : kG) (B0 : Nat) (f : kH) (h : Nat) (q : Nat → Nat) (i0 i1 i3 i7 i18 i22 i23 i27 : Int32) (j16 j17 : Int64) (a2 : Nat → Int32) (a4 : Nat → Int32) (a5 : Nat → Int32) (a6 : Nat → Int32) (b8 : Nat → Int64) (b9 : Nat → Int64) (b10 : Nat → Int64) (a11 : Nat → Int32) (a12 : Nat → Int32) (a13 : Nat → Int32) (a14 : Nat → Int32) (b15 : Nat → Int64) (b19 : Nat → Int64) (b20 : Nat → Int64) (b21 : Nat → Int64) (a24 : Nat → Int32) (a25 : Nat → Int32) (a26 : Nat → Int32) (en ot : Nat → Nat) (n9 w9 : Nat) (s9 : Nat) (hM : kCs f (mC G h q i0 i1 i3 i7 i18 i22 i23 i27 j16 j17 a2 a4 a5 a6 b8 b9 b10 a11 a12 a13 a14 b15 b19 b20 b21 a24 a25 a26)) (hn0 : i22 = nI n9) (hn9 : n9 ≤ 6) (hw0 : i23 = nI w9) (hw9 : w9 ≤ 10) (hen : ∀ k, k < w9 → a24 k = nI (en k) ∧ en k < n9) (hot : ∀ k, k < w9 → a25 k = nI (ot k) ∧ ot k < n9) (hs : s9 < 2 ^ 31) : Met l yX9_partsBy wsX9_partsBy (rmX9_partsBy) (kP G B0 f [.ref h, .int (nI s9)]) (kQi G B0 (fun r f1 => r = mPV en ot n9 w9 s9 ∧ ∃ F1 : Nat → Int32, kCs f1 (mC G h q i0 i1 i3 i7 i18 i22 i23 i27 j16 j17 a2 a4 a5 a6 b8 b9 b10 a11 a12 a13 a14 b15 b19 b20 b21 a24 a25 F1) ∧ kOff (mAs h q) f f1 ∧ ∀ x, mPB en ot n9 s9 w9 = some x → ∀ k, k < n9 → F1 k = nI (x.1 k))) 0 0 (kAb B0) := by
  refine kMet (cc := cX9_partsBy) (maxL := 7) (ret := (some .int)) (by decide) rfl (Nat.le_of_ble_eq_true rfl) ?_
  intro p e s m args below meth c H locs Q ls C hX hl hr hlocks hnm hQ
  have hO : kOff (mAs h q) f f := kOff.rf
  have hl : lv_has ls 7 [(0, .ref h), (1, .int (nI s9))] := hl
  refine lv_iconst (v := nI 0) C.x C.b dX9_partsBy_0 (by decide) ?_
  refine lv_istore_n (lv' := [(2, .int (nI 0)), (0, .ref h), (1, .int (nI s9))]) C.x C.b dX9_partsBy_1 rfl hl (by decide) rfl (fun ls hl => ?_)
  have LOOP2 : ∀ (n : Nat) (k : Nat), (k ≤ n9) → (n9 - k) < n → ∀ (ls : Array Slot), lv_has ls 7 [(2, .int (nI k)), (0, .ref h), (1, .int (nI s9))] → ∀ (fL : kH), kCs fL (mC G h q i0 i1 i3 i7 i18 i22 i23 i27 j16 j17 a2 a4 a5 a6 b8 b9 b10 a11 a12 a13 a14 b15 b19 b20 b21 a24 a25 (mIota a26 k)) → kOff (mAs h q) f fL → ∀ (H : Heap) (locs : List Loc), kX G B0 s fL H locs → W p l e (rmX9_partsBy) s m args below meth c H locs 0 0 Q (F0 m 2 ls []) := by
    intro n2
    induction n2 with
    | zero => intro k hk hn; exact absurd hn (Nat.not_lt_zero _)
    | succ n2 ih2 =>
      intro k hk hn ls hl fL hM hO H locs hX
      refine lv_iload_n C.x C.b dX9_partsBy_2 rfl (lv_at hl 0 rfl) ?_
      refine lv_aload_n C.x C.b dX9_partsBy_3 rfl (lv_at hl 1 rfl) ?_
      refine k_get (X := RX9) (T := TX9) (N := 28) (v := .int i22) C hX (hM.at 0 rfl) rfl hin_X9_partsBy_RX9 22 (by decide) lk_X9_partsBy_f64 (fun _ h9 => h9) rfl dX9_partsBy_4 ?_
      refine k_topi (y := (nI n9)) (hn0) ?_
      refine lv_icmp_ge (tgt := 23) C.x C.b dX9_partsBy_7 (by decide) (fun c_7 => ?_) (fun c_7 => ?_)
      · skip
        have c_7 : n9 ≤ k := (nI_leI (by omega) (by omega)).mp c_7
        have hk9 : n9 = k := by omega
        subst hk9
        refine lv_aload_n C.x C.b dX9_partsBy_23 rfl (lv_at hl 1 rfl) ?_
        refine k_get (X := RX9) (T := TX9) (N := 28) (v := .int i22) C hX (hM.at 0 rfl) rfl hin_X9_partsBy_RX9 22 (by decide) lk_X9_partsBy_f64 (fun _ h9 => h9) rfl dX9_partsBy_24 ?_
        refine k_topi (y := (nI n9)) (hn0) ?_
        refine lv_istore_n (lv' := [(2, .int (nI n9)), (0, .ref h), (1, .int (nI s9))]) C.x C.b dX9_partsBy_27 rfl hl (by decide) rfl (fun ls hl => ?_)
        refine lv_iconst (v := nI 0) C.x C.b dX9_partsBy_28 (by decide) ?_
        refine lv_istore_n (lv' := [(3, .int (nI 0)), (2, .int (nI n9)), (0, .ref h), (1, .int (nI s9))]) C.x C.b dX9_partsBy_29 rfl hl (by decide) rfl (fun ls hl => ?_)
        have LOOP30 : ∀ (n : Nat) (w : Nat) (pp : Nat → Nat) (pt : Int32) (FF : Nat → Int32), (w ≤ w9) → (mPB en ot n9 s9 w = some (pp, pt)) → (∀ k, k < n9 → FF k = nI (pp k)) → (w9 - w) < n → ∀ (ls : Array Slot), lv_has ls 7 [(2, .int pt), (3, .int (nI w)), (0, .ref h), (1, .int (nI s9))] → ∀ (fL : kH), kCs fL (mC G h q i0 i1 i3 i7 i18 i22 i23 i27 j16 j17 a2 a4 a5 a6 b8 b9 b10 a11 a12 a13 a14 b15 b19 b20 b21 a24 a25 FF) → kOff (mAs h q) f fL → ∀ (H : Heap) (locs : List Loc), kX G B0 s fL H locs → W p l e (rmX9_partsBy) s m args below meth c H locs 0 0 Q (F0 m 30 ls []) := by
          intro n30
          induction n30 with
          | zero => intro w pp pt FF hw hpb hFF hn; exact absurd hn (Nat.not_lt_zero _)
          | succ n30 ih30 =>
            intro w pp pt FF hw hpb hFF hn ls hl fL hM hO H locs hX
            refine lv_iload_n C.x C.b dX9_partsBy_30 rfl (lv_at hl 1 rfl) ?_
            refine lv_aload_n C.x C.b dX9_partsBy_31 rfl (lv_at hl 2 rfl) ?_
            refine k_get (X := RX9) (T := TX9) (N := 28) (v := .int i23) C hX (hM.at 0 rfl) rfl hin_X9_partsBy_RX9 23 (by decide) lk_X9_partsBy_f209 (fun _ h9 => h9) rfl dX9_partsBy_32 ?_
            refine k_topi (y := (nI w9)) (hw0) ?_
            refine lv_icmp_ge (tgt := 140) C.x C.b dX9_partsBy_35 (by decide) (fun c_35 => ?_) (fun c_35 => ?_)
            · skip
              have c_35 : w9 ≤ w := (nI_leI (by omega) (by omega)).mp c_35
              refine lv_iload_n C.x C.b dX9_partsBy_140 rfl (lv_at hl 0 rfl) ?_
              exact k_iret C hX hr hlocks hQ (by omega) (by omega) (by have e9 : w = w9 := (by omega); subst e9; exact ⟨by simp only [mPV, hpb], FF, hM, hO, fun x hx => by rw [hpb] at hx; cases hx; exact hFF⟩) dX9_partsBy_141
            · skip
              have c_35 : ¬ (w9 ≤ w) := fun h9 => c_35 ((nI_leI (by omega) (by omega)).mpr h9)
              have hw8 : w < w9 := by omega
              obtain ⟨he1, he2⟩ := hen w hw8
              obtain ⟨ho1, ho2⟩ := hot w hw8
              have hlt : ∀ k, k < n9 → pp k < n9 := mPB_lt (fun k hk => (hen k (by omega)).2) hpb
              refine lv_iload_n C.x C.b dX9_partsBy_38 rfl (lv_at hl 3 rfl) ?_
              refine lv_iload_n C.x C.b dX9_partsBy_39 rfl (lv_at hl 1 rfl) ?_
              refine lv_ishr C.x C.b dX9_partsBy_40 ?_
              refine lv_iconst (v := nI 1) C.x C.b dX9_partsBy_41 (by decide) ?_
              have hb2 : s9 / 2 ^ w % 2 < 2 := Nat.mod_lt _ (by omega)
              refine lv_iand C.x C.b dX9_partsBy_42 ?_
              refine k_topi (y := (nI (s9 / 2 ^ w % 2))) (k_bit hs (by omega)) ?_
              refine lv_iconst (v := nI 1) C.x C.b dX9_partsBy_43 (by decide) ?_
              refine lv_icmp_ne (tgt := 134) C.x C.b dX9_partsBy_44 (by decide) (fun c_44 => ?_) (fun c_44 => ?_)
              · skip
                have c_44 : ¬ (s9 / 2 ^ w % 2 = 1) := fun h9 => c_44 ((nI_eq (by omega) (by omega)).mpr h9)
                refine lv_iinc (v := (nI (w + 1))) (lv' := [(3, .int (nI (w + 1))), (2, .int pt), (0, .ref h), (1, .int (nI s9))]) C.x C.b dX9_partsBy_134 hl (k := 1) rfl (nI_1 _) (by decide) rfl (fun ls hl => ?_)
                refine lv_goto (tgt := 30) C.x C.b dX9_partsBy_137 (by decide) ?_
                exact ih30 (w + 1) _ _ _ (by omega) (by simp only [mPB, hpb]; rw [if_neg c_44]) hFF (by omega) ls (lv_sub hl [1, 0, 2, 3] rfl) _ hM hO _ _ hX
              · skip
                have c_44 : s9 / 2 ^ w % 2 = 1 := (nI_eq (by omega) (by omega)).mp c_44
                refine lv_aload_n C.x C.b dX9_partsBy_47 rfl (lv_at hl 2 rfl) ?_
                refine k_get (X := RX9) (T := TX9) (N := 28) (v := .ref (q 26)) C hX (hM.at 0 rfl) rfl hin_X9_partsBy_RX9 26 (by decide) lk_X9_partsBy_f73 (fun _ h9 => h9) rfl dX9_partsBy_48 ?_
                refine lv_aload_n C.x C.b dX9_partsBy_51 rfl (lv_at hl 2 rfl) ?_
                refine k_get (X := RX9) (T := TX9) (N := 28) (v := .ref (q 24)) C hX (hM.at 0 rfl) rfl hin_X9_partsBy_RX9 24 (by decide) lk_X9_partsBy_f67 (fun _ h9 => h9) rfl dX9_partsBy_52 ?_
                refine lv_iload_n C.x C.b dX9_partsBy_55 rfl (lv_at hl 1 rfl) ?_
                refine k_iald C hX (hM.at 16 rfl) (vp_in_nI (by omega) (by omega)) dX9_partsBy_56 ?_
                refine k_topi (y := a24 w) (by rw [nI_clamp (by omega)]) ?_
                refine k_topi (y := (nI (en w))) (he1) ?_
                refine k_iald C hX (hM.at 18 rfl) (vp_in_nI (by omega) (by omega)) dX9_partsBy_57 ?_
                refine k_topi (y := FF (en w)) (by rw [nI_clamp (by omega)]) ?_
                refine k_topi (y := (nI (pp (en w)))) (hFF _ he2) ?_
                refine lv_istore (lv' := [(4, .int (nI (pp (en w)))), (2, .int pt), (3, .int (nI w)), (0, .ref h), (1, .int (nI s9))]) C.x C.b dX9_partsBy_58 hl (by decide) rfl (fun ls hl => ?_)
                have hl1 := hlt _ he2
                refine lv_aload_n C.x C.b dX9_partsBy_60 rfl (lv_at hl 3 rfl) ?_
                refine k_get (X := RX9) (T := TX9) (N := 28) (v := .ref (q 26)) C hX (hM.at 0 rfl) rfl hin_X9_partsBy_RX9 26 (by decide) lk_X9_partsBy_f73 (fun _ h9 => h9) rfl dX9_partsBy_61 ?_
                refine lv_aload_n C.x C.b dX9_partsBy_64 rfl (lv_at hl 3 rfl) ?_
                refine k_get (X := RX9) (T := TX9) (N := 28) (v := .ref (q 25)) C hX (hM.at 0 rfl) rfl hin_X9_partsBy_RX9 25 (by decide) lk_X9_partsBy_f70 (fun _ h9 => h9) rfl dX9_partsBy_65 ?_
                refine lv_iload_n C.x C.b dX9_partsBy_68 rfl (lv_at hl 2 rfl) ?_
                refine k_iald C hX (hM.at 17 rfl) (vp_in_nI (by omega) (by omega)) dX9_partsBy_69 ?_
                refine k_topi (y := a25 w) (by rw [nI_clamp (by omega)]) ?_
                refine k_topi (y := (nI (ot w))) (ho1) ?_
                refine k_iald C hX (hM.at 18 rfl) (vp_in_nI (by omega) (by omega)) dX9_partsBy_70 ?_
                refine k_topi (y := FF (ot w)) (by rw [nI_clamp (by omega)]) ?_
                refine k_topi (y := (nI (pp (ot w)))) (hFF _ ho2) ?_
                refine lv_istore (lv' := [(5, .int (nI (pp (ot w)))), (4, .int (nI (pp (en w)))), (2, .int pt), (3, .int (nI w)), (0, .ref h), (1, .int (nI s9))]) C.x C.b dX9_partsBy_71 hl (by decide) rfl (fun ls hl => ?_)
                have hl2 := hlt _ ho2
                refine lv_iload C.x C.b dX9_partsBy_73 (lv_at hl 1 rfl) ?_
                refine lv_iload C.x C.b dX9_partsBy_75 (lv_at hl 0 rfl) ?_
                refine lv_icmp_ne (tgt := 82) C.x C.b dX9_partsBy_77 (by decide) (fun c_77 => ?_) (fun c_77 => ?_)
                · skip
                  have c_77 : ¬ (pp (en w) = pp (ot w)) := fun h9 => c_77 ((nI_eq (by omega) (by omega)).mpr h9)
                  refine lv_iconst (v := nI 0) C.x C.b dX9_partsBy_82 (by decide) ?_
                  refine lv_istore (lv' := [(6, .int (nI 0)), (5, .int (nI (pp (ot w)))), (4, .int (nI (pp (en w)))), (2, .int pt), (3, .int (nI w)), (0, .ref h), (1, .int (nI s9))]) C.x C.b dX9_partsBy_83 hl (by decide) rfl (fun ls hl => ?_)
                  have LOOP85 : ∀ (n : Nat) (k : Nat), (k ≤ n9) → (n9 - k) < n → ∀ (ls : Array Slot), lv_has ls 7 [(6, .int (nI k)), (2, .int pt), (3, .int (nI w)), (4, .int (nI (pp (en w)))), (5, .int (nI (pp (ot w)))), (0, .ref h), (1, .int (nI s9))] → ∀ (fL : kH), kCs fL (mC G h q i0 i1 i3 i7 i18 i22 i23 i27 j16 j17 a2 a4 a5 a6 b8 b9 b10 a11 a12 a13 a14 b15 b19 b20 b21 a24 a25 (mMerge FF (nI (pp (en w))) (nI (pp (ot w))) k)) → kOff (mAs h q) f fL → ∀ (H : Heap) (locs : List Loc), kX G B0 s fL H locs → W p l e (rmX9_partsBy) s m args below meth c H locs 0 0 Q (F0 m 85 ls []) := by
                    intro n85
                    induction n85 with
                    | zero => intro k hk hn; exact absurd hn (Nat.not_lt_zero _)
                    | succ n85 ih85 =>
                      intro k hk hn ls hl fL hM hO H locs hX
                      refine lv_iload C.x C.b dX9_partsBy_85 (lv_at hl 0 rfl) ?_
                      refine lv_aload_n C.x C.b dX9_partsBy_87 rfl (lv_at hl 5 rfl) ?_
                      refine k_get (X := RX9) (T := TX9) (N := 28) (v := .int i22) C hX (hM.at 0 rfl) rfl hin_X9_partsBy_RX9 22 (by decide) lk_X9_partsBy_f64 (fun _ h9 => h9) rfl dX9_partsBy_88 ?_
                      refine k_topi (y := (nI n9)) (hn0) ?_
                      refine lv_icmp_ge (tgt := 131) C.x C.b dX9_partsBy_91 (by decide) (fun c_91 => ?_) (fun c_91 => ?_)
                      · skip
                        have c_91 : n9 ≤ k := (nI_leI (by omega) (by omega)).mp c_91
                        have hk9 : n9 = k := by omega
                        subst hk9
                        refine lv_iinc (v := (pt + -1)) (lv' := [(2, .int (pt + -1)), (6, .int (nI n9)), (3, .int (nI w)), (4, .int (nI (pp (en w)))), (5, .int (nI (pp (ot w)))), (0, .ref h), (1, .int (nI s9))]) C.x C.b dX9_partsBy_131 hl (k := 1) rfl (rfl) (by decide) rfl (fun ls hl => ?_)
                        refine lv_iinc (v := (nI (w + 1))) (lv' := [(3, .int (nI (w + 1))), (2, .int (pt + -1)), (6, .int (nI n9)), (4, .int (nI (pp (en w)))), (5, .int (nI (pp (ot w)))), (0, .ref h), (1, .int (nI s9))]) C.x C.b dX9_partsBy_134 hl (k := 2) rfl (nI_1 _) (by decide) rfl (fun ls hl => ?_)
                        refine lv_goto (tgt := 30) C.x C.b dX9_partsBy_137 (by decide) ?_
                        exact ih30 (w + 1) _ _ _ (by omega) (by simp only [mPB, hpb]; rw [if_pos c_44, if_neg c_77]) (fun k hk => by rw [mMerge_lt _ _ _ _ _ hk, hFF k hk]; simp only [nI_eq (show pp k < 2 ^ 31 by have := hlt k hk; omega) (show pp (ot w) < 2 ^ 31 by omega)]; split <;> rfl) (by omega) ls (lv_sub hl [1, 0, 5, 6] rfl) _ hM hO _ _ hX
                      · skip
                        have c_91 : ¬ (n9 ≤ k) := fun h9 => c_91 ((nI_leI (by omega) (by omega)).mpr h9)
                        refine lv_aload_n C.x C.b dX9_partsBy_94 rfl (lv_at hl 5 rfl) ?_
                        refine k_get (X := RX9) (T := TX9) (N := 28) (v := .ref (q 26)) C hX (hM.at 0 rfl) rfl hin_X9_partsBy_RX9 26 (by decide) lk_X9_partsBy_f73 (fun _ h9 => h9) rfl dX9_partsBy_95 ?_
                        refine lv_iload C.x C.b dX9_partsBy_98 (lv_at hl 0 rfl) ?_
                        refine lv_aload_n C.x C.b dX9_partsBy_100 rfl (lv_at hl 5 rfl) ?_
                        refine k_get (X := RX9) (T := TX9) (N := 28) (v := .ref (q 26)) C hX (hM.at 0 rfl) rfl hin_X9_partsBy_RX9 26 (by decide) lk_X9_partsBy_f73 (fun _ h9 => h9) rfl dX9_partsBy_101 ?_
                        refine lv_iload C.x C.b dX9_partsBy_104 (lv_at hl 0 rfl) ?_
                        refine k_iald C hX (hM.at 18 rfl) (vp_in_nI (by omega) (by omega)) dX9_partsBy_106 ?_
                        refine k_topi (y := (mMerge FF (nI (pp (en w))) (nI (pp (ot w))) k) k) (by rw [nI_clamp (by omega)]) ?_
                        refine lv_iload C.x C.b dX9_partsBy_107 (lv_at hl 4 rfl) ?_
                        have J124 : ∀ (ls : Array Slot), lv_has ls 7 [(6, .int (nI k)), (2, .int pt), (3, .int (nI w)), (4, .int (nI (pp (en w)))), (5, .int (nI (pp (ot w)))), (0, .ref h), (1, .int (nI s9))] → ∀ (H : Heap) (locs : List Loc), kX G B0 s fL H locs → W p l e (rmX9_partsBy) s m args below meth c H locs 0 0 Q (F0 m 124 ls [.int (if mMerge FF (nI (pp (en w))) (nI (pp (ot w))) k k = nI (pp (ot w)) then nI (pp (en w)) else mMerge FF (nI (pp (en w))) (nI (pp (ot w))) k k), .int (nI k), .ref (q 26)]) := by
                          intro ls hl H locs hX
                          refine k_iast C hX (hM.at 18 rfl) (vp_in_nI (by omega) (by omega)) dX9_partsBy_124 (fun H locs hX => ?_)
                          rw [nI_clamp (by omega)] at hX
                          obtain ⟨g4, hX, hM, hO⟩ := kX.wr hX hM hO 18 rfl (List.mem_of_getElem? (i := 18) rfl)
                          have hM : kCs g4 (mC G h q i0 i1 i3 i7 i18 i22 i23 i27 j16 j17 a2 a4 a5 a6 b8 b9 b10 a11 a12 a13 a14 b15 b19 b20 b21 a24 a25 (upd (mMerge FF (nI (pp (en w))) (nI (pp (ot w))) k) k (if mMerge FF (nI (pp (en w))) (nI (pp (ot w))) k k = nI (pp (ot w)) then nI (pp (en w)) else mMerge FF (nI (pp (en w))) (nI (pp (ot w))) k k))) := hM
                          refine lv_iinc (v := (nI (k + 1))) (lv' := [(6, .int (nI (k + 1))), (2, .int pt), (3, .int (nI w)), (4, .int (nI (pp (en w)))), (5, .int (nI (pp (ot w)))), (0, .ref h), (1, .int (nI s9))]) C.x C.b dX9_partsBy_125 hl (k := 0) rfl (nI_1 _) (by decide) rfl (fun ls hl => ?_)
                          refine lv_goto (tgt := 85) C.x C.b dX9_partsBy_128 (by decide) ?_
                          exact ih85 (k + 1) (by omega) (by omega) ls (lv_sub hl [0, 1, 2, 3, 4, 5, 6] rfl) _ hM hO _ _ hX
                        refine lv_icmp_ne (tgt := 117) C.x C.b dX9_partsBy_109 (by decide) (fun c_109 => ?_) (fun c_109 => ?_)
                        · skip
                          refine lv_aload_n C.x C.b dX9_partsBy_117 rfl (lv_at hl 5 rfl) ?_
                          refine k_get (X := RX9) (T := TX9) (N := 28) (v := .ref (q 26)) C hX (hM.at 0 rfl) rfl hin_X9_partsBy_RX9 26 (by decide) lk_X9_partsBy_f73 (fun _ h9 => h9) rfl dX9_partsBy_118 ?_
                          refine lv_iload C.x C.b dX9_partsBy_121 (lv_at hl 0 rfl) ?_
                          refine k_iald C hX (hM.at 18 rfl) (vp_in_nI (by omega) (by omega)) dX9_partsBy_123 ?_
                          refine k_topi (y := (mMerge FF (nI (pp (en w))) (nI (pp (ot w))) k) k) (by rw [nI_clamp (by omega)]) ?_
                          refine k_topi (y := (if mMerge FF (nI (pp (en w))) (nI (pp (ot w))) k k = nI (pp (ot w)) then nI (pp (en w)) else mMerge FF (nI (pp (en w))) (nI (pp (ot w))) k k)) (by first | rw [if_pos c_109] | rw [if_neg c_109]) ?_
                          exact J124 ls (lv_sub hl [0, 1, 2, 3, 4, 5, 6] rfl) _ _ hX
                        · skip
                          refine lv_iload C.x C.b dX9_partsBy_112 (lv_at hl 3 rfl) ?_
                          refine lv_goto (tgt := 124) C.x C.b dX9_partsBy_114 (by decide) ?_
                          refine k_topi (y := (if mMerge FF (nI (pp (en w))) (nI (pp (ot w))) k k = nI (pp (ot w)) then nI (pp (en w)) else mMerge FF (nI (pp (en w))) (nI (pp (ot w))) k k)) (by first | rw [if_pos c_109] | rw [if_neg c_109]) ?_
                          exact J124 ls (lv_sub hl [0, 1, 2, 3, 4, 5, 6] rfl) _ _ hX
                  exact LOOP85 _ 0 (by omega) (Nat.lt_succ_self _) ls (lv_sub hl [0, 3, 4, 2, 1, 5, 6] rfl) _ hM hO _ _ hX
                · skip
                  have c_77 : pp (en w) = pp (ot w) := (nI_eq (by omega) (by omega)).mp c_77
                  refine lv_iconst (v := -1) C.x C.b dX9_partsBy_80 (by decide) ?_
                  exact k_iret C hX hr hlocks hQ (by omega) (by omega) (by have e9 : mPB en ot n9 s9 (w + 1) = none := (by simp only [mPB, hpb]; rw [if_pos c_44, if_pos c_77]); have e8 := mPB_none e9 (w9 - (w + 1)); rw [show w + 1 + (w9 - (w + 1)) = w9 by omega] at e8; exact ⟨by simp only [mPV, e8], FF, hM, hO, fun x hx => by rw [e8] at hx; cases hx⟩) dX9_partsBy_81
        exact LOOP30 _ 0 _ _ _ (by omega) rfl (fun k hk => mIota_lt _ _ _ hk) (Nat.lt_succ_self _) ls (lv_sub hl [1, 0, 2, 3] rfl) _ hM hO _ _ hX
      · skip
        have c_7 : ¬ (n9 ≤ k) := fun h9 => c_7 ((nI_leI (by omega) (by omega)).mpr h9)
        refine lv_aload_n C.x C.b dX9_partsBy_10 rfl (lv_at hl 1 rfl) ?_
        refine k_get (X := RX9) (T := TX9) (N := 28) (v := .ref (q 26)) C hX (hM.at 0 rfl) rfl hin_X9_partsBy_RX9 26 (by decide) lk_X9_partsBy_f73 (fun _ h9 => h9) rfl dX9_partsBy_11 ?_
        refine lv_iload_n C.x C.b dX9_partsBy_14 rfl (lv_at hl 0 rfl) ?_
        refine lv_iload_n C.x C.b dX9_partsBy_15 rfl (lv_at hl 0 rfl) ?_
        refine k_iast C hX (hM.at 18 rfl) (vp_in_nI (by omega) (by omega)) dX9_partsBy_16 (fun H locs hX => ?_)
        rw [nI_clamp (by omega)] at hX
        obtain ⟨g5, hX, hM, hO⟩ := kX.wr hX hM hO 18 rfl (List.mem_of_getElem? (i := 18) rfl)
        have hM : kCs g5 (mC G h q i0 i1 i3 i7 i18 i22 i23 i27 j16 j17 a2 a4 a5 a6 b8 b9 b10 a11 a12 a13 a14 b15 b19 b20 b21 a24 a25 (upd (mIota a26 k) k (nI k))) := hM
        refine lv_iinc (v := (nI (k + 1))) (lv' := [(2, .int (nI (k + 1))), (0, .ref h), (1, .int (nI s9))]) C.x C.b dX9_partsBy_17 hl (k := 0) rfl (nI_1 _) (by decide) rfl (fun ls hl => ?_)
        refine lv_goto (tgt := 2) C.x C.b dX9_partsBy_20 (by decide) ?_
        exact ih2 (k + 1) (by omega) (by omega) ls (lv_sub hl [0, 1, 2] rfl) _ hM hO _ _ hX
  exact LOOP2 _ 0 (by omega) (Nat.lt_succ_self _) ls (lv_sub hl [0, 1, 2] rfl) _ hM hO _ _ hX

theorem lk_X9_treesOf_f209 : Cond.fieldLink RX9 209 "KoebehallModel" "wires" "I" ∈ wsX9_treesOf := by decide +kernel
theorem hin_X9_treesOf_RX9 : ∀ w ∈ u_ws RX9 TX9 28, w ∈ wsX9_treesOf := by decide +kernel
theorem hdX9_treesOf_X9_partsBy : yX9_partsBy.cls ≠ "java/lang/invoke/MethodHandle" ∧ yX9_partsBy.cls ≠ "java/lang/invoke/VarHandle" ∧ (parseMethodDescriptor yX9_partsBy.desc).map (fun d => d.parameters.length) = some 1 := by decide +kernel
abbrev rmX9_treesOf : Room := { frames := 1, cells := 0, slots := 0, locals := 26 }
set_option maxHeartbeats 4000000 in
set_option maxRecDepth 100000 in
/-- X9_treesOf -/
theorem kX9_treesOf (l : Launch) (G : kG) (B0 : Nat) (f : kH) (h : Nat) (q : Nat → Nat) (i0 i1 i3 i7 i18 i22 i23 i27 : Int32) (j16 j17 : Int64) (a2 : Nat → Int32) (a4 : Nat → Int32) (a5 : Nat → Int32) (a6 : Nat → Int32) (b8 : Nat → Int64) (b9 : Nat → Int64) (b10 : Nat → Int64) (a11 : Nat → Int32) (a12 : Nat → Int32) (a13 : Nat → Int32) (a14 : Nat → Int32) (b15 : Nat → Int64) (b19 : Nat → Int64) (b20 : Nat → Int64) (b21 : Nat → Int64) (a24 : Nat → Int32) (a25 : Nat → Int32) (a26 : Nat → Int32) (en ot : Nat → Nat) (n9 w9 : Nat) (hM : kCs f (mC G h q i0 i1 i3 i7 i18 i22 i23 i27 j16 j17 a2 a4 a5 a6 b8 b9 b10 a11 a12 a13 a14 b15 b19 b20 b21 a24 a25 a26)) (hn0 : i22 = nI n9) (hn9 : n9 ≤ 6) (hw0 : i23 = nI w9) (hw9 : w9 ≤ 10) (hen : ∀ k, k < w9 → a24 k = nI (en k) ∧ en k < n9) (hot : ∀ k, k < w9 → a25 k = nI (ot k) ∧ ot k < n9) : Met l yX9_treesOf wsX9_treesOf (rmX9_treesOf) (kP G B0 f [.ref h]) (kQi G B0 (fun r f1 => r = nI (mTrees en ot n9 w9) ∧ ∃ F1 : Nat → Int32, kCs f1 (mC G h q i0 i1 i3 i7 i18 i22 i23 i27 j16 j17 a2 a4 a5 a6 b8 b9 b10 a11 a12 a13 a14 b15 b19 b20 b21 a24 a25 F1) ∧ kOff (mAs h q) f f1)) 0 0 (kAb B0) := by
  refine kMet (cc := cX9_treesOf) (maxL := 3) (ret := (some .int)) (by decide) rfl (Nat.le_of_ble_eq_true rfl) ?_
  intro p e s m args below meth c H locs Q ls C hX hl hr hlocks hnm hQ
  have hO : kOff (mAs h q) f f := kOff.rf
  have hl : lv_has ls 3 [(0, .ref h)] := hl
  have hpw := k_pow hw9
  refine lv_iconst (v := nI 0) C.x C.b dX9_treesOf_0 (by decide) ?_
  refine lv_istore_n (lv' := [(1, .int (nI 0)), (0, .ref h)]) C.x C.b dX9_treesOf_1 rfl hl (by decide) rfl (fun ls hl => ?_)
  refine lv_iconst (v := nI 0) C.x C.b dX9_treesOf_2 (by decide) ?_
  refine lv_istore_n (lv' := [(2, .int (nI 0)), (1, .int (nI 0)), (0, .ref h)]) C.x C.b dX9_treesOf_3 rfl hl (by decide) rfl (fun ls hl => ?_)
  have LOOP4 : ∀ (n : Nat) (s8 : Nat) (FF : Nat → Int32), (s8 ≤ 2 ^ w9) → (2 ^ w9 - s8) < n → ∀ (ls : Array Slot), lv_has ls 3 [(1, .int (nI (kCnt (fun s9 => mPV en ot n9 w9 s9 = nI 1) s8))), (2, .int (nI s8)), (0, .ref h)] → ∀ (fL : kH), kCs fL (mC G h q i0 i1 i3 i7 i18 i22 i23 i27 j16 j17 a2 a4 a5 a6 b8 b9 b10 a11 a12 a13 a14 b15 b19 b20 b21 a24 a25 FF) → kOff (mAs h q) f fL → ∀ (H : Heap) (locs : List Loc), kX G B0 s fL H locs → W p l e (rmX9_treesOf) s m args below meth c H locs 0 0 Q (F0 m 4 ls []) := by
    intro n4
    induction n4 with
    | zero => intro s8 FF hs hn; exact absurd hn (Nat.not_lt_zero _)
    | succ n4 ih4 =>
      intro s8 FF hs hn ls hl fL hM hO H locs hX
      refine lv_iload_n C.x C.b dX9_treesOf_4 rfl (lv_at hl 1 rfl) ?_
      refine lv_iconst (v := nI 1) C.x C.b dX9_treesOf_5 (by decide) ?_
      refine lv_aload_n C.x C.b dX9_treesOf_6 rfl (lv_at hl 2 rfl) ?_
      refine k_get (X := RX9) (T := TX9) (N := 28) (v := .int i23) C hX (hM.at 0 rfl) rfl hin_X9_treesOf_RX9 23 (by decide) lk_X9_treesOf_f209 (fun _ h9 => h9) rfl dX9_treesOf_7 ?_
      refine k_topi (y := (nI w9)) (hw0) ?_
      refine lv_ishl C.x C.b dX9_treesOf_10 ?_
      refine k_topi (y := (nI (2 ^ w9))) (k_shl1 w9 (by omega)) ?_
      refine lv_icmp_ge (tgt := 37) C.x C.b dX9_treesOf_11 (by decide) (fun c_11 => ?_) (fun c_11 => ?_)
      · skip
        have c_11 : 2 ^ w9 ≤ s8 := (nI_leI (by omega) (by omega)).mp c_11
        have hs9 : 2 ^ w9 = s8 := by omega
        refine lv_iload_n C.x C.b dX9_treesOf_37 rfl (lv_at hl 0 rfl) ?_
        exact k_iret C hX hr hlocks hQ (by omega) (by omega) (⟨by rw [mTrees, hs9], FF, hM, hO⟩) dX9_treesOf_38
      · skip
        have c_11 : ¬ (2 ^ w9 ≤ s8) := fun h9 => c_11 ((nI_leI (by omega) (by omega)).mpr h9)
        refine lv_iload_n C.x C.b dX9_treesOf_14 rfl (lv_at hl 0 rfl) ?_
        have hcn := kCnt_le (fun s9 => mPV en ot n9 w9 s9 = nI 1) s8
        refine lv_aload_n C.x C.b dX9_treesOf_15 rfl (lv_at hl 2 rfl) ?_
        refine lv_iload_n C.x C.b dX9_treesOf_16 rfl (lv_at hl 1 rfl) ?_
        refine k_calli (va_runV (As := [.int (nI s8)]) (rest := [.int (nI (kCnt (fun s9 => mPV en ot n9 w9 s9 = nI 1) s8))]) C.1 (kX9_partsBy l G B0 fL h q i0 i1 i3 i7 i18 i22 i23 i27 j16 j17 a2 a4 a5 a6 b8 b9 b10 a11 a12 a13 a14 b15 b19 b20 b21 a24 a25 FF en ot n9 w9 s8 hM hn0 hn9 hw0 hw9 hen hot (by omega)) (cwV 1 C.ts gX9_treesOf_X9_partsBy rfl rfl rfl ⟨rfl, hdX9_treesOf_X9_partsBy⟩ ⟨Nat.le_of_ble_eq_true rfl, Nat.le_of_ble_eq_true rfl⟩) (k_preV C hX (hM.at 0 rfl) rfl) rfl rfl hl.1 rfl (lv_room (Nat.le_of_ble_eq_true rfl)) dX9_treesOf_17 ⟨Nat.le_of_ble_eq_true rfl, Nat.le_of_ble_eq_true rfl⟩) hX (fun r17 f17 H locs hp17 hX => ?_)
        obtain ⟨hr17, F1, hM, hO17, hF1⟩ := hp17
        have hO := hO.trans hO17
        refine k_topi hr17 ?_
        refine lv_iconst (v := nI 1) C.x C.b dX9_treesOf_20 (by decide) ?_
        have J29 : ∀ (ls : Array Slot), lv_has ls 3 [(1, .int (nI (kCnt (fun s9 => mPV en ot n9 w9 s9 = nI 1) s8))), (2, .int (nI s8)), (0, .ref h)] → ∀ (H : Heap) (locs : List Loc), kX G B0 s f17 H locs → W p l e (rmX9_treesOf) s m args below meth c H locs 0 0 Q (F0 m 29 ls [.int (nI (if mPV en ot n9 w9 s8 = nI 1 then 1 else 0)), .int (nI (kCnt (fun s9 => mPV en ot n9 w9 s9 = nI 1) s8))]) := by
          intro ls hl H locs hX
          refine lv_iadd C.x C.b dX9_treesOf_29 ?_
          refine k_topi (y := nI ((kCnt (fun s9 => mPV en ot n9 w9 s9 = nI 1) s8) + (if mPV en ot n9 w9 s8 = nI 1 then 1 else 0))) (nI_add _ _) ?_
          refine k_topi (y := (nI (kCnt (fun s9 => mPV en ot n9 w9 s9 = nI 1) (s8 + 1)))) (rfl) ?_
          refine lv_istore_n (lv' := [(1, .int (nI (kCnt (fun s9 => mPV en ot n9 w9 s9 = nI 1) (s8 + 1)))), (2, .int (nI s8)), (0, .ref h)]) C.x C.b dX9_treesOf_30 rfl hl (by decide) rfl (fun ls hl => ?_)
          refine lv_iinc (v := (nI (s8 + 1))) (lv' := [(2, .int (nI (s8 + 1))), (1, .int (nI (kCnt (fun s9 => mPV en ot n9 w9 s9 = nI 1) (s8 + 1)))), (0, .ref h)]) C.x C.b dX9_treesOf_31 hl (k := 1) rfl (nI_1 _) (by decide) rfl (fun ls hl => ?_)
          refine lv_goto (tgt := 4) C.x C.b dX9_treesOf_34 (by decide) ?_
          exact ih4 (s8 + 1) _ (by omega) (by omega) ls (lv_sub hl [1, 0, 2] rfl) _ hM hO _ _ hX
        refine lv_icmp_ne (tgt := 28) C.x C.b dX9_treesOf_21 (by decide) (fun c_21 => ?_) (fun c_21 => ?_)
        · skip
          refine lv_iconst (v := nI 0) C.x C.b dX9_treesOf_28 (by decide) ?_
          refine k_topi (y := (nI (if mPV en ot n9 w9 s8 = nI 1 then 1 else 0))) (by first | rw [if_pos c_21] | rw [if_neg c_21]) ?_
          exact J29 ls (lv_sub hl [0, 1, 2] rfl) _ _ hX
        · skip
          refine lv_iconst (v := nI 1) C.x C.b dX9_treesOf_24 (by decide) ?_
          refine lv_goto (tgt := 29) C.x C.b dX9_treesOf_25 (by decide) ?_
          refine k_topi (y := (nI (if mPV en ot n9 w9 s8 = nI 1 then 1 else 0))) (by first | rw [if_pos c_21] | rw [if_neg c_21]) ?_
          exact J29 ls (lv_sub hl [0, 1, 2] rfl) _ _ hX
  exact LOOP4 _ 0 _ (Nat.zero_le _) (Nat.lt_succ_self _) ls (lv_sub hl [1, 0, 2] rfl) _ hM hO _ _ hX

theorem lk_X9_trees_f80 : Cond.fieldLink RX9 80 "KoebehallModel" "thrown" "I" ∈ wsX9_trees := by decide +kernel
theorem hin_X9_trees_RX9 : ∀ w ∈ u_ws RX9 TX9 28, w ∈ wsX9_trees := by decide +kernel
theorem hdX9_trees_X9_treesOf : yX9_treesOf.cls ≠ "java/lang/invoke/MethodHandle" ∧ yX9_treesOf.cls ≠ "java/lang/invoke/VarHandle" ∧ (parseMethodDescriptor yX9_treesOf.desc).map (fun d => d.parameters.length) = some 0 := by decide +kernel
abbrev rmX9_trees : Room := { frames := 2, cells := 0, slots := 0, locals := 48 }
set_option maxHeartbeats 4000000 in
set_option maxRecDepth 100000 in
/-- X9_trees -/
theorem kX9_trees (l : Launch) (G : kG) (B0 : Nat) (f : kH) (h : Nat) (q : Nat → Nat) (i0 i1 i3 i7 i18 i22 i23 i27 : Int32) (j16 j17 : Int64) (a2 : Nat → Int32) (a4 : Nat → Int32) (a5 : Nat → Int32) (a6 : Nat → Int32) (b8 : Nat → Int64) (b9 : Nat → Int64) (b10 : Nat → Int64) (a11 : Nat → Int32) (a12 : Nat → Int32) (a13 : Nat → Int32) (a14 : Nat → Int32) (b15 : Nat → Int64) (b19 : Nat → Int64) (b20 : Nat → Int64) (b21 : Nat → Int64) (a24 : Nat → Int32) (a25 : Nat → Int32) (a26 : Nat → Int32) (en ot : Nat → Nat) (n9 w9 : Nat) (hM : kCs f (mC G h q i0 i1 i3 i7 i18 i22 i23 i27 j16 j17 a2 a4 a5 a6 b8 b9 b10 a11 a12 a13 a14 b15 b19 b20 b21 a24 a25 a26)) (hn0 : i22 = nI n9) (hn9 : n9 ≤ 6) (hw0 : i23 = nI w9) (hw9 : w9 ≤ 10) (hen : ∀ k, k < w9 → a24 k = nI (en k) ∧ en k < n9) (hot : ∀ k, k < w9 → a25 k = nI (ot k) ∧ ot k < n9) : Met l yX9_trees wsX9_trees (rmX9_trees) (kP G B0 f [.ref h]) (kQi G B0 (fun r f1 => r = nI (mTrees en ot n9 w9) ∧ ∃ F1 : Nat → Int32, kCs f1 (mC G h q i0 i1 i3 i7 i18 i22 i23 (nI 0) j16 j17 a2 a4 a5 a6 b8 b9 b10 a11 a12 a13 a14 b15 b19 b20 b21 a24 a25 F1) ∧ kOff (mAs h q) f f1)) 0 0 (kAb B0) := by
  refine kMet (cc := cX9_trees) (maxL := 1) (ret := (some .int)) (by decide) rfl (Nat.le_of_ble_eq_true rfl) ?_
  intro p e s m args below meth c H locs Q ls C hX hl hr hlocks hnm hQ
  have hO : kOff (mAs h q) f f := kOff.rf
  have hl : lv_has ls 1 [(0, .ref h)] := hl
  refine lv_aload_n C.x C.b dX9_trees_0 rfl (lv_at hl 0 rfl) ?_
  refine lv_iconst (v := nI 0) C.x C.b dX9_trees_1 (by decide) ?_
  refine k_put (X := RX9) (T := TX9) (N := 28) (ty := .int) (v := .int (nI 0)) C hX (hM.at 0 rfl) rfl hin_X9_trees_RX9 tyX9_ok nmX9 27 (by decide) lk_X9_trees_f80 (fun _ h9 => h9) rfl (by decide +kernel) rfl rfl (Nat.le_of_ble_eq_true rfl) dX9_trees_2 (fun H locs hX => ?_)
  obtain ⟨g1, hX, hM, hO⟩ := kX.wr hX hM hO 0 rfl (List.mem_of_getElem? (i := 0) rfl)
  have hM : kCs g1 (mC G h q i0 i1 i3 i7 i18 i22 i23 (nI 0) j16 j17 a2 a4 a5 a6 b8 b9 b10 a11 a12 a13 a14 b15 b19 b20 b21 a24 a25 a26) := hM
  refine lv_aload_n C.x C.b dX9_trees_5 rfl (lv_at hl 0 rfl) ?_
  refine k_calli (va_runV (As := []) (rest := []) C.1 (kX9_treesOf l G B0 g1 h q i0 i1 i3 i7 i18 i22 i23 (nI 0) j16 j17 a2 a4 a5 a6 b8 b9 b10 a11 a12 a13 a14 b15 b19 b20 b21 a24 a25 a26 en ot n9 w9 hM hn0 hn9 hw0 hw9 hen hot) (cwV 0 C.ts gX9_trees_X9_treesOf rfl rfl rfl ⟨rfl, hdX9_trees_X9_treesOf⟩ ⟨Nat.le_of_ble_eq_true rfl, Nat.le_of_ble_eq_true rfl⟩) (k_preV C hX (hM.at 0 rfl) rfl) rfl rfl hl.1 rfl (lv_room (Nat.le_of_ble_eq_true rfl)) dX9_trees_6 ⟨Nat.le_of_ble_eq_true rfl, Nat.le_of_ble_eq_true rfl⟩) hX (fun r6 f6 H locs hp6 hX => ?_)
  obtain ⟨hr6, F1, hM, hO6⟩ := hp6
  have hO := hO.trans hO6
  refine k_topi hr6 ?_
  exact k_iret C hX hr hlocks hQ (by omega) (by omega) (⟨rfl, F1, hM, hO⟩) dX9_trees_9

theorem lk_X9_treesAnew_f80 : Cond.fieldLink RX9 80 "KoebehallModel" "thrown" "I" ∈ wsX9_treesAnew := by decide +kernel
theorem hin_X9_treesAnew_RX9 : ∀ w ∈ u_ws RX9 TX9 28, w ∈ wsX9_treesAnew := by decide +kernel
theorem hdX9_treesAnew_X9_treesOf : yX9_treesOf.cls ≠ "java/lang/invoke/MethodHandle" ∧ yX9_treesOf.cls ≠ "java/lang/invoke/VarHandle" ∧ (parseMethodDescriptor yX9_treesOf.desc).map (fun d => d.parameters.length) = some 0 := by decide +kernel
abbrev rmX9_treesAnew : Room := { frames := 2, cells := 0, slots := 0, locals := 48 }
set_option maxHeartbeats 4000000 in
set_option maxRecDepth 100000 in
/-- X9_treesAnew -/
theorem kX9_treesAnew (l : Launch) (G : kG) (B0 : Nat) (f : kH) (h : Nat) (q : Nat → Nat) (i0 i1 i3 i7 i18 i22 i23 i27 : Int32) (j16 j17 : Int64) (a2 : Nat → Int32) (a4 : Nat → Int32) (a5 : Nat → Int32) (a6 : Nat → Int32) (b8 : Nat → Int64) (b9 : Nat → Int64) (b10 : Nat → Int64) (a11 : Nat → Int32) (a12 : Nat → Int32) (a13 : Nat → Int32) (a14 : Nat → Int32) (b15 : Nat → Int64) (b19 : Nat → Int64) (b20 : Nat → Int64) (b21 : Nat → Int64) (a24 : Nat → Int32) (a25 : Nat → Int32) (a26 : Nat → Int32) (en ot : Nat → Nat) (n9 w9 : Nat) (hM : kCs f (mC G h q i0 i1 i3 i7 i18 i22 i23 i27 j16 j17 a2 a4 a5 a6 b8 b9 b10 a11 a12 a13 a14 b15 b19 b20 b21 a24 a25 a26)) (hn0 : i22 = nI n9) (hn9 : n9 ≤ 6) (hw0 : i23 = nI w9) (hw9 : w9 ≤ 10) (hen : ∀ k, k < w9 → a24 k = nI (en k) ∧ en k < n9) (hot : ∀ k, k < w9 → a25 k = nI (ot k) ∧ ot k < n9) : Met l yX9_treesAnew wsX9_treesAnew (rmX9_treesAnew) (kP G B0 f [.ref h]) (kQi G B0 (fun r f1 => r = nI (mTrees en ot n9 w9) ∧ ∃ F1 : Nat → Int32, kCs f1 (mC G h q i0 i1 i3 i7 i18 i22 i23 (nI 0) j16 j17 a2 a4 a5 a6 b8 b9 b10 a11 a12 a13 a14 b15 b19 b20 b21 a24 a25 F1) ∧ kOff (mAs h q) f f1)) 0 0 (kAb B0) := by
  refine kMet (cc := cX9_treesAnew) (maxL := 1) (ret := (some .int)) (by decide) rfl (Nat.le_of_ble_eq_true rfl) ?_
  intro p e s m args below meth c H locs Q ls C hX hl hr hlocks hnm hQ
  have hO : kOff (mAs h q) f f := kOff.rf
  have hl : lv_has ls 1 [(0, .ref h)] := hl
  refine lv_aload_n C.x C.b dX9_treesAnew_0 rfl (lv_at hl 0 rfl) ?_
  refine lv_iconst (v := nI 0) C.x C.b dX9_treesAnew_1 (by decide) ?_
  refine k_put (X := RX9) (T := TX9) (N := 28) (ty := .int) (v := .int (nI 0)) C hX (hM.at 0 rfl) rfl hin_X9_treesAnew_RX9 tyX9_ok nmX9 27 (by decide) lk_X9_treesAnew_f80 (fun _ h9 => h9) rfl (by decide +kernel) rfl rfl (Nat.le_of_ble_eq_true rfl) dX9_treesAnew_2 (fun H locs hX => ?_)
  obtain ⟨g1, hX, hM, hO⟩ := kX.wr hX hM hO 0 rfl (List.mem_of_getElem? (i := 0) rfl)
  have hM : kCs g1 (mC G h q i0 i1 i3 i7 i18 i22 i23 (nI 0) j16 j17 a2 a4 a5 a6 b8 b9 b10 a11 a12 a13 a14 b15 b19 b20 b21 a24 a25 a26) := hM
  refine lv_aload_n C.x C.b dX9_treesAnew_5 rfl (lv_at hl 0 rfl) ?_
  refine k_calli (va_runV (As := []) (rest := []) C.1 (kX9_treesOf l G B0 g1 h q i0 i1 i3 i7 i18 i22 i23 (nI 0) j16 j17 a2 a4 a5 a6 b8 b9 b10 a11 a12 a13 a14 b15 b19 b20 b21 a24 a25 a26 en ot n9 w9 hM hn0 hn9 hw0 hw9 hen hot) (cwV 0 C.ts gX9_treesAnew_X9_treesOf rfl rfl rfl ⟨rfl, hdX9_treesAnew_X9_treesOf⟩ ⟨Nat.le_of_ble_eq_true rfl, Nat.le_of_ble_eq_true rfl⟩) (k_preV C hX (hM.at 0 rfl) rfl) rfl rfl hl.1 rfl (lv_room (Nat.le_of_ble_eq_true rfl)) dX9_treesAnew_6 ⟨Nat.le_of_ble_eq_true rfl, Nat.le_of_ble_eq_true rfl⟩) hX (fun r6 f6 H locs hp6 hX => ?_)
  obtain ⟨hr6, F1, hM, hO6⟩ := hp6
  have hO := hO.trans hO6
  refine k_topi hr6 ?_
  exact k_iret C hX hr hlocks hQ (by omega) (by omega) (⟨rfl, F1, hM, hO⟩) dX9_treesAnew_9
