/-! the reference's state: its ints I, longs J by slot, its int and long arrays AI, AJ by slot, the arrays' addresses q by slot -/
def mC (G : kG) (h : Nat) (q : Nat → Nat) (I : Nat → Int32) (J : Nat → Int64) (AI : Nat → Nat → Int32) (AJ : Nat → Nat → Int64) : va_W := [(h, .inr (9, [.int (I 0), .int (I 1), .ref (q 2), .int (I 3), .ref (q 4), .ref (q 5), .ref (q 6), .int (I 7), .ref (q 8), .ref (q 9), .ref (q 10), .ref (q 11), .ref (q 12), .ref (q 13), .ref (q 14), .ref (q 15), .long (J 16), .long (J 17), .int (I 18), .ref (q 19), .ref (q 20), .ref (q 21), .int (I 22), .int (I 23), .ref (q 24), .ref (q 25), .ref (q 26), .int (I 27)])), (q 2, kaI G 84 (AI 2)), (q 4, kaI G 16 (AI 4)), (q 5, kaI G 16 (AI 5)), (q 6, kaI G 16 (AI 6)), (q 8, kaJ G 32 (AJ 8)), (q 9, kaJ G 4 (AJ 9)), (q 10, kaJ G 1024 (AJ 10)), (q 11, kaI G 256 (AI 11)), (q 12, kaI G 256 (AI 12)), (q 13, kaZ G 4096 (AI 13)), (q 14, kaI G 4096 (AI 14)), (q 15, kaJ G 128 (AJ 15)), (q 19, kaJ G 16 (AJ 19)), (q 20, kaJ G 4 (AJ 20)), (q 21, kaJ G 4 (AJ 21)), (q 24, kaI G 10 (AI 24)), (q 25, kaI G 10 (AI 25)), (q 26, kaI G 6 (AI 26))]
def mNx (k : Nat) : Nat := if k % 3 = 2 then k - 2 else k + 1
/-- the last spot below n at which b is named behind a, as a face -/
def mFaceOf (F : Nat → Int32) (a b : Int32) : Nat → Int32
  | 0 => -1
  | k + 1 => if F k = a ∧ F (mNx k) = b then nI (k / 3) else mFaceOf F a b k
/-- the last of n corners from t on that is neither a nor b -/
def mThird (F : Nat → Int32) (t : Nat) (a b : Int32) : Nat → Int32
  | 0 => -1
  | k + 1 => if F (t + k) ≠ a ∧ F (t + k) ≠ b then F (t + k) else mThird F t a b k

abbrev rmX9_isIn : Room := { frames := 0, cells := 0, slots := 0, locals := 0 }
set_option maxHeartbeats 4000000 in
set_option maxRecDepth 100000 in
/-- X9_isIn -/
theorem kX9_isIn (l : Launch) (G : kG) (B0 : Nat) (f : kH) (a b c9 : Int64) : Met l yX9_isIn wsX9_isIn rmX9_isIn (kP G B0 f [.long a, .long b, .long c9]) (kQi G B0 (fun r f1 => r = kbI (b ≤ a ∧ a ≤ c9) ∧ f1 = f)) 0 0 (kAb B0) := by
  refine kMet (cc := cX9_isIn) (maxL := 6) (ret := (some .boolean)) (by decide) rfl (Nat.le_of_ble_eq_true rfl) ?_
  intro p e s m args below meth c H locs Q ls C hX hl hr hlocks hnm hQ
  have hl : lv_has ls 6 [(0, .long a), (2, .long b), (4, .long c9)] := hl
  refine lv_lload_n C.x C.b dX9_isIn_0 rfl (lv_at hl 0 rfl) ?_
  refine lv_lload_n C.x C.b dX9_isIn_1 rfl (lv_at hl 1 rfl) ?_
  refine k_lcmp_lt (tgt := 17) C.x C.b dX9_isIn_2 dX9_isIn_3 (by decide) (fun c_3 => ?_) (fun c_3 => ?_)
  · skip
    refine lv_iconst (v := nI 0) C.x C.b dX9_isIn_17 (by decide) ?_
    exact k_zret C hX hr hlocks hQ (by omega) (by omega) (by first | exact kbI_01 _ | exact Or.inl rfl | exact Or.inr rfl) (by refine ⟨?_, rfl⟩; first | exact kbI_tN ⟨Int64.not_lt.mp c_3, Int64.not_lt.mp c_10⟩ | exact kbI_fN (fun h9 => absurd c_3 (Int64.not_lt.mpr h9.1)) | exact kbI_fN (fun h9 => absurd c_10 (Int64.not_lt.mpr h9.2))) dX9_isIn_18
  · skip
    refine lv_lload_n C.x C.b dX9_isIn_6 rfl (lv_at hl 0 rfl) ?_
    refine lv_lload C.x C.b dX9_isIn_7 (lv_at hl 2 rfl) ?_
    refine k_lcmp_gt (tgt := 17) C.x C.b dX9_isIn_9 dX9_isIn_10 (by decide) (fun c_10 => ?_) (fun c_10 => ?_)
    · skip
      refine lv_iconst (v := nI 0) C.x C.b dX9_isIn_17 (by decide) ?_
      exact k_zret C hX hr hlocks hQ (by omega) (by omega) (by first | exact kbI_01 _ | exact Or.inl rfl | exact Or.inr rfl) (by refine ⟨?_, rfl⟩; first | exact kbI_tN ⟨Int64.not_lt.mp c_3, Int64.not_lt.mp c_10⟩ | exact kbI_fN (fun h9 => absurd c_3 (Int64.not_lt.mpr h9.1)) | exact kbI_fN (fun h9 => absurd c_10 (Int64.not_lt.mpr h9.2))) dX9_isIn_18
    · skip
      refine lv_iconst (v := nI 1) C.x C.b dX9_isIn_13 (by decide) ?_
      refine lv_goto (tgt := 18) C.x C.b dX9_isIn_14 (by decide) ?_
      exact k_zret C hX hr hlocks hQ (by omega) (by omega) (by first | exact kbI_01 _ | exact Or.inl rfl | exact Or.inr rfl) (by refine ⟨?_, rfl⟩; first | exact kbI_tN ⟨Int64.not_lt.mp c_3, Int64.not_lt.mp c_10⟩ | exact kbI_fN (fun h9 => absurd c_3 (Int64.not_lt.mpr h9.1)) | exact kbI_fN (fun h9 => absurd c_10 (Int64.not_lt.mpr h9.2))) dX9_isIn_18

theorem lk_X9_faceOf_f13 : Cond.fieldLink RX9 13 "KoebehallModel" "faces" "I" ∈ wsX9_faceOf := by decide +kernel
theorem hin_X9_faceOf_RX9 : ∀ w ∈ u_ws RX9 TX9 28, w ∈ wsX9_faceOf := by decide +kernel
theorem lk_X9_faceOf_f16 : Cond.fieldLink RX9 16 "KoebehallModel" "face" "[I" ∈ wsX9_faceOf := by decide +kernel
abbrev rmX9_faceOf : Room := { frames := 0, cells := 0, slots := 0, locals := 0 }
set_option maxHeartbeats 4000000 in
set_option maxRecDepth 100000 in
/-- X9_faceOf -/
theorem kX9_faceOf (l : Launch) (G : kG) (B0 : Nat) (f : kH) (h : Nat) (q : Nat → Nat) (I : Nat → Int32) (J : Nat → Int64) (AI : Nat → Nat → Int32) (AJ : Nat → Nat → Int64) (a b : Int32) (F : Nat) (hM : kCs f (mC G h q I J AI AJ)) (hF : I 1 = nI F) (hF9 : F ≤ 28) : Met l yX9_faceOf wsX9_faceOf rmX9_faceOf (kP G B0 f [.ref h, .int a, .int b]) (kQi G B0 (fun r f1 => r = mFaceOf (AI 2) a b (3 * F) ∧ f1 = f)) 0 0 (kAb B0) := by
  refine kMet (cc := cX9_faceOf) (maxL := 6) (ret := (some .int)) (by decide) rfl (Nat.le_of_ble_eq_true rfl) ?_
  intro p e s m args below meth c H locs Q ls C hX hl hr hlocks hnm hQ
  have hl : lv_has ls 6 [(0, .ref h), (1, .int a), (2, .int b)] := hl
  refine lv_iconst (v := -1) C.x C.b dX9_faceOf_0 (by decide) ?_
  refine lv_istore_n (lv' := [(3, .int (-1)), (0, .ref h), (1, .int a), (2, .int b)]) C.x C.b dX9_faceOf_1 rfl hl (by decide) rfl (fun ls hl => ?_)
  refine lv_iconst (v := nI 0) C.x C.b dX9_faceOf_2 (by decide) ?_
  refine lv_istore (lv' := [(4, .int (nI 0)), (3, .int (-1)), (0, .ref h), (1, .int a), (2, .int b)]) C.x C.b dX9_faceOf_3 hl (by decide) rfl (fun ls hl => ?_)
  have LOOP5 : ∀ (n : Nat) (k : Nat), (k ≤ 3 * F) → (3 * F - k) < n → ∀ (ls : Array Slot), lv_has ls 6 [(3, .int (mFaceOf (AI 2) a b k)), (4, .int (nI k)), (0, .ref h), (1, .int a), (2, .int b)] → ∀ (H : Heap) (locs : List Loc), kX G B0 s f H locs → W p l e rmX9_faceOf s m args below meth c H locs 0 0 Q (F0 m 5 ls []) := by
    intro n
    induction n with
    | zero => intro k hk hn; exact absurd hn (Nat.not_lt_zero _)
    | succ n ih =>
      intro k hk hn ls hl H locs hX
      refine lv_iload C.x C.b dX9_faceOf_5 (lv_at hl 1 rfl) ?_
      refine lv_iconst (v := nI 3) C.x C.b dX9_faceOf_7 (by decide) ?_
      refine lv_aload_n C.x C.b dX9_faceOf_8 rfl (lv_at hl 2 rfl) ?_
      refine k_get (X := RX9) (T := TX9) (N := 28) (v := .int (I 1)) C hX (hM.at 0 rfl) rfl hin_X9_faceOf_RX9 1 (by decide) lk_X9_faceOf_f13 (fun _ h9 => h9) rfl dX9_faceOf_9 ?_
      refine k_topi (y := (nI F)) (hF) ?_
      refine lv_imul C.x C.b dX9_faceOf_12 ?_
      refine k_topi (y := nI (3 * F)) (pk_mul _ _) ?_
      refine lv_icmp_ge (tgt := 74) C.x C.b dX9_faceOf_13 (by decide) (fun c_13 => ?_) (fun c_13 => ?_)
      · skip
        have c_13 : 3 * F ≤ k := (nI_leI (by omega) (by omega)).mp c_13
        refine lv_iload_n C.x C.b dX9_faceOf_74 rfl (lv_at hl 0 rfl) ?_
        exact k_iret C hX hr hlocks hQ (by omega) (by omega) (⟨congrArg _ (by omega), rfl⟩) dX9_faceOf_75
      · skip
        have c_13 : ¬ (3 * F ≤ k) := fun h9 => c_13 ((nI_leI (by omega) (by omega)).mpr h9)
        refine lv_iload C.x C.b dX9_faceOf_16 (lv_at hl 1 rfl) ?_
        refine lv_iconst (v := nI 3) C.x C.b dX9_faceOf_18 (by decide) ?_
        refine lv_irem C.x C.b dX9_faceOf_19 (by decide) ?_
        refine k_topi (y := nI (k % 3)) (pk_rem (by omega) (by omega) (by omega)) ?_
        refine lv_iconst (v := nI 2) C.x C.b dX9_faceOf_20 (by decide) ?_
        have J35 : W p l e rmX9_faceOf s m args below meth c H locs 0 0 Q (F0 m 35 ls [.int (nI (mNx k))]) := by
          refine lv_istore (lv' := [(5, .int (nI (mNx k))), (3, .int (mFaceOf (AI 2) a b k)), (4, .int (nI k)), (0, .ref h), (1, .int a), (2, .int b)]) C.x C.b dX9_faceOf_35 hl (by decide) rfl (fun ls hl => ?_)
          have hnx : mNx k < 84 := by unfold mNx; split <;> omega
          refine lv_aload_n C.x C.b dX9_faceOf_37 rfl (lv_at hl 3 rfl) ?_
          refine k_get (X := RX9) (T := TX9) (N := 28) (v := .ref (q 2)) C hX (hM.at 0 rfl) rfl hin_X9_faceOf_RX9 2 (by decide) lk_X9_faceOf_f16 (fun _ h9 => h9) rfl dX9_faceOf_38 ?_
          refine lv_iload C.x C.b dX9_faceOf_41 (lv_at hl 2 rfl) ?_
          refine k_iald C hX (hM.at 1 rfl) (vp_in_nI (by omega) (by omega)) dX9_faceOf_43 ?_
          refine k_topi (y := (AI 2) k) (by rw [nI_clamp (by omega)]) ?_
          refine lv_iload_n C.x C.b dX9_faceOf_44 rfl (lv_at hl 4 rfl) ?_
          have J67 : W p l e rmX9_faceOf s m args below meth c H locs 0 0 Q (F0 m 67 ls [.int (mFaceOf (AI 2) a b (k + 1))]) := by
            refine lv_istore_n (lv' := [(3, .int (mFaceOf (AI 2) a b (k + 1))), (5, .int (nI (mNx k))), (4, .int (nI k)), (0, .ref h), (1, .int a), (2, .int b)]) C.x C.b dX9_faceOf_67 rfl hl (by decide) rfl (fun ls hl => ?_)
            refine lv_iinc (v := (nI (k + 1))) (lv' := [(4, .int (nI (k + 1))), (3, .int (mFaceOf (AI 2) a b (k + 1))), (5, .int (nI (mNx k))), (0, .ref h), (1, .int a), (2, .int b)]) C.x C.b dX9_faceOf_68 hl (k := 2) rfl (nI_1 _) (by decide) rfl (fun ls hl => ?_)
            refine lv_goto (tgt := 5) C.x C.b dX9_faceOf_71 (by decide) ?_
            exact ih (k + 1) (by omega) (by omega) ls (lv_sub hl [1, 0, 3, 4, 5] rfl) _ _ _ hX
          refine lv_icmp_ne (tgt := 66) C.x C.b dX9_faceOf_45 (by decide) (fun c_45 => ?_) (fun c_45 => ?_)
          · skip
            refine lv_iload_n C.x C.b dX9_faceOf_66 rfl (lv_at hl 1 rfl) ?_
            refine k_topi (y := (mFaceOf (AI 2) a b (k + 1))) (by first | simp [mFaceOf, c_45, c_56]; done | simp [mFaceOf, c_45]; done | simp [mFaceOf, c_56]; done) ?_
            exact J67
          · skip
            refine lv_aload_n C.x C.b dX9_faceOf_48 rfl (lv_at hl 3 rfl) ?_
            refine k_get (X := RX9) (T := TX9) (N := 28) (v := .ref (q 2)) C hX (hM.at 0 rfl) rfl hin_X9_faceOf_RX9 2 (by decide) lk_X9_faceOf_f16 (fun _ h9 => h9) rfl dX9_faceOf_49 ?_
            refine lv_iload C.x C.b dX9_faceOf_52 (lv_at hl 0 rfl) ?_
            refine k_iald C hX (hM.at 1 rfl) (vp_in_nI (by omega) (by omega)) dX9_faceOf_54 ?_
            refine k_topi (y := (AI 2) (mNx k)) (by rw [nI_clamp (by omega)]) ?_
            refine lv_iload_n C.x C.b dX9_faceOf_55 rfl (lv_at hl 5 rfl) ?_
            refine lv_icmp_ne (tgt := 66) C.x C.b dX9_faceOf_56 (by decide) (fun c_56 => ?_) (fun c_56 => ?_)
            · skip
              refine lv_iload_n C.x C.b dX9_faceOf_66 rfl (lv_at hl 1 rfl) ?_
              refine k_topi (y := (mFaceOf (AI 2) a b (k + 1))) (by first | simp [mFaceOf, c_45, c_56]; done | simp [mFaceOf, c_45]; done | simp [mFaceOf, c_56]; done) ?_
              exact J67
            · skip
              refine lv_iload C.x C.b dX9_faceOf_59 (lv_at hl 2 rfl) ?_
              refine lv_iconst (v := nI 3) C.x C.b dX9_faceOf_61 (by decide) ?_
              refine lv_idiv C.x C.b dX9_faceOf_62 (by decide) ?_
              refine k_topi (y := nI (k / 3)) (pk_div (by omega) (by omega) (by omega)) ?_
              refine lv_goto (tgt := 67) C.x C.b dX9_faceOf_63 (by decide) ?_
              refine k_topi (y := (mFaceOf (AI 2) a b (k + 1))) (by first | simp [mFaceOf, c_45, c_56]; done | simp [mFaceOf, c_45]; done | simp [mFaceOf, c_56]; done) ?_
              exact J67
        refine lv_icmp_ne (tgt := 31) C.x C.b dX9_faceOf_21 (by decide) (fun c_21 => ?_) (fun c_21 => ?_)
        · skip
          have c_21 : ¬ (k % 3 = 2) := fun h9 => c_21 ((nI_eq (by omega) (by omega)).mpr h9)
          refine lv_iload C.x C.b dX9_faceOf_31 (lv_at hl 1 rfl) ?_
          refine lv_iconst (v := nI 1) C.x C.b dX9_faceOf_33 (by decide) ?_
          refine lv_iadd C.x C.b dX9_faceOf_34 ?_
          refine k_topi (y := nI (k + 1)) (nI_add _ _) ?_
          refine k_topi (y := (nI (mNx k))) (congrArg nI (by unfold mNx; split <;> omega)) ?_
          exact J35
        · skip
          have c_21 : k % 3 = 2 := (nI_eq (by omega) (by omega)).mp c_21
          refine lv_iload C.x C.b dX9_faceOf_24 (lv_at hl 1 rfl) ?_
          refine lv_iconst (v := nI 2) C.x C.b dX9_faceOf_26 (by decide) ?_
          refine lv_isub C.x C.b dX9_faceOf_27 ?_
          refine k_topi (y := (nI (k - 2))) (pk_sub (by omega)) ?_
          refine lv_goto (tgt := 35) C.x C.b dX9_faceOf_28 (by decide) ?_
          refine k_topi (y := (nI (mNx k))) (congrArg nI (by unfold mNx; split <;> omega)) ?_
          exact J35
  exact LOOP5 _ 0 (by omega) (Nat.lt_succ_self _) ls (lv_sub hl [1, 0, 2, 3, 4] rfl) _ _ hX
