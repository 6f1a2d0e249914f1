theorem kbI_and {P R : Prop} [Decidable P] [Decidable R] : kbI P &&& kbI R = kbI (P ∧ R) := by
  by_cases h1 : P <;> by_cases h2 : R <;> simp [kbI, h1, h2] <;> decide
theorem kCs.one {f : kH} {a : Nat} {e : va_E} (h : f a = some e) : kCs f [(a, e)] := ⟨fun q hq => by rw [List.mem_singleton.mp hq]; exact h, by simp⟩
abbrev mDisk (x y r : Int32) : Prop := mRg x (-1000000000) 1000000000 ∧ mRg y (-1000000000) 1000000000 ∧ mRg r (1) 1000000000
def kLie (far bb : Int64) : Int32 := if bb < far then nI 0 else if far = bb then nI 1 else nI 2
abbrev kFar (x1 x2 y1 y2 : Int64) : Int64 := (x1 - x2) * (x1 - x2) + (y1 - y2) * (y1 - y2)
abbrev kBB (r1 r2 : Int64) : Int64 := (r1 + r2) * (r1 + r2)
abbrev mLies (a4 a5 a6 : Nat → Int32) (i j : Nat) : Int32 := kLie (kFar (a4 i).toInt64 (a4 j).toInt64 (a5 i).toInt64 (a5 j).toInt64) (kBB (a6 i).toInt64 (a6 j).toInt64)
abbrev mDrawP (a2 a4 a5 a6 : Nat → Int32) (F u v : Nat) : Prop := mLies a4 a5 a6 u v = if mAdj a2 F (nI u) (nI v) then nI 1 else nI 0
abbrev mDr (a2 a4 a5 a6 : Nat → Int32) (F cc d n : Nat) : Prop := d = cc ∧ ∀ u, u < n → ∀ v, v < u → mDrawP a2 a4 a5 a6 F u v
abbrev mCv (a : Int32) : Prop := mRg a (-1000000) 1000000
abbrev mSm (a b c d : Int32) : Int64 := a.toInt64 + b.toInt64 + c.toInt64 + d.toInt64
abbrev mSq (a b c d : Int32) : Int64 := a.toInt64 * a.toInt64 + b.toInt64 * b.toInt64 + c.toInt64 * c.toInt64 + d.toInt64 * d.toInt64
abbrev mGk (a b c d : Int32) : Prop := mCv a ∧ mCv b ∧ mCv c ∧ mCv d ∧ mSm a b c d * mSm a b c d = 2 * mSq a b c d ∧ 0 < mSm a b c d
abbrev mTurned (g : Nat → Int64) (at9 pl : Nat) : Int64 := 2 * (g at9 + g (at9 + 1) + g (at9 + 2) + g (at9 + 3) - g (at9 + pl)) - g (at9 + pl)

theorem lk_X9_net_c115 : Cond.constantLong RX9 115 (4) ∈ wsX9_net := by decide +kernel
theorem hdX9_net_X9_isIn : yX9_isIn.cls ≠ "java/lang/invoke/MethodHandle" ∧ yX9_isIn.cls ≠ "java/lang/invoke/VarHandle" ∧ (parseMethodDescriptor yX9_isIn.desc).map (fun d => d.parameters.length) = some 3 := by decide +kernel
theorem lk_X9_net_f80 : Cond.fieldLink RX9 80 "KoebehallModel" "thrown" "I" ∈ wsX9_net := by decide +kernel
theorem hin_X9_net_RX9 : ∀ w ∈ u_ws RX9 TX9 28, w ∈ wsX9_net := by decide +kernel
abbrev rmX9_net_b1 : Room := { frames := 1, cells := 0, slots := 0, locals := 25 }
set_option maxHeartbeats 4000000 in
set_option maxRecDepth 100000 in
/-- X9_net_b1 -/
theorem kX9_net_b1 (l : Launch) (G : kG) (B0 : Nat) (f : kH) (h : Nat) (q : Nat → Nat) (i0 i1 i3 i7 i18 i22 i23 i27 : Int32) (j16 j17 : Int64) (a2 : Nat → Int32) (a4 : Nat → Int32) (a5 : Nat → Int32) (a6 : Nat → Int32) (b8 : Nat → Int64) (b9 : Nat → Int64) (b10 : Nat → Int64) (a11 : Nat → Int32) (a12 : Nat → Int32) (a13 : Nat → Int32) (a14 : Nat → Int32) (b15 : Nat → Int64) (b19 : Nat → Int64) (b20 : Nat → Int64) (b21 : Nat → Int64) (a24 : Nat → Int32) (a25 : Nat → Int32) (a26 : Nat → Int32) (a : Int32) (F cc : Nat) (hM : kCs f (mC G h q i0 i1 i3 i7 i18 i22 i23 i27 j16 j17 a2 a4 a5 a6 b8 b9 b10 a11 a12 a13 a14 b15 b19 b20 b21 a24 a25 a26)) (hF : i1 = nI F) (hF9 : F ≤ 28) (hc0 : i0 = nI cc) (hc9 : cc ≤ 16) (hv : ¬ mRg a (0) 4) : Met l yX9_net wsX9_net (rmX9_net_b1) (kP G B0 f [.ref h, .int a]) (kQi G B0 (fun r f1 => r = nI 0 ∧ kCs f1 (mC G h q i0 i1 i3 i7 i18 i22 i23 (nI 1) j16 j17 a2 a4 a5 a6 b8 b9 b10 a11 a12 a13 a14 b15 b19 b20 b21 a24 a25 a26) ∧ kOff (mAs h q) f f1)) 0 0 (kAb B0) := by
  refine kMet (cc := cX9_net) (maxL := 6) (ret := (some .int)) (by decide) rfl (Nat.le_of_ble_eq_true rfl) ?_
  intro p e s m args below meth c H locs Q ls C hX hl hr hlocks hnm hQ
  have hO : kOff (mAs h q) f f := kOff.rf
  have hl : lv_has ls 6 [(0, .ref h), (1, .int a)] := hl
  refine lv_aload_n C.x C.b dX9_net_0 rfl (lv_at hl 0 rfl) ?_
  refine lv_iload_n C.x C.b dX9_net_1 rfl (lv_at hl 1 rfl) ?_
  refine lv_i2l (v := a.toInt64) C.x C.b dX9_net_2 rfl ?_
  refine lv_lconst (v := 0) C.x C.b dX9_net_3 (by decide) ?_
  refine lv_ldc2 (v := 4) C.x C.b C.ow (C.ts _ lk_X9_net_c115) dX9_net_4 ?_
  refine k_calli (va_runS (As := [.long a.toInt64, .long 0, .long 4]) (rest := [.ref h]) C.1 (kX9_isIn l G B0 f a.toInt64 0 4) (va_cwS 3 C.ts gX9_net_X9_isIn rfl rfl rfl (hdX9_net_X9_isIn) ⟨Nat.le_of_ble_eq_true rfl, Nat.le_of_ble_eq_true rfl⟩) (k_preS C hX) rfl rfl hl.1 rfl (lv_room (Nat.le_of_ble_eq_true rfl)) dX9_net_7 ⟨Nat.le_of_ble_eq_true rfl, Nat.le_of_ble_eq_true rfl⟩) hX (fun r7 f7 H locs hp7 hX => ?_)
  obtain ⟨hr7, hf7⟩ := hp7
  rw [hf7] at hX
  refine k_topi (y := (kbI ((0 : Int64) ≤ a.toInt64 ∧ a.toInt64 ≤ 4))) hr7 ?_
  refine k_topi (y := (kbI (mRg a (0) 4))) (kbI_c (m_rg (by decide) (by decide))) ?_
  refine lv_if_eq (tgt := 17) C.x C.b dX9_net_10 (by decide) (fun c_10 => ?_) (fun c_10 => ?_)
  rotate_left
  · exact absurd (kbI_1 c_10) (hv)
  refine lv_iconst (v := nI 1) C.x C.b dX9_net_17 (by decide) ?_
  refine k_put (X := RX9) (T := TX9) (N := 28) (ty := .int) (v := .int (nI 1)) C hX (hM.at 0 rfl) rfl hin_X9_net_RX9 tyX9_ok nmX9 27 (by decide) lk_X9_net_f80 (fun _ h9 => h9) rfl (by decide +kernel) rfl rfl (Nat.le_of_ble_eq_true rfl) dX9_net_18 (fun H locs hX => ?_)
  obtain ⟨g1, hX, hM, hO⟩ := kX.wr hX hM hO 0 rfl (List.mem_of_getElem? (i := 0) rfl)
  have hM : kCs g1 (mC G h q i0 i1 i3 i7 i18 i22 i23 (nI 1) j16 j17 a2 a4 a5 a6 b8 b9 b10 a11 a12 a13 a14 b15 b19 b20 b21 a24 a25 a26) := hM
  refine lv_aload_n C.x C.b dX9_net_21 rfl (lv_at hl 0 rfl) ?_
  refine k_get (X := RX9) (T := TX9) (N := 28) (v := .int (nI 1)) C hX (hM.at 0 rfl) rfl hin_X9_net_RX9 27 (by decide) lk_X9_net_f80 (fun _ h9 => h9) rfl dX9_net_22 ?_
  refine lv_if_le (tgt := 30) C.x C.b dX9_net_25 (by decide) (fun c_25 => ?_) (fun c_25 => ?_)
  · exact absurd c_25 (by decide)
  refine lv_iconst (v := nI 0) C.x C.b dX9_net_28 (by decide) ?_
  exact k_iret C hX hr hlocks hQ (by omega) (by omega) (⟨rfl, hM, hO⟩) dX9_net_29

theorem lk_X9_net_f7 : Cond.fieldLink RX9 7 "KoebehallModel" "corners" "I" ∈ wsX9_net := by decide +kernel
theorem lk_X9_net_f13 : Cond.fieldLink RX9 13 "KoebehallModel" "faces" "I" ∈ wsX9_net := by decide +kernel
theorem hdX9_net_X9_degree : yX9_degree.cls ≠ "java/lang/invoke/MethodHandle" ∧ yX9_degree.cls ≠ "java/lang/invoke/VarHandle" ∧ (parseMethodDescriptor yX9_degree.desc).map (fun d => d.parameters.length) = some 1 := by decide +kernel
theorem hdX9_net_X9_canFlip : yX9_canFlip.cls ≠ "java/lang/invoke/MethodHandle" ∧ yX9_canFlip.cls ≠ "java/lang/invoke/VarHandle" ∧ (parseMethodDescriptor yX9_canFlip.desc).map (fun d => d.parameters.length) = some 2 := by decide +kernel
abbrev rmX9_net : Room := { frames := 3, cells := 0, slots := 0, locals := 70 }
set_option maxHeartbeats 4000000 in
set_option maxRecDepth 100000 in
/-- X9_net -/
theorem kX9_net (l : Launch) (G : kG) (B0 : Nat) (f : kH) (h : Nat) (q : Nat → Nat) (i0 i1 i3 i7 i18 i22 i23 i27 : Int32) (j16 j17 : Int64) (a2 : Nat → Int32) (a4 : Nat → Int32) (a5 : Nat → Int32) (a6 : Nat → Int32) (b8 : Nat → Int64) (b9 : Nat → Int64) (b10 : Nat → Int64) (a11 : Nat → Int32) (a12 : Nat → Int32) (a13 : Nat → Int32) (a14 : Nat → Int32) (b15 : Nat → Int64) (b19 : Nat → Int64) (b20 : Nat → Int64) (b21 : Nat → Int64) (a24 : Nat → Int32) (a25 : Nat → Int32) (a26 : Nat → Int32) (w F cc : Nat) (hM : kCs f (mC G h q i0 i1 i3 i7 i18 i22 i23 i27 j16 j17 a2 a4 a5 a6 b8 b9 b10 a11 a12 a13 a14 b15 b19 b20 b21 a24 a25 a26)) (hF : i1 = nI F) (hF9 : F ≤ 28) (hc0 : i0 = nI cc) (hc9 : cc ≤ 16) (hc4 : 4 ≤ cc) (hw : w ≤ 4) (hsy : ∀ x y, mAdj a2 F x y → mAdj a2 F y x) : Met l yX9_net wsX9_net (rmX9_net) (kP G B0 f [.ref h, .int (nI w)]) (kQi G B0 (fun r f1 => r = nI (mNet a2 F cc w) ∧ kCs f1 (mC G h q i0 i1 i3 i7 i18 i22 i23 (nI 0) j16 j17 a2 a4 a5 a6 b8 b9 b10 a11 a12 a13 a14 b15 b19 b20 b21 a24 a25 a26) ∧ kOff (mAs h q) f f1)) 0 0 (kAb B0) := by
  refine kMet (cc := cX9_net) (maxL := 6) (ret := (some .int)) (by decide) rfl (Nat.le_of_ble_eq_true rfl) ?_
  intro p e s m args below meth c H locs Q ls C hX hl hr hlocks hnm hQ
  have hO : kOff (mAs h q) f f := kOff.rf
  have hl : lv_has ls 6 [(0, .ref h), (1, .int (nI w))] := hl
  refine lv_aload_n C.x C.b dX9_net_0 rfl (lv_at hl 0 rfl) ?_
  refine lv_iload_n C.x C.b dX9_net_1 rfl (lv_at hl 1 rfl) ?_
  refine lv_i2l (v := (nI w).toInt64) C.x C.b dX9_net_2 rfl ?_
  refine lv_lconst (v := 0) C.x C.b dX9_net_3 (by decide) ?_
  refine lv_ldc2 (v := 4) C.x C.b C.ow (C.ts _ lk_X9_net_c115) dX9_net_4 ?_
  refine k_calli (va_runS (As := [.long ((nI w).toInt64), .long 0, .long 4]) (rest := [.ref h]) C.1 (kX9_isIn l G B0 f ((nI w).toInt64) 0 4) (va_cwS 3 C.ts gX9_net_X9_isIn rfl rfl rfl (hdX9_net_X9_isIn) ⟨Nat.le_of_ble_eq_true rfl, Nat.le_of_ble_eq_true rfl⟩) (k_preS C hX) rfl rfl hl.1 rfl (lv_room (Nat.le_of_ble_eq_true rfl)) dX9_net_7 ⟨Nat.le_of_ble_eq_true rfl, Nat.le_of_ble_eq_true rfl⟩) hX (fun r7 f7 H locs hp7 hX => ?_)
  obtain ⟨hr7, hf7⟩ := hp7
  rw [hf7] at hX
  refine k_topi (y := (kbI ((0 : Int64) ≤ (nI w).toInt64 ∧ (nI w).toInt64 ≤ 4))) hr7 ?_
  refine k_topi (y := (kbI (mRg (nI w) (0) 4))) (kbI_c (m_rg (by decide) (by decide))) ?_
  refine lv_if_eq (tgt := 17) C.x C.b dX9_net_10 (by decide) (fun c_10 => ?_) (fun c_10 => ?_)
  · exact absurd ((by rw [mRg, nI_toInt (by omega)]; omega)) (kbI_0 c_10)
  refine lv_iconst (v := nI 0) C.x C.b dX9_net_13 (by decide) ?_
  refine lv_goto (tgt := 18) C.x C.b dX9_net_14 (by decide) ?_
  refine k_put (X := RX9) (T := TX9) (N := 28) (ty := .int) (v := .int (nI 0)) C hX (hM.at 0 rfl) rfl hin_X9_net_RX9 tyX9_ok nmX9 27 (by decide) lk_X9_net_f80 (fun _ h9 => h9) rfl (by decide +kernel) rfl rfl (Nat.le_of_ble_eq_true rfl) dX9_net_18 (fun H locs hX => ?_)
  obtain ⟨g1, hX, hM, hO⟩ := kX.wr hX hM hO 0 rfl (List.mem_of_getElem? (i := 0) rfl)
  have hM : kCs g1 (mC G h q i0 i1 i3 i7 i18 i22 i23 (nI 0) j16 j17 a2 a4 a5 a6 b8 b9 b10 a11 a12 a13 a14 b15 b19 b20 b21 a24 a25 a26) := hM
  refine lv_aload_n C.x C.b dX9_net_21 rfl (lv_at hl 0 rfl) ?_
  refine k_get (X := RX9) (T := TX9) (N := 28) (v := .int (nI 0)) C hX (hM.at 0 rfl) rfl hin_X9_net_RX9 27 (by decide) lk_X9_net_f80 (fun _ h9 => h9) rfl dX9_net_22 ?_
  refine lv_if_le (tgt := 30) C.x C.b dX9_net_25 (by decide) (fun c_25 => ?_) (fun c_25 => ?_)
  rotate_left
  · exact absurd c_25 (by decide)
  refine lv_iconst (v := nI 0) C.x C.b dX9_net_30 (by decide) ?_
  refine lv_istore_n (lv' := [(2, .int (nI 0)), (0, .ref h), (1, .int (nI w))]) C.x C.b dX9_net_31 rfl hl (by decide) rfl (fun ls hl => ?_)
  refine lv_iconst (v := nI 0) C.x C.b dX9_net_32 (by decide) ?_
  refine lv_istore_n (lv' := [(3, .int (nI 0)), (2, .int (nI 0)), (0, .ref h), (1, .int (nI w))]) C.x C.b dX9_net_33 rfl hl (by decide) rfl (fun ls hl => ?_)
  refine lv_iconst (v := nI 0) C.x C.b dX9_net_34 (by decide) ?_
  refine lv_istore (lv' := [(4, .int (nI 0)), (3, .int (nI 0)), (2, .int (nI 0)), (0, .ref h), (1, .int (nI w))]) C.x C.b dX9_net_35 hl (by decide) rfl (fun ls hl => ?_)
  have LOOP37 : ∀ (n : Nat) (u : Nat), (u ≤ cc) → (cc - u) < n → ∀ (ls : Array Slot), lv_has ls 6 [(2, .int (nI (kCnt2 (fun x9 y9 => mCanFlip a2 F (nI x9) (nI y9)) u))), (3, .int (nI (mMost a2 F cc u))), (4, .int (nI u)), (0, .ref h), (1, .int (nI w))] → ∀ (H : Heap) (locs : List Loc), kX G B0 s g1 H locs → W p l e (rmX9_net) s m args below meth c H locs 0 0 Q (F0 m 37 ls []) := by
    intro n37
    induction n37 with
    | zero => intro u hu hn; exact absurd hn (Nat.not_lt_zero _)
    | succ n37 ih37 =>
      intro u hu hn ls hl H locs hX
      refine lv_iload C.x C.b dX9_net_37 (lv_at hl 2 rfl) ?_
      refine lv_aload_n C.x C.b dX9_net_39 rfl (lv_at hl 3 rfl) ?_
      refine k_get (X := RX9) (T := TX9) (N := 28) (v := .int i0) C hX (hM.at 0 rfl) rfl hin_X9_net_RX9 0 (by decide) lk_X9_net_f7 (fun _ h9 => h9) rfl dX9_net_40 ?_
      refine k_topi (y := (nI cc)) (hc0) ?_
      refine lv_icmp_ge (tgt := 108) C.x C.b dX9_net_43 (by decide) (fun c_43 => ?_) (fun c_43 => ?_)
      · skip
        have c_43 : cc ≤ u := (nI_leI (by omega) (by omega)).mp c_43
        have hu9 : cc = u := by omega
        subst hu9
        refine lv_iload_n C.x C.b dX9_net_108 rfl (lv_at hl 4 rfl) ?_
        refine lv_if_ne (tgt := 119) C.x C.b dX9_net_109 (by decide) (fun c_109 => ?_) (fun c_109 => ?_)
        · skip
          have c_109 : ¬ w = 0 := fun h9 => c_109 ((nI_eq (b := 0) (by omega) (by omega)).mpr h9)
          refine lv_iload_n C.x C.b dX9_net_119 rfl (lv_at hl 4 rfl) ?_
          refine lv_iconst (v := nI 1) C.x C.b dX9_net_120 (by decide) ?_
          refine lv_icmp_ne (tgt := 136) C.x C.b dX9_net_121 (by decide) (fun c_121 => ?_) (fun c_121 => ?_)
          · skip
            have c_121 : ¬ (w = 1) := fun h9 => c_121 ((nI_eq (by omega) (by omega)).mpr h9)
            refine lv_iload_n C.x C.b dX9_net_136 rfl (lv_at hl 4 rfl) ?_
            refine lv_iconst (v := nI 2) C.x C.b dX9_net_137 (by decide) ?_
            refine lv_icmp_ne (tgt := 148) C.x C.b dX9_net_138 (by decide) (fun c_138 => ?_) (fun c_138 => ?_)
            · skip
              have c_138 : ¬ (w = 2) := fun h9 => c_138 ((nI_eq (by omega) (by omega)).mpr h9)
              refine lv_iload_n C.x C.b dX9_net_148 rfl (lv_at hl 4 rfl) ?_
              refine lv_iconst (v := nI 3) C.x C.b dX9_net_149 (by decide) ?_
              refine lv_icmp_ne (tgt := 157) C.x C.b dX9_net_150 (by decide) (fun c_150 => ?_) (fun c_150 => ?_)
              · skip
                have c_150 : ¬ (w = 3) := fun h9 => c_150 ((nI_eq (by omega) (by omega)).mpr h9)
                refine lv_iload_n C.x C.b dX9_net_157 rfl (lv_at hl 1 rfl) ?_
                exact k_iret C hX hr hlocks hQ (by omega) (by omega) (⟨congrArg nI (by unfold mNet; repeat' split; all_goals first | rfl | omega), hM, hO⟩) dX9_net_158
              · skip
                have c_150 : w = 3 := (nI_eq (by omega) (by omega)).mp c_150
                refine lv_iload_n C.x C.b dX9_net_153 rfl (lv_at hl 0 rfl) ?_
                refine lv_goto (tgt := 158) C.x C.b dX9_net_154 (by decide) ?_
                exact k_iret C hX hr hlocks hQ (by omega) (by omega) (⟨congrArg nI (by unfold mNet; repeat' split; all_goals first | rfl | omega), hM, hO⟩) dX9_net_158
            · skip
              have c_138 : w = 2 := (nI_eq (by omega) (by omega)).mp c_138
              refine lv_aload_n C.x C.b dX9_net_141 rfl (lv_at hl 3 rfl) ?_
              refine k_get (X := RX9) (T := TX9) (N := 28) (v := .int i1) C hX (hM.at 0 rfl) rfl hin_X9_net_RX9 1 (by decide) lk_X9_net_f13 (fun _ h9 => h9) rfl dX9_net_142 ?_
              refine k_topi (y := (nI F)) (hF) ?_
              refine lv_goto (tgt := 158) C.x C.b dX9_net_145 (by decide) ?_
              exact k_iret C hX hr hlocks hQ (by omega) (by omega) (⟨congrArg nI (by unfold mNet; repeat' split; all_goals first | rfl | omega), hM, hO⟩) dX9_net_158
          · skip
            have c_121 : w = 1 := (nI_eq (by omega) (by omega)).mp c_121
            refine lv_iconst (v := nI 3) C.x C.b dX9_net_124 (by decide) ?_
            refine lv_aload_n C.x C.b dX9_net_125 rfl (lv_at hl 3 rfl) ?_
            refine k_get (X := RX9) (T := TX9) (N := 28) (v := .int i0) C hX (hM.at 0 rfl) rfl hin_X9_net_RX9 0 (by decide) lk_X9_net_f7 (fun _ h9 => h9) rfl dX9_net_126 ?_
            refine k_topi (y := (nI cc)) (hc0) ?_
            refine lv_imul C.x C.b dX9_net_129 ?_
            refine k_topi (y := nI (3 * cc)) (pk_mul _ _) ?_
            refine lv_bipush (v := nI 6) C.x C.b dX9_net_130 (by decide) ?_
            refine lv_isub C.x C.b dX9_net_132 ?_
            refine k_topi (y := (nI (3 * cc - 6))) (pk_sub (by omega)) ?_
            refine lv_goto (tgt := 158) C.x C.b dX9_net_133 (by decide) ?_
            exact k_iret C hX hr hlocks hQ (by omega) (by omega) (⟨congrArg nI (by unfold mNet; repeat' split; all_goals first | rfl | omega), hM, hO⟩) dX9_net_158
        · skip
          have c_109 : w = 0 := (nI_eq (b := 0) (by omega) (by omega)).mp c_109
          refine lv_aload_n C.x C.b dX9_net_112 rfl (lv_at hl 3 rfl) ?_
          refine k_get (X := RX9) (T := TX9) (N := 28) (v := .int i0) C hX (hM.at 0 rfl) rfl hin_X9_net_RX9 0 (by decide) lk_X9_net_f7 (fun _ h9 => h9) rfl dX9_net_113 ?_
          refine k_topi (y := (nI cc)) (hc0) ?_
          refine lv_goto (tgt := 158) C.x C.b dX9_net_116 (by decide) ?_
          exact k_iret C hX hr hlocks hQ (by omega) (by omega) (⟨congrArg nI (by unfold mNet; repeat' split; all_goals first | rfl | omega), hM, hO⟩) dX9_net_158
      · skip
        have c_43 : ¬ (cc ≤ u) := fun h9 => c_43 ((nI_leI (by omega) (by omega)).mpr h9)
        refine lv_aload_n C.x C.b dX9_net_46 rfl (lv_at hl 3 rfl) ?_
        have hdu : mDeg a2 F (nI u) cc ≤ cc := kCnt_le _ _
        have hmo := mMost_le a2 F cc u
        refine lv_iload C.x C.b dX9_net_47 (lv_at hl 2 rfl) ?_
        refine k_calli (va_runV (As := [.int (nI u)]) (rest := []) C.1 (kX9_degree l G B0 g1 h q i0 i1 i3 i7 i18 i22 i23 (nI 0) j16 j17 a2 a4 a5 a6 b8 b9 b10 a11 a12 a13 a14 b15 b19 b20 b21 a24 a25 a26 (nI u) F cc hM hF hF9 hc0 hc9) (cwV 1 C.ts gX9_net_X9_degree rfl rfl rfl ⟨rfl, hdX9_net_X9_degree⟩ ⟨Nat.le_of_ble_eq_true rfl, Nat.le_of_ble_eq_true rfl⟩) (k_preV C hX (hM.at 0 rfl) rfl) rfl rfl hl.1 rfl (lv_room (Nat.le_of_ble_eq_true rfl)) dX9_net_49 ⟨Nat.le_of_ble_eq_true rfl, Nat.le_of_ble_eq_true rfl⟩) hX (fun r49 f49 H locs hp49 hX => ?_)
        obtain ⟨hr49, hf49⟩ := hp49
        rw [hf49] at hX
        refine k_topi (y := (nI (mDeg a2 F (nI u) cc))) hr49 ?_
        refine lv_iload_n C.x C.b dX9_net_52 rfl (lv_at hl 1 rfl) ?_
        have J66 : ∀ (ls : Array Slot), lv_has ls 6 [(2, .int (nI (kCnt2 (fun x9 y9 => mCanFlip a2 F (nI x9) (nI y9)) u))), (3, .int (nI (mMost a2 F cc u))), (4, .int (nI u)), (0, .ref h), (1, .int (nI w))] → ∀ (H : Heap) (locs : List Loc), kX G B0 s g1 H locs → W p l e (rmX9_net) s m args below meth c H locs 0 0 Q (F0 m 66 ls [.int (nI (mMost a2 F cc (u + 1)))]) := by
          intro ls hl H locs hX
          refine lv_istore_n (lv' := [(3, .int (nI (mMost a2 F cc (u + 1)))), (2, .int (nI (kCnt2 (fun x9 y9 => mCanFlip a2 F (nI x9) (nI y9)) u))), (4, .int (nI u)), (0, .ref h), (1, .int (nI w))]) C.x C.b dX9_net_66 rfl hl (by decide) rfl (fun ls hl => ?_)
          refine lv_iconst (v := nI 0) C.x C.b dX9_net_67 (by decide) ?_
          refine lv_istore (lv' := [(5, .int (nI 0)), (3, .int (nI (mMost a2 F cc (u + 1)))), (2, .int (nI (kCnt2 (fun x9 y9 => mCanFlip a2 F (nI x9) (nI y9)) u))), (4, .int (nI u)), (0, .ref h), (1, .int (nI w))]) C.x C.b dX9_net_68 hl (by decide) rfl (fun ls hl => ?_)
          have LOOP70 : ∀ (n : Nat) (v : Nat), (v ≤ u) → (u - v) < n → ∀ (ls : Array Slot), lv_has ls 6 [(2, .int (nI (kCnt2 (fun x9 y9 => mCanFlip a2 F (nI x9) (nI y9)) u + kCnt ((fun x9 y9 => mCanFlip a2 F (nI x9) (nI y9)) u) v))), (5, .int (nI v)), (3, .int (nI (mMost a2 F cc (u + 1)))), (4, .int (nI u)), (0, .ref h), (1, .int (nI w))] → ∀ (H : Heap) (locs : List Loc), kX G B0 s g1 H locs → W p l e (rmX9_net) s m args below meth c H locs 0 0 Q (F0 m 70 ls []) := by
            intro n70
            induction n70 with
            | zero => intro v hv hn; exact absurd hn (Nat.not_lt_zero _)
            | succ n70 ih70 =>
              intro v hv hn ls hl H locs hX
              refine lv_iload C.x C.b dX9_net_70 (lv_at hl 1 rfl) ?_
              refine lv_iload C.x C.b dX9_net_72 (lv_at hl 3 rfl) ?_
              refine lv_icmp_ge (tgt := 102) C.x C.b dX9_net_74 (by decide) (fun c_74 => ?_) (fun c_74 => ?_)
              · skip
                have c_74 : u ≤ v := (nI_leI (by omega) (by omega)).mp c_74
                have hv9 : u = v := by omega
                subst hv9
                refine lv_iinc (v := (nI (u + 1))) (lv' := [(4, .int (nI (u + 1))), (2, .int (nI (kCnt2 (fun x9 y9 => mCanFlip a2 F (nI x9) (nI y9)) u + kCnt ((fun x9 y9 => mCanFlip a2 F (nI x9) (nI y9)) u) u))), (5, .int (nI u)), (3, .int (nI (mMost a2 F cc (u + 1)))), (0, .ref h), (1, .int (nI w))]) C.x C.b dX9_net_102 hl (k := 3) rfl (nI_1 _) (by decide) rfl (fun ls hl => ?_)
                refine lv_goto (tgt := 37) C.x C.b dX9_net_105 (by decide) ?_
                exact ih37 (u + 1) (by omega) (by omega) ls (lv_sub hl [1, 3, 0, 4, 5] rfl) _ _ hX
              · skip
                have c_74 : ¬ (u ≤ v) := fun h9 => c_74 ((nI_leI (by omega) (by omega)).mpr h9)
                refine lv_iload_n C.x C.b dX9_net_77 rfl (lv_at hl 0 rfl) ?_
                refine lv_aload_n C.x C.b dX9_net_78 rfl (lv_at hl 4 rfl) ?_
                refine lv_iload C.x C.b dX9_net_79 (lv_at hl 3 rfl) ?_
                refine lv_iload C.x C.b dX9_net_81 (lv_at hl 1 rfl) ?_
                refine k_calli (va_runV (As := [.int (nI u), .int (nI v)]) (rest := [.int (nI (kCnt2 (fun x9 y9 => mCanFlip a2 F (nI x9) (nI y9)) u + kCnt ((fun x9 y9 => mCanFlip a2 F (nI x9) (nI y9)) u) v))]) C.1 (kX9_canFlip l G B0 g1 h q i0 i1 i3 i7 i18 i22 i23 (nI 0) j16 j17 a2 a4 a5 a6 b8 b9 b10 a11 a12 a13 a14 b15 b19 b20 b21 a24 a25 a26 (nI u) (nI v) F hM hF hF9 (hsy _ _)) (cwV 2 C.ts gX9_net_X9_canFlip rfl rfl rfl ⟨rfl, hdX9_net_X9_canFlip⟩ ⟨Nat.le_of_ble_eq_true rfl, Nat.le_of_ble_eq_true rfl⟩) (k_preV C hX (hM.at 0 rfl) rfl) rfl rfl hl.1 rfl (lv_room (Nat.le_of_ble_eq_true rfl)) dX9_net_83 ⟨Nat.le_of_ble_eq_true rfl, Nat.le_of_ble_eq_true rfl⟩) hX (fun r83 f83 H locs hp83 hX => ?_)
                obtain ⟨hr83, hf83⟩ := hp83
                rw [hf83] at hX
                refine k_topi (y := (kbI (mCanFlip a2 F (nI u) (nI v)))) hr83 ?_
                have J94 : ∀ (ls : Array Slot), lv_has ls 6 [(2, .int (nI (kCnt2 (fun x9 y9 => mCanFlip a2 F (nI x9) (nI y9)) u + kCnt ((fun x9 y9 => mCanFlip a2 F (nI x9) (nI y9)) u) v))), (5, .int (nI v)), (3, .int (nI (mMost a2 F cc (u + 1)))), (4, .int (nI u)), (0, .ref h), (1, .int (nI w))] → ∀ (H : Heap) (locs : List Loc), kX G B0 s g1 H locs → W p l e (rmX9_net) s m args below meth c H locs 0 0 Q (F0 m 94 ls [.int (nI (if mCanFlip a2 F (nI u) (nI v) then 1 else 0)), .int (nI (kCnt2 (fun x9 y9 => mCanFlip a2 F (nI x9) (nI y9)) u + kCnt ((fun x9 y9 => mCanFlip a2 F (nI x9) (nI y9)) u) v))]) := by
                  intro ls hl H locs hX
                  refine lv_iadd C.x C.b dX9_net_94 ?_
                  refine k_topi (y := nI ((kCnt2 (fun x9 y9 => mCanFlip a2 F (nI x9) (nI y9)) u + kCnt ((fun x9 y9 => mCanFlip a2 F (nI x9) (nI y9)) u) v) + (if mCanFlip a2 F (nI u) (nI v) then 1 else 0))) (nI_add _ _) ?_
                  refine k_topi (y := (nI (kCnt2 (fun x9 y9 => mCanFlip a2 F (nI x9) (nI y9)) u + kCnt ((fun x9 y9 => mCanFlip a2 F (nI x9) (nI y9)) u) (v + 1)))) (congrArg nI (Nat.add_assoc _ _ _)) ?_
                  refine lv_istore_n (lv' := [(2, .int (nI (kCnt2 (fun x9 y9 => mCanFlip a2 F (nI x9) (nI y9)) u + kCnt ((fun x9 y9 => mCanFlip a2 F (nI x9) (nI y9)) u) (v + 1)))), (5, .int (nI v)), (3, .int (nI (mMost a2 F cc (u + 1)))), (4, .int (nI u)), (0, .ref h), (1, .int (nI w))]) C.x C.b dX9_net_95 rfl hl (by decide) rfl (fun ls hl => ?_)
                  refine lv_iinc (v := (nI (v + 1))) (lv' := [(5, .int (nI (v + 1))), (2, .int (nI (kCnt2 (fun x9 y9 => mCanFlip a2 F (nI x9) (nI y9)) u + kCnt ((fun x9 y9 => mCanFlip a2 F (nI x9) (nI y9)) u) (v + 1)))), (3, .int (nI (mMost a2 F cc (u + 1)))), (4, .int (nI u)), (0, .ref h), (1, .int (nI w))]) C.x C.b dX9_net_96 hl (k := 1) rfl (nI_1 _) (by decide) rfl (fun ls hl => ?_)
                  refine lv_goto (tgt := 70) C.x C.b dX9_net_99 (by decide) ?_
                  exact ih70 (v + 1) (by omega) (by omega) ls (lv_sub hl [1, 0, 2, 3, 4, 5] rfl) _ _ hX
                refine lv_if_eq (tgt := 93) C.x C.b dX9_net_86 (by decide) (fun c_86 => ?_) (fun c_86 => ?_)
                · skip
                  have c_86 := kbI_0 c_86
                  refine lv_iconst (v := nI 0) C.x C.b dX9_net_93 (by decide) ?_
                  refine k_topi (y := (nI (if mCanFlip a2 F (nI u) (nI v) then 1 else 0))) (by first | rw [if_pos c_86] | rw [if_neg c_86]) ?_
                  exact J94 ls (lv_sub hl [0, 1, 2, 3, 4, 5] rfl) _ _ hX
                · skip
                  have c_86 := kbI_1 c_86
                  refine lv_iconst (v := nI 1) C.x C.b dX9_net_89 (by decide) ?_
                  refine lv_goto (tgt := 94) C.x C.b dX9_net_90 (by decide) ?_
                  refine k_topi (y := (nI (if mCanFlip a2 F (nI u) (nI v) then 1 else 0))) (by first | rw [if_pos c_86] | rw [if_neg c_86]) ?_
                  exact J94 ls (lv_sub hl [0, 1, 2, 3, 4, 5] rfl) _ _ hX
          exact LOOP70 _ 0 (by omega) (Nat.lt_succ_self _) ls (lv_sub hl [2, 0, 1, 3, 4, 5] rfl) _ _ hX
        refine lv_icmp_le (tgt := 65) C.x C.b dX9_net_53 (by decide) (fun c_53 => ?_) (fun c_53 => ?_)
        · skip
          have c_53 : mDeg a2 F (nI u) cc ≤ mMost a2 F cc u := (nI_leI (by omega) (by omega)).mp c_53
          refine lv_iload_n C.x C.b dX9_net_65 rfl (lv_at hl 1 rfl) ?_
          refine k_topi (y := (nI (mMost a2 F cc (u + 1)))) (congrArg nI (by simp only [mMost]; split <;> omega)) ?_
          exact J66 ls (lv_sub hl [0, 1, 2, 3, 4] rfl) _ _ hX
        · skip
          have c_53 : ¬ (mDeg a2 F (nI u) cc ≤ mMost a2 F cc u) := fun h9 => c_53 ((nI_leI (by omega) (by omega)).mpr h9)
          refine lv_aload_n C.x C.b dX9_net_56 rfl (lv_at hl 3 rfl) ?_
          refine lv_iload C.x C.b dX9_net_57 (lv_at hl 2 rfl) ?_
          refine k_calli (va_runV (As := [.int (nI u)]) (rest := []) C.1 (kX9_degree l G B0 g1 h q i0 i1 i3 i7 i18 i22 i23 (nI 0) j16 j17 a2 a4 a5 a6 b8 b9 b10 a11 a12 a13 a14 b15 b19 b20 b21 a24 a25 a26 (nI u) F cc hM hF hF9 hc0 hc9) (cwV 1 C.ts gX9_net_X9_degree rfl rfl rfl ⟨rfl, hdX9_net_X9_degree⟩ ⟨Nat.le_of_ble_eq_true rfl, Nat.le_of_ble_eq_true rfl⟩) (k_preV C hX (hM.at 0 rfl) rfl) rfl rfl hl.1 rfl (lv_room (Nat.le_of_ble_eq_true rfl)) dX9_net_59 ⟨Nat.le_of_ble_eq_true rfl, Nat.le_of_ble_eq_true rfl⟩) hX (fun r59 f59 H locs hp59 hX => ?_)
          obtain ⟨hr59, hf59⟩ := hp59
          rw [hf59] at hX
          refine k_topi (y := (nI (mDeg a2 F (nI u) cc))) hr59 ?_
          refine lv_goto (tgt := 66) C.x C.b dX9_net_62 (by decide) ?_
          refine k_topi (y := (nI (mMost a2 F cc (u + 1)))) (congrArg nI (by simp only [mMost]; split <;> omega)) ?_
          exact J66 ls (lv_sub hl [0, 1, 2, 3, 4] rfl) _ _ hX
  exact LOOP37 _ 0 (by omega) (Nat.lt_succ_self _) ls (lv_sub hl [2, 1, 0, 3, 4] rfl) _ _ hX

theorem lk_X9_isDisk_c117 : Cond.constantLong RX9 117 (-1000000000) ∈ wsX9_isDisk := by decide +kernel
theorem lk_X9_isDisk_c119 : Cond.constantLong RX9 119 (1000000000) ∈ wsX9_isDisk := by decide +kernel
theorem hdX9_isDisk_X9_isIn : yX9_isIn.cls ≠ "java/lang/invoke/MethodHandle" ∧ yX9_isIn.cls ≠ "java/lang/invoke/VarHandle" ∧ (parseMethodDescriptor yX9_isIn.desc).map (fun d => d.parameters.length) = some 3 := by decide +kernel
abbrev rmX9_isDisk : Room := { frames := 1, cells := 0, slots := 0, locals := 25 }
set_option maxHeartbeats 4000000 in
set_option maxRecDepth 100000 in
/-- X9_isDisk -/
theorem kX9_isDisk (l : Launch) (G : kG) (B0 : Nat) (f : kH) (a b c9 : Int32) : Met l yX9_isDisk wsX9_isDisk (rmX9_isDisk) (kP G B0 f [.int a, .int b, .int c9]) (kQi G B0 (fun r f1 => r = kbI (mDisk a b c9) ∧ f1 = f)) 0 0 (kAb B0) := by
  refine kMet (cc := cX9_isDisk) (maxL := 3) (ret := (some .boolean)) (by decide) rfl (Nat.le_of_ble_eq_true rfl) ?_
  intro p e s m args below meth c H locs Q ls C hX hl hr hlocks hnm hQ
  have hl : lv_has ls 3 [(0, .int a), (1, .int b), (2, .int c9)] := hl
  refine lv_iload_n C.x C.b dX9_isDisk_0 rfl (lv_at hl 0 rfl) ?_
  refine lv_i2l (v := a.toInt64) C.x C.b dX9_isDisk_1 rfl ?_
  refine lv_ldc2 (v := -1000000000) C.x C.b C.ow (C.ts _ lk_X9_isDisk_c117) dX9_isDisk_2 ?_
  refine lv_ldc2 (v := 1000000000) C.x C.b C.ow (C.ts _ lk_X9_isDisk_c119) dX9_isDisk_5 ?_
  refine k_calli (va_runS (As := [.long a.toInt64, .long (-1000000000), .long 1000000000]) (rest := []) C.1 (kX9_isIn l G B0 f a.toInt64 (-1000000000) 1000000000) (va_cwS 3 C.ts gX9_isDisk_X9_isIn rfl rfl rfl (hdX9_isDisk_X9_isIn) ⟨Nat.le_of_ble_eq_true rfl, Nat.le_of_ble_eq_true rfl⟩) (k_preS C hX) rfl rfl hl.1 rfl (lv_room (Nat.le_of_ble_eq_true rfl)) dX9_isDisk_8 ⟨Nat.le_of_ble_eq_true rfl, Nat.le_of_ble_eq_true rfl⟩) hX (fun r8 f8 H locs hp8 hX => ?_)
  obtain ⟨hr8, hf8⟩ := hp8
  rw [hf8] at hX
  refine k_topi (y := (kbI (((-1000000000) : Int64) ≤ a.toInt64 ∧ a.toInt64 ≤ 1000000000))) hr8 ?_
  refine k_topi (y := (kbI (mRg a (-1000000000) 1000000000))) (kbI_c (m_rg (by decide) (by decide))) ?_
  refine lv_if_eq (tgt := 44) C.x C.b dX9_isDisk_11 (by decide) (fun c_11 => ?_) (fun c_11 => ?_)
  · skip
    have c_11 := kbI_0 c_11
    refine lv_iconst (v := nI 0) C.x C.b dX9_isDisk_44 (by decide) ?_
    exact k_zret C hX hr hlocks hQ (by omega) (by omega) (by first | exact kbI_01 _ | exact Or.inl rfl | exact Or.inr rfl) (by refine ⟨?_, rfl⟩; first | exact kbI_tN ⟨c_11, c_25, c_37⟩ | exact kbI_fN (fun h9 => c_11 h9.1) | exact kbI_fN (fun h9 => c_25 h9.2.1) | exact kbI_fN (fun h9 => c_37 h9.2.2)) dX9_isDisk_45
  · skip
    have c_11 := kbI_1 c_11
    refine lv_iload_n C.x C.b dX9_isDisk_14 rfl (lv_at hl 1 rfl) ?_
    refine lv_i2l (v := b.toInt64) C.x C.b dX9_isDisk_15 rfl ?_
    refine lv_ldc2 (v := -1000000000) C.x C.b C.ow (C.ts _ lk_X9_isDisk_c117) dX9_isDisk_16 ?_
    refine lv_ldc2 (v := 1000000000) C.x C.b C.ow (C.ts _ lk_X9_isDisk_c119) dX9_isDisk_19 ?_
    refine k_calli (va_runS (As := [.long b.toInt64, .long (-1000000000), .long 1000000000]) (rest := []) C.1 (kX9_isIn l G B0 f b.toInt64 (-1000000000) 1000000000) (va_cwS 3 C.ts gX9_isDisk_X9_isIn rfl rfl rfl (hdX9_isDisk_X9_isIn) ⟨Nat.le_of_ble_eq_true rfl, Nat.le_of_ble_eq_true rfl⟩) (k_preS C hX) rfl rfl hl.1 rfl (lv_room (Nat.le_of_ble_eq_true rfl)) dX9_isDisk_22 ⟨Nat.le_of_ble_eq_true rfl, Nat.le_of_ble_eq_true rfl⟩) hX (fun r22 f22 H locs hp22 hX => ?_)
    obtain ⟨hr22, hf22⟩ := hp22
    rw [hf22] at hX
    refine k_topi (y := (kbI (((-1000000000) : Int64) ≤ b.toInt64 ∧ b.toInt64 ≤ 1000000000))) hr22 ?_
    refine k_topi (y := (kbI (mRg b (-1000000000) 1000000000))) (kbI_c (m_rg (by decide) (by decide))) ?_
    refine lv_if_eq (tgt := 44) C.x C.b dX9_isDisk_25 (by decide) (fun c_25 => ?_) (fun c_25 => ?_)
    · skip
      have c_25 := kbI_0 c_25
      refine lv_iconst (v := nI 0) C.x C.b dX9_isDisk_44 (by decide) ?_
      exact k_zret C hX hr hlocks hQ (by omega) (by omega) (by first | exact kbI_01 _ | exact Or.inl rfl | exact Or.inr rfl) (by refine ⟨?_, rfl⟩; first | exact kbI_tN ⟨c_11, c_25, c_37⟩ | exact kbI_fN (fun h9 => c_11 h9.1) | exact kbI_fN (fun h9 => c_25 h9.2.1) | exact kbI_fN (fun h9 => c_37 h9.2.2)) dX9_isDisk_45
    · skip
      have c_25 := kbI_1 c_25
      refine lv_iload_n C.x C.b dX9_isDisk_28 rfl (lv_at hl 2 rfl) ?_
      refine lv_i2l (v := c9.toInt64) C.x C.b dX9_isDisk_29 rfl ?_
      refine lv_lconst (v := 1) C.x C.b dX9_isDisk_30 (by decide) ?_
      refine lv_ldc2 (v := 1000000000) C.x C.b C.ow (C.ts _ lk_X9_isDisk_c119) dX9_isDisk_31 ?_
      refine k_calli (va_runS (As := [.long c9.toInt64, .long 1, .long 1000000000]) (rest := []) C.1 (kX9_isIn l G B0 f c9.toInt64 1 1000000000) (va_cwS 3 C.ts gX9_isDisk_X9_isIn rfl rfl rfl (hdX9_isDisk_X9_isIn) ⟨Nat.le_of_ble_eq_true rfl, Nat.le_of_ble_eq_true rfl⟩) (k_preS C hX) rfl rfl hl.1 rfl (lv_room (Nat.le_of_ble_eq_true rfl)) dX9_isDisk_34 ⟨Nat.le_of_ble_eq_true rfl, Nat.le_of_ble_eq_true rfl⟩) hX (fun r34 f34 H locs hp34 hX => ?_)
      obtain ⟨hr34, hf34⟩ := hp34
      rw [hf34] at hX
      refine k_topi (y := (kbI ((1 : Int64) ≤ c9.toInt64 ∧ c9.toInt64 ≤ 1000000000))) hr34 ?_
      refine k_topi (y := (kbI (mRg c9 (1) 1000000000))) (kbI_c (m_rg (by decide) (by decide))) ?_
      refine lv_if_eq (tgt := 44) C.x C.b dX9_isDisk_37 (by decide) (fun c_37 => ?_) (fun c_37 => ?_)
      · skip
        have c_37 := kbI_0 c_37
        refine lv_iconst (v := nI 0) C.x C.b dX9_isDisk_44 (by decide) ?_
        exact k_zret C hX hr hlocks hQ (by omega) (by omega) (by first | exact kbI_01 _ | exact Or.inl rfl | exact Or.inr rfl) (by refine ⟨?_, rfl⟩; first | exact kbI_tN ⟨c_11, c_25, c_37⟩ | exact kbI_fN (fun h9 => c_11 h9.1) | exact kbI_fN (fun h9 => c_25 h9.2.1) | exact kbI_fN (fun h9 => c_37 h9.2.2)) dX9_isDisk_45
      · skip
        have c_37 := kbI_1 c_37
        refine lv_iconst (v := nI 1) C.x C.b dX9_isDisk_40 (by decide) ?_
        refine lv_goto (tgt := 45) C.x C.b dX9_isDisk_41 (by decide) ?_
        exact k_zret C hX hr hlocks hQ (by omega) (by omega) (by first | exact kbI_01 _ | exact Or.inl rfl | exact Or.inr rfl) (by refine ⟨?_, rfl⟩; first | exact kbI_tN ⟨c_11, c_25, c_37⟩ | exact kbI_fN (fun h9 => c_11 h9.1) | exact kbI_fN (fun h9 => c_25 h9.2.1) | exact kbI_fN (fun h9 => c_37 h9.2.2)) dX9_isDisk_45

theorem hdX9_disk_X9_isDisk : yX9_isDisk.cls ≠ "java/lang/invoke/MethodHandle" ∧ yX9_isDisk.cls ≠ "java/lang/invoke/VarHandle" ∧ (parseMethodDescriptor yX9_isDisk.desc).map (fun d => d.parameters.length) = some 3 := by decide +kernel
theorem lk_X9_disk_f80 : Cond.fieldLink RX9 80 "KoebehallModel" "thrown" "I" ∈ wsX9_disk := by decide +kernel
theorem hin_X9_disk_RX9 : ∀ w ∈ u_ws RX9 TX9 28, w ∈ wsX9_disk := by decide +kernel
abbrev rmX9_disk_b1 : Room := { frames := 2, cells := 0, slots := 0, locals := 47 }
set_option maxHeartbeats 4000000 in
set_option maxRecDepth 100000 in
/-- X9_disk_b1 -/
theorem kX9_disk_b1 (l : Launch) (G : kG) (B0 : Nat) (f : kH) (h : Nat) (q : Nat → Nat) (i0 i1 i3 i7 i18 i22 i23 i27 : Int32) (j16 j17 : Int64) (a2 : Nat → Int32) (a4 : Nat → Int32) (a5 : Nat → Int32) (a6 : Nat → Int32) (b8 : Nat → Int64) (b9 : Nat → Int64) (b10 : Nat → Int64) (a11 : Nat → Int32) (a12 : Nat → Int32) (a13 : Nat → Int32) (a14 : Nat → Int32) (b15 : Nat → Int64) (b19 : Nat → Int64) (b20 : Nat → Int64) (b21 : Nat → Int64) (a24 : Nat → Int32) (a25 : Nat → Int32) (a26 : Nat → Int32) (a b c9 : Int32) (d : Nat) (hM : kCs f (mC G h q i0 i1 i3 i7 i18 i22 i23 i27 j16 j17 a2 a4 a5 a6 b8 b9 b10 a11 a12 a13 a14 b15 b19 b20 b21 a24 a25 a26)) (hd0 : i3 = nI d) (hd9 : d ≤ 16) (hv : ¬ mDisk a b c9) : Met l yX9_disk wsX9_disk (rmX9_disk_b1) (kP G B0 f [.ref h, .int a, .int b, .int c9]) (kQi G B0 (fun r f1 => r = nI 0 ∧ kCs f1 (mC G h q i0 i1 i3 i7 i18 i22 i23 (nI 1) j16 j17 a2 a4 a5 a6 b8 b9 b10 a11 a12 a13 a14 b15 b19 b20 b21 a24 a25 a26) ∧ kOff (mAs h q) f f1)) 0 0 (kAb B0) := by
  refine kMet (cc := cX9_disk) (maxL := 4) (ret := (some .int)) (by decide) rfl (Nat.le_of_ble_eq_true rfl) ?_
  intro p e s m args below meth c H locs Q ls C hX hl hr hlocks hnm hQ
  have hO : kOff (mAs h q) f f := kOff.rf
  have hl : lv_has ls 4 [(0, .ref h), (1, .int a), (2, .int b), (3, .int c9)] := hl
  refine lv_aload_n C.x C.b dX9_disk_0 rfl (lv_at hl 0 rfl) ?_
  refine lv_iload_n C.x C.b dX9_disk_1 rfl (lv_at hl 1 rfl) ?_
  refine lv_iload_n C.x C.b dX9_disk_2 rfl (lv_at hl 2 rfl) ?_
  refine lv_iload_n C.x C.b dX9_disk_3 rfl (lv_at hl 3 rfl) ?_
  refine k_calli (va_runS (As := [.int a, .int b, .int c9]) (rest := [.ref h]) C.1 (kX9_isDisk l G B0 f a b c9) (va_cwS 3 C.ts gX9_disk_X9_isDisk rfl rfl rfl (hdX9_disk_X9_isDisk) ⟨Nat.le_of_ble_eq_true rfl, Nat.le_of_ble_eq_true rfl⟩) (k_preS C hX) rfl rfl hl.1 rfl (lv_room (Nat.le_of_ble_eq_true rfl)) dX9_disk_4 ⟨Nat.le_of_ble_eq_true rfl, Nat.le_of_ble_eq_true rfl⟩) hX (fun r4 f4 H locs hp4 hX => ?_)
  obtain ⟨hr4, hf4⟩ := hp4
  rw [hf4] at hX
  refine k_topi (y := (kbI (mDisk a b c9))) hr4 ?_
  refine lv_if_ne (tgt := 14) C.x C.b dX9_disk_7 (by decide) (fun c_7 => ?_) (fun c_7 => ?_)
  · exact absurd (kbI_1 c_7) (hv)
  refine lv_iconst (v := nI 1) C.x C.b dX9_disk_10 (by decide) ?_
  refine lv_goto (tgt := 28) C.x C.b dX9_disk_11 (by decide) ?_
  refine k_put (X := RX9) (T := TX9) (N := 28) (ty := .int) (v := .int (nI 1)) C hX (hM.at 0 rfl) rfl hin_X9_disk_RX9 tyX9_ok nmX9 27 (by decide) lk_X9_disk_f80 (fun _ h9 => h9) rfl (by decide +kernel) rfl rfl (Nat.le_of_ble_eq_true rfl) dX9_disk_28 (fun H locs hX => ?_)
  obtain ⟨g1, hX, hM, hO⟩ := kX.wr hX hM hO 0 rfl (List.mem_of_getElem? (i := 0) rfl)
  have hM : kCs g1 (mC G h q i0 i1 i3 i7 i18 i22 i23 (nI 1) j16 j17 a2 a4 a5 a6 b8 b9 b10 a11 a12 a13 a14 b15 b19 b20 b21 a24 a25 a26) := hM
  refine lv_aload_n C.x C.b dX9_disk_31 rfl (lv_at hl 0 rfl) ?_
  refine k_get (X := RX9) (T := TX9) (N := 28) (v := .int (nI 1)) C hX (hM.at 0 rfl) rfl hin_X9_disk_RX9 27 (by decide) lk_X9_disk_f80 (fun _ h9 => h9) rfl dX9_disk_32 ?_
  refine lv_if_le (tgt := 40) C.x C.b dX9_disk_35 (by decide) (fun c_35 => ?_) (fun c_35 => ?_)
  · exact absurd c_35 (by decide)
  refine lv_iconst (v := nI 0) C.x C.b dX9_disk_38 (by decide) ?_
  exact k_iret C hX hr hlocks hQ (by omega) (by omega) (⟨rfl, hM, hO⟩) dX9_disk_39

theorem lk_X9_disk_f125 : Cond.fieldLink RX9 125 "KoebehallModel" "disks" "I" ∈ wsX9_disk := by decide +kernel
abbrev rmX9_disk_b2 : Room := { frames := 2, cells := 0, slots := 0, locals := 47 }
set_option maxHeartbeats 4000000 in
set_option maxRecDepth 100000 in
/-- X9_disk_b2 -/
theorem kX9_disk_b2 (l : Launch) (G : kG) (B0 : Nat) (f : kH) (h : Nat) (q : Nat → Nat) (i0 i1 i3 i7 i18 i22 i23 i27 : Int32) (j16 j17 : Int64) (a2 : Nat → Int32) (a4 : Nat → Int32) (a5 : Nat → Int32) (a6 : Nat → Int32) (b8 : Nat → Int64) (b9 : Nat → Int64) (b10 : Nat → Int64) (a11 : Nat → Int32) (a12 : Nat → Int32) (a13 : Nat → Int32) (a14 : Nat → Int32) (b15 : Nat → Int64) (b19 : Nat → Int64) (b20 : Nat → Int64) (b21 : Nat → Int64) (a24 : Nat → Int32) (a25 : Nat → Int32) (a26 : Nat → Int32) (a b c9 : Int32) (d : Nat) (hM : kCs f (mC G h q i0 i1 i3 i7 i18 i22 i23 i27 j16 j17 a2 a4 a5 a6 b8 b9 b10 a11 a12 a13 a14 b15 b19 b20 b21 a24 a25 a26)) (hd0 : i3 = nI d) (hd9 : d ≤ 16) (hv : mDisk a b c9) (h16 : d = 16) : Met l yX9_disk wsX9_disk (rmX9_disk_b2) (kP G B0 f [.ref h, .int a, .int b, .int c9]) (kQi G B0 (fun r f1 => r = nI 0 ∧ kCs f1 (mC G h q i0 i1 i3 i7 i18 i22 i23 (nI 2) j16 j17 a2 a4 a5 a6 b8 b9 b10 a11 a12 a13 a14 b15 b19 b20 b21 a24 a25 a26) ∧ kOff (mAs h q) f f1)) 0 0 (kAb B0) := by
  refine kMet (cc := cX9_disk) (maxL := 4) (ret := (some .int)) (by decide) rfl (Nat.le_of_ble_eq_true rfl) ?_
  intro p e s m args below meth c H locs Q ls C hX hl hr hlocks hnm hQ
  have hO : kOff (mAs h q) f f := kOff.rf
  have hl : lv_has ls 4 [(0, .ref h), (1, .int a), (2, .int b), (3, .int c9)] := hl
  refine lv_aload_n C.x C.b dX9_disk_0 rfl (lv_at hl 0 rfl) ?_
  refine lv_iload_n C.x C.b dX9_disk_1 rfl (lv_at hl 1 rfl) ?_
  refine lv_iload_n C.x C.b dX9_disk_2 rfl (lv_at hl 2 rfl) ?_
  refine lv_iload_n C.x C.b dX9_disk_3 rfl (lv_at hl 3 rfl) ?_
  refine k_calli (va_runS (As := [.int a, .int b, .int c9]) (rest := [.ref h]) C.1 (kX9_isDisk l G B0 f a b c9) (va_cwS 3 C.ts gX9_disk_X9_isDisk rfl rfl rfl (hdX9_disk_X9_isDisk) ⟨Nat.le_of_ble_eq_true rfl, Nat.le_of_ble_eq_true rfl⟩) (k_preS C hX) rfl rfl hl.1 rfl (lv_room (Nat.le_of_ble_eq_true rfl)) dX9_disk_4 ⟨Nat.le_of_ble_eq_true rfl, Nat.le_of_ble_eq_true rfl⟩) hX (fun r4 f4 H locs hp4 hX => ?_)
  obtain ⟨hr4, hf4⟩ := hp4
  rw [hf4] at hX
  refine k_topi (y := (kbI (mDisk a b c9))) hr4 ?_
  refine lv_if_ne (tgt := 14) C.x C.b dX9_disk_7 (by decide) (fun c_7 => ?_) (fun c_7 => ?_)
  rotate_left
  · exact absurd (hv) (kbI_0 c_7)
  refine lv_aload_n C.x C.b dX9_disk_14 rfl (lv_at hl 0 rfl) ?_
  refine k_get (X := RX9) (T := TX9) (N := 28) (v := .int i3) C hX (hM.at 0 rfl) rfl hin_X9_disk_RX9 3 (by decide) lk_X9_disk_f125 (fun _ h9 => h9) rfl dX9_disk_15 ?_
  refine k_topi (y := (nI d)) (hd0) ?_
  refine lv_bipush (v := nI 16) C.x C.b dX9_disk_18 (by decide) ?_
  refine lv_icmp_ne (tgt := 27) C.x C.b dX9_disk_20 (by decide) (fun c_20 => ?_) (fun c_20 => ?_)
  · skip
    have c_20 : ¬ (d = 16) := fun h9 => c_20 ((nI_eq (by omega) (by omega)).mpr h9)
    omega
  have c_20 : d = 16 := (nI_eq (by omega) (by omega)).mp c_20
  refine lv_iconst (v := nI 2) C.x C.b dX9_disk_23 (by decide) ?_
  refine lv_goto (tgt := 28) C.x C.b dX9_disk_24 (by decide) ?_
  refine k_put (X := RX9) (T := TX9) (N := 28) (ty := .int) (v := .int (nI 2)) C hX (hM.at 0 rfl) rfl hin_X9_disk_RX9 tyX9_ok nmX9 27 (by decide) lk_X9_disk_f80 (fun _ h9 => h9) rfl (by decide +kernel) rfl rfl (Nat.le_of_ble_eq_true rfl) dX9_disk_28 (fun H locs hX => ?_)
  obtain ⟨g1, hX, hM, hO⟩ := kX.wr hX hM hO 0 rfl (List.mem_of_getElem? (i := 0) rfl)
  have hM : kCs g1 (mC G h q i0 i1 i3 i7 i18 i22 i23 (nI 2) j16 j17 a2 a4 a5 a6 b8 b9 b10 a11 a12 a13 a14 b15 b19 b20 b21 a24 a25 a26) := hM
  refine lv_aload_n C.x C.b dX9_disk_31 rfl (lv_at hl 0 rfl) ?_
  refine k_get (X := RX9) (T := TX9) (N := 28) (v := .int (nI 2)) C hX (hM.at 0 rfl) rfl hin_X9_disk_RX9 27 (by decide) lk_X9_disk_f80 (fun _ h9 => h9) rfl dX9_disk_32 ?_
  refine lv_if_le (tgt := 40) C.x C.b dX9_disk_35 (by decide) (fun c_35 => ?_) (fun c_35 => ?_)
  · exact absurd c_35 (by decide)
  refine lv_iconst (v := nI 0) C.x C.b dX9_disk_38 (by decide) ?_
  exact k_iret C hX hr hlocks hQ (by omega) (by omega) (⟨rfl, hM, hO⟩) dX9_disk_39

theorem lk_X9_disk_f20 : Cond.fieldLink RX9 20 "KoebehallModel" "middleX" "[I" ∈ wsX9_disk := by decide +kernel
theorem lk_X9_disk_f23 : Cond.fieldLink RX9 23 "KoebehallModel" "middleY" "[I" ∈ wsX9_disk := by decide +kernel
theorem lk_X9_disk_f26 : Cond.fieldLink RX9 26 "KoebehallModel" "radii" "[I" ∈ wsX9_disk := by decide +kernel
abbrev rmX9_disk : Room := { frames := 2, cells := 0, slots := 0, locals := 47 }
set_option maxHeartbeats 4000000 in
set_option maxRecDepth 100000 in
/-- X9_disk -/
theorem kX9_disk (l : Launch) (G : kG) (B0 : Nat) (f : kH) (h : Nat) (q : Nat → Nat) (i0 i1 i3 i7 i18 i22 i23 i27 : Int32) (j16 j17 : Int64) (a2 : Nat → Int32) (a4 : Nat → Int32) (a5 : Nat → Int32) (a6 : Nat → Int32) (b8 : Nat → Int64) (b9 : Nat → Int64) (b10 : Nat → Int64) (a11 : Nat → Int32) (a12 : Nat → Int32) (a13 : Nat → Int32) (a14 : Nat → Int32) (b15 : Nat → Int64) (b19 : Nat → Int64) (b20 : Nat → Int64) (b21 : Nat → Int64) (a24 : Nat → Int32) (a25 : Nat → Int32) (a26 : Nat → Int32) (a b c9 : Int32) (d : Nat) (hM : kCs f (mC G h q i0 i1 i3 i7 i18 i22 i23 i27 j16 j17 a2 a4 a5 a6 b8 b9 b10 a11 a12 a13 a14 b15 b19 b20 b21 a24 a25 a26)) (hd0 : i3 = nI d) (hd9 : d ≤ 16) (hv : mDisk a b c9) (h16 : d < 16) : Met l yX9_disk wsX9_disk (rmX9_disk) (kP G B0 f [.ref h, .int a, .int b, .int c9]) (kQi G B0 (fun r f1 => r = nI d ∧ kCs f1 (mC G h q i0 i1 (nI (d + 1)) i7 i18 i22 i23 (nI 0) j16 j17 a2 (upd a4 d a) (upd a5 d b) (upd a6 d c9) b8 b9 b10 a11 a12 a13 a14 b15 b19 b20 b21 a24 a25 a26) ∧ kOff (mAs h q) f f1)) 0 0 (kAb B0) := by
  refine kMet (cc := cX9_disk) (maxL := 4) (ret := (some .int)) (by decide) rfl (Nat.le_of_ble_eq_true rfl) ?_
  intro p e s m args below meth c H locs Q ls C hX hl hr hlocks hnm hQ
  have hO : kOff (mAs h q) f f := kOff.rf
  have hl : lv_has ls 4 [(0, .ref h), (1, .int a), (2, .int b), (3, .int c9)] := hl
  refine lv_aload_n C.x C.b dX9_disk_0 rfl (lv_at hl 0 rfl) ?_
  refine lv_iload_n C.x C.b dX9_disk_1 rfl (lv_at hl 1 rfl) ?_
  refine lv_iload_n C.x C.b dX9_disk_2 rfl (lv_at hl 2 rfl) ?_
  refine lv_iload_n C.x C.b dX9_disk_3 rfl (lv_at hl 3 rfl) ?_
  refine k_calli (va_runS (As := [.int a, .int b, .int c9]) (rest := [.ref h]) C.1 (kX9_isDisk l G B0 f a b c9) (va_cwS 3 C.ts gX9_disk_X9_isDisk rfl rfl rfl (hdX9_disk_X9_isDisk) ⟨Nat.le_of_ble_eq_true rfl, Nat.le_of_ble_eq_true rfl⟩) (k_preS C hX) rfl rfl hl.1 rfl (lv_room (Nat.le_of_ble_eq_true rfl)) dX9_disk_4 ⟨Nat.le_of_ble_eq_true rfl, Nat.le_of_ble_eq_true rfl⟩) hX (fun r4 f4 H locs hp4 hX => ?_)
  obtain ⟨hr4, hf4⟩ := hp4
  rw [hf4] at hX
  refine k_topi (y := (kbI (mDisk a b c9))) hr4 ?_
  refine lv_if_ne (tgt := 14) C.x C.b dX9_disk_7 (by decide) (fun c_7 => ?_) (fun c_7 => ?_)
  rotate_left
  · exact absurd (hv) (kbI_0 c_7)
  refine lv_aload_n C.x C.b dX9_disk_14 rfl (lv_at hl 0 rfl) ?_
  refine k_get (X := RX9) (T := TX9) (N := 28) (v := .int i3) C hX (hM.at 0 rfl) rfl hin_X9_disk_RX9 3 (by decide) lk_X9_disk_f125 (fun _ h9 => h9) rfl dX9_disk_15 ?_
  refine k_topi (y := (nI d)) (hd0) ?_
  refine lv_bipush (v := nI 16) C.x C.b dX9_disk_18 (by decide) ?_
  refine lv_icmp_ne (tgt := 27) C.x C.b dX9_disk_20 (by decide) (fun c_20 => ?_) (fun c_20 => ?_)
  rotate_left
  · skip
    have c_20 : d = 16 := (nI_eq (by omega) (by omega)).mp c_20
    omega
  have c_20 : ¬ (d = 16) := fun h9 => c_20 ((nI_eq (by omega) (by omega)).mpr h9)
  refine lv_iconst (v := nI 0) C.x C.b dX9_disk_27 (by decide) ?_
  refine k_put (X := RX9) (T := TX9) (N := 28) (ty := .int) (v := .int (nI 0)) C hX (hM.at 0 rfl) rfl hin_X9_disk_RX9 tyX9_ok nmX9 27 (by decide) lk_X9_disk_f80 (fun _ h9 => h9) rfl (by decide +kernel) rfl rfl (Nat.le_of_ble_eq_true rfl) dX9_disk_28 (fun H locs hX => ?_)
  obtain ⟨g1, hX, hM, hO⟩ := kX.wr hX hM hO 0 rfl (List.mem_of_getElem? (i := 0) rfl)
  have hM : kCs g1 (mC G h q i0 i1 i3 i7 i18 i22 i23 (nI 0) j16 j17 a2 a4 a5 a6 b8 b9 b10 a11 a12 a13 a14 b15 b19 b20 b21 a24 a25 a26) := hM
  refine lv_aload_n C.x C.b dX9_disk_31 rfl (lv_at hl 0 rfl) ?_
  refine k_get (X := RX9) (T := TX9) (N := 28) (v := .int (nI 0)) C hX (hM.at 0 rfl) rfl hin_X9_disk_RX9 27 (by decide) lk_X9_disk_f80 (fun _ h9 => h9) rfl dX9_disk_32 ?_
  refine lv_if_le (tgt := 40) C.x C.b dX9_disk_35 (by decide) (fun c_35 => ?_) (fun c_35 => ?_)
  rotate_left
  · exact absurd c_35 (by decide)
  refine lv_aload_n C.x C.b dX9_disk_40 rfl (lv_at hl 0 rfl) ?_
  refine k_get (X := RX9) (T := TX9) (N := 28) (v := .ref (q 4)) C hX (hM.at 0 rfl) rfl hin_X9_disk_RX9 4 (by decide) lk_X9_disk_f20 (fun _ h9 => h9) rfl dX9_disk_41 ?_
  refine lv_aload_n C.x C.b dX9_disk_44 rfl (lv_at hl 0 rfl) ?_
  refine k_get (X := RX9) (T := TX9) (N := 28) (v := .int i3) C hX (hM.at 0 rfl) rfl hin_X9_disk_RX9 3 (by decide) lk_X9_disk_f125 (fun _ h9 => h9) rfl dX9_disk_45 ?_
  refine k_topi (y := (nI d)) (hd0) ?_
  refine lv_iload_n C.x C.b dX9_disk_48 rfl (lv_at hl 1 rfl) ?_
  refine k_iast C hX (hM.at 2 rfl) (vp_in_nI (by omega) (by omega)) dX9_disk_49 (fun H locs hX => ?_)
  rw [nI_clamp (by omega)] at hX
  obtain ⟨g2, hX, hM, hO⟩ := kX.wr hX hM hO 2 rfl (List.mem_of_getElem? (i := 2) rfl)
  have hM : kCs g2 (mC G h q i0 i1 i3 i7 i18 i22 i23 (nI 0) j16 j17 a2 (upd a4 d a) a5 a6 b8 b9 b10 a11 a12 a13 a14 b15 b19 b20 b21 a24 a25 a26) := hM
  refine lv_aload_n C.x C.b dX9_disk_50 rfl (lv_at hl 0 rfl) ?_
  refine k_get (X := RX9) (T := TX9) (N := 28) (v := .ref (q 5)) C hX (hM.at 0 rfl) rfl hin_X9_disk_RX9 5 (by decide) lk_X9_disk_f23 (fun _ h9 => h9) rfl dX9_disk_51 ?_
  refine lv_aload_n C.x C.b dX9_disk_54 rfl (lv_at hl 0 rfl) ?_
  refine k_get (X := RX9) (T := TX9) (N := 28) (v := .int i3) C hX (hM.at 0 rfl) rfl hin_X9_disk_RX9 3 (by decide) lk_X9_disk_f125 (fun _ h9 => h9) rfl dX9_disk_55 ?_
  refine k_topi (y := (nI d)) (hd0) ?_
  refine lv_iload_n C.x C.b dX9_disk_58 rfl (lv_at hl 2 rfl) ?_
  refine k_iast C hX (hM.at 3 rfl) (vp_in_nI (by omega) (by omega)) dX9_disk_59 (fun H locs hX => ?_)
  rw [nI_clamp (by omega)] at hX
  obtain ⟨g3, hX, hM, hO⟩ := kX.wr hX hM hO 3 rfl (List.mem_of_getElem? (i := 3) rfl)
  have hM : kCs g3 (mC G h q i0 i1 i3 i7 i18 i22 i23 (nI 0) j16 j17 a2 (upd a4 d a) (upd a5 d b) a6 b8 b9 b10 a11 a12 a13 a14 b15 b19 b20 b21 a24 a25 a26) := hM
  refine lv_aload_n C.x C.b dX9_disk_60 rfl (lv_at hl 0 rfl) ?_
  refine k_get (X := RX9) (T := TX9) (N := 28) (v := .ref (q 6)) C hX (hM.at 0 rfl) rfl hin_X9_disk_RX9 6 (by decide) lk_X9_disk_f26 (fun _ h9 => h9) rfl dX9_disk_61 ?_
  refine lv_aload_n C.x C.b dX9_disk_64 rfl (lv_at hl 0 rfl) ?_
  refine k_get (X := RX9) (T := TX9) (N := 28) (v := .int i3) C hX (hM.at 0 rfl) rfl hin_X9_disk_RX9 3 (by decide) lk_X9_disk_f125 (fun _ h9 => h9) rfl dX9_disk_65 ?_
  refine k_topi (y := (nI d)) (hd0) ?_
  refine lv_iload_n C.x C.b dX9_disk_68 rfl (lv_at hl 3 rfl) ?_
  refine k_iast C hX (hM.at 4 rfl) (vp_in_nI (by omega) (by omega)) dX9_disk_69 (fun H locs hX => ?_)
  rw [nI_clamp (by omega)] at hX
  obtain ⟨g4, hX, hM, hO⟩ := kX.wr hX hM hO 4 rfl (List.mem_of_getElem? (i := 4) rfl)
  have hM : kCs g4 (mC G h q i0 i1 i3 i7 i18 i22 i23 (nI 0) j16 j17 a2 (upd a4 d a) (upd a5 d b) (upd a6 d c9) b8 b9 b10 a11 a12 a13 a14 b15 b19 b20 b21 a24 a25 a26) := hM
  refine lv_aload_n C.x C.b dX9_disk_70 rfl (lv_at hl 0 rfl) ?_
  refine lv_dup C.x C.b dX9_disk_71 rfl ?_
  refine k_get (X := RX9) (T := TX9) (N := 28) (v := .int i3) C hX (hM.at 0 rfl) rfl hin_X9_disk_RX9 3 (by decide) lk_X9_disk_f125 (fun _ h9 => h9) rfl dX9_disk_72 ?_
  refine k_topi (y := (nI d)) (hd0) ?_
  refine lv_iconst (v := nI 1) C.x C.b dX9_disk_75 (by decide) ?_
  refine lv_iadd C.x C.b dX9_disk_76 ?_
  refine k_topi (y := nI (d + 1)) (nI_add _ _) ?_
  refine k_put (X := RX9) (T := TX9) (N := 28) (ty := .int) (v := .int (nI (d + 1))) C hX (hM.at 0 rfl) rfl hin_X9_disk_RX9 tyX9_ok nmX9 3 (by decide) lk_X9_disk_f125 (fun _ h9 => h9) rfl (by decide +kernel) rfl rfl (Nat.le_of_ble_eq_true rfl) dX9_disk_77 (fun H locs hX => ?_)
  obtain ⟨g5, hX, hM, hO⟩ := kX.wr hX hM hO 0 rfl (List.mem_of_getElem? (i := 0) rfl)
  have hM : kCs g5 (mC G h q i0 i1 (nI (d + 1)) i7 i18 i22 i23 (nI 0) j16 j17 a2 (upd a4 d a) (upd a5 d b) (upd a6 d c9) b8 b9 b10 a11 a12 a13 a14 b15 b19 b20 b21 a24 a25 a26) := hM
  refine lv_aload_n C.x C.b dX9_disk_80 rfl (lv_at hl 0 rfl) ?_
  refine k_get (X := RX9) (T := TX9) (N := 28) (v := .int (nI (d + 1))) C hX (hM.at 0 rfl) rfl hin_X9_disk_RX9 3 (by decide) lk_X9_disk_f125 (fun _ h9 => h9) rfl dX9_disk_81 ?_
  refine lv_iconst (v := nI 1) C.x C.b dX9_disk_84 (by decide) ?_
  refine lv_isub C.x C.b dX9_disk_85 ?_
  refine k_topi (y := (nI d)) (pk_sub (by omega)) ?_
  exact k_iret C hX hr hlocks hQ (by omega) (by omega) (⟨rfl, hM, hO⟩) dX9_disk_86

theorem lk_X9_move_f125 : Cond.fieldLink RX9 125 "KoebehallModel" "disks" "I" ∈ wsX9_move := by decide +kernel
theorem hin_X9_move_RX9 : ∀ w ∈ u_ws RX9 TX9 28, w ∈ wsX9_move := by decide +kernel
theorem hdX9_move_X9_isIn : yX9_isIn.cls ≠ "java/lang/invoke/MethodHandle" ∧ yX9_isIn.cls ≠ "java/lang/invoke/VarHandle" ∧ (parseMethodDescriptor yX9_isIn.desc).map (fun d => d.parameters.length) = some 3 := by decide +kernel
theorem lk_X9_move_f80 : Cond.fieldLink RX9 80 "KoebehallModel" "thrown" "I" ∈ wsX9_move := by decide +kernel
abbrev rmX9_move_b1 : Room := { frames := 1, cells := 0, slots := 0, locals := 25 }
set_option maxHeartbeats 4000000 in
set_option maxRecDepth 100000 in
/-- X9_move_b1 -/
theorem kX9_move_b1 (l : Launch) (G : kG) (B0 : Nat) (f : kH) (h : Nat) (q : Nat → Nat) (i0 i1 i3 i7 i18 i22 i23 i27 : Int32) (j16 j17 : Int64) (a2 : Nat → Int32) (a4 : Nat → Int32) (a5 : Nat → Int32) (a6 : Nat → Int32) (b8 : Nat → Int64) (b9 : Nat → Int64) (b10 : Nat → Int64) (a11 : Nat → Int32) (a12 : Nat → Int32) (a13 : Nat → Int32) (a14 : Nat → Int32) (b15 : Nat → Int64) (b19 : Nat → Int64) (b20 : Nat → Int64) (b21 : Nat → Int64) (a24 : Nat → Int32) (a25 : Nat → Int32) (a26 : Nat → Int32) (a b c9 e9 : Int32) (d : Nat) (hM : kCs f (mC G h q i0 i1 i3 i7 i18 i22 i23 i27 j16 j17 a2 a4 a5 a6 b8 b9 b10 a11 a12 a13 a14 b15 b19 b20 b21 a24 a25 a26)) (hd0 : i3 = nI d) (hd9 : d ≤ 16) (hv : ¬ mIn a d) : Met l yX9_move wsX9_move (rmX9_move_b1) (kP G B0 f [.ref h, .int a, .int b, .int c9, .int e9]) (kQi G B0 (fun r f1 => r = nI 0 ∧ kCs f1 (mC G h q i0 i1 i3 i7 i18 i22 i23 (nI 1) j16 j17 a2 a4 a5 a6 b8 b9 b10 a11 a12 a13 a14 b15 b19 b20 b21 a24 a25 a26) ∧ kOff (mAs h q) f f1)) 0 0 (kAb B0) := by
  refine kMet (cc := cX9_move) (maxL := 6) (ret := (some .int)) (by decide) rfl (Nat.le_of_ble_eq_true rfl) ?_
  intro p e s m args below meth c H locs Q ls C hX hl hr hlocks hnm hQ
  have hO : kOff (mAs h q) f f := kOff.rf
  have hl : lv_has ls 6 [(0, .ref h), (1, .int a), (2, .int b), (3, .int c9), (4, .int e9)] := hl
  refine lv_aload_n C.x C.b dX9_move_0 rfl (lv_at hl 0 rfl) ?_
  refine lv_iload_n C.x C.b dX9_move_1 rfl (lv_at hl 1 rfl) ?_
  refine lv_i2l (v := a.toInt64) C.x C.b dX9_move_2 rfl ?_
  refine lv_lconst (v := 0) C.x C.b dX9_move_3 (by decide) ?_
  refine lv_aload_n C.x C.b dX9_move_4 rfl (lv_at hl 0 rfl) ?_
  refine k_get (X := RX9) (T := TX9) (N := 28) (v := .int i3) C hX (hM.at 0 rfl) rfl hin_X9_move_RX9 3 (by decide) lk_X9_move_f125 (fun _ h9 => h9) rfl dX9_move_5 ?_
  refine k_topi (y := (nI d)) (hd0) ?_
  refine lv_iconst (v := nI 1) C.x C.b dX9_move_8 (by decide) ?_
  refine lv_isub C.x C.b dX9_move_9 ?_
  refine lv_i2l (v := ((nI d) - (nI 1)).toInt64) C.x C.b dX9_move_10 rfl ?_
  refine k_calli (va_runS (As := [.long a.toInt64, .long 0, .long (((nI d) - (nI 1)).toInt64)]) (rest := [.ref h]) C.1 (kX9_isIn l G B0 f a.toInt64 0 ((nI d - nI 1).toInt64)) (va_cwS 3 C.ts gX9_move_X9_isIn rfl rfl rfl (hdX9_move_X9_isIn) ⟨Nat.le_of_ble_eq_true rfl, Nat.le_of_ble_eq_true rfl⟩) (k_preS C hX) rfl rfl hl.1 rfl (lv_room (Nat.le_of_ble_eq_true rfl)) dX9_move_11 ⟨Nat.le_of_ble_eq_true rfl, Nat.le_of_ble_eq_true rfl⟩) hX (fun r11 f11 H locs hp11 hX => ?_)
  obtain ⟨hr11, hf11⟩ := hp11
  rw [hf11] at hX
  refine k_topi (y := (kbI ((0 : Int64) ≤ a.toInt64 ∧ a.toInt64 ≤ (nI d - nI 1).toInt64))) hr11 ?_
  refine k_topi (y := (kbI (mIn a d))) (kbI_c (m_in (by omega))) ?_
  refine lv_if_ne (tgt := 21) C.x C.b dX9_move_14 (by decide) (fun c_14 => ?_) (fun c_14 => ?_)
  · exact absurd (kbI_1 c_14) (hv)
  refine lv_iconst (v := nI 1) C.x C.b dX9_move_17 (by decide) ?_
  refine lv_goto (tgt := 36) C.x C.b dX9_move_18 (by decide) ?_
  refine k_put (X := RX9) (T := TX9) (N := 28) (ty := .int) (v := .int (nI 1)) C hX (hM.at 0 rfl) rfl hin_X9_move_RX9 tyX9_ok nmX9 27 (by decide) lk_X9_move_f80 (fun _ h9 => h9) rfl (by decide +kernel) rfl rfl (Nat.le_of_ble_eq_true rfl) dX9_move_36 (fun H locs hX => ?_)
  obtain ⟨g1, hX, hM, hO⟩ := kX.wr hX hM hO 0 rfl (List.mem_of_getElem? (i := 0) rfl)
  have hM : kCs g1 (mC G h q i0 i1 i3 i7 i18 i22 i23 (nI 1) j16 j17 a2 a4 a5 a6 b8 b9 b10 a11 a12 a13 a14 b15 b19 b20 b21 a24 a25 a26) := hM
  refine lv_aload_n C.x C.b dX9_move_39 rfl (lv_at hl 0 rfl) ?_
  refine k_get (X := RX9) (T := TX9) (N := 28) (v := .int (nI 1)) C hX (hM.at 0 rfl) rfl hin_X9_move_RX9 27 (by decide) lk_X9_move_f80 (fun _ h9 => h9) rfl dX9_move_40 ?_
  refine lv_if_le (tgt := 48) C.x C.b dX9_move_43 (by decide) (fun c_43 => ?_) (fun c_43 => ?_)
  · exact absurd c_43 (by decide)
  refine lv_iconst (v := nI 0) C.x C.b dX9_move_46 (by decide) ?_
  exact k_iret C hX hr hlocks hQ (by omega) (by omega) (⟨rfl, hM, hO⟩) dX9_move_47

theorem hdX9_move_X9_isDisk : yX9_isDisk.cls ≠ "java/lang/invoke/MethodHandle" ∧ yX9_isDisk.cls ≠ "java/lang/invoke/VarHandle" ∧ (parseMethodDescriptor yX9_isDisk.desc).map (fun d => d.parameters.length) = some 3 := by decide +kernel
abbrev rmX9_move_b2 : Room := { frames := 2, cells := 0, slots := 0, locals := 47 }
set_option maxHeartbeats 4000000 in
set_option maxRecDepth 100000 in
/-- X9_move_b2 -/
theorem kX9_move_b2 (l : Launch) (G : kG) (B0 : Nat) (f : kH) (h : Nat) (q : Nat → Nat) (i0 i1 i3 i7 i18 i22 i23 i27 : Int32) (j16 j17 : Int64) (a2 : Nat → Int32) (a4 : Nat → Int32) (a5 : Nat → Int32) (a6 : Nat → Int32) (b8 : Nat → Int64) (b9 : Nat → Int64) (b10 : Nat → Int64) (a11 : Nat → Int32) (a12 : Nat → Int32) (a13 : Nat → Int32) (a14 : Nat → Int32) (b15 : Nat → Int64) (b19 : Nat → Int64) (b20 : Nat → Int64) (b21 : Nat → Int64) (a24 : Nat → Int32) (a25 : Nat → Int32) (a26 : Nat → Int32) (a b c9 e9 : Int32) (d : Nat) (hM : kCs f (mC G h q i0 i1 i3 i7 i18 i22 i23 i27 j16 j17 a2 a4 a5 a6 b8 b9 b10 a11 a12 a13 a14 b15 b19 b20 b21 a24 a25 a26)) (hd0 : i3 = nI d) (hd9 : d ≤ 16) (hv : mIn a d) (hw : ¬ mDisk b c9 e9) : Met l yX9_move wsX9_move (rmX9_move_b2) (kP G B0 f [.ref h, .int a, .int b, .int c9, .int e9]) (kQi G B0 (fun r f1 => r = nI 0 ∧ kCs f1 (mC G h q i0 i1 i3 i7 i18 i22 i23 (nI 2) j16 j17 a2 a4 a5 a6 b8 b9 b10 a11 a12 a13 a14 b15 b19 b20 b21 a24 a25 a26) ∧ kOff (mAs h q) f f1)) 0 0 (kAb B0) := by
  refine kMet (cc := cX9_move) (maxL := 6) (ret := (some .int)) (by decide) rfl (Nat.le_of_ble_eq_true rfl) ?_
  intro p e s m args below meth c H locs Q ls C hX hl hr hlocks hnm hQ
  have hO : kOff (mAs h q) f f := kOff.rf
  have hl : lv_has ls 6 [(0, .ref h), (1, .int a), (2, .int b), (3, .int c9), (4, .int e9)] := hl
  refine lv_aload_n C.x C.b dX9_move_0 rfl (lv_at hl 0 rfl) ?_
  refine lv_iload_n C.x C.b dX9_move_1 rfl (lv_at hl 1 rfl) ?_
  refine lv_i2l (v := a.toInt64) C.x C.b dX9_move_2 rfl ?_
  refine lv_lconst (v := 0) C.x C.b dX9_move_3 (by decide) ?_
  refine lv_aload_n C.x C.b dX9_move_4 rfl (lv_at hl 0 rfl) ?_
  refine k_get (X := RX9) (T := TX9) (N := 28) (v := .int i3) C hX (hM.at 0 rfl) rfl hin_X9_move_RX9 3 (by decide) lk_X9_move_f125 (fun _ h9 => h9) rfl dX9_move_5 ?_
  refine k_topi (y := (nI d)) (hd0) ?_
  refine lv_iconst (v := nI 1) C.x C.b dX9_move_8 (by decide) ?_
  refine lv_isub C.x C.b dX9_move_9 ?_
  refine lv_i2l (v := ((nI d) - (nI 1)).toInt64) C.x C.b dX9_move_10 rfl ?_
  refine k_calli (va_runS (As := [.long a.toInt64, .long 0, .long (((nI d) - (nI 1)).toInt64)]) (rest := [.ref h]) C.1 (kX9_isIn l G B0 f a.toInt64 0 ((nI d - nI 1).toInt64)) (va_cwS 3 C.ts gX9_move_X9_isIn rfl rfl rfl (hdX9_move_X9_isIn) ⟨Nat.le_of_ble_eq_true rfl, Nat.le_of_ble_eq_true rfl⟩) (k_preS C hX) rfl rfl hl.1 rfl (lv_room (Nat.le_of_ble_eq_true rfl)) dX9_move_11 ⟨Nat.le_of_ble_eq_true rfl, Nat.le_of_ble_eq_true rfl⟩) hX (fun r11 f11 H locs hp11 hX => ?_)
  obtain ⟨hr11, hf11⟩ := hp11
  rw [hf11] at hX
  refine k_topi (y := (kbI ((0 : Int64) ≤ a.toInt64 ∧ a.toInt64 ≤ (nI d - nI 1).toInt64))) hr11 ?_
  refine k_topi (y := (kbI (mIn a d))) (kbI_c (m_in (by omega))) ?_
  refine lv_if_ne (tgt := 21) C.x C.b dX9_move_14 (by decide) (fun c_14 => ?_) (fun c_14 => ?_)
  rotate_left
  · exact absurd (hv) (kbI_0 c_14)
  refine lv_iload_n C.x C.b dX9_move_21 rfl (lv_at hl 2 rfl) ?_
  refine lv_iload_n C.x C.b dX9_move_22 rfl (lv_at hl 3 rfl) ?_
  refine lv_iload C.x C.b dX9_move_23 (lv_at hl 4 rfl) ?_
  refine k_calli (va_runS (As := [.int b, .int c9, .int e9]) (rest := [.ref h]) C.1 (kX9_isDisk l G B0 f b c9 e9) (va_cwS 3 C.ts gX9_move_X9_isDisk rfl rfl rfl (hdX9_move_X9_isDisk) ⟨Nat.le_of_ble_eq_true rfl, Nat.le_of_ble_eq_true rfl⟩) (k_preS C hX) rfl rfl hl.1 rfl (lv_room (Nat.le_of_ble_eq_true rfl)) dX9_move_25 ⟨Nat.le_of_ble_eq_true rfl, Nat.le_of_ble_eq_true rfl⟩) hX (fun r25 f25 H locs hp25 hX => ?_)
  obtain ⟨hr25, hf25⟩ := hp25
  rw [hf25] at hX
  refine k_topi (y := (kbI (mDisk b c9 e9))) hr25 ?_
  refine lv_if_ne (tgt := 35) C.x C.b dX9_move_28 (by decide) (fun c_28 => ?_) (fun c_28 => ?_)
  · exact absurd (kbI_1 c_28) (hw)
  refine lv_iconst (v := nI 2) C.x C.b dX9_move_31 (by decide) ?_
  refine lv_goto (tgt := 36) C.x C.b dX9_move_32 (by decide) ?_
  refine k_put (X := RX9) (T := TX9) (N := 28) (ty := .int) (v := .int (nI 2)) C hX (hM.at 0 rfl) rfl hin_X9_move_RX9 tyX9_ok nmX9 27 (by decide) lk_X9_move_f80 (fun _ h9 => h9) rfl (by decide +kernel) rfl rfl (Nat.le_of_ble_eq_true rfl) dX9_move_36 (fun H locs hX => ?_)
  obtain ⟨g1, hX, hM, hO⟩ := kX.wr hX hM hO 0 rfl (List.mem_of_getElem? (i := 0) rfl)
  have hM : kCs g1 (mC G h q i0 i1 i3 i7 i18 i22 i23 (nI 2) j16 j17 a2 a4 a5 a6 b8 b9 b10 a11 a12 a13 a14 b15 b19 b20 b21 a24 a25 a26) := hM
  refine lv_aload_n C.x C.b dX9_move_39 rfl (lv_at hl 0 rfl) ?_
  refine k_get (X := RX9) (T := TX9) (N := 28) (v := .int (nI 2)) C hX (hM.at 0 rfl) rfl hin_X9_move_RX9 27 (by decide) lk_X9_move_f80 (fun _ h9 => h9) rfl dX9_move_40 ?_
  refine lv_if_le (tgt := 48) C.x C.b dX9_move_43 (by decide) (fun c_43 => ?_) (fun c_43 => ?_)
  · exact absurd c_43 (by decide)
  refine lv_iconst (v := nI 0) C.x C.b dX9_move_46 (by decide) ?_
  exact k_iret C hX hr hlocks hQ (by omega) (by omega) (⟨rfl, hM, hO⟩) dX9_move_47

theorem lk_X9_move_f26 : Cond.fieldLink RX9 26 "KoebehallModel" "radii" "[I" ∈ wsX9_move := by decide +kernel
theorem lk_X9_move_f20 : Cond.fieldLink RX9 20 "KoebehallModel" "middleX" "[I" ∈ wsX9_move := by decide +kernel
theorem lk_X9_move_f23 : Cond.fieldLink RX9 23 "KoebehallModel" "middleY" "[I" ∈ wsX9_move := by decide +kernel
abbrev rmX9_move : Room := { frames := 2, cells := 0, slots := 0, locals := 47 }
set_option maxHeartbeats 4000000 in
set_option maxRecDepth 100000 in
/-- X9_move -/
theorem kX9_move (l : Launch) (G : kG) (B0 : Nat) (f : kH) (h : Nat) (q : Nat → Nat) (i0 i1 i3 i7 i18 i22 i23 i27 : Int32) (j16 j17 : Int64) (a2 : Nat → Int32) (a4 : Nat → Int32) (a5 : Nat → Int32) (a6 : Nat → Int32) (b8 : Nat → Int64) (b9 : Nat → Int64) (b10 : Nat → Int64) (a11 : Nat → Int32) (a12 : Nat → Int32) (a13 : Nat → Int32) (a14 : Nat → Int32) (b15 : Nat → Int64) (b19 : Nat → Int64) (b20 : Nat → Int64) (b21 : Nat → Int64) (a24 : Nat → Int32) (a25 : Nat → Int32) (a26 : Nat → Int32) (t : Nat) (b c9 e9 : Int32) (d : Nat) (hM : kCs f (mC G h q i0 i1 i3 i7 i18 i22 i23 i27 j16 j17 a2 a4 a5 a6 b8 b9 b10 a11 a12 a13 a14 b15 b19 b20 b21 a24 a25 a26)) (hd0 : i3 = nI d) (hd9 : d ≤ 16) (ht : t < d) (hw : mDisk b c9 e9) : Met l yX9_move wsX9_move (rmX9_move) (kP G B0 f [.ref h, .int (nI t), .int b, .int c9, .int e9]) (kQi G B0 (fun r f1 => r = a6 t ∧ kCs f1 (mC G h q i0 i1 i3 i7 i18 i22 i23 (nI 0) j16 j17 a2 (upd a4 t b) (upd a5 t c9) (upd a6 t e9) b8 b9 b10 a11 a12 a13 a14 b15 b19 b20 b21 a24 a25 a26) ∧ kOff (mAs h q) f f1)) 0 0 (kAb B0) := by
  refine kMet (cc := cX9_move) (maxL := 6) (ret := (some .int)) (by decide) rfl (Nat.le_of_ble_eq_true rfl) ?_
  intro p e s m args below meth c H locs Q ls C hX hl hr hlocks hnm hQ
  have hO : kOff (mAs h q) f f := kOff.rf
  have hl : lv_has ls 6 [(0, .ref h), (1, .int (nI t)), (2, .int b), (3, .int c9), (4, .int e9)] := hl
  refine lv_aload_n C.x C.b dX9_move_0 rfl (lv_at hl 0 rfl) ?_
  refine lv_iload_n C.x C.b dX9_move_1 rfl (lv_at hl 1 rfl) ?_
  refine lv_i2l (v := (nI t).toInt64) C.x C.b dX9_move_2 rfl ?_
  refine lv_lconst (v := 0) C.x C.b dX9_move_3 (by decide) ?_
  refine lv_aload_n C.x C.b dX9_move_4 rfl (lv_at hl 0 rfl) ?_
  refine k_get (X := RX9) (T := TX9) (N := 28) (v := .int i3) C hX (hM.at 0 rfl) rfl hin_X9_move_RX9 3 (by decide) lk_X9_move_f125 (fun _ h9 => h9) rfl dX9_move_5 ?_
  refine k_topi (y := (nI d)) (hd0) ?_
  refine lv_iconst (v := nI 1) C.x C.b dX9_move_8 (by decide) ?_
  refine lv_isub C.x C.b dX9_move_9 ?_
  refine lv_i2l (v := ((nI d) - (nI 1)).toInt64) C.x C.b dX9_move_10 rfl ?_
  refine k_calli (va_runS (As := [.long ((nI t).toInt64), .long 0, .long (((nI d) - (nI 1)).toInt64)]) (rest := [.ref h]) C.1 (kX9_isIn l G B0 f ((nI t).toInt64) 0 ((nI d - nI 1).toInt64)) (va_cwS 3 C.ts gX9_move_X9_isIn rfl rfl rfl (hdX9_move_X9_isIn) ⟨Nat.le_of_ble_eq_true rfl, Nat.le_of_ble_eq_true rfl⟩) (k_preS C hX) rfl rfl hl.1 rfl (lv_room (Nat.le_of_ble_eq_true rfl)) dX9_move_11 ⟨Nat.le_of_ble_eq_true rfl, Nat.le_of_ble_eq_true rfl⟩) hX (fun r11 f11 H locs hp11 hX => ?_)
  obtain ⟨hr11, hf11⟩ := hp11
  rw [hf11] at hX
  refine k_topi (y := (kbI ((0 : Int64) ≤ (nI t).toInt64 ∧ (nI t).toInt64 ≤ (nI d - nI 1).toInt64))) hr11 ?_
  refine k_topi (y := (kbI (mIn (nI t) d))) (kbI_c (m_in (by omega))) ?_
  refine lv_if_ne (tgt := 21) C.x C.b dX9_move_14 (by decide) (fun c_14 => ?_) (fun c_14 => ?_)
  rotate_left
  · exact absurd ((mIn_nI (by omega)).mpr ht) (kbI_0 c_14)
  refine lv_iload_n C.x C.b dX9_move_21 rfl (lv_at hl 2 rfl) ?_
  refine lv_iload_n C.x C.b dX9_move_22 rfl (lv_at hl 3 rfl) ?_
  refine lv_iload C.x C.b dX9_move_23 (lv_at hl 4 rfl) ?_
  refine k_calli (va_runS (As := [.int b, .int c9, .int e9]) (rest := [.ref h]) C.1 (kX9_isDisk l G B0 f b c9 e9) (va_cwS 3 C.ts gX9_move_X9_isDisk rfl rfl rfl (hdX9_move_X9_isDisk) ⟨Nat.le_of_ble_eq_true rfl, Nat.le_of_ble_eq_true rfl⟩) (k_preS C hX) rfl rfl hl.1 rfl (lv_room (Nat.le_of_ble_eq_true rfl)) dX9_move_25 ⟨Nat.le_of_ble_eq_true rfl, Nat.le_of_ble_eq_true rfl⟩) hX (fun r25 f25 H locs hp25 hX => ?_)
  obtain ⟨hr25, hf25⟩ := hp25
  rw [hf25] at hX
  refine k_topi (y := (kbI (mDisk b c9 e9))) hr25 ?_
  refine lv_if_ne (tgt := 35) C.x C.b dX9_move_28 (by decide) (fun c_28 => ?_) (fun c_28 => ?_)
  rotate_left
  · exact absurd (hw) (kbI_0 c_28)
  refine lv_iconst (v := nI 0) C.x C.b dX9_move_35 (by decide) ?_
  refine k_put (X := RX9) (T := TX9) (N := 28) (ty := .int) (v := .int (nI 0)) C hX (hM.at 0 rfl) rfl hin_X9_move_RX9 tyX9_ok nmX9 27 (by decide) lk_X9_move_f80 (fun _ h9 => h9) rfl (by decide +kernel) rfl rfl (Nat.le_of_ble_eq_true rfl) dX9_move_36 (fun H locs hX => ?_)
  obtain ⟨g1, hX, hM, hO⟩ := kX.wr hX hM hO 0 rfl (List.mem_of_getElem? (i := 0) rfl)
  have hM : kCs g1 (mC G h q i0 i1 i3 i7 i18 i22 i23 (nI 0) j16 j17 a2 a4 a5 a6 b8 b9 b10 a11 a12 a13 a14 b15 b19 b20 b21 a24 a25 a26) := hM
  refine lv_aload_n C.x C.b dX9_move_39 rfl (lv_at hl 0 rfl) ?_
  refine k_get (X := RX9) (T := TX9) (N := 28) (v := .int (nI 0)) C hX (hM.at 0 rfl) rfl hin_X9_move_RX9 27 (by decide) lk_X9_move_f80 (fun _ h9 => h9) rfl dX9_move_40 ?_
  refine lv_if_le (tgt := 48) C.x C.b dX9_move_43 (by decide) (fun c_43 => ?_) (fun c_43 => ?_)
  rotate_left
  · exact absurd c_43 (by decide)
  refine lv_aload_n C.x C.b dX9_move_48 rfl (lv_at hl 0 rfl) ?_
  refine k_get (X := RX9) (T := TX9) (N := 28) (v := .ref (q 6)) C hX (hM.at 0 rfl) rfl hin_X9_move_RX9 6 (by decide) lk_X9_move_f26 (fun _ h9 => h9) rfl dX9_move_49 ?_
  refine lv_iload_n C.x C.b dX9_move_52 rfl (lv_at hl 1 rfl) ?_
  refine k_iald C hX (hM.at 4 rfl) (vp_in_nI (by omega) (by omega)) dX9_move_53 ?_
  refine k_topi (y := a6 t) (by rw [nI_clamp (by omega)]) ?_
  refine lv_istore (lv' := [(5, .int (a6 t)), (0, .ref h), (1, .int (nI t)), (2, .int b), (3, .int c9), (4, .int e9)]) C.x C.b dX9_move_54 hl (by decide) rfl (fun ls hl => ?_)
  refine lv_aload_n C.x C.b dX9_move_56 rfl (lv_at hl 1 rfl) ?_
  refine k_get (X := RX9) (T := TX9) (N := 28) (v := .ref (q 4)) C hX (hM.at 0 rfl) rfl hin_X9_move_RX9 4 (by decide) lk_X9_move_f20 (fun _ h9 => h9) rfl dX9_move_57 ?_
  refine lv_iload_n C.x C.b dX9_move_60 rfl (lv_at hl 2 rfl) ?_
  refine lv_iload_n C.x C.b dX9_move_61 rfl (lv_at hl 3 rfl) ?_
  refine k_iast C hX (hM.at 2 rfl) (vp_in_nI (by omega) (by omega)) dX9_move_62 (fun H locs hX => ?_)
  rw [nI_clamp (by omega)] at hX
  obtain ⟨g2, hX, hM, hO⟩ := kX.wr hX hM hO 2 rfl (List.mem_of_getElem? (i := 2) rfl)
  have hM : kCs g2 (mC G h q i0 i1 i3 i7 i18 i22 i23 (nI 0) j16 j17 a2 (upd a4 t b) a5 a6 b8 b9 b10 a11 a12 a13 a14 b15 b19 b20 b21 a24 a25 a26) := hM
  refine lv_aload_n C.x C.b dX9_move_63 rfl (lv_at hl 1 rfl) ?_
  refine k_get (X := RX9) (T := TX9) (N := 28) (v := .ref (q 5)) C hX (hM.at 0 rfl) rfl hin_X9_move_RX9 5 (by decide) lk_X9_move_f23 (fun _ h9 => h9) rfl dX9_move_64 ?_
  refine lv_iload_n C.x C.b dX9_move_67 rfl (lv_at hl 2 rfl) ?_
  refine lv_iload_n C.x C.b dX9_move_68 rfl (lv_at hl 4 rfl) ?_
  refine k_iast C hX (hM.at 3 rfl) (vp_in_nI (by omega) (by omega)) dX9_move_69 (fun H locs hX => ?_)
  rw [nI_clamp (by omega)] at hX
  obtain ⟨g3, hX, hM, hO⟩ := kX.wr hX hM hO 3 rfl (List.mem_of_getElem? (i := 3) rfl)
  have hM : kCs g3 (mC G h q i0 i1 i3 i7 i18 i22 i23 (nI 0) j16 j17 a2 (upd a4 t b) (upd a5 t c9) a6 b8 b9 b10 a11 a12 a13 a14 b15 b19 b20 b21 a24 a25 a26) := hM
  refine lv_aload_n C.x C.b dX9_move_70 rfl (lv_at hl 1 rfl) ?_
  refine k_get (X := RX9) (T := TX9) (N := 28) (v := .ref (q 6)) C hX (hM.at 0 rfl) rfl hin_X9_move_RX9 6 (by decide) lk_X9_move_f26 (fun _ h9 => h9) rfl dX9_move_71 ?_
  refine lv_iload_n C.x C.b dX9_move_74 rfl (lv_at hl 2 rfl) ?_
  refine lv_iload C.x C.b dX9_move_75 (lv_at hl 5 rfl) ?_
  refine k_iast C hX (hM.at 4 rfl) (vp_in_nI (by omega) (by omega)) dX9_move_77 (fun H locs hX => ?_)
  rw [nI_clamp (by omega)] at hX
  obtain ⟨g4, hX, hM, hO⟩ := kX.wr hX hM hO 4 rfl (List.mem_of_getElem? (i := 4) rfl)
  have hM : kCs g4 (mC G h q i0 i1 i3 i7 i18 i22 i23 (nI 0) j16 j17 a2 (upd a4 t b) (upd a5 t c9) (upd a6 t e9) b8 b9 b10 a11 a12 a13 a14 b15 b19 b20 b21 a24 a25 a26) := hM
  refine lv_iload C.x C.b dX9_move_78 (lv_at hl 0 rfl) ?_
  exact k_iret C hX hr hlocks hQ (by omega) (by omega) (⟨rfl, hM, hO⟩) dX9_move_80

theorem lk_X9_lies_f20 : Cond.fieldLink RX9 20 "KoebehallModel" "middleX" "[I" ∈ wsX9_lies := by decide +kernel
theorem hin_X9_lies_RX9 : ∀ w ∈ u_ws RX9 TX9 28, w ∈ wsX9_lies := by decide +kernel
theorem lk_X9_lies_f23 : Cond.fieldLink RX9 23 "KoebehallModel" "middleY" "[I" ∈ wsX9_lies := by decide +kernel
theorem lk_X9_lies_f26 : Cond.fieldLink RX9 26 "KoebehallModel" "radii" "[I" ∈ wsX9_lies := by decide +kernel
abbrev rmX9_lies : Room := { frames := 0, cells := 0, slots := 0, locals := 0 }
set_option maxHeartbeats 4000000 in
set_option maxRecDepth 100000 in
/-- X9_lies -/
theorem kX9_lies (l : Launch) (G : kG) (B0 : Nat) (f : kH) (h : Nat) (q : Nat → Nat) (i0 i1 i3 i7 i18 i22 i23 i27 : Int32) (j16 j17 : Int64) (a2 : Nat → Int32) (a4 : Nat → Int32) (a5 : Nat → Int32) (a6 : Nat → Int32) (b8 : Nat → Int64) (b9 : Nat → Int64) (b10 : Nat → Int64) (a11 : Nat → Int32) (a12 : Nat → Int32) (a13 : Nat → Int32) (a14 : Nat → Int32) (b15 : Nat → Int64) (b19 : Nat → Int64) (b20 : Nat → Int64) (b21 : Nat → Int64) (a24 : Nat → Int32) (a25 : Nat → Int32) (a26 : Nat → Int32) (t1 t2 : Nat) (hM : kCs f (mC G h q i0 i1 i3 i7 i18 i22 i23 i27 j16 j17 a2 a4 a5 a6 b8 b9 b10 a11 a12 a13 a14 b15 b19 b20 b21 a24 a25 a26)) (h1 : t1 < 16) (h2 : t2 < 16) : Met l yX9_lies wsX9_lies (rmX9_lies) (kP G B0 f [.ref h, .int (nI t1), .int (nI t2)]) (kQi G B0 (fun r f1 => r = mLies a4 a5 a6 t1 t2 ∧ f1 = f)) 0 0 (kAb B0) := by
  refine kMet (cc := cX9_lies) (maxL := 11) (ret := (some .int)) (by decide) rfl (Nat.le_of_ble_eq_true rfl) ?_
  intro p e s m args below meth c H locs Q ls C hX hl hr hlocks hnm hQ
  have hl : lv_has ls 11 [(0, .ref h), (1, .int (nI t1)), (2, .int (nI t2))] := hl
  refine lv_aload_n C.x C.b dX9_lies_0 rfl (lv_at hl 0 rfl) ?_
  refine k_get (X := RX9) (T := TX9) (N := 28) (v := .ref (q 4)) C hX (hM.at 0 rfl) rfl hin_X9_lies_RX9 4 (by decide) lk_X9_lies_f20 (fun _ h9 => h9) rfl dX9_lies_1 ?_
  refine lv_iload_n C.x C.b dX9_lies_4 rfl (lv_at hl 1 rfl) ?_
  refine k_iald C hX (hM.at 2 rfl) (vp_in_nI (by omega) (by omega)) dX9_lies_5 ?_
  refine k_topi (y := a4 t1) (by rw [nI_clamp (by omega)]) ?_
  refine lv_i2l (v := (a4 t1).toInt64) C.x C.b dX9_lies_6 rfl ?_
  refine lv_aload_n C.x C.b dX9_lies_7 rfl (lv_at hl 0 rfl) ?_
  refine k_get (X := RX9) (T := TX9) (N := 28) (v := .ref (q 4)) C hX (hM.at 0 rfl) rfl hin_X9_lies_RX9 4 (by decide) lk_X9_lies_f20 (fun _ h9 => h9) rfl dX9_lies_8 ?_
  refine lv_iload_n C.x C.b dX9_lies_11 rfl (lv_at hl 2 rfl) ?_
  refine k_iald C hX (hM.at 2 rfl) (vp_in_nI (by omega) (by omega)) dX9_lies_12 ?_
  refine k_topi (y := a4 t2) (by rw [nI_clamp (by omega)]) ?_
  refine lv_i2l (v := (a4 t2).toInt64) C.x C.b dX9_lies_13 rfl ?_
  refine lv_lsub C.x C.b dX9_lies_14 ?_
  refine lv_lstore_n (lv' := [(3, .long (((a4 t1).toInt64) - ((a4 t2).toInt64))), (0, .ref h), (1, .int (nI t1)), (2, .int (nI t2))]) C.x C.b dX9_lies_15 rfl hl (by decide) rfl (fun ls hl => ?_)
  refine lv_aload_n C.x C.b dX9_lies_16 rfl (lv_at hl 1 rfl) ?_
  refine k_get (X := RX9) (T := TX9) (N := 28) (v := .ref (q 5)) C hX (hM.at 0 rfl) rfl hin_X9_lies_RX9 5 (by decide) lk_X9_lies_f23 (fun _ h9 => h9) rfl dX9_lies_17 ?_
  refine lv_iload_n C.x C.b dX9_lies_20 rfl (lv_at hl 2 rfl) ?_
  refine k_iald C hX (hM.at 3 rfl) (vp_in_nI (by omega) (by omega)) dX9_lies_21 ?_
  refine k_topi (y := a5 t1) (by rw [nI_clamp (by omega)]) ?_
  refine lv_i2l (v := (a5 t1).toInt64) C.x C.b dX9_lies_22 rfl ?_
  refine lv_aload_n C.x C.b dX9_lies_23 rfl (lv_at hl 1 rfl) ?_
  refine k_get (X := RX9) (T := TX9) (N := 28) (v := .ref (q 5)) C hX (hM.at 0 rfl) rfl hin_X9_lies_RX9 5 (by decide) lk_X9_lies_f23 (fun _ h9 => h9) rfl dX9_lies_24 ?_
  refine lv_iload_n C.x C.b dX9_lies_27 rfl (lv_at hl 3 rfl) ?_
  refine k_iald C hX (hM.at 3 rfl) (vp_in_nI (by omega) (by omega)) dX9_lies_28 ?_
  refine k_topi (y := a5 t2) (by rw [nI_clamp (by omega)]) ?_
  refine lv_i2l (v := (a5 t2).toInt64) C.x C.b dX9_lies_29 rfl ?_
  refine lv_lsub C.x C.b dX9_lies_30 ?_
  refine lv_lstore (lv' := [(5, .long (((a5 t1).toInt64) - ((a5 t2).toInt64))), (3, .long (((a4 t1).toInt64) - ((a4 t2).toInt64))), (0, .ref h), (1, .int (nI t1)), (2, .int (nI t2))]) C.x C.b dX9_lies_31 hl (by decide) rfl (fun ls hl => ?_)
  refine lv_aload_n C.x C.b dX9_lies_33 rfl (lv_at hl 2 rfl) ?_
  refine k_get (X := RX9) (T := TX9) (N := 28) (v := .ref (q 6)) C hX (hM.at 0 rfl) rfl hin_X9_lies_RX9 6 (by decide) lk_X9_lies_f26 (fun _ h9 => h9) rfl dX9_lies_34 ?_
  refine lv_iload_n C.x C.b dX9_lies_37 rfl (lv_at hl 3 rfl) ?_
  refine k_iald C hX (hM.at 4 rfl) (vp_in_nI (by omega) (by omega)) dX9_lies_38 ?_
  refine k_topi (y := a6 t1) (by rw [nI_clamp (by omega)]) ?_
  refine lv_i2l (v := (a6 t1).toInt64) C.x C.b dX9_lies_39 rfl ?_
  refine lv_aload_n C.x C.b dX9_lies_40 rfl (lv_at hl 2 rfl) ?_
  refine k_get (X := RX9) (T := TX9) (N := 28) (v := .ref (q 6)) C hX (hM.at 0 rfl) rfl hin_X9_lies_RX9 6 (by decide) lk_X9_lies_f26 (fun _ h9 => h9) rfl dX9_lies_41 ?_
  refine lv_iload_n C.x C.b dX9_lies_44 rfl (lv_at hl 4 rfl) ?_
  refine k_iald C hX (hM.at 4 rfl) (vp_in_nI (by omega) (by omega)) dX9_lies_45 ?_
  refine k_topi (y := a6 t2) (by rw [nI_clamp (by omega)]) ?_
  refine lv_i2l (v := (a6 t2).toInt64) C.x C.b dX9_lies_46 rfl ?_
  refine lv_ladd C.x C.b dX9_lies_47 ?_
  refine lv_lstore (lv' := [(7, .long (((a6 t1).toInt64) + ((a6 t2).toInt64))), (5, .long (((a5 t1).toInt64) - ((a5 t2).toInt64))), (3, .long (((a4 t1).toInt64) - ((a4 t2).toInt64))), (0, .ref h), (1, .int (nI t1)), (2, .int (nI t2))]) C.x C.b dX9_lies_48 hl (by decide) rfl (fun ls hl => ?_)
  refine lv_lload_n C.x C.b dX9_lies_50 rfl (lv_at hl 2 rfl) ?_
  refine lv_lload_n C.x C.b dX9_lies_51 rfl (lv_at hl 2 rfl) ?_
  refine lv_lmul C.x C.b dX9_lies_52 ?_
  refine lv_lload C.x C.b dX9_lies_53 (lv_at hl 1 rfl) ?_
  refine lv_lload C.x C.b dX9_lies_55 (lv_at hl 1 rfl) ?_
  refine lv_lmul C.x C.b dX9_lies_57 ?_
  refine lv_ladd C.x C.b dX9_lies_58 ?_
  refine lv_lstore (lv' := [(9, .long (((((a4 t1).toInt64) - ((a4 t2).toInt64)) * (((a4 t1).toInt64) - ((a4 t2).toInt64))) + ((((a5 t1).toInt64) - ((a5 t2).toInt64)) * (((a5 t1).toInt64) - ((a5 t2).toInt64))))), (7, .long (((a6 t1).toInt64) + ((a6 t2).toInt64))), (5, .long (((a5 t1).toInt64) - ((a5 t2).toInt64))), (3, .long (((a4 t1).toInt64) - ((a4 t2).toInt64))), (0, .ref h), (1, .int (nI t1)), (2, .int (nI t2))]) C.x C.b dX9_lies_59 hl (by decide) rfl (fun ls hl => ?_)
  refine lv_lload C.x C.b dX9_lies_61 (lv_at hl 0 rfl) ?_
  refine lv_lload C.x C.b dX9_lies_63 (lv_at hl 1 rfl) ?_
  refine lv_lload C.x C.b dX9_lies_65 (lv_at hl 1 rfl) ?_
  refine lv_lmul C.x C.b dX9_lies_67 ?_
  refine k_lcmp_le (tgt := 76) C.x C.b dX9_lies_68 dX9_lies_69 (by decide) (fun c_69 => ?_) (fun c_69 => ?_)
  · skip
    refine lv_lload C.x C.b dX9_lies_76 (lv_at hl 0 rfl) ?_
    refine lv_lload C.x C.b dX9_lies_78 (lv_at hl 1 rfl) ?_
    refine lv_lload C.x C.b dX9_lies_80 (lv_at hl 1 rfl) ?_
    refine lv_lmul C.x C.b dX9_lies_82 ?_
    refine k_lcmp_ne (tgt := 91) C.x C.b dX9_lies_83 dX9_lies_84 (by decide) (fun c_84 => ?_) (fun c_84 => ?_)
    · skip
      refine lv_iconst (v := nI 2) C.x C.b dX9_lies_91 (by decide) ?_
      exact k_iret C hX hr hlocks hQ (by omega) (by omega) (by refine ⟨?_, rfl⟩; first | (rw [mLies, kLie, if_pos c_69]) | (rw [mLies, kLie, if_neg c_69, if_pos c_84]) | (rw [mLies, kLie, if_neg c_69, if_neg c_84])) dX9_lies_92
    · skip
      refine lv_iconst (v := nI 1) C.x C.b dX9_lies_87 (by decide) ?_
      refine lv_goto (tgt := 92) C.x C.b dX9_lies_88 (by decide) ?_
      exact k_iret C hX hr hlocks hQ (by omega) (by omega) (by refine ⟨?_, rfl⟩; first | (rw [mLies, kLie, if_pos c_69]) | (rw [mLies, kLie, if_neg c_69, if_pos c_84]) | (rw [mLies, kLie, if_neg c_69, if_neg c_84])) dX9_lies_92
  · skip
    refine lv_iconst (v := nI 0) C.x C.b dX9_lies_72 (by decide) ?_
    refine lv_goto (tgt := 92) C.x C.b dX9_lies_73 (by decide) ?_
    exact k_iret C hX hr hlocks hQ (by omega) (by omega) (by refine ⟨?_, rfl⟩; first | (rw [mLies, kLie, if_pos c_69]) | (rw [mLies, kLie, if_neg c_69, if_pos c_84]) | (rw [mLies, kLie, if_neg c_69, if_neg c_84])) dX9_lies_92

theorem lk_X9_lie_f125 : Cond.fieldLink RX9 125 "KoebehallModel" "disks" "I" ∈ wsX9_lie := by decide +kernel
theorem hin_X9_lie_RX9 : ∀ w ∈ u_ws RX9 TX9 28, w ∈ wsX9_lie := by decide +kernel
theorem hdX9_lie_X9_isIn : yX9_isIn.cls ≠ "java/lang/invoke/MethodHandle" ∧ yX9_isIn.cls ≠ "java/lang/invoke/VarHandle" ∧ (parseMethodDescriptor yX9_isIn.desc).map (fun d => d.parameters.length) = some 3 := by decide +kernel
theorem lk_X9_lie_f80 : Cond.fieldLink RX9 80 "KoebehallModel" "thrown" "I" ∈ wsX9_lie := by decide +kernel
abbrev rmX9_lie_b1 : Room := { frames := 1, cells := 0, slots := 0, locals := 25 }
set_option maxHeartbeats 4000000 in
set_option maxRecDepth 100000 in
/-- X9_lie_b1 -/
theorem kX9_lie_b1 (l : Launch) (G : kG) (B0 : Nat) (f : kH) (h : Nat) (q : Nat → Nat) (i0 i1 i3 i7 i18 i22 i23 i27 : Int32) (j16 j17 : Int64) (a2 : Nat → Int32) (a4 : Nat → Int32) (a5 : Nat → Int32) (a6 : Nat → Int32) (b8 : Nat → Int64) (b9 : Nat → Int64) (b10 : Nat → Int64) (a11 : Nat → Int32) (a12 : Nat → Int32) (a13 : Nat → Int32) (a14 : Nat → Int32) (b15 : Nat → Int64) (b19 : Nat → Int64) (b20 : Nat → Int64) (b21 : Nat → Int64) (a24 : Nat → Int32) (a25 : Nat → Int32) (a26 : Nat → Int32) (a b : Int32) (d : Nat) (hM : kCs f (mC G h q i0 i1 i3 i7 i18 i22 i23 i27 j16 j17 a2 a4 a5 a6 b8 b9 b10 a11 a12 a13 a14 b15 b19 b20 b21 a24 a25 a26)) (hd0 : i3 = nI d) (hd9 : d ≤ 16) (hv : ¬ (mIn a d ∧ mIn b d)) : Met l yX9_lie wsX9_lie (rmX9_lie_b1) (kP G B0 f [.ref h, .int a, .int b]) (kQi G B0 (fun r f1 => r = nI 0 ∧ kCs f1 (mC G h q i0 i1 i3 i7 i18 i22 i23 (nI 1) j16 j17 a2 a4 a5 a6 b8 b9 b10 a11 a12 a13 a14 b15 b19 b20 b21 a24 a25 a26) ∧ kOff (mAs h q) f f1)) 0 0 (kAb B0) := by
  refine kMet (cc := cX9_lie) (maxL := 3) (ret := (some .int)) (by decide) rfl (Nat.le_of_ble_eq_true rfl) ?_
  intro p e s m args below meth c H locs Q ls C hX hl hr hlocks hnm hQ
  have hO : kOff (mAs h q) f f := kOff.rf
  have hl : lv_has ls 3 [(0, .ref h), (1, .int a), (2, .int b)] := hl
  refine lv_aload_n C.x C.b dX9_lie_0 rfl (lv_at hl 0 rfl) ?_
  refine lv_iload_n C.x C.b dX9_lie_1 rfl (lv_at hl 1 rfl) ?_
  refine lv_i2l (v := a.toInt64) C.x C.b dX9_lie_2 rfl ?_
  refine lv_lconst (v := 0) C.x C.b dX9_lie_3 (by decide) ?_
  refine lv_aload_n C.x C.b dX9_lie_4 rfl (lv_at hl 0 rfl) ?_
  refine k_get (X := RX9) (T := TX9) (N := 28) (v := .int i3) C hX (hM.at 0 rfl) rfl hin_X9_lie_RX9 3 (by decide) lk_X9_lie_f125 (fun _ h9 => h9) rfl dX9_lie_5 ?_
  refine k_topi (y := (nI d)) (hd0) ?_
  refine lv_iconst (v := nI 1) C.x C.b dX9_lie_8 (by decide) ?_
  refine lv_isub C.x C.b dX9_lie_9 ?_
  refine lv_i2l (v := ((nI d) - (nI 1)).toInt64) C.x C.b dX9_lie_10 rfl ?_
  refine k_calli (va_runS (As := [.long a.toInt64, .long 0, .long (((nI d) - (nI 1)).toInt64)]) (rest := [.ref h]) C.1 (kX9_isIn l G B0 f a.toInt64 0 ((nI d - nI 1).toInt64)) (va_cwS 3 C.ts gX9_lie_X9_isIn rfl rfl rfl (hdX9_lie_X9_isIn) ⟨Nat.le_of_ble_eq_true rfl, Nat.le_of_ble_eq_true rfl⟩) (k_preS C hX) rfl rfl hl.1 rfl (lv_room (Nat.le_of_ble_eq_true rfl)) dX9_lie_11 ⟨Nat.le_of_ble_eq_true rfl, Nat.le_of_ble_eq_true rfl⟩) hX (fun r11 f11 H locs hp11 hX => ?_)
  obtain ⟨hr11, hf11⟩ := hp11
  rw [hf11] at hX
  refine k_topi (y := (kbI ((0 : Int64) ≤ a.toInt64 ∧ a.toInt64 ≤ (nI d - nI 1).toInt64))) hr11 ?_
  refine k_topi (y := (kbI (mIn a d))) (kbI_c (m_in (by omega))) ?_
  refine lv_if_eq (tgt := 33) C.x C.b dX9_lie_14 (by decide) (fun c_14 => ?_) (fun c_14 => ?_)
  · skip
    have c_14 := kbI_0 c_14
    refine lv_iconst (v := nI 1) C.x C.b dX9_lie_33 (by decide) ?_
    refine lv_goto (tgt := 47) C.x C.b dX9_lie_34 (by decide) ?_
    refine k_put (X := RX9) (T := TX9) (N := 28) (ty := .int) (v := .int (nI 1)) C hX (hM.at 0 rfl) rfl hin_X9_lie_RX9 tyX9_ok nmX9 27 (by decide) lk_X9_lie_f80 (fun _ h9 => h9) rfl (by decide +kernel) rfl rfl (Nat.le_of_ble_eq_true rfl) dX9_lie_47 (fun H locs hX => ?_)
    obtain ⟨g1, hX, hM, hO⟩ := kX.wr hX hM hO 0 rfl (List.mem_of_getElem? (i := 0) rfl)
    have hM : kCs g1 (mC G h q i0 i1 i3 i7 i18 i22 i23 (nI 1) j16 j17 a2 a4 a5 a6 b8 b9 b10 a11 a12 a13 a14 b15 b19 b20 b21 a24 a25 a26) := hM
    refine lv_aload_n C.x C.b dX9_lie_50 rfl (lv_at hl 0 rfl) ?_
    refine k_get (X := RX9) (T := TX9) (N := 28) (v := .int (nI 1)) C hX (hM.at 0 rfl) rfl hin_X9_lie_RX9 27 (by decide) lk_X9_lie_f80 (fun _ h9 => h9) rfl dX9_lie_51 ?_
    refine lv_if_le (tgt := 61) C.x C.b dX9_lie_54 (by decide) (fun c_54 => ?_) (fun c_54 => ?_)
    · exact absurd c_54 (by decide)
    refine lv_iconst (v := nI 0) C.x C.b dX9_lie_57 (by decide) ?_
    refine lv_goto (tgt := 67) C.x C.b dX9_lie_58 (by decide) ?_
    exact k_iret C hX hr hlocks hQ (by omega) (by omega) (⟨rfl, hM, hO⟩) dX9_lie_67
  · skip
    have c_14 := kbI_1 c_14
    refine lv_iload_n C.x C.b dX9_lie_17 rfl (lv_at hl 2 rfl) ?_
    refine lv_i2l (v := b.toInt64) C.x C.b dX9_lie_18 rfl ?_
    refine lv_lconst (v := 0) C.x C.b dX9_lie_19 (by decide) ?_
    refine lv_aload_n C.x C.b dX9_lie_20 rfl (lv_at hl 0 rfl) ?_
    refine k_get (X := RX9) (T := TX9) (N := 28) (v := .int i3) C hX (hM.at 0 rfl) rfl hin_X9_lie_RX9 3 (by decide) lk_X9_lie_f125 (fun _ h9 => h9) rfl dX9_lie_21 ?_
    refine k_topi (y := (nI d)) (hd0) ?_
    refine lv_iconst (v := nI 1) C.x C.b dX9_lie_24 (by decide) ?_
    refine lv_isub C.x C.b dX9_lie_25 ?_
    refine lv_i2l (v := ((nI d) - (nI 1)).toInt64) C.x C.b dX9_lie_26 rfl ?_
    refine k_calli (va_runS (As := [.long b.toInt64, .long 0, .long (((nI d) - (nI 1)).toInt64)]) (rest := [.ref h]) C.1 (kX9_isIn l G B0 f b.toInt64 0 ((nI d - nI 1).toInt64)) (va_cwS 3 C.ts gX9_lie_X9_isIn rfl rfl rfl (hdX9_lie_X9_isIn) ⟨Nat.le_of_ble_eq_true rfl, Nat.le_of_ble_eq_true rfl⟩) (k_preS C hX) rfl rfl hl.1 rfl (lv_room (Nat.le_of_ble_eq_true rfl)) dX9_lie_27 ⟨Nat.le_of_ble_eq_true rfl, Nat.le_of_ble_eq_true rfl⟩) hX (fun r27 f27 H locs hp27 hX => ?_)
    obtain ⟨hr27, hf27⟩ := hp27
    rw [hf27] at hX
    refine k_topi (y := (kbI ((0 : Int64) ≤ b.toInt64 ∧ b.toInt64 ≤ (nI d - nI 1).toInt64))) hr27 ?_
    refine k_topi (y := (kbI (mIn b d))) (kbI_c (m_in (by omega))) ?_
    refine lv_if_ne (tgt := 37) C.x C.b dX9_lie_30 (by decide) (fun c_30 => ?_) (fun c_30 => ?_)
    · skip
      have c_30 := kbI_1 c_30
      exact absurd ⟨c_14, c_30⟩ hv
    · skip
      have c_30 := kbI_0 c_30
      refine lv_iconst (v := nI 1) C.x C.b dX9_lie_33 (by decide) ?_
      refine lv_goto (tgt := 47) C.x C.b dX9_lie_34 (by decide) ?_
      refine k_put (X := RX9) (T := TX9) (N := 28) (ty := .int) (v := .int (nI 1)) C hX (hM.at 0 rfl) rfl hin_X9_lie_RX9 tyX9_ok nmX9 27 (by decide) lk_X9_lie_f80 (fun _ h9 => h9) rfl (by decide +kernel) rfl rfl (Nat.le_of_ble_eq_true rfl) dX9_lie_47 (fun H locs hX => ?_)
      obtain ⟨g2, hX, hM, hO⟩ := kX.wr hX hM hO 0 rfl (List.mem_of_getElem? (i := 0) rfl)
      have hM : kCs g2 (mC G h q i0 i1 i3 i7 i18 i22 i23 (nI 1) j16 j17 a2 a4 a5 a6 b8 b9 b10 a11 a12 a13 a14 b15 b19 b20 b21 a24 a25 a26) := hM
      refine lv_aload_n C.x C.b dX9_lie_50 rfl (lv_at hl 0 rfl) ?_
      refine k_get (X := RX9) (T := TX9) (N := 28) (v := .int (nI 1)) C hX (hM.at 0 rfl) rfl hin_X9_lie_RX9 27 (by decide) lk_X9_lie_f80 (fun _ h9 => h9) rfl dX9_lie_51 ?_
      refine lv_if_le (tgt := 61) C.x C.b dX9_lie_54 (by decide) (fun c_54 => ?_) (fun c_54 => ?_)
      · exact absurd c_54 (by decide)
      refine lv_iconst (v := nI 0) C.x C.b dX9_lie_57 (by decide) ?_
      refine lv_goto (tgt := 67) C.x C.b dX9_lie_58 (by decide) ?_
      exact k_iret C hX hr hlocks hQ (by omega) (by omega) (⟨rfl, hM, hO⟩) dX9_lie_67

abbrev rmX9_lie_b2 : Room := { frames := 1, cells := 0, slots := 0, locals := 25 }
set_option maxHeartbeats 4000000 in
set_option maxRecDepth 100000 in
/-- X9_lie_b2 -/
theorem kX9_lie_b2 (l : Launch) (G : kG) (B0 : Nat) (f : kH) (h : Nat) (q : Nat → Nat) (i0 i1 i3 i7 i18 i22 i23 i27 : Int32) (j16 j17 : Int64) (a2 : Nat → Int32) (a4 : Nat → Int32) (a5 : Nat → Int32) (a6 : Nat → Int32) (b8 : Nat → Int64) (b9 : Nat → Int64) (b10 : Nat → Int64) (a11 : Nat → Int32) (a12 : Nat → Int32) (a13 : Nat → Int32) (a14 : Nat → Int32) (b15 : Nat → Int64) (b19 : Nat → Int64) (b20 : Nat → Int64) (b21 : Nat → Int64) (a24 : Nat → Int32) (a25 : Nat → Int32) (a26 : Nat → Int32) (a b : Int32) (d : Nat) (hM : kCs f (mC G h q i0 i1 i3 i7 i18 i22 i23 i27 j16 j17 a2 a4 a5 a6 b8 b9 b10 a11 a12 a13 a14 b15 b19 b20 b21 a24 a25 a26)) (hd0 : i3 = nI d) (hd9 : d ≤ 16) (hv : mIn a d ∧ mIn b d) (hab : a = b) : Met l yX9_lie wsX9_lie (rmX9_lie_b2) (kP G B0 f [.ref h, .int a, .int b]) (kQi G B0 (fun r f1 => r = nI 0 ∧ kCs f1 (mC G h q i0 i1 i3 i7 i18 i22 i23 (nI 2) j16 j17 a2 a4 a5 a6 b8 b9 b10 a11 a12 a13 a14 b15 b19 b20 b21 a24 a25 a26) ∧ kOff (mAs h q) f f1)) 0 0 (kAb B0) := by
  refine kMet (cc := cX9_lie) (maxL := 3) (ret := (some .int)) (by decide) rfl (Nat.le_of_ble_eq_true rfl) ?_
  intro p e s m args below meth c H locs Q ls C hX hl hr hlocks hnm hQ
  have hO : kOff (mAs h q) f f := kOff.rf
  have hl : lv_has ls 3 [(0, .ref h), (1, .int a), (2, .int b)] := hl
  refine lv_aload_n C.x C.b dX9_lie_0 rfl (lv_at hl 0 rfl) ?_
  refine lv_iload_n C.x C.b dX9_lie_1 rfl (lv_at hl 1 rfl) ?_
  refine lv_i2l (v := a.toInt64) C.x C.b dX9_lie_2 rfl ?_
  refine lv_lconst (v := 0) C.x C.b dX9_lie_3 (by decide) ?_
  refine lv_aload_n C.x C.b dX9_lie_4 rfl (lv_at hl 0 rfl) ?_
  refine k_get (X := RX9) (T := TX9) (N := 28) (v := .int i3) C hX (hM.at 0 rfl) rfl hin_X9_lie_RX9 3 (by decide) lk_X9_lie_f125 (fun _ h9 => h9) rfl dX9_lie_5 ?_
  refine k_topi (y := (nI d)) (hd0) ?_
  refine lv_iconst (v := nI 1) C.x C.b dX9_lie_8 (by decide) ?_
  refine lv_isub C.x C.b dX9_lie_9 ?_
  refine lv_i2l (v := ((nI d) - (nI 1)).toInt64) C.x C.b dX9_lie_10 rfl ?_
  refine k_calli (va_runS (As := [.long a.toInt64, .long 0, .long (((nI d) - (nI 1)).toInt64)]) (rest := [.ref h]) C.1 (kX9_isIn l G B0 f a.toInt64 0 ((nI d - nI 1).toInt64)) (va_cwS 3 C.ts gX9_lie_X9_isIn rfl rfl rfl (hdX9_lie_X9_isIn) ⟨Nat.le_of_ble_eq_true rfl, Nat.le_of_ble_eq_true rfl⟩) (k_preS C hX) rfl rfl hl.1 rfl (lv_room (Nat.le_of_ble_eq_true rfl)) dX9_lie_11 ⟨Nat.le_of_ble_eq_true rfl, Nat.le_of_ble_eq_true rfl⟩) hX (fun r11 f11 H locs hp11 hX => ?_)
  obtain ⟨hr11, hf11⟩ := hp11
  rw [hf11] at hX
  refine k_topi (y := (kbI ((0 : Int64) ≤ a.toInt64 ∧ a.toInt64 ≤ (nI d - nI 1).toInt64))) hr11 ?_
  refine k_topi (y := (kbI (mIn a d))) (kbI_c (m_in (by omega))) ?_
  refine lv_if_eq (tgt := 33) C.x C.b dX9_lie_14 (by decide) (fun c_14 => ?_) (fun c_14 => ?_)
  · exact absurd (hv.1) (kbI_0 c_14)
  refine lv_iload_n C.x C.b dX9_lie_17 rfl (lv_at hl 2 rfl) ?_
  refine lv_i2l (v := b.toInt64) C.x C.b dX9_lie_18 rfl ?_
  refine lv_lconst (v := 0) C.x C.b dX9_lie_19 (by decide) ?_
  refine lv_aload_n C.x C.b dX9_lie_20 rfl (lv_at hl 0 rfl) ?_
  refine k_get (X := RX9) (T := TX9) (N := 28) (v := .int i3) C hX (hM.at 0 rfl) rfl hin_X9_lie_RX9 3 (by decide) lk_X9_lie_f125 (fun _ h9 => h9) rfl dX9_lie_21 ?_
  refine k_topi (y := (nI d)) (hd0) ?_
  refine lv_iconst (v := nI 1) C.x C.b dX9_lie_24 (by decide) ?_
  refine lv_isub C.x C.b dX9_lie_25 ?_
  refine lv_i2l (v := ((nI d) - (nI 1)).toInt64) C.x C.b dX9_lie_26 rfl ?_
  refine k_calli (va_runS (As := [.long b.toInt64, .long 0, .long (((nI d) - (nI 1)).toInt64)]) (rest := [.ref h]) C.1 (kX9_isIn l G B0 f b.toInt64 0 ((nI d - nI 1).toInt64)) (va_cwS 3 C.ts gX9_lie_X9_isIn rfl rfl rfl (hdX9_lie_X9_isIn) ⟨Nat.le_of_ble_eq_true rfl, Nat.le_of_ble_eq_true rfl⟩) (k_preS C hX) rfl rfl hl.1 rfl (lv_room (Nat.le_of_ble_eq_true rfl)) dX9_lie_27 ⟨Nat.le_of_ble_eq_true rfl, Nat.le_of_ble_eq_true rfl⟩) hX (fun r27 f27 H locs hp27 hX => ?_)
  obtain ⟨hr27, hf27⟩ := hp27
  rw [hf27] at hX
  refine k_topi (y := (kbI ((0 : Int64) ≤ b.toInt64 ∧ b.toInt64 ≤ (nI d - nI 1).toInt64))) hr27 ?_
  refine k_topi (y := (kbI (mIn b d))) (kbI_c (m_in (by omega))) ?_
  refine lv_if_ne (tgt := 37) C.x C.b dX9_lie_30 (by decide) (fun c_30 => ?_) (fun c_30 => ?_)
  rotate_left
  · exact absurd (hv.2) (kbI_0 c_30)
  refine lv_iload_n C.x C.b dX9_lie_37 rfl (lv_at hl 1 rfl) ?_
  refine lv_iload_n C.x C.b dX9_lie_38 rfl (lv_at hl 2 rfl) ?_
  refine lv_icmp_ne (tgt := 46) C.x C.b dX9_lie_39 (by decide) (fun c_39 => ?_) (fun c_39 => ?_)
  · skip
    exact absurd hab c_39
  refine lv_iconst (v := nI 2) C.x C.b dX9_lie_42 (by decide) ?_
  refine lv_goto (tgt := 47) C.x C.b dX9_lie_43 (by decide) ?_
  refine k_put (X := RX9) (T := TX9) (N := 28) (ty := .int) (v := .int (nI 2)) C hX (hM.at 0 rfl) rfl hin_X9_lie_RX9 tyX9_ok nmX9 27 (by decide) lk_X9_lie_f80 (fun _ h9 => h9) rfl (by decide +kernel) rfl rfl (Nat.le_of_ble_eq_true rfl) dX9_lie_47 (fun H locs hX => ?_)
  obtain ⟨g1, hX, hM, hO⟩ := kX.wr hX hM hO 0 rfl (List.mem_of_getElem? (i := 0) rfl)
  have hM : kCs g1 (mC G h q i0 i1 i3 i7 i18 i22 i23 (nI 2) j16 j17 a2 a4 a5 a6 b8 b9 b10 a11 a12 a13 a14 b15 b19 b20 b21 a24 a25 a26) := hM
  refine lv_aload_n C.x C.b dX9_lie_50 rfl (lv_at hl 0 rfl) ?_
  refine k_get (X := RX9) (T := TX9) (N := 28) (v := .int (nI 2)) C hX (hM.at 0 rfl) rfl hin_X9_lie_RX9 27 (by decide) lk_X9_lie_f80 (fun _ h9 => h9) rfl dX9_lie_51 ?_
  refine lv_if_le (tgt := 61) C.x C.b dX9_lie_54 (by decide) (fun c_54 => ?_) (fun c_54 => ?_)
  · exact absurd c_54 (by decide)
  refine lv_iconst (v := nI 0) C.x C.b dX9_lie_57 (by decide) ?_
  refine lv_goto (tgt := 67) C.x C.b dX9_lie_58 (by decide) ?_
  exact k_iret C hX hr hlocks hQ (by omega) (by omega) (⟨rfl, hM, hO⟩) dX9_lie_67

theorem hdX9_lie_X9_lies : yX9_lies.cls ≠ "java/lang/invoke/MethodHandle" ∧ yX9_lies.cls ≠ "java/lang/invoke/VarHandle" ∧ (parseMethodDescriptor yX9_lies.desc).map (fun d => d.parameters.length) = some 2 := by decide +kernel
abbrev rmX9_lie : Room := { frames := 1, cells := 0, slots := 0, locals := 30 }
set_option maxHeartbeats 4000000 in
set_option maxRecDepth 100000 in
/-- X9_lie -/
theorem kX9_lie (l : Launch) (G : kG) (B0 : Nat) (f : kH) (h : Nat) (q : Nat → Nat) (i0 i1 i3 i7 i18 i22 i23 i27 : Int32) (j16 j17 : Int64) (a2 : Nat → Int32) (a4 : Nat → Int32) (a5 : Nat → Int32) (a6 : Nat → Int32) (b8 : Nat → Int64) (b9 : Nat → Int64) (b10 : Nat → Int64) (a11 : Nat → Int32) (a12 : Nat → Int32) (a13 : Nat → Int32) (a14 : Nat → Int32) (b15 : Nat → Int64) (b19 : Nat → Int64) (b20 : Nat → Int64) (b21 : Nat → Int64) (a24 : Nat → Int32) (a25 : Nat → Int32) (a26 : Nat → Int32) (t1 t2 d : Nat) (hM : kCs f (mC G h q i0 i1 i3 i7 i18 i22 i23 i27 j16 j17 a2 a4 a5 a6 b8 b9 b10 a11 a12 a13 a14 b15 b19 b20 b21 a24 a25 a26)) (hd0 : i3 = nI d) (hd9 : d ≤ 16) (h1 : t1 < d) (h2 : t2 < d) (h12 : t1 ≠ t2) : Met l yX9_lie wsX9_lie (rmX9_lie) (kP G B0 f [.ref h, .int (nI t1), .int (nI t2)]) (kQi G B0 (fun r f1 => r = mLies a4 a5 a6 t1 t2 ∧ kCs f1 (mC G h q i0 i1 i3 i7 i18 i22 i23 (nI 0) j16 j17 a2 a4 a5 a6 b8 b9 b10 a11 a12 a13 a14 b15 b19 b20 b21 a24 a25 a26) ∧ kOff (mAs h q) f f1)) 0 0 (kAb B0) := by
  refine kMet (cc := cX9_lie) (maxL := 3) (ret := (some .int)) (by decide) rfl (Nat.le_of_ble_eq_true rfl) ?_
  intro p e s m args below meth c H locs Q ls C hX hl hr hlocks hnm hQ
  have hO : kOff (mAs h q) f f := kOff.rf
  have hl : lv_has ls 3 [(0, .ref h), (1, .int (nI t1)), (2, .int (nI t2))] := hl
  refine lv_aload_n C.x C.b dX9_lie_0 rfl (lv_at hl 0 rfl) ?_
  refine lv_iload_n C.x C.b dX9_lie_1 rfl (lv_at hl 1 rfl) ?_
  refine lv_i2l (v := (nI t1).toInt64) C.x C.b dX9_lie_2 rfl ?_
  refine lv_lconst (v := 0) C.x C.b dX9_lie_3 (by decide) ?_
  refine lv_aload_n C.x C.b dX9_lie_4 rfl (lv_at hl 0 rfl) ?_
  refine k_get (X := RX9) (T := TX9) (N := 28) (v := .int i3) C hX (hM.at 0 rfl) rfl hin_X9_lie_RX9 3 (by decide) lk_X9_lie_f125 (fun _ h9 => h9) rfl dX9_lie_5 ?_
  refine k_topi (y := (nI d)) (hd0) ?_
  refine lv_iconst (v := nI 1) C.x C.b dX9_lie_8 (by decide) ?_
  refine lv_isub C.x C.b dX9_lie_9 ?_
  refine lv_i2l (v := ((nI d) - (nI 1)).toInt64) C.x C.b dX9_lie_10 rfl ?_
  refine k_calli (va_runS (As := [.long ((nI t1).toInt64), .long 0, .long (((nI d) - (nI 1)).toInt64)]) (rest := [.ref h]) C.1 (kX9_isIn l G B0 f ((nI t1).toInt64) 0 ((nI d - nI 1).toInt64)) (va_cwS 3 C.ts gX9_lie_X9_isIn rfl rfl rfl (hdX9_lie_X9_isIn) ⟨Nat.le_of_ble_eq_true rfl, Nat.le_of_ble_eq_true rfl⟩) (k_preS C hX) rfl rfl hl.1 rfl (lv_room (Nat.le_of_ble_eq_true rfl)) dX9_lie_11 ⟨Nat.le_of_ble_eq_true rfl, Nat.le_of_ble_eq_true rfl⟩) hX (fun r11 f11 H locs hp11 hX => ?_)
  obtain ⟨hr11, hf11⟩ := hp11
  rw [hf11] at hX
  refine k_topi (y := (kbI ((0 : Int64) ≤ (nI t1).toInt64 ∧ (nI t1).toInt64 ≤ (nI d - nI 1).toInt64))) hr11 ?_
  refine k_topi (y := (kbI (mIn (nI t1) d))) (kbI_c (m_in (by omega))) ?_
  refine lv_if_eq (tgt := 33) C.x C.b dX9_lie_14 (by decide) (fun c_14 => ?_) (fun c_14 => ?_)
  · exact absurd ((mIn_nI (by omega)).mpr h1) (kbI_0 c_14)
  refine lv_iload_n C.x C.b dX9_lie_17 rfl (lv_at hl 2 rfl) ?_
  refine lv_i2l (v := (nI t2).toInt64) C.x C.b dX9_lie_18 rfl ?_
  refine lv_lconst (v := 0) C.x C.b dX9_lie_19 (by decide) ?_
  refine lv_aload_n C.x C.b dX9_lie_20 rfl (lv_at hl 0 rfl) ?_
  refine k_get (X := RX9) (T := TX9) (N := 28) (v := .int i3) C hX (hM.at 0 rfl) rfl hin_X9_lie_RX9 3 (by decide) lk_X9_lie_f125 (fun _ h9 => h9) rfl dX9_lie_21 ?_
  refine k_topi (y := (nI d)) (hd0) ?_
  refine lv_iconst (v := nI 1) C.x C.b dX9_lie_24 (by decide) ?_
  refine lv_isub C.x C.b dX9_lie_25 ?_
  refine lv_i2l (v := ((nI d) - (nI 1)).toInt64) C.x C.b dX9_lie_26 rfl ?_
  refine k_calli (va_runS (As := [.long ((nI t2).toInt64), .long 0, .long (((nI d) - (nI 1)).toInt64)]) (rest := [.ref h]) C.1 (kX9_isIn l G B0 f ((nI t2).toInt64) 0 ((nI d - nI 1).toInt64)) (va_cwS 3 C.ts gX9_lie_X9_isIn rfl rfl rfl (hdX9_lie_X9_isIn) ⟨Nat.le_of_ble_eq_true rfl, Nat.le_of_ble_eq_true rfl⟩) (k_preS C hX) rfl rfl hl.1 rfl (lv_room (Nat.le_of_ble_eq_true rfl)) dX9_lie_27 ⟨Nat.le_of_ble_eq_true rfl, Nat.le_of_ble_eq_true rfl⟩) hX (fun r27 f27 H locs hp27 hX => ?_)
  obtain ⟨hr27, hf27⟩ := hp27
  rw [hf27] at hX
  refine k_topi (y := (kbI ((0 : Int64) ≤ (nI t2).toInt64 ∧ (nI t2).toInt64 ≤ (nI d - nI 1).toInt64))) hr27 ?_
  refine k_topi (y := (kbI (mIn (nI t2) d))) (kbI_c (m_in (by omega))) ?_
  refine lv_if_ne (tgt := 37) C.x C.b dX9_lie_30 (by decide) (fun c_30 => ?_) (fun c_30 => ?_)
  rotate_left
  · exact absurd ((mIn_nI (by omega)).mpr h2) (kbI_0 c_30)
  refine lv_iload_n C.x C.b dX9_lie_37 rfl (lv_at hl 1 rfl) ?_
  refine lv_iload_n C.x C.b dX9_lie_38 rfl (lv_at hl 2 rfl) ?_
  refine lv_icmp_ne (tgt := 46) C.x C.b dX9_lie_39 (by decide) (fun c_39 => ?_) (fun c_39 => ?_)
  rotate_left
  · skip
    have c_39 : t1 = t2 := (nI_eq (by omega) (by omega)).mp c_39
    omega
  have c_39 : ¬ (t1 = t2) := fun h9 => c_39 ((nI_eq (by omega) (by omega)).mpr h9)
  refine lv_iconst (v := nI 0) C.x C.b dX9_lie_46 (by decide) ?_
  refine k_put (X := RX9) (T := TX9) (N := 28) (ty := .int) (v := .int (nI 0)) C hX (hM.at 0 rfl) rfl hin_X9_lie_RX9 tyX9_ok nmX9 27 (by decide) lk_X9_lie_f80 (fun _ h9 => h9) rfl (by decide +kernel) rfl rfl (Nat.le_of_ble_eq_true rfl) dX9_lie_47 (fun H locs hX => ?_)
  obtain ⟨g1, hX, hM, hO⟩ := kX.wr hX hM hO 0 rfl (List.mem_of_getElem? (i := 0) rfl)
  have hM : kCs g1 (mC G h q i0 i1 i3 i7 i18 i22 i23 (nI 0) j16 j17 a2 a4 a5 a6 b8 b9 b10 a11 a12 a13 a14 b15 b19 b20 b21 a24 a25 a26) := hM
  refine lv_aload_n C.x C.b dX9_lie_50 rfl (lv_at hl 0 rfl) ?_
  refine k_get (X := RX9) (T := TX9) (N := 28) (v := .int (nI 0)) C hX (hM.at 0 rfl) rfl hin_X9_lie_RX9 27 (by decide) lk_X9_lie_f80 (fun _ h9 => h9) rfl dX9_lie_51 ?_
  refine lv_if_le (tgt := 61) C.x C.b dX9_lie_54 (by decide) (fun c_54 => ?_) (fun c_54 => ?_)
  rotate_left
  · exact absurd c_54 (by decide)
  refine lv_aload_n C.x C.b dX9_lie_61 rfl (lv_at hl 0 rfl) ?_
  refine lv_iload_n C.x C.b dX9_lie_62 rfl (lv_at hl 1 rfl) ?_
  refine lv_iload_n C.x C.b dX9_lie_63 rfl (lv_at hl 2 rfl) ?_
  refine k_calli (va_runV (As := [.int (nI t1), .int (nI t2)]) (rest := []) C.1 (kX9_lies l G B0 g1 h q i0 i1 i3 i7 i18 i22 i23 (nI 0) j16 j17 a2 a4 a5 a6 b8 b9 b10 a11 a12 a13 a14 b15 b19 b20 b21 a24 a25 a26 t1 t2 hM (by omega) (by omega)) (cwV 2 C.ts gX9_lie_X9_lies rfl rfl rfl ⟨rfl, hdX9_lie_X9_lies⟩ ⟨Nat.le_of_ble_eq_true rfl, Nat.le_of_ble_eq_true rfl⟩) (k_preV C hX (hM.at 0 rfl) rfl) rfl rfl hl.1 rfl (lv_room (Nat.le_of_ble_eq_true rfl)) dX9_lie_64 ⟨Nat.le_of_ble_eq_true rfl, Nat.le_of_ble_eq_true rfl⟩) hX (fun r64 f64 H locs hp64 hX => ?_)
  obtain ⟨hr64, hf64⟩ := hp64
  rw [hf64] at hX
  refine k_topi (y := (mLies a4 a5 a6 t1 t2)) hr64 ?_
  exact k_iret C hX hr hlocks hQ (by omega) (by omega) (⟨rfl, hM, hO⟩) dX9_lie_67

theorem lk_X9_pairs_c109 : Cond.constantLong RX9 109 (2) ∈ wsX9_pairs := by decide +kernel
theorem hdX9_pairs_X9_isIn : yX9_isIn.cls ≠ "java/lang/invoke/MethodHandle" ∧ yX9_isIn.cls ≠ "java/lang/invoke/VarHandle" ∧ (parseMethodDescriptor yX9_isIn.desc).map (fun d => d.parameters.length) = some 3 := by decide +kernel
theorem lk_X9_pairs_f80 : Cond.fieldLink RX9 80 "KoebehallModel" "thrown" "I" ∈ wsX9_pairs := by decide +kernel
theorem hin_X9_pairs_RX9 : ∀ w ∈ u_ws RX9 TX9 28, w ∈ wsX9_pairs := by decide +kernel
theorem lk_X9_pairs_f125 : Cond.fieldLink RX9 125 "KoebehallModel" "disks" "I" ∈ wsX9_pairs := by decide +kernel
abbrev rmX9_pairs_b1 : Room := { frames := 1, cells := 0, slots := 0, locals := 25 }
set_option maxHeartbeats 4000000 in
set_option maxRecDepth 100000 in
/-- X9_pairs_b1 -/
theorem kX9_pairs_b1 (l : Launch) (G : kG) (B0 : Nat) (f : kH) (h : Nat) (q : Nat → Nat) (i0 i1 i3 i7 i18 i22 i23 i27 : Int32) (j16 j17 : Int64) (a2 : Nat → Int32) (a4 : Nat → Int32) (a5 : Nat → Int32) (a6 : Nat → Int32) (b8 : Nat → Int64) (b9 : Nat → Int64) (b10 : Nat → Int64) (a11 : Nat → Int32) (a12 : Nat → Int32) (a13 : Nat → Int32) (a14 : Nat → Int32) (b15 : Nat → Int64) (b19 : Nat → Int64) (b20 : Nat → Int64) (b21 : Nat → Int64) (a24 : Nat → Int32) (a25 : Nat → Int32) (a26 : Nat → Int32) (a : Int32) (hM : kCs f (mC G h q i0 i1 i3 i7 i18 i22 i23 i27 j16 j17 a2 a4 a5 a6 b8 b9 b10 a11 a12 a13 a14 b15 b19 b20 b21 a24 a25 a26)) (hv : ¬ mRg a (0) 2) : Met l yX9_pairs wsX9_pairs (rmX9_pairs_b1) (kP G B0 f [.ref h, .int a]) (kQi G B0 (fun r f1 => r = nI 0 ∧ kCs f1 (mC G h q i0 i1 i3 i7 i18 i22 i23 (nI 1) j16 j17 a2 a4 a5 a6 b8 b9 b10 a11 a12 a13 a14 b15 b19 b20 b21 a24 a25 a26) ∧ kOff (mAs h q) f f1)) 0 0 (kAb B0) := by
  refine kMet (cc := cX9_pairs) (maxL := 5) (ret := (some .int)) (by decide) rfl (Nat.le_of_ble_eq_true rfl) ?_
  intro p e s m args below meth c H locs Q ls C hX hl hr hlocks hnm hQ
  have hO : kOff (mAs h q) f f := kOff.rf
  have hl : lv_has ls 5 [(0, .ref h), (1, .int a)] := hl
  refine lv_aload_n C.x C.b dX9_pairs_0 rfl (lv_at hl 0 rfl) ?_
  refine lv_iload_n C.x C.b dX9_pairs_1 rfl (lv_at hl 1 rfl) ?_
  refine lv_i2l (v := a.toInt64) C.x C.b dX9_pairs_2 rfl ?_
  refine lv_lconst (v := 0) C.x C.b dX9_pairs_3 (by decide) ?_
  refine lv_ldc2 (v := 2) C.x C.b C.ow (C.ts _ lk_X9_pairs_c109) dX9_pairs_4 ?_
  refine k_calli (va_runS (As := [.long a.toInt64, .long 0, .long 2]) (rest := [.ref h]) C.1 (kX9_isIn l G B0 f a.toInt64 0 2) (va_cwS 3 C.ts gX9_pairs_X9_isIn rfl rfl rfl (hdX9_pairs_X9_isIn) ⟨Nat.le_of_ble_eq_true rfl, Nat.le_of_ble_eq_true rfl⟩) (k_preS C hX) rfl rfl hl.1 rfl (lv_room (Nat.le_of_ble_eq_true rfl)) dX9_pairs_7 ⟨Nat.le_of_ble_eq_true rfl, Nat.le_of_ble_eq_true rfl⟩) hX (fun r7 f7 H locs hp7 hX => ?_)
  obtain ⟨hr7, hf7⟩ := hp7
  rw [hf7] at hX
  refine k_topi (y := (kbI ((0 : Int64) ≤ a.toInt64 ∧ a.toInt64 ≤ 2))) hr7 ?_
  refine k_topi (y := (kbI (mRg a (0) 2))) (kbI_c (m_rg (by decide) (by decide))) ?_
  refine lv_if_eq (tgt := 17) C.x C.b dX9_pairs_10 (by decide) (fun c_10 => ?_) (fun c_10 => ?_)
  rotate_left
  · exact absurd (kbI_1 c_10) (hv)
  refine lv_iconst (v := nI 1) C.x C.b dX9_pairs_17 (by decide) ?_
  refine k_put (X := RX9) (T := TX9) (N := 28) (ty := .int) (v := .int (nI 1)) C hX (hM.at 0 rfl) rfl hin_X9_pairs_RX9 tyX9_ok nmX9 27 (by decide) lk_X9_pairs_f80 (fun _ h9 => h9) rfl (by decide +kernel) rfl rfl (Nat.le_of_ble_eq_true rfl) dX9_pairs_18 (fun H locs hX => ?_)
  obtain ⟨g1, hX, hM, hO⟩ := kX.wr hX hM hO 0 rfl (List.mem_of_getElem? (i := 0) rfl)
  have hM : kCs g1 (mC G h q i0 i1 i3 i7 i18 i22 i23 (nI 1) j16 j17 a2 a4 a5 a6 b8 b9 b10 a11 a12 a13 a14 b15 b19 b20 b21 a24 a25 a26) := hM
  refine lv_iconst (v := nI 0) C.x C.b dX9_pairs_21 (by decide) ?_
  refine lv_istore_n (lv' := [(2, .int (nI 0)), (0, .ref h), (1, .int a)]) C.x C.b dX9_pairs_22 rfl hl (by decide) rfl (fun ls hl => ?_)
  refine lv_iconst (v := nI 0) C.x C.b dX9_pairs_23 (by decide) ?_
  refine lv_istore_n (lv' := [(3, .int (nI 0)), (2, .int (nI 0)), (0, .ref h), (1, .int a)]) C.x C.b dX9_pairs_24 rfl hl (by decide) rfl (fun ls hl => ?_)
  refine lv_iload_n C.x C.b dX9_pairs_25 rfl (lv_at hl 0 rfl) ?_
  refine lv_aload_n C.x C.b dX9_pairs_26 rfl (lv_at hl 2 rfl) ?_
  refine k_get (X := RX9) (T := TX9) (N := 28) (v := .int i3) C hX (hM.at 0 rfl) rfl hin_X9_pairs_RX9 3 (by decide) lk_X9_pairs_f125 (fun _ h9 => h9) rfl dX9_pairs_27 ?_
  refine lv_icmp_ge (tgt := 80) C.x C.b dX9_pairs_30 (by decide) (fun c_30 => ?_) (fun c_30 => ?_)
  · skip
    refine lv_iload_n C.x C.b dX9_pairs_80 rfl (lv_at hl 1 rfl) ?_
    exact k_iret C hX hr hlocks hQ (by omega) (by omega) (⟨rfl, hM, hO⟩) dX9_pairs_81
  · skip
    refine lv_aload_n C.x C.b dX9_pairs_33 rfl (lv_at hl 2 rfl) ?_
    refine k_get (X := RX9) (T := TX9) (N := 28) (v := .int (nI 1)) C hX (hM.at 0 rfl) rfl hin_X9_pairs_RX9 27 (by decide) lk_X9_pairs_f80 (fun _ h9 => h9) rfl dX9_pairs_34 ?_
    refine lv_if_ne (tgt := 80) C.x C.b dX9_pairs_37 (by decide) (fun c_37 => ?_) (fun c_37 => ?_)
    rotate_left
    · exact absurd c_37 (by decide)
    refine lv_iload_n C.x C.b dX9_pairs_80 rfl (lv_at hl 1 rfl) ?_
    exact k_iret C hX hr hlocks hQ (by omega) (by omega) (⟨rfl, hM, hO⟩) dX9_pairs_81

theorem hdX9_pairs_X9_lies : yX9_lies.cls ≠ "java/lang/invoke/MethodHandle" ∧ yX9_lies.cls ≠ "java/lang/invoke/VarHandle" ∧ (parseMethodDescriptor yX9_lies.desc).map (fun d => d.parameters.length) = some 2 := by decide +kernel
abbrev rmX9_pairs : Room := { frames := 1, cells := 0, slots := 0, locals := 30 }
set_option maxHeartbeats 4000000 in
set_option maxRecDepth 100000 in
/-- X9_pairs -/
theorem kX9_pairs (l : Launch) (G : kG) (B0 : Nat) (f : kH) (h : Nat) (q : Nat → Nat) (i0 i1 i3 i7 i18 i22 i23 i27 : Int32) (j16 j17 : Int64) (a2 : Nat → Int32) (a4 : Nat → Int32) (a5 : Nat → Int32) (a6 : Nat → Int32) (b8 : Nat → Int64) (b9 : Nat → Int64) (b10 : Nat → Int64) (a11 : Nat → Int32) (a12 : Nat → Int32) (a13 : Nat → Int32) (a14 : Nat → Int32) (b15 : Nat → Int64) (b19 : Nat → Int64) (b20 : Nat → Int64) (b21 : Nat → Int64) (a24 : Nat → Int32) (a25 : Nat → Int32) (a26 : Nat → Int32) (a : Int32) (d : Nat) (hM : kCs f (mC G h q i0 i1 i3 i7 i18 i22 i23 i27 j16 j17 a2 a4 a5 a6 b8 b9 b10 a11 a12 a13 a14 b15 b19 b20 b21 a24 a25 a26)) (hd0 : i3 = nI d) (hd9 : d ≤ 16) (hv : mRg a (0) 2) : Met l yX9_pairs wsX9_pairs (rmX9_pairs) (kP G B0 f [.ref h, .int a]) (kQi G B0 (fun r f1 => r = nI (kCnt2 (fun x9 y9 => mLies a4 a5 a6 x9 y9 = a) d) ∧ kCs f1 (mC G h q i0 i1 i3 i7 i18 i22 i23 (nI 0) j16 j17 a2 a4 a5 a6 b8 b9 b10 a11 a12 a13 a14 b15 b19 b20 b21 a24 a25 a26) ∧ kOff (mAs h q) f f1)) 0 0 (kAb B0) := by
  refine kMet (cc := cX9_pairs) (maxL := 5) (ret := (some .int)) (by decide) rfl (Nat.le_of_ble_eq_true rfl) ?_
  intro p e s m args below meth c H locs Q ls C hX hl hr hlocks hnm hQ
  have hO : kOff (mAs h q) f f := kOff.rf
  have hl : lv_has ls 5 [(0, .ref h), (1, .int a)] := hl
  refine lv_aload_n C.x C.b dX9_pairs_0 rfl (lv_at hl 0 rfl) ?_
  refine lv_iload_n C.x C.b dX9_pairs_1 rfl (lv_at hl 1 rfl) ?_
  refine lv_i2l (v := a.toInt64) C.x C.b dX9_pairs_2 rfl ?_
  refine lv_lconst (v := 0) C.x C.b dX9_pairs_3 (by decide) ?_
  refine lv_ldc2 (v := 2) C.x C.b C.ow (C.ts _ lk_X9_pairs_c109) dX9_pairs_4 ?_
  refine k_calli (va_runS (As := [.long a.toInt64, .long 0, .long 2]) (rest := [.ref h]) C.1 (kX9_isIn l G B0 f a.toInt64 0 2) (va_cwS 3 C.ts gX9_pairs_X9_isIn rfl rfl rfl (hdX9_pairs_X9_isIn) ⟨Nat.le_of_ble_eq_true rfl, Nat.le_of_ble_eq_true rfl⟩) (k_preS C hX) rfl rfl hl.1 rfl (lv_room (Nat.le_of_ble_eq_true rfl)) dX9_pairs_7 ⟨Nat.le_of_ble_eq_true rfl, Nat.le_of_ble_eq_true rfl⟩) hX (fun r7 f7 H locs hp7 hX => ?_)
  obtain ⟨hr7, hf7⟩ := hp7
  rw [hf7] at hX
  refine k_topi (y := (kbI ((0 : Int64) ≤ a.toInt64 ∧ a.toInt64 ≤ 2))) hr7 ?_
  refine k_topi (y := (kbI (mRg a (0) 2))) (kbI_c (m_rg (by decide) (by decide))) ?_
  refine lv_if_eq (tgt := 17) C.x C.b dX9_pairs_10 (by decide) (fun c_10 => ?_) (fun c_10 => ?_)
  · exact absurd (hv) (kbI_0 c_10)
  refine lv_iconst (v := nI 0) C.x C.b dX9_pairs_13 (by decide) ?_
  refine lv_goto (tgt := 18) C.x C.b dX9_pairs_14 (by decide) ?_
  refine k_put (X := RX9) (T := TX9) (N := 28) (ty := .int) (v := .int (nI 0)) C hX (hM.at 0 rfl) rfl hin_X9_pairs_RX9 tyX9_ok nmX9 27 (by decide) lk_X9_pairs_f80 (fun _ h9 => h9) rfl (by decide +kernel) rfl rfl (Nat.le_of_ble_eq_true rfl) dX9_pairs_18 (fun H locs hX => ?_)
  obtain ⟨g1, hX, hM, hO⟩ := kX.wr hX hM hO 0 rfl (List.mem_of_getElem? (i := 0) rfl)
  have hM : kCs g1 (mC G h q i0 i1 i3 i7 i18 i22 i23 (nI 0) j16 j17 a2 a4 a5 a6 b8 b9 b10 a11 a12 a13 a14 b15 b19 b20 b21 a24 a25 a26) := hM
  refine lv_iconst (v := nI 0) C.x C.b dX9_pairs_21 (by decide) ?_
  refine lv_istore_n (lv' := [(2, .int (nI 0)), (0, .ref h), (1, .int a)]) C.x C.b dX9_pairs_22 rfl hl (by decide) rfl (fun ls hl => ?_)
  refine lv_iconst (v := nI 0) C.x C.b dX9_pairs_23 (by decide) ?_
  refine lv_istore_n (lv' := [(3, .int (nI 0)), (2, .int (nI 0)), (0, .ref h), (1, .int a)]) C.x C.b dX9_pairs_24 rfl hl (by decide) rfl (fun ls hl => ?_)
  have LOOP25 : ∀ (n : Nat) (u : Nat), (u ≤ d) → (d - u) < n → ∀ (ls : Array Slot), lv_has ls 5 [(2, .int (nI (kCnt2 (fun x9 y9 => mLies a4 a5 a6 x9 y9 = a) u))), (3, .int (nI u)), (0, .ref h), (1, .int a)] → ∀ (H : Heap) (locs : List Loc), kX G B0 s g1 H locs → W p l e (rmX9_pairs) s m args below meth c H locs 0 0 Q (F0 m 25 ls []) := by
    intro n25
    induction n25 with
    | zero => intro u hu hn; exact absurd hn (Nat.not_lt_zero _)
    | succ n25 ih25 =>
      intro u hu hn ls hl H locs hX
      refine lv_iload_n C.x C.b dX9_pairs_25 rfl (lv_at hl 1 rfl) ?_
      refine lv_aload_n C.x C.b dX9_pairs_26 rfl (lv_at hl 2 rfl) ?_
      refine k_get (X := RX9) (T := TX9) (N := 28) (v := .int i3) C hX (hM.at 0 rfl) rfl hin_X9_pairs_RX9 3 (by decide) lk_X9_pairs_f125 (fun _ h9 => h9) rfl dX9_pairs_27 ?_
      refine k_topi (y := (nI d)) (hd0) ?_
      refine lv_icmp_ge (tgt := 80) C.x C.b dX9_pairs_30 (by decide) (fun c_30 => ?_) (fun c_30 => ?_)
      · skip
        have c_30 : d ≤ u := (nI_leI (by omega) (by omega)).mp c_30
        have hu9 : d = u := by omega
        subst hu9
        refine lv_iload_n C.x C.b dX9_pairs_80 rfl (lv_at hl 0 rfl) ?_
        exact k_iret C hX hr hlocks hQ (by omega) (by omega) (⟨rfl, hM, hO⟩) dX9_pairs_81
      · skip
        have c_30 : ¬ (d ≤ u) := fun h9 => c_30 ((nI_leI (by omega) (by omega)).mpr h9)
        refine lv_aload_n C.x C.b dX9_pairs_33 rfl (lv_at hl 2 rfl) ?_
        refine k_get (X := RX9) (T := TX9) (N := 28) (v := .int (nI 0)) C hX (hM.at 0 rfl) rfl hin_X9_pairs_RX9 27 (by decide) lk_X9_pairs_f80 (fun _ h9 => h9) rfl dX9_pairs_34 ?_
        refine lv_if_ne (tgt := 80) C.x C.b dX9_pairs_37 (by decide) (fun c_37 => ?_) (fun c_37 => ?_)
        · exact absurd c_37 (by decide)
        refine lv_iconst (v := nI 0) C.x C.b dX9_pairs_40 (by decide) ?_
        refine lv_istore (lv' := [(4, .int (nI 0)), (2, .int (nI (kCnt2 (fun x9 y9 => mLies a4 a5 a6 x9 y9 = a) u))), (3, .int (nI u)), (0, .ref h), (1, .int a)]) C.x C.b dX9_pairs_41 hl (by decide) rfl (fun ls hl => ?_)
        have LOOP43 : ∀ (n : Nat) (v : Nat), (v ≤ u) → (u - v) < n → ∀ (ls : Array Slot), lv_has ls 5 [(2, .int (nI (kCnt2 (fun x9 y9 => mLies a4 a5 a6 x9 y9 = a) u + kCnt ((fun x9 y9 => mLies a4 a5 a6 x9 y9 = a) u) v))), (4, .int (nI v)), (3, .int (nI u)), (0, .ref h), (1, .int a)] → ∀ (H : Heap) (locs : List Loc), kX G B0 s g1 H locs → W p l e (rmX9_pairs) s m args below meth c H locs 0 0 Q (F0 m 43 ls []) := by
          intro n43
          induction n43 with
          | zero => intro v hv9 hn; exact absurd hn (Nat.not_lt_zero _)
          | succ n43 ih43 =>
            intro v hv9 hn ls hl H locs hX
            refine lv_iload C.x C.b dX9_pairs_43 (lv_at hl 1 rfl) ?_
            refine lv_iload_n C.x C.b dX9_pairs_45 rfl (lv_at hl 2 rfl) ?_
            refine lv_icmp_ge (tgt := 74) C.x C.b dX9_pairs_46 (by decide) (fun c_46 => ?_) (fun c_46 => ?_)
            · skip
              have c_46 : u ≤ v := (nI_leI (by omega) (by omega)).mp c_46
              have hv9 : u = v := by omega
              subst hv9
              refine lv_iinc (v := (nI (u + 1))) (lv' := [(3, .int (nI (u + 1))), (2, .int (nI (kCnt2 (fun x9 y9 => mLies a4 a5 a6 x9 y9 = a) u + kCnt ((fun x9 y9 => mLies a4 a5 a6 x9 y9 = a) u) u))), (4, .int (nI u)), (0, .ref h), (1, .int a)]) C.x C.b dX9_pairs_74 hl (k := 2) rfl (nI_1 _) (by decide) rfl (fun ls hl => ?_)
              refine lv_goto (tgt := 25) C.x C.b dX9_pairs_77 (by decide) ?_
              exact ih25 (u + 1) (by omega) (by omega) ls (lv_sub hl [1, 0, 3, 4] rfl) _ _ hX
            · skip
              have c_46 : ¬ (u ≤ v) := fun h9 => c_46 ((nI_leI (by omega) (by omega)).mpr h9)
              refine lv_iload_n C.x C.b dX9_pairs_49 rfl (lv_at hl 0 rfl) ?_
              refine lv_aload_n C.x C.b dX9_pairs_50 rfl (lv_at hl 3 rfl) ?_
              refine lv_iload_n C.x C.b dX9_pairs_51 rfl (lv_at hl 2 rfl) ?_
              refine lv_iload C.x C.b dX9_pairs_52 (lv_at hl 1 rfl) ?_
              refine k_calli (va_runV (As := [.int (nI u), .int (nI v)]) (rest := [.int (nI (kCnt2 (fun x9 y9 => mLies a4 a5 a6 x9 y9 = a) u + kCnt ((fun x9 y9 => mLies a4 a5 a6 x9 y9 = a) u) v))]) C.1 (kX9_lies l G B0 g1 h q i0 i1 i3 i7 i18 i22 i23 (nI 0) j16 j17 a2 a4 a5 a6 b8 b9 b10 a11 a12 a13 a14 b15 b19 b20 b21 a24 a25 a26 u v hM (by omega) (by omega)) (cwV 2 C.ts gX9_pairs_X9_lies rfl rfl rfl ⟨rfl, hdX9_pairs_X9_lies⟩ ⟨Nat.le_of_ble_eq_true rfl, Nat.le_of_ble_eq_true rfl⟩) (k_preV C hX (hM.at 0 rfl) rfl) rfl rfl hl.1 rfl (lv_room (Nat.le_of_ble_eq_true rfl)) dX9_pairs_54 ⟨Nat.le_of_ble_eq_true rfl, Nat.le_of_ble_eq_true rfl⟩) hX (fun r54 f54 H locs hp54 hX => ?_)
              obtain ⟨hr54, hf54⟩ := hp54
              rw [hf54] at hX
              refine k_topi (y := (mLies a4 a5 a6 u v)) hr54 ?_
              refine lv_iload_n C.x C.b dX9_pairs_57 rfl (lv_at hl 4 rfl) ?_
              have J66 : ∀ (ls : Array Slot), lv_has ls 5 [(2, .int (nI (kCnt2 (fun x9 y9 => mLies a4 a5 a6 x9 y9 = a) u + kCnt ((fun x9 y9 => mLies a4 a5 a6 x9 y9 = a) u) v))), (4, .int (nI v)), (3, .int (nI u)), (0, .ref h), (1, .int a)] → ∀ (H : Heap) (locs : List Loc), kX G B0 s g1 H locs → W p l e (rmX9_pairs) s m args below meth c H locs 0 0 Q (F0 m 66 ls [.int (nI (if mLies a4 a5 a6 u v = a then 1 else 0)), .int (nI (kCnt2 (fun x9 y9 => mLies a4 a5 a6 x9 y9 = a) u + kCnt ((fun x9 y9 => mLies a4 a5 a6 x9 y9 = a) u) v))]) := by
                intro ls hl H locs hX
                refine lv_iadd C.x C.b dX9_pairs_66 ?_
                refine k_topi (y := nI ((kCnt2 (fun x9 y9 => mLies a4 a5 a6 x9 y9 = a) u + kCnt ((fun x9 y9 => mLies a4 a5 a6 x9 y9 = a) u) v) + (if mLies a4 a5 a6 u v = a then 1 else 0))) (nI_add _ _) ?_
                refine k_topi (y := (nI (kCnt2 (fun x9 y9 => mLies a4 a5 a6 x9 y9 = a) u + kCnt ((fun x9 y9 => mLies a4 a5 a6 x9 y9 = a) u) (v + 1)))) (congrArg nI (Nat.add_assoc _ _ _)) ?_
                refine lv_istore_n (lv' := [(2, .int (nI (kCnt2 (fun x9 y9 => mLies a4 a5 a6 x9 y9 = a) u + kCnt ((fun x9 y9 => mLies a4 a5 a6 x9 y9 = a) u) (v + 1)))), (4, .int (nI v)), (3, .int (nI u)), (0, .ref h), (1, .int a)]) C.x C.b dX9_pairs_67 rfl hl (by decide) rfl (fun ls hl => ?_)
                refine lv_iinc (v := (nI (v + 1))) (lv' := [(4, .int (nI (v + 1))), (2, .int (nI (kCnt2 (fun x9 y9 => mLies a4 a5 a6 x9 y9 = a) u + kCnt ((fun x9 y9 => mLies a4 a5 a6 x9 y9 = a) u) (v + 1)))), (3, .int (nI u)), (0, .ref h), (1, .int a)]) C.x C.b dX9_pairs_68 hl (k := 1) rfl (nI_1 _) (by decide) rfl (fun ls hl => ?_)
                refine lv_goto (tgt := 43) C.x C.b dX9_pairs_71 (by decide) ?_
                exact ih43 (v + 1) (by omega) (by omega) ls (lv_sub hl [1, 0, 2, 3, 4] rfl) _ _ hX
              refine lv_icmp_ne (tgt := 65) C.x C.b dX9_pairs_58 (by decide) (fun c_58 => ?_) (fun c_58 => ?_)
              · skip
                refine lv_iconst (v := nI 0) C.x C.b dX9_pairs_65 (by decide) ?_
                refine k_topi (y := (nI (if mLies a4 a5 a6 u v = a then 1 else 0))) (by first | rw [if_pos c_58] | rw [if_neg c_58]) ?_
                exact J66 ls (lv_sub hl [0, 1, 2, 3, 4] rfl) _ _ hX
              · skip
                refine lv_iconst (v := nI 1) C.x C.b dX9_pairs_61 (by decide) ?_
                refine lv_goto (tgt := 66) C.x C.b dX9_pairs_62 (by decide) ?_
                refine k_topi (y := (nI (if mLies a4 a5 a6 u v = a then 1 else 0))) (by first | rw [if_pos c_58] | rw [if_neg c_58]) ?_
                exact J66 ls (lv_sub hl [0, 1, 2, 3, 4] rfl) _ _ hX
        exact LOOP43 _ 0 (by omega) (Nat.lt_succ_self _) ls (lv_sub hl [1, 0, 2, 3, 4] rfl) _ _ hX
  exact LOOP25 _ 0 (by omega) (Nat.lt_succ_self _) ls (lv_sub hl [1, 0, 2, 3] rfl) _ _ hX

theorem lk_X9_draws_f80 : Cond.fieldLink RX9 80 "KoebehallModel" "thrown" "I" ∈ wsX9_draws := by decide +kernel
theorem hin_X9_draws_RX9 : ∀ w ∈ u_ws RX9 TX9 28, w ∈ wsX9_draws := by decide +kernel
theorem lk_X9_draws_f125 : Cond.fieldLink RX9 125 "KoebehallModel" "disks" "I" ∈ wsX9_draws := by decide +kernel
theorem lk_X9_draws_f7 : Cond.fieldLink RX9 7 "KoebehallModel" "corners" "I" ∈ wsX9_draws := by decide +kernel
theorem hdX9_draws_X9_lies : yX9_lies.cls ≠ "java/lang/invoke/MethodHandle" ∧ yX9_lies.cls ≠ "java/lang/invoke/VarHandle" ∧ (parseMethodDescriptor yX9_lies.desc).map (fun d => d.parameters.length) = some 2 := by decide +kernel
theorem hdX9_draws_X9_areNeighbours : yX9_areNeighbours.cls ≠ "java/lang/invoke/MethodHandle" ∧ yX9_areNeighbours.cls ≠ "java/lang/invoke/VarHandle" ∧ (parseMethodDescriptor yX9_areNeighbours.desc).map (fun d => d.parameters.length) = some 2 := by decide +kernel
abbrev rmX9_draws : Room := { frames := 2, cells := 0, slots := 0, locals := 47 }
set_option maxHeartbeats 4000000 in
set_option maxRecDepth 100000 in
/-- X9_draws -/
theorem kX9_draws (l : Launch) (G : kG) (B0 : Nat) (f : kH) (h : Nat) (q : Nat → Nat) (i0 i1 i3 i7 i18 i22 i23 i27 : Int32) (j16 j17 : Int64) (a2 : Nat → Int32) (a4 : Nat → Int32) (a5 : Nat → Int32) (a6 : Nat → Int32) (b8 : Nat → Int64) (b9 : Nat → Int64) (b10 : Nat → Int64) (a11 : Nat → Int32) (a12 : Nat → Int32) (a13 : Nat → Int32) (a14 : Nat → Int32) (b15 : Nat → Int64) (b19 : Nat → Int64) (b20 : Nat → Int64) (b21 : Nat → Int64) (a24 : Nat → Int32) (a25 : Nat → Int32) (a26 : Nat → Int32) (F cc d : Nat) (hM : kCs f (mC G h q i0 i1 i3 i7 i18 i22 i23 i27 j16 j17 a2 a4 a5 a6 b8 b9 b10 a11 a12 a13 a14 b15 b19 b20 b21 a24 a25 a26)) (hF : i1 = nI F) (hF9 : F ≤ 28) (hc0 : i0 = nI cc) (hc9 : cc ≤ 16) (hd0 : i3 = nI d) (hd9 : d ≤ 16) : Met l yX9_draws wsX9_draws (rmX9_draws) (kP G B0 f [.ref h]) (kQi G B0 (fun r f1 => r = kbI (mDr a2 a4 a5 a6 F cc d d) ∧ kCs f1 (mC G h q i0 i1 i3 i7 i18 i22 i23 (nI 0) j16 j17 a2 a4 a5 a6 b8 b9 b10 a11 a12 a13 a14 b15 b19 b20 b21 a24 a25 a26) ∧ kOff (mAs h q) f f1)) 0 0 (kAb B0) := by
  refine kMet (cc := cX9_draws) (maxL := 4) (ret := (some .boolean)) (by decide) rfl (Nat.le_of_ble_eq_true rfl) ?_
  intro p e s m args below meth c H locs Q ls C hX hl hr hlocks hnm hQ
  have hO : kOff (mAs h q) f f := kOff.rf
  have hl : lv_has ls 4 [(0, .ref h)] := hl
  refine lv_aload_n C.x C.b dX9_draws_0 rfl (lv_at hl 0 rfl) ?_
  refine lv_iconst (v := nI 0) C.x C.b dX9_draws_1 (by decide) ?_
  refine k_put (X := RX9) (T := TX9) (N := 28) (ty := .int) (v := .int (nI 0)) C hX (hM.at 0 rfl) rfl hin_X9_draws_RX9 tyX9_ok nmX9 27 (by decide) lk_X9_draws_f80 (fun _ h9 => h9) rfl (by decide +kernel) rfl rfl (Nat.le_of_ble_eq_true rfl) dX9_draws_2 (fun H locs hX => ?_)
  obtain ⟨g1, hX, hM, hO⟩ := kX.wr hX hM hO 0 rfl (List.mem_of_getElem? (i := 0) rfl)
  have hM : kCs g1 (mC G h q i0 i1 i3 i7 i18 i22 i23 (nI 0) j16 j17 a2 a4 a5 a6 b8 b9 b10 a11 a12 a13 a14 b15 b19 b20 b21 a24 a25 a26) := hM
  refine lv_aload_n C.x C.b dX9_draws_5 rfl (lv_at hl 0 rfl) ?_
  refine k_get (X := RX9) (T := TX9) (N := 28) (v := .int i3) C hX (hM.at 0 rfl) rfl hin_X9_draws_RX9 3 (by decide) lk_X9_draws_f125 (fun _ h9 => h9) rfl dX9_draws_6 ?_
  refine k_topi (y := (nI d)) (hd0) ?_
  refine lv_aload_n C.x C.b dX9_draws_9 rfl (lv_at hl 0 rfl) ?_
  refine k_get (X := RX9) (T := TX9) (N := 28) (v := .int i0) C hX (hM.at 0 rfl) rfl hin_X9_draws_RX9 0 (by decide) lk_X9_draws_f7 (fun _ h9 => h9) rfl dX9_draws_10 ?_
  refine k_topi (y := (nI cc)) (hc0) ?_
  have J21 : ∀ (ls : Array Slot), lv_has ls 4 [(0, .ref h)] → ∀ (H : Heap) (locs : List Loc), kX G B0 s g1 H locs → W p l e (rmX9_draws) s m args below meth c H locs 0 0 Q (F0 m 21 ls [.int (kbI (mDr a2 a4 a5 a6 F cc d 0))]) := by
    intro ls hl H locs hX
    refine lv_istore_n (lv' := [(1, .int (kbI (mDr a2 a4 a5 a6 F cc d 0))), (0, .ref h)]) C.x C.b dX9_draws_21 rfl hl (by decide) rfl (fun ls hl => ?_)
    refine lv_iconst (v := nI 0) C.x C.b dX9_draws_22 (by decide) ?_
    refine lv_istore_n (lv' := [(2, .int (nI 0)), (1, .int (kbI (mDr a2 a4 a5 a6 F cc d 0))), (0, .ref h)]) C.x C.b dX9_draws_23 rfl hl (by decide) rfl (fun ls hl => ?_)
    have LOOP24 : ∀ (n : Nat) (u : Nat), (u ≤ d) → (d - u) < n → ∀ (ls : Array Slot), lv_has ls 4 [(1, .int (kbI (mDr a2 a4 a5 a6 F cc d u))), (2, .int (nI u)), (0, .ref h)] → ∀ (H : Heap) (locs : List Loc), kX G B0 s g1 H locs → W p l e (rmX9_draws) s m args below meth c H locs 0 0 Q (F0 m 24 ls []) := by
      intro n24
      induction n24 with
      | zero => intro u hu hn; exact absurd hn (Nat.not_lt_zero _)
      | succ n24 ih24 =>
        intro u hu hn ls hl H locs hX
        refine lv_iload_n C.x C.b dX9_draws_24 rfl (lv_at hl 1 rfl) ?_
        refine lv_aload_n C.x C.b dX9_draws_25 rfl (lv_at hl 2 rfl) ?_
        refine k_get (X := RX9) (T := TX9) (N := 28) (v := .int i3) C hX (hM.at 0 rfl) rfl hin_X9_draws_RX9 3 (by decide) lk_X9_draws_f125 (fun _ h9 => h9) rfl dX9_draws_26 ?_
        refine k_topi (y := (nI d)) (hd0) ?_
        refine lv_icmp_ge (tgt := 86) C.x C.b dX9_draws_29 (by decide) (fun c_29 => ?_) (fun c_29 => ?_)
        · skip
          have c_29 : d ≤ u := (nI_leI (by omega) (by omega)).mp c_29
          have hu9 : d = u := by omega
          subst hu9
          refine lv_iload_n C.x C.b dX9_draws_86 rfl (lv_at hl 0 rfl) ?_
          exact k_zret C hX hr hlocks hQ (by omega) (by omega) (by first | exact kbI_01 _ | exact Or.inl rfl | exact Or.inr rfl) (by refine ⟨?_, hM, hO⟩; first | rfl | exact kbI_c ⟨fun z => absurd z c_33, fun z => absurd ⟨z.1, fun w hw => z.2 w (by omega)⟩ c_33⟩) dX9_draws_87
        · skip
          have c_29 : ¬ (d ≤ u) := fun h9 => c_29 ((nI_leI (by omega) (by omega)).mpr h9)
          refine lv_iload_n C.x C.b dX9_draws_32 rfl (lv_at hl 0 rfl) ?_
          refine lv_if_eq (tgt := 86) C.x C.b dX9_draws_33 (by decide) (fun c_33 => ?_) (fun c_33 => ?_)
          · skip
            have c_33 := kbI_0 c_33
            refine lv_iload_n C.x C.b dX9_draws_86 rfl (lv_at hl 0 rfl) ?_
            exact k_zret C hX hr hlocks hQ (by omega) (by omega) (by first | exact kbI_01 _ | exact Or.inl rfl | exact Or.inr rfl) (by refine ⟨?_, hM, hO⟩; first | rfl | exact kbI_c ⟨fun z => absurd z c_33, fun z => absurd ⟨z.1, fun w hw => z.2 w (by omega)⟩ c_33⟩) dX9_draws_87
          · skip
            have c_33 := kbI_1 c_33
            refine lv_iconst (v := nI 0) C.x C.b dX9_draws_36 (by decide) ?_
            refine lv_istore_n (lv' := [(3, .int (nI 0)), (1, .int (kbI (mDr a2 a4 a5 a6 F cc d u))), (2, .int (nI u)), (0, .ref h)]) C.x C.b dX9_draws_37 rfl hl (by decide) rfl (fun ls hl => ?_)
            rw [show (kbI (mDr a2 a4 a5 a6 F cc d u)) = (kbI (mDr a2 a4 a5 a6 F cc d u ∧ ∀ w : Nat, w < 0 → mDrawP a2 a4 a5 a6 F u w)) from kbI_c ⟨fun z => ⟨z, fun w hw => absurd hw (Nat.not_lt_zero _)⟩, fun z => z.1⟩] at hl
            have LOOP38 : ∀ (n : Nat) (v : Nat), (v ≤ u) → (u - v) < n → ∀ (ls : Array Slot), lv_has ls 4 [(1, .int (kbI (mDr a2 a4 a5 a6 F cc d u ∧ ∀ w : Nat, w < v → mDrawP a2 a4 a5 a6 F u w))), (3, .int (nI v)), (2, .int (nI u)), (0, .ref h)] → ∀ (H : Heap) (locs : List Loc), kX G B0 s g1 H locs → W p l e (rmX9_draws) s m args below meth c H locs 0 0 Q (F0 m 38 ls []) := by
              intro n38
              induction n38 with
              | zero => intro v hv9 hn; exact absurd hn (Nat.not_lt_zero _)
              | succ n38 ih38 =>
                intro v hv9 hn ls hl H locs hX
                refine lv_iload_n C.x C.b dX9_draws_38 rfl (lv_at hl 1 rfl) ?_
                refine lv_iload_n C.x C.b dX9_draws_39 rfl (lv_at hl 2 rfl) ?_
                refine lv_icmp_ge (tgt := 80) C.x C.b dX9_draws_40 (by decide) (fun c_40 => ?_) (fun c_40 => ?_)
                · skip
                  have c_40 : u ≤ v := (nI_leI (by omega) (by omega)).mp c_40
                  have hv9 : u = v := by omega
                  subst hv9
                  refine lv_iinc (v := (nI (u + 1))) (lv' := [(2, .int (nI (u + 1))), (1, .int (kbI (mDr a2 a4 a5 a6 F cc d u ∧ ∀ w : Nat, w < u → mDrawP a2 a4 a5 a6 F u w))), (3, .int (nI u)), (0, .ref h)]) C.x C.b dX9_draws_80 hl (k := 2) rfl (nI_1 _) (by decide) rfl (fun ls hl => ?_)
                  refine lv_goto (tgt := 24) C.x C.b dX9_draws_83 (by decide) ?_
                  rw [show (kbI (mDr a2 a4 a5 a6 F cc d u ∧ ∀ w : Nat, w < u → mDrawP a2 a4 a5 a6 F u w)) = (kbI (mDr a2 a4 a5 a6 F cc d (u + 1))) from kbI_c ⟨fun z => ⟨z.1.1, fun w hw => by rcases Nat.lt_or_ge w u with q9 | q9; exact z.1.2 w q9; rw [show w = u by omega]; exact z.2⟩, fun z => ⟨⟨z.1, fun w hw => z.2 w (by omega)⟩, z.2 u (by omega)⟩⟩] at hl
                  exact ih24 (u + 1) (by omega) (by omega) ls (lv_sub hl [1, 0, 3] rfl) _ _ hX
                · skip
                  have c_40 : ¬ (u ≤ v) := fun h9 => c_40 ((nI_leI (by omega) (by omega)).mpr h9)
                  refine lv_iload_n C.x C.b dX9_draws_43 rfl (lv_at hl 0 rfl) ?_
                  refine lv_aload_n C.x C.b dX9_draws_44 rfl (lv_at hl 3 rfl) ?_
                  refine lv_iload_n C.x C.b dX9_draws_45 rfl (lv_at hl 2 rfl) ?_
                  refine lv_iload_n C.x C.b dX9_draws_46 rfl (lv_at hl 1 rfl) ?_
                  refine k_calli (va_runV (As := [.int (nI u), .int (nI v)]) (rest := [.int (kbI (mDr a2 a4 a5 a6 F cc d u ∧ ∀ w : Nat, w < v → mDrawP a2 a4 a5 a6 F u w))]) C.1 (kX9_lies l G B0 g1 h q i0 i1 i3 i7 i18 i22 i23 (nI 0) j16 j17 a2 a4 a5 a6 b8 b9 b10 a11 a12 a13 a14 b15 b19 b20 b21 a24 a25 a26 u v hM (by omega) (by omega)) (cwV 2 C.ts gX9_draws_X9_lies rfl rfl rfl ⟨rfl, hdX9_draws_X9_lies⟩ ⟨Nat.le_of_ble_eq_true rfl, Nat.le_of_ble_eq_true rfl⟩) (k_preV C hX (hM.at 0 rfl) rfl) rfl rfl hl.1 rfl (lv_room (Nat.le_of_ble_eq_true rfl)) dX9_draws_47 ⟨Nat.le_of_ble_eq_true rfl, Nat.le_of_ble_eq_true rfl⟩) hX (fun r47 f47 H locs hp47 hX => ?_)
                  obtain ⟨hr47, hf47⟩ := hp47
                  rw [hf47] at hX
                  refine k_topi (y := (mLies a4 a5 a6 u v)) hr47 ?_
                  refine lv_aload_n C.x C.b dX9_draws_50 rfl (lv_at hl 3 rfl) ?_
                  refine lv_iload_n C.x C.b dX9_draws_51 rfl (lv_at hl 2 rfl) ?_
                  refine lv_iload_n C.x C.b dX9_draws_52 rfl (lv_at hl 1 rfl) ?_
                  refine k_calli (va_runV (As := [.int (nI u), .int (nI v)]) (rest := [.int (mLies a4 a5 a6 u v), .int (kbI (mDr a2 a4 a5 a6 F cc d u ∧ ∀ w : Nat, w < v → mDrawP a2 a4 a5 a6 F u w))]) C.1 (kX9_areNeighbours l G B0 g1 h q i0 i1 i3 i7 i18 i22 i23 (nI 0) j16 j17 a2 a4 a5 a6 b8 b9 b10 a11 a12 a13 a14 b15 b19 b20 b21 a24 a25 a26 (nI u) (nI v) F hM hF hF9) (cwV 2 C.ts gX9_draws_X9_areNeighbours rfl rfl rfl ⟨rfl, hdX9_draws_X9_areNeighbours⟩ ⟨Nat.le_of_ble_eq_true rfl, Nat.le_of_ble_eq_true rfl⟩) (k_preV C hX (hM.at 0 rfl) rfl) rfl rfl hl.1 rfl (lv_room (Nat.le_of_ble_eq_true rfl)) dX9_draws_53 ⟨Nat.le_of_ble_eq_true rfl, Nat.le_of_ble_eq_true rfl⟩) hX (fun r53 f53 H locs hp53 hX => ?_)
                  obtain ⟨hr53, hf53⟩ := hp53
                  rw [hf53] at hX
                  refine k_topi (y := (kbI (mAdj a2 F (nI u) (nI v)))) hr53 ?_
                  have J64 : ∀ (ls : Array Slot), lv_has ls 4 [(1, .int (kbI (mDr a2 a4 a5 a6 F cc d u ∧ ∀ w : Nat, w < v → mDrawP a2 a4 a5 a6 F u w))), (3, .int (nI v)), (2, .int (nI u)), (0, .ref h)] → ∀ (H : Heap) (locs : List Loc), kX G B0 s g1 H locs → W p l e (rmX9_draws) s m args below meth c H locs 0 0 Q (F0 m 64 ls [.int (if mAdj a2 F (nI u) (nI v) then nI 1 else nI 0), .int (mLies a4 a5 a6 u v), .int (kbI (mDr a2 a4 a5 a6 F cc d u ∧ ∀ w : Nat, w < v → mDrawP a2 a4 a5 a6 F u w))]) := by
                    intro ls hl H locs hX
                    have J72 : ∀ (ls : Array Slot), lv_has ls 4 [(1, .int (kbI (mDr a2 a4 a5 a6 F cc d u ∧ ∀ w : Nat, w < v → mDrawP a2 a4 a5 a6 F u w))), (3, .int (nI v)), (2, .int (nI u)), (0, .ref h)] → ∀ (H : Heap) (locs : List Loc), kX G B0 s g1 H locs → W p l e (rmX9_draws) s m args below meth c H locs 0 0 Q (F0 m 72 ls [.int (kbI (mDrawP a2 a4 a5 a6 F u v)), .int (kbI (mDr a2 a4 a5 a6 F cc d u ∧ ∀ w : Nat, w < v → mDrawP a2 a4 a5 a6 F u w))]) := by
                      intro ls hl H locs hX
                      refine lv_iand C.x C.b dX9_draws_72 ?_
                      refine k_topi (y := (kbI (mDr a2 a4 a5 a6 F cc d u ∧ ∀ w : Nat, w < v + 1 → mDrawP a2 a4 a5 a6 F u w))) (by rw [kbI_and]; exact kbI_c ⟨fun z => ⟨z.1.1, fun w hw => by rcases Nat.lt_or_ge w v with q9 | q9; exact z.1.2 w q9; rw [show w = v by omega]; exact z.2⟩, fun z => ⟨⟨z.1, fun w hw => z.2 w (by omega)⟩, z.2 v (by omega)⟩⟩) ?_
                      refine lv_istore_n (lv' := [(1, .int (kbI (mDr a2 a4 a5 a6 F cc d u ∧ ∀ w : Nat, w < v + 1 → mDrawP a2 a4 a5 a6 F u w))), (3, .int (nI v)), (2, .int (nI u)), (0, .ref h)]) C.x C.b dX9_draws_73 rfl hl (by decide) rfl (fun ls hl => ?_)
                      refine lv_iinc (v := (nI (v + 1))) (lv' := [(3, .int (nI (v + 1))), (1, .int (kbI (mDr a2 a4 a5 a6 F cc d u ∧ ∀ w : Nat, w < v + 1 → mDrawP a2 a4 a5 a6 F u w))), (2, .int (nI u)), (0, .ref h)]) C.x C.b dX9_draws_74 hl (k := 1) rfl (nI_1 _) (by decide) rfl (fun ls hl => ?_)
                      refine lv_goto (tgt := 38) C.x C.b dX9_draws_77 (by decide) ?_
                      exact ih38 (v + 1) (by omega) (by omega) ls (lv_sub hl [1, 0, 2, 3] rfl) _ _ hX
                    refine lv_icmp_ne (tgt := 71) C.x C.b dX9_draws_64 (by decide) (fun c_64 => ?_) (fun c_64 => ?_)
                    · skip
                      refine lv_iconst (v := nI 0) C.x C.b dX9_draws_71 (by decide) ?_
                      refine k_topi (y := (kbI (mDrawP a2 a4 a5 a6 F u v))) (by first | exact kbI_tN c_64 | exact kbI_fN c_64) ?_
                      exact J72 ls (lv_sub hl [0, 1, 2, 3] rfl) _ _ hX
                    · skip
                      refine lv_iconst (v := nI 1) C.x C.b dX9_draws_67 (by decide) ?_
                      refine lv_goto (tgt := 72) C.x C.b dX9_draws_68 (by decide) ?_
                      refine k_topi (y := (kbI (mDrawP a2 a4 a5 a6 F u v))) (by first | exact kbI_tN c_64 | exact kbI_fN c_64) ?_
                      exact J72 ls (lv_sub hl [0, 1, 2, 3] rfl) _ _ hX
                  refine lv_if_eq (tgt := 63) C.x C.b dX9_draws_56 (by decide) (fun c_56 => ?_) (fun c_56 => ?_)
                  · skip
                    have c_56 := kbI_0 c_56
                    refine lv_iconst (v := nI 0) C.x C.b dX9_draws_63 (by decide) ?_
                    refine k_topi (y := (if mAdj a2 F (nI u) (nI v) then nI 1 else nI 0)) (by first | rw [if_pos c_56] | rw [if_neg c_56]) ?_
                    exact J64 ls (lv_sub hl [0, 1, 2, 3] rfl) _ _ hX
                  · skip
                    have c_56 := kbI_1 c_56
                    refine lv_iconst (v := nI 1) C.x C.b dX9_draws_59 (by decide) ?_
                    refine lv_goto (tgt := 64) C.x C.b dX9_draws_60 (by decide) ?_
                    refine k_topi (y := (if mAdj a2 F (nI u) (nI v) then nI 1 else nI 0)) (by first | rw [if_pos c_56] | rw [if_neg c_56]) ?_
                    exact J64 ls (lv_sub hl [0, 1, 2, 3] rfl) _ _ hX
            exact LOOP38 _ 0 (by omega) (Nat.lt_succ_self _) ls (lv_sub hl [1, 0, 2, 3] rfl) _ _ hX
    exact LOOP24 _ 0 (by omega) (Nat.lt_succ_self _) ls (lv_sub hl [1, 0, 2] rfl) _ _ hX
  refine lv_icmp_ne (tgt := 20) C.x C.b dX9_draws_13 (by decide) (fun c_13 => ?_) (fun c_13 => ?_)
  · skip
    have c_13 : ¬ (d = cc) := fun h9 => c_13 ((nI_eq (by omega) (by omega)).mpr h9)
    refine lv_iconst (v := nI 0) C.x C.b dX9_draws_20 (by decide) ?_
    refine k_topi (y := (kbI (mDr a2 a4 a5 a6 F cc d 0))) (by first | exact kbI_tN ⟨c_13, fun u hu => absurd hu (Nat.not_lt_zero _)⟩ | exact kbI_fN (fun h9 => c_13 h9.1)) ?_
    exact J21 ls (lv_sub hl [0] rfl) _ _ hX
  · skip
    have c_13 : d = cc := (nI_eq (by omega) (by omega)).mp c_13
    refine lv_iconst (v := nI 1) C.x C.b dX9_draws_16 (by decide) ?_
    refine lv_goto (tgt := 21) C.x C.b dX9_draws_17 (by decide) ?_
    refine k_topi (y := (kbI (mDr a2 a4 a5 a6 F cc d 0))) (by first | exact kbI_tN ⟨c_13, fun u hu => absurd hu (Nat.not_lt_zero _)⟩ | exact kbI_fN (fun h9 => c_13 h9.1)) ?_
    exact J21 ls (lv_sub hl [0] rfl) _ _ hX
