def mHB (en ot : Nat → Nat) (n w fr to its : Nat) (s : Nat) : Bool := match mPB en ot n s w with
  | none => false
  | some x => decide (x.2 = nI 2) && (!decide (x.1 fr = x.1 to) && decide (x.1 its = x.1 fr))
theorem mHB_0 {en ot : Nat → Nat} {n w fr to its s : Nat} (h : ¬ mPV en ot n w s = nI 2) : ¬ mHB en ot n w fr to its s = true := by
  unfold mPV at h
  unfold mHB
  cases hx : mPB en ot n s w with
  | none => simp
  | some x => rw [hx] at h; simp only at h; simp [h]
theorem mHB_x {en ot : Nat → Nat} {n w s : Nat} (h : mPV en ot n w s = nI 2) : ∃ x, mPB en ot n s w = some x ∧ x.2 = nI 2 := by
  unfold mPV at h
  cases hx : mPB en ot n s w with
  | none => rw [hx] at h; exact absurd h (by decide)
  | some x => rw [hx] at h; exact ⟨x, rfl, h⟩
theorem mHB_1 {en ot : Nat → Nat} {n w fr to its s : Nat} {x : (Nat → Nat) × Int32} (h : mPB en ot n s w = some x) (h2 : x.2 = nI 2) : mHB en ot n w fr to its s = true ↔ (¬ x.1 fr = x.1 to ∧ x.1 its = x.1 fr) := by
  unfold mHB
  rw [h]
  simp [h2]
abbrev mHeight (en ot : Nat → Nat) (n w fr to its : Nat) : Nat := kCnt (fun s9 => mHB en ot n w fr to its s9 = true) (2 ^ w)
abbrev mSv (a b c9 : Int32) (n w : Nat) : Prop := mIn a n ∧ mIn b n ∧ (c9 = -1 ∨ mIn c9 w)
/-- the first greatest of the k + 1 first -/
def mBest (g : Nat → Int64) : Nat → Nat
  | 0 => 0
  | k + 1 => if g (mBest g k) < g (k + 1) then k + 1 else mBest g k
theorem mBest_le (g : Nat → Int64) : ∀ k, mBest g k ≤ k
  | 0 => Nat.le_refl 0
  | k + 1 => by
    have := mBest_le g k
    simp only [mBest]
    split <;> omega
def mLow (g : Nat → Int64) (v : Nat) : Int64 := if g v < g (v + 1) then g v else g (v + 1)
def mSw (g : Nat → Int64) (v : Nat) : Nat → Int64 := vp_updL (vp_updL g (v + 1) (g v + g (v + 1) - mLow g v)) v (mLow g v)
def mPass (g : Nat → Int64) : Nat → Nat → Int64
  | 0 => g
  | v + 1 => mSw (mPass g v) v
def mSortP (g : Nat → Int64) : Nat → Nat → Int64
  | 0 => g
  | u + 1 => mPass (mSortP g u) 3
/-- one step to the root -/
abbrev mLess (g : Nat → Int64) : Prop := mTurned g 0 (mBest g 3) < g (mBest g 3)
abbrev mDown (g : Nat → Int64) : Nat → Int64 := vp_updL g (mBest g 3) (mTurned g 0 (mBest g 3))
/-- N steps to the root from the four at t -/
def mRun (g : Nat → Int64) : Nat → Nat → Int64
  | 0 => g
  | i + 1 => mDown (mRun g i)
abbrev mRooted (g : Nat → Int64) (N : Nat) : Prop := (∀ i, i < N → mLess (mRun g i)) ∧ ¬ mLess (mRun g N)
abbrev mRoot (b8 b9 : Nat → Int64) (t N : Nat) : Nat → Int64 := mSortP (mRun (mCopy b9 b8 (4 * t) 4) N) 3

theorem lk_X9_height_f209 : Cond.fieldLink RX9 209 "KoebehallModel" "wires" "I" ∈ wsX9_height := by decide +kernel
theorem hin_X9_height_RX9 : ∀ w ∈ u_ws RX9 TX9 28, w ∈ wsX9_height := by decide +kernel
theorem hdX9_height_X9_partsBy : yX9_partsBy.cls ≠ "java/lang/invoke/MethodHandle" ∧ yX9_partsBy.cls ≠ "java/lang/invoke/VarHandle" ∧ (parseMethodDescriptor yX9_partsBy.desc).map (fun d => d.parameters.length) = some 1 := by decide +kernel
theorem lk_X9_height_f73 : Cond.fieldLink RX9 73 "KoebehallModel" "part" "[I" ∈ wsX9_height := by decide +kernel
abbrev rmX9_height : Room := { frames := 1, cells := 0, slots := 0, locals := 26 }
set_option maxHeartbeats 4000000 in
set_option maxRecDepth 100000 in
/-- X9_height -/
theorem kX9_height (l : Launch) (G : kG) (B0 : Nat) (f : kH) (h : Nat) (q : Nat → Nat) (i0 i1 i3 i7 i18 i22 i23 i27 : Int32) (j16 j17 : Int64) (a2 : Nat → Int32) (a4 : Nat → Int32) (a5 : Nat → Int32) (a6 : Nat → Int32) (b8 : Nat → Int64) (b9 : Nat → Int64) (b10 : Nat → Int64) (a11 : Nat → Int32) (a12 : Nat → Int32) (a13 : Nat → Int32) (a14 : Nat → Int32) (b15 : Nat → Int64) (b19 : Nat → Int64) (b20 : Nat → Int64) (b21 : Nat → Int64) (a24 : Nat → Int32) (a25 : Nat → Int32) (a26 : Nat → Int32) (en ot : Nat → Nat) (n9 w9 : Nat) (fr to its : Nat) (hM : kCs f (mC G h q i0 i1 i3 i7 i18 i22 i23 i27 j16 j17 a2 a4 a5 a6 b8 b9 b10 a11 a12 a13 a14 b15 b19 b20 b21 a24 a25 a26)) (hn0 : i22 = nI n9) (hn9 : n9 ≤ 6) (hw0 : i23 = nI w9) (hw9 : w9 ≤ 10) (hen : ∀ k, k < w9 → a24 k = nI (en k) ∧ en k < n9) (hot : ∀ k, k < w9 → a25 k = nI (ot k) ∧ ot k < n9) (hfr : fr < n9) (hto : to < n9) (hits : its < n9) : Met l yX9_height wsX9_height (rmX9_height) (kP G B0 f [.ref h, .int (nI fr), .int (nI to), .int (nI its)]) (kQi G B0 (fun r f1 => r = nI (mHeight en ot n9 w9 fr to its) ∧ ∃ F1 : Nat → Int32, kCs f1 (mC G h q i0 i1 i3 i7 i18 i22 i23 i27 j16 j17 a2 a4 a5 a6 b8 b9 b10 a11 a12 a13 a14 b15 b19 b20 b21 a24 a25 F1) ∧ kOff (mAs h q) f f1)) 0 0 (kAb B0) := by
  refine kMet (cc := cX9_height) (maxL := 7) (ret := (some .int)) (by decide) rfl (Nat.le_of_ble_eq_true rfl) ?_
  intro p e s m args below meth c H locs Q ls C hX hl hr hlocks hnm hQ
  have hO : kOff (mAs h q) f f := kOff.rf
  have hl : lv_has ls 7 [(0, .ref h), (1, .int (nI fr)), (2, .int (nI to)), (3, .int (nI its))] := hl
  have hpw := k_pow hw9
  refine lv_iconst (v := nI 0) C.x C.b dX9_height_0 (by decide) ?_
  refine lv_istore (lv' := [(4, .int (nI 0)), (0, .ref h), (1, .int (nI fr)), (2, .int (nI to)), (3, .int (nI its))]) C.x C.b dX9_height_1 hl (by decide) rfl (fun ls hl => ?_)
  refine lv_iconst (v := nI 0) C.x C.b dX9_height_3 (by decide) ?_
  refine lv_istore (lv' := [(5, .int (nI 0)), (4, .int (nI 0)), (0, .ref h), (1, .int (nI fr)), (2, .int (nI to)), (3, .int (nI its))]) C.x C.b dX9_height_4 hl (by decide) rfl (fun ls hl => ?_)
  have LOOP6 : ∀ (n : Nat) (s8 : Nat) (FF : Nat → Int32), (s8 ≤ 2 ^ w9) → (2 ^ w9 - s8) < n → ∀ (ls : Array Slot), lv_has ls 7 [(4, .int (nI (kCnt (fun s9 => mHB en ot n9 w9 fr to its s9 = true) s8))), (5, .int (nI s8)), (0, .ref h), (1, .int (nI fr)), (2, .int (nI to)), (3, .int (nI its))] → ∀ (fL : kH), kCs fL (mC G h q i0 i1 i3 i7 i18 i22 i23 i27 j16 j17 a2 a4 a5 a6 b8 b9 b10 a11 a12 a13 a14 b15 b19 b20 b21 a24 a25 FF) → kOff (mAs h q) f fL → ∀ (H : Heap) (locs : List Loc), kX G B0 s fL H locs → W p l e (rmX9_height) s m args below meth c H locs 0 0 Q (F0 m 6 ls []) := by
    intro n6
    induction n6 with
    | zero => intro s8 FF hs hn; exact absurd hn (Nat.not_lt_zero _)
    | succ n6 ih6 =>
      intro s8 FF hs hn ls hl fL hM hO H locs hX
      refine lv_iload C.x C.b dX9_height_6 (lv_at hl 1 rfl) ?_
      refine lv_iconst (v := nI 1) C.x C.b dX9_height_8 (by decide) ?_
      refine lv_aload_n C.x C.b dX9_height_9 rfl (lv_at hl 2 rfl) ?_
      refine k_get (X := RX9) (T := TX9) (N := 28) (v := .int i23) C hX (hM.at 0 rfl) rfl hin_X9_height_RX9 23 (by decide) lk_X9_height_f209 (fun _ h9 => h9) rfl dX9_height_10 ?_
      refine k_topi (y := (nI w9)) (hw0) ?_
      refine lv_ishl C.x C.b dX9_height_13 ?_
      refine k_topi (y := (nI (2 ^ w9))) (k_shl1 w9 (by omega)) ?_
      refine lv_icmp_ge (tgt := 85) C.x C.b dX9_height_14 (by decide) (fun c_14 => ?_) (fun c_14 => ?_)
      · skip
        have c_14 : 2 ^ w9 ≤ s8 := (nI_leI (by omega) (by omega)).mp c_14
        have hs9 : 2 ^ w9 = s8 := by omega
        refine lv_iload C.x C.b dX9_height_85 (lv_at hl 0 rfl) ?_
        exact k_iret C hX hr hlocks hQ (by omega) (by omega) (⟨by rw [mHeight, hs9], FF, hM, hO⟩) dX9_height_87
      · skip
        have c_14 : ¬ (2 ^ w9 ≤ s8) := fun h9 => c_14 ((nI_leI (by omega) (by omega)).mpr h9)
        refine lv_aload_n C.x C.b dX9_height_17 rfl (lv_at hl 2 rfl) ?_
        have hcn := kCnt_le (fun s9 => mHB en ot n9 w9 fr to its s9 = true) s8
        refine lv_iload C.x C.b dX9_height_18 (lv_at hl 1 rfl) ?_
        refine k_calli (va_runV (As := [.int (nI s8)]) (rest := []) C.1 (kX9_partsBy l G B0 fL h q i0 i1 i3 i7 i18 i22 i23 i27 j16 j17 a2 a4 a5 a6 b8 b9 b10 a11 a12 a13 a14 b15 b19 b20 b21 a24 a25 FF en ot n9 w9 s8 hM hn0 hn9 hw0 hw9 hen hot (by omega)) (cwV 1 C.ts gX9_height_X9_partsBy rfl rfl rfl ⟨rfl, hdX9_height_X9_partsBy⟩ ⟨Nat.le_of_ble_eq_true rfl, Nat.le_of_ble_eq_true rfl⟩) (k_preV C hX (hM.at 0 rfl) rfl) rfl rfl hl.1 rfl (lv_room (Nat.le_of_ble_eq_true rfl)) dX9_height_20 ⟨Nat.le_of_ble_eq_true rfl, Nat.le_of_ble_eq_true rfl⟩) hX (fun r20 f20 H locs hp20 hX => ?_)
        obtain ⟨hr20, F1, hM, hO20, hF1⟩ := hp20
        have hO := hO.trans hO20
        refine k_topi hr20 ?_
        refine lv_iconst (v := nI 2) C.x C.b dX9_height_23 (by decide) ?_
        have J32 : ∀ (ls : Array Slot), lv_has ls 7 [(4, .int (nI (kCnt (fun s9 => mHB en ot n9 w9 fr to its s9 = true) s8))), (5, .int (nI s8)), (0, .ref h), (1, .int (nI fr)), (2, .int (nI to)), (3, .int (nI its))] → ∀ (H : Heap) (locs : List Loc), kX G B0 s f20 H locs → W p l e (rmX9_height) s m args below meth c H locs 0 0 Q (F0 m 32 ls [.int (kbI (mPV en ot n9 w9 s8 = nI 2))]) := by
          intro ls hl H locs hX
          refine lv_istore (lv' := [(6, .int (kbI (mPV en ot n9 w9 s8 = nI 2))), (4, .int (nI (kCnt (fun s9 => mHB en ot n9 w9 fr to its s9 = true) s8))), (5, .int (nI s8)), (0, .ref h), (1, .int (nI fr)), (2, .int (nI to)), (3, .int (nI its))]) C.x C.b dX9_height_32 hl (by decide) rfl (fun ls hl => ?_)
          refine lv_iload C.x C.b dX9_height_34 (lv_at hl 1 rfl) ?_
          refine lv_iload C.x C.b dX9_height_36 (lv_at hl 0 rfl) ?_
          have J76 : ∀ (ls : Array Slot), lv_has ls 7 [(6, .int (kbI (mPV en ot n9 w9 s8 = nI 2))), (4, .int (nI (kCnt (fun s9 => mHB en ot n9 w9 fr to its s9 = true) s8))), (5, .int (nI s8)), (0, .ref h), (1, .int (nI fr)), (2, .int (nI to)), (3, .int (nI its))] → ∀ (H : Heap) (locs : List Loc), kX G B0 s f20 H locs → W p l e (rmX9_height) s m args below meth c H locs 0 0 Q (F0 m 76 ls [.int (nI (if mHB en ot n9 w9 fr to its s8 = true then 1 else 0)), .int (nI (kCnt (fun s9 => mHB en ot n9 w9 fr to its s9 = true) s8))]) := by
            intro ls hl H locs hX
            refine lv_iadd C.x C.b dX9_height_76 ?_
            refine k_topi (y := nI ((kCnt (fun s9 => mHB en ot n9 w9 fr to its s9 = true) s8) + (if mHB en ot n9 w9 fr to its s8 = true then 1 else 0))) (nI_add _ _) ?_
            refine k_topi (y := (nI (kCnt (fun s9 => mHB en ot n9 w9 fr to its s9 = true) (s8 + 1)))) (rfl) ?_
            refine lv_istore (lv' := [(4, .int (nI (kCnt (fun s9 => mHB en ot n9 w9 fr to its s9 = true) (s8 + 1)))), (6, .int (kbI (mPV en ot n9 w9 s8 = nI 2))), (5, .int (nI s8)), (0, .ref h), (1, .int (nI fr)), (2, .int (nI to)), (3, .int (nI its))]) C.x C.b dX9_height_77 hl (by decide) rfl (fun ls hl => ?_)
            refine lv_iinc (v := (nI (s8 + 1))) (lv' := [(5, .int (nI (s8 + 1))), (4, .int (nI (kCnt (fun s9 => mHB en ot n9 w9 fr to its s9 = true) (s8 + 1)))), (6, .int (kbI (mPV en ot n9 w9 s8 = nI 2))), (0, .ref h), (1, .int (nI fr)), (2, .int (nI to)), (3, .int (nI its))]) C.x C.b dX9_height_79 hl (k := 2) rfl (nI_1 _) (by decide) rfl (fun ls hl => ?_)
            refine lv_goto (tgt := 6) C.x C.b dX9_height_82 (by decide) ?_
            exact ih6 (s8 + 1) _ (by omega) (by omega) ls (lv_sub hl [1, 0, 3, 4, 5, 6] rfl) _ hM hO _ _ hX
          refine lv_if_eq (tgt := 75) C.x C.b dX9_height_38 (by decide) (fun c_38 => ?_) (fun c_38 => ?_)
          · skip
            have c_38 := kbI_0 c_38
            refine lv_iconst (v := nI 0) C.x C.b dX9_height_75 (by decide) ?_
            refine k_topi (y := (nI (if mHB en ot n9 w9 fr to its s8 = true then 1 else 0))) (by first | (rw [if_pos ((mHB_1 hx9 hx8).mpr ⟨c_53, c_68⟩)]; done) | (rw [if_neg (mHB_0 c_38)]; done) | (rw [if_neg (fun z => ((mHB_1 hx9 hx8).mp z).1 c_53)]; done) | (rw [if_neg (fun z => c_68 ((mHB_1 hx9 hx8).mp z).2)]; done)) ?_
            exact J76 ls (lv_sub hl [0, 1, 2, 3, 4, 5, 6] rfl) _ _ hX
          · skip
            have c_38 := kbI_1 c_38
            obtain ⟨x9, hx9, hx8⟩ := mHB_x c_38
            have hlt := mPB_lt (fun k hk => (hen k (by omega)).2) hx9
            have hl1 := hlt _ hfr
            have hl2 := hlt _ hto
            have hl3 := hlt _ hits
            refine lv_aload_n C.x C.b dX9_height_41 rfl (lv_at hl 3 rfl) ?_
            refine k_get (X := RX9) (T := TX9) (N := 28) (v := .ref (q 26)) C hX (hM.at 0 rfl) rfl hin_X9_height_RX9 26 (by decide) lk_X9_height_f73 (fun _ h9 => h9) rfl dX9_height_42 ?_
            refine lv_iload_n C.x C.b dX9_height_45 rfl (lv_at hl 4 rfl) ?_
            refine k_iald C hX (hM.at 18 rfl) (vp_in_nI (by omega) (by omega)) dX9_height_46 ?_
            refine k_topi (y := F1 fr) (by rw [nI_clamp (by omega)]) ?_
            refine k_topi (y := (nI (x9.1 fr))) (hF1 x9 hx9 fr hfr) ?_
            refine lv_aload_n C.x C.b dX9_height_47 rfl (lv_at hl 3 rfl) ?_
            refine k_get (X := RX9) (T := TX9) (N := 28) (v := .ref (q 26)) C hX (hM.at 0 rfl) rfl hin_X9_height_RX9 26 (by decide) lk_X9_height_f73 (fun _ h9 => h9) rfl dX9_height_48 ?_
            refine lv_iload_n C.x C.b dX9_height_51 rfl (lv_at hl 5 rfl) ?_
            refine k_iald C hX (hM.at 18 rfl) (vp_in_nI (by omega) (by omega)) dX9_height_52 ?_
            refine k_topi (y := F1 to) (by rw [nI_clamp (by omega)]) ?_
            refine k_topi (y := (nI (x9.1 to))) (hF1 x9 hx9 to hto) ?_
            refine lv_icmp_eq (tgt := 75) C.x C.b dX9_height_53 (by decide) (fun c_53 => ?_) (fun c_53 => ?_)
            · skip
              have c_53 : x9.1 fr = x9.1 to := (nI_eq (by omega) (by omega)).mp c_53
              refine lv_iconst (v := nI 0) C.x C.b dX9_height_75 (by decide) ?_
              refine k_topi (y := (nI (if mHB en ot n9 w9 fr to its s8 = true then 1 else 0))) (by first | (rw [if_pos ((mHB_1 hx9 hx8).mpr ⟨c_53, c_68⟩)]; done) | (rw [if_neg (mHB_0 c_38)]; done) | (rw [if_neg (fun z => ((mHB_1 hx9 hx8).mp z).1 c_53)]; done) | (rw [if_neg (fun z => c_68 ((mHB_1 hx9 hx8).mp z).2)]; done)) ?_
              exact J76 ls (lv_sub hl [0, 1, 2, 3, 4, 5, 6] rfl) _ _ hX
            · skip
              have c_53 : ¬ (x9.1 fr = x9.1 to) := fun h9 => c_53 ((nI_eq (by omega) (by omega)).mpr h9)
              refine lv_aload_n C.x C.b dX9_height_56 rfl (lv_at hl 3 rfl) ?_
              refine k_get (X := RX9) (T := TX9) (N := 28) (v := .ref (q 26)) C hX (hM.at 0 rfl) rfl hin_X9_height_RX9 26 (by decide) lk_X9_height_f73 (fun _ h9 => h9) rfl dX9_height_57 ?_
              refine lv_iload_n C.x C.b dX9_height_60 rfl (lv_at hl 6 rfl) ?_
              refine k_iald C hX (hM.at 18 rfl) (vp_in_nI (by omega) (by omega)) dX9_height_61 ?_
              refine k_topi (y := F1 its) (by rw [nI_clamp (by omega)]) ?_
              refine k_topi (y := (nI (x9.1 its))) (hF1 x9 hx9 its hits) ?_
              refine lv_aload_n C.x C.b dX9_height_62 rfl (lv_at hl 3 rfl) ?_
              refine k_get (X := RX9) (T := TX9) (N := 28) (v := .ref (q 26)) C hX (hM.at 0 rfl) rfl hin_X9_height_RX9 26 (by decide) lk_X9_height_f73 (fun _ h9 => h9) rfl dX9_height_63 ?_
              refine lv_iload_n C.x C.b dX9_height_66 rfl (lv_at hl 4 rfl) ?_
              refine k_iald C hX (hM.at 18 rfl) (vp_in_nI (by omega) (by omega)) dX9_height_67 ?_
              refine k_topi (y := F1 fr) (by rw [nI_clamp (by omega)]) ?_
              refine k_topi (y := (nI (x9.1 fr))) (hF1 x9 hx9 fr hfr) ?_
              refine lv_icmp_ne (tgt := 75) C.x C.b dX9_height_68 (by decide) (fun c_68 => ?_) (fun c_68 => ?_)
              · skip
                have c_68 : ¬ (x9.1 its = x9.1 fr) := fun h9 => c_68 ((nI_eq (by omega) (by omega)).mpr h9)
                refine lv_iconst (v := nI 0) C.x C.b dX9_height_75 (by decide) ?_
                refine k_topi (y := (nI (if mHB en ot n9 w9 fr to its s8 = true then 1 else 0))) (by first | (rw [if_pos ((mHB_1 hx9 hx8).mpr ⟨c_53, c_68⟩)]; done) | (rw [if_neg (mHB_0 c_38)]; done) | (rw [if_neg (fun z => ((mHB_1 hx9 hx8).mp z).1 c_53)]; done) | (rw [if_neg (fun z => c_68 ((mHB_1 hx9 hx8).mp z).2)]; done)) ?_
                exact J76 ls (lv_sub hl [0, 1, 2, 3, 4, 5, 6] rfl) _ _ hX
              · skip
                have c_68 : x9.1 its = x9.1 fr := (nI_eq (by omega) (by omega)).mp c_68
                refine lv_iconst (v := nI 1) C.x C.b dX9_height_71 (by decide) ?_
                refine lv_goto (tgt := 76) C.x C.b dX9_height_72 (by decide) ?_
                refine k_topi (y := (nI (if mHB en ot n9 w9 fr to its s8 = true then 1 else 0))) (by first | (rw [if_pos ((mHB_1 hx9 hx8).mpr ⟨c_53, c_68⟩)]; done) | (rw [if_neg (mHB_0 c_38)]; done) | (rw [if_neg (fun z => ((mHB_1 hx9 hx8).mp z).1 c_53)]; done) | (rw [if_neg (fun z => c_68 ((mHB_1 hx9 hx8).mp z).2)]; done)) ?_
                exact J76 ls (lv_sub hl [0, 1, 2, 3, 4, 5, 6] rfl) _ _ hX
        refine lv_icmp_ne (tgt := 31) C.x C.b dX9_height_24 (by decide) (fun c_24 => ?_) (fun c_24 => ?_)
        · skip
          refine lv_iconst (v := nI 0) C.x C.b dX9_height_31 (by decide) ?_
          refine k_topi (y := (kbI (mPV en ot n9 w9 s8 = nI 2))) (by first | exact kbI_tN c_24 | exact kbI_fN c_24) ?_
          exact J32 ls (lv_sub hl [0, 1, 2, 3, 4, 5] rfl) _ _ hX
        · skip
          refine lv_iconst (v := nI 1) C.x C.b dX9_height_27 (by decide) ?_
          refine lv_goto (tgt := 32) C.x C.b dX9_height_28 (by decide) ?_
          refine k_topi (y := (kbI (mPV en ot n9 w9 s8 = nI 2))) (by first | exact kbI_tN c_24 | exact kbI_fN c_24) ?_
          exact J32 ls (lv_sub hl [0, 1, 2, 3, 4, 5] rfl) _ _ hX
  exact LOOP6 _ 0 _ (Nat.zero_le _) (Nat.lt_succ_self _) ls (lv_sub hl [1, 0, 2, 3, 4, 5] rfl) _ hM hO _ _ hX

theorem hdX9_side_X9_isNode : yX9_isNode.cls ≠ "java/lang/invoke/MethodHandle" ∧ yX9_isNode.cls ≠ "java/lang/invoke/VarHandle" ∧ (parseMethodDescriptor yX9_isNode.desc).map (fun d => d.parameters.length) = some 1 := by decide +kernel
theorem lk_X9_side_f80 : Cond.fieldLink RX9 80 "KoebehallModel" "thrown" "I" ∈ wsX9_side := by decide +kernel
theorem hin_X9_side_RX9 : ∀ w ∈ u_ws RX9 TX9 28, w ∈ wsX9_side := by decide +kernel
theorem lk_X9_side_f209 : Cond.fieldLink RX9 209 "KoebehallModel" "wires" "I" ∈ wsX9_side := by decide +kernel
theorem hdX9_side_X9_isIn : yX9_isIn.cls ≠ "java/lang/invoke/MethodHandle" ∧ yX9_isIn.cls ≠ "java/lang/invoke/VarHandle" ∧ (parseMethodDescriptor yX9_isIn.desc).map (fun d => d.parameters.length) = some 3 := by decide +kernel
abbrev rmX9_side_b1 : Room := { frames := 2, cells := 0, slots := 0, locals := 46 }
set_option maxHeartbeats 4000000 in
set_option maxRecDepth 100000 in
/-- X9_side_b1 -/
theorem kX9_side_b1 (l : Launch) (G : kG) (B0 : Nat) (f : kH) (h : Nat) (q : Nat → Nat) (i0 i1 i3 i7 i18 i22 i23 i27 : Int32) (j16 j17 : Int64) (a2 : Nat → Int32) (a4 : Nat → Int32) (a5 : Nat → Int32) (a6 : Nat → Int32) (b8 : Nat → Int64) (b9 : Nat → Int64) (b10 : Nat → Int64) (a11 : Nat → Int32) (a12 : Nat → Int32) (a13 : Nat → Int32) (a14 : Nat → Int32) (b15 : Nat → Int64) (b19 : Nat → Int64) (b20 : Nat → Int64) (b21 : Nat → Int64) (a24 : Nat → Int32) (a25 : Nat → Int32) (a26 : Nat → Int32) (en ot : Nat → Nat) (n9 w9 : Nat) (a b c9 : Int32) (hM : kCs f (mC G h q i0 i1 i3 i7 i18 i22 i23 i27 j16 j17 a2 a4 a5 a6 b8 b9 b10 a11 a12 a13 a14 b15 b19 b20 b21 a24 a25 a26)) (hn0 : i22 = nI n9) (hn9 : n9 ≤ 6) (hw0 : i23 = nI w9) (hw9 : w9 ≤ 10) (hen : ∀ k, k < w9 → a24 k = nI (en k) ∧ en k < n9) (hot : ∀ k, k < w9 → a25 k = nI (ot k) ∧ ot k < n9) (hv : ¬ mSv a b c9 n9 w9) : Met l yX9_side wsX9_side (rmX9_side_b1) (kP G B0 f [.ref h, .int a, .int b, .int c9]) (kQi G B0 (fun r f1 => r = nI 0 ∧ kCs f1 (mC G h q i0 i1 i3 i7 i18 i22 i23 (nI 1) j16 j17 a2 a4 a5 a6 b8 b9 b10 a11 a12 a13 a14 b15 b19 b20 b21 a24 a25 a26) ∧ kOff (mAs h q) f f1)) 0 0 (kAb B0) := by
  refine kMet (cc := cX9_side) (maxL := 5) (ret := (some .int)) (by decide) rfl (Nat.le_of_ble_eq_true rfl) ?_
  intro p e s m args below meth c H locs Q ls C hX hl hr hlocks hnm hQ
  have hO : kOff (mAs h q) f f := kOff.rf
  have hl : lv_has ls 5 [(0, .ref h), (1, .int a), (2, .int b), (3, .int c9)] := hl
  refine lv_aload_n C.x C.b dX9_side_0 rfl (lv_at hl 0 rfl) ?_
  refine lv_iload_n C.x C.b dX9_side_1 rfl (lv_at hl 1 rfl) ?_
  refine k_calli (va_runV (As := [.int a]) (rest := []) C.1 (kX9_isNode l G B0 f h q i0 i1 i3 i7 i18 i22 i23 i27 j16 j17 a2 a4 a5 a6 b8 b9 b10 a11 a12 a13 a14 b15 b19 b20 b21 a24 a25 a26 a n9 hM hn0 (by omega)) (cwV 1 C.ts gX9_side_X9_isNode rfl rfl rfl ⟨rfl, hdX9_side_X9_isNode⟩ ⟨Nat.le_of_ble_eq_true rfl, Nat.le_of_ble_eq_true rfl⟩) (k_preV C hX (hM.at 0 rfl) rfl) rfl rfl hl.1 rfl (lv_room (Nat.le_of_ble_eq_true rfl)) dX9_side_2 ⟨Nat.le_of_ble_eq_true rfl, Nat.le_of_ble_eq_true rfl⟩) hX (fun r2 f2 H locs hp2 hX => ?_)
  obtain ⟨hr2, hf2⟩ := hp2
  rw [hf2] at hX
  refine k_topi (y := (kbI (mIn a n9))) hr2 ?_
  have J42 : ∀ (ls : Array Slot), lv_has ls 5 [(0, .ref h), (1, .int a), (2, .int b), (3, .int c9)] → ∀ (H : Heap) (locs : List Loc), kX G B0 s f H locs → W p l e (rmX9_side_b1) s m args below meth c H locs 0 0 Q (F0 m 42 ls [.int (kbI (mSv a b c9 n9 w9))]) := by
    intro ls hl H locs hX
    refine lv_istore (lv' := [(4, .int (kbI (mSv a b c9 n9 w9))), (0, .ref h), (1, .int a), (2, .int b), (3, .int c9)]) C.x C.b dX9_side_42 hl (by decide) rfl (fun ls hl => ?_)
    refine lv_aload_n C.x C.b dX9_side_44 rfl (lv_at hl 1 rfl) ?_
    refine lv_iload C.x C.b dX9_side_45 (lv_at hl 0 rfl) ?_
    refine lv_if_ne (tgt := 54) C.x C.b dX9_side_47 (by decide) (fun c_47 => ?_) (fun c_47 => ?_)
    · exact absurd (kbI_1 c_47) (hv)
    refine lv_iconst (v := nI 1) C.x C.b dX9_side_50 (by decide) ?_
    refine lv_goto (tgt := 75) C.x C.b dX9_side_51 (by decide) ?_
    refine k_put (X := RX9) (T := TX9) (N := 28) (ty := .int) (v := .int (nI 1)) C hX (hM.at 0 rfl) rfl hin_X9_side_RX9 tyX9_ok nmX9 27 (by decide) lk_X9_side_f80 (fun _ h9 => h9) rfl (by decide +kernel) rfl rfl (Nat.le_of_ble_eq_true rfl) dX9_side_75 (fun H locs hX => ?_)
    obtain ⟨g1, hX, hM, hO⟩ := kX.wr hX hM hO 0 rfl (List.mem_of_getElem? (i := 0) rfl)
    have hM : kCs g1 (mC G h q i0 i1 i3 i7 i18 i22 i23 (nI 1) j16 j17 a2 a4 a5 a6 b8 b9 b10 a11 a12 a13 a14 b15 b19 b20 b21 a24 a25 a26) := hM
    refine lv_aload_n C.x C.b dX9_side_78 rfl (lv_at hl 1 rfl) ?_
    refine k_get (X := RX9) (T := TX9) (N := 28) (v := .int (nI 1)) C hX (hM.at 0 rfl) rfl hin_X9_side_RX9 27 (by decide) lk_X9_side_f80 (fun _ h9 => h9) rfl dX9_side_79 ?_
    refine lv_if_le (tgt := 87) C.x C.b dX9_side_82 (by decide) (fun c_82 => ?_) (fun c_82 => ?_)
    · exact absurd c_82 (by decide)
    refine lv_iconst (v := nI 0) C.x C.b dX9_side_85 (by decide) ?_
    exact k_iret C hX hr hlocks hQ (by omega) (by omega) (⟨rfl, hM, hO⟩) dX9_side_86
  refine lv_if_eq (tgt := 41) C.x C.b dX9_side_5 (by decide) (fun c_5 => ?_) (fun c_5 => ?_)
  · skip
    have c_5 := kbI_0 c_5
    refine lv_iconst (v := nI 0) C.x C.b dX9_side_41 (by decide) ?_
    refine k_topi (y := (kbI (mSv a b c9 n9 w9))) (by first | exact kbI_tN ⟨c_5, c_13, Or.inl c_18⟩ | exact kbI_tN ⟨c_5, c_13, Or.inr c_34⟩ | exact kbI_fN (fun z => c_5 z.1) | exact kbI_fN (fun z => c_13 z.2.1) | exact kbI_fN (fun z => z.2.2.elim c_18 c_34)) ?_
    exact J42 ls (lv_sub hl [0, 1, 2, 3] rfl) _ _ hX
  · skip
    have c_5 := kbI_1 c_5
    refine lv_aload_n C.x C.b dX9_side_8 rfl (lv_at hl 0 rfl) ?_
    refine lv_iload_n C.x C.b dX9_side_9 rfl (lv_at hl 2 rfl) ?_
    refine k_calli (va_runV (As := [.int b]) (rest := []) C.1 (kX9_isNode l G B0 f h q i0 i1 i3 i7 i18 i22 i23 i27 j16 j17 a2 a4 a5 a6 b8 b9 b10 a11 a12 a13 a14 b15 b19 b20 b21 a24 a25 a26 b n9 hM hn0 (by omega)) (cwV 1 C.ts gX9_side_X9_isNode rfl rfl rfl ⟨rfl, hdX9_side_X9_isNode⟩ ⟨Nat.le_of_ble_eq_true rfl, Nat.le_of_ble_eq_true rfl⟩) (k_preV C hX (hM.at 0 rfl) rfl) rfl rfl hl.1 rfl (lv_room (Nat.le_of_ble_eq_true rfl)) dX9_side_10 ⟨Nat.le_of_ble_eq_true rfl, Nat.le_of_ble_eq_true rfl⟩) hX (fun r10 f10 H locs hp10 hX => ?_)
    obtain ⟨hr10, hf10⟩ := hp10
    rw [hf10] at hX
    refine k_topi (y := (kbI (mIn b n9))) hr10 ?_
    refine lv_if_eq (tgt := 41) C.x C.b dX9_side_13 (by decide) (fun c_13 => ?_) (fun c_13 => ?_)
    · skip
      have c_13 := kbI_0 c_13
      refine lv_iconst (v := nI 0) C.x C.b dX9_side_41 (by decide) ?_
      refine k_topi (y := (kbI (mSv a b c9 n9 w9))) (by first | exact kbI_tN ⟨c_5, c_13, Or.inl c_18⟩ | exact kbI_tN ⟨c_5, c_13, Or.inr c_34⟩ | exact kbI_fN (fun z => c_5 z.1) | exact kbI_fN (fun z => c_13 z.2.1) | exact kbI_fN (fun z => z.2.2.elim c_18 c_34)) ?_
      exact J42 ls (lv_sub hl [0, 1, 2, 3] rfl) _ _ hX
    · skip
      have c_13 := kbI_1 c_13
      refine lv_iload_n C.x C.b dX9_side_16 rfl (lv_at hl 3 rfl) ?_
      refine lv_iconst (v := -1) C.x C.b dX9_side_17 (by decide) ?_
      refine lv_icmp_eq (tgt := 37) C.x C.b dX9_side_18 (by decide) (fun c_18 => ?_) (fun c_18 => ?_)
      · skip
        refine lv_iconst (v := nI 1) C.x C.b dX9_side_37 (by decide) ?_
        refine lv_goto (tgt := 42) C.x C.b dX9_side_38 (by decide) ?_
        refine k_topi (y := (kbI (mSv a b c9 n9 w9))) (by first | exact kbI_tN ⟨c_5, c_13, Or.inl c_18⟩ | exact kbI_tN ⟨c_5, c_13, Or.inr c_34⟩ | exact kbI_fN (fun z => c_5 z.1) | exact kbI_fN (fun z => c_13 z.2.1) | exact kbI_fN (fun z => z.2.2.elim c_18 c_34)) ?_
        exact J42 ls (lv_sub hl [0, 1, 2, 3] rfl) _ _ hX
      · skip
        refine lv_iload_n C.x C.b dX9_side_21 rfl (lv_at hl 3 rfl) ?_
        refine lv_i2l (v := c9.toInt64) C.x C.b dX9_side_22 rfl ?_
        refine lv_lconst (v := 0) C.x C.b dX9_side_23 (by decide) ?_
        refine lv_aload_n C.x C.b dX9_side_24 rfl (lv_at hl 0 rfl) ?_
        refine k_get (X := RX9) (T := TX9) (N := 28) (v := .int i23) C hX (hM.at 0 rfl) rfl hin_X9_side_RX9 23 (by decide) lk_X9_side_f209 (fun _ h9 => h9) rfl dX9_side_25 ?_
        refine k_topi (y := (nI w9)) (hw0) ?_
        refine lv_iconst (v := nI 1) C.x C.b dX9_side_28 (by decide) ?_
        refine lv_isub C.x C.b dX9_side_29 ?_
        refine lv_i2l (v := ((nI w9) - (nI 1)).toInt64) C.x C.b dX9_side_30 rfl ?_
        refine k_calli (va_runS (As := [.long c9.toInt64, .long 0, .long (((nI w9) - (nI 1)).toInt64)]) (rest := []) C.1 (kX9_isIn l G B0 f c9.toInt64 0 ((nI w9 - nI 1).toInt64)) (va_cwS 3 C.ts gX9_side_X9_isIn rfl rfl rfl (hdX9_side_X9_isIn) ⟨Nat.le_of_ble_eq_true rfl, Nat.le_of_ble_eq_true rfl⟩) (k_preS C hX) rfl rfl hl.1 rfl (lv_room (Nat.le_of_ble_eq_true rfl)) dX9_side_31 ⟨Nat.le_of_ble_eq_true rfl, Nat.le_of_ble_eq_true rfl⟩) hX (fun r31 f31 H locs hp31 hX => ?_)
        obtain ⟨hr31, hf31⟩ := hp31
        rw [hf31] at hX
        refine k_topi (y := (kbI ((0 : Int64) ≤ c9.toInt64 ∧ c9.toInt64 ≤ (nI w9 - nI 1).toInt64))) hr31 ?_
        refine k_topi (y := (kbI (mIn c9 w9))) (kbI_c (m_in (by omega))) ?_
        refine lv_if_eq (tgt := 41) C.x C.b dX9_side_34 (by decide) (fun c_34 => ?_) (fun c_34 => ?_)
        · skip
          have c_34 := kbI_0 c_34
          refine lv_iconst (v := nI 0) C.x C.b dX9_side_41 (by decide) ?_
          refine k_topi (y := (kbI (mSv a b c9 n9 w9))) (by first | exact kbI_tN ⟨c_5, c_13, Or.inl c_18⟩ | exact kbI_tN ⟨c_5, c_13, Or.inr c_34⟩ | exact kbI_fN (fun z => c_5 z.1) | exact kbI_fN (fun z => c_13 z.2.1) | exact kbI_fN (fun z => z.2.2.elim c_18 c_34)) ?_
          exact J42 ls (lv_sub hl [0, 1, 2, 3] rfl) _ _ hX
        · skip
          have c_34 := kbI_1 c_34
          refine lv_iconst (v := nI 1) C.x C.b dX9_side_37 (by decide) ?_
          refine lv_goto (tgt := 42) C.x C.b dX9_side_38 (by decide) ?_
          refine k_topi (y := (kbI (mSv a b c9 n9 w9))) (by first | exact kbI_tN ⟨c_5, c_13, Or.inl c_18⟩ | exact kbI_tN ⟨c_5, c_13, Or.inr c_34⟩ | exact kbI_fN (fun z => c_5 z.1) | exact kbI_fN (fun z => c_13 z.2.1) | exact kbI_fN (fun z => z.2.2.elim c_18 c_34)) ?_
          exact J42 ls (lv_sub hl [0, 1, 2, 3] rfl) _ _ hX

abbrev rmX9_side_b2 : Room := { frames := 2, cells := 0, slots := 0, locals := 46 }
set_option maxHeartbeats 4000000 in
set_option maxRecDepth 100000 in
/-- X9_side_b2 -/
theorem kX9_side_b2 (l : Launch) (G : kG) (B0 : Nat) (f : kH) (h : Nat) (q : Nat → Nat) (i0 i1 i3 i7 i18 i22 i23 i27 : Int32) (j16 j17 : Int64) (a2 : Nat → Int32) (a4 : Nat → Int32) (a5 : Nat → Int32) (a6 : Nat → Int32) (b8 : Nat → Int64) (b9 : Nat → Int64) (b10 : Nat → Int64) (a11 : Nat → Int32) (a12 : Nat → Int32) (a13 : Nat → Int32) (a14 : Nat → Int32) (b15 : Nat → Int64) (b19 : Nat → Int64) (b20 : Nat → Int64) (b21 : Nat → Int64) (a24 : Nat → Int32) (a25 : Nat → Int32) (a26 : Nat → Int32) (en ot : Nat → Nat) (n9 w9 : Nat) (a b c9 : Int32) (hM : kCs f (mC G h q i0 i1 i3 i7 i18 i22 i23 i27 j16 j17 a2 a4 a5 a6 b8 b9 b10 a11 a12 a13 a14 b15 b19 b20 b21 a24 a25 a26)) (hn0 : i22 = nI n9) (hn9 : n9 ≤ 6) (hw0 : i23 = nI w9) (hw9 : w9 ≤ 10) (hen : ∀ k, k < w9 → a24 k = nI (en k) ∧ en k < n9) (hot : ∀ k, k < w9 → a25 k = nI (ot k) ∧ ot k < n9) (hv : mSv a b c9 n9 w9) (hab : a = b) : Met l yX9_side wsX9_side (rmX9_side_b2) (kP G B0 f [.ref h, .int a, .int b, .int c9]) (kQi G B0 (fun r f1 => r = nI 0 ∧ kCs f1 (mC G h q i0 i1 i3 i7 i18 i22 i23 (nI 2) j16 j17 a2 a4 a5 a6 b8 b9 b10 a11 a12 a13 a14 b15 b19 b20 b21 a24 a25 a26) ∧ kOff (mAs h q) f f1)) 0 0 (kAb B0) := by
  refine kMet (cc := cX9_side) (maxL := 5) (ret := (some .int)) (by decide) rfl (Nat.le_of_ble_eq_true rfl) ?_
  intro p e s m args below meth c H locs Q ls C hX hl hr hlocks hnm hQ
  have hO : kOff (mAs h q) f f := kOff.rf
  have hl : lv_has ls 5 [(0, .ref h), (1, .int a), (2, .int b), (3, .int c9)] := hl
  refine lv_aload_n C.x C.b dX9_side_0 rfl (lv_at hl 0 rfl) ?_
  refine lv_iload_n C.x C.b dX9_side_1 rfl (lv_at hl 1 rfl) ?_
  refine k_calli (va_runV (As := [.int a]) (rest := []) C.1 (kX9_isNode l G B0 f h q i0 i1 i3 i7 i18 i22 i23 i27 j16 j17 a2 a4 a5 a6 b8 b9 b10 a11 a12 a13 a14 b15 b19 b20 b21 a24 a25 a26 a n9 hM hn0 (by omega)) (cwV 1 C.ts gX9_side_X9_isNode rfl rfl rfl ⟨rfl, hdX9_side_X9_isNode⟩ ⟨Nat.le_of_ble_eq_true rfl, Nat.le_of_ble_eq_true rfl⟩) (k_preV C hX (hM.at 0 rfl) rfl) rfl rfl hl.1 rfl (lv_room (Nat.le_of_ble_eq_true rfl)) dX9_side_2 ⟨Nat.le_of_ble_eq_true rfl, Nat.le_of_ble_eq_true rfl⟩) hX (fun r2 f2 H locs hp2 hX => ?_)
  obtain ⟨hr2, hf2⟩ := hp2
  rw [hf2] at hX
  refine k_topi (y := (kbI (mIn a n9))) hr2 ?_
  have J42 : ∀ (ls : Array Slot), lv_has ls 5 [(0, .ref h), (1, .int a), (2, .int b), (3, .int c9)] → ∀ (H : Heap) (locs : List Loc), kX G B0 s f H locs → W p l e (rmX9_side_b2) s m args below meth c H locs 0 0 Q (F0 m 42 ls [.int (kbI (mSv a b c9 n9 w9))]) := by
    intro ls hl H locs hX
    refine lv_istore (lv' := [(4, .int (kbI (mSv a b c9 n9 w9))), (0, .ref h), (1, .int a), (2, .int b), (3, .int c9)]) C.x C.b dX9_side_42 hl (by decide) rfl (fun ls hl => ?_)
    refine lv_aload_n C.x C.b dX9_side_44 rfl (lv_at hl 1 rfl) ?_
    refine lv_iload C.x C.b dX9_side_45 (lv_at hl 0 rfl) ?_
    refine lv_if_ne (tgt := 54) C.x C.b dX9_side_47 (by decide) (fun c_47 => ?_) (fun c_47 => ?_)
    rotate_left
    · exact absurd (hv) (kbI_0 c_47)
    refine lv_iload_n C.x C.b dX9_side_54 rfl (lv_at hl 2 rfl) ?_
    refine lv_iload_n C.x C.b dX9_side_55 rfl (lv_at hl 3 rfl) ?_
    refine lv_icmp_ne (tgt := 63) C.x C.b dX9_side_56 (by decide) (fun c_56 => ?_) (fun c_56 => ?_)
    · skip
      exact absurd hab c_56
    refine lv_iconst (v := nI 2) C.x C.b dX9_side_59 (by decide) ?_
    refine lv_goto (tgt := 75) C.x C.b dX9_side_60 (by decide) ?_
    refine k_put (X := RX9) (T := TX9) (N := 28) (ty := .int) (v := .int (nI 2)) C hX (hM.at 0 rfl) rfl hin_X9_side_RX9 tyX9_ok nmX9 27 (by decide) lk_X9_side_f80 (fun _ h9 => h9) rfl (by decide +kernel) rfl rfl (Nat.le_of_ble_eq_true rfl) dX9_side_75 (fun H locs hX => ?_)
    obtain ⟨g1, hX, hM, hO⟩ := kX.wr hX hM hO 0 rfl (List.mem_of_getElem? (i := 0) rfl)
    have hM : kCs g1 (mC G h q i0 i1 i3 i7 i18 i22 i23 (nI 2) j16 j17 a2 a4 a5 a6 b8 b9 b10 a11 a12 a13 a14 b15 b19 b20 b21 a24 a25 a26) := hM
    refine lv_aload_n C.x C.b dX9_side_78 rfl (lv_at hl 1 rfl) ?_
    refine k_get (X := RX9) (T := TX9) (N := 28) (v := .int (nI 2)) C hX (hM.at 0 rfl) rfl hin_X9_side_RX9 27 (by decide) lk_X9_side_f80 (fun _ h9 => h9) rfl dX9_side_79 ?_
    refine lv_if_le (tgt := 87) C.x C.b dX9_side_82 (by decide) (fun c_82 => ?_) (fun c_82 => ?_)
    · exact absurd c_82 (by decide)
    refine lv_iconst (v := nI 0) C.x C.b dX9_side_85 (by decide) ?_
    exact k_iret C hX hr hlocks hQ (by omega) (by omega) (⟨rfl, hM, hO⟩) dX9_side_86
  refine lv_if_eq (tgt := 41) C.x C.b dX9_side_5 (by decide) (fun c_5 => ?_) (fun c_5 => ?_)
  · skip
    have c_5 := kbI_0 c_5
    refine lv_iconst (v := nI 0) C.x C.b dX9_side_41 (by decide) ?_
    refine k_topi (y := (kbI (mSv a b c9 n9 w9))) (by first | exact kbI_tN ⟨c_5, c_13, Or.inl c_18⟩ | exact kbI_tN ⟨c_5, c_13, Or.inr c_34⟩ | exact kbI_fN (fun z => c_5 z.1) | exact kbI_fN (fun z => c_13 z.2.1) | exact kbI_fN (fun z => z.2.2.elim c_18 c_34)) ?_
    exact J42 ls (lv_sub hl [0, 1, 2, 3] rfl) _ _ hX
  · skip
    have c_5 := kbI_1 c_5
    refine lv_aload_n C.x C.b dX9_side_8 rfl (lv_at hl 0 rfl) ?_
    refine lv_iload_n C.x C.b dX9_side_9 rfl (lv_at hl 2 rfl) ?_
    refine k_calli (va_runV (As := [.int b]) (rest := []) C.1 (kX9_isNode l G B0 f h q i0 i1 i3 i7 i18 i22 i23 i27 j16 j17 a2 a4 a5 a6 b8 b9 b10 a11 a12 a13 a14 b15 b19 b20 b21 a24 a25 a26 b n9 hM hn0 (by omega)) (cwV 1 C.ts gX9_side_X9_isNode rfl rfl rfl ⟨rfl, hdX9_side_X9_isNode⟩ ⟨Nat.le_of_ble_eq_true rfl, Nat.le_of_ble_eq_true rfl⟩) (k_preV C hX (hM.at 0 rfl) rfl) rfl rfl hl.1 rfl (lv_room (Nat.le_of_ble_eq_true rfl)) dX9_side_10 ⟨Nat.le_of_ble_eq_true rfl, Nat.le_of_ble_eq_true rfl⟩) hX (fun r10 f10 H locs hp10 hX => ?_)
    obtain ⟨hr10, hf10⟩ := hp10
    rw [hf10] at hX
    refine k_topi (y := (kbI (mIn b n9))) hr10 ?_
    refine lv_if_eq (tgt := 41) C.x C.b dX9_side_13 (by decide) (fun c_13 => ?_) (fun c_13 => ?_)
    · skip
      have c_13 := kbI_0 c_13
      refine lv_iconst (v := nI 0) C.x C.b dX9_side_41 (by decide) ?_
      refine k_topi (y := (kbI (mSv a b c9 n9 w9))) (by first | exact kbI_tN ⟨c_5, c_13, Or.inl c_18⟩ | exact kbI_tN ⟨c_5, c_13, Or.inr c_34⟩ | exact kbI_fN (fun z => c_5 z.1) | exact kbI_fN (fun z => c_13 z.2.1) | exact kbI_fN (fun z => z.2.2.elim c_18 c_34)) ?_
      exact J42 ls (lv_sub hl [0, 1, 2, 3] rfl) _ _ hX
    · skip
      have c_13 := kbI_1 c_13
      refine lv_iload_n C.x C.b dX9_side_16 rfl (lv_at hl 3 rfl) ?_
      refine lv_iconst (v := -1) C.x C.b dX9_side_17 (by decide) ?_
      refine lv_icmp_eq (tgt := 37) C.x C.b dX9_side_18 (by decide) (fun c_18 => ?_) (fun c_18 => ?_)
      · skip
        refine lv_iconst (v := nI 1) C.x C.b dX9_side_37 (by decide) ?_
        refine lv_goto (tgt := 42) C.x C.b dX9_side_38 (by decide) ?_
        refine k_topi (y := (kbI (mSv a b c9 n9 w9))) (by first | exact kbI_tN ⟨c_5, c_13, Or.inl c_18⟩ | exact kbI_tN ⟨c_5, c_13, Or.inr c_34⟩ | exact kbI_fN (fun z => c_5 z.1) | exact kbI_fN (fun z => c_13 z.2.1) | exact kbI_fN (fun z => z.2.2.elim c_18 c_34)) ?_
        exact J42 ls (lv_sub hl [0, 1, 2, 3] rfl) _ _ hX
      · skip
        refine lv_iload_n C.x C.b dX9_side_21 rfl (lv_at hl 3 rfl) ?_
        refine lv_i2l (v := c9.toInt64) C.x C.b dX9_side_22 rfl ?_
        refine lv_lconst (v := 0) C.x C.b dX9_side_23 (by decide) ?_
        refine lv_aload_n C.x C.b dX9_side_24 rfl (lv_at hl 0 rfl) ?_
        refine k_get (X := RX9) (T := TX9) (N := 28) (v := .int i23) C hX (hM.at 0 rfl) rfl hin_X9_side_RX9 23 (by decide) lk_X9_side_f209 (fun _ h9 => h9) rfl dX9_side_25 ?_
        refine k_topi (y := (nI w9)) (hw0) ?_
        refine lv_iconst (v := nI 1) C.x C.b dX9_side_28 (by decide) ?_
        refine lv_isub C.x C.b dX9_side_29 ?_
        refine lv_i2l (v := ((nI w9) - (nI 1)).toInt64) C.x C.b dX9_side_30 rfl ?_
        refine k_calli (va_runS (As := [.long c9.toInt64, .long 0, .long (((nI w9) - (nI 1)).toInt64)]) (rest := []) C.1 (kX9_isIn l G B0 f c9.toInt64 0 ((nI w9 - nI 1).toInt64)) (va_cwS 3 C.ts gX9_side_X9_isIn rfl rfl rfl (hdX9_side_X9_isIn) ⟨Nat.le_of_ble_eq_true rfl, Nat.le_of_ble_eq_true rfl⟩) (k_preS C hX) rfl rfl hl.1 rfl (lv_room (Nat.le_of_ble_eq_true rfl)) dX9_side_31 ⟨Nat.le_of_ble_eq_true rfl, Nat.le_of_ble_eq_true rfl⟩) hX (fun r31 f31 H locs hp31 hX => ?_)
        obtain ⟨hr31, hf31⟩ := hp31
        rw [hf31] at hX
        refine k_topi (y := (kbI ((0 : Int64) ≤ c9.toInt64 ∧ c9.toInt64 ≤ (nI w9 - nI 1).toInt64))) hr31 ?_
        refine k_topi (y := (kbI (mIn c9 w9))) (kbI_c (m_in (by omega))) ?_
        refine lv_if_eq (tgt := 41) C.x C.b dX9_side_34 (by decide) (fun c_34 => ?_) (fun c_34 => ?_)
        · skip
          have c_34 := kbI_0 c_34
          refine lv_iconst (v := nI 0) C.x C.b dX9_side_41 (by decide) ?_
          refine k_topi (y := (kbI (mSv a b c9 n9 w9))) (by first | exact kbI_tN ⟨c_5, c_13, Or.inl c_18⟩ | exact kbI_tN ⟨c_5, c_13, Or.inr c_34⟩ | exact kbI_fN (fun z => c_5 z.1) | exact kbI_fN (fun z => c_13 z.2.1) | exact kbI_fN (fun z => z.2.2.elim c_18 c_34)) ?_
          exact J42 ls (lv_sub hl [0, 1, 2, 3] rfl) _ _ hX
        · skip
          have c_34 := kbI_1 c_34
          refine lv_iconst (v := nI 1) C.x C.b dX9_side_37 (by decide) ?_
          refine lv_goto (tgt := 42) C.x C.b dX9_side_38 (by decide) ?_
          refine k_topi (y := (kbI (mSv a b c9 n9 w9))) (by first | exact kbI_tN ⟨c_5, c_13, Or.inl c_18⟩ | exact kbI_tN ⟨c_5, c_13, Or.inr c_34⟩ | exact kbI_fN (fun z => c_5 z.1) | exact kbI_fN (fun z => c_13 z.2.1) | exact kbI_fN (fun z => z.2.2.elim c_18 c_34)) ?_
          exact J42 ls (lv_sub hl [0, 1, 2, 3] rfl) _ _ hX

theorem hdX9_side_X9_treesOf : yX9_treesOf.cls ≠ "java/lang/invoke/MethodHandle" ∧ yX9_treesOf.cls ≠ "java/lang/invoke/VarHandle" ∧ (parseMethodDescriptor yX9_treesOf.desc).map (fun d => d.parameters.length) = some 0 := by decide +kernel
abbrev rmX9_side_b3 : Room := { frames := 2, cells := 0, slots := 0, locals := 48 }
set_option maxHeartbeats 4000000 in
set_option maxRecDepth 100000 in
/-- X9_side_b3 -/
theorem kX9_side_b3 (l : Launch) (G : kG) (B0 : Nat) (f : kH) (h : Nat) (q : Nat → Nat) (i0 i1 i3 i7 i18 i22 i23 i27 : Int32) (j16 j17 : Int64) (a2 : Nat → Int32) (a4 : Nat → Int32) (a5 : Nat → Int32) (a6 : Nat → Int32) (b8 : Nat → Int64) (b9 : Nat → Int64) (b10 : Nat → Int64) (a11 : Nat → Int32) (a12 : Nat → Int32) (a13 : Nat → Int32) (a14 : Nat → Int32) (b15 : Nat → Int64) (b19 : Nat → Int64) (b20 : Nat → Int64) (b21 : Nat → Int64) (a24 : Nat → Int32) (a25 : Nat → Int32) (a26 : Nat → Int32) (en ot : Nat → Nat) (n9 w9 : Nat) (fr to : Nat) (c9 : Int32) (hM : kCs f (mC G h q i0 i1 i3 i7 i18 i22 i23 i27 j16 j17 a2 a4 a5 a6 b8 b9 b10 a11 a12 a13 a14 b15 b19 b20 b21 a24 a25 a26)) (hn0 : i22 = nI n9) (hn9 : n9 ≤ 6) (hw0 : i23 = nI w9) (hw9 : w9 ≤ 10) (hen : ∀ k, k < w9 → a24 k = nI (en k) ∧ en k < n9) (hot : ∀ k, k < w9 → a25 k = nI (ot k) ∧ ot k < n9) (hfr : fr < n9) (hto : to < n9) (hft : fr ≠ to) (hc : c9 = -1 ∨ mIn c9 w9) (hT : mTrees en ot n9 w9 = 0) : Met l yX9_side wsX9_side (rmX9_side_b3) (kP G B0 f [.ref h, .int (nI fr), .int (nI to), .int c9]) (kQi G B0 (fun r f1 => r = nI 0 ∧ ∃ F1 : Nat → Int32, kCs f1 (mC G h q i0 i1 i3 i7 i18 i22 i23 (nI 3) j16 j17 a2 a4 a5 a6 b8 b9 b10 a11 a12 a13 a14 b15 b19 b20 b21 a24 a25 F1) ∧ kOff (mAs h q) f f1)) 0 0 (kAb B0) := by
  refine kMet (cc := cX9_side) (maxL := 5) (ret := (some .int)) (by decide) rfl (Nat.le_of_ble_eq_true rfl) ?_
  intro p e s m args below meth c H locs Q ls C hX hl hr hlocks hnm hQ
  have hO : kOff (mAs h q) f f := kOff.rf
  have hl : lv_has ls 5 [(0, .ref h), (1, .int (nI fr)), (2, .int (nI to)), (3, .int c9)] := hl
  refine lv_aload_n C.x C.b dX9_side_0 rfl (lv_at hl 0 rfl) ?_
  refine lv_iload_n C.x C.b dX9_side_1 rfl (lv_at hl 1 rfl) ?_
  refine k_calli (va_runV (As := [.int (nI fr)]) (rest := []) C.1 (kX9_isNode l G B0 f h q i0 i1 i3 i7 i18 i22 i23 i27 j16 j17 a2 a4 a5 a6 b8 b9 b10 a11 a12 a13 a14 b15 b19 b20 b21 a24 a25 a26 (nI fr) n9 hM hn0 (by omega)) (cwV 1 C.ts gX9_side_X9_isNode rfl rfl rfl ⟨rfl, hdX9_side_X9_isNode⟩ ⟨Nat.le_of_ble_eq_true rfl, Nat.le_of_ble_eq_true rfl⟩) (k_preV C hX (hM.at 0 rfl) rfl) rfl rfl hl.1 rfl (lv_room (Nat.le_of_ble_eq_true rfl)) dX9_side_2 ⟨Nat.le_of_ble_eq_true rfl, Nat.le_of_ble_eq_true rfl⟩) hX (fun r2 f2 H locs hp2 hX => ?_)
  obtain ⟨hr2, hf2⟩ := hp2
  rw [hf2] at hX
  refine k_topi (y := (kbI (mIn (nI fr) n9))) hr2 ?_
  have J42 : ∀ (ls : Array Slot), lv_has ls 5 [(0, .ref h), (1, .int (nI fr)), (2, .int (nI to)), (3, .int c9)] → ∀ (H : Heap) (locs : List Loc), kX G B0 s f H locs → W p l e (rmX9_side_b3) s m args below meth c H locs 0 0 Q (F0 m 42 ls [.int (kbI (mSv (nI fr) (nI to) c9 n9 w9))]) := by
    intro ls hl H locs hX
    refine lv_istore (lv' := [(4, .int (kbI (mSv (nI fr) (nI to) c9 n9 w9))), (0, .ref h), (1, .int (nI fr)), (2, .int (nI to)), (3, .int c9)]) C.x C.b dX9_side_42 hl (by decide) rfl (fun ls hl => ?_)
    refine lv_aload_n C.x C.b dX9_side_44 rfl (lv_at hl 1 rfl) ?_
    refine lv_iload C.x C.b dX9_side_45 (lv_at hl 0 rfl) ?_
    refine lv_if_ne (tgt := 54) C.x C.b dX9_side_47 (by decide) (fun c_47 => ?_) (fun c_47 => ?_)
    rotate_left
    · exact absurd ((And.intro ((mIn_nI (by omega)).mpr hfr) (And.intro ((mIn_nI (by omega)).mpr hto) hc))) (kbI_0 c_47)
    refine lv_iload_n C.x C.b dX9_side_54 rfl (lv_at hl 2 rfl) ?_
    refine lv_iload_n C.x C.b dX9_side_55 rfl (lv_at hl 3 rfl) ?_
    refine lv_icmp_ne (tgt := 63) C.x C.b dX9_side_56 (by decide) (fun c_56 => ?_) (fun c_56 => ?_)
    rotate_left
    · skip
      have c_56 : fr = to := (nI_eq (by omega) (by omega)).mp c_56
      omega
    have c_56 : ¬ (fr = to) := fun h9 => c_56 ((nI_eq (by omega) (by omega)).mpr h9)
    refine lv_aload_n C.x C.b dX9_side_63 rfl (lv_at hl 1 rfl) ?_
    refine k_calli (va_runV (As := []) (rest := [.ref h]) C.1 (kX9_treesOf l G B0 f h q i0 i1 i3 i7 i18 i22 i23 i27 j16 j17 a2 a4 a5 a6 b8 b9 b10 a11 a12 a13 a14 b15 b19 b20 b21 a24 a25 a26 en ot n9 w9 hM hn0 hn9 hw0 hw9 hen hot) (cwV 0 C.ts gX9_side_X9_treesOf rfl rfl rfl ⟨rfl, hdX9_side_X9_treesOf⟩ ⟨Nat.le_of_ble_eq_true rfl, Nat.le_of_ble_eq_true rfl⟩) (k_preV C hX (hM.at 0 rfl) rfl) rfl rfl hl.1 rfl (lv_room (Nat.le_of_ble_eq_true rfl)) dX9_side_64 ⟨Nat.le_of_ble_eq_true rfl, Nat.le_of_ble_eq_true rfl⟩) hX (fun r64 f64 H locs hp64 hX => ?_)
    obtain ⟨hr64, F1, hM, hO64⟩ := hp64
    have hO := hO.trans hO64
    refine k_topi hr64 ?_
    have htl : mTrees en ot n9 w9 ≤ 2 ^ w9 := kCnt_le _ _
    have hpw := k_pow hw9
    refine lv_if_ne (tgt := 74) C.x C.b dX9_side_67 (by decide) (fun c_67 => ?_) (fun c_67 => ?_)
    · skip
      have c_67 : ¬ mTrees en ot n9 w9 = 0 := fun h9 => c_67 ((nI_eq (b := 0) (by omega) (by omega)).mpr h9)
      omega
    · skip
      have c_67 : mTrees en ot n9 w9 = 0 := (nI_eq (b := 0) (by omega) (by omega)).mp c_67
      refine lv_iconst (v := nI 3) C.x C.b dX9_side_70 (by decide) ?_
      refine lv_goto (tgt := 75) C.x C.b dX9_side_71 (by decide) ?_
      refine k_put (X := RX9) (T := TX9) (N := 28) (ty := .int) (v := .int (nI 3)) C hX (hM.at 0 rfl) rfl hin_X9_side_RX9 tyX9_ok nmX9 27 (by decide) lk_X9_side_f80 (fun _ h9 => h9) rfl (by decide +kernel) rfl rfl (Nat.le_of_ble_eq_true rfl) dX9_side_75 (fun H locs hX => ?_)
      obtain ⟨g1, hX, hM, hO⟩ := kX.wr hX hM hO 0 rfl (List.mem_of_getElem? (i := 0) rfl)
      have hM : kCs g1 (mC G h q i0 i1 i3 i7 i18 i22 i23 (nI 3) j16 j17 a2 a4 a5 a6 b8 b9 b10 a11 a12 a13 a14 b15 b19 b20 b21 a24 a25 F1) := hM
      refine lv_aload_n C.x C.b dX9_side_78 rfl (lv_at hl 1 rfl) ?_
      refine k_get (X := RX9) (T := TX9) (N := 28) (v := .int (nI 3)) C hX (hM.at 0 rfl) rfl hin_X9_side_RX9 27 (by decide) lk_X9_side_f80 (fun _ h9 => h9) rfl dX9_side_79 ?_
      refine lv_if_le (tgt := 87) C.x C.b dX9_side_82 (by decide) (fun c_82 => ?_) (fun c_82 => ?_)
      · exact absurd c_82 (by decide)
      refine lv_iconst (v := nI 0) C.x C.b dX9_side_85 (by decide) ?_
      exact k_iret C hX hr hlocks hQ (by omega) (by omega) (⟨rfl, F1, hM, hO⟩) dX9_side_86
  refine lv_if_eq (tgt := 41) C.x C.b dX9_side_5 (by decide) (fun c_5 => ?_) (fun c_5 => ?_)
  · skip
    have c_5 := kbI_0 c_5
    refine lv_iconst (v := nI 0) C.x C.b dX9_side_41 (by decide) ?_
    refine k_topi (y := (kbI (mSv (nI fr) (nI to) c9 n9 w9))) (by first | exact kbI_tN ⟨c_5, c_13, Or.inl c_18⟩ | exact kbI_tN ⟨c_5, c_13, Or.inr c_34⟩ | exact kbI_fN (fun z => c_5 z.1) | exact kbI_fN (fun z => c_13 z.2.1) | exact kbI_fN (fun z => z.2.2.elim c_18 c_34)) ?_
    exact J42 ls (lv_sub hl [0, 1, 2, 3] rfl) _ _ hX
  · skip
    have c_5 := kbI_1 c_5
    refine lv_aload_n C.x C.b dX9_side_8 rfl (lv_at hl 0 rfl) ?_
    refine lv_iload_n C.x C.b dX9_side_9 rfl (lv_at hl 2 rfl) ?_
    refine k_calli (va_runV (As := [.int (nI to)]) (rest := []) C.1 (kX9_isNode l G B0 f h q i0 i1 i3 i7 i18 i22 i23 i27 j16 j17 a2 a4 a5 a6 b8 b9 b10 a11 a12 a13 a14 b15 b19 b20 b21 a24 a25 a26 (nI to) n9 hM hn0 (by omega)) (cwV 1 C.ts gX9_side_X9_isNode rfl rfl rfl ⟨rfl, hdX9_side_X9_isNode⟩ ⟨Nat.le_of_ble_eq_true rfl, Nat.le_of_ble_eq_true rfl⟩) (k_preV C hX (hM.at 0 rfl) rfl) rfl rfl hl.1 rfl (lv_room (Nat.le_of_ble_eq_true rfl)) dX9_side_10 ⟨Nat.le_of_ble_eq_true rfl, Nat.le_of_ble_eq_true rfl⟩) hX (fun r10 f10 H locs hp10 hX => ?_)
    obtain ⟨hr10, hf10⟩ := hp10
    rw [hf10] at hX
    refine k_topi (y := (kbI (mIn (nI to) n9))) hr10 ?_
    refine lv_if_eq (tgt := 41) C.x C.b dX9_side_13 (by decide) (fun c_13 => ?_) (fun c_13 => ?_)
    · skip
      have c_13 := kbI_0 c_13
      refine lv_iconst (v := nI 0) C.x C.b dX9_side_41 (by decide) ?_
      refine k_topi (y := (kbI (mSv (nI fr) (nI to) c9 n9 w9))) (by first | exact kbI_tN ⟨c_5, c_13, Or.inl c_18⟩ | exact kbI_tN ⟨c_5, c_13, Or.inr c_34⟩ | exact kbI_fN (fun z => c_5 z.1) | exact kbI_fN (fun z => c_13 z.2.1) | exact kbI_fN (fun z => z.2.2.elim c_18 c_34)) ?_
      exact J42 ls (lv_sub hl [0, 1, 2, 3] rfl) _ _ hX
    · skip
      have c_13 := kbI_1 c_13
      refine lv_iload_n C.x C.b dX9_side_16 rfl (lv_at hl 3 rfl) ?_
      refine lv_iconst (v := -1) C.x C.b dX9_side_17 (by decide) ?_
      refine lv_icmp_eq (tgt := 37) C.x C.b dX9_side_18 (by decide) (fun c_18 => ?_) (fun c_18 => ?_)
      · skip
        refine lv_iconst (v := nI 1) C.x C.b dX9_side_37 (by decide) ?_
        refine lv_goto (tgt := 42) C.x C.b dX9_side_38 (by decide) ?_
        refine k_topi (y := (kbI (mSv (nI fr) (nI to) c9 n9 w9))) (by first | exact kbI_tN ⟨c_5, c_13, Or.inl c_18⟩ | exact kbI_tN ⟨c_5, c_13, Or.inr c_34⟩ | exact kbI_fN (fun z => c_5 z.1) | exact kbI_fN (fun z => c_13 z.2.1) | exact kbI_fN (fun z => z.2.2.elim c_18 c_34)) ?_
        exact J42 ls (lv_sub hl [0, 1, 2, 3] rfl) _ _ hX
      · skip
        refine lv_iload_n C.x C.b dX9_side_21 rfl (lv_at hl 3 rfl) ?_
        refine lv_i2l (v := c9.toInt64) C.x C.b dX9_side_22 rfl ?_
        refine lv_lconst (v := 0) C.x C.b dX9_side_23 (by decide) ?_
        refine lv_aload_n C.x C.b dX9_side_24 rfl (lv_at hl 0 rfl) ?_
        refine k_get (X := RX9) (T := TX9) (N := 28) (v := .int i23) C hX (hM.at 0 rfl) rfl hin_X9_side_RX9 23 (by decide) lk_X9_side_f209 (fun _ h9 => h9) rfl dX9_side_25 ?_
        refine k_topi (y := (nI w9)) (hw0) ?_
        refine lv_iconst (v := nI 1) C.x C.b dX9_side_28 (by decide) ?_
        refine lv_isub C.x C.b dX9_side_29 ?_
        refine lv_i2l (v := ((nI w9) - (nI 1)).toInt64) C.x C.b dX9_side_30 rfl ?_
        refine k_calli (va_runS (As := [.long c9.toInt64, .long 0, .long (((nI w9) - (nI 1)).toInt64)]) (rest := []) C.1 (kX9_isIn l G B0 f c9.toInt64 0 ((nI w9 - nI 1).toInt64)) (va_cwS 3 C.ts gX9_side_X9_isIn rfl rfl rfl (hdX9_side_X9_isIn) ⟨Nat.le_of_ble_eq_true rfl, Nat.le_of_ble_eq_true rfl⟩) (k_preS C hX) rfl rfl hl.1 rfl (lv_room (Nat.le_of_ble_eq_true rfl)) dX9_side_31 ⟨Nat.le_of_ble_eq_true rfl, Nat.le_of_ble_eq_true rfl⟩) hX (fun r31 f31 H locs hp31 hX => ?_)
        obtain ⟨hr31, hf31⟩ := hp31
        rw [hf31] at hX
        refine k_topi (y := (kbI ((0 : Int64) ≤ c9.toInt64 ∧ c9.toInt64 ≤ (nI w9 - nI 1).toInt64))) hr31 ?_
        refine k_topi (y := (kbI (mIn c9 w9))) (kbI_c (m_in (by omega))) ?_
        refine lv_if_eq (tgt := 41) C.x C.b dX9_side_34 (by decide) (fun c_34 => ?_) (fun c_34 => ?_)
        · skip
          have c_34 := kbI_0 c_34
          refine lv_iconst (v := nI 0) C.x C.b dX9_side_41 (by decide) ?_
          refine k_topi (y := (kbI (mSv (nI fr) (nI to) c9 n9 w9))) (by first | exact kbI_tN ⟨c_5, c_13, Or.inl c_18⟩ | exact kbI_tN ⟨c_5, c_13, Or.inr c_34⟩ | exact kbI_fN (fun z => c_5 z.1) | exact kbI_fN (fun z => c_13 z.2.1) | exact kbI_fN (fun z => z.2.2.elim c_18 c_34)) ?_
          exact J42 ls (lv_sub hl [0, 1, 2, 3] rfl) _ _ hX
        · skip
          have c_34 := kbI_1 c_34
          refine lv_iconst (v := nI 1) C.x C.b dX9_side_37 (by decide) ?_
          refine lv_goto (tgt := 42) C.x C.b dX9_side_38 (by decide) ?_
          refine k_topi (y := (kbI (mSv (nI fr) (nI to) c9 n9 w9))) (by first | exact kbI_tN ⟨c_5, c_13, Or.inl c_18⟩ | exact kbI_tN ⟨c_5, c_13, Or.inr c_34⟩ | exact kbI_fN (fun z => c_5 z.1) | exact kbI_fN (fun z => c_13 z.2.1) | exact kbI_fN (fun z => z.2.2.elim c_18 c_34)) ?_
          exact J42 ls (lv_sub hl [0, 1, 2, 3] rfl) _ _ hX

theorem hdX9_side_X9_height : yX9_height.cls ≠ "java/lang/invoke/MethodHandle" ∧ yX9_height.cls ≠ "java/lang/invoke/VarHandle" ∧ (parseMethodDescriptor yX9_height.desc).map (fun d => d.parameters.length) = some 3 := by decide +kernel
abbrev rmX9_side_n : Room := { frames := 2, cells := 0, slots := 0, locals := 52 }
set_option maxHeartbeats 4000000 in
set_option maxRecDepth 100000 in
/-- X9_side_n -/
theorem kX9_side_n (l : Launch) (G : kG) (B0 : Nat) (f : kH) (h : Nat) (q : Nat → Nat) (i0 i1 i3 i7 i18 i22 i23 i27 : Int32) (j16 j17 : Int64) (a2 : Nat → Int32) (a4 : Nat → Int32) (a5 : Nat → Int32) (a6 : Nat → Int32) (b8 : Nat → Int64) (b9 : Nat → Int64) (b10 : Nat → Int64) (a11 : Nat → Int32) (a12 : Nat → Int32) (a13 : Nat → Int32) (a14 : Nat → Int32) (b15 : Nat → Int64) (b19 : Nat → Int64) (b20 : Nat → Int64) (b21 : Nat → Int64) (a24 : Nat → Int32) (a25 : Nat → Int32) (a26 : Nat → Int32) (en ot : Nat → Nat) (n9 w9 : Nat) (fr to : Nat) (c9 : Int32) (hM : kCs f (mC G h q i0 i1 i3 i7 i18 i22 i23 i27 j16 j17 a2 a4 a5 a6 b8 b9 b10 a11 a12 a13 a14 b15 b19 b20 b21 a24 a25 a26)) (hn0 : i22 = nI n9) (hn9 : n9 ≤ 6) (hw0 : i23 = nI w9) (hw9 : w9 ≤ 10) (hen : ∀ k, k < w9 → a24 k = nI (en k) ∧ en k < n9) (hot : ∀ k, k < w9 → a25 k = nI (ot k) ∧ ot k < n9) (hfr : fr < n9) (hto : to < n9) (hft : fr ≠ to) (hc : c9 = -1 ∨ mIn c9 w9) (hT : ¬ mTrees en ot n9 w9 = 0) (hn : c9 = -1) : Met l yX9_side wsX9_side (rmX9_side_n) (kP G B0 f [.ref h, .int (nI fr), .int (nI to), .int c9]) (kQi G B0 (fun r f1 => r = nI (mHeight en ot n9 w9 fr to fr) ∧ ∃ F1 : Nat → Int32, kCs f1 (mC G h q i0 i1 i3 i7 i18 i22 i23 (nI 0) j16 j17 a2 a4 a5 a6 b8 b9 b10 a11 a12 a13 a14 b15 b19 b20 b21 a24 a25 F1) ∧ kOff (mAs h q) f f1)) 0 0 (kAb B0) := by
  refine kMet (cc := cX9_side) (maxL := 5) (ret := (some .int)) (by decide) rfl (Nat.le_of_ble_eq_true rfl) ?_
  intro p e s m args below meth c H locs Q ls C hX hl hr hlocks hnm hQ
  have hO : kOff (mAs h q) f f := kOff.rf
  have hl : lv_has ls 5 [(0, .ref h), (1, .int (nI fr)), (2, .int (nI to)), (3, .int c9)] := hl
  refine lv_aload_n C.x C.b dX9_side_0 rfl (lv_at hl 0 rfl) ?_
  refine lv_iload_n C.x C.b dX9_side_1 rfl (lv_at hl 1 rfl) ?_
  refine k_calli (va_runV (As := [.int (nI fr)]) (rest := []) C.1 (kX9_isNode l G B0 f h q i0 i1 i3 i7 i18 i22 i23 i27 j16 j17 a2 a4 a5 a6 b8 b9 b10 a11 a12 a13 a14 b15 b19 b20 b21 a24 a25 a26 (nI fr) n9 hM hn0 (by omega)) (cwV 1 C.ts gX9_side_X9_isNode rfl rfl rfl ⟨rfl, hdX9_side_X9_isNode⟩ ⟨Nat.le_of_ble_eq_true rfl, Nat.le_of_ble_eq_true rfl⟩) (k_preV C hX (hM.at 0 rfl) rfl) rfl rfl hl.1 rfl (lv_room (Nat.le_of_ble_eq_true rfl)) dX9_side_2 ⟨Nat.le_of_ble_eq_true rfl, Nat.le_of_ble_eq_true rfl⟩) hX (fun r2 f2 H locs hp2 hX => ?_)
  obtain ⟨hr2, hf2⟩ := hp2
  rw [hf2] at hX
  refine k_topi (y := (kbI (mIn (nI fr) n9))) hr2 ?_
  have J42 : ∀ (ls : Array Slot), lv_has ls 5 [(0, .ref h), (1, .int (nI fr)), (2, .int (nI to)), (3, .int c9)] → ∀ (H : Heap) (locs : List Loc), kX G B0 s f H locs → W p l e (rmX9_side_n) s m args below meth c H locs 0 0 Q (F0 m 42 ls [.int (kbI (mSv (nI fr) (nI to) c9 n9 w9))]) := by
    intro ls hl H locs hX
    refine lv_istore (lv' := [(4, .int (kbI (mSv (nI fr) (nI to) c9 n9 w9))), (0, .ref h), (1, .int (nI fr)), (2, .int (nI to)), (3, .int c9)]) C.x C.b dX9_side_42 hl (by decide) rfl (fun ls hl => ?_)
    refine lv_aload_n C.x C.b dX9_side_44 rfl (lv_at hl 1 rfl) ?_
    refine lv_iload C.x C.b dX9_side_45 (lv_at hl 0 rfl) ?_
    refine lv_if_ne (tgt := 54) C.x C.b dX9_side_47 (by decide) (fun c_47 => ?_) (fun c_47 => ?_)
    rotate_left
    · exact absurd ((And.intro ((mIn_nI (by omega)).mpr hfr) (And.intro ((mIn_nI (by omega)).mpr hto) hc))) (kbI_0 c_47)
    refine lv_iload_n C.x C.b dX9_side_54 rfl (lv_at hl 2 rfl) ?_
    refine lv_iload_n C.x C.b dX9_side_55 rfl (lv_at hl 3 rfl) ?_
    refine lv_icmp_ne (tgt := 63) C.x C.b dX9_side_56 (by decide) (fun c_56 => ?_) (fun c_56 => ?_)
    rotate_left
    · skip
      have c_56 : fr = to := (nI_eq (by omega) (by omega)).mp c_56
      omega
    have c_56 : ¬ (fr = to) := fun h9 => c_56 ((nI_eq (by omega) (by omega)).mpr h9)
    refine lv_aload_n C.x C.b dX9_side_63 rfl (lv_at hl 1 rfl) ?_
    refine k_calli (va_runV (As := []) (rest := [.ref h]) C.1 (kX9_treesOf l G B0 f h q i0 i1 i3 i7 i18 i22 i23 i27 j16 j17 a2 a4 a5 a6 b8 b9 b10 a11 a12 a13 a14 b15 b19 b20 b21 a24 a25 a26 en ot n9 w9 hM hn0 hn9 hw0 hw9 hen hot) (cwV 0 C.ts gX9_side_X9_treesOf rfl rfl rfl ⟨rfl, hdX9_side_X9_treesOf⟩ ⟨Nat.le_of_ble_eq_true rfl, Nat.le_of_ble_eq_true rfl⟩) (k_preV C hX (hM.at 0 rfl) rfl) rfl rfl hl.1 rfl (lv_room (Nat.le_of_ble_eq_true rfl)) dX9_side_64 ⟨Nat.le_of_ble_eq_true rfl, Nat.le_of_ble_eq_true rfl⟩) hX (fun r64 f64 H locs hp64 hX => ?_)
    obtain ⟨hr64, F1, hM, hO64⟩ := hp64
    have hO := hO.trans hO64
    refine k_topi hr64 ?_
    have htl : mTrees en ot n9 w9 ≤ 2 ^ w9 := kCnt_le _ _
    have hpw := k_pow hw9
    refine lv_if_ne (tgt := 74) C.x C.b dX9_side_67 (by decide) (fun c_67 => ?_) (fun c_67 => ?_)
    · skip
      have c_67 : ¬ mTrees en ot n9 w9 = 0 := fun h9 => c_67 ((nI_eq (b := 0) (by omega) (by omega)).mpr h9)
      refine lv_iconst (v := nI 0) C.x C.b dX9_side_74 (by decide) ?_
      refine k_put (X := RX9) (T := TX9) (N := 28) (ty := .int) (v := .int (nI 0)) C hX (hM.at 0 rfl) rfl hin_X9_side_RX9 tyX9_ok nmX9 27 (by decide) lk_X9_side_f80 (fun _ h9 => h9) rfl (by decide +kernel) rfl rfl (Nat.le_of_ble_eq_true rfl) dX9_side_75 (fun H locs hX => ?_)
      obtain ⟨g1, hX, hM, hO⟩ := kX.wr hX hM hO 0 rfl (List.mem_of_getElem? (i := 0) rfl)
      have hM : kCs g1 (mC G h q i0 i1 i3 i7 i18 i22 i23 (nI 0) j16 j17 a2 a4 a5 a6 b8 b9 b10 a11 a12 a13 a14 b15 b19 b20 b21 a24 a25 F1) := hM
      refine lv_aload_n C.x C.b dX9_side_78 rfl (lv_at hl 1 rfl) ?_
      refine k_get (X := RX9) (T := TX9) (N := 28) (v := .int (nI 0)) C hX (hM.at 0 rfl) rfl hin_X9_side_RX9 27 (by decide) lk_X9_side_f80 (fun _ h9 => h9) rfl dX9_side_79 ?_
      refine lv_if_le (tgt := 87) C.x C.b dX9_side_82 (by decide) (fun c_82 => ?_) (fun c_82 => ?_)
      rotate_left
      · exact absurd c_82 (by decide)
      refine lv_iload_n C.x C.b dX9_side_87 rfl (lv_at hl 4 rfl) ?_
      refine lv_iconst (v := -1) C.x C.b dX9_side_88 (by decide) ?_
      refine lv_icmp_ne (tgt := 102) C.x C.b dX9_side_89 (by decide) (fun c_89 => ?_) (fun c_89 => ?_)
      · skip
        exact absurd hn c_89
      refine lv_aload_n C.x C.b dX9_side_92 rfl (lv_at hl 1 rfl) ?_
      refine lv_iload_n C.x C.b dX9_side_93 rfl (lv_at hl 2 rfl) ?_
      refine lv_iload_n C.x C.b dX9_side_94 rfl (lv_at hl 3 rfl) ?_
      refine lv_iload_n C.x C.b dX9_side_95 rfl (lv_at hl 2 rfl) ?_
      refine k_calli (va_runV (As := [.int (nI fr), .int (nI to), .int (nI fr)]) (rest := []) C.1 (kX9_height l G B0 g1 h q i0 i1 i3 i7 i18 i22 i23 (nI 0) j16 j17 a2 a4 a5 a6 b8 b9 b10 a11 a12 a13 a14 b15 b19 b20 b21 a24 a25 F1 en ot n9 w9 fr to fr hM hn0 hn9 hw0 hw9 hen hot hfr hto (by omega)) (cwV 3 C.ts gX9_side_X9_height rfl rfl rfl ⟨rfl, hdX9_side_X9_height⟩ ⟨Nat.le_of_ble_eq_true rfl, Nat.le_of_ble_eq_true rfl⟩) (k_preV C hX (hM.at 0 rfl) rfl) rfl rfl hl.1 rfl (lv_room (Nat.le_of_ble_eq_true rfl)) dX9_side_96 ⟨Nat.le_of_ble_eq_true rfl, Nat.le_of_ble_eq_true rfl⟩) hX (fun r96 f96 H locs hp96 hX => ?_)
      obtain ⟨hr96, F96, hM, hO96⟩ := hp96
      have hO := hO.trans hO96
      refine k_topi hr96 ?_
      refine lv_goto (tgt := 127) C.x C.b dX9_side_99 (by decide) ?_
      exact k_iret C hX hr hlocks hQ (by omega) (by omega) (⟨rfl, F96, hM, hO⟩) dX9_side_127
    · skip
      have c_67 : mTrees en ot n9 w9 = 0 := (nI_eq (b := 0) (by omega) (by omega)).mp c_67
      omega
  refine lv_if_eq (tgt := 41) C.x C.b dX9_side_5 (by decide) (fun c_5 => ?_) (fun c_5 => ?_)
  · skip
    have c_5 := kbI_0 c_5
    refine lv_iconst (v := nI 0) C.x C.b dX9_side_41 (by decide) ?_
    refine k_topi (y := (kbI (mSv (nI fr) (nI to) c9 n9 w9))) (by first | exact kbI_tN ⟨c_5, c_13, Or.inl c_18⟩ | exact kbI_tN ⟨c_5, c_13, Or.inr c_34⟩ | exact kbI_fN (fun z => c_5 z.1) | exact kbI_fN (fun z => c_13 z.2.1) | exact kbI_fN (fun z => z.2.2.elim c_18 c_34)) ?_
    exact J42 ls (lv_sub hl [0, 1, 2, 3] rfl) _ _ hX
  · skip
    have c_5 := kbI_1 c_5
    refine lv_aload_n C.x C.b dX9_side_8 rfl (lv_at hl 0 rfl) ?_
    refine lv_iload_n C.x C.b dX9_side_9 rfl (lv_at hl 2 rfl) ?_
    refine k_calli (va_runV (As := [.int (nI to)]) (rest := []) C.1 (kX9_isNode l G B0 f h q i0 i1 i3 i7 i18 i22 i23 i27 j16 j17 a2 a4 a5 a6 b8 b9 b10 a11 a12 a13 a14 b15 b19 b20 b21 a24 a25 a26 (nI to) n9 hM hn0 (by omega)) (cwV 1 C.ts gX9_side_X9_isNode rfl rfl rfl ⟨rfl, hdX9_side_X9_isNode⟩ ⟨Nat.le_of_ble_eq_true rfl, Nat.le_of_ble_eq_true rfl⟩) (k_preV C hX (hM.at 0 rfl) rfl) rfl rfl hl.1 rfl (lv_room (Nat.le_of_ble_eq_true rfl)) dX9_side_10 ⟨Nat.le_of_ble_eq_true rfl, Nat.le_of_ble_eq_true rfl⟩) hX (fun r10 f10 H locs hp10 hX => ?_)
    obtain ⟨hr10, hf10⟩ := hp10
    rw [hf10] at hX
    refine k_topi (y := (kbI (mIn (nI to) n9))) hr10 ?_
    refine lv_if_eq (tgt := 41) C.x C.b dX9_side_13 (by decide) (fun c_13 => ?_) (fun c_13 => ?_)
    · skip
      have c_13 := kbI_0 c_13
      refine lv_iconst (v := nI 0) C.x C.b dX9_side_41 (by decide) ?_
      refine k_topi (y := (kbI (mSv (nI fr) (nI to) c9 n9 w9))) (by first | exact kbI_tN ⟨c_5, c_13, Or.inl c_18⟩ | exact kbI_tN ⟨c_5, c_13, Or.inr c_34⟩ | exact kbI_fN (fun z => c_5 z.1) | exact kbI_fN (fun z => c_13 z.2.1) | exact kbI_fN (fun z => z.2.2.elim c_18 c_34)) ?_
      exact J42 ls (lv_sub hl [0, 1, 2, 3] rfl) _ _ hX
    · skip
      have c_13 := kbI_1 c_13
      refine lv_iload_n C.x C.b dX9_side_16 rfl (lv_at hl 3 rfl) ?_
      refine lv_iconst (v := -1) C.x C.b dX9_side_17 (by decide) ?_
      refine lv_icmp_eq (tgt := 37) C.x C.b dX9_side_18 (by decide) (fun c_18 => ?_) (fun c_18 => ?_)
      · skip
        refine lv_iconst (v := nI 1) C.x C.b dX9_side_37 (by decide) ?_
        refine lv_goto (tgt := 42) C.x C.b dX9_side_38 (by decide) ?_
        refine k_topi (y := (kbI (mSv (nI fr) (nI to) c9 n9 w9))) (by first | exact kbI_tN ⟨c_5, c_13, Or.inl c_18⟩ | exact kbI_tN ⟨c_5, c_13, Or.inr c_34⟩ | exact kbI_fN (fun z => c_5 z.1) | exact kbI_fN (fun z => c_13 z.2.1) | exact kbI_fN (fun z => z.2.2.elim c_18 c_34)) ?_
        exact J42 ls (lv_sub hl [0, 1, 2, 3] rfl) _ _ hX
      · skip
        refine lv_iload_n C.x C.b dX9_side_21 rfl (lv_at hl 3 rfl) ?_
        refine lv_i2l (v := c9.toInt64) C.x C.b dX9_side_22 rfl ?_
        refine lv_lconst (v := 0) C.x C.b dX9_side_23 (by decide) ?_
        refine lv_aload_n C.x C.b dX9_side_24 rfl (lv_at hl 0 rfl) ?_
        refine k_get (X := RX9) (T := TX9) (N := 28) (v := .int i23) C hX (hM.at 0 rfl) rfl hin_X9_side_RX9 23 (by decide) lk_X9_side_f209 (fun _ h9 => h9) rfl dX9_side_25 ?_
        refine k_topi (y := (nI w9)) (hw0) ?_
        refine lv_iconst (v := nI 1) C.x C.b dX9_side_28 (by decide) ?_
        refine lv_isub C.x C.b dX9_side_29 ?_
        refine lv_i2l (v := ((nI w9) - (nI 1)).toInt64) C.x C.b dX9_side_30 rfl ?_
        refine k_calli (va_runS (As := [.long c9.toInt64, .long 0, .long (((nI w9) - (nI 1)).toInt64)]) (rest := []) C.1 (kX9_isIn l G B0 f c9.toInt64 0 ((nI w9 - nI 1).toInt64)) (va_cwS 3 C.ts gX9_side_X9_isIn rfl rfl rfl (hdX9_side_X9_isIn) ⟨Nat.le_of_ble_eq_true rfl, Nat.le_of_ble_eq_true rfl⟩) (k_preS C hX) rfl rfl hl.1 rfl (lv_room (Nat.le_of_ble_eq_true rfl)) dX9_side_31 ⟨Nat.le_of_ble_eq_true rfl, Nat.le_of_ble_eq_true rfl⟩) hX (fun r31 f31 H locs hp31 hX => ?_)
        obtain ⟨hr31, hf31⟩ := hp31
        rw [hf31] at hX
        refine k_topi (y := (kbI ((0 : Int64) ≤ c9.toInt64 ∧ c9.toInt64 ≤ (nI w9 - nI 1).toInt64))) hr31 ?_
        refine k_topi (y := (kbI (mIn c9 w9))) (kbI_c (m_in (by omega))) ?_
        refine lv_if_eq (tgt := 41) C.x C.b dX9_side_34 (by decide) (fun c_34 => ?_) (fun c_34 => ?_)
        · skip
          have c_34 := kbI_0 c_34
          refine lv_iconst (v := nI 0) C.x C.b dX9_side_41 (by decide) ?_
          refine k_topi (y := (kbI (mSv (nI fr) (nI to) c9 n9 w9))) (by first | exact kbI_tN ⟨c_5, c_13, Or.inl c_18⟩ | exact kbI_tN ⟨c_5, c_13, Or.inr c_34⟩ | exact kbI_fN (fun z => c_5 z.1) | exact kbI_fN (fun z => c_13 z.2.1) | exact kbI_fN (fun z => z.2.2.elim c_18 c_34)) ?_
          exact J42 ls (lv_sub hl [0, 1, 2, 3] rfl) _ _ hX
        · skip
          have c_34 := kbI_1 c_34
          refine lv_iconst (v := nI 1) C.x C.b dX9_side_37 (by decide) ?_
          refine lv_goto (tgt := 42) C.x C.b dX9_side_38 (by decide) ?_
          refine k_topi (y := (kbI (mSv (nI fr) (nI to) c9 n9 w9))) (by first | exact kbI_tN ⟨c_5, c_13, Or.inl c_18⟩ | exact kbI_tN ⟨c_5, c_13, Or.inr c_34⟩ | exact kbI_fN (fun z => c_5 z.1) | exact kbI_fN (fun z => c_13 z.2.1) | exact kbI_fN (fun z => z.2.2.elim c_18 c_34)) ?_
          exact J42 ls (lv_sub hl [0, 1, 2, 3] rfl) _ _ hX

theorem lk_X9_side_f67 : Cond.fieldLink RX9 67 "KoebehallModel" "ends" "[I" ∈ wsX9_side := by decide +kernel
theorem lk_X9_side_f70 : Cond.fieldLink RX9 70 "KoebehallModel" "others" "[I" ∈ wsX9_side := by decide +kernel
abbrev rmX9_side_w : Room := { frames := 2, cells := 0, slots := 0, locals := 52 }
set_option maxHeartbeats 4000000 in
set_option maxRecDepth 100000 in
/-- X9_side_w -/
theorem kX9_side_w (l : Launch) (G : kG) (B0 : Nat) (f : kH) (h : Nat) (q : Nat → Nat) (i0 i1 i3 i7 i18 i22 i23 i27 : Int32) (j16 j17 : Int64) (a2 : Nat → Int32) (a4 : Nat → Int32) (a5 : Nat → Int32) (a6 : Nat → Int32) (b8 : Nat → Int64) (b9 : Nat → Int64) (b10 : Nat → Int64) (a11 : Nat → Int32) (a12 : Nat → Int32) (a13 : Nat → Int32) (a14 : Nat → Int32) (b15 : Nat → Int64) (b19 : Nat → Int64) (b20 : Nat → Int64) (b21 : Nat → Int64) (a24 : Nat → Int32) (a25 : Nat → Int32) (a26 : Nat → Int32) (en ot : Nat → Nat) (n9 w9 : Nat) (fr to w : Nat) (hM : kCs f (mC G h q i0 i1 i3 i7 i18 i22 i23 i27 j16 j17 a2 a4 a5 a6 b8 b9 b10 a11 a12 a13 a14 b15 b19 b20 b21 a24 a25 a26)) (hn0 : i22 = nI n9) (hn9 : n9 ≤ 6) (hw0 : i23 = nI w9) (hw9 : w9 ≤ 10) (hen : ∀ k, k < w9 → a24 k = nI (en k) ∧ en k < n9) (hot : ∀ k, k < w9 → a25 k = nI (ot k) ∧ ot k < n9) (hfr : fr < n9) (hto : to < n9) (hft : fr ≠ to) (hw : w < w9) (hc : nI w = -1 ∨ mIn (nI w) w9) (hT : ¬ mTrees en ot n9 w9 = 0) (hn : ¬ nI w = -1) : Met l yX9_side wsX9_side (rmX9_side_w) (kP G B0 f [.ref h, .int (nI fr), .int (nI to), .int (nI w)]) (kQi G B0 (fun r f1 => r = nI (mHeight en ot n9 w9 fr to (en w)) - nI (mHeight en ot n9 w9 fr to (ot w)) ∧ ∃ F1 : Nat → Int32, kCs f1 (mC G h q i0 i1 i3 i7 i18 i22 i23 (nI 0) j16 j17 a2 a4 a5 a6 b8 b9 b10 a11 a12 a13 a14 b15 b19 b20 b21 a24 a25 F1) ∧ kOff (mAs h q) f f1)) 0 0 (kAb B0) := by
  refine kMet (cc := cX9_side) (maxL := 5) (ret := (some .int)) (by decide) rfl (Nat.le_of_ble_eq_true rfl) ?_
  intro p e s m args below meth c H locs Q ls C hX hl hr hlocks hnm hQ
  have hO : kOff (mAs h q) f f := kOff.rf
  have hl : lv_has ls 5 [(0, .ref h), (1, .int (nI fr)), (2, .int (nI to)), (3, .int (nI w))] := hl
  refine lv_aload_n C.x C.b dX9_side_0 rfl (lv_at hl 0 rfl) ?_
  refine lv_iload_n C.x C.b dX9_side_1 rfl (lv_at hl 1 rfl) ?_
  refine k_calli (va_runV (As := [.int (nI fr)]) (rest := []) C.1 (kX9_isNode l G B0 f h q i0 i1 i3 i7 i18 i22 i23 i27 j16 j17 a2 a4 a5 a6 b8 b9 b10 a11 a12 a13 a14 b15 b19 b20 b21 a24 a25 a26 (nI fr) n9 hM hn0 (by omega)) (cwV 1 C.ts gX9_side_X9_isNode rfl rfl rfl ⟨rfl, hdX9_side_X9_isNode⟩ ⟨Nat.le_of_ble_eq_true rfl, Nat.le_of_ble_eq_true rfl⟩) (k_preV C hX (hM.at 0 rfl) rfl) rfl rfl hl.1 rfl (lv_room (Nat.le_of_ble_eq_true rfl)) dX9_side_2 ⟨Nat.le_of_ble_eq_true rfl, Nat.le_of_ble_eq_true rfl⟩) hX (fun r2 f2 H locs hp2 hX => ?_)
  obtain ⟨hr2, hf2⟩ := hp2
  rw [hf2] at hX
  refine k_topi (y := (kbI (mIn (nI fr) n9))) hr2 ?_
  have J42 : ∀ (ls : Array Slot), lv_has ls 5 [(0, .ref h), (1, .int (nI fr)), (2, .int (nI to)), (3, .int (nI w))] → ∀ (H : Heap) (locs : List Loc), kX G B0 s f H locs → W p l e (rmX9_side_w) s m args below meth c H locs 0 0 Q (F0 m 42 ls [.int (kbI (mSv (nI fr) (nI to) (nI w) n9 w9))]) := by
    intro ls hl H locs hX
    refine lv_istore (lv' := [(4, .int (kbI (mSv (nI fr) (nI to) (nI w) n9 w9))), (0, .ref h), (1, .int (nI fr)), (2, .int (nI to)), (3, .int (nI w))]) C.x C.b dX9_side_42 hl (by decide) rfl (fun ls hl => ?_)
    refine lv_aload_n C.x C.b dX9_side_44 rfl (lv_at hl 1 rfl) ?_
    refine lv_iload C.x C.b dX9_side_45 (lv_at hl 0 rfl) ?_
    refine lv_if_ne (tgt := 54) C.x C.b dX9_side_47 (by decide) (fun c_47 => ?_) (fun c_47 => ?_)
    rotate_left
    · exact absurd ((And.intro ((mIn_nI (by omega)).mpr hfr) (And.intro ((mIn_nI (by omega)).mpr hto) hc))) (kbI_0 c_47)
    refine lv_iload_n C.x C.b dX9_side_54 rfl (lv_at hl 2 rfl) ?_
    refine lv_iload_n C.x C.b dX9_side_55 rfl (lv_at hl 3 rfl) ?_
    refine lv_icmp_ne (tgt := 63) C.x C.b dX9_side_56 (by decide) (fun c_56 => ?_) (fun c_56 => ?_)
    rotate_left
    · skip
      have c_56 : fr = to := (nI_eq (by omega) (by omega)).mp c_56
      omega
    have c_56 : ¬ (fr = to) := fun h9 => c_56 ((nI_eq (by omega) (by omega)).mpr h9)
    refine lv_aload_n C.x C.b dX9_side_63 rfl (lv_at hl 1 rfl) ?_
    refine k_calli (va_runV (As := []) (rest := [.ref h]) C.1 (kX9_treesOf l G B0 f h q i0 i1 i3 i7 i18 i22 i23 i27 j16 j17 a2 a4 a5 a6 b8 b9 b10 a11 a12 a13 a14 b15 b19 b20 b21 a24 a25 a26 en ot n9 w9 hM hn0 hn9 hw0 hw9 hen hot) (cwV 0 C.ts gX9_side_X9_treesOf rfl rfl rfl ⟨rfl, hdX9_side_X9_treesOf⟩ ⟨Nat.le_of_ble_eq_true rfl, Nat.le_of_ble_eq_true rfl⟩) (k_preV C hX (hM.at 0 rfl) rfl) rfl rfl hl.1 rfl (lv_room (Nat.le_of_ble_eq_true rfl)) dX9_side_64 ⟨Nat.le_of_ble_eq_true rfl, Nat.le_of_ble_eq_true rfl⟩) hX (fun r64 f64 H locs hp64 hX => ?_)
    obtain ⟨hr64, F1, hM, hO64⟩ := hp64
    have hO := hO.trans hO64
    refine k_topi hr64 ?_
    have htl : mTrees en ot n9 w9 ≤ 2 ^ w9 := kCnt_le _ _
    have hpw := k_pow hw9
    refine lv_if_ne (tgt := 74) C.x C.b dX9_side_67 (by decide) (fun c_67 => ?_) (fun c_67 => ?_)
    · skip
      have c_67 : ¬ mTrees en ot n9 w9 = 0 := fun h9 => c_67 ((nI_eq (b := 0) (by omega) (by omega)).mpr h9)
      refine lv_iconst (v := nI 0) C.x C.b dX9_side_74 (by decide) ?_
      refine k_put (X := RX9) (T := TX9) (N := 28) (ty := .int) (v := .int (nI 0)) C hX (hM.at 0 rfl) rfl hin_X9_side_RX9 tyX9_ok nmX9 27 (by decide) lk_X9_side_f80 (fun _ h9 => h9) rfl (by decide +kernel) rfl rfl (Nat.le_of_ble_eq_true rfl) dX9_side_75 (fun H locs hX => ?_)
      obtain ⟨g1, hX, hM, hO⟩ := kX.wr hX hM hO 0 rfl (List.mem_of_getElem? (i := 0) rfl)
      have hM : kCs g1 (mC G h q i0 i1 i3 i7 i18 i22 i23 (nI 0) j16 j17 a2 a4 a5 a6 b8 b9 b10 a11 a12 a13 a14 b15 b19 b20 b21 a24 a25 F1) := hM
      refine lv_aload_n C.x C.b dX9_side_78 rfl (lv_at hl 1 rfl) ?_
      refine k_get (X := RX9) (T := TX9) (N := 28) (v := .int (nI 0)) C hX (hM.at 0 rfl) rfl hin_X9_side_RX9 27 (by decide) lk_X9_side_f80 (fun _ h9 => h9) rfl dX9_side_79 ?_
      refine lv_if_le (tgt := 87) C.x C.b dX9_side_82 (by decide) (fun c_82 => ?_) (fun c_82 => ?_)
      rotate_left
      · exact absurd c_82 (by decide)
      refine lv_iload_n C.x C.b dX9_side_87 rfl (lv_at hl 4 rfl) ?_
      have he2 := (hen w hw).2
      have ho2 := (hot w hw).2
      refine lv_iconst (v := -1) C.x C.b dX9_side_88 (by decide) ?_
      refine lv_icmp_ne (tgt := 102) C.x C.b dX9_side_89 (by decide) (fun c_89 => ?_) (fun c_89 => ?_)
      rotate_left
      · skip
        exact absurd c_89 hn
      refine lv_aload_n C.x C.b dX9_side_102 rfl (lv_at hl 1 rfl) ?_
      refine lv_iload_n C.x C.b dX9_side_103 rfl (lv_at hl 2 rfl) ?_
      refine lv_iload_n C.x C.b dX9_side_104 rfl (lv_at hl 3 rfl) ?_
      refine lv_aload_n C.x C.b dX9_side_105 rfl (lv_at hl 1 rfl) ?_
      refine k_get (X := RX9) (T := TX9) (N := 28) (v := .ref (q 24)) C hX (hM.at 0 rfl) rfl hin_X9_side_RX9 24 (by decide) lk_X9_side_f67 (fun _ h9 => h9) rfl dX9_side_106 ?_
      refine lv_iload_n C.x C.b dX9_side_109 rfl (lv_at hl 4 rfl) ?_
      refine k_iald C hX (hM.at 16 rfl) (vp_in_nI (by omega) (by omega)) dX9_side_110 ?_
      refine k_topi (y := a24 w) (by rw [nI_clamp (by omega)]) ?_
      refine k_topi (y := (nI (en w))) ((hen w hw).1) ?_
      refine k_calli (va_runV (As := [.int (nI fr), .int (nI to), .int (nI (en w))]) (rest := []) C.1 (kX9_height l G B0 g1 h q i0 i1 i3 i7 i18 i22 i23 (nI 0) j16 j17 a2 a4 a5 a6 b8 b9 b10 a11 a12 a13 a14 b15 b19 b20 b21 a24 a25 F1 en ot n9 w9 fr to (en w) hM hn0 hn9 hw0 hw9 hen hot hfr hto (by omega)) (cwV 3 C.ts gX9_side_X9_height rfl rfl rfl ⟨rfl, hdX9_side_X9_height⟩ ⟨Nat.le_of_ble_eq_true rfl, Nat.le_of_ble_eq_true rfl⟩) (k_preV C hX (hM.at 0 rfl) rfl) rfl rfl hl.1 rfl (lv_room (Nat.le_of_ble_eq_true rfl)) dX9_side_111 ⟨Nat.le_of_ble_eq_true rfl, Nat.le_of_ble_eq_true rfl⟩) hX (fun r111 f111 H locs hp111 hX => ?_)
      obtain ⟨hr111, F111, hM, hO111⟩ := hp111
      have hO := hO.trans hO111
      refine k_topi hr111 ?_
      refine lv_aload_n C.x C.b dX9_side_114 rfl (lv_at hl 1 rfl) ?_
      refine lv_iload_n C.x C.b dX9_side_115 rfl (lv_at hl 2 rfl) ?_
      refine lv_iload_n C.x C.b dX9_side_116 rfl (lv_at hl 3 rfl) ?_
      refine lv_aload_n C.x C.b dX9_side_117 rfl (lv_at hl 1 rfl) ?_
      refine k_get (X := RX9) (T := TX9) (N := 28) (v := .ref (q 25)) C hX (hM.at 0 rfl) rfl hin_X9_side_RX9 25 (by decide) lk_X9_side_f70 (fun _ h9 => h9) rfl dX9_side_118 ?_
      refine lv_iload_n C.x C.b dX9_side_121 rfl (lv_at hl 4 rfl) ?_
      refine k_iald C hX (hM.at 17 rfl) (vp_in_nI (by omega) (by omega)) dX9_side_122 ?_
      refine k_topi (y := a25 w) (by rw [nI_clamp (by omega)]) ?_
      refine k_topi (y := (nI (ot w))) ((hot w hw).1) ?_
      refine k_calli (va_runV (As := [.int (nI fr), .int (nI to), .int (nI (ot w))]) (rest := [.int (nI (mHeight en ot n9 w9 fr to (en w)))]) C.1 (kX9_height l G B0 f111 h q i0 i1 i3 i7 i18 i22 i23 (nI 0) j16 j17 a2 a4 a5 a6 b8 b9 b10 a11 a12 a13 a14 b15 b19 b20 b21 a24 a25 F111 en ot n9 w9 fr to (ot w) hM hn0 hn9 hw0 hw9 hen hot hfr hto (by omega)) (cwV 3 C.ts gX9_side_X9_height rfl rfl rfl ⟨rfl, hdX9_side_X9_height⟩ ⟨Nat.le_of_ble_eq_true rfl, Nat.le_of_ble_eq_true rfl⟩) (k_preV C hX (hM.at 0 rfl) rfl) rfl rfl hl.1 rfl (lv_room (Nat.le_of_ble_eq_true rfl)) dX9_side_123 ⟨Nat.le_of_ble_eq_true rfl, Nat.le_of_ble_eq_true rfl⟩) hX (fun r123 f123 H locs hp123 hX => ?_)
      obtain ⟨hr123, F123, hM, hO123⟩ := hp123
      have hO := hO.trans hO123
      refine k_topi hr123 ?_
      refine lv_isub C.x C.b dX9_side_126 ?_
      exact k_iret C hX hr hlocks hQ (by omega) (by omega) (⟨rfl, F123, hM, hO⟩) dX9_side_127
    · skip
      have c_67 : mTrees en ot n9 w9 = 0 := (nI_eq (b := 0) (by omega) (by omega)).mp c_67
      omega
  refine lv_if_eq (tgt := 41) C.x C.b dX9_side_5 (by decide) (fun c_5 => ?_) (fun c_5 => ?_)
  · skip
    have c_5 := kbI_0 c_5
    refine lv_iconst (v := nI 0) C.x C.b dX9_side_41 (by decide) ?_
    refine k_topi (y := (kbI (mSv (nI fr) (nI to) (nI w) n9 w9))) (by first | exact kbI_tN ⟨c_5, c_13, Or.inl c_18⟩ | exact kbI_tN ⟨c_5, c_13, Or.inr c_34⟩ | exact kbI_fN (fun z => c_5 z.1) | exact kbI_fN (fun z => c_13 z.2.1) | exact kbI_fN (fun z => z.2.2.elim c_18 c_34)) ?_
    exact J42 ls (lv_sub hl [0, 1, 2, 3] rfl) _ _ hX
  · skip
    have c_5 := kbI_1 c_5
    refine lv_aload_n C.x C.b dX9_side_8 rfl (lv_at hl 0 rfl) ?_
    refine lv_iload_n C.x C.b dX9_side_9 rfl (lv_at hl 2 rfl) ?_
    refine k_calli (va_runV (As := [.int (nI to)]) (rest := []) C.1 (kX9_isNode l G B0 f h q i0 i1 i3 i7 i18 i22 i23 i27 j16 j17 a2 a4 a5 a6 b8 b9 b10 a11 a12 a13 a14 b15 b19 b20 b21 a24 a25 a26 (nI to) n9 hM hn0 (by omega)) (cwV 1 C.ts gX9_side_X9_isNode rfl rfl rfl ⟨rfl, hdX9_side_X9_isNode⟩ ⟨Nat.le_of_ble_eq_true rfl, Nat.le_of_ble_eq_true rfl⟩) (k_preV C hX (hM.at 0 rfl) rfl) rfl rfl hl.1 rfl (lv_room (Nat.le_of_ble_eq_true rfl)) dX9_side_10 ⟨Nat.le_of_ble_eq_true rfl, Nat.le_of_ble_eq_true rfl⟩) hX (fun r10 f10 H locs hp10 hX => ?_)
    obtain ⟨hr10, hf10⟩ := hp10
    rw [hf10] at hX
    refine k_topi (y := (kbI (mIn (nI to) n9))) hr10 ?_
    refine lv_if_eq (tgt := 41) C.x C.b dX9_side_13 (by decide) (fun c_13 => ?_) (fun c_13 => ?_)
    · skip
      have c_13 := kbI_0 c_13
      refine lv_iconst (v := nI 0) C.x C.b dX9_side_41 (by decide) ?_
      refine k_topi (y := (kbI (mSv (nI fr) (nI to) (nI w) n9 w9))) (by first | exact kbI_tN ⟨c_5, c_13, Or.inl c_18⟩ | exact kbI_tN ⟨c_5, c_13, Or.inr c_34⟩ | exact kbI_fN (fun z => c_5 z.1) | exact kbI_fN (fun z => c_13 z.2.1) | exact kbI_fN (fun z => z.2.2.elim c_18 c_34)) ?_
      exact J42 ls (lv_sub hl [0, 1, 2, 3] rfl) _ _ hX
    · skip
      have c_13 := kbI_1 c_13
      refine lv_iload_n C.x C.b dX9_side_16 rfl (lv_at hl 3 rfl) ?_
      refine lv_iconst (v := -1) C.x C.b dX9_side_17 (by decide) ?_
      refine lv_icmp_eq (tgt := 37) C.x C.b dX9_side_18 (by decide) (fun c_18 => ?_) (fun c_18 => ?_)
      · skip
        refine lv_iconst (v := nI 1) C.x C.b dX9_side_37 (by decide) ?_
        refine lv_goto (tgt := 42) C.x C.b dX9_side_38 (by decide) ?_
        refine k_topi (y := (kbI (mSv (nI fr) (nI to) (nI w) n9 w9))) (by first | exact kbI_tN ⟨c_5, c_13, Or.inl c_18⟩ | exact kbI_tN ⟨c_5, c_13, Or.inr c_34⟩ | exact kbI_fN (fun z => c_5 z.1) | exact kbI_fN (fun z => c_13 z.2.1) | exact kbI_fN (fun z => z.2.2.elim c_18 c_34)) ?_
        exact J42 ls (lv_sub hl [0, 1, 2, 3] rfl) _ _ hX
      · skip
        refine lv_iload_n C.x C.b dX9_side_21 rfl (lv_at hl 3 rfl) ?_
        refine lv_i2l (v := (nI w).toInt64) C.x C.b dX9_side_22 rfl ?_
        refine lv_lconst (v := 0) C.x C.b dX9_side_23 (by decide) ?_
        refine lv_aload_n C.x C.b dX9_side_24 rfl (lv_at hl 0 rfl) ?_
        refine k_get (X := RX9) (T := TX9) (N := 28) (v := .int i23) C hX (hM.at 0 rfl) rfl hin_X9_side_RX9 23 (by decide) lk_X9_side_f209 (fun _ h9 => h9) rfl dX9_side_25 ?_
        refine k_topi (y := (nI w9)) (hw0) ?_
        refine lv_iconst (v := nI 1) C.x C.b dX9_side_28 (by decide) ?_
        refine lv_isub C.x C.b dX9_side_29 ?_
        refine lv_i2l (v := ((nI w9) - (nI 1)).toInt64) C.x C.b dX9_side_30 rfl ?_
        refine k_calli (va_runS (As := [.long ((nI w).toInt64), .long 0, .long (((nI w9) - (nI 1)).toInt64)]) (rest := []) C.1 (kX9_isIn l G B0 f ((nI w).toInt64) 0 ((nI w9 - nI 1).toInt64)) (va_cwS 3 C.ts gX9_side_X9_isIn rfl rfl rfl (hdX9_side_X9_isIn) ⟨Nat.le_of_ble_eq_true rfl, Nat.le_of_ble_eq_true rfl⟩) (k_preS C hX) rfl rfl hl.1 rfl (lv_room (Nat.le_of_ble_eq_true rfl)) dX9_side_31 ⟨Nat.le_of_ble_eq_true rfl, Nat.le_of_ble_eq_true rfl⟩) hX (fun r31 f31 H locs hp31 hX => ?_)
        obtain ⟨hr31, hf31⟩ := hp31
        rw [hf31] at hX
        refine k_topi (y := (kbI ((0 : Int64) ≤ (nI w).toInt64 ∧ (nI w).toInt64 ≤ (nI w9 - nI 1).toInt64))) hr31 ?_
        refine k_topi (y := (kbI (mIn (nI w) w9))) (kbI_c (m_in (by omega))) ?_
        refine lv_if_eq (tgt := 41) C.x C.b dX9_side_34 (by decide) (fun c_34 => ?_) (fun c_34 => ?_)
        · skip
          have c_34 := kbI_0 c_34
          refine lv_iconst (v := nI 0) C.x C.b dX9_side_41 (by decide) ?_
          refine k_topi (y := (kbI (mSv (nI fr) (nI to) (nI w) n9 w9))) (by first | exact kbI_tN ⟨c_5, c_13, Or.inl c_18⟩ | exact kbI_tN ⟨c_5, c_13, Or.inr c_34⟩ | exact kbI_fN (fun z => c_5 z.1) | exact kbI_fN (fun z => c_13 z.2.1) | exact kbI_fN (fun z => z.2.2.elim c_18 c_34)) ?_
          exact J42 ls (lv_sub hl [0, 1, 2, 3] rfl) _ _ hX
        · skip
          have c_34 := kbI_1 c_34
          refine lv_iconst (v := nI 1) C.x C.b dX9_side_37 (by decide) ?_
          refine lv_goto (tgt := 42) C.x C.b dX9_side_38 (by decide) ?_
          refine k_topi (y := (kbI (mSv (nI fr) (nI to) (nI w) n9 w9))) (by first | exact kbI_tN ⟨c_5, c_13, Or.inl c_18⟩ | exact kbI_tN ⟨c_5, c_13, Or.inr c_34⟩ | exact kbI_fN (fun z => c_5 z.1) | exact kbI_fN (fun z => c_13 z.2.1) | exact kbI_fN (fun z => z.2.2.elim c_18 c_34)) ?_
          exact J42 ls (lv_sub hl [0, 1, 2, 3] rfl) _ _ hX

theorem lk_X9_findsRoot_f33 : Cond.fieldLink RX9 33 "KoebehallModel" "roots" "[J" ∈ wsX9_findsRoot := by decide +kernel
theorem hin_X9_findsRoot_RX9 : ∀ w ∈ u_ws RX9 TX9 28, w ∈ wsX9_findsRoot := by decide +kernel
theorem hdX9_findsRoot_X9_turned : yX9_turned.cls ≠ "java/lang/invoke/MethodHandle" ∧ yX9_turned.cls ≠ "java/lang/invoke/VarHandle" ∧ (parseMethodDescriptor yX9_turned.desc).map (fun d => d.parameters.length) = some 3 := by decide +kernel
theorem lk_X9_findsRoot_f29 : Cond.fieldLink RX9 29 "KoebehallModel" "curves" "[J" ∈ wsX9_findsRoot := by decide +kernel
abbrev rmX9_findsRoot : Room := { frames := 1, cells := 0, slots := 0, locals := 24 }
set_option maxHeartbeats 4000000 in
set_option maxRecDepth 100000 in
/-- X9_findsRoot -/
theorem kX9_findsRoot (l : Launch) (G : kG) (B0 : Nat) (f : kH) (h : Nat) (q : Nat → Nat) (i0 i1 i3 i7 i18 i22 i23 i27 : Int32) (j16 j17 : Int64) (a2 : Nat → Int32) (a4 : Nat → Int32) (a5 : Nat → Int32) (a6 : Nat → Int32) (b8 : Nat → Int64) (b9 : Nat → Int64) (b10 : Nat → Int64) (a11 : Nat → Int32) (a12 : Nat → Int32) (a13 : Nat → Int32) (a14 : Nat → Int32) (b15 : Nat → Int64) (b19 : Nat → Int64) (b20 : Nat → Int64) (b21 : Nat → Int64) (a24 : Nat → Int32) (a25 : Nat → Int32) (a26 : Nat → Int32) (t N : Nat) (hM : kCs f (mC G h q i0 i1 i3 i7 i18 i22 i23 i27 j16 j17 a2 a4 a5 a6 b8 b9 b10 a11 a12 a13 a14 b15 b19 b20 b21 a24 a25 a26)) (ht : t < 8) (hN : mRooted (mCopy b9 b8 (4 * t) 4) N) : Met l yX9_findsRoot wsX9_findsRoot (rmX9_findsRoot) (kP G B0 f [.ref h, .int (nI t)]) (kQv G B0 (fun f1 => kCs f1 (mC G h q i0 i1 i3 i7 i18 i22 i23 i27 j16 j17 a2 a4 a5 a6 b8 (mRoot b8 b9 t N) b10 a11 a12 a13 a14 b15 b19 b20 b21 a24 a25 a26) ∧ kOff (mAs h q) f f1)) 0 0 (kAb B0) := by
  refine kMet (cc := cX9_findsRoot) (maxL := 7) (ret := none) (by decide) rfl (Nat.le_of_ble_eq_true rfl) ?_
  intro p e s m args below meth c H locs Q ls C hX hl hr hlocks hnm hQ
  have hO : kOff (mAs h q) f f := kOff.rf
  have hl : lv_has ls 7 [(0, .ref h), (1, .int (nI t))] := hl
  refine lv_iconst (v := nI 0) C.x C.b dX9_findsRoot_0 (by decide) ?_
  refine lv_istore_n (lv' := [(2, .int (nI 0)), (0, .ref h), (1, .int (nI t))]) C.x C.b dX9_findsRoot_1 rfl hl (by decide) rfl (fun ls hl => ?_)
  have LOOP2 : ∀ (n : Nat) (k : Nat), (k ≤ 4) → (4 - k) < n → ∀ (ls : Array Slot), lv_has ls 7 [(2, .int (nI k)), (0, .ref h), (1, .int (nI t))] → ∀ (fL : kH), kCs fL (mC G h q i0 i1 i3 i7 i18 i22 i23 i27 j16 j17 a2 a4 a5 a6 b8 (mCopy b9 b8 (4 * t) k) b10 a11 a12 a13 a14 b15 b19 b20 b21 a24 a25 a26) → kOff (mAs h q) f fL → ∀ (H : Heap) (locs : List Loc), kX G B0 s fL H locs → W p l e (rmX9_findsRoot) s m args below meth c H locs 0 0 Q (F0 m 2 ls []) := by
    intro n2
    induction n2 with
    | zero => intro k hk hn; exact absurd hn (Nat.not_lt_zero _)
    | succ n2 ih2 =>
      intro k hk hn ls hl fL hM hO H locs hX
      refine lv_iload_n C.x C.b dX9_findsRoot_2 rfl (lv_at hl 0 rfl) ?_
      refine lv_iconst (v := nI 4) C.x C.b dX9_findsRoot_3 (by decide) ?_
      refine lv_icmp_ge (tgt := 29) C.x C.b dX9_findsRoot_4 (by decide) (fun c_4 => ?_) (fun c_4 => ?_)
      · skip
        have c_4 : 4 ≤ k := (nI_leI (by omega) (by omega)).mp c_4
        have hk9 : 4 = k := by omega
        subst hk9
        refine lv_iconst (v := nI 1) C.x C.b dX9_findsRoot_29 (by decide) ?_
        refine lv_istore_n (lv' := [(2, .int (nI 1)), (0, .ref h), (1, .int (nI t))]) C.x C.b dX9_findsRoot_30 rfl hl (by decide) rfl (fun ls hl => ?_)
        have LOOP31 : ∀ (n : Nat) (i mo : Nat), (i ≤ N) → (mo = 1 ∨ mo = 0 ∧ i = N) → (2 * (N - i) + mo) < n → ∀ (ls : Array Slot), lv_has ls 7 [(2, .int (nI mo)), (0, .ref h), (1, .int (nI t))] → ∀ (fL : kH), kCs fL (mC G h q i0 i1 i3 i7 i18 i22 i23 i27 j16 j17 a2 a4 a5 a6 b8 (mRun (mCopy b9 b8 (4 * t) 4) i) b10 a11 a12 a13 a14 b15 b19 b20 b21 a24 a25 a26) → kOff (mAs h q) f fL → ∀ (H : Heap) (locs : List Loc), kX G B0 s fL H locs → W p l e (rmX9_findsRoot) s m args below meth c H locs 0 0 Q (F0 m 31 ls []) := by
          intro n31
          induction n31 with
          | zero => intro i mo hi hmo hn; exact absurd hn (Nat.not_lt_zero _)
          | succ n31 ih31 =>
            intro i mo hi hmo hn ls hl fL hM hO H locs hX
            refine lv_iload_n C.x C.b dX9_findsRoot_31 rfl (lv_at hl 0 rfl) ?_
            refine lv_if_eq (tgt := 129) C.x C.b dX9_findsRoot_32 (by decide) (fun c_32 => ?_) (fun c_32 => ?_)
            · skip
              have c_32 : mo = 0 := (nI_eq (b := 0) (by omega) (by omega)).mp c_32
              have hi9 : i = N := by rcases hmo with q9 | q9 <;> omega
              subst hi9
              refine lv_iconst (v := nI 0) C.x C.b dX9_findsRoot_129 (by decide) ?_
              refine lv_istore_n (lv' := [(3, .int (nI 0)), (2, .int (nI mo)), (0, .ref h), (1, .int (nI t))]) C.x C.b dX9_findsRoot_130 rfl hl (by decide) rfl (fun ls hl => ?_)
              have LOOP131 : ∀ (n : Nat) (u : Nat), (u ≤ 3) → (3 - u) < n → ∀ (ls : Array Slot), lv_has ls 7 [(3, .int (nI u)), (0, .ref h), (1, .int (nI t))] → ∀ (fL : kH), kCs fL (mC G h q i0 i1 i3 i7 i18 i22 i23 i27 j16 j17 a2 a4 a5 a6 b8 (mSortP (mRun (mCopy b9 b8 (4 * t) 4) i) u) b10 a11 a12 a13 a14 b15 b19 b20 b21 a24 a25 a26) → kOff (mAs h q) f fL → ∀ (H : Heap) (locs : List Loc), kX G B0 s fL H locs → W p l e (rmX9_findsRoot) s m args below meth c H locs 0 0 Q (F0 m 131 ls []) := by
                intro n131
                induction n131 with
                | zero => intro u hu hn; exact absurd hn (Nat.not_lt_zero _)
                | succ n131 ih131 =>
                  intro u hu hn ls hl fL hM hO H locs hX
                  refine lv_iload_n C.x C.b dX9_findsRoot_131 rfl (lv_at hl 0 rfl) ?_
                  refine lv_iconst (v := nI 3) C.x C.b dX9_findsRoot_132 (by decide) ?_
                  refine lv_icmp_ge (tgt := 236) C.x C.b dX9_findsRoot_133 (by decide) (fun c_133 => ?_) (fun c_133 => ?_)
                  · skip
                    have c_133 : 3 ≤ u := (nI_leI (by omega) (by omega)).mp c_133
                    have hu9 : 3 = u := by omega
                    subst hu9
                    exact k_vret C hX hr hlocks hQ (by omega) (by omega) (⟨hM, hO⟩) dX9_findsRoot_236
                  · skip
                    have c_133 : ¬ (3 ≤ u) := fun h9 => c_133 ((nI_leI (by omega) (by omega)).mpr h9)
                    refine lv_iconst (v := nI 0) C.x C.b dX9_findsRoot_136 (by decide) ?_
                    refine lv_istore (lv' := [(4, .int (nI 0)), (3, .int (nI u)), (0, .ref h), (1, .int (nI t))]) C.x C.b dX9_findsRoot_137 hl (by decide) rfl (fun ls hl => ?_)
                    have LOOP139 : ∀ (n : Nat) (v : Nat), (v ≤ 3) → (3 - v) < n → ∀ (ls : Array Slot), lv_has ls 7 [(4, .int (nI v)), (3, .int (nI u)), (0, .ref h), (1, .int (nI t))] → ∀ (fL : kH), kCs fL (mC G h q i0 i1 i3 i7 i18 i22 i23 i27 j16 j17 a2 a4 a5 a6 b8 (mPass (mSortP (mRun (mCopy b9 b8 (4 * t) 4) i) u) v) b10 a11 a12 a13 a14 b15 b19 b20 b21 a24 a25 a26) → kOff (mAs h q) f fL → ∀ (H : Heap) (locs : List Loc), kX G B0 s fL H locs → W p l e (rmX9_findsRoot) s m args below meth c H locs 0 0 Q (F0 m 139 ls []) := by
                      intro n139
                      induction n139 with
                      | zero => intro v hv hn; exact absurd hn (Nat.not_lt_zero _)
                      | succ n139 ih139 =>
                        intro v hv hn ls hl fL hM hO H locs hX
                        refine lv_iload C.x C.b dX9_findsRoot_139 (lv_at hl 0 rfl) ?_
                        refine lv_iconst (v := nI 3) C.x C.b dX9_findsRoot_141 (by decide) ?_
                        refine lv_icmp_ge (tgt := 230) C.x C.b dX9_findsRoot_142 (by decide) (fun c_142 => ?_) (fun c_142 => ?_)
                        · skip
                          have c_142 : 3 ≤ v := (nI_leI (by omega) (by omega)).mp c_142
                          have hv9 : 3 = v := by omega
                          subst hv9
                          refine lv_iinc (v := (nI (u + 1))) (lv' := [(3, .int (nI (u + 1))), (4, .int (nI 3)), (0, .ref h), (1, .int (nI t))]) C.x C.b dX9_findsRoot_230 hl (k := 1) rfl (nI_1 _) (by decide) rfl (fun ls hl => ?_)
                          refine lv_goto (tgt := 131) C.x C.b dX9_findsRoot_233 (by decide) ?_
                          exact ih131 (u + 1) (by omega) (by omega) ls (lv_sub hl [0, 2, 3] rfl) _ hM hO _ _ hX
                        · skip
                          have c_142 : ¬ (3 ≤ v) := fun h9 => c_142 ((nI_leI (by omega) (by omega)).mpr h9)
                          refine lv_aload_n C.x C.b dX9_findsRoot_145 rfl (lv_at hl 2 rfl) ?_
                          refine k_get (X := RX9) (T := TX9) (N := 28) (v := .ref (q 9)) C hX (hM.at 0 rfl) rfl hin_X9_findsRoot_RX9 9 (by decide) lk_X9_findsRoot_f33 (fun _ h9 => h9) rfl dX9_findsRoot_146 ?_
                          refine lv_iload C.x C.b dX9_findsRoot_149 (lv_at hl 0 rfl) ?_
                          refine k_lald C hX (hM.at 6 rfl) (vp_in_nI (by omega) (by omega)) dX9_findsRoot_151 ?_
                          refine k_topl (y := (mPass (mSortP (mRun (mCopy b9 b8 (4 * t) 4) i) u) v) v) (by rw [nI_clamp (by omega)]) ?_
                          refine lv_aload_n C.x C.b dX9_findsRoot_152 rfl (lv_at hl 2 rfl) ?_
                          refine k_get (X := RX9) (T := TX9) (N := 28) (v := .ref (q 9)) C hX (hM.at 0 rfl) rfl hin_X9_findsRoot_RX9 9 (by decide) lk_X9_findsRoot_f33 (fun _ h9 => h9) rfl dX9_findsRoot_153 ?_
                          refine lv_iload C.x C.b dX9_findsRoot_156 (lv_at hl 0 rfl) ?_
                          refine lv_iconst (v := nI 1) C.x C.b dX9_findsRoot_158 (by decide) ?_
                          refine lv_iadd C.x C.b dX9_findsRoot_159 ?_
                          refine k_topi (y := nI (v + 1)) (nI_add _ _) ?_
                          refine k_lald C hX (hM.at 6 rfl) (vp_in_nI (by omega) (by omega)) dX9_findsRoot_160 ?_
                          refine k_topl (y := (mPass (mSortP (mRun (mCopy b9 b8 (4 * t) 4) i) u) v) (v + 1)) (by rw [nI_clamp (by omega)]) ?_
                          have J184 : ∀ (ls : Array Slot), lv_has ls 7 [(4, .int (nI v)), (3, .int (nI u)), (0, .ref h), (1, .int (nI t))] → ∀ (H : Heap) (locs : List Loc), kX G B0 s fL H locs → W p l e (rmX9_findsRoot) s m args below meth c H locs 0 0 Q (F0 m 184 ls [.long (mLow (mPass (mSortP (mRun (mCopy b9 b8 (4 * t) 4) i) u) v) v)]) := by
                            intro ls hl H locs hX
                            refine lv_lstore (lv' := [(5, .long (mLow (mPass (mSortP (mRun (mCopy b9 b8 (4 * t) 4) i) u) v) v)), (4, .int (nI v)), (3, .int (nI u)), (0, .ref h), (1, .int (nI t))]) C.x C.b dX9_findsRoot_184 hl (by decide) rfl (fun ls hl => ?_)
                            refine lv_aload_n C.x C.b dX9_findsRoot_186 rfl (lv_at hl 3 rfl) ?_
                            refine k_get (X := RX9) (T := TX9) (N := 28) (v := .ref (q 9)) C hX (hM.at 0 rfl) rfl hin_X9_findsRoot_RX9 9 (by decide) lk_X9_findsRoot_f33 (fun _ h9 => h9) rfl dX9_findsRoot_187 ?_
                            refine lv_iload C.x C.b dX9_findsRoot_190 (lv_at hl 1 rfl) ?_
                            refine lv_iconst (v := nI 1) C.x C.b dX9_findsRoot_192 (by decide) ?_
                            refine lv_iadd C.x C.b dX9_findsRoot_193 ?_
                            refine k_topi (y := nI (v + 1)) (nI_add _ _) ?_
                            refine lv_aload_n C.x C.b dX9_findsRoot_194 rfl (lv_at hl 3 rfl) ?_
                            refine k_get (X := RX9) (T := TX9) (N := 28) (v := .ref (q 9)) C hX (hM.at 0 rfl) rfl hin_X9_findsRoot_RX9 9 (by decide) lk_X9_findsRoot_f33 (fun _ h9 => h9) rfl dX9_findsRoot_195 ?_
                            refine lv_iload C.x C.b dX9_findsRoot_198 (lv_at hl 1 rfl) ?_
                            refine k_lald C hX (hM.at 6 rfl) (vp_in_nI (by omega) (by omega)) dX9_findsRoot_200 ?_
                            refine k_topl (y := (mPass (mSortP (mRun (mCopy b9 b8 (4 * t) 4) i) u) v) v) (by rw [nI_clamp (by omega)]) ?_
                            refine lv_aload_n C.x C.b dX9_findsRoot_201 rfl (lv_at hl 3 rfl) ?_
                            refine k_get (X := RX9) (T := TX9) (N := 28) (v := .ref (q 9)) C hX (hM.at 0 rfl) rfl hin_X9_findsRoot_RX9 9 (by decide) lk_X9_findsRoot_f33 (fun _ h9 => h9) rfl dX9_findsRoot_202 ?_
                            refine lv_iload C.x C.b dX9_findsRoot_205 (lv_at hl 1 rfl) ?_
                            refine lv_iconst (v := nI 1) C.x C.b dX9_findsRoot_207 (by decide) ?_
                            refine lv_iadd C.x C.b dX9_findsRoot_208 ?_
                            refine k_topi (y := nI (v + 1)) (nI_add _ _) ?_
                            refine k_lald C hX (hM.at 6 rfl) (vp_in_nI (by omega) (by omega)) dX9_findsRoot_209 ?_
                            refine k_topl (y := (mPass (mSortP (mRun (mCopy b9 b8 (4 * t) 4) i) u) v) (v + 1)) (by rw [nI_clamp (by omega)]) ?_
                            refine lv_ladd C.x C.b dX9_findsRoot_210 ?_
                            refine lv_lload C.x C.b dX9_findsRoot_211 (lv_at hl 0 rfl) ?_
                            refine lv_lsub C.x C.b dX9_findsRoot_213 ?_
                            refine k_last C hX (hM.at 6 rfl) (vp_in_nI (by omega) (by omega)) dX9_findsRoot_214 (fun H locs hX => ?_)
                            rw [nI_clamp (by omega)] at hX
                            obtain ⟨g5, hX, hM, hO⟩ := kX.wr hX hM hO 6 rfl (List.mem_of_getElem? (i := 6) rfl)
                            have hM : kCs g5 (mC G h q i0 i1 i3 i7 i18 i22 i23 i27 j16 j17 a2 a4 a5 a6 b8 (vp_updL (mPass (mSortP (mRun (mCopy b9 b8 (4 * t) 4) i) u) v) (v + 1) ((((mPass (mSortP (mRun (mCopy b9 b8 (4 * t) 4) i) u) v) v) + ((mPass (mSortP (mRun (mCopy b9 b8 (4 * t) 4) i) u) v) (v + 1))) - (mLow (mPass (mSortP (mRun (mCopy b9 b8 (4 * t) 4) i) u) v) v))) b10 a11 a12 a13 a14 b15 b19 b20 b21 a24 a25 a26) := hM
                            refine lv_aload_n C.x C.b dX9_findsRoot_215 rfl (lv_at hl 3 rfl) ?_
                            refine k_get (X := RX9) (T := TX9) (N := 28) (v := .ref (q 9)) C hX (hM.at 0 rfl) rfl hin_X9_findsRoot_RX9 9 (by decide) lk_X9_findsRoot_f33 (fun _ h9 => h9) rfl dX9_findsRoot_216 ?_
                            refine lv_iload C.x C.b dX9_findsRoot_219 (lv_at hl 1 rfl) ?_
                            refine lv_lload C.x C.b dX9_findsRoot_221 (lv_at hl 0 rfl) ?_
                            refine k_last C hX (hM.at 6 rfl) (vp_in_nI (by omega) (by omega)) dX9_findsRoot_223 (fun H locs hX => ?_)
                            rw [nI_clamp (by omega)] at hX
                            obtain ⟨g6, hX, hM, hO⟩ := kX.wr hX hM hO 6 rfl (List.mem_of_getElem? (i := 6) rfl)
                            have hM : kCs g6 (mC G h q i0 i1 i3 i7 i18 i22 i23 i27 j16 j17 a2 a4 a5 a6 b8 (vp_updL (vp_updL (mPass (mSortP (mRun (mCopy b9 b8 (4 * t) 4) i) u) v) (v + 1) ((((mPass (mSortP (mRun (mCopy b9 b8 (4 * t) 4) i) u) v) v) + ((mPass (mSortP (mRun (mCopy b9 b8 (4 * t) 4) i) u) v) (v + 1))) - (mLow (mPass (mSortP (mRun (mCopy b9 b8 (4 * t) 4) i) u) v) v))) v (mLow (mPass (mSortP (mRun (mCopy b9 b8 (4 * t) 4) i) u) v) v)) b10 a11 a12 a13 a14 b15 b19 b20 b21 a24 a25 a26) := hM
                            rw [show (vp_updL (vp_updL (mPass (mSortP (mRun (mCopy b9 b8 (4 * t) 4) i) u) v) (v + 1) ((((mPass (mSortP (mRun (mCopy b9 b8 (4 * t) 4) i) u) v) v) + ((mPass (mSortP (mRun (mCopy b9 b8 (4 * t) 4) i) u) v) (v + 1))) - (mLow (mPass (mSortP (mRun (mCopy b9 b8 (4 * t) 4) i) u) v) v))) v (mLow (mPass (mSortP (mRun (mCopy b9 b8 (4 * t) 4) i) u) v) v)) = (mPass (mSortP (mRun (mCopy b9 b8 (4 * t) 4) i) u) (v + 1)) from rfl] at hM
                            have hM : kCs g6 (mC G h q i0 i1 i3 i7 i18 i22 i23 i27 j16 j17 a2 a4 a5 a6 b8 (mPass (mSortP (mRun (mCopy b9 b8 (4 * t) 4) i) u) (v + 1)) b10 a11 a12 a13 a14 b15 b19 b20 b21 a24 a25 a26) := hM
                            refine lv_iinc (v := (nI (v + 1))) (lv' := [(4, .int (nI (v + 1))), (5, .long (mLow (mPass (mSortP (mRun (mCopy b9 b8 (4 * t) 4) i) u) v) v)), (3, .int (nI u)), (0, .ref h), (1, .int (nI t))]) C.x C.b dX9_findsRoot_224 hl (k := 1) rfl (nI_1 _) (by decide) rfl (fun ls hl => ?_)
                            refine lv_goto (tgt := 139) C.x C.b dX9_findsRoot_227 (by decide) ?_
                            exact ih139 (v + 1) (by omega) (by omega) ls (lv_sub hl [0, 2, 3, 4] rfl) _ hM hO _ _ hX
                          refine k_lcmp_ge (tgt := 175) C.x C.b dX9_findsRoot_161 dX9_findsRoot_162 (by decide) (fun c_162 => ?_) (fun c_162 => ?_)
                          · skip
                            refine lv_aload_n C.x C.b dX9_findsRoot_175 rfl (lv_at hl 2 rfl) ?_
                            refine k_get (X := RX9) (T := TX9) (N := 28) (v := .ref (q 9)) C hX (hM.at 0 rfl) rfl hin_X9_findsRoot_RX9 9 (by decide) lk_X9_findsRoot_f33 (fun _ h9 => h9) rfl dX9_findsRoot_176 ?_
                            refine lv_iload C.x C.b dX9_findsRoot_179 (lv_at hl 0 rfl) ?_
                            refine lv_iconst (v := nI 1) C.x C.b dX9_findsRoot_181 (by decide) ?_
                            refine lv_iadd C.x C.b dX9_findsRoot_182 ?_
                            refine k_topi (y := nI (v + 1)) (nI_add _ _) ?_
                            refine k_lald C hX (hM.at 6 rfl) (vp_in_nI (by omega) (by omega)) dX9_findsRoot_183 ?_
                            refine k_topl (y := (mPass (mSortP (mRun (mCopy b9 b8 (4 * t) 4) i) u) v) (v + 1)) (by rw [nI_clamp (by omega)]) ?_
                            refine k_topl (y := (mLow (mPass (mSortP (mRun (mCopy b9 b8 (4 * t) 4) i) u) v) v)) (by first | (rw [mLow, if_pos c_162]; done) | (rw [mLow, if_neg c_162]; done)) ?_
                            exact J184 ls (lv_sub hl [0, 1, 2, 3] rfl) _ _ hX
                          · skip
                            refine lv_aload_n C.x C.b dX9_findsRoot_165 rfl (lv_at hl 2 rfl) ?_
                            refine k_get (X := RX9) (T := TX9) (N := 28) (v := .ref (q 9)) C hX (hM.at 0 rfl) rfl hin_X9_findsRoot_RX9 9 (by decide) lk_X9_findsRoot_f33 (fun _ h9 => h9) rfl dX9_findsRoot_166 ?_
                            refine lv_iload C.x C.b dX9_findsRoot_169 (lv_at hl 0 rfl) ?_
                            refine k_lald C hX (hM.at 6 rfl) (vp_in_nI (by omega) (by omega)) dX9_findsRoot_171 ?_
                            refine k_topl (y := (mPass (mSortP (mRun (mCopy b9 b8 (4 * t) 4) i) u) v) v) (by rw [nI_clamp (by omega)]) ?_
                            refine lv_goto (tgt := 184) C.x C.b dX9_findsRoot_172 (by decide) ?_
                            refine k_topl (y := (mLow (mPass (mSortP (mRun (mCopy b9 b8 (4 * t) 4) i) u) v) v)) (by first | (rw [mLow, if_pos c_162]; done) | (rw [mLow, if_neg c_162]; done)) ?_
                            exact J184 ls (lv_sub hl [0, 1, 2, 3] rfl) _ _ hX
                    exact LOOP139 _ 0 (by omega) (Nat.lt_succ_self _) ls (lv_sub hl [0, 1, 2, 3] rfl) _ hM hO _ _ hX
              exact LOOP131 _ 0 (by omega) (Nat.lt_succ_self _) ls (lv_sub hl [0, 2, 3] rfl) _ hM hO _ _ hX
            · skip
              have c_32 : ¬ mo = 0 := fun h9 => c_32 ((nI_eq (b := 0) (by omega) (by omega)).mpr h9)
              have hmo1 : mo = 1 := by omega
              subst hmo1
              refine lv_iconst (v := nI 0) C.x C.b dX9_findsRoot_35 (by decide) ?_
              refine lv_istore_n (lv' := [(3, .int (nI 0)), (2, .int (nI 1)), (0, .ref h), (1, .int (nI t))]) C.x C.b dX9_findsRoot_36 rfl hl (by decide) rfl (fun ls hl => ?_)
              refine lv_iconst (v := nI 1) C.x C.b dX9_findsRoot_37 (by decide) ?_
              refine lv_istore (lv' := [(4, .int (nI 1)), (3, .int (nI 0)), (2, .int (nI 1)), (0, .ref h), (1, .int (nI t))]) C.x C.b dX9_findsRoot_38 hl (by decide) rfl (fun ls hl => ?_)
              have LOOP40 : ∀ (n : Nat) (k : Nat), (k ≤ 3) → (3 - k) < n → ∀ (ls : Array Slot), lv_has ls 7 [(3, .int (nI (mBest (mRun (mCopy b9 b8 (4 * t) 4) i) k))), (4, .int (nI (k + 1))), (0, .ref h), (1, .int (nI t)), (2, .int (nI 1))] → ∀ (H : Heap) (locs : List Loc), kX G B0 s fL H locs → W p l e (rmX9_findsRoot) s m args below meth c H locs 0 0 Q (F0 m 40 ls []) := by
                intro n40
                induction n40 with
                | zero => intro k hk hn; exact absurd hn (Nat.not_lt_zero _)
                | succ n40 ih40 =>
                  intro k hk hn ls hl H locs hX
                  refine lv_iload C.x C.b dX9_findsRoot_40 (lv_at hl 1 rfl) ?_
                  have hbk := mBest_le (mRun (mCopy b9 b8 (4 * t) 4) i) k
                  refine lv_iconst (v := nI 4) C.x C.b dX9_findsRoot_42 (by decide) ?_
                  refine lv_icmp_ge (tgt := 76) C.x C.b dX9_findsRoot_43 (by decide) (fun c_43 => ?_) (fun c_43 => ?_)
                  · skip
                    have c_43 : 4 ≤ k + 1 := (nI_leI (by omega) (by omega)).mp c_43
                    have hk9 : 3 = k := by omega
                    subst hk9
                    have hb3 := mBest_le (mRun (mCopy b9 b8 (4 * t) 4) i) 3
                    refine lv_aload_n C.x C.b dX9_findsRoot_76 rfl (lv_at hl 2 rfl) ?_
                    refine k_get (X := RX9) (T := TX9) (N := 28) (v := .ref (q 9)) C hX (hM.at 0 rfl) rfl hin_X9_findsRoot_RX9 9 (by decide) lk_X9_findsRoot_f33 (fun _ h9 => h9) rfl dX9_findsRoot_77 ?_
                    refine lv_iconst (v := nI 0) C.x C.b dX9_findsRoot_80 (by decide) ?_
                    refine lv_iload_n C.x C.b dX9_findsRoot_81 rfl (lv_at hl 0 rfl) ?_
                    refine k_calll (va_runS (As := [.ref (q 9), .int (nI 0), .int (nI (mBest (mRun (mCopy b9 b8 (4 * t) 4) i) 3))]) (rest := []) C.1 (kX9_turned l G B0 fL (q 9) 4 (mRun (mCopy b9 b8 (4 * t) 4) i) 0 (mBest (mRun (mCopy b9 b8 (4 * t) 4) i) 3) (kCs.one (hM.at 6 rfl)) (by omega) (by omega) (by omega)) (va_cwS 3 C.ts gX9_findsRoot_X9_turned rfl rfl rfl (hdX9_findsRoot_X9_turned) ⟨Nat.le_of_ble_eq_true rfl, Nat.le_of_ble_eq_true rfl⟩) (k_preS C hX) rfl rfl hl.1 rfl (lv_room (Nat.le_of_ble_eq_true rfl)) dX9_findsRoot_82 ⟨Nat.le_of_ble_eq_true rfl, Nat.le_of_ble_eq_true rfl⟩) hX (fun r82 f82 H locs hp82 hX => ?_)
                    obtain ⟨hr82, hf82⟩ := hp82
                    rw [hf82] at hX
                    refine k_topl (y := (mTurned (mRun (mCopy b9 b8 (4 * t) 4) i) 0 (mBest (mRun (mCopy b9 b8 (4 * t) 4) i) 3))) hr82 ?_
                    refine lv_lstore (lv' := [(4, .long (mTurned (mRun (mCopy b9 b8 (4 * t) 4) i) 0 (mBest (mRun (mCopy b9 b8 (4 * t) 4) i) 3))), (3, .int (nI (mBest (mRun (mCopy b9 b8 (4 * t) 4) i) 3))), (0, .ref h), (1, .int (nI t)), (2, .int (nI 1))]) C.x C.b dX9_findsRoot_85 hl (by decide) rfl (fun ls hl => ?_)
                    refine lv_lload C.x C.b dX9_findsRoot_87 (lv_at hl 0 rfl) ?_
                    refine lv_aload_n C.x C.b dX9_findsRoot_89 rfl (lv_at hl 2 rfl) ?_
                    refine k_get (X := RX9) (T := TX9) (N := 28) (v := .ref (q 9)) C hX (hM.at 0 rfl) rfl hin_X9_findsRoot_RX9 9 (by decide) lk_X9_findsRoot_f33 (fun _ h9 => h9) rfl dX9_findsRoot_90 ?_
                    refine lv_iload_n C.x C.b dX9_findsRoot_93 rfl (lv_at hl 1 rfl) ?_
                    refine k_lald C hX (hM.at 6 rfl) (vp_in_nI (by omega) (by omega)) dX9_findsRoot_94 ?_
                    refine k_topl (y := (mRun (mCopy b9 b8 (4 * t) 4) i) (mBest (mRun (mCopy b9 b8 (4 * t) 4) i) 3)) (by rw [nI_clamp (by omega)]) ?_
                    refine k_lcmp_ge (tgt := 103) C.x C.b dX9_findsRoot_95 dX9_findsRoot_96 (by decide) (fun c_96 => ?_) (fun c_96 => ?_)
                    · skip
                      have hi9 : i = N := by rcases Nat.lt_or_ge i N with q9 | q9; exact absurd (hN.1 i q9) c_96; omega
                      refine lv_iconst (v := nI 0) C.x C.b dX9_findsRoot_103 (by decide) ?_
                      refine lv_istore_n (lv' := [(2, .int (nI 0)), (4, .long (mTurned (mRun (mCopy b9 b8 (4 * t) 4) i) 0 (mBest (mRun (mCopy b9 b8 (4 * t) 4) i) 3))), (3, .int (nI (mBest (mRun (mCopy b9 b8 (4 * t) 4) i) 3))), (0, .ref h), (1, .int (nI t))]) C.x C.b dX9_findsRoot_104 rfl hl (by decide) rfl (fun ls hl => ?_)
                      refine lv_aload_n C.x C.b dX9_findsRoot_105 rfl (lv_at hl 3 rfl) ?_
                      refine k_get (X := RX9) (T := TX9) (N := 28) (v := .ref (q 9)) C hX (hM.at 0 rfl) rfl hin_X9_findsRoot_RX9 9 (by decide) lk_X9_findsRoot_f33 (fun _ h9 => h9) rfl dX9_findsRoot_106 ?_
                      refine lv_iload_n C.x C.b dX9_findsRoot_109 rfl (lv_at hl 2 rfl) ?_
                      refine lv_iload_n C.x C.b dX9_findsRoot_110 rfl (lv_at hl 0 rfl) ?_
                      refine lv_if_eq (tgt := 119) C.x C.b dX9_findsRoot_111 (by decide) (fun c_111 => ?_) (fun c_111 => ?_)
                      rotate_left
                      · exact absurd c_111 (by decide)
                      refine lv_aload_n C.x C.b dX9_findsRoot_119 rfl (lv_at hl 3 rfl) ?_
                      refine k_get (X := RX9) (T := TX9) (N := 28) (v := .ref (q 9)) C hX (hM.at 0 rfl) rfl hin_X9_findsRoot_RX9 9 (by decide) lk_X9_findsRoot_f33 (fun _ h9 => h9) rfl dX9_findsRoot_120 ?_
                      refine lv_iload_n C.x C.b dX9_findsRoot_123 rfl (lv_at hl 2 rfl) ?_
                      refine k_lald C hX (hM.at 6 rfl) (vp_in_nI (by omega) (by omega)) dX9_findsRoot_124 ?_
                      refine k_topl (y := (mRun (mCopy b9 b8 (4 * t) 4) i) (mBest (mRun (mCopy b9 b8 (4 * t) 4) i) 3)) (by rw [nI_clamp (by omega)]) ?_
                      refine k_last C hX (hM.at 6 rfl) (vp_in_nI (by omega) (by omega)) dX9_findsRoot_125 (fun H locs hX => ?_)
                      rw [nI_clamp (by omega)] at hX
                      obtain ⟨g8, hX, hM, hO⟩ := kX.wr hX hM hO 6 rfl (List.mem_of_getElem? (i := 6) rfl)
                      have hM : kCs g8 (mC G h q i0 i1 i3 i7 i18 i22 i23 i27 j16 j17 a2 a4 a5 a6 b8 (vp_updL (mRun (mCopy b9 b8 (4 * t) 4) i) (mBest (mRun (mCopy b9 b8 (4 * t) 4) i) 3) ((mRun (mCopy b9 b8 (4 * t) 4) i) (mBest (mRun (mCopy b9 b8 (4 * t) 4) i) 3))) b10 a11 a12 a13 a14 b15 b19 b20 b21 a24 a25 a26) := hM
                      rw [show (vp_updL (mRun (mCopy b9 b8 (4 * t) 4) i) (mBest (mRun (mCopy b9 b8 (4 * t) 4) i) 3) ((mRun (mCopy b9 b8 (4 * t) 4) i) (mBest (mRun (mCopy b9 b8 (4 * t) 4) i) 3))) = (mRun (mCopy b9 b8 (4 * t) 4) i) from vp_selfL _ _] at hM
                      have hM : kCs g8 (mC G h q i0 i1 i3 i7 i18 i22 i23 i27 j16 j17 a2 a4 a5 a6 b8 (mRun (mCopy b9 b8 (4 * t) 4) i) b10 a11 a12 a13 a14 b15 b19 b20 b21 a24 a25 a26) := hM
                      refine lv_goto (tgt := 31) C.x C.b dX9_findsRoot_126 (by decide) ?_
                      exact ih31 i 0 hi (Or.inr ⟨rfl, hi9⟩) (by omega) ls (lv_sub hl [0, 3, 4] rfl) _ hM hO _ _ hX
                    · skip
                      have hlt : i < N := by rcases Nat.lt_or_ge i N with q9 | q9; exact q9; exact absurd (by rw [show i = N by omega] at c_96; exact c_96) hN.2
                      refine lv_iconst (v := nI 1) C.x C.b dX9_findsRoot_99 (by decide) ?_
                      refine lv_goto (tgt := 104) C.x C.b dX9_findsRoot_100 (by decide) ?_
                      refine lv_istore_n (lv' := [(2, .int (nI 1)), (4, .long (mTurned (mRun (mCopy b9 b8 (4 * t) 4) i) 0 (mBest (mRun (mCopy b9 b8 (4 * t) 4) i) 3))), (3, .int (nI (mBest (mRun (mCopy b9 b8 (4 * t) 4) i) 3))), (0, .ref h), (1, .int (nI t))]) C.x C.b dX9_findsRoot_104 rfl hl (by decide) rfl (fun ls hl => ?_)
                      refine lv_aload_n C.x C.b dX9_findsRoot_105 rfl (lv_at hl 3 rfl) ?_
                      refine k_get (X := RX9) (T := TX9) (N := 28) (v := .ref (q 9)) C hX (hM.at 0 rfl) rfl hin_X9_findsRoot_RX9 9 (by decide) lk_X9_findsRoot_f33 (fun _ h9 => h9) rfl dX9_findsRoot_106 ?_
                      refine lv_iload_n C.x C.b dX9_findsRoot_109 rfl (lv_at hl 2 rfl) ?_
                      refine lv_iload_n C.x C.b dX9_findsRoot_110 rfl (lv_at hl 0 rfl) ?_
                      refine lv_if_eq (tgt := 119) C.x C.b dX9_findsRoot_111 (by decide) (fun c_111 => ?_) (fun c_111 => ?_)
                      · exact absurd c_111 (by decide)
                      refine lv_lload C.x C.b dX9_findsRoot_114 (lv_at hl 1 rfl) ?_
                      refine lv_goto (tgt := 125) C.x C.b dX9_findsRoot_116 (by decide) ?_
                      refine k_last C hX (hM.at 6 rfl) (vp_in_nI (by omega) (by omega)) dX9_findsRoot_125 (fun H locs hX => ?_)
                      rw [nI_clamp (by omega)] at hX
                      obtain ⟨g9, hX, hM, hO⟩ := kX.wr hX hM hO 6 rfl (List.mem_of_getElem? (i := 6) rfl)
                      have hM : kCs g9 (mC G h q i0 i1 i3 i7 i18 i22 i23 i27 j16 j17 a2 a4 a5 a6 b8 (vp_updL (mRun (mCopy b9 b8 (4 * t) 4) i) (mBest (mRun (mCopy b9 b8 (4 * t) 4) i) 3) (mTurned (mRun (mCopy b9 b8 (4 * t) 4) i) 0 (mBest (mRun (mCopy b9 b8 (4 * t) 4) i) 3))) b10 a11 a12 a13 a14 b15 b19 b20 b21 a24 a25 a26) := hM
                      rw [show (vp_updL (mRun (mCopy b9 b8 (4 * t) 4) i) (mBest (mRun (mCopy b9 b8 (4 * t) 4) i) 3) (mTurned (mRun (mCopy b9 b8 (4 * t) 4) i) 0 (mBest (mRun (mCopy b9 b8 (4 * t) 4) i) 3))) = (mRun (mCopy b9 b8 (4 * t) 4) (i + 1)) from rfl] at hM
                      have hM : kCs g9 (mC G h q i0 i1 i3 i7 i18 i22 i23 i27 j16 j17 a2 a4 a5 a6 b8 (mRun (mCopy b9 b8 (4 * t) 4) (i + 1)) b10 a11 a12 a13 a14 b15 b19 b20 b21 a24 a25 a26) := hM
                      refine lv_goto (tgt := 31) C.x C.b dX9_findsRoot_126 (by decide) ?_
                      exact ih31 (i + 1) 1 (by omega) (Or.inl rfl) (by omega) ls (lv_sub hl [0, 3, 4] rfl) _ hM hO _ _ hX
                  · skip
                    have c_43 : ¬ (4 ≤ k + 1) := fun h9 => c_43 ((nI_leI (by omega) (by omega)).mpr h9)
                    refine lv_aload_n C.x C.b dX9_findsRoot_46 rfl (lv_at hl 2 rfl) ?_
                    refine k_get (X := RX9) (T := TX9) (N := 28) (v := .ref (q 9)) C hX (hM.at 0 rfl) rfl hin_X9_findsRoot_RX9 9 (by decide) lk_X9_findsRoot_f33 (fun _ h9 => h9) rfl dX9_findsRoot_47 ?_
                    refine lv_iload C.x C.b dX9_findsRoot_50 (lv_at hl 1 rfl) ?_
                    refine k_lald C hX (hM.at 6 rfl) (vp_in_nI (by omega) (by omega)) dX9_findsRoot_52 ?_
                    refine k_topl (y := (mRun (mCopy b9 b8 (4 * t) 4) i) (k + 1)) (by rw [nI_clamp (by omega)]) ?_
                    refine lv_aload_n C.x C.b dX9_findsRoot_53 rfl (lv_at hl 2 rfl) ?_
                    refine k_get (X := RX9) (T := TX9) (N := 28) (v := .ref (q 9)) C hX (hM.at 0 rfl) rfl hin_X9_findsRoot_RX9 9 (by decide) lk_X9_findsRoot_f33 (fun _ h9 => h9) rfl dX9_findsRoot_54 ?_
                    refine lv_iload_n C.x C.b dX9_findsRoot_57 rfl (lv_at hl 0 rfl) ?_
                    refine k_lald C hX (hM.at 6 rfl) (vp_in_nI (by omega) (by omega)) dX9_findsRoot_58 ?_
                    refine k_topl (y := (mRun (mCopy b9 b8 (4 * t) 4) i) (mBest (mRun (mCopy b9 b8 (4 * t) 4) i) k)) (by rw [nI_clamp (by omega)]) ?_
                    have J69 : ∀ (ls : Array Slot), lv_has ls 7 [(3, .int (nI (mBest (mRun (mCopy b9 b8 (4 * t) 4) i) k))), (4, .int (nI (k + 1))), (0, .ref h), (1, .int (nI t)), (2, .int (nI 1))] → ∀ (H : Heap) (locs : List Loc), kX G B0 s fL H locs → W p l e (rmX9_findsRoot) s m args below meth c H locs 0 0 Q (F0 m 69 ls [.int (nI (mBest (mRun (mCopy b9 b8 (4 * t) 4) i) (k + 1)))]) := by
                      intro ls hl H locs hX
                      refine lv_istore_n (lv' := [(3, .int (nI (mBest (mRun (mCopy b9 b8 (4 * t) 4) i) (k + 1)))), (4, .int (nI (k + 1))), (0, .ref h), (1, .int (nI t)), (2, .int (nI 1))]) C.x C.b dX9_findsRoot_69 rfl hl (by decide) rfl (fun ls hl => ?_)
                      refine lv_iinc (v := (nI (k + 1 + 1))) (lv' := [(4, .int (nI (k + 1 + 1))), (3, .int (nI (mBest (mRun (mCopy b9 b8 (4 * t) 4) i) (k + 1)))), (0, .ref h), (1, .int (nI t)), (2, .int (nI 1))]) C.x C.b dX9_findsRoot_70 hl (k := 1) rfl (nI_1 _) (by decide) rfl (fun ls hl => ?_)
                      refine lv_goto (tgt := 40) C.x C.b dX9_findsRoot_73 (by decide) ?_
                      exact ih40 (k + 1) (by omega) (by omega) ls (lv_sub hl [1, 0, 2, 3, 4] rfl) _ _ hX
                    refine k_lcmp_le (tgt := 68) C.x C.b dX9_findsRoot_59 dX9_findsRoot_60 (by decide) (fun c_60 => ?_) (fun c_60 => ?_)
                    · skip
                      refine lv_iload_n C.x C.b dX9_findsRoot_68 rfl (lv_at hl 0 rfl) ?_
                      refine k_topi (y := (nI (mBest (mRun (mCopy b9 b8 (4 * t) 4) i) (k + 1)))) (congrArg nI (by simp only [mBest]; first | (rw [if_pos c_60]; done) | (rw [if_neg c_60]; done))) ?_
                      exact J69 ls (lv_sub hl [0, 1, 2, 3, 4] rfl) _ _ hX
                    · skip
                      refine lv_iload C.x C.b dX9_findsRoot_63 (lv_at hl 1 rfl) ?_
                      refine lv_goto (tgt := 69) C.x C.b dX9_findsRoot_65 (by decide) ?_
                      refine k_topi (y := (nI (mBest (mRun (mCopy b9 b8 (4 * t) 4) i) (k + 1)))) (congrArg nI (by simp only [mBest]; first | (rw [if_pos c_60]; done) | (rw [if_neg c_60]; done))) ?_
                      exact J69 ls (lv_sub hl [0, 1, 2, 3, 4] rfl) _ _ hX
              exact LOOP40 _ 0 (by omega) (Nat.lt_succ_self _) ls (lv_sub hl [1, 0, 3, 4, 2] rfl) _ _ hX
        exact LOOP31 _ 0 1 (Nat.zero_le _) (Or.inl rfl) (Nat.lt_succ_self _) ls (lv_sub hl [0, 1, 2] rfl) _ hM hO _ _ hX
      · skip
        have c_4 : ¬ (4 ≤ k) := fun h9 => c_4 ((nI_leI (by omega) (by omega)).mpr h9)
        refine lv_aload_n C.x C.b dX9_findsRoot_7 rfl (lv_at hl 1 rfl) ?_
        refine k_get (X := RX9) (T := TX9) (N := 28) (v := .ref (q 9)) C hX (hM.at 0 rfl) rfl hin_X9_findsRoot_RX9 9 (by decide) lk_X9_findsRoot_f33 (fun _ h9 => h9) rfl dX9_findsRoot_8 ?_
        refine lv_iload_n C.x C.b dX9_findsRoot_11 rfl (lv_at hl 0 rfl) ?_
        refine lv_aload_n C.x C.b dX9_findsRoot_12 rfl (lv_at hl 1 rfl) ?_
        refine k_get (X := RX9) (T := TX9) (N := 28) (v := .ref (q 8)) C hX (hM.at 0 rfl) rfl hin_X9_findsRoot_RX9 8 (by decide) lk_X9_findsRoot_f29 (fun _ h9 => h9) rfl dX9_findsRoot_13 ?_
        refine lv_iconst (v := nI 4) C.x C.b dX9_findsRoot_16 (by decide) ?_
        refine lv_iload_n C.x C.b dX9_findsRoot_17 rfl (lv_at hl 2 rfl) ?_
        refine lv_imul C.x C.b dX9_findsRoot_18 ?_
        refine k_topi (y := nI (4 * t)) (pk_mul _ _) ?_
        refine lv_iload_n C.x C.b dX9_findsRoot_19 rfl (lv_at hl 0 rfl) ?_
        refine lv_iadd C.x C.b dX9_findsRoot_20 ?_
        refine k_topi (y := nI ((4 * t) + k)) (nI_add _ _) ?_
        refine k_lald C hX (hM.at 5 rfl) (vp_in_nI (by omega) (by omega)) dX9_findsRoot_21 ?_
        refine k_topl (y := b8 ((4 * t) + k)) (by rw [nI_clamp (by omega)]) ?_
        refine k_last C hX (hM.at 6 rfl) (vp_in_nI (by omega) (by omega)) dX9_findsRoot_22 (fun H locs hX => ?_)
        rw [nI_clamp (by omega)] at hX
        obtain ⟨g10, hX, hM, hO⟩ := kX.wr hX hM hO 6 rfl (List.mem_of_getElem? (i := 6) rfl)
        have hM : kCs g10 (mC G h q i0 i1 i3 i7 i18 i22 i23 i27 j16 j17 a2 a4 a5 a6 b8 (vp_updL (mCopy b9 b8 (4 * t) k) k (b8 ((4 * t) + k))) b10 a11 a12 a13 a14 b15 b19 b20 b21 a24 a25 a26) := hM
        refine lv_iinc (v := (nI (k + 1))) (lv' := [(2, .int (nI (k + 1))), (0, .ref h), (1, .int (nI t))]) C.x C.b dX9_findsRoot_23 hl (k := 0) rfl (nI_1 _) (by decide) rfl (fun ls hl => ?_)
        refine lv_goto (tgt := 2) C.x C.b dX9_findsRoot_26 (by decide) ?_
        exact ih2 (k + 1) (by omega) (by omega) ls (lv_sub hl [0, 1, 2] rfl) _ hM hO _ _ hX
  exact LOOP2 _ 0 (by omega) (Nat.lt_succ_self _) ls (lv_sub hl [0, 1, 2] rfl) _ hM hO _ _ hX
