/-! the law's loop -/
theorem and31 (x : Int32) : ∃ k, k < 32 ∧ x &&& 31 = nI k := by
  have h1 : (x &&& 31).toBitVec.toNat ≤ 31 := by
    show (x.toBitVec &&& (31 : Int32).toBitVec).toNat ≤ 31
    rw [BitVec.toNat_and]
    exact Nat.le_trans Nat.and_le_right (by decide)
  refine ⟨(x &&& 31).toBitVec.toNat, Nat.lt_succ_of_le h1, Int32.toBitVec_inj.mp (BitVec.eq_of_toNat_eq ?_)⟩
  show (x &&& 31).toBitVec.toNat = (BitVec.ofNat 32 (x &&& 31).toBitVec.toNat).toNat
  rw [BitVec.toNat_ofNat, Nat.mod_eq_of_lt (by omega)]
theorem lw_six {L i : Nat} (hL : L ≤ 3072) (hi : i ≤ L) (q : ¬ Int32.ofNat L - nI 6 < nI i) : i + 6 ≤ L := by
  rcases Nat.lt_or_ge L 6 with h | h
  · refine absurd ?_ q
    have e : (Int32.ofNat L - nI 6).toInt = (L : Int) - 6 := by
      rcases (show L = 0 ∨ L = 1 ∨ L = 2 ∨ L = 3 ∨ L = 4 ∨ L = 5 by omega) with rfl | rfl | rfl | rfl | rfl | rfl
      all_goals decide +kernel
    rw [Int32.lt_iff_toInt_lt, nI_toInt (by omega), e]
    omega
  · have e1 : nI L = nI (L - 6) + nI 6 := by rw [nI_add, show L - 6 + 6 = L by omega]
    have e : Int32.ofNat L - nI 6 = nI (L - 6) := by
      show nI L - nI 6 = nI (L - 6)
      rw [e1]
      exact Int32.add_sub_cancel _ _
    rw [e, nI_ltI (by omega) (by omega)] at q
    omega
section KLO
variable {p : Program} {l : Launch} {e : Env} {R : Room} {s : State} {m : MethodId} {args : Array Value} {below : List Frame} {meth : Method} {c : Code} {Q : State → Prop}
variable {G : kG} {B0 h hm po pd b L : Nat} {xs : Nat → Int32}
set_option maxHeartbeats 4000000 in
theorem law_loop (hst : l.stackTraces = false) (C : kC G B0 p m c cL_law 9 s args wsL_law RL) (hXs : va_X b L xs s s.heap) (hbl : b < s.heap.size) (hbA : ¬ kAb B0 b) (hL : L ≤ 3072) (hR : 302 ≤ R.frames ∧ 21000 ≤ R.locals) (hRc : 601024 ≤ R.cells ∧ 7293034 ≤ R.slots)
    (E : ∀ (f : kH) (H : Heap) (locs : List Loc) (ls : Array Slot), kX G B0 s f H locs → W p l e R s m args below meth c H locs 601024 7293034 Q (F0 m 2179 ls [])) :
    ∀ (n i : Nat) (f : kH) (H : Heap) (locs : List Loc) (cells slots : Nat) (m0 : mSt) (ls : Array Slot), i ≤ L → L + 1 ≤ i + n → cells ≤ 2000 + i * 170 → slots ≤ 20000 + i * 2340 → kX G B0 s f H locs → Inv G h hm po pd f m0 → lv_has ls 9 (lwL b h hm po pd i) → W p l e R s m args below meth c H locs cells slots Q (F0 m 28 ls []) := by
  intro n
  induction n with
  | zero =>
    intro i f H locs cells slots m0 ls hi hn
    exact absurd hn (by omega)
  | succ n ih =>
    intro i f H locs cells slots m0 ls hi hn hc9 hs9 hX hI hl
    refine lv_iload C.x C.b dL_law_28 (lv_at hl 5 rfl) ?_
    refine lv_aload_n C.x C.b dL_law_30 rfl (lv_at hl 0 rfl) ?_
    refine va_slen C.x C.b hXs hbl hbA hX.2 dL_law_31 ?_
    refine lv_bipush (v := nI 6) C.x C.b dL_law_32 (by decide) ?_
    refine lv_isub C.x C.b dL_law_34 ?_
    refine lv_icmp_gt (tgt := 2179) C.x C.b dL_law_35 (by decide) (fun _ => ?_) (fun q => ?_)
    · exact W.widen (k := 601024) (n := 7293034) (by omega) (by omega) (E f H locs ls hX)
    · have h6 : i + 6 ≤ L := lw_six hL hi q
      refine lv_aload_n C.x C.b dL_law_38 rfl (lv_at hl 0 rfl) ?_
      refine lv_iload C.x C.b dL_law_39 (lv_at hl 5 rfl) ?_
      refine va_sld C.x C.b hXs hbl hbA hX.2 (vp_in_nI (by omega) (by omega)) dL_law_41 ?_
      refine lv_bipush (v := 31) C.x C.b dL_law_42 (by decide) ?_
      refine lv_iand C.x C.b dL_law_44 ?_
      obtain ⟨k, hk, ek⟩ := and31 (xs (nI i).toNatClampNeg)
      refine k_topi (y := nI k) ek ?_
      have hcl : cells + 1000 ≤ R.cells ∧ slots + 14000 ≤ R.slots := ⟨by omega, by omega⟩
      have K : ∀ (f1 : kH) (H1 : Heap) (locs1 : List Loc) (m1 : mSt) (ls1 : Array Slot), kX G B0 s f1 H1 locs1 → Inv G h hm po pd f1 m1 → lv_has ls1 9 (lwL b h hm po pd i) → W p l e R s m args below meth c H1 locs1 (cells + 1000) (slots + 14000) Q (F0 m 2173 ls1 []) := by
        intro f1 H1 locs1 m1 ls1 hX1 hI1 hl1
        refine lv_iinc (v := nI (i + 6)) (lv' := [(5, .int (nI (i + 6))), (0, .ref b), (1, .ref h), (2, .ref hm), (3, .ref po), (4, .ref pd)]) C.x C.b dL_law_2173 hl1 (k := 5) rfl (by rw [show Int32.ofInt 6 = nI 6 by decide]; exact nI_add i 6) (by decide) rfl (fun ls hl => ?_)
        refine lv_goto (tgt := 28) C.x C.b dL_law_2176 (by decide) ?_
        exact ih (i + 6) f1 H1 locs1 _ _ m1 ls h6 (by omega) (by omega) (by omega) hX1 hI1 (lv_sub hl [1, 2, 3, 4, 5, 0] rfl)
      match k, hk with
      | 0, _ => exact lv_tableIn (off := 135) (tgt := 180) C.x C.b dL_law_45 (by decide +kernel) (by decide +kernel) (by decide +kernel) (by decide) (law_c0 hst C hX hXs hbl hbA hL h6 hR hcl hI hl K)
      | 1, _ => exact lv_tableIn (off := 191) (tgt := 236) C.x C.b dL_law_45 (by decide +kernel) (by decide +kernel) (by decide +kernel) (by decide) (law_c1 hst C hX hXs hbl hbA hL h6 hR hcl hI hl K)
      | 2, _ => exact lv_tableIn (off := 259) (tgt := 304) C.x C.b dL_law_45 (by decide +kernel) (by decide +kernel) (by decide +kernel) (by decide) (law_c2 hst C hX hXs hbl hbA hL h6 hR hcl hI hl K)
      | 3, _ => exact lv_tableIn (off := 327) (tgt := 372) C.x C.b dL_law_45 (by decide +kernel) (by decide +kernel) (by decide +kernel) (by decide) (law_c3 hst C hX hXs hbl hbA hL h6 hR hcl hI hl K)
      | 4, _ => exact lv_tableIn (off := 395) (tgt := 440) C.x C.b dL_law_45 (by decide +kernel) (by decide +kernel) (by decide +kernel) (by decide) (law_c4 hst C hX hXs hbl hbA hL h6 hR hcl hI hl K)
      | 5, _ => exact lv_tableIn (off := 451) (tgt := 496) C.x C.b dL_law_45 (by decide +kernel) (by decide +kernel) (by decide +kernel) (by decide) (law_c5 hst C hX hXs hbl hbA hL h6 hR hcl hI hl K)
      | 6, _ => exact lv_tableIn (off := 531) (tgt := 576) C.x C.b dL_law_45 (by decide +kernel) (by decide +kernel) (by decide +kernel) (by decide) (law_c6 hst C hX hXs hbl hbA hL h6 hR hcl hI hl K)
      | 7, _ => exact lv_tableIn (off := 623) (tgt := 668) C.x C.b dL_law_45 (by decide +kernel) (by decide +kernel) (by decide +kernel) (by decide) (law_c7 hst C hX hXs hbl hbA hL h6 hR hcl hI hl K)
      | 8, _ => exact lv_tableIn (off := 691) (tgt := 736) C.x C.b dL_law_45 (by decide +kernel) (by decide +kernel) (by decide +kernel) (by decide) (law_c8 hst C hX hXs hbl hbA hL h6 hR hcl hI hl K)
      | 9, _ => exact lv_tableIn (off := 747) (tgt := 792) C.x C.b dL_law_45 (by decide +kernel) (by decide +kernel) (by decide +kernel) (by decide) (law_c9 hst C hX hXs hbl hbA hL h6 hR hcl hI hl K)
      | 10, _ => exact lv_tableIn (off := 760) (tgt := 805) C.x C.b dL_law_45 (by decide +kernel) (by decide +kernel) (by decide +kernel) (by decide) (law_c10 hst C hX hXs hbl hbA hL h6 hR hcl hI hl K)
      | 11, _ => exact lv_tableIn (off := 852) (tgt := 897) C.x C.b dL_law_45 (by decide +kernel) (by decide +kernel) (by decide +kernel) (by decide) (law_c11 hst C hX hXs hbl hbA hL h6 hR hcl hI hl K)
      | 12, _ => exact lv_tableIn (off := 919) (tgt := 964) C.x C.b dL_law_45 (by decide +kernel) (by decide +kernel) (by decide +kernel) (by decide) (law_c12 hst C hX hXs hbl hbA hL h6 hR hcl hI hl K)
      | 13, _ => exact lv_tableIn (off := 986) (tgt := 1031) C.x C.b dL_law_45 (by decide +kernel) (by decide +kernel) (by decide +kernel) (by decide) (law_c13 hst C hX hXs hbl hbA hL h6 hR hcl hI hl K)
      | 14, _ => exact lv_tableIn (off := 1076) (tgt := 1121) C.x C.b dL_law_45 (by decide +kernel) (by decide +kernel) (by decide +kernel) (by decide) (law_c14 hst C hX hXs hbl hbA hL h6 hR hcl hI hl K)
      | 15, _ => exact lv_tableIn (off := 1143) (tgt := 1188) C.x C.b dL_law_45 (by decide +kernel) (by decide +kernel) (by decide +kernel) (by decide) (law_c15 hst C hX hXs hbl hbA hL h6 hR hcl hI hl K)
      | 16, _ => exact lv_tableIn (off := 1211) (tgt := 1256) C.x C.b dL_law_45 (by decide +kernel) (by decide +kernel) (by decide +kernel) (by decide) (law_c16 hst C hX hXs hbl hbA hL h6 hR hcl hI hl K)
      | 17, _ => exact lv_tableIn (off := 1279) (tgt := 1324) C.x C.b dL_law_45 (by decide +kernel) (by decide +kernel) (by decide +kernel) (by decide) (law_c17 hst C hX hXs hbl hbA hL h6 hR hcl hI hl K)
      | 18, _ => exact lv_tableIn (off := 1347) (tgt := 1392) C.x C.b dL_law_45 (by decide +kernel) (by decide +kernel) (by decide +kernel) (by decide) (law_c18 hst C hX hXs hbl hbA hL h6 hR hcl hI hl K)
      | 19, _ => exact lv_tableIn (off := 1439) (tgt := 1484) C.x C.b dL_law_45 (by decide +kernel) (by decide +kernel) (by decide +kernel) (by decide) (law_c19 hst C hX hXs hbl hbA hL h6 hR hcl hI hl K)
      | 20, _ => exact lv_tableIn (off := 1558) (tgt := 1603) C.x C.b dL_law_45 (by decide +kernel) (by decide +kernel) (by decide +kernel) (by decide) (law_c20 hst C hX hXs hbl hbA hL h6 hR hcl hI hl K)
      | 21, _ => exact lv_tableIn (off := 1650) (tgt := 1695) C.x C.b dL_law_45 (by decide +kernel) (by decide +kernel) (by decide +kernel) (by decide) (law_c21 hst C hX hXs hbl hbA hL h6 hR hcl hI hl K)
      | 22, _ => exact lv_tableIn (off := 1734) (tgt := 1779) C.x C.b dL_law_45 (by decide +kernel) (by decide +kernel) (by decide +kernel) (by decide) (law_c22 hst C hX hXs hbl hbA hL h6 hR hcl hI hl K)
      | 23, _ => exact lv_tableIn (off := 1747) (tgt := 1792) C.x C.b dL_law_45 (by decide +kernel) (by decide +kernel) (by decide +kernel) (by decide) (law_c23 hst C hX hXs hbl hbA hL h6 hR hcl hI hl K)
      | 24, _ => exact lv_tableIn (off := 1803) (tgt := 1848) C.x C.b dL_law_45 (by decide +kernel) (by decide +kernel) (by decide +kernel) (by decide) (law_c24 hst C hX hXs hbl hbA hL h6 hR hcl hI hl K)
      | 25, _ => exact lv_tableIn (off := 1898) (tgt := 1943) C.x C.b dL_law_45 (by decide +kernel) (by decide +kernel) (by decide +kernel) (by decide) (law_c25 hst C hX hXs hbl hbA hL h6 hR hcl hI hl K)
      | 26, _ => exact lv_tableIn (off := 1954) (tgt := 1999) C.x C.b dL_law_45 (by decide +kernel) (by decide +kernel) (by decide +kernel) (by decide) (law_c26 hst C hX hXs hbl hbA hL h6 hR hcl hI hl K)
      | 27, _ => exact lv_tableIn (off := 2022) (tgt := 2067) C.x C.b dL_law_45 (by decide +kernel) (by decide +kernel) (by decide +kernel) (by decide) (law_c27 hst C hX hXs hbl hbA hL h6 hR hcl hI hl K)
      | 28, _ => exact lv_tableIn (off := 2035) (tgt := 2080) C.x C.b dL_law_45 (by decide +kernel) (by decide +kernel) (by decide +kernel) (by decide) (law_c28 hst C hX hXs hbl hbA hL h6 hR hcl hI hl K)
      | 29, _ => exact lv_tableIn (off := 2048) (tgt := 2093) C.x C.b dL_law_45 (by decide +kernel) (by decide +kernel) (by decide +kernel) (by decide) (law_c29 hst C hX hXs hbl hbA hL h6 hR hcl hI hl K)
      | 30, _ => exact lv_tableOut (tgt := 2173) C.x C.b dL_law_45 (by decide +kernel) (by decide) (W.widen (k := cells + 1000) (n := slots + 14000) (by omega) (by omega) (K f H locs m0 ls hX hI hl))
      | 31, _ => exact lv_tableOut (tgt := 2173) C.x C.b dL_law_45 (by decide +kernel) (by decide) (W.widen (k := cells + 1000) (n := slots + 14000) (by omega) (by omega) (K f H locs m0 ls hX hI hl))
      | k + 32, hk => exact absurd hk (by omega)
end KLO
