/-! the law's drawn calls: 82f.lawcase -/
section LW5
variable {p : Program} {l : Launch} {e : Env} {R : Room} {s : State} {mi : MethodId} {args : Array Value} {below : List Frame} {meth : Method} {c : Code} {H : Heap} {locs : List Loc} {cells slots : Nat} {Q : State → Prop}
variable {ls : Array Slot} {G : kG} {B0 h b k x y z : Nat} {f : kH} {m : pSt}
set_option maxHeartbeats 8000000 in
set_option maxRecDepth 100000 in
theorem law_tN (hst : l.stackTraces = false) (C : kC G B0 p mi c cL_law 18 s args wsL_law RL) (hX : kX G B0 s f H locs) (hR : 400 ≤ R.frames ∧ 24000 ≤ R.locals) (hcl : cells + 500 ≤ R.cells ∧ slots + 4000 ≤ R.slots) (hI : Inv G h f m) (hd : dInv m) (hx : x < 16777216) (hy : y < 16777216) (hz : z < 16777216) (hw : m.nw < 10) (hl : lv_has ls 18 [(0, .ref b), (1, .ref h), (2, .int (nI m.nd)), (3, .int (nI m.ng)), (4, .int (nI m.nm)), (5, .int (nI m.nc)), (6, .int (nI m.nw)), (7, .int (nI k)), (10, .int (nI y)), (11, .int (nI z))])
    (K : ∀ (f1 : kH) (H1 : Heap) (locs1 : List Loc) (m1 : pSt) (ls1 : Array Slot), kX G B0 s f1 H1 locs1 → Inv G h f1 m1 → dInv m1 → lv_has ls1 18 (lwB b h m1 k) → W p l e R s mi args below meth c H1 locs1 (cells + 500) (slots + 4000) Q (F0 mi 1207 ls1 [])) : W p l e R s mi args below meth c H locs cells slots Q (F0 mi 1113 ls []) := by
  obtain ⟨b4, b16, bf, bd, bg, bm, bc2, bc6, bw⟩ := hI.bd
  have hnc0 : 0 < m.nc := by omega
  obtain ⟨a, ha, ea⟩ : ∃ a, a < m.nc ∧ y % m.nc = a := ⟨_, Nat.mod_lt _ (hnc0), rfl⟩
  obtain ⟨t, ht, et⟩ : ∃ t, t < (m.nc - 1) ∧ z % (m.nc - 1) = t := ⟨_, Nat.mod_lt _ (by omega), rfl⟩
  obtain ⟨hd2, hne9⟩ := nb_ne m.nc (by omega) bc2 a ha t ht
  obtain ⟨d, ed⟩ : ∃ d, (a + 1 + t) % m.nc = d := ⟨_, rfl⟩
  rw [ed] at hd2 hne9
  have hne : ¬ nI a = nI d := fun q9 => hne9 ((nI_eq (by omega) (by omega)).mp q9)
  refine lv_iload C.x C.b dL_law_1113 (lv_at hl 8 rfl) ?_
  refine lv_iload C.x C.b dL_law_1115 (lv_at hl 5 rfl) ?_
  refine lv_irem C.x C.b dL_law_1117 (nI_ne0 (by omega) (by omega)) ?_
  refine k_topi (y := (nI a)) ((pk_rem (by omega) (by omega) (by omega)).trans (congrArg nI ea)) ?_
  refine lv_istore (lv' := [(12, .int (nI a)), (0, .ref b), (1, .ref h), (2, .int (nI m.nd)), (3, .int (nI m.ng)), (4, .int (nI m.nm)), (5, .int (nI m.nc)), (6, .int (nI m.nw)), (7, .int (nI k)), (10, .int (nI y)), (11, .int (nI z))]) C.x C.b dL_law_1118 hl (by decide) rfl (fun ls hl => ?_)
  refine lv_iload C.x C.b dL_law_1120 (lv_at hl 0 rfl) ?_
  refine lv_iconst (v := (nI 1)) C.x C.b dL_law_1122 (by decide) ?_
  refine lv_iadd C.x C.b dL_law_1123 ?_
  refine k_topi (y := (nI (a + 1))) (nI_add _ _) ?_
  refine lv_iload C.x C.b dL_law_1124 (lv_at hl 10 rfl) ?_
  refine lv_iload C.x C.b dL_law_1126 (lv_at hl 6 rfl) ?_
  refine lv_iconst (v := (nI 1)) C.x C.b dL_law_1128 (by decide) ?_
  refine lv_isub C.x C.b dL_law_1129 ?_
  refine k_topi (y := (nI (m.nc - 1))) (pk_sub (by omega)) ?_
  refine lv_irem C.x C.b dL_law_1130 (nI_ne0 (by omega) (by omega)) ?_
  refine k_topi (y := (nI t)) ((pk_rem (by omega) (by omega) (by omega)).trans (congrArg nI et)) ?_
  refine lv_iadd C.x C.b dL_law_1131 ?_
  refine k_topi (y := (nI (a + 1 + t))) (nI_add _ _) ?_
  refine lv_iload C.x C.b dL_law_1132 (lv_at hl 6 rfl) ?_
  refine lv_irem C.x C.b dL_law_1134 (nI_ne0 (by omega) (by omega)) ?_
  refine k_topi (y := (nI d)) ((pk_rem (by omega) (by omega) (by omega)).trans (congrArg nI ed)) ?_
  refine lv_istore (lv' := [(13, .int (nI d)), (12, .int (nI a)), (0, .ref b), (1, .ref h), (2, .int (nI m.nd)), (3, .int (nI m.ng)), (4, .int (nI m.nm)), (5, .int (nI m.nc)), (6, .int (nI m.nw)), (7, .int (nI k)), (10, .int (nI y)), (11, .int (nI z))]) C.x C.b dL_law_1135 hl (by decide) rfl (fun ls hl => ?_)
  refine lv_aload_n C.x C.b dL_law_1137 rfl (lv_at hl 3 rfl) ?_
  refine lv_iload C.x C.b dL_law_1138 (lv_at hl 1 rfl) ?_
  refine lv_iload C.x C.b dL_law_1140 (lv_at hl 0 rfl) ?_
  refine k_cI (As := [.int (nI a), .int (nI d)]) (rest := []) (c2 := cells + 8) (s2 := slots + 64) (v := (nI m.nw)) (m1 := (pMk m.cc m.fc m.nd m.ng m.nm m.nc (m.nw + 1) m.fa m.dx m.dy m.dr m.fo m.ro m.mv m.pr (pUp m.ea m.nw a) (pUp m.eb m.nw d))) C hX (iop_wire hst hI (nI a) (nI d)) (ev_wire a d m.nw ⟨mIn_in ha (by omega), mIn_in hd2 (by omega)⟩ hne (by omega) (by omega) (by omega) rfl rfl) hI.hd (gl_same inv_X8_wire) rfl ⟨rfl, hdA_X8_wire⟩ (by decide) rfl hl.1 rfl (Nat.le_of_ble_eq_true rfl) dL_law_1142 ⟨by omega, by omega⟩ ⟨by omega, by omega⟩ (by omega) (by omega) (fun f H locs hX hI => ?_)
  refine lv_iload C.x C.b dL_law_1145 (lv_at hl 8 rfl) ?_
  refine lv_icmp_eq (tgt := 1152) C.x C.b dL_law_1147 (by decide) (fun _ => ?_) (fun q9 => absurd (rfl) q9)
  refine lv_iinc (v := (nI (m.nw + 1))) (lv' := [(6, .int (nI (m.nw + 1))), (13, .int (nI d)), (12, .int (nI a)), (0, .ref b), (1, .ref h), (2, .int (nI m.nd)), (3, .int (nI m.ng)), (4, .int (nI m.nm)), (5, .int (nI m.nc)), (7, .int (nI k)), (10, .int (nI y)), (11, .int (nI z))]) C.x C.b dL_law_1152 hl (k := 8) rfl (nI_1 _) (by decide) rfl (fun ls hl => ?_)
  refine lv_aload_n C.x C.b dL_law_1155 rfl (lv_at hl 4 rfl) ?_
  obtain ⟨m1, em1⟩ : ∃ m1, m1 = (pMk m.cc m.fc m.nd m.ng m.nm m.nc (m.nw + 1) m.fa m.dx m.dy m.dr m.fo m.ro m.mv m.pr (pUp m.ea m.nw a) (pUp m.eb m.nw d)) := ⟨_, rfl⟩
  rw [← em1] at hI
  have hnc : m1.nc = m.nc := by rw [em1]
  have hnw : m1.nw = m.nw + 1 := by rw [em1]
  obtain ⟨T, hT9⟩ : ∃ T, mTrees m1.ea m1.eb m1.nc m1.nw = T := ⟨_, rfl⟩
  have hT : T ≤ 1024 := hT9 ▸ trees_le (by omega)
  have hin : mIn (nI a) m1.nc ∧ mIn (nI d) m1.nc := by rw [hnc]; exact ⟨mIn_in ha (by omega), mIn_in hd2 (by omega)⟩
  refine k_cI (As := []) (rest := []) (c2 := cells + 16) (s2 := slots + 128) (v := (nI T)) (m1 := m1) C hX (iop_trees hst hI) (ev_trees (congrArg nI hT9)) hI.hd (gl_same inv_X8_trees) rfl ⟨rfl, hdA_X8_trees⟩ (by decide) rfl hl.1 rfl (Nat.le_of_ble_eq_true rfl) dL_law_1156 ⟨by omega, by omega⟩ ⟨by omega, by omega⟩ (by omega) (by omega) (fun f H locs hX hI => ?_)
  refine lv_aload_n C.x C.b dL_law_1159 rfl (lv_at hl 4 rfl) ?_
  refine k_cI (As := []) (rest := [.int (nI T)]) (c2 := cells + 24) (s2 := slots + 192) (v := (nI T)) (m1 := m1) C hX (iop_treesAnew hst hI) (ev_treesAnew (congrArg nI hT9)) hI.hd (gl_same inv_X8_treesAnew) rfl ⟨rfl, hdA_X8_treesAnew⟩ (by decide) rfl hl.1 rfl (Nat.le_of_ble_eq_true rfl) dL_law_1160 ⟨by omega, by omega⟩ ⟨by omega, by omega⟩ (by omega) (by omega) (fun f H locs hX hI => ?_)
  refine lv_icmp_ne (tgt := 1205) C.x C.b dL_law_1163 (by decide) (fun q9 => absurd (rfl) q9) (fun _ => ?_)
  refine lv_aload_n C.x C.b dL_law_1166 rfl (lv_at hl 4 rfl) ?_
  refine lv_bipush (v := (nI 25)) C.x C.b dL_law_1167 (by decide) ?_
  refine lv_iload C.x C.b dL_law_1169 (lv_at hl 2 rfl) ?_
  refine lv_iload C.x C.b dL_law_1171 (lv_at hl 1 rfl) ?_
  refine lv_iconst (v := (-1)) C.x C.b dL_law_1173 (by decide) ?_
  refine lv_iconst (v := (nI 0)) C.x C.b dL_law_1174 (by decide) ?_
  by_cases q0 : T = 0
  ·
    refine k_actI (As := [.ref h, .int (nI 25), .int (nI a), .int (nI d), .int (-1), .int (nI 0)]) (rest := []) (c2 := cells + 32) (s2 := slots + 256) (v := (-7000003)) (m1 := m1) C hX (act_25 hI.hd (nI a) (nI d) (-1) (nI 0) (iop_side hst hI (nI a) (nI d) (-1))) (e_side_s ⟨hin.1, hin.2, .inl rfl⟩ hne (hT9.trans q0)) (rfl) (gl_same inv_L_act) rfl hl.1 rfl (Nat.le_of_ble_eq_true rfl) dL_law_1175 ⟨by omega, by omega⟩ ⟨by omega, by omega⟩ (by omega) (by omega) (fun f H locs hX hI => ?_)
    refine lv_ldc2 (v := (-7000003)) C.x C.b C.ow (C.ts _ lkC_4) dL_law_1178 ?_
    refine k_lcmp_ne (tgt := 1189) C.x C.b dL_law_1181 dL_law_1182 (by decide) (fun q9 => absurd (by decide) q9) (fun _ => ?_)
    refine lv_iconst (v := (nI 1)) C.x C.b dL_law_1185 (by decide) ?_
    refine lv_goto (tgt := 1190) C.x C.b dL_law_1186 (by decide) ?_
    refine lv_aload_n C.x C.b dL_law_1190 rfl (lv_at hl 4 rfl) ?_
    refine k_cI (As := []) (rest := [.int (nI 1)]) (c2 := cells + 40) (s2 := slots + 320) (v := (nI T)) (m1 := m1) C hX (iop_trees hst hI) (ev_trees (congrArg nI hT9)) hI.hd (gl_same inv_X8_trees) rfl ⟨rfl, hdA_X8_trees⟩ (by decide) rfl hl.1 rfl (Nat.le_of_ble_eq_true rfl) dL_law_1191 ⟨by omega, by omega⟩ ⟨by omega, by omega⟩ (by omega) (by omega) (fun f H locs hX hI => ?_)
    refine lv_if_ne (tgt := 1201) C.x C.b dL_law_1194 (by decide) (fun q9 => absurd (by rw [q0]; rfl) q9) (fun _ => ?_)
    refine lv_iconst (v := (nI 1)) C.x C.b dL_law_1197 (by decide) ?_
    refine lv_goto (tgt := 1202) C.x C.b dL_law_1198 (by decide) ?_
    refine lv_icmp_eq (tgt := 1207) C.x C.b dL_law_1202 (by decide) (fun _ => ?_) (fun q9 => absurd (by decide) q9)
    subst em1
    refine W.widen (k := cells + 500) (n := slots + 4000) (by omega) (by omega) ?_
    exact K f H locs (pMk m.cc m.fc m.nd m.ng m.nm m.nc (m.nw + 1) m.fa m.dx m.dy m.dr m.fo m.ro m.mv m.pr (pUp m.ea m.nw a) (pUp m.eb m.nw d)) ls hX hI hd (lv_sub hl [3, 4, 5, 6, 7, 8, 0, 9] rfl)
  ·
    obtain ⟨hh, hh9, eh⟩ := e_side_h hin hne (fun q9 => q0 (hT9.symm.trans q9)) (by omega)
    refine k_actI (As := [.ref h, .int (nI 25), .int (nI a), .int (nI d), .int (-1), .int (nI 0)]) (rest := []) (c2 := cells + 32) (s2 := slots + 256) (v := (nI hh).toInt64) (m1 := m1) C hX (act_25 hI.hd (nI a) (nI d) (-1) (nI 0) (iop_side hst hI (nI a) (nI d) (-1))) (eh) (rfl) (gl_same inv_L_act) rfl hl.1 rfl (Nat.le_of_ble_eq_true rfl) dL_law_1175 ⟨by omega, by omega⟩ ⟨by omega, by omega⟩ (by omega) (by omega) (fun f H locs hX hI => ?_)
    refine lv_ldc2 (v := (-7000003)) C.x C.b C.ow (C.ts _ lkC_4) dL_law_1178 ?_
    refine k_lcmp_ne (tgt := 1189) C.x C.b dL_law_1181 dL_law_1182 (by decide) (fun _ => ?_) (fun q9 => absurd q9 (h_ne hh9))
    refine lv_iconst (v := (nI 0)) C.x C.b dL_law_1189 (by decide) ?_
    refine lv_aload_n C.x C.b dL_law_1190 rfl (lv_at hl 4 rfl) ?_
    refine k_cI (As := []) (rest := [.int (nI 0)]) (c2 := cells + 40) (s2 := slots + 320) (v := (nI T)) (m1 := m1) C hX (iop_trees hst hI) (ev_trees (congrArg nI hT9)) hI.hd (gl_same inv_X8_trees) rfl ⟨rfl, hdA_X8_trees⟩ (by decide) rfl hl.1 rfl (Nat.le_of_ble_eq_true rfl) dL_law_1191 ⟨by omega, by omega⟩ ⟨by omega, by omega⟩ (by omega) (by omega) (fun f H locs hX hI => ?_)
    refine lv_if_ne (tgt := 1201) C.x C.b dL_law_1194 (by decide) (fun _ => ?_) (fun q9 => absurd q9 (nI_ne0 (by omega) (by omega)))
    refine lv_iconst (v := (nI 0)) C.x C.b dL_law_1201 (by decide) ?_
    refine lv_icmp_eq (tgt := 1207) C.x C.b dL_law_1202 (by decide) (fun _ => ?_) (fun q9 => absurd (by decide) q9)
    subst em1
    refine W.widen (k := cells + 500) (n := slots + 4000) (by omega) (by omega) ?_
    exact K f H locs (pMk m.cc m.fc m.nd m.ng m.nm m.nc (m.nw + 1) m.fa m.dx m.dy m.dr m.fo m.ro m.mv m.pr (pUp m.ea m.nw a) (pUp m.eb m.nw d)) ls hX hI hd (lv_sub hl [3, 4, 5, 6, 7, 8, 0, 9] rfl)
set_option maxHeartbeats 8000000 in
set_option maxRecDepth 100000 in
theorem law_tM (hst : l.stackTraces = false) (C : kC G B0 p mi c cL_law 18 s args wsL_law RL) (hX : kX G B0 s f H locs) (hR : 400 ≤ R.frames ∧ 24000 ≤ R.locals) (hcl : cells + 1000 ≤ R.cells ∧ slots + 8000 ≤ R.slots) (hI : Inv G h f m) (hd : dInv m) (hx : x < 16777216) (hy : y < 16777216) (hz : z < 16777216) (hl : lv_has ls 18 [(0, .ref b), (1, .ref h), (2, .int (nI m.nd)), (3, .int (nI m.ng)), (4, .int (nI m.nm)), (5, .int (nI m.nc)), (6, .int (nI m.nw)), (7, .int (nI k)), (10, .int (nI y)), (11, .int (nI z))])
    (K : ∀ (f1 : kH) (H1 : Heap) (locs1 : List Loc) (m1 : pSt) (ls1 : Array Slot), kX G B0 s f1 H1 locs1 → Inv G h f1 m1 → dInv m1 → lv_has ls1 18 (lwB b h m1 k) → W p l e R s mi args below meth c H1 locs1 (cells + 1000) (slots + 8000) Q (F0 mi 1207 ls1 [])) : W p l e R s mi args below meth c H locs cells slots Q (F0 mi 1070 ls []) := by
  obtain ⟨b4, b16, bf, bd, bg, bm, bc2, bc6, bw⟩ := hI.bd
  have h5 := Nat.mod_lt y (show 5 > 0 by decide)
  have h7 := Nat.mod_lt y (show 7 > 0 by decide)
  refine lv_iload C.x C.b dL_law_1070 (lv_at hl 6 rfl) ?_
  refine lv_bipush (v := (nI 10)) C.x C.b dL_law_1072 (by decide) ?_
  by_cases qw : m.nw = 10
  ·
    refine lv_icmp_eq (tgt := 1085) C.x C.b dL_law_1074 (by decide) (fun _ => ?_) (fun q9 => absurd (congrArg nI qw) q9)
    refine lv_aload_n C.x C.b dL_law_1085 rfl (lv_at hl 1 rfl) ?_
    refine lv_iconst (v := (nI 2)) C.x C.b dL_law_1086 (by decide) ?_
    refine lv_iload C.x C.b dL_law_1087 (lv_at hl 8 rfl) ?_
    refine lv_iconst (v := (nI 5)) C.x C.b dL_law_1089 (by decide) ?_
    refine lv_irem C.x C.b dL_law_1090 (by decide) ?_
    refine k_topi (y := (nI (y % 5))) (pk_rem (by omega) (by omega) (by omega)) ?_
    refine lv_iadd C.x C.b dL_law_1091 ?_
    refine k_topi (y := (nI (2 + y % 5))) (nI_add _ _) ?_
    refine k_cI (As := [.int (nI (2 + y % 5))]) (rest := []) (c2 := cells + 8) (s2 := slots + 64) (v := (nI m.nc)) (m1 := (pMk m.cc m.fc m.nd m.ng m.nm (2 + y % 5) 0 m.fa m.dx m.dy m.dr m.fo m.ro m.mv m.pr m.ea m.eb)) C hX (iop_nodes hst hI (nI (2 + y % 5))) (ev_nodes (2 + y % 5) m.nc ⟨by rw [nI_toInt (by omega)]; omega, by rw [nI_toInt (by omega)]; omega⟩ (by omega) rfl rfl) hI.hd (gl_same inv_X8_nodes) rfl ⟨rfl, hdA_X8_nodes⟩ (by decide) rfl hl.1 rfl (Nat.le_of_ble_eq_true rfl) dL_law_1092 ⟨by omega, by omega⟩ ⟨by omega, by omega⟩ (by omega) (by omega) (fun f H locs hX hI => ?_)
    refine lv_iload C.x C.b dL_law_1095 (lv_at hl 5 rfl) ?_
    refine lv_icmp_eq (tgt := 1102) C.x C.b dL_law_1097 (by decide) (fun _ => ?_) (fun q9 => absurd (rfl) q9)
    refine lv_iconst (v := (nI 2)) C.x C.b dL_law_1102 (by decide) ?_
    refine lv_iload C.x C.b dL_law_1103 (lv_at hl 8 rfl) ?_
    refine lv_iconst (v := (nI 5)) C.x C.b dL_law_1105 (by decide) ?_
    refine lv_irem C.x C.b dL_law_1106 (by decide) ?_
    refine k_topi (y := (nI (y % 5))) (pk_rem (by omega) (by omega) (by omega)) ?_
    refine lv_iadd C.x C.b dL_law_1107 ?_
    refine k_topi (y := (nI (2 + y % 5))) (nI_add _ _) ?_
    refine lv_istore (lv' := [(5, .int (nI (2 + y % 5))), (0, .ref b), (1, .ref h), (2, .int (nI m.nd)), (3, .int (nI m.ng)), (4, .int (nI m.nm)), (6, .int (nI m.nw)), (7, .int (nI k)), (10, .int (nI y)), (11, .int (nI z))]) C.x C.b dL_law_1108 hl (by decide) rfl (fun ls hl => ?_)
    refine lv_iconst (v := (nI 0)) C.x C.b dL_law_1110 (by decide) ?_
    refine lv_istore (lv' := [(6, .int (nI 0)), (5, .int (nI (2 + y % 5))), (0, .ref b), (1, .ref h), (2, .int (nI m.nd)), (3, .int (nI m.ng)), (4, .int (nI m.nm)), (7, .int (nI k)), (10, .int (nI y)), (11, .int (nI z))]) C.x C.b dL_law_1111 hl (by decide) rfl (fun ls hl => ?_)
    exact law_tN (x := x) (y := y) (z := z) (m := (pMk m.cc m.fc m.nd m.ng m.nm (2 + y % 5) 0 m.fa m.dx m.dy m.dr m.fo m.ro m.mv m.pr m.ea m.eb)) hst C hX hR ⟨by omega, by omega⟩ hI hd hx hy hz (show (0 : Nat) < 10 by decide) (lv_sub hl [2, 3, 4, 5, 6, 1, 0, 7, 8, 9] rfl) (fun f1 H1 locs1 m1 ls1 a1 a2 a3 a4 => W.widen (k := cells + 1000) (n := slots + 8000) (by omega) (by omega) (K f1 H1 locs1 m1 ls1 a1 a2 a3 a4))
  ·
    refine lv_icmp_eq (tgt := 1085) C.x C.b dL_law_1074 (by decide) (fun q9 => absurd q9 (fun q9 => qw ((nI_eq (by omega) (by decide)).mp q9))) (fun _ => ?_)
    refine lv_iload C.x C.b dL_law_1077 (lv_at hl 8 rfl) ?_
    refine lv_bipush (v := (nI 7)) C.x C.b dL_law_1079 (by decide) ?_
    refine lv_irem C.x C.b dL_law_1081 (by decide) ?_
    refine k_topi (y := (nI (y % 7))) (pk_rem (by omega) (by omega) (by omega)) ?_
    by_cases q7 : y % 7 = 0
    ·
      refine lv_if_ne (tgt := 1113) C.x C.b dL_law_1082 (by decide) (fun q9 => absurd (by rw [q7]; rfl) q9) (fun _ => ?_)
      refine lv_aload_n C.x C.b dL_law_1085 rfl (lv_at hl 1 rfl) ?_
      refine lv_iconst (v := (nI 2)) C.x C.b dL_law_1086 (by decide) ?_
      refine lv_iload C.x C.b dL_law_1087 (lv_at hl 8 rfl) ?_
      refine lv_iconst (v := (nI 5)) C.x C.b dL_law_1089 (by decide) ?_
      refine lv_irem C.x C.b dL_law_1090 (by decide) ?_
      refine k_topi (y := (nI (y % 5))) (pk_rem (by omega) (by omega) (by omega)) ?_
      refine lv_iadd C.x C.b dL_law_1091 ?_
      refine k_topi (y := (nI (2 + y % 5))) (nI_add _ _) ?_
      refine k_cI (As := [.int (nI (2 + y % 5))]) (rest := []) (c2 := cells + 8) (s2 := slots + 64) (v := (nI m.nc)) (m1 := (pMk m.cc m.fc m.nd m.ng m.nm (2 + y % 5) 0 m.fa m.dx m.dy m.dr m.fo m.ro m.mv m.pr m.ea m.eb)) C hX (iop_nodes hst hI (nI (2 + y % 5))) (ev_nodes (2 + y % 5) m.nc ⟨by rw [nI_toInt (by omega)]; omega, by rw [nI_toInt (by omega)]; omega⟩ (by omega) rfl rfl) hI.hd (gl_same inv_X8_nodes) rfl ⟨rfl, hdA_X8_nodes⟩ (by decide) rfl hl.1 rfl (Nat.le_of_ble_eq_true rfl) dL_law_1092 ⟨by omega, by omega⟩ ⟨by omega, by omega⟩ (by omega) (by omega) (fun f H locs hX hI => ?_)
      refine lv_iload C.x C.b dL_law_1095 (lv_at hl 5 rfl) ?_
      refine lv_icmp_eq (tgt := 1102) C.x C.b dL_law_1097 (by decide) (fun _ => ?_) (fun q9 => absurd (rfl) q9)
      refine lv_iconst (v := (nI 2)) C.x C.b dL_law_1102 (by decide) ?_
      refine lv_iload C.x C.b dL_law_1103 (lv_at hl 8 rfl) ?_
      refine lv_iconst (v := (nI 5)) C.x C.b dL_law_1105 (by decide) ?_
      refine lv_irem C.x C.b dL_law_1106 (by decide) ?_
      refine k_topi (y := (nI (y % 5))) (pk_rem (by omega) (by omega) (by omega)) ?_
      refine lv_iadd C.x C.b dL_law_1107 ?_
      refine k_topi (y := (nI (2 + y % 5))) (nI_add _ _) ?_
      refine lv_istore (lv' := [(5, .int (nI (2 + y % 5))), (0, .ref b), (1, .ref h), (2, .int (nI m.nd)), (3, .int (nI m.ng)), (4, .int (nI m.nm)), (6, .int (nI m.nw)), (7, .int (nI k)), (10, .int (nI y)), (11, .int (nI z))]) C.x C.b dL_law_1108 hl (by decide) rfl (fun ls hl => ?_)
      refine lv_iconst (v := (nI 0)) C.x C.b dL_law_1110 (by decide) ?_
      refine lv_istore (lv' := [(6, .int (nI 0)), (5, .int (nI (2 + y % 5))), (0, .ref b), (1, .ref h), (2, .int (nI m.nd)), (3, .int (nI m.ng)), (4, .int (nI m.nm)), (7, .int (nI k)), (10, .int (nI y)), (11, .int (nI z))]) C.x C.b dL_law_1111 hl (by decide) rfl (fun ls hl => ?_)
      exact law_tN (x := x) (y := y) (z := z) (m := (pMk m.cc m.fc m.nd m.ng m.nm (2 + y % 5) 0 m.fa m.dx m.dy m.dr m.fo m.ro m.mv m.pr m.ea m.eb)) hst C hX hR ⟨by omega, by omega⟩ hI hd hx hy hz (show (0 : Nat) < 10 by decide) (lv_sub hl [2, 3, 4, 5, 6, 1, 0, 7, 8, 9] rfl) (fun f1 H1 locs1 m1 ls1 a1 a2 a3 a4 => W.widen (k := cells + 1000) (n := slots + 8000) (by omega) (by omega) (K f1 H1 locs1 m1 ls1 a1 a2 a3 a4))
    ·
      refine lv_if_ne (tgt := 1113) C.x C.b dL_law_1082 (by decide) (fun _ => ?_) (fun q9 => absurd q9 (nI_ne0 (Nat.pos_of_ne_zero q7) (by omega)))
      exact law_tN (x := x) (y := y) (z := z) (m := m) hst C hX hR ⟨by omega, by omega⟩ hI hd hx hy hz (by omega) (lv_sub hl [0, 1, 2, 3, 4, 5, 6, 7, 8, 9] rfl) (fun f1 H1 locs1 m1 ls1 a1 a2 a3 a4 => W.widen (k := cells + 1000) (n := slots + 8000) (by omega) (by omega) (K f1 H1 locs1 m1 ls1 a1 a2 a3 a4))
set_option maxHeartbeats 8000000 in
set_option maxRecDepth 100000 in
theorem law_w10b (hst : l.stackTraces = false) (C : kC G B0 p mi c cL_law 18 s args wsL_law RL) (hX : kX G B0 s f H locs) (hR : 400 ≤ R.frames ∧ 24000 ≤ R.locals) (hcl : cells + 2000 ≤ R.cells ∧ slots + 16000 ≤ R.slots) (hI : Inv G h f m) (hd : dInv m) (hx : x < 16777216) (hy : y < 16777216) (hz : z < 16777216) (h0 : m.nm = 0) (hl : lv_has ls 18 [(0, .ref b), (1, .ref h), (2, .int (nI m.nd)), (3, .int (nI m.ng)), (4, .int (nI m.nm)), (5, .int (nI m.nc)), (6, .int (nI m.nw)), (7, .int (nI k)), (8, .int (nI x)), (9, .int (nI 10)), (10, .int (nI y)), (11, .int (nI z))])
    (K : ∀ (f1 : kH) (H1 : Heap) (locs1 : List Loc) (m1 : pSt) (ls1 : Array Slot), kX G B0 s f1 H1 locs1 → Inv G h f1 m1 → dInv m1 → lv_has ls1 18 (lwB b h m1 k) → W p l e R s mi args below meth c H1 locs1 (cells + 2000) (slots + 16000) Q (F0 mi 1207 ls1 [])) : W p l e R s mi args below meth c H locs cells slots Q (F0 mi 85 ls []) := by
  obtain ⟨b4, b16, bf, bd, bg, bm, bc2, bc6, bw⟩ := hI.bd
  refine lv_iload C.x C.b dL_law_85 (lv_at hl 9 rfl) ?_
  refine lv_iconst (v := (nI 2)) C.x C.b dL_law_87 (by decide) ?_
  refine lv_icmp_ge (tgt := 138) C.x C.b dL_law_88 (by decide) (fun _ => ?_) (fun q9 => absurd (by decide) q9)
  refine lv_iload C.x C.b dL_law_138 (lv_at hl 9 rfl) ?_
  refine lv_iconst (v := (nI 4)) C.x C.b dL_law_140 (by decide) ?_
  refine lv_icmp_ge (tgt := 304) C.x C.b dL_law_141 (by decide) (fun _ => ?_) (fun q9 => absurd (by decide) q9)
  refine lv_iload C.x C.b dL_law_304 (lv_at hl 9 rfl) ?_
  refine lv_bipush (v := (nI 6)) C.x C.b dL_law_306 (by decide) ?_
  refine lv_icmp_ge (tgt := 493) C.x C.b dL_law_308 (by decide) (fun _ => ?_) (fun q9 => absurd (by decide) q9)
  refine lv_iload C.x C.b dL_law_493 (lv_at hl 9 rfl) ?_
  refine lv_bipush (v := (nI 6)) C.x C.b dL_law_495 (by decide) ?_
  refine lv_icmp_ne (tgt := 684) C.x C.b dL_law_497 (by decide) (fun _ => ?_) (fun q9 => absurd q9 (by decide))
  refine lv_iload C.x C.b dL_law_684 (lv_at hl 9 rfl) ?_
  refine lv_bipush (v := (nI 7)) C.x C.b dL_law_686 (by decide) ?_
  refine lv_icmp_ne (tgt := 763) C.x C.b dL_law_688 (by decide) (fun _ => ?_) (fun q9 => absurd q9 (by decide))
  refine lv_iload C.x C.b dL_law_763 (lv_at hl 9 rfl) ?_
  refine lv_bipush (v := (nI 9)) C.x C.b dL_law_765 (by decide) ?_
  refine lv_icmp_ge (tgt := 867) C.x C.b dL_law_767 (by decide) (fun _ => ?_) (fun q9 => absurd (by decide) q9)
  refine lv_iload C.x C.b dL_law_867 (lv_at hl 9 rfl) ?_
  refine lv_bipush (v := (nI 9)) C.x C.b dL_law_869 (by decide) ?_
  refine lv_icmp_ne (tgt := 945) C.x C.b dL_law_871 (by decide) (fun _ => ?_) (fun q9 => absurd q9 (by decide))
  refine lv_iload C.x C.b dL_law_945 (lv_at hl 9 rfl) ?_
  refine lv_bipush (v := (nI 10)) C.x C.b dL_law_947 (by decide) ?_
  refine lv_icmp_ne (tgt := 1070) C.x C.b dL_law_949 (by decide) (fun q9 => absurd (by decide) q9) (fun _ => ?_)
  refine lv_iload C.x C.b dL_law_952 (lv_at hl 4 rfl) ?_
  refine lv_if_le (tgt := 1070) C.x C.b dL_law_954 (by decide) (fun _ => ?_) (fun q9 => absurd (by rw [h0]; decide) q9)
  exact law_tM (x := x) (y := y) (z := z) (m := m) hst C hX hR ⟨by omega, by omega⟩ hI hd hx hy hz (lv_sub hl [0, 1, 2, 3, 4, 5, 6, 7, 10, 11] rfl) (fun f1 H1 locs1 m1 ls1 a1 a2 a3 a4 => W.widen (k := cells + 2000) (n := slots + 16000) (by omega) (by omega) (K f1 H1 locs1 m1 ls1 a1 a2 a3 a4))
set_option maxHeartbeats 8000000 in
set_option maxRecDepth 100000 in
theorem law_w11 (hst : l.stackTraces = false) (C : kC G B0 p mi c cL_law 18 s args wsL_law RL) (hX : kX G B0 s f H locs) (hR : 400 ≤ R.frames ∧ 24000 ≤ R.locals) (hcl : cells + 2000 ≤ R.cells ∧ slots + 16000 ≤ R.slots) (hI : Inv G h f m) (hd : dInv m) (hx : x < 16777216) (hy : y < 16777216) (hz : z < 16777216) (hl : lv_has ls 18 [(0, .ref b), (1, .ref h), (2, .int (nI m.nd)), (3, .int (nI m.ng)), (4, .int (nI m.nm)), (5, .int (nI m.nc)), (6, .int (nI m.nw)), (7, .int (nI k)), (8, .int (nI x)), (9, .int (nI 11)), (10, .int (nI y)), (11, .int (nI z))])
    (K : ∀ (f1 : kH) (H1 : Heap) (locs1 : List Loc) (m1 : pSt) (ls1 : Array Slot), kX G B0 s f1 H1 locs1 → Inv G h f1 m1 → dInv m1 → lv_has ls1 18 (lwB b h m1 k) → W p l e R s mi args below meth c H1 locs1 (cells + 2000) (slots + 16000) Q (F0 mi 1207 ls1 [])) : W p l e R s mi args below meth c H locs cells slots Q (F0 mi 85 ls []) := by
  obtain ⟨b4, b16, bf, bd, bg, bm, bc2, bc6, bw⟩ := hI.bd
  refine lv_iload C.x C.b dL_law_85 (lv_at hl 9 rfl) ?_
  refine lv_iconst (v := (nI 2)) C.x C.b dL_law_87 (by decide) ?_
  refine lv_icmp_ge (tgt := 138) C.x C.b dL_law_88 (by decide) (fun _ => ?_) (fun q9 => absurd (by decide) q9)
  refine lv_iload C.x C.b dL_law_138 (lv_at hl 9 rfl) ?_
  refine lv_iconst (v := (nI 4)) C.x C.b dL_law_140 (by decide) ?_
  refine lv_icmp_ge (tgt := 304) C.x C.b dL_law_141 (by decide) (fun _ => ?_) (fun q9 => absurd (by decide) q9)
  refine lv_iload C.x C.b dL_law_304 (lv_at hl 9 rfl) ?_
  refine lv_bipush (v := (nI 6)) C.x C.b dL_law_306 (by decide) ?_
  refine lv_icmp_ge (tgt := 493) C.x C.b dL_law_308 (by decide) (fun _ => ?_) (fun q9 => absurd (by decide) q9)
  refine lv_iload C.x C.b dL_law_493 (lv_at hl 9 rfl) ?_
  refine lv_bipush (v := (nI 6)) C.x C.b dL_law_495 (by decide) ?_
  refine lv_icmp_ne (tgt := 684) C.x C.b dL_law_497 (by decide) (fun _ => ?_) (fun q9 => absurd q9 (by decide))
  refine lv_iload C.x C.b dL_law_684 (lv_at hl 9 rfl) ?_
  refine lv_bipush (v := (nI 7)) C.x C.b dL_law_686 (by decide) ?_
  refine lv_icmp_ne (tgt := 763) C.x C.b dL_law_688 (by decide) (fun _ => ?_) (fun q9 => absurd q9 (by decide))
  refine lv_iload C.x C.b dL_law_763 (lv_at hl 9 rfl) ?_
  refine lv_bipush (v := (nI 9)) C.x C.b dL_law_765 (by decide) ?_
  refine lv_icmp_ge (tgt := 867) C.x C.b dL_law_767 (by decide) (fun _ => ?_) (fun q9 => absurd (by decide) q9)
  refine lv_iload C.x C.b dL_law_867 (lv_at hl 9 rfl) ?_
  refine lv_bipush (v := (nI 9)) C.x C.b dL_law_869 (by decide) ?_
  refine lv_icmp_ne (tgt := 945) C.x C.b dL_law_871 (by decide) (fun _ => ?_) (fun q9 => absurd q9 (by decide))
  refine lv_iload C.x C.b dL_law_945 (lv_at hl 9 rfl) ?_
  refine lv_bipush (v := (nI 10)) C.x C.b dL_law_947 (by decide) ?_
  refine lv_icmp_ne (tgt := 1070) C.x C.b dL_law_949 (by decide) (fun _ => ?_) (fun q9 => absurd q9 (by decide))
  exact law_tM (x := x) (y := y) (z := z) (m := m) hst C hX hR ⟨by omega, by omega⟩ hI hd hx hy hz (lv_sub hl [0, 1, 2, 3, 4, 5, 6, 7, 10, 11] rfl) (fun f1 H1 locs1 m1 ls1 a1 a2 a3 a4 => W.widen (k := cells + 2000) (n := slots + 16000) (by omega) (by omega) (K f1 H1 locs1 m1 ls1 a1 a2 a3 a4))
set_option maxHeartbeats 8000000 in
set_option maxRecDepth 100000 in
theorem law_w12 (hst : l.stackTraces = false) (C : kC G B0 p mi c cL_law 18 s args wsL_law RL) (hX : kX G B0 s f H locs) (hR : 400 ≤ R.frames ∧ 24000 ≤ R.locals) (hcl : cells + 2000 ≤ R.cells ∧ slots + 16000 ≤ R.slots) (hI : Inv G h f m) (hd : dInv m) (hx : x < 16777216) (hy : y < 16777216) (hz : z < 16777216) (hl : lv_has ls 18 [(0, .ref b), (1, .ref h), (2, .int (nI m.nd)), (3, .int (nI m.ng)), (4, .int (nI m.nm)), (5, .int (nI m.nc)), (6, .int (nI m.nw)), (7, .int (nI k)), (8, .int (nI x)), (9, .int (nI 12)), (10, .int (nI y)), (11, .int (nI z))])
    (K : ∀ (f1 : kH) (H1 : Heap) (locs1 : List Loc) (m1 : pSt) (ls1 : Array Slot), kX G B0 s f1 H1 locs1 → Inv G h f1 m1 → dInv m1 → lv_has ls1 18 (lwB b h m1 k) → W p l e R s mi args below meth c H1 locs1 (cells + 2000) (slots + 16000) Q (F0 mi 1207 ls1 [])) : W p l e R s mi args below meth c H locs cells slots Q (F0 mi 85 ls []) := by
  obtain ⟨b4, b16, bf, bd, bg, bm, bc2, bc6, bw⟩ := hI.bd
  refine lv_iload C.x C.b dL_law_85 (lv_at hl 9 rfl) ?_
  refine lv_iconst (v := (nI 2)) C.x C.b dL_law_87 (by decide) ?_
  refine lv_icmp_ge (tgt := 138) C.x C.b dL_law_88 (by decide) (fun _ => ?_) (fun q9 => absurd (by decide) q9)
  refine lv_iload C.x C.b dL_law_138 (lv_at hl 9 rfl) ?_
  refine lv_iconst (v := (nI 4)) C.x C.b dL_law_140 (by decide) ?_
  refine lv_icmp_ge (tgt := 304) C.x C.b dL_law_141 (by decide) (fun _ => ?_) (fun q9 => absurd (by decide) q9)
  refine lv_iload C.x C.b dL_law_304 (lv_at hl 9 rfl) ?_
  refine lv_bipush (v := (nI 6)) C.x C.b dL_law_306 (by decide) ?_
  refine lv_icmp_ge (tgt := 493) C.x C.b dL_law_308 (by decide) (fun _ => ?_) (fun q9 => absurd (by decide) q9)
  refine lv_iload C.x C.b dL_law_493 (lv_at hl 9 rfl) ?_
  refine lv_bipush (v := (nI 6)) C.x C.b dL_law_495 (by decide) ?_
  refine lv_icmp_ne (tgt := 684) C.x C.b dL_law_497 (by decide) (fun _ => ?_) (fun q9 => absurd q9 (by decide))
  refine lv_iload C.x C.b dL_law_684 (lv_at hl 9 rfl) ?_
  refine lv_bipush (v := (nI 7)) C.x C.b dL_law_686 (by decide) ?_
  refine lv_icmp_ne (tgt := 763) C.x C.b dL_law_688 (by decide) (fun _ => ?_) (fun q9 => absurd q9 (by decide))
  refine lv_iload C.x C.b dL_law_763 (lv_at hl 9 rfl) ?_
  refine lv_bipush (v := (nI 9)) C.x C.b dL_law_765 (by decide) ?_
  refine lv_icmp_ge (tgt := 867) C.x C.b dL_law_767 (by decide) (fun _ => ?_) (fun q9 => absurd (by decide) q9)
  refine lv_iload C.x C.b dL_law_867 (lv_at hl 9 rfl) ?_
  refine lv_bipush (v := (nI 9)) C.x C.b dL_law_869 (by decide) ?_
  refine lv_icmp_ne (tgt := 945) C.x C.b dL_law_871 (by decide) (fun _ => ?_) (fun q9 => absurd q9 (by decide))
  refine lv_iload C.x C.b dL_law_945 (lv_at hl 9 rfl) ?_
  refine lv_bipush (v := (nI 10)) C.x C.b dL_law_947 (by decide) ?_
  refine lv_icmp_ne (tgt := 1070) C.x C.b dL_law_949 (by decide) (fun _ => ?_) (fun q9 => absurd q9 (by decide))
  exact law_tM (x := x) (y := y) (z := z) (m := m) hst C hX hR ⟨by omega, by omega⟩ hI hd hx hy hz (lv_sub hl [0, 1, 2, 3, 4, 5, 6, 7, 10, 11] rfl) (fun f1 H1 locs1 m1 ls1 a1 a2 a3 a4 => W.widen (k := cells + 2000) (n := slots + 16000) (by omega) (by omega) (K f1 H1 locs1 m1 ls1 a1 a2 a3 a4))
end LW5
