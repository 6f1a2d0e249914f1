/-! the law's refuses -/
abbrev rmR : Room := { frames := 302, cells := 3300, slots := 26400, locals := 20100 }
theorem lkC_106 : Cond.constant RL 108 (2147483647) ∈ wsL_law := upL _ (List.mem_of_getElem? (i := 106) (by decide +kernel))
theorem lkC_107 : Cond.constant RL 113 (-1000000001) ∈ wsL_law := upL _ (List.mem_of_getElem? (i := 107) (by decide +kernel))
theorem lkC_108 : Cond.constant RL 114 (1000000001) ∈ wsL_law := upL _ (List.mem_of_getElem? (i := 108) (by decide +kernel))
theorem lkC_109 : Cond.constant RL 115 (-1000001) ∈ wsL_law := upL _ (List.mem_of_getElem? (i := 109) (by decide +kernel))
theorem lkC_110 : Cond.constant RL 116 (1000001) ∈ wsL_law := upL _ (List.mem_of_getElem? (i := 110) (by decide +kernel))
theorem lkC_111 : Cond.constantLong RL 98 (-7000001) ∈ wsL_law := upL _ (List.mem_of_getElem? (i := 111) (by decide +kernel))
theorem lkC_4 : Cond.constantLong RL 106 (-7000003) ∈ wsL_law := upL _ (List.mem_of_getElem? (i := 4) (by decide +kernel))
theorem lkC_6 : Cond.constantLong RL 102 (-7000002) ∈ wsL_law := upL _ (List.mem_of_getElem? (i := 6) (by decide +kernel))
section RF0
variable {p : Program} {l : Launch} {e : Env} {s : State} {mi : MethodId} {args : Array Value} {below : List Frame} {meth : Method} {c : Code} {H : Heap} {locs : List Loc} {Q : State → Prop}
variable {ls : Array Slot} {G : kG} {B0 h : Nat} {f : kH} {m : pSt}
set_option maxHeartbeats 16000000 in
set_option maxRecDepth 100000 in
theorem ref_0 (hst : l.stackTraces = false) (C : kC G B0 p mi c cL_refuses 24 s args wsP_refuses RL) (hX : kX G B0 s f H locs) (hI : Inv G h f m) (hl : lv_has ls 24 [(11, .int (nI 0)), (10, .int ((m.pr 0).toInt32)), (9, .int (nI (mTrees m.ea m.eb m.nc m.nw))), (8, .int (nI m.fc)), (7, .int (nI m.cc)), (6, .int (nI 2147483647)), (0, .ref h), (1, .int (nI m.nd)), (2, .int (nI m.ng)), (3, .int (nI m.nm)), (4, .int (nI m.nc)), (5, .int (nI m.nw))])
    (K : ∀ (f : kH) (H : Heap) (locs : List Loc) (ls : Array Slot), kX G B0 s f H locs → Inv G h f m → lv_has ls 24 [(11, .int (nI 1)), (10, .int ((m.pr 0).toInt32)), (9, .int (nI (mTrees m.ea m.eb m.nc m.nw))), (8, .int (nI m.fc)), (7, .int (nI m.cc)), (6, .int (nI 2147483647)), (0, .ref h), (1, .int (nI m.nd)), (2, .int (nI m.ng)), (3, .int (nI m.nm)), (4, .int (nI m.nc)), (5, .int (nI m.nw))] → W p l e rmR s mi args below meth c H locs 832 6656 Q (F0 mi 34 ls [])) : W p l e rmR s mi args below meth c H locs 32 256 Q (F0 mi 34 ls []) := by
  obtain ⟨b4, b16, bf, bd, bg, bm, bc2, bc6, bw⟩ := hI.bd
  refine lv_iload C.x C.b dL_refuses_34 (lv_at hl 0 rfl) ?_
  refine lv_iconst (v := (nI 4)) C.x C.b dL_refuses_36 (by decide) ?_
  refine lv_icmp_ge (tgt := 1421) C.x C.b dL_refuses_37 (by decide) (fun q9 => absurd q9 (by decide)) (fun _ => ?_)
  refine lv_iload C.x C.b dL_refuses_40 (lv_at hl 0 rfl) ?_
  refine lv_if_ne (tgt := 49) C.x C.b dL_refuses_42 (by decide) (fun q9 => absurd (by decide) q9) (fun _ => ?_)
  refine lv_iconst (v := (-1)) C.x C.b dL_refuses_45 (by decide) ?_
  refine lv_goto (tgt := 65) C.x C.b dL_refuses_46 (by decide) ?_
  refine lv_istore (lv' := [(12, .int (-1)), (11, .int (nI 0)), (10, .int ((m.pr 0).toInt32)), (9, .int (nI (mTrees m.ea m.eb m.nc m.nw))), (8, .int (nI m.fc)), (7, .int (nI m.cc)), (6, .int (nI 2147483647)), (0, .ref h), (1, .int (nI m.nd)), (2, .int (nI m.ng)), (3, .int (nI m.nm)), (4, .int (nI m.nc)), (5, .int (nI m.nw))]) C.x C.b dL_refuses_65 hl (by decide) rfl (fun ls hl => ?_)
  refine lv_iload C.x C.b dL_refuses_67 (lv_at hl 1 rfl) ?_
  refine lv_iconst (v := (nI 1)) C.x C.b dL_refuses_69 (by decide) ?_
  refine lv_icmp_ne (tgt := 78) C.x C.b dL_refuses_70 (by decide) (fun _ => ?_) (fun q9 => absurd q9 (by decide))
  refine lv_iload C.x C.b dL_refuses_78 (lv_at hl 0 rfl) ?_
  refine lv_istore (lv' := [(13, .int (-1)), (12, .int (-1)), (11, .int (nI 0)), (10, .int ((m.pr 0).toInt32)), (9, .int (nI (mTrees m.ea m.eb m.nc m.nw))), (8, .int (nI m.fc)), (7, .int (nI m.cc)), (6, .int (nI 2147483647)), (0, .ref h), (1, .int (nI m.nd)), (2, .int (nI m.ng)), (3, .int (nI m.nm)), (4, .int (nI m.nc)), (5, .int (nI m.nw))]) C.x C.b dL_refuses_80 hl (by decide) rfl (fun ls hl => ?_)
  refine lv_iload C.x C.b dL_refuses_82 (lv_at hl 2 rfl) ?_
  refine lv_iconst (v := (nI 1)) C.x C.b dL_refuses_84 (by decide) ?_
  refine lv_icmp_ne (tgt := 93) C.x C.b dL_refuses_85 (by decide) (fun _ => ?_) (fun q9 => absurd q9 (by decide))
  refine lv_iload C.x C.b dL_refuses_93 (lv_at hl 1 rfl) ?_
  refine lv_istore (lv' := [(14, .int (-1)), (13, .int (-1)), (12, .int (-1)), (11, .int (nI 0)), (10, .int ((m.pr 0).toInt32)), (9, .int (nI (mTrees m.ea m.eb m.nc m.nw))), (8, .int (nI m.fc)), (7, .int (nI m.cc)), (6, .int (nI 2147483647)), (0, .ref h), (1, .int (nI m.nd)), (2, .int (nI m.ng)), (3, .int (nI m.nm)), (4, .int (nI m.nc)), (5, .int (nI m.nw))]) C.x C.b dL_refuses_95 hl (by decide) rfl (fun ls hl => ?_)
  refine lv_iload C.x C.b dL_refuses_97 (lv_at hl 3 rfl) ?_
  refine lv_iconst (v := (nI 1)) C.x C.b dL_refuses_99 (by decide) ?_
  refine lv_icmp_ne (tgt := 107) C.x C.b dL_refuses_100 (by decide) (fun _ => ?_) (fun q9 => absurd q9 (by decide))
  refine lv_iload C.x C.b dL_refuses_107 (lv_at hl 2 rfl) ?_
  refine lv_istore (lv' := [(15, .int (-1)), (14, .int (-1)), (13, .int (-1)), (12, .int (-1)), (11, .int (nI 0)), (10, .int ((m.pr 0).toInt32)), (9, .int (nI (mTrees m.ea m.eb m.nc m.nw))), (8, .int (nI m.fc)), (7, .int (nI m.cc)), (6, .int (nI 2147483647)), (0, .ref h), (1, .int (nI m.nd)), (2, .int (nI m.ng)), (3, .int (nI m.nm)), (4, .int (nI m.nc)), (5, .int (nI m.nw))]) C.x C.b dL_refuses_109 hl (by decide) rfl (fun ls hl => ?_)
  refine lv_iload C.x C.b dL_refuses_111 (lv_at hl 4 rfl) ?_
  refine lv_iconst (v := (nI 1)) C.x C.b dL_refuses_113 (by decide) ?_
  refine lv_icmp_ne (tgt := 121) C.x C.b dL_refuses_114 (by decide) (fun _ => ?_) (fun q9 => absurd q9 (by decide))
  refine lv_iload C.x C.b dL_refuses_121 (lv_at hl 3 rfl) ?_
  refine lv_istore (lv' := [(16, .int (-1)), (15, .int (-1)), (14, .int (-1)), (13, .int (-1)), (12, .int (-1)), (11, .int (nI 0)), (10, .int ((m.pr 0).toInt32)), (9, .int (nI (mTrees m.ea m.eb m.nc m.nw))), (8, .int (nI m.fc)), (7, .int (nI m.cc)), (6, .int (nI 2147483647)), (0, .ref h), (1, .int (nI m.nd)), (2, .int (nI m.ng)), (3, .int (nI m.nm)), (4, .int (nI m.nc)), (5, .int (nI m.nw))]) C.x C.b dL_refuses_123 hl (by decide) rfl (fun ls hl => ?_)
  refine lv_iload C.x C.b dL_refuses_125 (lv_at hl 5 rfl) ?_
  refine lv_iconst (v := (nI 1)) C.x C.b dL_refuses_127 (by decide) ?_
  refine lv_icmp_ne (tgt := 135) C.x C.b dL_refuses_128 (by decide) (fun _ => ?_) (fun q9 => absurd q9 (by decide))
  refine lv_iload C.x C.b dL_refuses_135 (lv_at hl 4 rfl) ?_
  refine lv_istore (lv' := [(17, .int (-1)), (16, .int (-1)), (15, .int (-1)), (14, .int (-1)), (13, .int (-1)), (12, .int (-1)), (11, .int (nI 0)), (10, .int ((m.pr 0).toInt32)), (9, .int (nI (mTrees m.ea m.eb m.nc m.nw))), (8, .int (nI m.fc)), (7, .int (nI m.cc)), (6, .int (nI 2147483647)), (0, .ref h), (1, .int (nI m.nd)), (2, .int (nI m.ng)), (3, .int (nI m.nm)), (4, .int (nI m.nc)), (5, .int (nI m.nw))]) C.x C.b dL_refuses_137 hl (by decide) rfl (fun ls hl => ?_)
  refine lv_iload C.x C.b dL_refuses_139 (lv_at hl 6 rfl) ?_
  refine lv_iconst (v := (nI 1)) C.x C.b dL_refuses_141 (by decide) ?_
  refine lv_icmp_ne (tgt := 150) C.x C.b dL_refuses_142 (by decide) (fun _ => ?_) (fun q9 => absurd q9 (by decide))
  refine lv_iload C.x C.b dL_refuses_150 (lv_at hl 5 rfl) ?_
  refine lv_istore (lv' := [(18, .int (-1)), (17, .int (-1)), (16, .int (-1)), (15, .int (-1)), (14, .int (-1)), (13, .int (-1)), (12, .int (-1)), (11, .int (nI 0)), (10, .int ((m.pr 0).toInt32)), (9, .int (nI (mTrees m.ea m.eb m.nc m.nw))), (8, .int (nI m.fc)), (7, .int (nI m.cc)), (6, .int (nI 2147483647)), (0, .ref h), (1, .int (nI m.nd)), (2, .int (nI m.ng)), (3, .int (nI m.nm)), (4, .int (nI m.nc)), (5, .int (nI m.nw))]) C.x C.b dL_refuses_152 hl (by decide) rfl (fun ls hl => ?_)
  refine lv_iload C.x C.b dL_refuses_154 (lv_at hl 7 rfl) ?_
  refine lv_if_ne (tgt := 164) C.x C.b dL_refuses_156 (by decide) (fun q9 => absurd (by decide) q9) (fun _ => ?_)
  refine lv_ldc (v := (-1000000001)) C.x C.b C.ow (C.ts _ (List.mem_cons_of_mem _ lkC_107)) dL_refuses_159 ?_
  refine lv_goto (tgt := 177) C.x C.b dL_refuses_161 (by decide) ?_
  refine lv_istore (lv' := [(19, .int (-1000000001)), (18, .int (-1)), (17, .int (-1)), (16, .int (-1)), (15, .int (-1)), (14, .int (-1)), (13, .int (-1)), (12, .int (-1)), (11, .int (nI 0)), (10, .int ((m.pr 0).toInt32)), (9, .int (nI (mTrees m.ea m.eb m.nc m.nw))), (8, .int (nI m.fc)), (7, .int (nI m.cc)), (6, .int (nI 2147483647)), (0, .ref h), (1, .int (nI m.nd)), (2, .int (nI m.ng)), (3, .int (nI m.nm)), (4, .int (nI m.nc)), (5, .int (nI m.nw))]) C.x C.b dL_refuses_177 hl (by decide) rfl (fun ls hl => ?_)
  refine lv_iload C.x C.b dL_refuses_179 (lv_at hl 8 rfl) ?_
  refine lv_if_ne (tgt := 189) C.x C.b dL_refuses_181 (by decide) (fun q9 => absurd (by decide) q9) (fun _ => ?_)
  refine lv_ldc (v := (-1000001)) C.x C.b C.ow (C.ts _ (List.mem_cons_of_mem _ lkC_109)) dL_refuses_184 ?_
  refine lv_goto (tgt := 202) C.x C.b dL_refuses_186 (by decide) ?_
  refine lv_istore (lv' := [(20, .int (-1000001)), (19, .int (-1000000001)), (18, .int (-1)), (17, .int (-1)), (16, .int (-1)), (15, .int (-1)), (14, .int (-1)), (13, .int (-1)), (12, .int (-1)), (11, .int (nI 0)), (10, .int ((m.pr 0).toInt32)), (9, .int (nI (mTrees m.ea m.eb m.nc m.nw))), (8, .int (nI m.fc)), (7, .int (nI m.cc)), (6, .int (nI 2147483647)), (0, .ref h), (1, .int (nI m.nd)), (2, .int (nI m.ng)), (3, .int (nI m.nm)), (4, .int (nI m.nc)), (5, .int (nI m.nw))]) C.x C.b dL_refuses_202 hl (by decide) rfl (fun ls hl => ?_)
  refine lv_iload C.x C.b dL_refuses_204 (lv_at hl 9 rfl) ?_
  refine lv_iconst (v := (nI 2)) C.x C.b dL_refuses_206 (by decide) ?_
  refine lv_icmp_ne (tgt := 214) C.x C.b dL_refuses_207 (by decide) (fun _ => ?_) (fun q9 => absurd q9 (by decide))
  refine lv_iload C.x C.b dL_refuses_214 (lv_at hl 9 rfl) ?_
  refine lv_iconst (v := (nI 1)) C.x C.b dL_refuses_216 (by decide) ?_
  refine lv_icmp_ne (tgt := 225) C.x C.b dL_refuses_217 (by decide) (fun _ => ?_) (fun q9 => absurd q9 (by decide))
  refine lv_iload C.x C.b dL_refuses_225 (lv_at hl 14 rfl) ?_
  refine lv_ineg C.x C.b dL_refuses_227 ?_
  refine k_topi (y := (-2147483647)) (by decide) ?_
  refine lv_iconst (v := (nI 1)) C.x C.b dL_refuses_228 (by decide) ?_
  refine lv_isub C.x C.b dL_refuses_229 ?_
  refine k_topi (y := (-2147483648)) (by decide) ?_
  refine lv_istore (lv' := [(21, .int (-2147483648)), (20, .int (-1000001)), (19, .int (-1000000001)), (18, .int (-1)), (17, .int (-1)), (16, .int (-1)), (15, .int (-1)), (14, .int (-1)), (13, .int (-1)), (12, .int (-1)), (11, .int (nI 0)), (10, .int ((m.pr 0).toInt32)), (9, .int (nI (mTrees m.ea m.eb m.nc m.nw))), (8, .int (nI m.fc)), (7, .int (nI m.cc)), (6, .int (nI 2147483647)), (0, .ref h), (1, .int (nI m.nd)), (2, .int (nI m.ng)), (3, .int (nI m.nm)), (4, .int (nI m.nc)), (5, .int (nI m.nw))]) C.x C.b dL_refuses_230 hl (by decide) rfl (fun ls hl => ?_)
  refine lv_aload_n C.x C.b dL_refuses_232 rfl (lv_at hl 16 rfl) ?_
  refine lv_iconst (v := (nI 0)) C.x C.b dL_refuses_233 (by decide) ?_
  refine lv_iload C.x C.b dL_refuses_234 (lv_at hl 8 rfl) ?_
  refine lv_iconst (v := (nI 0)) C.x C.b dL_refuses_236 (by decide) ?_
  refine lv_iconst (v := (nI 0)) C.x C.b dL_refuses_237 (by decide) ?_
  refine lv_iconst (v := (nI 0)) C.x C.b dL_refuses_238 (by decide) ?_
  refine k_actI (As := [.ref h, .int (nI 0), .int (-1), .int (nI 0), .int (nI 0), .int (nI 0)]) (rest := []) (c2 := 40) (s2 := 320) (v := (-7000001)) (m1 := m) C hX (act_0 hI.hd (-1) (nI 0) (nI 0) (nI 0) (iop_split hst hI (-1))) (e_split_o (mIn_lo (by decide))) (rfl) (gl_up inv_L_act) rfl hl.1 rfl (by decide) dL_refuses_239 ⟨Nat.le_of_ble_eq_true rfl, Nat.le_of_ble_eq_true rfl⟩ ⟨Nat.le_of_ble_eq_true rfl, Nat.le_of_ble_eq_true rfl⟩ rfl rfl (fun f H locs hX hI => ?_)
  refine lv_ldc2 (v := (-7000001)) C.x C.b C.ow (C.ts _ (List.mem_cons_of_mem _ lkC_111)) dL_refuses_242 ?_
  refine k_lcmp_ne (tgt := 607) C.x C.b dL_refuses_245 dL_refuses_246 (by decide) (fun q9 => absurd (by decide) q9) (fun _ => ?_)
  refine lv_aload_n C.x C.b dL_refuses_249 rfl (lv_at hl 16 rfl) ?_
  refine lv_iconst (v := (nI 1)) C.x C.b dL_refuses_250 (by decide) ?_
  refine lv_iload C.x C.b dL_refuses_251 (lv_at hl 7 rfl) ?_
  refine lv_iconst (v := (nI 0)) C.x C.b dL_refuses_253 (by decide) ?_
  refine lv_iconst (v := (nI 0)) C.x C.b dL_refuses_254 (by decide) ?_
  refine lv_iconst (v := (nI 0)) C.x C.b dL_refuses_255 (by decide) ?_
  refine k_actI (As := [.ref h, .int (nI 1), .int (-1), .int (nI 0), .int (nI 0), .int (nI 0)]) (rest := []) (c2 := 48) (s2 := 384) (v := (-7000001)) (m1 := m) C hX (act_1 hI.hd (-1) (nI 0) (nI 0) (nI 0) (iop_flip hst hI (-1) (nI 0))) (e_flip_o (fun z => absurd z.1 (mIn_lo (by decide)))) (rfl) (gl_up inv_L_act) rfl hl.1 rfl (by decide) dL_refuses_256 ⟨Nat.le_of_ble_eq_true rfl, Nat.le_of_ble_eq_true rfl⟩ ⟨Nat.le_of_ble_eq_true rfl, Nat.le_of_ble_eq_true rfl⟩ rfl rfl (fun f H locs hX hI => ?_)
  refine lv_ldc2 (v := (-7000001)) C.x C.b C.ow (C.ts _ (List.mem_cons_of_mem _ lkC_111)) dL_refuses_259 ?_
  refine k_lcmp_ne (tgt := 607) C.x C.b dL_refuses_262 dL_refuses_263 (by decide) (fun q9 => absurd (by decide) q9) (fun _ => ?_)
  refine lv_aload_n C.x C.b dL_refuses_266 rfl (lv_at hl 16 rfl) ?_
  refine lv_iconst (v := (nI 1)) C.x C.b dL_refuses_267 (by decide) ?_
  refine lv_iconst (v := (nI 0)) C.x C.b dL_refuses_268 (by decide) ?_
  refine lv_iload C.x C.b dL_refuses_269 (lv_at hl 7 rfl) ?_
  refine lv_iconst (v := (nI 0)) C.x C.b dL_refuses_271 (by decide) ?_
  refine lv_iconst (v := (nI 0)) C.x C.b dL_refuses_272 (by decide) ?_
  refine k_actI (As := [.ref h, .int (nI 1), .int (nI 0), .int (-1), .int (nI 0), .int (nI 0)]) (rest := []) (c2 := 56) (s2 := 448) (v := (-7000001)) (m1 := m) C hX (act_1 hI.hd (nI 0) (-1) (nI 0) (nI 0) (iop_flip hst hI (nI 0) (-1))) (e_flip_o (fun z => absurd z.2 (mIn_lo (by decide)))) (rfl) (gl_up inv_L_act) rfl hl.1 rfl (by decide) dL_refuses_273 ⟨Nat.le_of_ble_eq_true rfl, Nat.le_of_ble_eq_true rfl⟩ ⟨Nat.le_of_ble_eq_true rfl, Nat.le_of_ble_eq_true rfl⟩ rfl rfl (fun f H locs hX hI => ?_)
  refine lv_ldc2 (v := (-7000001)) C.x C.b C.ow (C.ts _ (List.mem_cons_of_mem _ lkC_111)) dL_refuses_276 ?_
  refine k_lcmp_ne (tgt := 607) C.x C.b dL_refuses_279 dL_refuses_280 (by decide) (fun q9 => absurd (by decide) q9) (fun _ => ?_)
  refine lv_aload_n C.x C.b dL_refuses_283 rfl (lv_at hl 16 rfl) ?_
  refine lv_iconst (v := (nI 1)) C.x C.b dL_refuses_284 (by decide) ?_
  refine lv_iconst (v := (nI 2)) C.x C.b dL_refuses_285 (by decide) ?_
  refine lv_iconst (v := (nI 2)) C.x C.b dL_refuses_286 (by decide) ?_
  refine lv_iconst (v := (nI 0)) C.x C.b dL_refuses_287 (by decide) ?_
  refine lv_iconst (v := (nI 0)) C.x C.b dL_refuses_288 (by decide) ?_
  refine k_actI (As := [.ref h, .int (nI 1), .int (nI 2), .int (nI 2), .int (nI 0), .int (nI 0)]) (rest := []) (c2 := 64) (s2 := 512) (v := (-7000003)) (m1 := m) C hX (act_1 hI.hd (nI 2) (nI 2) (nI 0) (nI 0) (iop_flip hst hI (nI 2) (nI 2))) (e_flip_22 hI) (rfl) (gl_up inv_L_act) rfl hl.1 rfl (by decide) dL_refuses_289 ⟨Nat.le_of_ble_eq_true rfl, Nat.le_of_ble_eq_true rfl⟩ ⟨Nat.le_of_ble_eq_true rfl, Nat.le_of_ble_eq_true rfl⟩ rfl rfl (fun f H locs hX hI => ?_)
  refine lv_ldc2 (v := (-7000003)) C.x C.b C.ow (C.ts _ (List.mem_cons_of_mem _ lkC_4)) dL_refuses_292 ?_
  refine k_lcmp_ne (tgt := 607) C.x C.b dL_refuses_295 dL_refuses_296 (by decide) (fun q9 => absurd (by decide) q9) (fun _ => ?_)
  refine lv_aload_n C.x C.b dL_refuses_299 rfl (lv_at hl 16 rfl) ?_
  refine lv_iconst (v := (nI 2)) C.x C.b dL_refuses_300 (by decide) ?_
  refine lv_iload C.x C.b dL_refuses_301 (lv_at hl 8 rfl) ?_
  refine lv_iconst (v := (nI 0)) C.x C.b dL_refuses_303 (by decide) ?_
  refine lv_iconst (v := (nI 0)) C.x C.b dL_refuses_304 (by decide) ?_
  refine lv_iconst (v := (nI 0)) C.x C.b dL_refuses_305 (by decide) ?_
  refine k_actI (As := [.ref h, .int (nI 2), .int (-1), .int (nI 0), .int (nI 0), .int (nI 0)]) (rest := []) (c2 := 72) (s2 := 576) (v := (-7000001)) (m1 := m) C hX (act_2 hI.hd (-1) (nI 0) (nI 0) (nI 0) (iop_corner hst hI (-1) (nI 0))) (e_corner_o (fun z => absurd z.1 (mIn_lo (by decide)))) (rfl) (gl_up inv_L_act) rfl hl.1 rfl (by decide) dL_refuses_306 ⟨Nat.le_of_ble_eq_true rfl, Nat.le_of_ble_eq_true rfl⟩ ⟨Nat.le_of_ble_eq_true rfl, Nat.le_of_ble_eq_true rfl⟩ rfl rfl (fun f H locs hX hI => ?_)
  refine lv_ldc2 (v := (-7000001)) C.x C.b C.ow (C.ts _ (List.mem_cons_of_mem _ lkC_111)) dL_refuses_309 ?_
  refine k_lcmp_ne (tgt := 607) C.x C.b dL_refuses_312 dL_refuses_313 (by decide) (fun q9 => absurd (by decide) q9) (fun _ => ?_)
  refine lv_aload_n C.x C.b dL_refuses_316 rfl (lv_at hl 16 rfl) ?_
  refine lv_iconst (v := (nI 2)) C.x C.b dL_refuses_317 (by decide) ?_
  refine lv_iconst (v := (nI 0)) C.x C.b dL_refuses_318 (by decide) ?_
  refine lv_iload C.x C.b dL_refuses_319 (lv_at hl 10 rfl) ?_
  refine lv_iconst (v := (nI 1)) C.x C.b dL_refuses_321 (by decide) ?_
  refine lv_icmp_ne (tgt := 329) C.x C.b dL_refuses_322 (by decide) (fun _ => ?_) (fun q9 => absurd q9 (by decide))
  refine lv_iload C.x C.b dL_refuses_329 (lv_at hl 9 rfl) ?_
  refine lv_iconst (v := (nI 0)) C.x C.b dL_refuses_331 (by decide) ?_
  refine lv_iconst (v := (nI 0)) C.x C.b dL_refuses_332 (by decide) ?_
  refine k_actI (As := [.ref h, .int (nI 2), .int (nI 0), .int (-1), .int (nI 0), .int (nI 0)]) (rest := []) (c2 := 80) (s2 := 640) (v := (-7000001)) (m1 := m) C hX (act_2 hI.hd (nI 0) (-1) (nI 0) (nI 0) (iop_corner hst hI (nI 0) (-1))) (e_corner_o (fun z => absurd z.2 (by decide +kernel))) (rfl) (gl_up inv_L_act) rfl hl.1 rfl (by decide) dL_refuses_333 ⟨Nat.le_of_ble_eq_true rfl, Nat.le_of_ble_eq_true rfl⟩ ⟨Nat.le_of_ble_eq_true rfl, Nat.le_of_ble_eq_true rfl⟩ rfl rfl (fun f H locs hX hI => ?_)
  refine lv_ldc2 (v := (-7000001)) C.x C.b C.ow (C.ts _ (List.mem_cons_of_mem _ lkC_111)) dL_refuses_336 ?_
  refine k_lcmp_ne (tgt := 607) C.x C.b dL_refuses_339 dL_refuses_340 (by decide) (fun q9 => absurd (by decide) q9) (fun _ => ?_)
  refine lv_aload_n C.x C.b dL_refuses_343 rfl (lv_at hl 16 rfl) ?_
  refine lv_iconst (v := (nI 3)) C.x C.b dL_refuses_344 (by decide) ?_
  refine lv_iload C.x C.b dL_refuses_345 (lv_at hl 7 rfl) ?_
  refine lv_iconst (v := (nI 0)) C.x C.b dL_refuses_347 (by decide) ?_
  refine lv_iconst (v := (nI 0)) C.x C.b dL_refuses_348 (by decide) ?_
  refine lv_iconst (v := (nI 0)) C.x C.b dL_refuses_349 (by decide) ?_
  refine k_actI (As := [.ref h, .int (nI 3), .int (-1), .int (nI 0), .int (nI 0), .int (nI 0)]) (rest := []) (c2 := 88) (s2 := 704) (v := (-7000001)) (m1 := m) C hX (act_3 hI.hd (-1) (nI 0) (nI 0) (nI 0) (iop_around hst hI (-1) (nI 0))) (e_around_o (fun z => absurd z.1 (mIn_lo (by decide)))) (rfl) (gl_up inv_L_act) rfl hl.1 rfl (by decide) dL_refuses_350 ⟨Nat.le_of_ble_eq_true rfl, Nat.le_of_ble_eq_true rfl⟩ ⟨Nat.le_of_ble_eq_true rfl, Nat.le_of_ble_eq_true rfl⟩ rfl rfl (fun f H locs hX hI => ?_)
  refine lv_ldc2 (v := (-7000001)) C.x C.b C.ow (C.ts _ (List.mem_cons_of_mem _ lkC_111)) dL_refuses_353 ?_
  refine k_lcmp_ne (tgt := 607) C.x C.b dL_refuses_356 dL_refuses_357 (by decide) (fun q9 => absurd (by decide) q9) (fun _ => ?_)
  refine lv_aload_n C.x C.b dL_refuses_360 rfl (lv_at hl 16 rfl) ?_
  refine lv_iconst (v := (nI 3)) C.x C.b dL_refuses_361 (by decide) ?_
  refine lv_iconst (v := (nI 0)) C.x C.b dL_refuses_362 (by decide) ?_
  refine lv_iload C.x C.b dL_refuses_363 (lv_at hl 0 rfl) ?_
  refine lv_iconst (v := (nI 0)) C.x C.b dL_refuses_365 (by decide) ?_
  refine lv_iconst (v := (nI 0)) C.x C.b dL_refuses_366 (by decide) ?_
  refine k_actI (As := [.ref h, .int (nI 3), .int (nI 0), .int (-2147483648), .int (nI 0), .int (nI 0)]) (rest := []) (c2 := 96) (s2 := 768) (v := (-7000001)) (m1 := m) C hX (act_3 hI.hd (nI 0) (-2147483648) (nI 0) (nI 0) (iop_around hst hI (nI 0) (-2147483648))) (e_around_o (fun z => z.2 (by decide +kernel))) (rfl) (gl_up inv_L_act) rfl hl.1 rfl (by decide) dL_refuses_367 ⟨Nat.le_of_ble_eq_true rfl, Nat.le_of_ble_eq_true rfl⟩ ⟨Nat.le_of_ble_eq_true rfl, Nat.le_of_ble_eq_true rfl⟩ rfl rfl (fun f H locs hX hI => ?_)
  refine lv_ldc2 (v := (-7000001)) C.x C.b C.ow (C.ts _ (List.mem_cons_of_mem _ lkC_111)) dL_refuses_370 ?_
  refine k_lcmp_ne (tgt := 607) C.x C.b dL_refuses_373 dL_refuses_374 (by decide) (fun q9 => absurd (by decide) q9) (fun _ => ?_)
  refine lv_aload_n C.x C.b dL_refuses_377 rfl (lv_at hl 16 rfl) ?_
  refine lv_iconst (v := (nI 4)) C.x C.b dL_refuses_378 (by decide) ?_
  refine lv_iload C.x C.b dL_refuses_379 (lv_at hl 10 rfl) ?_
  refine lv_iconst (v := (nI 1)) C.x C.b dL_refuses_381 (by decide) ?_
  refine lv_icmp_ne (tgt := 389) C.x C.b dL_refuses_382 (by decide) (fun _ => ?_) (fun q9 => absurd q9 (by decide))
  refine lv_iload C.x C.b dL_refuses_389 (lv_at hl 9 rfl) ?_
  refine lv_iconst (v := (nI 0)) C.x C.b dL_refuses_391 (by decide) ?_
  refine lv_iconst (v := (nI 0)) C.x C.b dL_refuses_392 (by decide) ?_
  refine lv_iconst (v := (nI 0)) C.x C.b dL_refuses_393 (by decide) ?_
  refine k_actI (As := [.ref h, .int (nI 4), .int (-1), .int (nI 0), .int (nI 0), .int (nI 0)]) (rest := []) (c2 := 104) (s2 := 832) (v := (-7000001)) (m1 := m) C hX (act_4 hI.hd (-1) (nI 0) (nI 0) (nI 0) (iop_net hst hI (-1))) (e_net_o (by decide +kernel)) (rfl) (gl_up inv_L_act) rfl hl.1 rfl (by decide) dL_refuses_394 ⟨Nat.le_of_ble_eq_true rfl, Nat.le_of_ble_eq_true rfl⟩ ⟨Nat.le_of_ble_eq_true rfl, Nat.le_of_ble_eq_true rfl⟩ rfl rfl (fun f H locs hX hI => ?_)
  refine lv_ldc2 (v := (-7000001)) C.x C.b C.ow (C.ts _ (List.mem_cons_of_mem _ lkC_111)) dL_refuses_397 ?_
  refine k_lcmp_ne (tgt := 607) C.x C.b dL_refuses_400 dL_refuses_401 (by decide) (fun q9 => absurd (by decide) q9) (fun _ => ?_)
  refine lv_aload_n C.x C.b dL_refuses_404 rfl (lv_at hl 16 rfl) ?_
  refine lv_iconst (v := (nI 5)) C.x C.b dL_refuses_405 (by decide) ?_
  refine lv_iload C.x C.b dL_refuses_406 (lv_at hl 2 rfl) ?_
  refine lv_iconst (v := (nI 0)) C.x C.b dL_refuses_408 (by decide) ?_
  refine lv_iconst (v := (nI 1)) C.x C.b dL_refuses_409 (by decide) ?_
  refine lv_iconst (v := (nI 0)) C.x C.b dL_refuses_410 (by decide) ?_
  refine k_actI (As := [.ref h, .int (nI 5), .int (-1000000001), .int (nI 0), .int (nI 1), .int (nI 0)]) (rest := []) (c2 := 112) (s2 := 896) (v := (-7000002)) (m1 := m) C hX (act_5 hI.hd (-1000000001) (nI 0) (nI 1) (nI 0) (iop_disk hst hI (-1000000001) (nI 0) (nI 1))) (e_disk_a (by decide +kernel)) (rfl) (gl_up inv_L_act) rfl hl.1 rfl (by decide) dL_refuses_411 ⟨Nat.le_of_ble_eq_true rfl, Nat.le_of_ble_eq_true rfl⟩ ⟨Nat.le_of_ble_eq_true rfl, Nat.le_of_ble_eq_true rfl⟩ rfl rfl (fun f H locs hX hI => ?_)
  refine lv_ldc2 (v := (-7000002)) C.x C.b C.ow (C.ts _ (List.mem_cons_of_mem _ lkC_6)) dL_refuses_414 ?_
  refine k_lcmp_ne (tgt := 607) C.x C.b dL_refuses_417 dL_refuses_418 (by decide) (fun q9 => absurd (by decide) q9) (fun _ => ?_)
  refine lv_aload_n C.x C.b dL_refuses_421 rfl (lv_at hl 16 rfl) ?_
  refine lv_iconst (v := (nI 5)) C.x C.b dL_refuses_422 (by decide) ?_
  refine lv_iconst (v := (nI 0)) C.x C.b dL_refuses_423 (by decide) ?_
  refine lv_iload C.x C.b dL_refuses_424 (lv_at hl 2 rfl) ?_
  refine lv_iconst (v := (nI 1)) C.x C.b dL_refuses_426 (by decide) ?_
  refine lv_iconst (v := (nI 0)) C.x C.b dL_refuses_427 (by decide) ?_
  refine k_actI (As := [.ref h, .int (nI 5), .int (nI 0), .int (-1000000001), .int (nI 1), .int (nI 0)]) (rest := []) (c2 := 120) (s2 := 960) (v := (-7000002)) (m1 := m) C hX (act_5 hI.hd (nI 0) (-1000000001) (nI 1) (nI 0) (iop_disk hst hI (nI 0) (-1000000001) (nI 1))) (e_disk_a (by decide +kernel)) (rfl) (gl_up inv_L_act) rfl hl.1 rfl (by decide) dL_refuses_428 ⟨Nat.le_of_ble_eq_true rfl, Nat.le_of_ble_eq_true rfl⟩ ⟨Nat.le_of_ble_eq_true rfl, Nat.le_of_ble_eq_true rfl⟩ rfl rfl (fun f H locs hX hI => ?_)
  refine lv_ldc2 (v := (-7000002)) C.x C.b C.ow (C.ts _ (List.mem_cons_of_mem _ lkC_6)) dL_refuses_431 ?_
  refine k_lcmp_ne (tgt := 607) C.x C.b dL_refuses_434 dL_refuses_435 (by decide) (fun q9 => absurd (by decide) q9) (fun _ => ?_)
  refine lv_aload_n C.x C.b dL_refuses_438 rfl (lv_at hl 16 rfl) ?_
  refine lv_iconst (v := (nI 5)) C.x C.b dL_refuses_439 (by decide) ?_
  refine lv_iconst (v := (nI 0)) C.x C.b dL_refuses_440 (by decide) ?_
  refine lv_iconst (v := (nI 0)) C.x C.b dL_refuses_441 (by decide) ?_
  refine lv_iload C.x C.b dL_refuses_442 (lv_at hl 10 rfl) ?_
  refine lv_if_ne (tgt := 451) C.x C.b dL_refuses_444 (by decide) (fun q9 => absurd (by decide) q9) (fun _ => ?_)
  refine lv_iconst (v := (nI 0)) C.x C.b dL_refuses_447 (by decide) ?_
  refine lv_goto (tgt := 453) C.x C.b dL_refuses_448 (by decide) ?_
  refine lv_iconst (v := (nI 0)) C.x C.b dL_refuses_453 (by decide) ?_
  refine k_actI (As := [.ref h, .int (nI 5), .int (nI 0), .int (nI 0), .int (nI 0), .int (nI 0)]) (rest := []) (c2 := 128) (s2 := 1024) (v := (-7000002)) (m1 := m) C hX (act_5 hI.hd (nI 0) (nI 0) (nI 0) (nI 0) (iop_disk hst hI (nI 0) (nI 0) (nI 0))) (e_disk_a (by decide +kernel)) (rfl) (gl_up inv_L_act) rfl hl.1 rfl (by decide) dL_refuses_454 ⟨Nat.le_of_ble_eq_true rfl, Nat.le_of_ble_eq_true rfl⟩ ⟨Nat.le_of_ble_eq_true rfl, Nat.le_of_ble_eq_true rfl⟩ rfl rfl (fun f H locs hX hI => ?_)
  refine lv_ldc2 (v := (-7000002)) C.x C.b C.ow (C.ts _ (List.mem_cons_of_mem _ lkC_6)) dL_refuses_457 ?_
  refine k_lcmp_ne (tgt := 607) C.x C.b dL_refuses_460 dL_refuses_461 (by decide) (fun q9 => absurd (by decide) q9) (fun _ => ?_)
  refine lv_aload_n C.x C.b dL_refuses_464 rfl (lv_at hl 16 rfl) ?_
  refine lv_bipush (v := (nI 6)) C.x C.b dL_refuses_465 (by decide) ?_
  refine lv_iload C.x C.b dL_refuses_467 (lv_at hl 6 rfl) ?_
  refine lv_iconst (v := (nI 0)) C.x C.b dL_refuses_469 (by decide) ?_
  refine lv_iconst (v := (nI 0)) C.x C.b dL_refuses_470 (by decide) ?_
  refine lv_iconst (v := (nI 0)) C.x C.b dL_refuses_471 (by decide) ?_
  refine k_actI (As := [.ref h, .int (nI 6), .int (-1), .int (nI 0), .int (nI 0), .int (nI 0)]) (rest := []) (c2 := 136) (s2 := 1088) (v := (-7000001)) (m1 := m) C hX (act_6 hI.hd (-1) (nI 0) (nI 0) (nI 0) (iop_move hst hI (-1) (nI 0) (nI 0) (nI 0))) (e_move_o (mIn_lo (by decide))) (rfl) (gl_up inv_L_act) rfl hl.1 rfl (by decide) dL_refuses_472 ⟨Nat.le_of_ble_eq_true rfl, Nat.le_of_ble_eq_true rfl⟩ ⟨Nat.le_of_ble_eq_true rfl, Nat.le_of_ble_eq_true rfl⟩ rfl rfl (fun f H locs hX hI => ?_)
  refine lv_ldc2 (v := (-7000001)) C.x C.b C.ow (C.ts _ (List.mem_cons_of_mem _ lkC_111)) dL_refuses_475 ?_
  refine k_lcmp_ne (tgt := 607) C.x C.b dL_refuses_478 dL_refuses_479 (by decide) (fun q9 => absurd (by decide) q9) (fun _ => ?_)
  refine lv_aload_n C.x C.b dL_refuses_482 rfl (lv_at hl 16 rfl) ?_
  refine lv_bipush (v := (nI 7)) C.x C.b dL_refuses_483 (by decide) ?_
  refine lv_iload C.x C.b dL_refuses_485 (lv_at hl 6 rfl) ?_
  refine lv_iconst (v := (nI 0)) C.x C.b dL_refuses_487 (by decide) ?_
  refine lv_iconst (v := (nI 0)) C.x C.b dL_refuses_488 (by decide) ?_
  refine lv_iconst (v := (nI 0)) C.x C.b dL_refuses_489 (by decide) ?_
  refine k_actI (As := [.ref h, .int (nI 7), .int (-1), .int (nI 0), .int (nI 0), .int (nI 0)]) (rest := []) (c2 := 144) (s2 := 1152) (v := (-7000001)) (m1 := m) C hX (act_7 hI.hd (-1) (nI 0) (nI 0) (nI 0) (iop_lie hst hI (-1) (nI 0))) (e_lie_o (fun z => absurd z.1 (mIn_lo (by decide)))) (rfl) (gl_up inv_L_act) rfl hl.1 rfl (by decide) dL_refuses_490 ⟨Nat.le_of_ble_eq_true rfl, Nat.le_of_ble_eq_true rfl⟩ ⟨Nat.le_of_ble_eq_true rfl, Nat.le_of_ble_eq_true rfl⟩ rfl rfl (fun f H locs hX hI => ?_)
  refine lv_ldc2 (v := (-7000001)) C.x C.b C.ow (C.ts _ (List.mem_cons_of_mem _ lkC_111)) dL_refuses_493 ?_
  refine k_lcmp_ne (tgt := 607) C.x C.b dL_refuses_496 dL_refuses_497 (by decide) (fun q9 => absurd (by decide) q9) (fun _ => ?_)
  refine lv_aload_n C.x C.b dL_refuses_500 rfl (lv_at hl 16 rfl) ?_
  refine lv_bipush (v := (nI 7)) C.x C.b dL_refuses_501 (by decide) ?_
  refine lv_iconst (v := (nI 0)) C.x C.b dL_refuses_503 (by decide) ?_
  refine lv_iload C.x C.b dL_refuses_504 (lv_at hl 6 rfl) ?_
  refine lv_iconst (v := (nI 0)) C.x C.b dL_refuses_506 (by decide) ?_
  refine lv_iconst (v := (nI 0)) C.x C.b dL_refuses_507 (by decide) ?_
  refine k_actI (As := [.ref h, .int (nI 7), .int (nI 0), .int (-1), .int (nI 0), .int (nI 0)]) (rest := []) (c2 := 152) (s2 := 1216) (v := (-7000001)) (m1 := m) C hX (act_7 hI.hd (nI 0) (-1) (nI 0) (nI 0) (iop_lie hst hI (nI 0) (-1))) (e_lie_o (fun z => absurd z.2 (mIn_lo (by decide)))) (rfl) (gl_up inv_L_act) rfl hl.1 rfl (by decide) dL_refuses_508 ⟨Nat.le_of_ble_eq_true rfl, Nat.le_of_ble_eq_true rfl⟩ ⟨Nat.le_of_ble_eq_true rfl, Nat.le_of_ble_eq_true rfl⟩ rfl rfl (fun f H locs hX hI => ?_)
  refine lv_ldc2 (v := (-7000001)) C.x C.b C.ow (C.ts _ (List.mem_cons_of_mem _ lkC_111)) dL_refuses_511 ?_
  refine k_lcmp_ne (tgt := 607) C.x C.b dL_refuses_514 dL_refuses_515 (by decide) (fun q9 => absurd (by decide) q9) (fun _ => ?_)
  refine lv_aload_n C.x C.b dL_refuses_518 rfl (lv_at hl 16 rfl) ?_
  refine lv_bipush (v := (nI 8)) C.x C.b dL_refuses_519 (by decide) ?_
  refine lv_iload C.x C.b dL_refuses_521 (lv_at hl 10 rfl) ?_
  refine lv_iconst (v := (nI 1)) C.x C.b dL_refuses_523 (by decide) ?_
  refine lv_icmp_ne (tgt := 531) C.x C.b dL_refuses_524 (by decide) (fun _ => ?_) (fun q9 => absurd q9 (by decide))
  refine lv_iload C.x C.b dL_refuses_531 (lv_at hl 9 rfl) ?_
  refine lv_iconst (v := (nI 0)) C.x C.b dL_refuses_533 (by decide) ?_
  refine lv_iconst (v := (nI 0)) C.x C.b dL_refuses_534 (by decide) ?_
  refine lv_iconst (v := (nI 0)) C.x C.b dL_refuses_535 (by decide) ?_
  refine k_actI (As := [.ref h, .int (nI 8), .int (-1), .int (nI 0), .int (nI 0), .int (nI 0)]) (rest := []) (c2 := 160) (s2 := 1280) (v := (-7000002)) (m1 := m) C hX (act_8 hI.hd (-1) (nI 0) (nI 0) (nI 0) (iop_pairs hst hI (-1))) (e_pairs_a (by decide +kernel)) (rfl) (gl_up inv_L_act) rfl hl.1 rfl (by decide) dL_refuses_536 ⟨Nat.le_of_ble_eq_true rfl, Nat.le_of_ble_eq_true rfl⟩ ⟨Nat.le_of_ble_eq_true rfl, Nat.le_of_ble_eq_true rfl⟩ rfl rfl (fun f H locs hX hI => ?_)
  refine lv_ldc2 (v := (-7000002)) C.x C.b C.ow (C.ts _ (List.mem_cons_of_mem _ lkC_6)) dL_refuses_539 ?_
  refine k_lcmp_ne (tgt := 607) C.x C.b dL_refuses_542 dL_refuses_543 (by decide) (fun q9 => absurd (by decide) q9) (fun _ => ?_)
  refine lv_aload_n C.x C.b dL_refuses_546 rfl (lv_at hl 16 rfl) ?_
  refine lv_bipush (v := (nI 9)) C.x C.b dL_refuses_547 (by decide) ?_
  refine lv_iload C.x C.b dL_refuses_549 (lv_at hl 1 rfl) ?_
  refine lv_iconst (v := (nI 0)) C.x C.b dL_refuses_551 (by decide) ?_
  refine lv_iconst (v := (nI 0)) C.x C.b dL_refuses_552 (by decide) ?_
  refine lv_iconst (v := (nI 0)) C.x C.b dL_refuses_553 (by decide) ?_
  refine k_actI (As := [.ref h, .int (nI 9), .int (-1000001), .int (nI 0), .int (nI 0), .int (nI 0)]) (rest := []) (c2 := 168) (s2 := 1344) (v := (-7000002)) (m1 := m) C hX (act_9 hI.hd (-1000001) (nI 0) (nI 0) (nI 0) (iop_gasket hst hI (-1000001) (nI 0) (nI 0) (nI 0))) (e_gasket_a (by decide +kernel)) (rfl) (gl_up inv_L_act) rfl hl.1 rfl (by decide) dL_refuses_554 ⟨Nat.le_of_ble_eq_true rfl, Nat.le_of_ble_eq_true rfl⟩ ⟨Nat.le_of_ble_eq_true rfl, Nat.le_of_ble_eq_true rfl⟩ rfl rfl (fun f H locs hX hI => ?_)
  refine lv_ldc2 (v := (-7000002)) C.x C.b C.ow (C.ts _ (List.mem_cons_of_mem _ lkC_6)) dL_refuses_557 ?_
  refine k_lcmp_ne (tgt := 607) C.x C.b dL_refuses_560 dL_refuses_561 (by decide) (fun q9 => absurd (by decide) q9) (fun _ => ?_)
  refine lv_aload_n C.x C.b dL_refuses_564 rfl (lv_at hl 16 rfl) ?_
  refine lv_bipush (v := (nI 9)) C.x C.b dL_refuses_565 (by decide) ?_
  refine lv_iconst (v := (nI 2)) C.x C.b dL_refuses_567 (by decide) ?_
  refine lv_iconst (v := (nI 2)) C.x C.b dL_refuses_568 (by decide) ?_
  refine lv_iconst (v := (nI 3)) C.x C.b dL_refuses_569 (by decide) ?_
  refine lv_iload C.x C.b dL_refuses_570 (lv_at hl 1 rfl) ?_
  refine k_actI (As := [.ref h, .int (nI 9), .int (nI 2), .int (nI 2), .int (nI 3), .int (-1000001)]) (rest := []) (c2 := 176) (s2 := 1408) (v := (-7000002)) (m1 := m) C hX (act_9 hI.hd (nI 2) (nI 2) (nI 3) (-1000001) (iop_gasket hst hI (nI 2) (nI 2) (nI 3) (-1000001))) (e_gasket_a (by decide +kernel)) (rfl) (gl_up inv_L_act) rfl hl.1 rfl (by decide) dL_refuses_572 ⟨Nat.le_of_ble_eq_true rfl, Nat.le_of_ble_eq_true rfl⟩ ⟨Nat.le_of_ble_eq_true rfl, Nat.le_of_ble_eq_true rfl⟩ rfl rfl (fun f H locs hX hI => ?_)
  refine lv_ldc2 (v := (-7000002)) C.x C.b C.ow (C.ts _ (List.mem_cons_of_mem _ lkC_6)) dL_refuses_575 ?_
  refine k_lcmp_ne (tgt := 607) C.x C.b dL_refuses_578 dL_refuses_579 (by decide) (fun q9 => absurd (by decide) q9) (fun _ => ?_)
  refine lv_aload_n C.x C.b dL_refuses_582 rfl (lv_at hl 16 rfl) ?_
  refine lv_bipush (v := (nI 9)) C.x C.b dL_refuses_583 (by decide) ?_
  refine lv_iconst (v := (nI 1)) C.x C.b dL_refuses_585 (by decide) ?_
  refine lv_iload C.x C.b dL_refuses_586 (lv_at hl 10 rfl) ?_
  refine lv_iconst (v := (nI 1)) C.x C.b dL_refuses_588 (by decide) ?_
  refine lv_iconst (v := (nI 1)) C.x C.b dL_refuses_589 (by decide) ?_
  refine lv_iload C.x C.b dL_refuses_590 (lv_at hl 10 rfl) ?_
  refine lv_isub C.x C.b dL_refuses_592 ?_
  refine k_topi (y := (nI 1)) (by decide) ?_
  refine k_actI (As := [.ref h, .int (nI 9), .int (nI 1), .int (nI 0), .int (nI 1), .int (nI 1)]) (rest := []) (c2 := 184) (s2 := 1472) (v := (-7000002)) (m1 := m) C hX (act_9 hI.hd (nI 1) (nI 0) (nI 1) (nI 1) (iop_gasket hst hI (nI 1) (nI 0) (nI 1) (nI 1))) (e_gasket_a (by decide +kernel)) (rfl) (gl_up inv_L_act) rfl hl.1 rfl (by decide) dL_refuses_593 ⟨Nat.le_of_ble_eq_true rfl, Nat.le_of_ble_eq_true rfl⟩ ⟨Nat.le_of_ble_eq_true rfl, Nat.le_of_ble_eq_true rfl⟩ rfl rfl (fun f H locs hX hI => ?_)
  refine lv_ldc2 (v := (-7000002)) C.x C.b C.ow (C.ts _ (List.mem_cons_of_mem _ lkC_6)) dL_refuses_596 ?_
  refine k_lcmp_ne (tgt := 607) C.x C.b dL_refuses_599 dL_refuses_600 (by decide) (fun q9 => absurd (by decide) q9) (fun _ => ?_)
  refine lv_iconst (v := (nI 1)) C.x C.b dL_refuses_603 (by decide) ?_
  refine lv_goto (tgt := 608) C.x C.b dL_refuses_604 (by decide) ?_
  refine lv_istore (lv' := [(22, .int (nI 1)), (21, .int (-2147483648)), (20, .int (-1000001)), (19, .int (-1000000001)), (18, .int (-1)), (17, .int (-1)), (16, .int (-1)), (15, .int (-1)), (14, .int (-1)), (13, .int (-1)), (12, .int (-1)), (11, .int (nI 0)), (10, .int ((m.pr 0).toInt32)), (9, .int (nI (mTrees m.ea m.eb m.nc m.nw))), (8, .int (nI m.fc)), (7, .int (nI m.cc)), (6, .int (nI 2147483647)), (0, .ref h), (1, .int (nI m.nd)), (2, .int (nI m.ng)), (3, .int (nI m.nm)), (4, .int (nI m.nc)), (5, .int (nI m.nw))]) C.x C.b dL_refuses_608 hl (by decide) rfl (fun ls hl => ?_)
  refine lv_bipush (v := (nI 10)) C.x C.b dL_refuses_610 (by decide) ?_
  refine lv_istore (lv' := [(23, .int (nI 10)), (22, .int (nI 1)), (21, .int (-2147483648)), (20, .int (-1000001)), (19, .int (-1000000001)), (18, .int (-1)), (17, .int (-1)), (16, .int (-1)), (15, .int (-1)), (14, .int (-1)), (13, .int (-1)), (12, .int (-1)), (11, .int (nI 0)), (10, .int ((m.pr 0).toInt32)), (9, .int (nI (mTrees m.ea m.eb m.nc m.nw))), (8, .int (nI m.fc)), (7, .int (nI m.cc)), (6, .int (nI 2147483647)), (0, .ref h), (1, .int (nI m.nd)), (2, .int (nI m.ng)), (3, .int (nI m.nm)), (4, .int (nI m.nc)), (5, .int (nI m.nw))]) C.x C.b dL_refuses_612 hl (by decide) rfl (fun ls hl => ?_)
  refine lv_iload C.x C.b dL_refuses_614 (lv_at hl 0 rfl) ?_
  refine lv_bipush (v := (nI 14)) C.x C.b dL_refuses_616 (by decide) ?_
  refine lv_icmp_ge (tgt := 675) C.x C.b dL_refuses_618 (by decide) (fun q9 => absurd q9 (by decide)) (fun _ => ?_)
  refine lv_iload C.x C.b dL_refuses_621 (lv_at hl 1 rfl) ?_
  refine lv_if_eq (tgt := 666) C.x C.b dL_refuses_623 (by decide) (fun q9 => absurd q9 (by decide)) (fun _ => ?_)
  refine lv_aload_n C.x C.b dL_refuses_626 rfl (lv_at hl 18 rfl) ?_
  refine lv_iload C.x C.b dL_refuses_627 (lv_at hl 0 rfl) ?_
  refine lv_iload C.x C.b dL_refuses_629 (lv_at hl 7 rfl) ?_
  refine lv_iconst (v := (nI 0)) C.x C.b dL_refuses_631 (by decide) ?_
  refine lv_iconst (v := (nI 0)) C.x C.b dL_refuses_632 (by decide) ?_
  refine lv_iconst (v := (nI 0)) C.x C.b dL_refuses_633 (by decide) ?_
  refine k_actJ (As := [.ref h, .int (nI 10), .int (-1), .int (nI 0), .int (nI 0), .int (nI 0)]) (rest := []) (c2 := 192) (s2 := 1536) (v := (-7000001)) (m1 := m) C hX (act_10 hI.hd (-1) (nI 0) (nI 0) (nI 0) (iop_turn hst hI (-1) (nI 0))) (e_turn_o (fun z => absurd z.1 (mIn_lo (by decide)))) (rfl) (gl_up inv_L_act) rfl hl.1 rfl (by decide) dL_refuses_634 ⟨Nat.le_of_ble_eq_true rfl, Nat.le_of_ble_eq_true rfl⟩ ⟨Nat.le_of_ble_eq_true rfl, Nat.le_of_ble_eq_true rfl⟩ rfl rfl (fun f H locs hX hI => ?_)
  refine lv_ldc2 (v := (-7000001)) C.x C.b C.ow (C.ts _ (List.mem_cons_of_mem _ lkC_111)) dL_refuses_637 ?_
  refine k_lcmp_ne (tgt := 666) C.x C.b dL_refuses_640 dL_refuses_641 (by decide) (fun q9 => absurd (by decide) q9) (fun _ => ?_)
  refine lv_aload_n C.x C.b dL_refuses_644 rfl (lv_at hl 18 rfl) ?_
  refine lv_iload C.x C.b dL_refuses_645 (lv_at hl 0 rfl) ?_
  refine lv_iconst (v := (nI 0)) C.x C.b dL_refuses_647 (by decide) ?_
  refine lv_iload C.x C.b dL_refuses_648 (lv_at hl 6 rfl) ?_
  refine lv_iconst (v := (nI 0)) C.x C.b dL_refuses_650 (by decide) ?_
  refine lv_iconst (v := (nI 0)) C.x C.b dL_refuses_651 (by decide) ?_
  refine k_actJ (As := [.ref h, .int (nI 10), .int (nI 0), .int (-1), .int (nI 0), .int (nI 0)]) (rest := []) (c2 := 200) (s2 := 1600) (v := (-7000001)) (m1 := m) C hX (act_10 hI.hd (nI 0) (-1) (nI 0) (nI 0) (iop_turn hst hI (nI 0) (-1))) (e_turn_o (fun z => absurd z.2 (by decide +kernel))) (rfl) (gl_up inv_L_act) rfl hl.1 rfl (by decide) dL_refuses_652 ⟨Nat.le_of_ble_eq_true rfl, Nat.le_of_ble_eq_true rfl⟩ ⟨Nat.le_of_ble_eq_true rfl, Nat.le_of_ble_eq_true rfl⟩ rfl rfl (fun f H locs hX hI => ?_)
  refine lv_ldc2 (v := (-7000001)) C.x C.b C.ow (C.ts _ (List.mem_cons_of_mem _ lkC_111)) dL_refuses_655 ?_
  refine k_lcmp_ne (tgt := 666) C.x C.b dL_refuses_658 dL_refuses_659 (by decide) (fun q9 => absurd (by decide) q9) (fun _ => ?_)
  refine lv_iconst (v := (nI 1)) C.x C.b dL_refuses_662 (by decide) ?_
  refine lv_goto (tgt := 667) C.x C.b dL_refuses_663 (by decide) ?_
  refine lv_istore (lv' := [(22, .int (nI 1)), (23, .int (nI 10)), (21, .int (-2147483648)), (20, .int (-1000001)), (19, .int (-1000000001)), (18, .int (-1)), (17, .int (-1)), (16, .int (-1)), (15, .int (-1)), (14, .int (-1)), (13, .int (-1)), (12, .int (-1)), (11, .int (nI 0)), (10, .int ((m.pr 0).toInt32)), (9, .int (nI (mTrees m.ea m.eb m.nc m.nw))), (8, .int (nI m.fc)), (7, .int (nI m.cc)), (6, .int (nI 2147483647)), (0, .ref h), (1, .int (nI m.nd)), (2, .int (nI m.ng)), (3, .int (nI m.nm)), (4, .int (nI m.nc)), (5, .int (nI m.nw))]) C.x C.b dL_refuses_667 hl (by decide) rfl (fun ls hl => ?_)
  refine lv_iinc (v := (nI 11)) (lv' := [(23, .int (nI 11)), (22, .int (nI 1)), (21, .int (-2147483648)), (20, .int (-1000001)), (19, .int (-1000000001)), (18, .int (-1)), (17, .int (-1)), (16, .int (-1)), (15, .int (-1)), (14, .int (-1)), (13, .int (-1)), (12, .int (-1)), (11, .int (nI 0)), (10, .int ((m.pr 0).toInt32)), (9, .int (nI (mTrees m.ea m.eb m.nc m.nw))), (8, .int (nI m.fc)), (7, .int (nI m.cc)), (6, .int (nI 2147483647)), (0, .ref h), (1, .int (nI m.nd)), (2, .int (nI m.ng)), (3, .int (nI m.nm)), (4, .int (nI m.nc)), (5, .int (nI m.nw))]) C.x C.b dL_refuses_669 hl (k := 1) rfl (by decide) (by decide) rfl (fun ls hl => ?_)
  refine lv_goto (tgt := 614) C.x C.b dL_refuses_672 (by decide) ?_
  refine lv_iload C.x C.b dL_refuses_614 (lv_at hl 0 rfl) ?_
  refine lv_bipush (v := (nI 14)) C.x C.b dL_refuses_616 (by decide) ?_
  refine lv_icmp_ge (tgt := 675) C.x C.b dL_refuses_618 (by decide) (fun q9 => absurd q9 (by decide)) (fun _ => ?_)
  refine lv_iload C.x C.b dL_refuses_621 (lv_at hl 1 rfl) ?_
  refine lv_if_eq (tgt := 666) C.x C.b dL_refuses_623 (by decide) (fun q9 => absurd q9 (by decide)) (fun _ => ?_)
  refine lv_aload_n C.x C.b dL_refuses_626 rfl (lv_at hl 18 rfl) ?_
  refine lv_iload C.x C.b dL_refuses_627 (lv_at hl 0 rfl) ?_
  refine lv_iload C.x C.b dL_refuses_629 (lv_at hl 7 rfl) ?_
  refine lv_iconst (v := (nI 0)) C.x C.b dL_refuses_631 (by decide) ?_
  refine lv_iconst (v := (nI 0)) C.x C.b dL_refuses_632 (by decide) ?_
  refine lv_iconst (v := (nI 0)) C.x C.b dL_refuses_633 (by decide) ?_
  refine k_actJ (As := [.ref h, .int (nI 11), .int (-1), .int (nI 0), .int (nI 0), .int (nI 0)]) (rest := []) (c2 := 208) (s2 := 1664) (v := (-7000001)) (m1 := m) C hX (act_11 hI.hd (-1) (nI 0) (nI 0) (nI 0) (iop_curvature hst hI (-1) (nI 0))) (e_curvature_o (fun z => absurd z.1 (mIn_lo (by decide)))) (rfl) (gl_up inv_L_act) rfl hl.1 rfl (by decide) dL_refuses_634 ⟨Nat.le_of_ble_eq_true rfl, Nat.le_of_ble_eq_true rfl⟩ ⟨Nat.le_of_ble_eq_true rfl, Nat.le_of_ble_eq_true rfl⟩ rfl rfl (fun f H locs hX hI => ?_)
  refine lv_ldc2 (v := (-7000001)) C.x C.b C.ow (C.ts _ (List.mem_cons_of_mem _ lkC_111)) dL_refuses_637 ?_
  refine k_lcmp_ne (tgt := 666) C.x C.b dL_refuses_640 dL_refuses_641 (by decide) (fun q9 => absurd (by decide) q9) (fun _ => ?_)
  refine lv_aload_n C.x C.b dL_refuses_644 rfl (lv_at hl 18 rfl) ?_
  refine lv_iload C.x C.b dL_refuses_645 (lv_at hl 0 rfl) ?_
  refine lv_iconst (v := (nI 0)) C.x C.b dL_refuses_647 (by decide) ?_
  refine lv_iload C.x C.b dL_refuses_648 (lv_at hl 6 rfl) ?_
  refine lv_iconst (v := (nI 0)) C.x C.b dL_refuses_650 (by decide) ?_
  refine lv_iconst (v := (nI 0)) C.x C.b dL_refuses_651 (by decide) ?_
  refine k_actJ (As := [.ref h, .int (nI 11), .int (nI 0), .int (-1), .int (nI 0), .int (nI 0)]) (rest := []) (c2 := 216) (s2 := 1728) (v := (-7000001)) (m1 := m) C hX (act_11 hI.hd (nI 0) (-1) (nI 0) (nI 0) (iop_curvature hst hI (nI 0) (-1))) (e_curvature_o (fun z => absurd z.2 (by decide +kernel))) (rfl) (gl_up inv_L_act) rfl hl.1 rfl (by decide) dL_refuses_652 ⟨Nat.le_of_ble_eq_true rfl, Nat.le_of_ble_eq_true rfl⟩ ⟨Nat.le_of_ble_eq_true rfl, Nat.le_of_ble_eq_true rfl⟩ rfl rfl (fun f H locs hX hI => ?_)
  refine lv_ldc2 (v := (-7000001)) C.x C.b C.ow (C.ts _ (List.mem_cons_of_mem _ lkC_111)) dL_refuses_655 ?_
  refine k_lcmp_ne (tgt := 666) C.x C.b dL_refuses_658 dL_refuses_659 (by decide) (fun q9 => absurd (by decide) q9) (fun _ => ?_)
  refine lv_iconst (v := (nI 1)) C.x C.b dL_refuses_662 (by decide) ?_
  refine lv_goto (tgt := 667) C.x C.b dL_refuses_663 (by decide) ?_
  refine lv_istore (lv' := [(22, .int (nI 1)), (23, .int (nI 11)), (21, .int (-2147483648)), (20, .int (-1000001)), (19, .int (-1000000001)), (18, .int (-1)), (17, .int (-1)), (16, .int (-1)), (15, .int (-1)), (14, .int (-1)), (13, .int (-1)), (12, .int (-1)), (11, .int (nI 0)), (10, .int ((m.pr 0).toInt32)), (9, .int (nI (mTrees m.ea m.eb m.nc m.nw))), (8, .int (nI m.fc)), (7, .int (nI m.cc)), (6, .int (nI 2147483647)), (0, .ref h), (1, .int (nI m.nd)), (2, .int (nI m.ng)), (3, .int (nI m.nm)), (4, .int (nI m.nc)), (5, .int (nI m.nw))]) C.x C.b dL_refuses_667 hl (by decide) rfl (fun ls hl => ?_)
  refine lv_iinc (v := (nI 12)) (lv' := [(23, .int (nI 12)), (22, .int (nI 1)), (21, .int (-2147483648)), (20, .int (-1000001)), (19, .int (-1000000001)), (18, .int (-1)), (17, .int (-1)), (16, .int (-1)), (15, .int (-1)), (14, .int (-1)), (13, .int (-1)), (12, .int (-1)), (11, .int (nI 0)), (10, .int ((m.pr 0).toInt32)), (9, .int (nI (mTrees m.ea m.eb m.nc m.nw))), (8, .int (nI m.fc)), (7, .int (nI m.cc)), (6, .int (nI 2147483647)), (0, .ref h), (1, .int (nI m.nd)), (2, .int (nI m.ng)), (3, .int (nI m.nm)), (4, .int (nI m.nc)), (5, .int (nI m.nw))]) C.x C.b dL_refuses_669 hl (k := 1) rfl (by decide) (by decide) rfl (fun ls hl => ?_)
  refine lv_goto (tgt := 614) C.x C.b dL_refuses_672 (by decide) ?_
  refine lv_iload C.x C.b dL_refuses_614 (lv_at hl 0 rfl) ?_
  refine lv_bipush (v := (nI 14)) C.x C.b dL_refuses_616 (by decide) ?_
  refine lv_icmp_ge (tgt := 675) C.x C.b dL_refuses_618 (by decide) (fun q9 => absurd q9 (by decide)) (fun _ => ?_)
  refine lv_iload C.x C.b dL_refuses_621 (lv_at hl 1 rfl) ?_
  refine lv_if_eq (tgt := 666) C.x C.b dL_refuses_623 (by decide) (fun q9 => absurd q9 (by decide)) (fun _ => ?_)
  refine lv_aload_n C.x C.b dL_refuses_626 rfl (lv_at hl 18 rfl) ?_
  refine lv_iload C.x C.b dL_refuses_627 (lv_at hl 0 rfl) ?_
  refine lv_iload C.x C.b dL_refuses_629 (lv_at hl 7 rfl) ?_
  refine lv_iconst (v := (nI 0)) C.x C.b dL_refuses_631 (by decide) ?_
  refine lv_iconst (v := (nI 0)) C.x C.b dL_refuses_632 (by decide) ?_
  refine lv_iconst (v := (nI 0)) C.x C.b dL_refuses_633 (by decide) ?_
  refine k_actF (As := [.ref h, .int (nI 12), .int (-1), .int (nI 0), .int (nI 0), .int (nI 0)]) (rest := []) (c2 := 224) (s2 := 1792) (v := (-7000001)) (m1 := m) C hX (act_12 hI.hd (-1) (nI 0) (nI 0) (nI 0) ((iop_radius hst hI (-1) (nI 0)).2 ((fun z => absurd z.1 (mIn_lo (by decide)))))) (rfl) (rfl) (gl_up inv_L_act) rfl hl.1 rfl (by decide) dL_refuses_634 ⟨Nat.le_of_ble_eq_true rfl, Nat.le_of_ble_eq_true rfl⟩ ⟨Nat.le_of_ble_eq_true rfl, Nat.le_of_ble_eq_true rfl⟩ rfl rfl (fun f H locs hX hI => ?_)
  refine lv_ldc2 (v := (-7000001)) C.x C.b C.ow (C.ts _ (List.mem_cons_of_mem _ lkC_111)) dL_refuses_637 ?_
  refine k_lcmp_ne (tgt := 666) C.x C.b dL_refuses_640 dL_refuses_641 (by decide) (fun q9 => absurd (by decide) q9) (fun _ => ?_)
  refine lv_aload_n C.x C.b dL_refuses_644 rfl (lv_at hl 18 rfl) ?_
  refine lv_iload C.x C.b dL_refuses_645 (lv_at hl 0 rfl) ?_
  refine lv_iconst (v := (nI 0)) C.x C.b dL_refuses_647 (by decide) ?_
  refine lv_iload C.x C.b dL_refuses_648 (lv_at hl 6 rfl) ?_
  refine lv_iconst (v := (nI 0)) C.x C.b dL_refuses_650 (by decide) ?_
  refine lv_iconst (v := (nI 0)) C.x C.b dL_refuses_651 (by decide) ?_
  refine k_actF (As := [.ref h, .int (nI 12), .int (nI 0), .int (-1), .int (nI 0), .int (nI 0)]) (rest := []) (c2 := 232) (s2 := 1856) (v := (-7000001)) (m1 := m) C hX (act_12 hI.hd (nI 0) (-1) (nI 0) (nI 0) ((iop_radius hst hI (nI 0) (-1)).2 ((fun z => absurd z.2 (by decide +kernel))))) (rfl) (rfl) (gl_up inv_L_act) rfl hl.1 rfl (by decide) dL_refuses_652 ⟨Nat.le_of_ble_eq_true rfl, Nat.le_of_ble_eq_true rfl⟩ ⟨Nat.le_of_ble_eq_true rfl, Nat.le_of_ble_eq_true rfl⟩ rfl rfl (fun f H locs hX hI => ?_)
  refine lv_ldc2 (v := (-7000001)) C.x C.b C.ow (C.ts _ (List.mem_cons_of_mem _ lkC_111)) dL_refuses_655 ?_
  refine k_lcmp_ne (tgt := 666) C.x C.b dL_refuses_658 dL_refuses_659 (by decide) (fun q9 => absurd (by decide) q9) (fun _ => ?_)
  refine lv_iconst (v := (nI 1)) C.x C.b dL_refuses_662 (by decide) ?_
  refine lv_goto (tgt := 667) C.x C.b dL_refuses_663 (by decide) ?_
  refine lv_istore (lv' := [(22, .int (nI 1)), (23, .int (nI 12)), (21, .int (-2147483648)), (20, .int (-1000001)), (19, .int (-1000000001)), (18, .int (-1)), (17, .int (-1)), (16, .int (-1)), (15, .int (-1)), (14, .int (-1)), (13, .int (-1)), (12, .int (-1)), (11, .int (nI 0)), (10, .int ((m.pr 0).toInt32)), (9, .int (nI (mTrees m.ea m.eb m.nc m.nw))), (8, .int (nI m.fc)), (7, .int (nI m.cc)), (6, .int (nI 2147483647)), (0, .ref h), (1, .int (nI m.nd)), (2, .int (nI m.ng)), (3, .int (nI m.nm)), (4, .int (nI m.nc)), (5, .int (nI m.nw))]) C.x C.b dL_refuses_667 hl (by decide) rfl (fun ls hl => ?_)
  refine lv_iinc (v := (nI 13)) (lv' := [(23, .int (nI 13)), (22, .int (nI 1)), (21, .int (-2147483648)), (20, .int (-1000001)), (19, .int (-1000000001)), (18, .int (-1)), (17, .int (-1)), (16, .int (-1)), (15, .int (-1)), (14, .int (-1)), (13, .int (-1)), (12, .int (-1)), (11, .int (nI 0)), (10, .int ((m.pr 0).toInt32)), (9, .int (nI (mTrees m.ea m.eb m.nc m.nw))), (8, .int (nI m.fc)), (7, .int (nI m.cc)), (6, .int (nI 2147483647)), (0, .ref h), (1, .int (nI m.nd)), (2, .int (nI m.ng)), (3, .int (nI m.nm)), (4, .int (nI m.nc)), (5, .int (nI m.nw))]) C.x C.b dL_refuses_669 hl (k := 1) rfl (by decide) (by decide) rfl (fun ls hl => ?_)
  refine lv_goto (tgt := 614) C.x C.b dL_refuses_672 (by decide) ?_
  refine lv_iload C.x C.b dL_refuses_614 (lv_at hl 0 rfl) ?_
  refine lv_bipush (v := (nI 14)) C.x C.b dL_refuses_616 (by decide) ?_
  refine lv_icmp_ge (tgt := 675) C.x C.b dL_refuses_618 (by decide) (fun q9 => absurd q9 (by decide)) (fun _ => ?_)
  refine lv_iload C.x C.b dL_refuses_621 (lv_at hl 1 rfl) ?_
  refine lv_if_eq (tgt := 666) C.x C.b dL_refuses_623 (by decide) (fun q9 => absurd q9 (by decide)) (fun _ => ?_)
  refine lv_aload_n C.x C.b dL_refuses_626 rfl (lv_at hl 18 rfl) ?_
  refine lv_iload C.x C.b dL_refuses_627 (lv_at hl 0 rfl) ?_
  refine lv_iload C.x C.b dL_refuses_629 (lv_at hl 7 rfl) ?_
  refine lv_iconst (v := (nI 0)) C.x C.b dL_refuses_631 (by decide) ?_
  refine lv_iconst (v := (nI 0)) C.x C.b dL_refuses_632 (by decide) ?_
  refine lv_iconst (v := (nI 0)) C.x C.b dL_refuses_633 (by decide) ?_
  refine k_actJ (As := [.ref h, .int (nI 13), .int (-1), .int (nI 0), .int (nI 0), .int (nI 0)]) (rest := []) (c2 := 240) (s2 := 1920) (v := (-7000001)) (m1 := m) C hX (act_13 hI.hd (-1) (nI 0) (nI 0) (nI 0) (iop_root hst hI (-1) (nI 0))) (e_root_o (fun z => absurd z.1 (mIn_lo (by decide)))) (rfl) (gl_up inv_L_act) rfl hl.1 rfl (by decide) dL_refuses_634 ⟨Nat.le_of_ble_eq_true rfl, Nat.le_of_ble_eq_true rfl⟩ ⟨Nat.le_of_ble_eq_true rfl, Nat.le_of_ble_eq_true rfl⟩ rfl rfl (fun f H locs hX hI => ?_)
  refine lv_ldc2 (v := (-7000001)) C.x C.b C.ow (C.ts _ (List.mem_cons_of_mem _ lkC_111)) dL_refuses_637 ?_
  refine k_lcmp_ne (tgt := 666) C.x C.b dL_refuses_640 dL_refuses_641 (by decide) (fun q9 => absurd (by decide) q9) (fun _ => ?_)
  refine lv_aload_n C.x C.b dL_refuses_644 rfl (lv_at hl 18 rfl) ?_
  refine lv_iload C.x C.b dL_refuses_645 (lv_at hl 0 rfl) ?_
  refine lv_iconst (v := (nI 0)) C.x C.b dL_refuses_647 (by decide) ?_
  refine lv_iload C.x C.b dL_refuses_648 (lv_at hl 6 rfl) ?_
  refine lv_iconst (v := (nI 0)) C.x C.b dL_refuses_650 (by decide) ?_
  refine lv_iconst (v := (nI 0)) C.x C.b dL_refuses_651 (by decide) ?_
  refine k_actJ (As := [.ref h, .int (nI 13), .int (nI 0), .int (-1), .int (nI 0), .int (nI 0)]) (rest := []) (c2 := 248) (s2 := 1984) (v := (-7000001)) (m1 := m) C hX (act_13 hI.hd (nI 0) (-1) (nI 0) (nI 0) (iop_root hst hI (nI 0) (-1))) (e_root_o (fun z => absurd z.2 (by decide +kernel))) (rfl) (gl_up inv_L_act) rfl hl.1 rfl (by decide) dL_refuses_652 ⟨Nat.le_of_ble_eq_true rfl, Nat.le_of_ble_eq_true rfl⟩ ⟨Nat.le_of_ble_eq_true rfl, Nat.le_of_ble_eq_true rfl⟩ rfl rfl (fun f H locs hX hI => ?_)
  refine lv_ldc2 (v := (-7000001)) C.x C.b C.ow (C.ts _ (List.mem_cons_of_mem _ lkC_111)) dL_refuses_655 ?_
  refine k_lcmp_ne (tgt := 666) C.x C.b dL_refuses_658 dL_refuses_659 (by decide) (fun q9 => absurd (by decide) q9) (fun _ => ?_)
  refine lv_iconst (v := (nI 1)) C.x C.b dL_refuses_662 (by decide) ?_
  refine lv_goto (tgt := 667) C.x C.b dL_refuses_663 (by decide) ?_
  refine lv_istore (lv' := [(22, .int (nI 1)), (23, .int (nI 13)), (21, .int (-2147483648)), (20, .int (-1000001)), (19, .int (-1000000001)), (18, .int (-1)), (17, .int (-1)), (16, .int (-1)), (15, .int (-1)), (14, .int (-1)), (13, .int (-1)), (12, .int (-1)), (11, .int (nI 0)), (10, .int ((m.pr 0).toInt32)), (9, .int (nI (mTrees m.ea m.eb m.nc m.nw))), (8, .int (nI m.fc)), (7, .int (nI m.cc)), (6, .int (nI 2147483647)), (0, .ref h), (1, .int (nI m.nd)), (2, .int (nI m.ng)), (3, .int (nI m.nm)), (4, .int (nI m.nc)), (5, .int (nI m.nw))]) C.x C.b dL_refuses_667 hl (by decide) rfl (fun ls hl => ?_)
  refine lv_iinc (v := (nI 14)) (lv' := [(23, .int (nI 14)), (22, .int (nI 1)), (21, .int (-2147483648)), (20, .int (-1000001)), (19, .int (-1000000001)), (18, .int (-1)), (17, .int (-1)), (16, .int (-1)), (15, .int (-1)), (14, .int (-1)), (13, .int (-1)), (12, .int (-1)), (11, .int (nI 0)), (10, .int ((m.pr 0).toInt32)), (9, .int (nI (mTrees m.ea m.eb m.nc m.nw))), (8, .int (nI m.fc)), (7, .int (nI m.cc)), (6, .int (nI 2147483647)), (0, .ref h), (1, .int (nI m.nd)), (2, .int (nI m.ng)), (3, .int (nI m.nm)), (4, .int (nI m.nc)), (5, .int (nI m.nw))]) C.x C.b dL_refuses_669 hl (k := 1) rfl (by decide) (by decide) rfl (fun ls hl => ?_)
  refine lv_goto (tgt := 614) C.x C.b dL_refuses_672 (by decide) ?_
  refine lv_iload C.x C.b dL_refuses_614 (lv_at hl 0 rfl) ?_
  refine lv_bipush (v := (nI 14)) C.x C.b dL_refuses_616 (by decide) ?_
  refine lv_icmp_ge (tgt := 675) C.x C.b dL_refuses_618 (by decide) (fun _ => ?_) (fun q9 => absurd (by decide) q9)
  refine lv_bipush (v := (nI 14)) C.x C.b dL_refuses_675 (by decide) ?_
  refine lv_istore (lv' := [(23, .int (nI 14)), (22, .int (nI 1)), (21, .int (-2147483648)), (20, .int (-1000001)), (19, .int (-1000000001)), (18, .int (-1)), (17, .int (-1)), (16, .int (-1)), (15, .int (-1)), (14, .int (-1)), (13, .int (-1)), (12, .int (-1)), (11, .int (nI 0)), (10, .int ((m.pr 0).toInt32)), (9, .int (nI (mTrees m.ea m.eb m.nc m.nw))), (8, .int (nI m.fc)), (7, .int (nI m.cc)), (6, .int (nI 2147483647)), (0, .ref h), (1, .int (nI m.nd)), (2, .int (nI m.ng)), (3, .int (nI m.nm)), (4, .int (nI m.nc)), (5, .int (nI m.nw))]) C.x C.b dL_refuses_677 hl (by decide) rfl (fun ls hl => ?_)
  refine lv_iload C.x C.b dL_refuses_679 (lv_at hl 0 rfl) ?_
  refine lv_bipush (v := (nI 17)) C.x C.b dL_refuses_681 (by decide) ?_
  refine lv_icmp_ge (tgt := 765) C.x C.b dL_refuses_683 (by decide) (fun q9 => absurd q9 (by decide)) (fun _ => ?_)
  refine lv_iload C.x C.b dL_refuses_686 (lv_at hl 1 rfl) ?_
  refine lv_if_eq (tgt := 756) C.x C.b dL_refuses_688 (by decide) (fun q9 => absurd q9 (by decide)) (fun _ => ?_)
  refine lv_aload_n C.x C.b dL_refuses_691 rfl (lv_at hl 18 rfl) ?_
  refine lv_iload C.x C.b dL_refuses_692 (lv_at hl 0 rfl) ?_
  refine lv_iload C.x C.b dL_refuses_694 (lv_at hl 7 rfl) ?_
  refine lv_iconst (v := (nI 0)) C.x C.b dL_refuses_696 (by decide) ?_
  refine lv_iconst (v := (nI 0)) C.x C.b dL_refuses_697 (by decide) ?_
  refine lv_iconst (v := (nI 0)) C.x C.b dL_refuses_698 (by decide) ?_
  refine k_actI (As := [.ref h, .int (nI 14), .int (-1), .int (nI 0), .int (nI 0), .int (nI 0)]) (rest := []) (c2 := 256) (s2 := 2048) (v := (-7000001)) (m1 := m) C hX (act_14 hI.hd (-1) (nI 0) (nI 0) (nI 0) (iop_count hst hI (-1) (nI 0))) (e_count_o (mIn_lo (by decide))) (rfl) (gl_up inv_L_act) rfl hl.1 rfl (by decide) dL_refuses_699 ⟨Nat.le_of_ble_eq_true rfl, Nat.le_of_ble_eq_true rfl⟩ ⟨Nat.le_of_ble_eq_true rfl, Nat.le_of_ble_eq_true rfl⟩ rfl rfl (fun f H locs hX hI => ?_)
  refine lv_ldc2 (v := (-7000001)) C.x C.b C.ow (C.ts _ (List.mem_cons_of_mem _ lkC_111)) dL_refuses_702 ?_
  refine k_lcmp_ne (tgt := 756) C.x C.b dL_refuses_705 dL_refuses_706 (by decide) (fun q9 => absurd (by decide) q9) (fun _ => ?_)
  refine lv_iload_n C.x C.b dL_refuses_709 rfl (lv_at hl 20 rfl) ?_
  have J752_385 : ∀ (f : kH) (H : Heap) (locs : List Loc) (ls : Array Slot), kX G B0 s f H locs → Inv G h f m → lv_has ls 24 [(23, .int (nI 14)), (22, .int (nI 1)), (21, .int (-2147483648)), (20, .int (-1000001)), (19, .int (-1000000001)), (18, .int (-1)), (17, .int (-1)), (16, .int (-1)), (15, .int (-1)), (14, .int (-1)), (13, .int (-1)), (12, .int (-1)), (11, .int (nI 0)), (10, .int ((m.pr 0).toInt32)), (9, .int (nI (mTrees m.ea m.eb m.nc m.nw))), (8, .int (nI m.fc)), (7, .int (nI m.cc)), (6, .int (nI 2147483647)), (0, .ref h), (1, .int (nI m.nd)), (2, .int (nI m.ng)), (3, .int (nI m.nm)), (4, .int (nI m.nc)), (5, .int (nI m.nw))] → W p l e rmR s mi args below meth c H locs 288 2304 Q (F0 mi 752 ls []) := by
    intro f H locs ls hX hI hl
    refine lv_iconst (v := (nI 1)) C.x C.b dL_refuses_752 (by decide) ?_
    refine lv_goto (tgt := 757) C.x C.b dL_refuses_753 (by decide) ?_
    refine lv_istore (lv' := [(22, .int (nI 1)), (23, .int (nI 14)), (21, .int (-2147483648)), (20, .int (-1000001)), (19, .int (-1000000001)), (18, .int (-1)), (17, .int (-1)), (16, .int (-1)), (15, .int (-1)), (14, .int (-1)), (13, .int (-1)), (12, .int (-1)), (11, .int (nI 0)), (10, .int ((m.pr 0).toInt32)), (9, .int (nI (mTrees m.ea m.eb m.nc m.nw))), (8, .int (nI m.fc)), (7, .int (nI m.cc)), (6, .int (nI 2147483647)), (0, .ref h), (1, .int (nI m.nd)), (2, .int (nI m.ng)), (3, .int (nI m.nm)), (4, .int (nI m.nc)), (5, .int (nI m.nw))]) C.x C.b dL_refuses_757 hl (by decide) rfl (fun ls hl => ?_)
    refine lv_iinc (v := (nI 15)) (lv' := [(23, .int (nI 15)), (22, .int (nI 1)), (21, .int (-2147483648)), (20, .int (-1000001)), (19, .int (-1000000001)), (18, .int (-1)), (17, .int (-1)), (16, .int (-1)), (15, .int (-1)), (14, .int (-1)), (13, .int (-1)), (12, .int (-1)), (11, .int (nI 0)), (10, .int ((m.pr 0).toInt32)), (9, .int (nI (mTrees m.ea m.eb m.nc m.nw))), (8, .int (nI m.fc)), (7, .int (nI m.cc)), (6, .int (nI 2147483647)), (0, .ref h), (1, .int (nI m.nd)), (2, .int (nI m.ng)), (3, .int (nI m.nm)), (4, .int (nI m.nc)), (5, .int (nI m.nw))]) C.x C.b dL_refuses_759 hl (k := 1) rfl (by decide) (by decide) rfl (fun ls hl => ?_)
    refine lv_goto (tgt := 679) C.x C.b dL_refuses_762 (by decide) ?_
    refine lv_iload C.x C.b dL_refuses_679 (lv_at hl 0 rfl) ?_
    refine lv_bipush (v := (nI 17)) C.x C.b dL_refuses_681 (by decide) ?_
    refine lv_icmp_ge (tgt := 765) C.x C.b dL_refuses_683 (by decide) (fun q9 => absurd q9 (by decide)) (fun _ => ?_)
    refine lv_iload C.x C.b dL_refuses_686 (lv_at hl 1 rfl) ?_
    refine lv_if_eq (tgt := 756) C.x C.b dL_refuses_688 (by decide) (fun q9 => absurd q9 (by decide)) (fun _ => ?_)
    refine lv_aload_n C.x C.b dL_refuses_691 rfl (lv_at hl 18 rfl) ?_
    refine lv_iload C.x C.b dL_refuses_692 (lv_at hl 0 rfl) ?_
    refine lv_iload C.x C.b dL_refuses_694 (lv_at hl 7 rfl) ?_
    refine lv_iconst (v := (nI 0)) C.x C.b dL_refuses_696 (by decide) ?_
    refine lv_iconst (v := (nI 0)) C.x C.b dL_refuses_697 (by decide) ?_
    refine lv_iconst (v := (nI 0)) C.x C.b dL_refuses_698 (by decide) ?_
    refine k_actI (As := [.ref h, .int (nI 15), .int (-1), .int (nI 0), .int (nI 0), .int (nI 0)]) (rest := []) (c2 := 296) (s2 := 2368) (v := (-7000001)) (m1 := m) C hX (act_15 hI.hd (-1) (nI 0) (nI 0) (nI 0) (iop_countAnew hst hI (-1) (nI 0))) (e_countAnew_o (mIn_lo (by decide))) (rfl) (gl_up inv_L_act) rfl hl.1 rfl (by decide) dL_refuses_699 ⟨Nat.le_of_ble_eq_true rfl, Nat.le_of_ble_eq_true rfl⟩ ⟨Nat.le_of_ble_eq_true rfl, Nat.le_of_ble_eq_true rfl⟩ rfl rfl (fun f H locs hX hI => ?_)
    refine lv_ldc2 (v := (-7000001)) C.x C.b C.ow (C.ts _ (List.mem_cons_of_mem _ lkC_111)) dL_refuses_702 ?_
    refine k_lcmp_ne (tgt := 756) C.x C.b dL_refuses_705 dL_refuses_706 (by decide) (fun q9 => absurd (by decide) q9) (fun _ => ?_)
    refine lv_iload_n C.x C.b dL_refuses_709 rfl (lv_at hl 20 rfl) ?_
    have J752_407 : ∀ (f : kH) (H : Heap) (locs : List Loc) (ls : Array Slot), kX G B0 s f H locs → Inv G h f m → lv_has ls 24 [(23, .int (nI 15)), (22, .int (nI 1)), (21, .int (-2147483648)), (20, .int (-1000001)), (19, .int (-1000000001)), (18, .int (-1)), (17, .int (-1)), (16, .int (-1)), (15, .int (-1)), (14, .int (-1)), (13, .int (-1)), (12, .int (-1)), (11, .int (nI 0)), (10, .int ((m.pr 0).toInt32)), (9, .int (nI (mTrees m.ea m.eb m.nc m.nw))), (8, .int (nI m.fc)), (7, .int (nI m.cc)), (6, .int (nI 2147483647)), (0, .ref h), (1, .int (nI m.nd)), (2, .int (nI m.ng)), (3, .int (nI m.nm)), (4, .int (nI m.nc)), (5, .int (nI m.nw))] → W p l e rmR s mi args below meth c H locs 328 2624 Q (F0 mi 752 ls []) := by
      intro f H locs ls hX hI hl
      refine lv_iconst (v := (nI 1)) C.x C.b dL_refuses_752 (by decide) ?_
      refine lv_goto (tgt := 757) C.x C.b dL_refuses_753 (by decide) ?_
      refine lv_istore (lv' := [(22, .int (nI 1)), (23, .int (nI 15)), (21, .int (-2147483648)), (20, .int (-1000001)), (19, .int (-1000000001)), (18, .int (-1)), (17, .int (-1)), (16, .int (-1)), (15, .int (-1)), (14, .int (-1)), (13, .int (-1)), (12, .int (-1)), (11, .int (nI 0)), (10, .int ((m.pr 0).toInt32)), (9, .int (nI (mTrees m.ea m.eb m.nc m.nw))), (8, .int (nI m.fc)), (7, .int (nI m.cc)), (6, .int (nI 2147483647)), (0, .ref h), (1, .int (nI m.nd)), (2, .int (nI m.ng)), (3, .int (nI m.nm)), (4, .int (nI m.nc)), (5, .int (nI m.nw))]) C.x C.b dL_refuses_757 hl (by decide) rfl (fun ls hl => ?_)
      refine lv_iinc (v := (nI 16)) (lv' := [(23, .int (nI 16)), (22, .int (nI 1)), (21, .int (-2147483648)), (20, .int (-1000001)), (19, .int (-1000000001)), (18, .int (-1)), (17, .int (-1)), (16, .int (-1)), (15, .int (-1)), (14, .int (-1)), (13, .int (-1)), (12, .int (-1)), (11, .int (nI 0)), (10, .int ((m.pr 0).toInt32)), (9, .int (nI (mTrees m.ea m.eb m.nc m.nw))), (8, .int (nI m.fc)), (7, .int (nI m.cc)), (6, .int (nI 2147483647)), (0, .ref h), (1, .int (nI m.nd)), (2, .int (nI m.ng)), (3, .int (nI m.nm)), (4, .int (nI m.nc)), (5, .int (nI m.nw))]) C.x C.b dL_refuses_759 hl (k := 1) rfl (by decide) (by decide) rfl (fun ls hl => ?_)
      refine lv_goto (tgt := 679) C.x C.b dL_refuses_762 (by decide) ?_
      refine lv_iload C.x C.b dL_refuses_679 (lv_at hl 0 rfl) ?_
      refine lv_bipush (v := (nI 17)) C.x C.b dL_refuses_681 (by decide) ?_
      refine lv_icmp_ge (tgt := 765) C.x C.b dL_refuses_683 (by decide) (fun q9 => absurd q9 (by decide)) (fun _ => ?_)
      refine lv_iload C.x C.b dL_refuses_686 (lv_at hl 1 rfl) ?_
      refine lv_if_eq (tgt := 756) C.x C.b dL_refuses_688 (by decide) (fun q9 => absurd q9 (by decide)) (fun _ => ?_)
      refine lv_aload_n C.x C.b dL_refuses_691 rfl (lv_at hl 18 rfl) ?_
      refine lv_iload C.x C.b dL_refuses_692 (lv_at hl 0 rfl) ?_
      refine lv_iload C.x C.b dL_refuses_694 (lv_at hl 7 rfl) ?_
      refine lv_iconst (v := (nI 0)) C.x C.b dL_refuses_696 (by decide) ?_
      refine lv_iconst (v := (nI 0)) C.x C.b dL_refuses_697 (by decide) ?_
      refine lv_iconst (v := (nI 0)) C.x C.b dL_refuses_698 (by decide) ?_
      refine k_actI (As := [.ref h, .int (nI 16), .int (-1), .int (nI 0), .int (nI 0), .int (nI 0)]) (rest := []) (c2 := 336) (s2 := 2688) (v := (-7000001)) (m1 := m) C hX (act_16 hI.hd (-1) (nI 0) (nI 0) (nI 0) (iop_remainders hst hI (-1) (nI 0))) (e_remainders_o (mIn_lo (by decide))) (rfl) (gl_up inv_L_act) rfl hl.1 rfl (by decide) dL_refuses_699 ⟨Nat.le_of_ble_eq_true rfl, Nat.le_of_ble_eq_true rfl⟩ ⟨Nat.le_of_ble_eq_true rfl, Nat.le_of_ble_eq_true rfl⟩ rfl rfl (fun f H locs hX hI => ?_)
      refine lv_ldc2 (v := (-7000001)) C.x C.b C.ow (C.ts _ (List.mem_cons_of_mem _ lkC_111)) dL_refuses_702 ?_
      refine k_lcmp_ne (tgt := 756) C.x C.b dL_refuses_705 dL_refuses_706 (by decide) (fun q9 => absurd (by decide) q9) (fun _ => ?_)
      refine lv_iload_n C.x C.b dL_refuses_709 rfl (lv_at hl 20 rfl) ?_
      have J752_429 : ∀ (f : kH) (H : Heap) (locs : List Loc) (ls : Array Slot), kX G B0 s f H locs → Inv G h f m → lv_has ls 24 [(23, .int (nI 16)), (22, .int (nI 1)), (21, .int (-2147483648)), (20, .int (-1000001)), (19, .int (-1000000001)), (18, .int (-1)), (17, .int (-1)), (16, .int (-1)), (15, .int (-1)), (14, .int (-1)), (13, .int (-1)), (12, .int (-1)), (11, .int (nI 0)), (10, .int ((m.pr 0).toInt32)), (9, .int (nI (mTrees m.ea m.eb m.nc m.nw))), (8, .int (nI m.fc)), (7, .int (nI m.cc)), (6, .int (nI 2147483647)), (0, .ref h), (1, .int (nI m.nd)), (2, .int (nI m.ng)), (3, .int (nI m.nm)), (4, .int (nI m.nc)), (5, .int (nI m.nw))] → W p l e rmR s mi args below meth c H locs 368 2944 Q (F0 mi 752 ls []) := by
        intro f H locs ls hX hI hl
        refine lv_iconst (v := (nI 1)) C.x C.b dL_refuses_752 (by decide) ?_
        refine lv_goto (tgt := 757) C.x C.b dL_refuses_753 (by decide) ?_
        refine lv_istore (lv' := [(22, .int (nI 1)), (23, .int (nI 16)), (21, .int (-2147483648)), (20, .int (-1000001)), (19, .int (-1000000001)), (18, .int (-1)), (17, .int (-1)), (16, .int (-1)), (15, .int (-1)), (14, .int (-1)), (13, .int (-1)), (12, .int (-1)), (11, .int (nI 0)), (10, .int ((m.pr 0).toInt32)), (9, .int (nI (mTrees m.ea m.eb m.nc m.nw))), (8, .int (nI m.fc)), (7, .int (nI m.cc)), (6, .int (nI 2147483647)), (0, .ref h), (1, .int (nI m.nd)), (2, .int (nI m.ng)), (3, .int (nI m.nm)), (4, .int (nI m.nc)), (5, .int (nI m.nw))]) C.x C.b dL_refuses_757 hl (by decide) rfl (fun ls hl => ?_)
        refine lv_iinc (v := (nI 17)) (lv' := [(23, .int (nI 17)), (22, .int (nI 1)), (21, .int (-2147483648)), (20, .int (-1000001)), (19, .int (-1000000001)), (18, .int (-1)), (17, .int (-1)), (16, .int (-1)), (15, .int (-1)), (14, .int (-1)), (13, .int (-1)), (12, .int (-1)), (11, .int (nI 0)), (10, .int ((m.pr 0).toInt32)), (9, .int (nI (mTrees m.ea m.eb m.nc m.nw))), (8, .int (nI m.fc)), (7, .int (nI m.cc)), (6, .int (nI 2147483647)), (0, .ref h), (1, .int (nI m.nd)), (2, .int (nI m.ng)), (3, .int (nI m.nm)), (4, .int (nI m.nc)), (5, .int (nI m.nw))]) C.x C.b dL_refuses_759 hl (k := 1) rfl (by decide) (by decide) rfl (fun ls hl => ?_)
        refine lv_goto (tgt := 679) C.x C.b dL_refuses_762 (by decide) ?_
        refine lv_iload C.x C.b dL_refuses_679 (lv_at hl 0 rfl) ?_
        refine lv_bipush (v := (nI 17)) C.x C.b dL_refuses_681 (by decide) ?_
        refine lv_icmp_ge (tgt := 765) C.x C.b dL_refuses_683 (by decide) (fun _ => ?_) (fun q9 => absurd (by decide) q9)
        refine lv_iload C.x C.b dL_refuses_765 (lv_at hl 1 rfl) ?_
        refine lv_if_eq (tgt := 1327) C.x C.b dL_refuses_767 (by decide) (fun q9 => absurd q9 (by decide)) (fun _ => ?_)
        refine lv_iload_n C.x C.b dL_refuses_770 rfl (lv_at hl 20 rfl) ?_
        have J801_442 : ∀ (f : kH) (H : Heap) (locs : List Loc) (ls : Array Slot), kX G B0 s f H locs → Inv G h f m → lv_has ls 24 [(23, .int (nI 17)), (22, .int (nI 1)), (21, .int (-2147483648)), (20, .int (-1000001)), (19, .int (-1000000001)), (18, .int (-1)), (17, .int (-1)), (16, .int (-1)), (15, .int (-1)), (14, .int (-1)), (13, .int (-1)), (12, .int (-1)), (11, .int (nI 0)), (10, .int ((m.pr 0).toInt32)), (9, .int (nI (mTrees m.ea m.eb m.nc m.nw))), (8, .int (nI m.fc)), (7, .int (nI m.cc)), (6, .int (nI 2147483647)), (0, .ref h), (1, .int (nI m.nd)), (2, .int (nI m.ng)), (3, .int (nI m.nm)), (4, .int (nI m.nc)), (5, .int (nI m.nw))] → W p l e rmR s mi args below meth c H locs 400 3200 Q (F0 mi 801 ls []) := by
          intro f H locs ls hX hI hl
          refine lv_aload_n C.x C.b dL_refuses_801 rfl (lv_at hl 18 rfl) ?_
          refine lv_bipush (v := (nI 17)) C.x C.b dL_refuses_802 (by decide) ?_
          refine lv_iload C.x C.b dL_refuses_804 (lv_at hl 4 rfl) ?_
          refine lv_iconst (v := (nI 1)) C.x C.b dL_refuses_806 (by decide) ?_
          refine lv_iconst (v := (nI 0)) C.x C.b dL_refuses_807 (by decide) ?_
          refine lv_iconst (v := (nI 1)) C.x C.b dL_refuses_808 (by decide) ?_
          refine k_actI (As := [.ref h, .int (nI 17), .int (-1000000001), .int (nI 1), .int (nI 0), .int (nI 1)]) (rest := []) (c2 := 408) (s2 := 3264) (v := (-7000002)) (m1 := m) C hX (act_17 hI.hd (-1000000001) (nI 1) (nI 0) (nI 1) (iop_ford hst hI (-1000000001) (nI 1) (nI 0) (nI 1))) (e_ford_a (fun z => absurd z.1 (by decide +kernel))) (rfl) (gl_up inv_L_act) rfl hl.1 rfl (by decide) dL_refuses_809 ⟨Nat.le_of_ble_eq_true rfl, Nat.le_of_ble_eq_true rfl⟩ ⟨Nat.le_of_ble_eq_true rfl, Nat.le_of_ble_eq_true rfl⟩ rfl rfl (fun f H locs hX hI => ?_)
          refine lv_ldc2 (v := (-7000002)) C.x C.b C.ow (C.ts _ (List.mem_cons_of_mem _ lkC_6)) dL_refuses_812 ?_
          refine k_lcmp_ne (tgt := 1327) C.x C.b dL_refuses_815 dL_refuses_816 (by decide) (fun q9 => absurd (by decide) q9) (fun _ => ?_)
          refine lv_aload_n C.x C.b dL_refuses_819 rfl (lv_at hl 18 rfl) ?_
          refine lv_bipush (v := (nI 17)) C.x C.b dL_refuses_820 (by decide) ?_
          refine lv_iconst (v := (nI 1)) C.x C.b dL_refuses_822 (by decide) ?_
          refine lv_iload C.x C.b dL_refuses_823 (lv_at hl 12 rfl) ?_
          refine lv_if_ne (tgt := 832) C.x C.b dL_refuses_825 (by decide) (fun q9 => absurd (by decide) q9) (fun _ => ?_)
          refine lv_iconst (v := (nI 0)) C.x C.b dL_refuses_828 (by decide) ?_
          refine lv_goto (tgt := 834) C.x C.b dL_refuses_829 (by decide) ?_
          refine lv_iconst (v := (nI 0)) C.x C.b dL_refuses_834 (by decide) ?_
          refine lv_iconst (v := (nI 1)) C.x C.b dL_refuses_835 (by decide) ?_
          refine k_actI (As := [.ref h, .int (nI 17), .int (nI 1), .int (nI 0), .int (nI 0), .int (nI 1)]) (rest := []) (c2 := 416) (s2 := 3328) (v := (-7000002)) (m1 := m) C hX (act_17 hI.hd (nI 1) (nI 0) (nI 0) (nI 1) (iop_ford hst hI (nI 1) (nI 0) (nI 0) (nI 1))) (e_ford_a (fun z => absurd z.1 (by decide +kernel))) (rfl) (gl_up inv_L_act) rfl hl.1 rfl (by decide) dL_refuses_836 ⟨Nat.le_of_ble_eq_true rfl, Nat.le_of_ble_eq_true rfl⟩ ⟨Nat.le_of_ble_eq_true rfl, Nat.le_of_ble_eq_true rfl⟩ rfl rfl (fun f H locs hX hI => ?_)
          refine lv_ldc2 (v := (-7000002)) C.x C.b C.ow (C.ts _ (List.mem_cons_of_mem _ lkC_6)) dL_refuses_839 ?_
          refine k_lcmp_ne (tgt := 1327) C.x C.b dL_refuses_842 dL_refuses_843 (by decide) (fun q9 => absurd (by decide) q9) (fun _ => ?_)
          refine lv_aload_n C.x C.b dL_refuses_846 rfl (lv_at hl 18 rfl) ?_
          refine lv_bipush (v := (nI 17)) C.x C.b dL_refuses_847 (by decide) ?_
          refine lv_iconst (v := (nI 0)) C.x C.b dL_refuses_849 (by decide) ?_
          refine lv_iconst (v := (nI 1)) C.x C.b dL_refuses_850 (by decide) ?_
          refine lv_iconst (v := (nI 2)) C.x C.b dL_refuses_851 (by decide) ?_
          refine lv_iload C.x C.b dL_refuses_852 (lv_at hl 12 rfl) ?_
          refine lv_iadd C.x C.b dL_refuses_854 ?_
          refine k_topi (y := (nI 2)) (by decide) ?_
          refine lv_iconst (v := (nI 2)) C.x C.b dL_refuses_855 (by decide) ?_
          refine lv_iload C.x C.b dL_refuses_856 (lv_at hl 12 rfl) ?_
          refine lv_iadd C.x C.b dL_refuses_858 ?_
          refine k_topi (y := (nI 2)) (by decide) ?_
          refine k_actI (As := [.ref h, .int (nI 17), .int (nI 0), .int (nI 1), .int (nI 2), .int (nI 2)]) (rest := []) (c2 := 424) (s2 := 3392) (v := (-7000002)) (m1 := m) C hX (act_17 hI.hd (nI 0) (nI 1) (nI 2) (nI 2) (iop_ford hst hI (nI 0) (nI 1) (nI 2) (nI 2))) (e_ford_a (fun z => absurd z.2 (by decide +kernel))) (rfl) (gl_up inv_L_act) rfl hl.1 rfl (by decide) dL_refuses_859 ⟨Nat.le_of_ble_eq_true rfl, Nat.le_of_ble_eq_true rfl⟩ ⟨Nat.le_of_ble_eq_true rfl, Nat.le_of_ble_eq_true rfl⟩ rfl rfl (fun f H locs hX hI => ?_)
          refine lv_ldc2 (v := (-7000002)) C.x C.b C.ow (C.ts _ (List.mem_cons_of_mem _ lkC_6)) dL_refuses_862 ?_
          refine k_lcmp_ne (tgt := 1327) C.x C.b dL_refuses_865 dL_refuses_866 (by decide) (fun q9 => absurd (by decide) q9) (fun _ => ?_)
          refine lv_aload_n C.x C.b dL_refuses_869 rfl (lv_at hl 18 rfl) ?_
          refine lv_bipush (v := (nI 18)) C.x C.b dL_refuses_870 (by decide) ?_
          refine lv_iconst (v := (nI 0)) C.x C.b dL_refuses_872 (by decide) ?_
          refine lv_iconst (v := (nI 1)) C.x C.b dL_refuses_873 (by decide) ?_
          refine lv_iconst (v := (nI 1)) C.x C.b dL_refuses_874 (by decide) ?_
          refine lv_iload C.x C.b dL_refuses_875 (lv_at hl 12 rfl) ?_
          refine lv_if_ne (tgt := 884) C.x C.b dL_refuses_877 (by decide) (fun q9 => absurd (by decide) q9) (fun _ => ?_)
          refine lv_iconst (v := (nI 0)) C.x C.b dL_refuses_880 (by decide) ?_
          refine lv_goto (tgt := 886) C.x C.b dL_refuses_881 (by decide) ?_
          refine k_actJ (As := [.ref h, .int (nI 18), .int (nI 0), .int (nI 1), .int (nI 1), .int (nI 0)]) (rest := []) (c2 := 432) (s2 := 3456) (v := (-7000002)) (m1 := m) C hX (act_18 hI.hd (nI 0) (nI 1) (nI 1) (nI 0) (iop_between hst hI (nI 0) (nI 1) (nI 1) (nI 0) (nI 1))) (e_between_a (fun z => absurd z.2.1 (by decide +kernel))) (rfl) (gl_up inv_L_act) rfl hl.1 rfl (by decide) dL_refuses_886 ⟨Nat.le_of_ble_eq_true rfl, Nat.le_of_ble_eq_true rfl⟩ ⟨Nat.le_of_ble_eq_true rfl, Nat.le_of_ble_eq_true rfl⟩ rfl rfl (fun f H locs hX hI => ?_)
          refine lv_ldc2 (v := (-7000002)) C.x C.b C.ow (C.ts _ (List.mem_cons_of_mem _ lkC_6)) dL_refuses_889 ?_
          refine k_lcmp_ne (tgt := 1327) C.x C.b dL_refuses_892 dL_refuses_893 (by decide) (fun q9 => absurd (by decide) q9) (fun _ => ?_)
          refine lv_aload_n C.x C.b dL_refuses_896 rfl (lv_at hl 18 rfl) ?_
          refine lv_bipush (v := (nI 18)) C.x C.b dL_refuses_897 (by decide) ?_
          refine lv_iconst (v := (nI 3)) C.x C.b dL_refuses_899 (by decide) ?_
          refine lv_bipush (v := (nI 6)) C.x C.b dL_refuses_900 (by decide) ?_
          refine lv_iconst (v := (nI 1)) C.x C.b dL_refuses_902 (by decide) ?_
          refine lv_bipush (v := (nI 7)) C.x C.b dL_refuses_903 (by decide) ?_
          refine k_actJ (As := [.ref h, .int (nI 18), .int (nI 3), .int (nI 6), .int (nI 1), .int (nI 7)]) (rest := []) (c2 := 440) (s2 := 3520) (v := (-7000002)) (m1 := m) C hX (act_18 hI.hd (nI 3) (nI 6) (nI 1) (nI 7) (iop_between hst hI (nI 3) (nI 6) (nI 1) (nI 7) (nI 1))) (e_between_a (fun z => absurd z.1 (by decide +kernel))) (rfl) (gl_up inv_L_act) rfl hl.1 rfl (by decide) dL_refuses_905 ⟨Nat.le_of_ble_eq_true rfl, Nat.le_of_ble_eq_true rfl⟩ ⟨Nat.le_of_ble_eq_true rfl, Nat.le_of_ble_eq_true rfl⟩ rfl rfl (fun f H locs hX hI => ?_)
          refine lv_ldc2 (v := (-7000002)) C.x C.b C.ow (C.ts _ (List.mem_cons_of_mem _ lkC_6)) dL_refuses_908 ?_
          refine k_lcmp_ne (tgt := 1327) C.x C.b dL_refuses_911 dL_refuses_912 (by decide) (fun q9 => absurd (by decide) q9) (fun _ => ?_)
          refine lv_aload_n C.x C.b dL_refuses_915 rfl (lv_at hl 18 rfl) ?_
          refine lv_bipush (v := (nI 18)) C.x C.b dL_refuses_916 (by decide) ?_
          refine lv_iconst (v := (nI 5)) C.x C.b dL_refuses_918 (by decide) ?_
          refine lv_bipush (v := (nI 7)) C.x C.b dL_refuses_919 (by decide) ?_
          refine lv_iconst (v := (nI 5)) C.x C.b dL_refuses_921 (by decide) ?_
          refine lv_bipush (v := (nI 7)) C.x C.b dL_refuses_922 (by decide) ?_
          refine k_actJ (As := [.ref h, .int (nI 18), .int (nI 5), .int (nI 7), .int (nI 5), .int (nI 7)]) (rest := []) (c2 := 448) (s2 := 3584) (v := (-7000002)) (m1 := m) C hX (act_18 hI.hd (nI 5) (nI 7) (nI 5) (nI 7) (iop_between hst hI (nI 5) (nI 7) (nI 5) (nI 7) (nI 1))) (e_between_a (fun z => z.2.2 (by decide +kernel))) (rfl) (gl_up inv_L_act) rfl hl.1 rfl (by decide) dL_refuses_924 ⟨Nat.le_of_ble_eq_true rfl, Nat.le_of_ble_eq_true rfl⟩ ⟨Nat.le_of_ble_eq_true rfl, Nat.le_of_ble_eq_true rfl⟩ rfl rfl (fun f H locs hX hI => ?_)
          refine lv_ldc2 (v := (-7000002)) C.x C.b C.ow (C.ts _ (List.mem_cons_of_mem _ lkC_6)) dL_refuses_927 ?_
          refine k_lcmp_ne (tgt := 1327) C.x C.b dL_refuses_930 dL_refuses_931 (by decide) (fun q9 => absurd (by decide) q9) (fun _ => ?_)
          refine lv_aload_n C.x C.b dL_refuses_934 rfl (lv_at hl 18 rfl) ?_
          refine lv_bipush (v := (nI 19)) C.x C.b dL_refuses_935 (by decide) ?_
          refine lv_iload C.x C.b dL_refuses_937 (lv_at hl 12 rfl) ?_
          refine lv_iconst (v := (nI 1)) C.x C.b dL_refuses_939 (by decide) ?_
          refine lv_icmp_ne (tgt := 949) C.x C.b dL_refuses_940 (by decide) (fun _ => ?_) (fun q9 => absurd q9 (by decide))
          refine lv_iload C.x C.b dL_refuses_949 (lv_at hl 12 rfl) ?_
          refine lv_if_ne (tgt := 960) C.x C.b dL_refuses_951 (by decide) (fun q9 => absurd (by decide) q9) (fun _ => ?_)
          refine lv_sipush (v := (-1001)) C.x C.b dL_refuses_954 (by decide) ?_
          refine lv_goto (tgt := 962) C.x C.b dL_refuses_957 (by decide) ?_
          refine lv_iconst (v := (nI 0)) C.x C.b dL_refuses_962 (by decide) ?_
          refine lv_iconst (v := (nI 0)) C.x C.b dL_refuses_963 (by decide) ?_
          refine lv_iconst (v := (nI 1)) C.x C.b dL_refuses_964 (by decide) ?_
          refine k_actI (As := [.ref h, .int (nI 19), .int (-1001), .int (nI 0), .int (nI 0), .int (nI 1)]) (rest := []) (c2 := 456) (s2 := 3648) (v := (-7000002)) (m1 := m) C hX (act_19 hI.hd (-1001) (nI 0) (nI 0) (nI 1) (iop_tell hst hI (-1001) (nI 0) (nI 0) (nI 1))) (e_tell_a (by decide +kernel)) (rfl) (gl_up inv_L_act) rfl hl.1 rfl (by decide) dL_refuses_965 ⟨Nat.le_of_ble_eq_true rfl, Nat.le_of_ble_eq_true rfl⟩ ⟨Nat.le_of_ble_eq_true rfl, Nat.le_of_ble_eq_true rfl⟩ rfl rfl (fun f H locs hX hI => ?_)
          refine lv_ldc2 (v := (-7000002)) C.x C.b C.ow (C.ts _ (List.mem_cons_of_mem _ lkC_6)) dL_refuses_968 ?_
          refine k_lcmp_ne (tgt := 1327) C.x C.b dL_refuses_971 dL_refuses_972 (by decide) (fun q9 => absurd (by decide) q9) (fun _ => ?_)
          refine lv_aload_n C.x C.b dL_refuses_975 rfl (lv_at hl 18 rfl) ?_
          refine lv_bipush (v := (nI 19)) C.x C.b dL_refuses_976 (by decide) ?_
          refine lv_iconst (v := (nI 1)) C.x C.b dL_refuses_978 (by decide) ?_
          refine lv_iconst (v := (nI 1)) C.x C.b dL_refuses_979 (by decide) ?_
          refine lv_iconst (v := (nI 1)) C.x C.b dL_refuses_980 (by decide) ?_
          refine lv_iload C.x C.b dL_refuses_981 (lv_at hl 12 rfl) ?_
          refine lv_iconst (v := (nI 3)) C.x C.b dL_refuses_983 (by decide) ?_
          refine lv_iadd C.x C.b dL_refuses_984 ?_
          refine k_topi (y := (nI 3)) (by decide) ?_
          refine k_actI (As := [.ref h, .int (nI 19), .int (nI 1), .int (nI 1), .int (nI 1), .int (nI 3)]) (rest := []) (c2 := 464) (s2 := 3712) (v := (-7000002)) (m1 := m) C hX (act_19 hI.hd (nI 1) (nI 1) (nI 1) (nI 3) (iop_tell hst hI (nI 1) (nI 1) (nI 1) (nI 3))) (e_tell_a (by decide +kernel)) (rfl) (gl_up inv_L_act) rfl hl.1 rfl (by decide) dL_refuses_985 ⟨Nat.le_of_ble_eq_true rfl, Nat.le_of_ble_eq_true rfl⟩ ⟨Nat.le_of_ble_eq_true rfl, Nat.le_of_ble_eq_true rfl⟩ rfl rfl (fun f H locs hX hI => ?_)
          refine lv_ldc2 (v := (-7000002)) C.x C.b C.ow (C.ts _ (List.mem_cons_of_mem _ lkC_6)) dL_refuses_988 ?_
          refine k_lcmp_ne (tgt := 1327) C.x C.b dL_refuses_991 dL_refuses_992 (by decide) (fun q9 => absurd (by decide) q9) (fun _ => ?_)
          refine lv_aload_n C.x C.b dL_refuses_995 rfl (lv_at hl 18 rfl) ?_
          refine lv_bipush (v := (nI 20)) C.x C.b dL_refuses_996 (by decide) ?_
          refine lv_iload C.x C.b dL_refuses_998 (lv_at hl 12 rfl) ?_
          refine lv_iconst (v := (nI 1)) C.x C.b dL_refuses_1000 (by decide) ?_
          refine lv_icmp_ne (tgt := 1008) C.x C.b dL_refuses_1001 (by decide) (fun _ => ?_) (fun q9 => absurd q9 (by decide))
          refine lv_iload C.x C.b dL_refuses_1008 (lv_at hl 11 rfl) ?_
          refine lv_iconst (v := (nI 0)) C.x C.b dL_refuses_1010 (by decide) ?_
          refine lv_iconst (v := (nI 0)) C.x C.b dL_refuses_1011 (by decide) ?_
          refine lv_iconst (v := (nI 0)) C.x C.b dL_refuses_1012 (by decide) ?_
          refine k_actI (As := [.ref h, .int (nI 20), .int (-1), .int (nI 0), .int (nI 0), .int (nI 0)]) (rest := []) (c2 := 472) (s2 := 3776) (v := (-7000001)) (m1 := m) C hX (act_20 hI.hd (-1) (nI 0) (nI 0) (nI 0) (z := (nI 0)) (.inr ⟨by decide, rfl⟩) (iop_append hst hI (-1) (nI 0))) (e_append_o (mIn_lo (by decide))) (rfl) (gl_up inv_L_act) rfl hl.1 rfl (by decide) dL_refuses_1013 ⟨Nat.le_of_ble_eq_true rfl, Nat.le_of_ble_eq_true rfl⟩ ⟨Nat.le_of_ble_eq_true rfl, Nat.le_of_ble_eq_true rfl⟩ rfl rfl (fun f H locs hX hI => ?_)
          refine lv_ldc2 (v := (-7000001)) C.x C.b C.ow (C.ts _ (List.mem_cons_of_mem _ lkC_111)) dL_refuses_1016 ?_
          refine k_lcmp_ne (tgt := 1327) C.x C.b dL_refuses_1019 dL_refuses_1020 (by decide) (fun q9 => absurd (by decide) q9) (fun _ => ?_)
          refine lv_aload_n C.x C.b dL_refuses_1023 rfl (lv_at hl 18 rfl) ?_
          refine lv_bipush (v := (nI 21)) C.x C.b dL_refuses_1024 (by decide) ?_
          refine lv_iload C.x C.b dL_refuses_1026 (lv_at hl 12 rfl) ?_
          refine lv_iconst (v := (nI 1)) C.x C.b dL_refuses_1028 (by decide) ?_
          refine lv_icmp_ne (tgt := 1036) C.x C.b dL_refuses_1029 (by decide) (fun _ => ?_) (fun q9 => absurd q9 (by decide))
          refine lv_iload C.x C.b dL_refuses_1036 (lv_at hl 11 rfl) ?_
          refine lv_iconst (v := (nI 0)) C.x C.b dL_refuses_1038 (by decide) ?_
          refine lv_iconst (v := (nI 0)) C.x C.b dL_refuses_1039 (by decide) ?_
          refine lv_iconst (v := (nI 0)) C.x C.b dL_refuses_1040 (by decide) ?_
          refine k_actI (As := [.ref h, .int (nI 21), .int (-1), .int (nI 0), .int (nI 0), .int (nI 0)]) (rest := []) (c2 := 480) (s2 := 3840) (v := (-7000001)) (m1 := m) C hX (act_21 hI.hd (-1) (nI 0) (nI 0) (nI 0) (iop_word hst hI (-1))) (e_word_o (by decide +kernel)) (rfl) (gl_up inv_L_act) rfl hl.1 rfl (by decide) dL_refuses_1041 ⟨Nat.le_of_ble_eq_true rfl, Nat.le_of_ble_eq_true rfl⟩ ⟨Nat.le_of_ble_eq_true rfl, Nat.le_of_ble_eq_true rfl⟩ rfl rfl (fun f H locs hX hI => ?_)
          refine lv_ldc2 (v := (-7000001)) C.x C.b C.ow (C.ts _ (List.mem_cons_of_mem _ lkC_111)) dL_refuses_1044 ?_
          refine k_lcmp_ne (tgt := 1327) C.x C.b dL_refuses_1047 dL_refuses_1048 (by decide) (fun q9 => absurd (by decide) q9) (fun _ => ?_)
          refine lv_aload_n C.x C.b dL_refuses_1051 rfl (lv_at hl 18 rfl) ?_
          refine lv_bipush (v := (nI 22)) C.x C.b dL_refuses_1052 (by decide) ?_
          refine lv_iload C.x C.b dL_refuses_1054 (lv_at hl 4 rfl) ?_
          refine lv_iconst (v := (nI 1)) C.x C.b dL_refuses_1056 (by decide) ?_
          refine lv_iconst (v := (nI 0)) C.x C.b dL_refuses_1057 (by decide) ?_
          refine lv_iconst (v := (nI 0)) C.x C.b dL_refuses_1058 (by decide) ?_
          refine k_actJ (As := [.ref h, .int (nI 22), .int (-1000000001), .int (nI 1), .int (nI 0), .int (nI 0)]) (rest := []) (c2 := 488) (s2 := 3904) (v := (-7000002)) (m1 := m) C hX (act_22 hI.hd (-1000000001) (nI 1) (nI 0) (nI 0) (z := (nI 0)) (.inr ⟨by decide, rfl⟩) (iop_image hst hI (-1000000001) (nI 1) (nI 0))) (e_image_a (by decide +kernel)) (rfl) (gl_up inv_L_act) rfl hl.1 rfl (by decide) dL_refuses_1059 ⟨Nat.le_of_ble_eq_true rfl, Nat.le_of_ble_eq_true rfl⟩ ⟨Nat.le_of_ble_eq_true rfl, Nat.le_of_ble_eq_true rfl⟩ rfl rfl (fun f H locs hX hI => ?_)
          refine lv_ldc2 (v := (-7000002)) C.x C.b C.ow (C.ts _ (List.mem_cons_of_mem _ lkC_6)) dL_refuses_1062 ?_
          refine k_lcmp_ne (tgt := 1327) C.x C.b dL_refuses_1065 dL_refuses_1066 (by decide) (fun q9 => absurd (by decide) q9) (fun _ => ?_)
          refine lv_aload_n C.x C.b dL_refuses_1069 rfl (lv_at hl 18 rfl) ?_
          refine lv_bipush (v := (nI 22)) C.x C.b dL_refuses_1070 (by decide) ?_
          refine lv_iconst (v := (nI 1)) C.x C.b dL_refuses_1072 (by decide) ?_
          refine lv_iload C.x C.b dL_refuses_1073 (lv_at hl 12 rfl) ?_
          refine lv_if_ne (tgt := 1082) C.x C.b dL_refuses_1075 (by decide) (fun q9 => absurd (by decide) q9) (fun _ => ?_)
          refine lv_iconst (v := (-1)) C.x C.b dL_refuses_1078 (by decide) ?_
          refine lv_goto (tgt := 1084) C.x C.b dL_refuses_1079 (by decide) ?_
          refine lv_iconst (v := (nI 0)) C.x C.b dL_refuses_1084 (by decide) ?_
          refine lv_iconst (v := (nI 0)) C.x C.b dL_refuses_1085 (by decide) ?_
          refine k_actJ (As := [.ref h, .int (nI 22), .int (nI 1), .int (-1), .int (nI 0), .int (nI 0)]) (rest := []) (c2 := 496) (s2 := 3968) (v := (-7000002)) (m1 := m) C hX (act_22 hI.hd (nI 1) (-1) (nI 0) (nI 0) (z := (nI 0)) (.inr ⟨by decide, rfl⟩) (iop_image hst hI (nI 1) (-1) (nI 0))) (e_image_a (by decide +kernel)) (rfl) (gl_up inv_L_act) rfl hl.1 rfl (by decide) dL_refuses_1086 ⟨Nat.le_of_ble_eq_true rfl, Nat.le_of_ble_eq_true rfl⟩ ⟨Nat.le_of_ble_eq_true rfl, Nat.le_of_ble_eq_true rfl⟩ rfl rfl (fun f H locs hX hI => ?_)
          refine lv_ldc2 (v := (-7000002)) C.x C.b C.ow (C.ts _ (List.mem_cons_of_mem _ lkC_6)) dL_refuses_1089 ?_
          refine k_lcmp_ne (tgt := 1327) C.x C.b dL_refuses_1092 dL_refuses_1093 (by decide) (fun q9 => absurd (by decide) q9) (fun _ => ?_)
          refine lv_aload_n C.x C.b dL_refuses_1096 rfl (lv_at hl 18 rfl) ?_
          refine lv_bipush (v := (nI 22)) C.x C.b dL_refuses_1097 (by decide) ?_
          refine lv_iload C.x C.b dL_refuses_1099 (lv_at hl 12 rfl) ?_
          refine lv_iconst (v := (nI 1)) C.x C.b dL_refuses_1101 (by decide) ?_
          refine lv_icmp_ne (tgt := 1109) C.x C.b dL_refuses_1102 (by decide) (fun _ => ?_) (fun q9 => absurd q9 (by decide))
          refine lv_iconst (v := (nI 2)) C.x C.b dL_refuses_1109 (by decide) ?_
          refine lv_iconst (v := (nI 0)) C.x C.b dL_refuses_1110 (by decide) ?_
          refine lv_iconst (v := (nI 0)) C.x C.b dL_refuses_1111 (by decide) ?_
          refine lv_iconst (v := (nI 0)) C.x C.b dL_refuses_1112 (by decide) ?_
          refine k_actJ (As := [.ref h, .int (nI 22), .int (nI 2), .int (nI 0), .int (nI 0), .int (nI 0)]) (rest := []) (c2 := 504) (s2 := 4032) (v := (-7000002)) (m1 := m) C hX (act_22 hI.hd (nI 2) (nI 0) (nI 0) (nI 0) (z := (nI 0)) (.inr ⟨by decide, rfl⟩) (iop_image hst hI (nI 2) (nI 0) (nI 0))) (e_image_a (by decide +kernel)) (rfl) (gl_up inv_L_act) rfl hl.1 rfl (by decide) dL_refuses_1113 ⟨Nat.le_of_ble_eq_true rfl, Nat.le_of_ble_eq_true rfl⟩ ⟨Nat.le_of_ble_eq_true rfl, Nat.le_of_ble_eq_true rfl⟩ rfl rfl (fun f H locs hX hI => ?_)
          refine lv_ldc2 (v := (-7000002)) C.x C.b C.ow (C.ts _ (List.mem_cons_of_mem _ lkC_6)) dL_refuses_1116 ?_
          refine k_lcmp_ne (tgt := 1327) C.x C.b dL_refuses_1119 dL_refuses_1120 (by decide) (fun q9 => absurd (by decide) q9) (fun _ => ?_)
          refine lv_aload_n C.x C.b dL_refuses_1123 rfl (lv_at hl 18 rfl) ?_
          refine lv_bipush (v := (nI 22)) C.x C.b dL_refuses_1124 (by decide) ?_
          refine lv_iconst (v := (nI 0)) C.x C.b dL_refuses_1126 (by decide) ?_
          refine lv_iconst (v := (nI 0)) C.x C.b dL_refuses_1127 (by decide) ?_
          refine lv_iconst (v := (nI 0)) C.x C.b dL_refuses_1128 (by decide) ?_
          refine lv_iconst (v := (nI 0)) C.x C.b dL_refuses_1129 (by decide) ?_
          refine k_actJ (As := [.ref h, .int (nI 22), .int (nI 0), .int (nI 0), .int (nI 0), .int (nI 0)]) (rest := []) (c2 := 512) (s2 := 4096) (v := (-7000002)) (m1 := m) C hX (act_22 hI.hd (nI 0) (nI 0) (nI 0) (nI 0) (z := (nI 0)) (.inr ⟨by decide, rfl⟩) (iop_image hst hI (nI 0) (nI 0) (nI 0))) (e_image_a (by decide +kernel)) (rfl) (gl_up inv_L_act) rfl hl.1 rfl (by decide) dL_refuses_1130 ⟨Nat.le_of_ble_eq_true rfl, Nat.le_of_ble_eq_true rfl⟩ ⟨Nat.le_of_ble_eq_true rfl, Nat.le_of_ble_eq_true rfl⟩ rfl rfl (fun f H locs hX hI => ?_)
          refine lv_ldc2 (v := (-7000002)) C.x C.b C.ow (C.ts _ (List.mem_cons_of_mem _ lkC_6)) dL_refuses_1133 ?_
          refine k_lcmp_ne (tgt := 1327) C.x C.b dL_refuses_1136 dL_refuses_1137 (by decide) (fun q9 => absurd (by decide) q9) (fun _ => ?_)
          refine lv_aload_n C.x C.b dL_refuses_1140 rfl (lv_at hl 18 rfl) ?_
          refine lv_bipush (v := (nI 23)) C.x C.b dL_refuses_1141 (by decide) ?_
          refine lv_iload C.x C.b dL_refuses_1143 (lv_at hl 12 rfl) ?_
          refine lv_if_ne (tgt := 1152) C.x C.b dL_refuses_1145 (by decide) (fun q9 => absurd (by decide) q9) (fun _ => ?_)
          refine lv_iconst (v := (nI 1)) C.x C.b dL_refuses_1148 (by decide) ?_
          refine lv_goto (tgt := 1165) C.x C.b dL_refuses_1149 (by decide) ?_
          refine lv_iconst (v := (nI 0)) C.x C.b dL_refuses_1165 (by decide) ?_
          refine lv_iconst (v := (nI 0)) C.x C.b dL_refuses_1166 (by decide) ?_
          refine lv_iconst (v := (nI 0)) C.x C.b dL_refuses_1167 (by decide) ?_
          refine k_actI (As := [.ref h, .int (nI 23), .int (nI 1), .int (nI 0), .int (nI 0), .int (nI 0)]) (rest := []) (c2 := 520) (s2 := 4160) (v := (-7000002)) (m1 := m) C hX (act_23 hI.hd (nI 1) (nI 0) (nI 0) (nI 0) (iop_nodes hst hI (nI 1))) (e_nodes_a (by decide +kernel)) (rfl) (gl_up inv_L_act) rfl hl.1 rfl (by decide) dL_refuses_1168 ⟨Nat.le_of_ble_eq_true rfl, Nat.le_of_ble_eq_true rfl⟩ ⟨Nat.le_of_ble_eq_true rfl, Nat.le_of_ble_eq_true rfl⟩ rfl rfl (fun f H locs hX hI => ?_)
          refine lv_ldc2 (v := (-7000002)) C.x C.b C.ow (C.ts _ (List.mem_cons_of_mem _ lkC_6)) dL_refuses_1171 ?_
          refine k_lcmp_ne (tgt := 1327) C.x C.b dL_refuses_1174 dL_refuses_1175 (by decide) (fun q9 => absurd (by decide) q9) (fun _ => ?_)
          refine lv_aload_n C.x C.b dL_refuses_1178 rfl (lv_at hl 18 rfl) ?_
          refine lv_bipush (v := (nI 24)) C.x C.b dL_refuses_1179 (by decide) ?_
          refine lv_iload C.x C.b dL_refuses_1181 (lv_at hl 5 rfl) ?_
          refine lv_iconst (v := (nI 0)) C.x C.b dL_refuses_1183 (by decide) ?_
          refine lv_iconst (v := (nI 0)) C.x C.b dL_refuses_1184 (by decide) ?_
          refine lv_iconst (v := (nI 0)) C.x C.b dL_refuses_1185 (by decide) ?_
          refine k_actI (As := [.ref h, .int (nI 24), .int (-1), .int (nI 0), .int (nI 0), .int (nI 0)]) (rest := []) (c2 := 528) (s2 := 4224) (v := (-7000001)) (m1 := m) C hX (act_24 hI.hd (-1) (nI 0) (nI 0) (nI 0) (iop_wire hst hI (-1) (nI 0))) (e_wire_o (fun z => absurd z.1 (mIn_lo (by decide)))) (rfl) (gl_up inv_L_act) rfl hl.1 rfl (by decide) dL_refuses_1186 ⟨Nat.le_of_ble_eq_true rfl, Nat.le_of_ble_eq_true rfl⟩ ⟨Nat.le_of_ble_eq_true rfl, Nat.le_of_ble_eq_true rfl⟩ rfl rfl (fun f H locs hX hI => ?_)
          refine lv_ldc2 (v := (-7000001)) C.x C.b C.ow (C.ts _ (List.mem_cons_of_mem _ lkC_111)) dL_refuses_1189 ?_
          refine k_lcmp_ne (tgt := 1327) C.x C.b dL_refuses_1192 dL_refuses_1193 (by decide) (fun q9 => absurd (by decide) q9) (fun _ => ?_)
          refine lv_aload_n C.x C.b dL_refuses_1196 rfl (lv_at hl 18 rfl) ?_
          refine lv_bipush (v := (nI 24)) C.x C.b dL_refuses_1197 (by decide) ?_
          refine lv_iconst (v := (nI 0)) C.x C.b dL_refuses_1199 (by decide) ?_
          refine lv_iload C.x C.b dL_refuses_1200 (lv_at hl 5 rfl) ?_
          refine lv_iconst (v := (nI 0)) C.x C.b dL_refuses_1202 (by decide) ?_
          refine lv_iconst (v := (nI 0)) C.x C.b dL_refuses_1203 (by decide) ?_
          refine k_actI (As := [.ref h, .int (nI 24), .int (nI 0), .int (-1), .int (nI 0), .int (nI 0)]) (rest := []) (c2 := 536) (s2 := 4288) (v := (-7000001)) (m1 := m) C hX (act_24 hI.hd (nI 0) (-1) (nI 0) (nI 0) (iop_wire hst hI (nI 0) (-1))) (e_wire_o (fun z => absurd z.2 (mIn_lo (by decide)))) (rfl) (gl_up inv_L_act) rfl hl.1 rfl (by decide) dL_refuses_1204 ⟨Nat.le_of_ble_eq_true rfl, Nat.le_of_ble_eq_true rfl⟩ ⟨Nat.le_of_ble_eq_true rfl, Nat.le_of_ble_eq_true rfl⟩ rfl rfl (fun f H locs hX hI => ?_)
          refine lv_ldc2 (v := (-7000001)) C.x C.b C.ow (C.ts _ (List.mem_cons_of_mem _ lkC_111)) dL_refuses_1207 ?_
          refine k_lcmp_ne (tgt := 1327) C.x C.b dL_refuses_1210 dL_refuses_1211 (by decide) (fun q9 => absurd (by decide) q9) (fun _ => ?_)
          refine lv_aload_n C.x C.b dL_refuses_1214 rfl (lv_at hl 18 rfl) ?_
          refine lv_bipush (v := (nI 24)) C.x C.b dL_refuses_1215 (by decide) ?_
          refine lv_iconst (v := (nI 1)) C.x C.b dL_refuses_1217 (by decide) ?_
          refine lv_iconst (v := (nI 1)) C.x C.b dL_refuses_1218 (by decide) ?_
          refine lv_iconst (v := (nI 0)) C.x C.b dL_refuses_1219 (by decide) ?_
          refine lv_iconst (v := (nI 0)) C.x C.b dL_refuses_1220 (by decide) ?_
          refine k_actI (As := [.ref h, .int (nI 24), .int (nI 1), .int (nI 1), .int (nI 0), .int (nI 0)]) (rest := []) (c2 := 544) (s2 := 4352) (v := (-7000002)) (m1 := m) C hX (act_24 hI.hd (nI 1) (nI 1) (nI 0) (nI 0) (iop_wire hst hI (nI 1) (nI 1))) (e_wire_a ⟨(mIn_in (a := 1) (by omega) (by decide)), (mIn_in (a := 1) (by omega) (by decide))⟩ rfl) (rfl) (gl_up inv_L_act) rfl hl.1 rfl (by decide) dL_refuses_1221 ⟨Nat.le_of_ble_eq_true rfl, Nat.le_of_ble_eq_true rfl⟩ ⟨Nat.le_of_ble_eq_true rfl, Nat.le_of_ble_eq_true rfl⟩ rfl rfl (fun f H locs hX hI => ?_)
          refine lv_ldc2 (v := (-7000002)) C.x C.b C.ow (C.ts _ (List.mem_cons_of_mem _ lkC_6)) dL_refuses_1224 ?_
          refine k_lcmp_ne (tgt := 1327) C.x C.b dL_refuses_1227 dL_refuses_1228 (by decide) (fun q9 => absurd (by decide) q9) (fun _ => ?_)
          refine lv_aload_n C.x C.b dL_refuses_1231 rfl (lv_at hl 18 rfl) ?_
          refine lv_bipush (v := (nI 25)) C.x C.b dL_refuses_1232 (by decide) ?_
          refine lv_iload C.x C.b dL_refuses_1234 (lv_at hl 5 rfl) ?_
          refine lv_iconst (v := (nI 0)) C.x C.b dL_refuses_1236 (by decide) ?_
          refine lv_iconst (v := (-1)) C.x C.b dL_refuses_1237 (by decide) ?_
          refine lv_iconst (v := (nI 0)) C.x C.b dL_refuses_1238 (by decide) ?_
          refine k_actI (As := [.ref h, .int (nI 25), .int (-1), .int (nI 0), .int (-1), .int (nI 0)]) (rest := []) (c2 := 552) (s2 := 4416) (v := (-7000001)) (m1 := m) C hX (act_25 hI.hd (-1) (nI 0) (-1) (nI 0) (iop_side hst hI (-1) (nI 0) (-1))) (e_side_o (fun z => absurd z.1 (mIn_lo (by decide)))) (rfl) (gl_up inv_L_act) rfl hl.1 rfl (by decide) dL_refuses_1239 ⟨Nat.le_of_ble_eq_true rfl, Nat.le_of_ble_eq_true rfl⟩ ⟨Nat.le_of_ble_eq_true rfl, Nat.le_of_ble_eq_true rfl⟩ rfl rfl (fun f H locs hX hI => ?_)
          refine lv_ldc2 (v := (-7000001)) C.x C.b C.ow (C.ts _ (List.mem_cons_of_mem _ lkC_111)) dL_refuses_1242 ?_
          refine k_lcmp_ne (tgt := 1327) C.x C.b dL_refuses_1245 dL_refuses_1246 (by decide) (fun q9 => absurd (by decide) q9) (fun _ => ?_)
          refine lv_aload_n C.x C.b dL_refuses_1249 rfl (lv_at hl 18 rfl) ?_
          refine lv_bipush (v := (nI 25)) C.x C.b dL_refuses_1250 (by decide) ?_
          refine lv_iconst (v := (nI 0)) C.x C.b dL_refuses_1252 (by decide) ?_
          refine lv_iload C.x C.b dL_refuses_1253 (lv_at hl 5 rfl) ?_
          refine lv_iconst (v := (-1)) C.x C.b dL_refuses_1255 (by decide) ?_
          refine lv_iconst (v := (nI 0)) C.x C.b dL_refuses_1256 (by decide) ?_
          refine k_actI (As := [.ref h, .int (nI 25), .int (nI 0), .int (-1), .int (-1), .int (nI 0)]) (rest := []) (c2 := 560) (s2 := 4480) (v := (-7000001)) (m1 := m) C hX (act_25 hI.hd (nI 0) (-1) (-1) (nI 0) (iop_side hst hI (nI 0) (-1) (-1))) (e_side_o (fun z => absurd z.2.1 (mIn_lo (by decide)))) (rfl) (gl_up inv_L_act) rfl hl.1 rfl (by decide) dL_refuses_1257 ⟨Nat.le_of_ble_eq_true rfl, Nat.le_of_ble_eq_true rfl⟩ ⟨Nat.le_of_ble_eq_true rfl, Nat.le_of_ble_eq_true rfl⟩ rfl rfl (fun f H locs hX hI => ?_)
          refine lv_ldc2 (v := (-7000001)) C.x C.b C.ow (C.ts _ (List.mem_cons_of_mem _ lkC_111)) dL_refuses_1260 ?_
          refine k_lcmp_ne (tgt := 1327) C.x C.b dL_refuses_1263 dL_refuses_1264 (by decide) (fun q9 => absurd (by decide) q9) (fun _ => ?_)
          refine lv_aload_n C.x C.b dL_refuses_1267 rfl (lv_at hl 18 rfl) ?_
          refine lv_bipush (v := (nI 25)) C.x C.b dL_refuses_1268 (by decide) ?_
          refine lv_iconst (v := (nI 1)) C.x C.b dL_refuses_1270 (by decide) ?_
          refine lv_iconst (v := (nI 1)) C.x C.b dL_refuses_1271 (by decide) ?_
          refine lv_iload C.x C.b dL_refuses_1272 (lv_at hl 12 rfl) ?_
          refine lv_if_ne (tgt := 1282) C.x C.b dL_refuses_1274 (by decide) (fun q9 => absurd (by decide) q9) (fun _ => ?_)
          refine lv_bipush (v := (-2)) C.x C.b dL_refuses_1277 (by decide) ?_
          refine lv_goto (tgt := 1295) C.x C.b dL_refuses_1279 (by decide) ?_
          refine lv_iconst (v := (nI 0)) C.x C.b dL_refuses_1295 (by decide) ?_
          refine k_actI (As := [.ref h, .int (nI 25), .int (nI 1), .int (nI 1), .int (-2), .int (nI 0)]) (rest := []) (c2 := 568) (s2 := 4544) (v := (-7000001)) (m1 := m) C hX (act_25 hI.hd (nI 1) (nI 1) (-2) (nI 0) (iop_side hst hI (nI 1) (nI 1) (-2))) (e_side_o (fun z => z.2.2.elim ((by decide)) (mIn_lo (by decide)))) (rfl) (gl_up inv_L_act) rfl hl.1 rfl (by decide) dL_refuses_1296 ⟨Nat.le_of_ble_eq_true rfl, Nat.le_of_ble_eq_true rfl⟩ ⟨Nat.le_of_ble_eq_true rfl, Nat.le_of_ble_eq_true rfl⟩ rfl rfl (fun f H locs hX hI => ?_)
          refine lv_ldc2 (v := (-7000001)) C.x C.b C.ow (C.ts _ (List.mem_cons_of_mem _ lkC_111)) dL_refuses_1299 ?_
          refine k_lcmp_ne (tgt := 1327) C.x C.b dL_refuses_1302 dL_refuses_1303 (by decide) (fun q9 => absurd (by decide) q9) (fun _ => ?_)
          refine lv_aload_n C.x C.b dL_refuses_1306 rfl (lv_at hl 18 rfl) ?_
          refine lv_bipush (v := (nI 25)) C.x C.b dL_refuses_1307 (by decide) ?_
          refine lv_iconst (v := (nI 1)) C.x C.b dL_refuses_1309 (by decide) ?_
          refine lv_iconst (v := (nI 1)) C.x C.b dL_refuses_1310 (by decide) ?_
          refine lv_iconst (v := (-1)) C.x C.b dL_refuses_1311 (by decide) ?_
          refine lv_iconst (v := (nI 0)) C.x C.b dL_refuses_1312 (by decide) ?_
          refine k_actI (As := [.ref h, .int (nI 25), .int (nI 1), .int (nI 1), .int (-1), .int (nI 0)]) (rest := []) (c2 := 576) (s2 := 4608) (v := (-7000002)) (m1 := m) C hX (act_25 hI.hd (nI 1) (nI 1) (-1) (nI 0) (iop_side hst hI (nI 1) (nI 1) (-1))) (e_side_a ⟨(mIn_in (a := 1) (by omega) (by decide)), (mIn_in (a := 1) (by omega) (by decide)), .inl rfl⟩ rfl) (rfl) (gl_up inv_L_act) rfl hl.1 rfl (by decide) dL_refuses_1313 ⟨Nat.le_of_ble_eq_true rfl, Nat.le_of_ble_eq_true rfl⟩ ⟨Nat.le_of_ble_eq_true rfl, Nat.le_of_ble_eq_true rfl⟩ rfl rfl (fun f H locs hX hI => ?_)
          refine lv_ldc2 (v := (-7000002)) C.x C.b C.ow (C.ts _ (List.mem_cons_of_mem _ lkC_6)) dL_refuses_1316 ?_
          refine k_lcmp_ne (tgt := 1327) C.x C.b dL_refuses_1319 dL_refuses_1320 (by decide) (fun q9 => absurd (by decide) q9) (fun _ => ?_)
          refine lv_iconst (v := (nI 1)) C.x C.b dL_refuses_1323 (by decide) ?_
          refine lv_goto (tgt := 1328) C.x C.b dL_refuses_1324 (by decide) ?_
          refine lv_istore (lv' := [(22, .int (nI 1)), (23, .int (nI 17)), (21, .int (-2147483648)), (20, .int (-1000001)), (19, .int (-1000000001)), (18, .int (-1)), (17, .int (-1)), (16, .int (-1)), (15, .int (-1)), (14, .int (-1)), (13, .int (-1)), (12, .int (-1)), (11, .int (nI 0)), (10, .int ((m.pr 0).toInt32)), (9, .int (nI (mTrees m.ea m.eb m.nc m.nw))), (8, .int (nI m.fc)), (7, .int (nI m.cc)), (6, .int (nI 2147483647)), (0, .ref h), (1, .int (nI m.nd)), (2, .int (nI m.ng)), (3, .int (nI m.nm)), (4, .int (nI m.nc)), (5, .int (nI m.nw))]) C.x C.b dL_refuses_1328 hl (by decide) rfl (fun ls hl => ?_)
          refine lv_iload C.x C.b dL_refuses_1330 (lv_at hl 0 rfl) ?_
          refine lv_if_eq (tgt := 1405) C.x C.b dL_refuses_1332 (by decide) (fun q9 => absurd q9 (by decide)) (fun _ => ?_)
          refine lv_iload_n C.x C.b dL_refuses_1335 rfl (lv_at hl 19 rfl) ?_
          have J1401_687 : ∀ (f : kH) (H : Heap) (locs : List Loc) (ls : Array Slot), kX G B0 s f H locs → Inv G h f m → lv_has ls 24 [(22, .int (nI 1)), (23, .int (nI 17)), (21, .int (-2147483648)), (20, .int (-1000001)), (19, .int (-1000000001)), (18, .int (-1)), (17, .int (-1)), (16, .int (-1)), (15, .int (-1)), (14, .int (-1)), (13, .int (-1)), (12, .int (-1)), (11, .int (nI 0)), (10, .int ((m.pr 0).toInt32)), (9, .int (nI (mTrees m.ea m.eb m.nc m.nw))), (8, .int (nI m.fc)), (7, .int (nI m.cc)), (6, .int (nI 2147483647)), (0, .ref h), (1, .int (nI m.nd)), (2, .int (nI m.ng)), (3, .int (nI m.nm)), (4, .int (nI m.nc)), (5, .int (nI m.nw))] → W p l e rmR s mi args below meth c H locs 608 4864 Q (F0 mi 1401 ls []) := by
            intro f H locs ls hX hI hl
            refine lv_iconst (v := (nI 1)) C.x C.b dL_refuses_1401 (by decide) ?_
            refine lv_goto (tgt := 1406) C.x C.b dL_refuses_1402 (by decide) ?_
            refine lv_istore (lv' := [(22, .int (nI 1)), (23, .int (nI 17)), (21, .int (-2147483648)), (20, .int (-1000001)), (19, .int (-1000000001)), (18, .int (-1)), (17, .int (-1)), (16, .int (-1)), (15, .int (-1)), (14, .int (-1)), (13, .int (-1)), (12, .int (-1)), (11, .int (nI 0)), (10, .int ((m.pr 0).toInt32)), (9, .int (nI (mTrees m.ea m.eb m.nc m.nw))), (8, .int (nI m.fc)), (7, .int (nI m.cc)), (6, .int (nI 2147483647)), (0, .ref h), (1, .int (nI m.nd)), (2, .int (nI m.ng)), (3, .int (nI m.nm)), (4, .int (nI m.nc)), (5, .int (nI m.nw))]) C.x C.b dL_refuses_1406 hl (by decide) rfl (fun ls hl => ?_)
            refine lv_iload C.x C.b dL_refuses_1408 (lv_at hl 0 rfl) ?_
            refine lv_if_ne (tgt := 1415) C.x C.b dL_refuses_1410 (by decide) (fun _ => ?_) (fun q9 => absurd q9 (by decide))
            refine lv_iinc (v := (nI 1)) (lv' := [(11, .int (nI 1)), (22, .int (nI 1)), (23, .int (nI 17)), (21, .int (-2147483648)), (20, .int (-1000001)), (19, .int (-1000000001)), (18, .int (-1)), (17, .int (-1)), (16, .int (-1)), (15, .int (-1)), (14, .int (-1)), (13, .int (-1)), (12, .int (-1)), (10, .int ((m.pr 0).toInt32)), (9, .int (nI (mTrees m.ea m.eb m.nc m.nw))), (8, .int (nI m.fc)), (7, .int (nI m.cc)), (6, .int (nI 2147483647)), (0, .ref h), (1, .int (nI m.nd)), (2, .int (nI m.ng)), (3, .int (nI m.nm)), (4, .int (nI m.nc)), (5, .int (nI m.nw))]) C.x C.b dL_refuses_1415 hl (k := 12) rfl (by decide) (by decide) rfl (fun ls hl => ?_)
            refine lv_goto (tgt := 34) C.x C.b dL_refuses_1418 (by decide) ?_
            refine W.widen (k := 832) (n := 6656) (by decide) (by decide) ?_
            exact K f H locs ls hX hI (lv_sub hl [0, 13, 14, 15, 16, 17, 18, 19, 20, 21, 22, 23] rfl)
          refine lv_if_eq (tgt := 1401) C.x C.b dL_refuses_1336 (by decide) (fun hd0 => ?_) (fun hd0 => ?_)
          · refine W.widen (k := 608) (n := 4864) (by decide) (by decide) ?_
            exact J1401_687 f H locs ls hX hI hl
          have hd : 0 < m.nd := Nat.pos_of_ne_zero (fun z => hd0 (by rw [z]; rfl))
          refine lv_aload_n C.x C.b dL_refuses_1339 rfl (lv_at hl 18 rfl) ?_
          refine lv_bipush (v := (nI 6)) C.x C.b dL_refuses_1340 (by decide) ?_
          refine lv_iconst (v := (nI 0)) C.x C.b dL_refuses_1342 (by decide) ?_
          refine lv_iload C.x C.b dL_refuses_1343 (lv_at hl 4 rfl) ?_
          refine lv_iconst (v := (nI 0)) C.x C.b dL_refuses_1345 (by decide) ?_
          refine lv_iconst (v := (nI 1)) C.x C.b dL_refuses_1346 (by decide) ?_
          refine k_actI (As := [.ref h, .int (nI 6), .int (nI 0), .int (-1000000001), .int (nI 0), .int (nI 1)]) (rest := []) (c2 := 584) (s2 := 4672) (v := (-7000002)) (m1 := m) C hX (act_6 hI.hd (nI 0) (-1000000001) (nI 0) (nI 1) (iop_move hst hI (nI 0) (-1000000001) (nI 0) (nI 1))) (e_move_a (mIn_in (a := 0) hd (by decide)) (by decide +kernel)) (rfl) (gl_up inv_L_act) rfl hl.1 rfl (by decide) dL_refuses_1347 ⟨Nat.le_of_ble_eq_true rfl, Nat.le_of_ble_eq_true rfl⟩ ⟨Nat.le_of_ble_eq_true rfl, Nat.le_of_ble_eq_true rfl⟩ rfl rfl (fun f H locs hX hI => ?_)
          refine lv_ldc2 (v := (-7000002)) C.x C.b C.ow (C.ts _ (List.mem_cons_of_mem _ lkC_6)) dL_refuses_1350 ?_
          refine k_lcmp_ne (tgt := 1405) C.x C.b dL_refuses_1353 dL_refuses_1354 (by decide) (fun q9 => absurd (by decide) q9) (fun _ => ?_)
          refine lv_aload_n C.x C.b dL_refuses_1357 rfl (lv_at hl 18 rfl) ?_
          refine lv_bipush (v := (nI 6)) C.x C.b dL_refuses_1358 (by decide) ?_
          refine lv_iconst (v := (nI 0)) C.x C.b dL_refuses_1360 (by decide) ?_
          refine lv_iconst (v := (nI 0)) C.x C.b dL_refuses_1361 (by decide) ?_
          refine lv_iconst (v := (nI 0)) C.x C.b dL_refuses_1362 (by decide) ?_
          refine lv_iload C.x C.b dL_refuses_1363 (lv_at hl 12 rfl) ?_
          refine lv_if_ne (tgt := 1372) C.x C.b dL_refuses_1365 (by decide) (fun q9 => absurd (by decide) q9) (fun _ => ?_)
          refine lv_iconst (v := (nI 0)) C.x C.b dL_refuses_1368 (by decide) ?_
          refine lv_goto (tgt := 1374) C.x C.b dL_refuses_1369 (by decide) ?_
          refine k_actI (As := [.ref h, .int (nI 6), .int (nI 0), .int (nI 0), .int (nI 0), .int (nI 0)]) (rest := []) (c2 := 592) (s2 := 4736) (v := (-7000002)) (m1 := m) C hX (act_6 hI.hd (nI 0) (nI 0) (nI 0) (nI 0) (iop_move hst hI (nI 0) (nI 0) (nI 0) (nI 0))) (e_move_a (mIn_in (a := 0) hd (by decide)) (by decide +kernel)) (rfl) (gl_up inv_L_act) rfl hl.1 rfl (by decide) dL_refuses_1374 ⟨Nat.le_of_ble_eq_true rfl, Nat.le_of_ble_eq_true rfl⟩ ⟨Nat.le_of_ble_eq_true rfl, Nat.le_of_ble_eq_true rfl⟩ rfl rfl (fun f H locs hX hI => ?_)
          refine lv_ldc2 (v := (-7000002)) C.x C.b C.ow (C.ts _ (List.mem_cons_of_mem _ lkC_6)) dL_refuses_1377 ?_
          refine k_lcmp_ne (tgt := 1405) C.x C.b dL_refuses_1380 dL_refuses_1381 (by decide) (fun q9 => absurd (by decide) q9) (fun _ => ?_)
          refine lv_aload_n C.x C.b dL_refuses_1384 rfl (lv_at hl 18 rfl) ?_
          refine lv_bipush (v := (nI 7)) C.x C.b dL_refuses_1385 (by decide) ?_
          refine lv_iconst (v := (nI 0)) C.x C.b dL_refuses_1387 (by decide) ?_
          refine lv_iconst (v := (nI 0)) C.x C.b dL_refuses_1388 (by decide) ?_
          refine lv_iconst (v := (nI 0)) C.x C.b dL_refuses_1389 (by decide) ?_
          refine lv_iconst (v := (nI 0)) C.x C.b dL_refuses_1390 (by decide) ?_
          refine k_actI (As := [.ref h, .int (nI 7), .int (nI 0), .int (nI 0), .int (nI 0), .int (nI 0)]) (rest := []) (c2 := 600) (s2 := 4800) (v := (-7000002)) (m1 := m) C hX (act_7 hI.hd (nI 0) (nI 0) (nI 0) (nI 0) (iop_lie hst hI (nI 0) (nI 0))) (e_lie_a ⟨mIn_in (a := 0) hd (by decide), mIn_in (a := 0) hd (by decide)⟩ rfl) (rfl) (gl_up inv_L_act) rfl hl.1 rfl (by decide) dL_refuses_1391 ⟨Nat.le_of_ble_eq_true rfl, Nat.le_of_ble_eq_true rfl⟩ ⟨Nat.le_of_ble_eq_true rfl, Nat.le_of_ble_eq_true rfl⟩ rfl rfl (fun f H locs hX hI => ?_)
          refine lv_ldc2 (v := (-7000002)) C.x C.b C.ow (C.ts _ (List.mem_cons_of_mem _ lkC_6)) dL_refuses_1394 ?_
          refine k_lcmp_ne (tgt := 1405) C.x C.b dL_refuses_1397 dL_refuses_1398 (by decide) (fun q9 => absurd (by decide) q9) (fun _ => ?_)
          refine W.widen (k := 608) (n := 4864) (by decide) (by decide) ?_
          exact J1401_687 f H locs ls hX hI hl
        refine lv_if_eq (tgt := 801) C.x C.b dL_refuses_771 (by decide) (fun hg0 => ?_) (fun hg0 => ?_)
        · refine W.widen (k := 400) (n := 3200) (by decide) (by decide) ?_
          exact J801_442 f H locs ls hX hI hl
        have hg : 0 < m.ng := Nat.pos_of_ne_zero (fun z => hg0 (by rw [z]; rfl))
        refine lv_aload_n C.x C.b dL_refuses_774 rfl (lv_at hl 18 rfl) ?_
        refine lv_bipush (v := (nI 16)) C.x C.b dL_refuses_775 (by decide) ?_
        refine lv_iconst (v := (nI 0)) C.x C.b dL_refuses_777 (by decide) ?_
        refine lv_iload C.x C.b dL_refuses_778 (lv_at hl 12 rfl) ?_
        refine lv_if_ne (tgt := 787) C.x C.b dL_refuses_780 (by decide) (fun q9 => absurd (by decide) q9) (fun _ => ?_)
        refine lv_iconst (v := (nI 1)) C.x C.b dL_refuses_783 (by decide) ?_
        refine lv_goto (tgt := 789) C.x C.b dL_refuses_784 (by decide) ?_
        refine lv_iconst (v := (nI 0)) C.x C.b dL_refuses_789 (by decide) ?_
        refine lv_iconst (v := (nI 0)) C.x C.b dL_refuses_790 (by decide) ?_
        refine k_actI (As := [.ref h, .int (nI 16), .int (nI 0), .int (nI 1), .int (nI 0), .int (nI 0)]) (rest := []) (c2 := 376) (s2 := 3008) (v := (-7000002)) (m1 := m) C hX (act_16 hI.hd (nI 0) (nI 1) (nI 0) (nI 0) (iop_remainders hst hI (nI 0) (nI 1))) (e_remainders_a (mIn_in (a := 0) hg (by decide)) (by decide +kernel)) (rfl) (gl_up inv_L_act) rfl hl.1 rfl (by decide) dL_refuses_791 ⟨Nat.le_of_ble_eq_true rfl, Nat.le_of_ble_eq_true rfl⟩ ⟨Nat.le_of_ble_eq_true rfl, Nat.le_of_ble_eq_true rfl⟩ rfl rfl (fun f H locs hX hI => ?_)
        refine lv_ldc2 (v := (-7000002)) C.x C.b C.ow (C.ts _ (List.mem_cons_of_mem _ lkC_6)) dL_refuses_794 ?_
        refine k_lcmp_ne (tgt := 1327) C.x C.b dL_refuses_797 dL_refuses_798 (by decide) (fun q9 => absurd (by decide) q9) (fun _ => ?_)
        refine W.widen (k := 400) (n := 3200) (by decide) (by decide) ?_
        exact J801_442 f H locs ls hX hI hl
      refine lv_if_eq (tgt := 752) C.x C.b dL_refuses_710 (by decide) (fun hg0 => ?_) (fun hg0 => ?_)
      · refine W.widen (k := 368) (n := 2944) (by decide) (by decide) ?_
        exact J752_429 f H locs ls hX hI hl
      have hg : 0 < m.ng := Nat.pos_of_ne_zero (fun z => hg0 (by rw [z]; rfl))
      refine lv_aload_n C.x C.b dL_refuses_713 rfl (lv_at hl 18 rfl) ?_
      refine lv_iload C.x C.b dL_refuses_714 (lv_at hl 0 rfl) ?_
      refine lv_iconst (v := (nI 0)) C.x C.b dL_refuses_716 (by decide) ?_
      refine lv_iload C.x C.b dL_refuses_717 (lv_at hl 12 rfl) ?_
      refine lv_if_ne (tgt := 726) C.x C.b dL_refuses_719 (by decide) (fun q9 => absurd (by decide) q9) (fun _ => ?_)
      refine lv_iconst (v := (nI 0)) C.x C.b dL_refuses_722 (by decide) ?_
      refine lv_goto (tgt := 740) C.x C.b dL_refuses_723 (by decide) ?_
      refine lv_iconst (v := (nI 0)) C.x C.b dL_refuses_740 (by decide) ?_
      refine lv_iconst (v := (nI 0)) C.x C.b dL_refuses_741 (by decide) ?_
      refine k_actI (As := [.ref h, .int (nI 16), .int (nI 0), .int (nI 0), .int (nI 0), .int (nI 0)]) (rest := []) (c2 := 344) (s2 := 2752) (v := (-7000002)) (m1 := m) C hX (act_16 hI.hd (nI 0) (nI 0) (nI 0) (nI 0) (iop_remainders hst hI (nI 0) (nI 0))) (e_remainders_a (mIn_in (a := 0) hg (by decide)) (by decide +kernel)) (rfl) (gl_up inv_L_act) rfl hl.1 rfl (by decide) dL_refuses_742 ⟨Nat.le_of_ble_eq_true rfl, Nat.le_of_ble_eq_true rfl⟩ ⟨Nat.le_of_ble_eq_true rfl, Nat.le_of_ble_eq_true rfl⟩ rfl rfl (fun f H locs hX hI => ?_)
      refine lv_ldc2 (v := (-7000002)) C.x C.b C.ow (C.ts _ (List.mem_cons_of_mem _ lkC_6)) dL_refuses_745 ?_
      refine k_lcmp_ne (tgt := 756) C.x C.b dL_refuses_748 dL_refuses_749 (by decide) (fun q9 => absurd (by decide) q9) (fun _ => ?_)
      refine W.widen (k := 368) (n := 2944) (by decide) (by decide) ?_
      exact J752_429 f H locs ls hX hI hl
    refine lv_if_eq (tgt := 752) C.x C.b dL_refuses_710 (by decide) (fun hg0 => ?_) (fun hg0 => ?_)
    · refine W.widen (k := 328) (n := 2624) (by decide) (by decide) ?_
      exact J752_407 f H locs ls hX hI hl
    have hg : 0 < m.ng := Nat.pos_of_ne_zero (fun z => hg0 (by rw [z]; rfl))
    refine lv_aload_n C.x C.b dL_refuses_713 rfl (lv_at hl 18 rfl) ?_
    refine lv_iload C.x C.b dL_refuses_714 (lv_at hl 0 rfl) ?_
    refine lv_iconst (v := (nI 0)) C.x C.b dL_refuses_716 (by decide) ?_
    refine lv_iload C.x C.b dL_refuses_717 (lv_at hl 12 rfl) ?_
    refine lv_if_ne (tgt := 726) C.x C.b dL_refuses_719 (by decide) (fun q9 => absurd (by decide) q9) (fun _ => ?_)
    refine lv_iconst (v := (nI 0)) C.x C.b dL_refuses_722 (by decide) ?_
    refine lv_goto (tgt := 740) C.x C.b dL_refuses_723 (by decide) ?_
    refine lv_iconst (v := (nI 0)) C.x C.b dL_refuses_740 (by decide) ?_
    refine lv_iconst (v := (nI 0)) C.x C.b dL_refuses_741 (by decide) ?_
    refine k_actI (As := [.ref h, .int (nI 15), .int (nI 0), .int (nI 0), .int (nI 0), .int (nI 0)]) (rest := []) (c2 := 304) (s2 := 2432) (v := (-7000002)) (m1 := m) C hX (act_15 hI.hd (nI 0) (nI 0) (nI 0) (nI 0) (iop_countAnew hst hI (nI 0) (nI 0))) (e_countAnew_a (mIn_in (a := 0) hg (by decide)) (by decide +kernel)) (rfl) (gl_up inv_L_act) rfl hl.1 rfl (by decide) dL_refuses_742 ⟨Nat.le_of_ble_eq_true rfl, Nat.le_of_ble_eq_true rfl⟩ ⟨Nat.le_of_ble_eq_true rfl, Nat.le_of_ble_eq_true rfl⟩ rfl rfl (fun f H locs hX hI => ?_)
    refine lv_ldc2 (v := (-7000002)) C.x C.b C.ow (C.ts _ (List.mem_cons_of_mem _ lkC_6)) dL_refuses_745 ?_
    refine k_lcmp_ne (tgt := 756) C.x C.b dL_refuses_748 dL_refuses_749 (by decide) (fun q9 => absurd (by decide) q9) (fun _ => ?_)
    refine W.widen (k := 328) (n := 2624) (by decide) (by decide) ?_
    exact J752_407 f H locs ls hX hI hl
  refine lv_if_eq (tgt := 752) C.x C.b dL_refuses_710 (by decide) (fun hg0 => ?_) (fun hg0 => ?_)
  · refine W.widen (k := 288) (n := 2304) (by decide) (by decide) ?_
    exact J752_385 f H locs ls hX hI hl
  have hg : 0 < m.ng := Nat.pos_of_ne_zero (fun z => hg0 (by rw [z]; rfl))
  refine lv_aload_n C.x C.b dL_refuses_713 rfl (lv_at hl 18 rfl) ?_
  refine lv_iload C.x C.b dL_refuses_714 (lv_at hl 0 rfl) ?_
  refine lv_iconst (v := (nI 0)) C.x C.b dL_refuses_716 (by decide) ?_
  refine lv_iload C.x C.b dL_refuses_717 (lv_at hl 12 rfl) ?_
  refine lv_if_ne (tgt := 726) C.x C.b dL_refuses_719 (by decide) (fun q9 => absurd (by decide) q9) (fun _ => ?_)
  refine lv_iconst (v := (nI 0)) C.x C.b dL_refuses_722 (by decide) ?_
  refine lv_goto (tgt := 740) C.x C.b dL_refuses_723 (by decide) ?_
  refine lv_iconst (v := (nI 0)) C.x C.b dL_refuses_740 (by decide) ?_
  refine lv_iconst (v := (nI 0)) C.x C.b dL_refuses_741 (by decide) ?_
  refine k_actI (As := [.ref h, .int (nI 14), .int (nI 0), .int (nI 0), .int (nI 0), .int (nI 0)]) (rest := []) (c2 := 264) (s2 := 2112) (v := (-7000002)) (m1 := m) C hX (act_14 hI.hd (nI 0) (nI 0) (nI 0) (nI 0) (iop_count hst hI (nI 0) (nI 0))) (e_count_a (mIn_in (a := 0) hg (by decide)) (by decide +kernel)) (rfl) (gl_up inv_L_act) rfl hl.1 rfl (by decide) dL_refuses_742 ⟨Nat.le_of_ble_eq_true rfl, Nat.le_of_ble_eq_true rfl⟩ ⟨Nat.le_of_ble_eq_true rfl, Nat.le_of_ble_eq_true rfl⟩ rfl rfl (fun f H locs hX hI => ?_)
  refine lv_ldc2 (v := (-7000002)) C.x C.b C.ow (C.ts _ (List.mem_cons_of_mem _ lkC_6)) dL_refuses_745 ?_
  refine k_lcmp_ne (tgt := 756) C.x C.b dL_refuses_748 dL_refuses_749 (by decide) (fun q9 => absurd (by decide) q9) (fun _ => ?_)
  refine W.widen (k := 288) (n := 2304) (by decide) (by decide) ?_
  exact J752_385 f H locs ls hX hI hl
end RF0
