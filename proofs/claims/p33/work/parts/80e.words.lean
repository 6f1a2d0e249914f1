def hS_words_1 : pSt := pMk 4 4 0 0 1 2 0 mF0 (fun _ => 0) (fun _ => 0) (fun _ => 0) (fun _ => 0) (fun _ => 0) (pB19 (fun _ => 0) 0 ((nI 1)).toInt64 ((nI 2)).toInt64 ((nI 0)).toInt64 ((nI 1)).toInt64) mW0 (fun _ => 0) (fun _ => 0)
def hS_words_2 : pSt := pMk 4 4 0 0 2 2 0 mF0 (fun _ => 0) (fun _ => 0) (fun _ => 0) (fun _ => 0) (fun _ => 0) (pB19 hS_words_1.mv 1 ((nI 1)).toInt64 ((nI 0)).toInt64 ((nI 2)).toInt64 ((nI 1)).toInt64) mW0 (fun _ => 0) (fun _ => 0)
def hS_words_3 : pSt := pMk 4 4 0 0 2 2 0 mF0 (fun _ => 0) (fun _ => 0) (fun _ => 0) (hL [0, 0, 0, 0, 0, 0, 0, 0, 0, 0, 0, 0, 0, 0, 0, 0, 0, 0, 0, 0, 0, 0, 0, 0, 0, 0, 0, 0, 0, 0, 0, 0]) (hL [0, 0, 0, 0, 0, 0, 0, 0, 0, 0, 0, 0, 0, 0, 0, 0, 0, 0, 0, 0, 0, 0, 0, 0, 0, 0, 0, 0, 0, 0, 0, 0]) hS_words_2.mv (hL [1, 2, 0, 1]) (hE [0, 0, 0, 0, 0, 0, 0, 0, 0, 0]) (hE [0, 0, 0, 0, 0, 0, 0, 0, 0, 0])
def hS_words_4 : pSt := pMk 4 4 0 0 2 2 0 mF0 (fun _ => 0) (fun _ => 0) (fun _ => 0) (hL [0, 0, 0, 0, 0, 0, 0, 0, 0, 0, 0, 0, 0, 0, 0, 0, 0, 0, 0, 0, 0, 0, 0, 0, 0, 0, 0, 0, 0, 0, 0, 0]) (hL [0, 0, 0, 0, 0, 0, 0, 0, 0, 0, 0, 0, 0, 0, 0, 0, 0, 0, 0, 0, 0, 0, 0, 0, 0, 0, 0, 0, 0, 0, 0, 0]) hS_words_2.mv (hL [5, 2, 2, 1]) (hE [0, 0, 0, 0, 0, 0, 0, 0, 0, 0]) (hE [0, 0, 0, 0, 0, 0, 0, 0, 0, 0])
def hS_words_5 : pSt := pMk 4 4 0 0 2 2 0 mF0 (fun _ => 0) (fun _ => 0) (fun _ => 0) (hL [0, 0, 0, 0, 0, 0, 0, 0, 0, 0, 0, 0, 0, 0, 0, 0, 0, 0, 0, 0, 0, 0, 0, 0, 0, 0, 0, 0, 0, 0, 0, 0]) (hL [0, 0, 0, 0, 0, 0, 0, 0, 0, 0, 0, 0, 0, 0, 0, 0, 0, 0, 0, 0, 0, 0, 0, 0, 0, 0, 0, 0, 0, 0, 0, 0]) hS_words_2.mv (hL [1, 2, 0, 1]) (hE [0, 0, 0, 0, 0, 0, 0, 0, 0, 0]) (hE [0, 0, 0, 0, 0, 0, 0, 0, 0, 0])
def hS_words_6 : pSt := pMk 4 4 0 0 2 2 0 mF0 (fun _ => 0) (fun _ => 0) (fun _ => 0) (hL [0, 0, 0, 0, 0, 0, 0, 0, 0, 0, 0, 0, 0, 0, 0, 0, 0, 0, 0, 0, 0, 0, 0, 0, 0, 0, 0, 0, 0, 0, 0, 0]) (hL [0, 0, 0, 0, 0, 0, 0, 0, 0, 0, 0, 0, 0, 0, 0, 0, 0, 0, 0, 0, 0, 0, 0, 0, 0, 0, 0, 0, 0, 0, 0, 0]) hS_words_2.mv (hL [1, 0, 0, 1]) (hE [0, 0, 0, 0, 0, 0, 0, 0, 0, 0]) (hE [0, 0, 0, 0, 0, 0, 0, 0, 0, 0])
def hS_words_7 : pSt := pMk 4 4 0 0 3 2 0 mF0 (fun _ => 0) (fun _ => 0) (fun _ => 0) hS_words_6.fo hS_words_6.ro (pB19 hS_words_2.mv 2 ((nI 0)).toInt64 ((-1)).toInt64 ((nI 1)).toInt64 ((nI 0)).toInt64) hS_words_6.pr hS_words_6.ea hS_words_6.eb
def hS_words_8 : pSt := pMk 4 4 0 0 3 2 0 mF0 (fun _ => 0) (fun _ => 0) (fun _ => 0) (hL [0, 0, 0, 0, 0, 0, 0, 0, 0, 0, 0, 0, 0, 0, 0, 0, 0, 0, 0, 0, 0, 0, 0, 0, 0, 0, 0, 0, 0, 0, 0, 0]) (hL [0, 0, 0, 0, 0, 0, 0, 0, 0, 0, 0, 0, 0, 0, 0, 0, 0, 0, 0, 0, 0, 0, 0, 0, 0, 0, 0, 0, 0, 0, 0, 0]) hS_words_7.mv (hL [0, (-1), 1, 0]) (hE [0, 0, 0, 0, 0, 0, 0, 0, 0, 0]) (hE [0, 0, 0, 0, 0, 0, 0, 0, 0, 0])
def hS_words_9 : pSt := pMk 4 4 0 0 3 2 0 mF0 (fun _ => 0) (fun _ => 0) (fun _ => 0) (hL [0, 0, 0, 0, 0, 0, 0, 0, 0, 0, 0, 0, 0, 0, 0, 0, 0, 0, 0, 0, 0, 0, 0, 0, 0, 0, 0, 0, 0, 0, 0, 0]) (hL [0, 0, 0, 0, 0, 0, 0, 0, 0, 0, 0, 0, 0, 0, 0, 0, 0, 0, 0, 0, 0, 0, 0, 0, 0, 0, 0, 0, 0, 0, 0, 0]) hS_words_7.mv (hL [(-1), 0, 0, (-1)]) (hE [0, 0, 0, 0, 0, 0, 0, 0, 0, 0]) (hE [0, 0, 0, 0, 0, 0, 0, 0, 0, 0])
def hS_words_10 : pSt := pMk 4 4 0 0 3 2 0 mF0 (fun _ => 0) (fun _ => 0) (fun _ => 0) (hL [0, 0, 0, 0, 0, 0, 0, 0, 0, 0, 0, 0, 0, 0, 0, 0, 0, 0, 0, 0, 0, 0, 0, 0, 0, 0, 0, 0, 0, 0, 0, 0]) (hL [0, 0, 0, 0, 0, 0, 0, 0, 0, 0, 0, 0, 0, 0, 0, 0, 0, 0, 0, 0, 0, 0, 0, 0, 0, 0, 0, 0, 0, 0, 0, 0]) hS_words_7.mv (hL [(-1), 2, 0, (-1)]) (hE [0, 0, 0, 0, 0, 0, 0, 0, 0, 0]) (hE [0, 0, 0, 0, 0, 0, 0, 0, 0, 0])
def hS_words_11 : pSt := pMk 4 4 0 0 3 2 0 mF0 (fun _ => 0) (fun _ => 0) (fun _ => 0) (hL [0, 0, 0, 0, 0, 0, 0, 0, 0, 0, 0, 0, 0, 0, 0, 0, 0, 0, 0, 0, 0, 0, 0, 0, 0, 0, 0, 0, 0, 0, 0, 0]) (hL [0, 0, 0, 0, 0, 0, 0, 0, 0, 0, 0, 0, 0, 0, 0, 0, 0, 0, 0, 0, 0, 0, 0, 0, 0, 0, 0, 0, 0, 0, 0, 0]) hS_words_7.mv (hL [1, 0, 0, 1]) (hE [0, 0, 0, 0, 0, 0, 0, 0, 0, 0]) (hE [0, 0, 0, 0, 0, 0, 0, 0, 0, 0])
def hS_words_12 : pSt := pMk 4 4 0 0 3 2 0 mF0 (fun _ => 0) (fun _ => 0) (fun _ => 0) (hL [0, 0, 0, 0, 0, 0, 0, 0, 0, 0, 0, 0, 0, 0, 0, 0, 0, 0, 0, 0, 0, 0, 0, 0, 0, 0, 0, 0, 0, 0, 0, 0]) (hL [0, 0, 0, 0, 0, 0, 0, 0, 0, 0, 0, 0, 0, 0, 0, 0, 0, 0, 0, 0, 0, 0, 0, 0, 0, 0, 0, 0, 0, 0, 0, 0]) hS_words_7.mv (hL [0, 1, (-1), 0]) (hE [0, 0, 0, 0, 0, 0, 0, 0, 0, 0]) (hE [0, 0, 0, 0, 0, 0, 0, 0, 0, 0])
def hS_words_13 : pSt := pMk 4 4 0 0 3 2 0 mF0 (fun _ => 0) (fun _ => 0) (fun _ => 0) (hL [0, 0, 0, 0, 0, 0, 0, 0, 0, 0, 0, 0, 0, 0, 0, 0, 0, 0, 0, 0, 0, 0, 0, 0, 0, 0, 0, 0, 0, 0, 0, 0]) (hL [0, 0, 0, 0, 0, 0, 0, 0, 0, 0, 0, 0, 0, 0, 0, 0, 0, 0, 0, 0, 0, 0, 0, 0, 0, 0, 0, 0, 0, 0, 0, 0]) hS_words_7.mv (hL [0, 1, (-1), (-2)]) (hE [0, 0, 0, 0, 0, 0, 0, 0, 0, 0]) (hE [0, 0, 0, 0, 0, 0, 0, 0, 0, 0])
def hS_words_14 : pSt := pMk 4 4 0 0 3 2 0 mF0 (fun _ => 0) (fun _ => 0) (fun _ => 0) (hL [0, 0, 0, 0, 0, 0, 0, 0, 0, 0, 0, 0, 0, 0, 0, 0, 0, 0, 0, 0, 0, 0, 0, 0, 0, 0, 0, 0, 0, 0, 0, 0]) (hL [0, 0, 0, 0, 0, 0, 0, 0, 0, 0, 0, 0, 0, 0, 0, 0, 0, 0, 0, 0, 0, 0, 0, 0, 0, 0, 0, 0, 0, 0, 0, 0]) hS_words_7.mv (hL [1, 0, 0, 1]) (hE [0, 0, 0, 0, 0, 0, 0, 0, 0, 0]) (hE [0, 0, 0, 0, 0, 0, 0, 0, 0, 0])
def hS_words_15 : pSt := pMk 4 4 0 0 4 2 0 mF0 (fun _ => 0) (fun _ => 0) (fun _ => 0) hS_words_14.fo hS_words_14.ro (pB19 hS_words_7.mv 3 ((nI 1000)).toInt64 ((-1)).toInt64 ((nI 1)).toInt64 ((nI 0)).toInt64) hS_words_14.pr hS_words_14.ea hS_words_14.eb
def hS_words_16 : pSt := pMk 4 4 0 0 4 2 0 mF0 (fun _ => 0) (fun _ => 0) (fun _ => 0) (hL [0, 0, 0, 0, 0, 0, 0, 0, 0, 0, 0, 0, 0, 0, 0, 0, 0, 0, 0, 0, 0, 0, 0, 0, 0, 0, 0, 0, 0, 0, 0, 0]) (hL [0, 0, 0, 0, 0, 0, 0, 0, 0, 0, 0, 0, 0, 0, 0, 0, 0, 0, 0, 0, 0, 0, 0, 0, 0, 0, 0, 0, 0, 0, 0, 0]) hS_words_15.mv (hL [1000, (-1), 1, 0]) (hE [0, 0, 0, 0, 0, 0, 0, 0, 0, 0]) (hE [0, 0, 0, 0, 0, 0, 0, 0, 0, 0])
def hS_words_17 : pSt := pMk 4 4 0 0 4 2 0 mF0 (fun _ => 0) (fun _ => 0) (fun _ => 0) (hL [0, 0, 0, 0, 0, 0, 0, 0, 0, 0, 0, 0, 0, 0, 0, 0, 0, 0, 0, 0, 0, 0, 0, 0, 0, 0, 0, 0, 0, 0, 0, 0]) (hL [0, 0, 0, 0, 0, 0, 0, 0, 0, 0, 0, 0, 0, 0, 0, 0, 0, 0, 0, 0, 0, 0, 0, 0, 0, 0, 0, 0, 0, 0, 0, 0]) hS_words_15.mv (hL [999999, (-1000), 1000, (-1)]) (hE [0, 0, 0, 0, 0, 0, 0, 0, 0, 0]) (hE [0, 0, 0, 0, 0, 0, 0, 0, 0, 0])
def hS_words_18 : pSt := pMk 4 4 0 0 4 2 0 mF0 (fun _ => 0) (fun _ => 0) (fun _ => 0) (hL [0, 0, 0, 0, 0, 0, 0, 0, 0, 0, 0, 0, 0, 0, 0, 0, 0, 0, 0, 0, 0, 0, 0, 0, 0, 0, 0, 0, 0, 0, 0, 0]) (hL [0, 0, 0, 0, 0, 0, 0, 0, 0, 0, 0, 0, 0, 0, 0, 0, 0, 0, 0, 0, 0, 0, 0, 0, 0, 0, 0, 0, 0, 0, 0, 0]) hS_words_15.mv (hL [999998000, (-999999), 999999, (-1000)]) (hE [0, 0, 0, 0, 0, 0, 0, 0, 0, 0]) (hE [0, 0, 0, 0, 0, 0, 0, 0, 0, 0])
def hS_words_19 : pSt := pMk 4 4 0 0 4 2 0 mF0 (fun _ => 0) (fun _ => 0) (fun _ => 0) (hL [0, 0, 0, 0, 0, 0, 0, 0, 0, 0, 0, 0, 0, 0, 0, 0, 0, 0, 0, 0, 0, 0, 0, 0, 0, 0, 0, 0, 0, 0, 0, 0]) (hL [0, 0, 0, 0, 0, 0, 0, 0, 0, 0, 0, 0, 0, 0, 0, 0, 0, 0, 0, 0, 0, 0, 0, 0, 0, 0, 0, 0, 0, 0, 0, 0]) hS_words_15.mv (hL [999999, (-1000), 1000, (-1)]) (hE [0, 0, 0, 0, 0, 0, 0, 0, 0, 0]) (hE [0, 0, 0, 0, 0, 0, 0, 0, 0, 0])
def hS_words_20 : pSt := pMk 4 4 0 0 4 2 0 mF0 (fun _ => 0) (fun _ => 0) (fun _ => 0) (hL [0, 0, 0, 0, 0, 0, 0, 0, 0, 0, 0, 0, 0, 0, 0, 0, 0, 0, 0, 0, 0, 0, 0, 0, 0, 0, 0, 0, 0, 0, 0, 0]) (hL [0, 0, 0, 0, 0, 0, 0, 0, 0, 0, 0, 0, 0, 0, 0, 0, 0, 0, 0, 0, 0, 0, 0, 0, 0, 0, 0, 0, 0, 0, 0, 0]) hS_words_15.mv (hL [1000, (-1), 1, 0]) (hE [0, 0, 0, 0, 0, 0, 0, 0, 0, 0]) (hE [0, 0, 0, 0, 0, 0, 0, 0, 0, 0])
def hS_words_21 : pSt := pMk 4 4 0 0 4 2 0 mF0 (fun _ => 0) (fun _ => 0) (fun _ => 0) (hL [0, 0, 0, 0, 0, 0, 0, 0, 0, 0, 0, 0, 0, 0, 0, 0, 0, 0, 0, 0, 0, 0, 0, 0, 0, 0, 0, 0, 0, 0, 0, 0]) (hL [0, 0, 0, 0, 0, 0, 0, 0, 0, 0, 0, 0, 0, 0, 0, 0, 0, 0, 0, 0, 0, 0, 0, 0, 0, 0, 0, 0, 0, 0, 0, 0]) hS_words_15.mv (hL [1, 0, 0, 1]) (hE [0, 0, 0, 0, 0, 0, 0, 0, 0, 0]) (hE [0, 0, 0, 0, 0, 0, 0, 0, 0, 0])
set_option maxHeartbeats 16000000 in
set_option maxRecDepth 100000 in
theorem pL_words {l : Launch} (hst : l.stackTraces = false) {G : kG} {B0 : Nat} {f : kH} : Met l yL_words wsP_words rmH (kP G B0 f []) (kQi G B0 (fun r f1 => r = nI 1 ∧ True)) 9000 72000 (kAb B0) := by
  refine kMet (cc := cL_words) (maxL := 1) (ret := (some .boolean)) (by decide) rfl (Nat.le_of_ble_eq_true rfl) ?_
  intro p e s mi args below meth c H locs Q ls C hX hl hr hlocks hnm hQ
  refine k_new (X := RX8) (T := TX8) (N := 7) (ci := 8) (fs := [.null, .null, .null, .null, .null, .null, .null]) C hX (fun w9 h9 => List.mem_cons_of_mem _ (inlX8 w9 h9)) tyX8_ok (fun w9 h9 => List.mem_cons_of_mem _ (in_new w9 h9)) rfl (by decide) (Nat.le_of_ble_eq_true rfl) (Nat.le_of_ble_eq_true rfl) dL_words_0 (fun h H hn hX => ?_)
  refine lv_dup C.x C.b dL_words_3 rfl ?_
  have h0 : kCs (kst f h (.inr (8, [.null, .null, .null, .null, .null, .null, .null]))) [(h, .inr (8, [.null, .null, .null, .null, .null, .null, .null]))] := ⟨fun q hq => by rw [List.mem_singleton.mp hq]; exact kst_s _ _ _, by simp⟩
  refine k_callv (va_runI (As := []) (rest := [.ref h]) C.1 (kX8_init l G B0 _ h h0) (cwI 0 C.ts (gl_up inw_X8_init) rfl rfl rfl (C.ts (.initialized RX8) (List.mem_cons_of_mem _ (in_ini _ (by simp)))) (C.ts (.methodLink RL 126 yX8_init) (List.mem_cons_of_mem _ (in_ini _ (by simp)))) (C.ts (.instanceMethod yX8_init) (List.mem_cons_of_mem _ (in_ini _ (by simp)))) rfl hdA_X8_init ⟨Nat.le_of_ble_eq_true rfl, Nat.le_of_ble_eq_true rfl⟩) (k_preS C hX) rfl rfl hl.1 rfl (lv_room (Nat.le_of_ble_eq_true rfl)) dL_words_4 ⟨Nat.le_of_ble_eq_true rfl, Nat.le_of_ble_eq_true rfl⟩) hX (fun f H locs hp hX => ?_)
  obtain ⟨sp, nA, tA, dl, gl, rw9, sA, wA, ml, pp, nn, wL, qm, rm9, h1, -, -⟩ := hp
  have hI : Inv G h f p0 := Inv_start h1
  refine W.widen (k := 24) (n := 600) (by decide) (by decide) ?_
  refine lv_astore_n (lv' := [(0, .ref h)]) C.x C.b dL_words_7 rfl hl (by decide) rfl (fun ls hl => ?_)
  refine lv_aload_n C.x C.b dL_words_8 rfl (lv_at hl 0 rfl) ?_
  refine lv_iconst (v := (nI 1)) C.x C.b dL_words_9 (by decide) ?_
  refine lv_iconst (v := (nI 0)) C.x C.b dL_words_10 (by decide) ?_
  refine lv_iconst (v := (nI 0)) C.x C.b dL_words_11 (by decide) ?_
  refine lv_iconst (v := (nI 1)) C.x C.b dL_words_12 (by decide) ?_
  refine lv_iconst (v := (nI 0)) C.x C.b dL_words_13 (by decide) ?_
  refine k_law (As := [.ref h, .int (nI 1), .int (nI 0), .int (nI 0), .int (nI 1), .int (nI 0)]) (rest := []) (c2 := 104) (s2 := 1240) (m1 := p0) C hX (pL_word hst hI (nI 1) (nI 0) (nI 0) (nI 1) (nI 0) (ev_word (by decide +kernel) (by decide +kernel)) (ev_word (by decide +kernel) (by decide +kernel)) (ev_word (by decide +kernel) (by decide +kernel)) (ev_word (by decide +kernel) (by decide +kernel)) (ev_word (by decide +kernel) (by decide +kernel))) (gl_up inv_L_word) rfl rfl rfl hdP_L_word ⟨Nat.le_of_ble_eq_true rfl, Nat.le_of_ble_eq_true rfl⟩ rfl hl.1 rfl (by decide) dL_words_14 ⟨Nat.le_of_ble_eq_true rfl, Nat.le_of_ble_eq_true rfl⟩ rfl rfl (fun f H locs hX hI => ?_)
  refine lv_if_eq (tgt := 264) C.x C.b dL_words_17 (by decide) (fun q9 => absurd q9 (by decide)) (fun _ => ?_)
  refine lv_aload_n C.x C.b dL_words_20 rfl (lv_at hl 0 rfl) ?_
  refine lv_bipush (v := (-7)) C.x C.b dL_words_21 (by decide) ?_
  refine lv_iconst (v := (nI 3)) C.x C.b dL_words_23 (by decide) ?_
  refine lv_ldc2 (v := (-7)) C.x C.b C.ow (C.ts _ (List.mem_cons_of_mem _ lkC_694)) dL_words_24 ?_
  refine lv_ldc2 (v := 3) C.x C.b C.ow (C.ts _ (List.mem_cons_of_mem _ lkC_655)) dL_words_27 ?_
  refine k_law (As := [.ref h, .int (-7), .int (nI 3), .long (-7), .long 3]) (rest := []) (c2 := 184) (s2 := 1880) (m1 := p0) C hX (pL_image hst hI (-7) (nI 3) (-7) 3 (ev_image (by decide +kernel) (by decide +kernel)) (ev_image (by decide +kernel) (by decide +kernel))) (gl_up inv_L_image) rfl rfl rfl hdP_L_image ⟨Nat.le_of_ble_eq_true rfl, Nat.le_of_ble_eq_true rfl⟩ rfl hl.1 rfl (by decide) dL_words_30 ⟨Nat.le_of_ble_eq_true rfl, Nat.le_of_ble_eq_true rfl⟩ rfl rfl (fun f H locs hX hI => ?_)
  refine lv_if_eq (tgt := 264) C.x C.b dL_words_33 (by decide) (fun q9 => absurd q9 (by decide)) (fun _ => ?_)
  refine lv_aload_n C.x C.b dL_words_36 rfl (lv_at hl 0 rfl) ?_
  refine lv_iconst (v := (nI 1)) C.x C.b dL_words_37 (by decide) ?_
  refine lv_iconst (v := (nI 0)) C.x C.b dL_words_38 (by decide) ?_
  refine lv_lconst (v := 1) C.x C.b dL_words_39 (by decide) ?_
  refine lv_lconst (v := 0) C.x C.b dL_words_40 (by decide) ?_
  refine k_law (As := [.ref h, .int (nI 1), .int (nI 0), .long 1, .long 0]) (rest := []) (c2 := 264) (s2 := 2520) (m1 := p0) C hX (pL_image hst hI (nI 1) (nI 0) 1 0 (ev_image (by decide +kernel) (by decide +kernel)) (ev_image (by decide +kernel) (by decide +kernel))) (gl_up inv_L_image) rfl rfl rfl hdP_L_image ⟨Nat.le_of_ble_eq_true rfl, Nat.le_of_ble_eq_true rfl⟩ rfl hl.1 rfl (by decide) dL_words_41 ⟨Nat.le_of_ble_eq_true rfl, Nat.le_of_ble_eq_true rfl⟩ rfl rfl (fun f H locs hX hI => ?_)
  refine lv_if_eq (tgt := 264) C.x C.b dL_words_44 (by decide) (fun q9 => absurd q9 (by decide)) (fun _ => ?_)
  refine lv_aload_n C.x C.b dL_words_47 rfl (lv_at hl 0 rfl) ?_
  refine lv_iconst (v := (nI 1)) C.x C.b dL_words_48 (by decide) ?_
  refine lv_iconst (v := (nI 2)) C.x C.b dL_words_49 (by decide) ?_
  refine lv_iconst (v := (nI 0)) C.x C.b dL_words_50 (by decide) ?_
  refine lv_iconst (v := (nI 1)) C.x C.b dL_words_51 (by decide) ?_
  refine k_cI (As := [.int (nI 1), .int (nI 2), .int (nI 0), .int (nI 1)]) (rest := []) (c2 := 272) (s2 := 2584) (v := (nI 0)) (m1 := hS_words_1) C hX (iop_tell hst hI (nI 1) (nI 2) (nI 0) (nI 1)) (ev_tell 0 (by decide +kernel) (by decide) rfl rfl) hI.hd (gl_up inv_X8_tell) rfl ⟨rfl, hdA_X8_tell⟩ (by decide) rfl hl.1 rfl (by decide) dL_words_52 ⟨Nat.le_of_ble_eq_true rfl, Nat.le_of_ble_eq_true rfl⟩ ⟨Nat.le_of_ble_eq_true rfl, Nat.le_of_ble_eq_true rfl⟩ rfl rfl (fun f H locs hX hI => ?_)
  refine lv_if_ne (tgt := 264) C.x C.b dL_words_55 (by decide) (fun q9 => absurd (by decide) q9) (fun _ => ?_)
  refine lv_aload_n C.x C.b dL_words_58 rfl (lv_at hl 0 rfl) ?_
  refine lv_iconst (v := (nI 1)) C.x C.b dL_words_59 (by decide) ?_
  refine lv_iconst (v := (nI 0)) C.x C.b dL_words_60 (by decide) ?_
  refine lv_iconst (v := (nI 2)) C.x C.b dL_words_61 (by decide) ?_
  refine lv_iconst (v := (nI 1)) C.x C.b dL_words_62 (by decide) ?_
  refine k_cI (As := [.int (nI 1), .int (nI 0), .int (nI 2), .int (nI 1)]) (rest := []) (c2 := 280) (s2 := 2648) (v := (nI 1)) (m1 := hS_words_2) C hX (iop_tell hst hI (nI 1) (nI 0) (nI 2) (nI 1)) (ev_tell 1 (by decide +kernel) (by decide) rfl rfl) hI.hd (gl_up inv_X8_tell) rfl ⟨rfl, hdA_X8_tell⟩ (by decide) rfl hl.1 rfl (by decide) dL_words_63 ⟨Nat.le_of_ble_eq_true rfl, Nat.le_of_ble_eq_true rfl⟩ ⟨Nat.le_of_ble_eq_true rfl, Nat.le_of_ble_eq_true rfl⟩ rfl rfl (fun f H locs hX hI => ?_)
  refine lv_iconst (v := (nI 1)) C.x C.b dL_words_66 (by decide) ?_
  refine lv_icmp_ne (tgt := 264) C.x C.b dL_words_67 (by decide) (fun q9 => absurd (by decide) q9) (fun _ => ?_)
  refine lv_aload_n C.x C.b dL_words_70 rfl (lv_at hl 0 rfl) ?_
  refine lv_iconst (v := (nI 0)) C.x C.b dL_words_71 (by decide) ?_
  refine lv_iconst (v := (nI 0)) C.x C.b dL_words_72 (by decide) ?_
  refine k_cI (As := [.int (nI 0), .int (nI 0)]) (rest := []) (c2 := 288) (s2 := 2712) (v := (nI 2)) (m1 := _) C hX (iop_append hst hI (nI 0) (nI 0)) (ev_append 0 (by decide +kernel) (by decide) (by decide +kernel) (by decide +kernel) rfl) hI.hd (gl_up inv_X8_append) rfl ⟨rfl, hdA_X8_append⟩ (by decide) rfl hl.1 rfl (by decide) dL_words_73 ⟨Nat.le_of_ble_eq_true rfl, Nat.le_of_ble_eq_true rfl⟩ ⟨Nat.le_of_ble_eq_true rfl, Nat.le_of_ble_eq_true rfl⟩ rfl rfl (fun f H locs hX hI => ?_)
  have hI : Inv G h f hS_words_3 := hI.cg (hL [0, 0, 0, 0, 0, 0, 0, 0, 0, 0, 0, 0, 0, 0, 0, 0, 0, 0, 0, 0, 0, 0, 0, 0, 0, 0, 0, 0, 0, 0, 0, 0]) (hL [0, 0, 0, 0, 0, 0, 0, 0, 0, 0, 0, 0, 0, 0, 0, 0, 0, 0, 0, 0, 0, 0, 0, 0, 0, 0, 0, 0, 0, 0, 0, 0]) (hL [1, 2, 0, 1]) (hE [0, 0, 0, 0, 0, 0, 0, 0, 0, 0]) (hE [0, 0, 0, 0, 0, 0, 0, 0, 0, 0]) ⟨by decide +kernel, by decide +kernel, by decide +kernel⟩
  refine lv_iconst (v := (nI 2)) C.x C.b dL_words_76 (by decide) ?_
  refine lv_icmp_ne (tgt := 264) C.x C.b dL_words_77 (by decide) (fun q9 => absurd (by decide) q9) (fun _ => ?_)
  refine lv_aload_n C.x C.b dL_words_80 rfl (lv_at hl 0 rfl) ?_
  refine lv_iconst (v := (nI 1)) C.x C.b dL_words_81 (by decide) ?_
  refine lv_iconst (v := (nI 2)) C.x C.b dL_words_82 (by decide) ?_
  refine lv_iconst (v := (nI 0)) C.x C.b dL_words_83 (by decide) ?_
  refine lv_iconst (v := (nI 1)) C.x C.b dL_words_84 (by decide) ?_
  refine lv_iconst (v := (nI 2)) C.x C.b dL_words_85 (by decide) ?_
  refine k_law (As := [.ref h, .int (nI 1), .int (nI 2), .int (nI 0), .int (nI 1), .int (nI 2)]) (rest := []) (c2 := 368) (s2 := 3352) (m1 := hS_words_3) C hX (pL_word hst hI (nI 1) (nI 2) (nI 0) (nI 1) (nI 2) (ev_word (by decide +kernel) (by decide +kernel)) (ev_word (by decide +kernel) (by decide +kernel)) (ev_word (by decide +kernel) (by decide +kernel)) (ev_word (by decide +kernel) (by decide +kernel)) (ev_word (by decide +kernel) (by decide +kernel))) (gl_up inv_L_word) rfl rfl rfl hdP_L_word ⟨Nat.le_of_ble_eq_true rfl, Nat.le_of_ble_eq_true rfl⟩ rfl hl.1 rfl (by decide) dL_words_86 ⟨Nat.le_of_ble_eq_true rfl, Nat.le_of_ble_eq_true rfl⟩ rfl rfl (fun f H locs hX hI => ?_)
  refine lv_if_eq (tgt := 264) C.x C.b dL_words_89 (by decide) (fun q9 => absurd q9 (by decide)) (fun _ => ?_)
  refine lv_aload_n C.x C.b dL_words_92 rfl (lv_at hl 0 rfl) ?_
  refine lv_iconst (v := (nI 1)) C.x C.b dL_words_93 (by decide) ?_
  refine lv_iconst (v := (nI 0)) C.x C.b dL_words_94 (by decide) ?_
  refine lv_lconst (v := 1) C.x C.b dL_words_95 (by decide) ?_
  refine lv_lconst (v := 0) C.x C.b dL_words_96 (by decide) ?_
  refine k_law (As := [.ref h, .int (nI 1), .int (nI 0), .long 1, .long 0]) (rest := []) (c2 := 448) (s2 := 3992) (m1 := hS_words_3) C hX (pL_image hst hI (nI 1) (nI 0) 1 0 (ev_image (by decide +kernel) (by decide +kernel)) (ev_image (by decide +kernel) (by decide +kernel))) (gl_up inv_L_image) rfl rfl rfl hdP_L_image ⟨Nat.le_of_ble_eq_true rfl, Nat.le_of_ble_eq_true rfl⟩ rfl hl.1 rfl (by decide) dL_words_97 ⟨Nat.le_of_ble_eq_true rfl, Nat.le_of_ble_eq_true rfl⟩ rfl rfl (fun f H locs hX hI => ?_)
  refine lv_if_eq (tgt := 264) C.x C.b dL_words_100 (by decide) (fun q9 => absurd q9 (by decide)) (fun _ => ?_)
  refine lv_aload_n C.x C.b dL_words_103 rfl (lv_at hl 0 rfl) ?_
  refine lv_bipush (v := (-5)) C.x C.b dL_words_104 (by decide) ?_
  refine lv_iconst (v := (nI 2)) C.x C.b dL_words_106 (by decide) ?_
  refine lv_ldc2 (v := (-1)) C.x C.b C.ow (C.ts _ (List.mem_cons_of_mem _ lkC_653)) dL_words_107 ?_
  refine lv_ldc2 (v := 2) C.x C.b C.ow (C.ts _ (List.mem_cons_of_mem _ lkC_654)) dL_words_110 ?_
  refine k_law (As := [.ref h, .int (-5), .int (nI 2), .long (-1), .long 2]) (rest := []) (c2 := 528) (s2 := 4632) (m1 := hS_words_3) C hX (pL_image hst hI (-5) (nI 2) (-1) 2 (ev_image (by decide +kernel) (by decide +kernel)) (ev_image (by decide +kernel) (by decide +kernel))) (gl_up inv_L_image) rfl rfl rfl hdP_L_image ⟨Nat.le_of_ble_eq_true rfl, Nat.le_of_ble_eq_true rfl⟩ rfl hl.1 rfl (by decide) dL_words_113 ⟨Nat.le_of_ble_eq_true rfl, Nat.le_of_ble_eq_true rfl⟩ rfl rfl (fun f H locs hX hI => ?_)
  refine lv_if_eq (tgt := 264) C.x C.b dL_words_116 (by decide) (fun q9 => absurd q9 (by decide)) (fun _ => ?_)
  refine lv_aload_n C.x C.b dL_words_119 rfl (lv_at hl 0 rfl) ?_
  refine lv_iconst (v := (nI 1)) C.x C.b dL_words_120 (by decide) ?_
  refine lv_iconst (v := (nI 0)) C.x C.b dL_words_121 (by decide) ?_
  refine k_cI (As := [.int (nI 1), .int (nI 0)]) (rest := []) (c2 := 536) (s2 := 4696) (v := (nI 6)) (m1 := _) C hX (iop_append hst hI (nI 1) (nI 0)) (ev_append 1 (by decide +kernel) (by decide) (by decide +kernel) (by decide +kernel) rfl) hI.hd (gl_up inv_X8_append) rfl ⟨rfl, hdA_X8_append⟩ (by decide) rfl hl.1 rfl (by decide) dL_words_122 ⟨Nat.le_of_ble_eq_true rfl, Nat.le_of_ble_eq_true rfl⟩ ⟨Nat.le_of_ble_eq_true rfl, Nat.le_of_ble_eq_true rfl⟩ rfl rfl (fun f H locs hX hI => ?_)
  have hI : Inv G h f hS_words_4 := hI.cg (hL [0, 0, 0, 0, 0, 0, 0, 0, 0, 0, 0, 0, 0, 0, 0, 0, 0, 0, 0, 0, 0, 0, 0, 0, 0, 0, 0, 0, 0, 0, 0, 0]) (hL [0, 0, 0, 0, 0, 0, 0, 0, 0, 0, 0, 0, 0, 0, 0, 0, 0, 0, 0, 0, 0, 0, 0, 0, 0, 0, 0, 0, 0, 0, 0, 0]) (hL [5, 2, 2, 1]) (hE [0, 0, 0, 0, 0, 0, 0, 0, 0, 0]) (hE [0, 0, 0, 0, 0, 0, 0, 0, 0, 0]) ⟨by decide +kernel, by decide +kernel, by decide +kernel⟩
  refine lv_bipush (v := (nI 6)) C.x C.b dL_words_125 (by decide) ?_
  refine lv_icmp_ne (tgt := 264) C.x C.b dL_words_127 (by decide) (fun q9 => absurd (by decide) q9) (fun _ => ?_)
  refine lv_aload_n C.x C.b dL_words_130 rfl (lv_at hl 0 rfl) ?_
  refine lv_iconst (v := (nI 5)) C.x C.b dL_words_131 (by decide) ?_
  refine lv_iconst (v := (nI 2)) C.x C.b dL_words_132 (by decide) ?_
  refine lv_iconst (v := (nI 2)) C.x C.b dL_words_133 (by decide) ?_
  refine lv_iconst (v := (nI 1)) C.x C.b dL_words_134 (by decide) ?_
  refine lv_iconst (v := (nI 3)) C.x C.b dL_words_135 (by decide) ?_
  refine k_law (As := [.ref h, .int (nI 5), .int (nI 2), .int (nI 2), .int (nI 1), .int (nI 3)]) (rest := []) (c2 := 616) (s2 := 5336) (m1 := hS_words_4) C hX (pL_word hst hI (nI 5) (nI 2) (nI 2) (nI 1) (nI 3) (ev_word (by decide +kernel) (by decide +kernel)) (ev_word (by decide +kernel) (by decide +kernel)) (ev_word (by decide +kernel) (by decide +kernel)) (ev_word (by decide +kernel) (by decide +kernel)) (ev_word (by decide +kernel) (by decide +kernel))) (gl_up inv_L_word) rfl rfl rfl hdP_L_word ⟨Nat.le_of_ble_eq_true rfl, Nat.le_of_ble_eq_true rfl⟩ rfl hl.1 rfl (by decide) dL_words_136 ⟨Nat.le_of_ble_eq_true rfl, Nat.le_of_ble_eq_true rfl⟩ rfl rfl (fun f H locs hX hI => ?_)
  refine lv_if_eq (tgt := 264) C.x C.b dL_words_139 (by decide) (fun q9 => absurd q9 (by decide)) (fun _ => ?_)
  refine lv_aload_n C.x C.b dL_words_142 rfl (lv_at hl 0 rfl) ?_
  refine lv_iconst (v := (nI 0)) C.x C.b dL_words_143 (by decide) ?_
  refine lv_iconst (v := (nI 1)) C.x C.b dL_words_144 (by decide) ?_
  refine lv_ldc2 (v := 2) C.x C.b C.ow (C.ts _ (List.mem_cons_of_mem _ lkC_654)) dL_words_145 ?_
  refine lv_lconst (v := 1) C.x C.b dL_words_148 (by decide) ?_
  refine k_law (As := [.ref h, .int (nI 0), .int (nI 1), .long 2, .long 1]) (rest := []) (c2 := 696) (s2 := 5976) (m1 := hS_words_4) C hX (pL_image hst hI (nI 0) (nI 1) 2 1 (ev_image (by decide +kernel) (by decide +kernel)) (ev_image (by decide +kernel) (by decide +kernel))) (gl_up inv_L_image) rfl rfl rfl hdP_L_image ⟨Nat.le_of_ble_eq_true rfl, Nat.le_of_ble_eq_true rfl⟩ rfl hl.1 rfl (by decide) dL_words_149 ⟨Nat.le_of_ble_eq_true rfl, Nat.le_of_ble_eq_true rfl⟩ rfl rfl (fun f H locs hX hI => ?_)
  refine lv_if_eq (tgt := 264) C.x C.b dL_words_152 (by decide) (fun q9 => absurd q9 (by decide)) (fun _ => ?_)
  refine lv_aload_n C.x C.b dL_words_155 rfl (lv_at hl 0 rfl) ?_
  refine lv_iconst (v := (nI 1)) C.x C.b dL_words_156 (by decide) ?_
  refine lv_iconst (v := (nI 0)) C.x C.b dL_words_157 (by decide) ?_
  refine lv_ldc2 (v := 5) C.x C.b C.ow (C.ts _ (List.mem_cons_of_mem _ lkC_679)) dL_words_158 ?_
  refine lv_ldc2 (v := 2) C.x C.b C.ow (C.ts _ (List.mem_cons_of_mem _ lkC_654)) dL_words_161 ?_
  refine k_law (As := [.ref h, .int (nI 1), .int (nI 0), .long 5, .long 2]) (rest := []) (c2 := 776) (s2 := 6616) (m1 := hS_words_4) C hX (pL_image hst hI (nI 1) (nI 0) 5 2 (ev_image (by decide +kernel) (by decide +kernel)) (ev_image (by decide +kernel) (by decide +kernel))) (gl_up inv_L_image) rfl rfl rfl hdP_L_image ⟨Nat.le_of_ble_eq_true rfl, Nat.le_of_ble_eq_true rfl⟩ rfl hl.1 rfl (by decide) dL_words_164 ⟨Nat.le_of_ble_eq_true rfl, Nat.le_of_ble_eq_true rfl⟩ rfl rfl (fun f H locs hX hI => ?_)
  refine lv_if_eq (tgt := 264) C.x C.b dL_words_167 (by decide) (fun q9 => absurd q9 (by decide)) (fun _ => ?_)
  refine lv_aload_n C.x C.b dL_words_170 rfl (lv_at hl 0 rfl) ?_
  refine lv_iconst (v := (-1)) C.x C.b dL_words_171 (by decide) ?_
  refine lv_iconst (v := (nI 2)) C.x C.b dL_words_172 (by decide) ?_
  refine lv_lconst (v := 1) C.x C.b dL_words_173 (by decide) ?_
  refine lv_lconst (v := 0) C.x C.b dL_words_174 (by decide) ?_
  refine k_law (As := [.ref h, .int (-1), .int (nI 2), .long 1, .long 0]) (rest := []) (c2 := 856) (s2 := 7256) (m1 := hS_words_4) C hX (pL_image hst hI (-1) (nI 2) 1 0 (ev_image (by decide +kernel) (by decide +kernel)) (ev_image (by decide +kernel) (by decide +kernel))) (gl_up inv_L_image) rfl rfl rfl hdP_L_image ⟨Nat.le_of_ble_eq_true rfl, Nat.le_of_ble_eq_true rfl⟩ rfl hl.1 rfl (by decide) dL_words_175 ⟨Nat.le_of_ble_eq_true rfl, Nat.le_of_ble_eq_true rfl⟩ rfl rfl (fun f H locs hX hI => ?_)
  refine lv_if_eq (tgt := 264) C.x C.b dL_words_178 (by decide) (fun q9 => absurd q9 (by decide)) (fun _ => ?_)
  refine lv_aload_n C.x C.b dL_words_181 rfl (lv_at hl 0 rfl) ?_
  refine lv_iconst (v := (-1)) C.x C.b dL_words_182 (by decide) ?_
  refine lv_iconst (v := (nI 3)) C.x C.b dL_words_183 (by decide) ?_
  refine lv_lconst (v := 1) C.x C.b dL_words_184 (by decide) ?_
  refine lv_lconst (v := 1) C.x C.b dL_words_185 (by decide) ?_
  refine k_law (As := [.ref h, .int (-1), .int (nI 3), .long 1, .long 1]) (rest := []) (c2 := 936) (s2 := 7896) (m1 := hS_words_4) C hX (pL_image hst hI (-1) (nI 3) 1 1 (ev_image (by decide +kernel) (by decide +kernel)) (ev_image (by decide +kernel) (by decide +kernel))) (gl_up inv_L_image) rfl rfl rfl hdP_L_image ⟨Nat.le_of_ble_eq_true rfl, Nat.le_of_ble_eq_true rfl⟩ rfl hl.1 rfl (by decide) dL_words_186 ⟨Nat.le_of_ble_eq_true rfl, Nat.le_of_ble_eq_true rfl⟩ rfl rfl (fun f H locs hX hI => ?_)
  refine lv_if_eq (tgt := 264) C.x C.b dL_words_189 (by decide) (fun q9 => absurd q9 (by decide)) (fun _ => ?_)
  refine lv_aload_n C.x C.b dL_words_192 rfl (lv_at hl 0 rfl) ?_
  refine lv_iconst (v := (-1)) C.x C.b dL_words_193 (by decide) ?_
  refine lv_iconst (v := (nI 1)) C.x C.b dL_words_194 (by decide) ?_
  refine lv_ldc2 (v := 3) C.x C.b C.ow (C.ts _ (List.mem_cons_of_mem _ lkC_655)) dL_words_195 ?_
  refine lv_lconst (v := 1) C.x C.b dL_words_198 (by decide) ?_
  refine k_law (As := [.ref h, .int (-1), .int (nI 1), .long 3, .long 1]) (rest := []) (c2 := 1016) (s2 := 8536) (m1 := hS_words_4) C hX (pL_image hst hI (-1) (nI 1) 3 1 (ev_image (by decide +kernel) (by decide +kernel)) (ev_image (by decide +kernel) (by decide +kernel))) (gl_up inv_L_image) rfl rfl rfl hdP_L_image ⟨Nat.le_of_ble_eq_true rfl, Nat.le_of_ble_eq_true rfl⟩ rfl hl.1 rfl (by decide) dL_words_199 ⟨Nat.le_of_ble_eq_true rfl, Nat.le_of_ble_eq_true rfl⟩ rfl rfl (fun f H locs hX hI => ?_)
  refine lv_if_eq (tgt := 264) C.x C.b dL_words_202 (by decide) (fun q9 => absurd q9 (by decide)) (fun _ => ?_)
  refine lv_aload_n C.x C.b dL_words_205 rfl (lv_at hl 0 rfl) ?_
  refine lv_ldc (v := (nI 1000000000)) C.x C.b C.ow (C.ts _ (List.mem_cons_of_mem _ lkC_641)) dL_words_206 ?_
  refine lv_ldc (v := (nI 999999999)) C.x C.b C.ow (C.ts _ (List.mem_cons_of_mem _ lkC_678)) dL_words_208 ?_
  refine lv_ldc2 (v := 6999999998) C.x C.b C.ow (C.ts _ (List.mem_cons_of_mem _ lkC_695)) dL_words_210 ?_
  refine lv_ldc2 (v := 2999999999) C.x C.b C.ow (C.ts _ (List.mem_cons_of_mem _ lkC_696)) dL_words_213 ?_
  refine k_law (As := [.ref h, .int (nI 1000000000), .int (nI 999999999), .long 6999999998, .long 2999999999]) (rest := []) (c2 := 1096) (s2 := 9176) (m1 := hS_words_4) C hX (pL_image hst hI (nI 1000000000) (nI 999999999) 6999999998 2999999999 (ev_image (by decide +kernel) (by decide +kernel)) (ev_image (by decide +kernel) (by decide +kernel))) (gl_up inv_L_image) rfl rfl rfl hdP_L_image ⟨Nat.le_of_ble_eq_true rfl, Nat.le_of_ble_eq_true rfl⟩ rfl hl.1 rfl (by decide) dL_words_216 ⟨Nat.le_of_ble_eq_true rfl, Nat.le_of_ble_eq_true rfl⟩ rfl rfl (fun f H locs hX hI => ?_)
  refine lv_if_eq (tgt := 264) C.x C.b dL_words_219 (by decide) (fun q9 => absurd q9 (by decide)) (fun _ => ?_)
  refine lv_aload_n C.x C.b dL_words_222 rfl (lv_at hl 0 rfl) ?_
  refine lv_iconst (v := (nI 1)) C.x C.b dL_words_223 (by decide) ?_
  refine lv_iconst (v := (nI 1)) C.x C.b dL_words_224 (by decide) ?_
  refine k_cI (As := [.int (nI 1), .int (nI 1)]) (rest := []) (c2 := 1104) (s2 := 9240) (v := (nI 2)) (m1 := _) C hX (iop_append hst hI (nI 1) (nI 1)) (ev_append 1 (by decide +kernel) (by decide) (by decide +kernel) (by decide +kernel) rfl) hI.hd (gl_up inv_X8_append) rfl ⟨rfl, hdA_X8_append⟩ (by decide) rfl hl.1 rfl (by decide) dL_words_225 ⟨Nat.le_of_ble_eq_true rfl, Nat.le_of_ble_eq_true rfl⟩ ⟨Nat.le_of_ble_eq_true rfl, Nat.le_of_ble_eq_true rfl⟩ rfl rfl (fun f H locs hX hI => ?_)
  have hI : Inv G h f hS_words_5 := hI.cg (hL [0, 0, 0, 0, 0, 0, 0, 0, 0, 0, 0, 0, 0, 0, 0, 0, 0, 0, 0, 0, 0, 0, 0, 0, 0, 0, 0, 0, 0, 0, 0, 0]) (hL [0, 0, 0, 0, 0, 0, 0, 0, 0, 0, 0, 0, 0, 0, 0, 0, 0, 0, 0, 0, 0, 0, 0, 0, 0, 0, 0, 0, 0, 0, 0, 0]) (hL [1, 2, 0, 1]) (hE [0, 0, 0, 0, 0, 0, 0, 0, 0, 0]) (hE [0, 0, 0, 0, 0, 0, 0, 0, 0, 0]) ⟨by decide +kernel, by decide +kernel, by decide +kernel⟩
  refine lv_iconst (v := (nI 2)) C.x C.b dL_words_228 (by decide) ?_
  refine lv_icmp_ne (tgt := 264) C.x C.b dL_words_229 (by decide) (fun q9 => absurd (by decide) q9) (fun _ => ?_)
  refine lv_aload_n C.x C.b dL_words_232 rfl (lv_at hl 0 rfl) ?_
  refine lv_iconst (v := (nI 1)) C.x C.b dL_words_233 (by decide) ?_
  refine lv_iconst (v := (nI 2)) C.x C.b dL_words_234 (by decide) ?_
  refine lv_iconst (v := (nI 0)) C.x C.b dL_words_235 (by decide) ?_
  refine lv_iconst (v := (nI 1)) C.x C.b dL_words_236 (by decide) ?_
  refine lv_iconst (v := (nI 2)) C.x C.b dL_words_237 (by decide) ?_
  refine k_law (As := [.ref h, .int (nI 1), .int (nI 2), .int (nI 0), .int (nI 1), .int (nI 2)]) (rest := []) (c2 := 1184) (s2 := 9880) (m1 := hS_words_5) C hX (pL_word hst hI (nI 1) (nI 2) (nI 0) (nI 1) (nI 2) (ev_word (by decide +kernel) (by decide +kernel)) (ev_word (by decide +kernel) (by decide +kernel)) (ev_word (by decide +kernel) (by decide +kernel)) (ev_word (by decide +kernel) (by decide +kernel)) (ev_word (by decide +kernel) (by decide +kernel))) (gl_up inv_L_word) rfl rfl rfl hdP_L_word ⟨Nat.le_of_ble_eq_true rfl, Nat.le_of_ble_eq_true rfl⟩ rfl hl.1 rfl (by decide) dL_words_238 ⟨Nat.le_of_ble_eq_true rfl, Nat.le_of_ble_eq_true rfl⟩ rfl rfl (fun f H locs hX hI => ?_)
  refine lv_if_eq (tgt := 264) C.x C.b dL_words_241 (by decide) (fun q9 => absurd q9 (by decide)) (fun _ => ?_)
  refine lv_aload_n C.x C.b dL_words_244 rfl (lv_at hl 0 rfl) ?_
  refine k_cI (As := []) (rest := []) (c2 := 1192) (s2 := 9944) (v := (nI 2)) (m1 := _) C hX (iop_home hst hI) (ev_home (by decide +kernel) rfl) hI.hd (gl_up inv_X8_home) rfl ⟨rfl, hdA_X8_home⟩ (by decide) rfl hl.1 rfl (by decide) dL_words_245 ⟨Nat.le_of_ble_eq_true rfl, Nat.le_of_ble_eq_true rfl⟩ ⟨Nat.le_of_ble_eq_true rfl, Nat.le_of_ble_eq_true rfl⟩ rfl rfl (fun f H locs hX hI => ?_)
  have hI : Inv G h f hS_words_6 := hI.cg (hL [0, 0, 0, 0, 0, 0, 0, 0, 0, 0, 0, 0, 0, 0, 0, 0, 0, 0, 0, 0, 0, 0, 0, 0, 0, 0, 0, 0, 0, 0, 0, 0]) (hL [0, 0, 0, 0, 0, 0, 0, 0, 0, 0, 0, 0, 0, 0, 0, 0, 0, 0, 0, 0, 0, 0, 0, 0, 0, 0, 0, 0, 0, 0, 0, 0]) (hL [1, 0, 0, 1]) (hE [0, 0, 0, 0, 0, 0, 0, 0, 0, 0]) (hE [0, 0, 0, 0, 0, 0, 0, 0, 0, 0]) ⟨by decide +kernel, by decide +kernel, by decide +kernel⟩
  refine lv_iconst (v := (nI 2)) C.x C.b dL_words_248 (by decide) ?_
  refine lv_icmp_ne (tgt := 264) C.x C.b dL_words_249 (by decide) (fun q9 => absurd (by decide) q9) (fun _ => ?_)
  refine lv_aload_n C.x C.b dL_words_252 rfl (lv_at hl 0 rfl) ?_
  refine lv_iconst (v := (nI 1)) C.x C.b dL_words_253 (by decide) ?_
  refine lv_iconst (v := (nI 0)) C.x C.b dL_words_254 (by decide) ?_
  refine lv_iconst (v := (nI 0)) C.x C.b dL_words_255 (by decide) ?_
  refine lv_iconst (v := (nI 1)) C.x C.b dL_words_256 (by decide) ?_
  refine lv_iconst (v := (nI 0)) C.x C.b dL_words_257 (by decide) ?_
  refine k_law (As := [.ref h, .int (nI 1), .int (nI 0), .int (nI 0), .int (nI 1), .int (nI 0)]) (rest := []) (c2 := 1272) (s2 := 10584) (m1 := hS_words_6) C hX (pL_word hst hI (nI 1) (nI 0) (nI 0) (nI 1) (nI 0) (ev_word (by decide +kernel) (by decide +kernel)) (ev_word (by decide +kernel) (by decide +kernel)) (ev_word (by decide +kernel) (by decide +kernel)) (ev_word (by decide +kernel) (by decide +kernel)) (ev_word (by decide +kernel) (by decide +kernel))) (gl_up inv_L_word) rfl rfl rfl hdP_L_word ⟨Nat.le_of_ble_eq_true rfl, Nat.le_of_ble_eq_true rfl⟩ rfl hl.1 rfl (by decide) dL_words_258 ⟨Nat.le_of_ble_eq_true rfl, Nat.le_of_ble_eq_true rfl⟩ rfl rfl (fun f H locs hX hI => ?_)
  refine lv_if_ne (tgt := 266) C.x C.b dL_words_261 (by decide) (fun _ => ?_) (fun q9 => absurd q9 (by decide))
  refine lv_aload_n C.x C.b dL_words_266 rfl (lv_at hl 0 rfl) ?_
  refine lv_iconst (v := (nI 0)) C.x C.b dL_words_267 (by decide) ?_
  refine lv_iconst (v := (-1)) C.x C.b dL_words_268 (by decide) ?_
  refine lv_iconst (v := (nI 1)) C.x C.b dL_words_269 (by decide) ?_
  refine lv_iconst (v := (nI 0)) C.x C.b dL_words_270 (by decide) ?_
  refine k_cI (As := [.int (nI 0), .int (-1), .int (nI 1), .int (nI 0)]) (rest := []) (c2 := 1280) (s2 := 10648) (v := (nI 2)) (m1 := hS_words_7) C hX (iop_tell hst hI (nI 0) (-1) (nI 1) (nI 0)) (ev_tell 2 (by decide +kernel) (by decide) rfl rfl) hI.hd (gl_up inv_X8_tell) rfl ⟨rfl, hdA_X8_tell⟩ (by decide) rfl hl.1 rfl (by decide) dL_words_271 ⟨Nat.le_of_ble_eq_true rfl, Nat.le_of_ble_eq_true rfl⟩ ⟨Nat.le_of_ble_eq_true rfl, Nat.le_of_ble_eq_true rfl⟩ rfl rfl (fun f H locs hX hI => ?_)
  refine lv_iconst (v := (nI 2)) C.x C.b dL_words_274 (by decide) ?_
  refine lv_icmp_ne (tgt := 488) C.x C.b dL_words_275 (by decide) (fun q9 => absurd (by decide) q9) (fun _ => ?_)
  refine lv_aload_n C.x C.b dL_words_278 rfl (lv_at hl 0 rfl) ?_
  refine lv_iconst (v := (nI 2)) C.x C.b dL_words_279 (by decide) ?_
  refine lv_iconst (v := (nI 0)) C.x C.b dL_words_280 (by decide) ?_
  refine k_cI (As := [.int (nI 2), .int (nI 0)]) (rest := []) (c2 := 1288) (s2 := 10712) (v := (nI 0)) (m1 := _) C hX (iop_append hst hI (nI 2) (nI 0)) (ev_append 2 (by decide +kernel) (by decide) (by decide +kernel) (by decide +kernel) rfl) hI.hd (gl_up inv_X8_append) rfl ⟨rfl, hdA_X8_append⟩ (by decide) rfl hl.1 rfl (by decide) dL_words_281 ⟨Nat.le_of_ble_eq_true rfl, Nat.le_of_ble_eq_true rfl⟩ ⟨Nat.le_of_ble_eq_true rfl, Nat.le_of_ble_eq_true rfl⟩ rfl rfl (fun f H locs hX hI => ?_)
  have hI : Inv G h f hS_words_8 := hI.cg (hL [0, 0, 0, 0, 0, 0, 0, 0, 0, 0, 0, 0, 0, 0, 0, 0, 0, 0, 0, 0, 0, 0, 0, 0, 0, 0, 0, 0, 0, 0, 0, 0]) (hL [0, 0, 0, 0, 0, 0, 0, 0, 0, 0, 0, 0, 0, 0, 0, 0, 0, 0, 0, 0, 0, 0, 0, 0, 0, 0, 0, 0, 0, 0, 0, 0]) (hL [0, (-1), 1, 0]) (hE [0, 0, 0, 0, 0, 0, 0, 0, 0, 0]) (hE [0, 0, 0, 0, 0, 0, 0, 0, 0, 0]) ⟨by decide +kernel, by decide +kernel, by decide +kernel⟩
  refine lv_if_ne (tgt := 488) C.x C.b dL_words_284 (by decide) (fun q9 => absurd (by decide) q9) (fun _ => ?_)
  refine lv_aload_n C.x C.b dL_words_287 rfl (lv_at hl 0 rfl) ?_
  refine lv_iconst (v := (nI 0)) C.x C.b dL_words_288 (by decide) ?_
  refine lv_iconst (v := (-1)) C.x C.b dL_words_289 (by decide) ?_
  refine lv_iconst (v := (nI 1)) C.x C.b dL_words_290 (by decide) ?_
  refine lv_iconst (v := (nI 0)) C.x C.b dL_words_291 (by decide) ?_
  refine lv_iconst (v := (nI 1)) C.x C.b dL_words_292 (by decide) ?_
  refine k_law (As := [.ref h, .int (nI 0), .int (-1), .int (nI 1), .int (nI 0), .int (nI 1)]) (rest := []) (c2 := 1368) (s2 := 11352) (m1 := hS_words_8) C hX (pL_word hst hI (nI 0) (-1) (nI 1) (nI 0) (nI 1) (ev_word (by decide +kernel) (by decide +kernel)) (ev_word (by decide +kernel) (by decide +kernel)) (ev_word (by decide +kernel) (by decide +kernel)) (ev_word (by decide +kernel) (by decide +kernel)) (ev_word (by decide +kernel) (by decide +kernel))) (gl_up inv_L_word) rfl rfl rfl hdP_L_word ⟨Nat.le_of_ble_eq_true rfl, Nat.le_of_ble_eq_true rfl⟩ rfl hl.1 rfl (by decide) dL_words_293 ⟨Nat.le_of_ble_eq_true rfl, Nat.le_of_ble_eq_true rfl⟩ rfl rfl (fun f H locs hX hI => ?_)
  refine lv_if_eq (tgt := 488) C.x C.b dL_words_296 (by decide) (fun q9 => absurd q9 (by decide)) (fun _ => ?_)
  refine lv_aload_n C.x C.b dL_words_299 rfl (lv_at hl 0 rfl) ?_
  refine lv_iconst (v := (nI 1)) C.x C.b dL_words_300 (by decide) ?_
  refine lv_iconst (v := (nI 2)) C.x C.b dL_words_301 (by decide) ?_
  refine lv_ldc2 (v := (-2)) C.x C.b C.ow (C.ts _ (List.mem_cons_of_mem _ lkC_664)) dL_words_302 ?_
  refine lv_lconst (v := 1) C.x C.b dL_words_305 (by decide) ?_
  refine k_law (As := [.ref h, .int (nI 1), .int (nI 2), .long (-2), .long 1]) (rest := []) (c2 := 1448) (s2 := 11992) (m1 := hS_words_8) C hX (pL_image hst hI (nI 1) (nI 2) (-2) 1 (ev_image (by decide +kernel) (by decide +kernel)) (ev_image (by decide +kernel) (by decide +kernel))) (gl_up inv_L_image) rfl rfl rfl hdP_L_image ⟨Nat.le_of_ble_eq_true rfl, Nat.le_of_ble_eq_true rfl⟩ rfl hl.1 rfl (by decide) dL_words_306 ⟨Nat.le_of_ble_eq_true rfl, Nat.le_of_ble_eq_true rfl⟩ rfl rfl (fun f H locs hX hI => ?_)
  refine lv_if_eq (tgt := 488) C.x C.b dL_words_309 (by decide) (fun q9 => absurd q9 (by decide)) (fun _ => ?_)
  refine lv_aload_n C.x C.b dL_words_312 rfl (lv_at hl 0 rfl) ?_
  refine lv_iconst (v := (nI 0)) C.x C.b dL_words_313 (by decide) ?_
  refine lv_iconst (v := (nI 1)) C.x C.b dL_words_314 (by decide) ?_
  refine lv_lconst (v := 1) C.x C.b dL_words_315 (by decide) ?_
  refine lv_lconst (v := 0) C.x C.b dL_words_316 (by decide) ?_
  refine k_law (As := [.ref h, .int (nI 0), .int (nI 1), .long 1, .long 0]) (rest := []) (c2 := 1528) (s2 := 12632) (m1 := hS_words_8) C hX (pL_image hst hI (nI 0) (nI 1) 1 0 (ev_image (by decide +kernel) (by decide +kernel)) (ev_image (by decide +kernel) (by decide +kernel))) (gl_up inv_L_image) rfl rfl rfl hdP_L_image ⟨Nat.le_of_ble_eq_true rfl, Nat.le_of_ble_eq_true rfl⟩ rfl hl.1 rfl (by decide) dL_words_317 ⟨Nat.le_of_ble_eq_true rfl, Nat.le_of_ble_eq_true rfl⟩ rfl rfl (fun f H locs hX hI => ?_)
  refine lv_if_eq (tgt := 488) C.x C.b dL_words_320 (by decide) (fun q9 => absurd q9 (by decide)) (fun _ => ?_)
  refine lv_aload_n C.x C.b dL_words_323 rfl (lv_at hl 0 rfl) ?_
  refine lv_bipush (v := (-3)) C.x C.b dL_words_324 (by decide) ?_
  refine lv_iconst (v := (nI 2)) C.x C.b dL_words_326 (by decide) ?_
  refine lv_ldc2 (v := 2) C.x C.b C.ow (C.ts _ (List.mem_cons_of_mem _ lkC_654)) dL_words_327 ?_
  refine lv_ldc2 (v := 3) C.x C.b C.ow (C.ts _ (List.mem_cons_of_mem _ lkC_655)) dL_words_330 ?_
  refine k_law (As := [.ref h, .int (-3), .int (nI 2), .long 2, .long 3]) (rest := []) (c2 := 1608) (s2 := 13272) (m1 := hS_words_8) C hX (pL_image hst hI (-3) (nI 2) 2 3 (ev_image (by decide +kernel) (by decide +kernel)) (ev_image (by decide +kernel) (by decide +kernel))) (gl_up inv_L_image) rfl rfl rfl hdP_L_image ⟨Nat.le_of_ble_eq_true rfl, Nat.le_of_ble_eq_true rfl⟩ rfl hl.1 rfl (by decide) dL_words_333 ⟨Nat.le_of_ble_eq_true rfl, Nat.le_of_ble_eq_true rfl⟩ rfl rfl (fun f H locs hX hI => ?_)
  refine lv_if_eq (tgt := 488) C.x C.b dL_words_336 (by decide) (fun q9 => absurd q9 (by decide)) (fun _ => ?_)
  refine lv_aload_n C.x C.b dL_words_339 rfl (lv_at hl 0 rfl) ?_
  refine lv_iconst (v := (nI 2)) C.x C.b dL_words_340 (by decide) ?_
  refine lv_iconst (v := (nI 0)) C.x C.b dL_words_341 (by decide) ?_
  refine k_cI (As := [.int (nI 2), .int (nI 0)]) (rest := []) (c2 := 1616) (s2 := 13336) (v := (-2)) (m1 := _) C hX (iop_append hst hI (nI 2) (nI 0)) (ev_append 2 (by decide +kernel) (by decide) (by decide +kernel) (by decide +kernel) rfl) hI.hd (gl_up inv_X8_append) rfl ⟨rfl, hdA_X8_append⟩ (by decide) rfl hl.1 rfl (by decide) dL_words_342 ⟨Nat.le_of_ble_eq_true rfl, Nat.le_of_ble_eq_true rfl⟩ ⟨Nat.le_of_ble_eq_true rfl, Nat.le_of_ble_eq_true rfl⟩ rfl rfl (fun f H locs hX hI => ?_)
  have hI : Inv G h f hS_words_9 := hI.cg (hL [0, 0, 0, 0, 0, 0, 0, 0, 0, 0, 0, 0, 0, 0, 0, 0, 0, 0, 0, 0, 0, 0, 0, 0, 0, 0, 0, 0, 0, 0, 0, 0]) (hL [0, 0, 0, 0, 0, 0, 0, 0, 0, 0, 0, 0, 0, 0, 0, 0, 0, 0, 0, 0, 0, 0, 0, 0, 0, 0, 0, 0, 0, 0, 0, 0]) (hL [(-1), 0, 0, (-1)]) (hE [0, 0, 0, 0, 0, 0, 0, 0, 0, 0]) (hE [0, 0, 0, 0, 0, 0, 0, 0, 0, 0]) ⟨by decide +kernel, by decide +kernel, by decide +kernel⟩
  refine lv_bipush (v := (-2)) C.x C.b dL_words_345 (by decide) ?_
  refine lv_icmp_ne (tgt := 488) C.x C.b dL_words_347 (by decide) (fun q9 => absurd (by decide) q9) (fun _ => ?_)
  refine lv_aload_n C.x C.b dL_words_350 rfl (lv_at hl 0 rfl) ?_
  refine lv_iconst (v := (-1)) C.x C.b dL_words_351 (by decide) ?_
  refine lv_iconst (v := (nI 0)) C.x C.b dL_words_352 (by decide) ?_
  refine lv_iconst (v := (nI 0)) C.x C.b dL_words_353 (by decide) ?_
  refine lv_iconst (v := (-1)) C.x C.b dL_words_354 (by decide) ?_
  refine lv_iconst (v := (nI 0)) C.x C.b dL_words_355 (by decide) ?_
  refine k_law (As := [.ref h, .int (-1), .int (nI 0), .int (nI 0), .int (-1), .int (nI 0)]) (rest := []) (c2 := 1696) (s2 := 13976) (m1 := hS_words_9) C hX (pL_word hst hI (-1) (nI 0) (nI 0) (-1) (nI 0) (ev_word (by decide +kernel) (by decide +kernel)) (ev_word (by decide +kernel) (by decide +kernel)) (ev_word (by decide +kernel) (by decide +kernel)) (ev_word (by decide +kernel) (by decide +kernel)) (ev_word (by decide +kernel) (by decide +kernel))) (gl_up inv_L_word) rfl rfl rfl hdP_L_word ⟨Nat.le_of_ble_eq_true rfl, Nat.le_of_ble_eq_true rfl⟩ rfl hl.1 rfl (by decide) dL_words_356 ⟨Nat.le_of_ble_eq_true rfl, Nat.le_of_ble_eq_true rfl⟩ rfl rfl (fun f H locs hX hI => ?_)
  refine lv_if_eq (tgt := 488) C.x C.b dL_words_359 (by decide) (fun q9 => absurd q9 (by decide)) (fun _ => ?_)
  refine lv_aload_n C.x C.b dL_words_362 rfl (lv_at hl 0 rfl) ?_
  refine lv_iconst (v := (nI 1)) C.x C.b dL_words_363 (by decide) ?_
  refine lv_iconst (v := (nI 2)) C.x C.b dL_words_364 (by decide) ?_
  refine lv_lconst (v := 1) C.x C.b dL_words_365 (by decide) ?_
  refine lv_ldc2 (v := 2) C.x C.b C.ow (C.ts _ (List.mem_cons_of_mem _ lkC_654)) dL_words_366 ?_
  refine k_law (As := [.ref h, .int (nI 1), .int (nI 2), .long 1, .long 2]) (rest := []) (c2 := 1776) (s2 := 14616) (m1 := hS_words_9) C hX (pL_image hst hI (nI 1) (nI 2) 1 2 (ev_image (by decide +kernel) (by decide +kernel)) (ev_image (by decide +kernel) (by decide +kernel))) (gl_up inv_L_image) rfl rfl rfl hdP_L_image ⟨Nat.le_of_ble_eq_true rfl, Nat.le_of_ble_eq_true rfl⟩ rfl hl.1 rfl (by decide) dL_words_369 ⟨Nat.le_of_ble_eq_true rfl, Nat.le_of_ble_eq_true rfl⟩ rfl rfl (fun f H locs hX hI => ?_)
  refine lv_if_eq (tgt := 488) C.x C.b dL_words_372 (by decide) (fun q9 => absurd q9 (by decide)) (fun _ => ?_)
  refine lv_aload_n C.x C.b dL_words_375 rfl (lv_at hl 0 rfl) ?_
  refine lv_iconst (v := (nI 1)) C.x C.b dL_words_376 (by decide) ?_
  refine lv_iconst (v := (nI 0)) C.x C.b dL_words_377 (by decide) ?_
  refine lv_lconst (v := 1) C.x C.b dL_words_378 (by decide) ?_
  refine lv_lconst (v := 0) C.x C.b dL_words_379 (by decide) ?_
  refine k_law (As := [.ref h, .int (nI 1), .int (nI 0), .long 1, .long 0]) (rest := []) (c2 := 1856) (s2 := 15256) (m1 := hS_words_9) C hX (pL_image hst hI (nI 1) (nI 0) 1 0 (ev_image (by decide +kernel) (by decide +kernel)) (ev_image (by decide +kernel) (by decide +kernel))) (gl_up inv_L_image) rfl rfl rfl hdP_L_image ⟨Nat.le_of_ble_eq_true rfl, Nat.le_of_ble_eq_true rfl⟩ rfl hl.1 rfl (by decide) dL_words_380 ⟨Nat.le_of_ble_eq_true rfl, Nat.le_of_ble_eq_true rfl⟩ rfl rfl (fun f H locs hX hI => ?_)
  refine lv_if_eq (tgt := 488) C.x C.b dL_words_383 (by decide) (fun q9 => absurd q9 (by decide)) (fun _ => ?_)
  refine lv_aload_n C.x C.b dL_words_386 rfl (lv_at hl 0 rfl) ?_
  refine lv_iconst (v := (nI 0)) C.x C.b dL_words_387 (by decide) ?_
  refine lv_iconst (v := (nI 1)) C.x C.b dL_words_388 (by decide) ?_
  refine k_cI (As := [.int (nI 0), .int (nI 1)]) (rest := []) (c2 := 1864) (s2 := 15320) (v := (-2)) (m1 := _) C hX (iop_append hst hI (nI 0) (nI 1)) (ev_append 0 (by decide +kernel) (by decide) (by decide +kernel) (by decide +kernel) rfl) hI.hd (gl_up inv_X8_append) rfl ⟨rfl, hdA_X8_append⟩ (by decide) rfl hl.1 rfl (by decide) dL_words_389 ⟨Nat.le_of_ble_eq_true rfl, Nat.le_of_ble_eq_true rfl⟩ ⟨Nat.le_of_ble_eq_true rfl, Nat.le_of_ble_eq_true rfl⟩ rfl rfl (fun f H locs hX hI => ?_)
  have hI : Inv G h f hS_words_10 := hI.cg (hL [0, 0, 0, 0, 0, 0, 0, 0, 0, 0, 0, 0, 0, 0, 0, 0, 0, 0, 0, 0, 0, 0, 0, 0, 0, 0, 0, 0, 0, 0, 0, 0]) (hL [0, 0, 0, 0, 0, 0, 0, 0, 0, 0, 0, 0, 0, 0, 0, 0, 0, 0, 0, 0, 0, 0, 0, 0, 0, 0, 0, 0, 0, 0, 0, 0]) (hL [(-1), 2, 0, (-1)]) (hE [0, 0, 0, 0, 0, 0, 0, 0, 0, 0]) (hE [0, 0, 0, 0, 0, 0, 0, 0, 0, 0]) ⟨by decide +kernel, by decide +kernel, by decide +kernel⟩
  refine lv_bipush (v := (-2)) C.x C.b dL_words_392 (by decide) ?_
  refine lv_icmp_ne (tgt := 488) C.x C.b dL_words_394 (by decide) (fun q9 => absurd (by decide) q9) (fun _ => ?_)
  refine lv_aload_n C.x C.b dL_words_397 rfl (lv_at hl 0 rfl) ?_
  refine lv_iconst (v := (-1)) C.x C.b dL_words_398 (by decide) ?_
  refine lv_iconst (v := (nI 2)) C.x C.b dL_words_399 (by decide) ?_
  refine lv_iconst (v := (nI 0)) C.x C.b dL_words_400 (by decide) ?_
  refine lv_iconst (v := (-1)) C.x C.b dL_words_401 (by decide) ?_
  refine lv_iconst (v := (nI 2)) C.x C.b dL_words_402 (by decide) ?_
  refine k_law (As := [.ref h, .int (-1), .int (nI 2), .int (nI 0), .int (-1), .int (nI 2)]) (rest := []) (c2 := 1944) (s2 := 15960) (m1 := hS_words_10) C hX (pL_word hst hI (-1) (nI 2) (nI 0) (-1) (nI 2) (ev_word (by decide +kernel) (by decide +kernel)) (ev_word (by decide +kernel) (by decide +kernel)) (ev_word (by decide +kernel) (by decide +kernel)) (ev_word (by decide +kernel) (by decide +kernel)) (ev_word (by decide +kernel) (by decide +kernel))) (gl_up inv_L_word) rfl rfl rfl hdP_L_word ⟨Nat.le_of_ble_eq_true rfl, Nat.le_of_ble_eq_true rfl⟩ rfl hl.1 rfl (by decide) dL_words_403 ⟨Nat.le_of_ble_eq_true rfl, Nat.le_of_ble_eq_true rfl⟩ rfl rfl (fun f H locs hX hI => ?_)
  refine lv_if_eq (tgt := 488) C.x C.b dL_words_406 (by decide) (fun q9 => absurd q9 (by decide)) (fun _ => ?_)
  refine lv_aload_n C.x C.b dL_words_409 rfl (lv_at hl 0 rfl) ?_
  refine lv_iconst (v := (nI 1)) C.x C.b dL_words_410 (by decide) ?_
  refine lv_iconst (v := (nI 1)) C.x C.b dL_words_411 (by decide) ?_
  refine lv_ldc2 (v := (-1)) C.x C.b C.ow (C.ts _ (List.mem_cons_of_mem _ lkC_653)) dL_words_412 ?_
  refine lv_lconst (v := 1) C.x C.b dL_words_415 (by decide) ?_
  refine k_law (As := [.ref h, .int (nI 1), .int (nI 1), .long (-1), .long 1]) (rest := []) (c2 := 2024) (s2 := 16600) (m1 := hS_words_10) C hX (pL_image hst hI (nI 1) (nI 1) (-1) 1 (ev_image (by decide +kernel) (by decide +kernel)) (ev_image (by decide +kernel) (by decide +kernel))) (gl_up inv_L_image) rfl rfl rfl hdP_L_image ⟨Nat.le_of_ble_eq_true rfl, Nat.le_of_ble_eq_true rfl⟩ rfl hl.1 rfl (by decide) dL_words_416 ⟨Nat.le_of_ble_eq_true rfl, Nat.le_of_ble_eq_true rfl⟩ rfl rfl (fun f H locs hX hI => ?_)
  refine lv_if_eq (tgt := 488) C.x C.b dL_words_419 (by decide) (fun q9 => absurd q9 (by decide)) (fun _ => ?_)
  refine lv_aload_n C.x C.b dL_words_422 rfl (lv_at hl 0 rfl) ?_
  refine k_cI (As := []) (rest := []) (c2 := 2032) (s2 := 16664) (v := (-2)) (m1 := _) C hX (iop_home hst hI) (ev_home (by decide +kernel) rfl) hI.hd (gl_up inv_X8_home) rfl ⟨rfl, hdA_X8_home⟩ (by decide) rfl hl.1 rfl (by decide) dL_words_423 ⟨Nat.le_of_ble_eq_true rfl, Nat.le_of_ble_eq_true rfl⟩ ⟨Nat.le_of_ble_eq_true rfl, Nat.le_of_ble_eq_true rfl⟩ rfl rfl (fun f H locs hX hI => ?_)
  have hI : Inv G h f hS_words_11 := hI.cg (hL [0, 0, 0, 0, 0, 0, 0, 0, 0, 0, 0, 0, 0, 0, 0, 0, 0, 0, 0, 0, 0, 0, 0, 0, 0, 0, 0, 0, 0, 0, 0, 0]) (hL [0, 0, 0, 0, 0, 0, 0, 0, 0, 0, 0, 0, 0, 0, 0, 0, 0, 0, 0, 0, 0, 0, 0, 0, 0, 0, 0, 0, 0, 0, 0, 0]) (hL [1, 0, 0, 1]) (hE [0, 0, 0, 0, 0, 0, 0, 0, 0, 0]) (hE [0, 0, 0, 0, 0, 0, 0, 0, 0, 0]) ⟨by decide +kernel, by decide +kernel, by decide +kernel⟩
  refine lv_bipush (v := (-2)) C.x C.b dL_words_426 (by decide) ?_
  refine lv_icmp_ne (tgt := 488) C.x C.b dL_words_428 (by decide) (fun q9 => absurd (by decide) q9) (fun _ => ?_)
  refine lv_aload_n C.x C.b dL_words_431 rfl (lv_at hl 0 rfl) ?_
  refine lv_iconst (v := (nI 2)) C.x C.b dL_words_432 (by decide) ?_
  refine lv_iconst (v := (nI 1)) C.x C.b dL_words_433 (by decide) ?_
  refine k_cI (As := [.int (nI 2), .int (nI 1)]) (rest := []) (c2 := 2040) (s2 := 16728) (v := (nI 0)) (m1 := _) C hX (iop_append hst hI (nI 2) (nI 1)) (ev_append 2 (by decide +kernel) (by decide) (by decide +kernel) (by decide +kernel) rfl) hI.hd (gl_up inv_X8_append) rfl ⟨rfl, hdA_X8_append⟩ (by decide) rfl hl.1 rfl (by decide) dL_words_434 ⟨Nat.le_of_ble_eq_true rfl, Nat.le_of_ble_eq_true rfl⟩ ⟨Nat.le_of_ble_eq_true rfl, Nat.le_of_ble_eq_true rfl⟩ rfl rfl (fun f H locs hX hI => ?_)
  have hI : Inv G h f hS_words_12 := hI.cg (hL [0, 0, 0, 0, 0, 0, 0, 0, 0, 0, 0, 0, 0, 0, 0, 0, 0, 0, 0, 0, 0, 0, 0, 0, 0, 0, 0, 0, 0, 0, 0, 0]) (hL [0, 0, 0, 0, 0, 0, 0, 0, 0, 0, 0, 0, 0, 0, 0, 0, 0, 0, 0, 0, 0, 0, 0, 0, 0, 0, 0, 0, 0, 0, 0, 0]) (hL [0, 1, (-1), 0]) (hE [0, 0, 0, 0, 0, 0, 0, 0, 0, 0]) (hE [0, 0, 0, 0, 0, 0, 0, 0, 0, 0]) ⟨by decide +kernel, by decide +kernel, by decide +kernel⟩
  refine lv_if_ne (tgt := 488) C.x C.b dL_words_437 (by decide) (fun q9 => absurd (by decide) q9) (fun _ => ?_)
  refine lv_aload_n C.x C.b dL_words_440 rfl (lv_at hl 0 rfl) ?_
  refine lv_iconst (v := (nI 0)) C.x C.b dL_words_441 (by decide) ?_
  refine lv_iconst (v := (nI 1)) C.x C.b dL_words_442 (by decide) ?_
  refine lv_iconst (v := (-1)) C.x C.b dL_words_443 (by decide) ?_
  refine lv_iconst (v := (nI 0)) C.x C.b dL_words_444 (by decide) ?_
  refine lv_iconst (v := (nI 1)) C.x C.b dL_words_445 (by decide) ?_
  refine k_law (As := [.ref h, .int (nI 0), .int (nI 1), .int (-1), .int (nI 0), .int (nI 1)]) (rest := []) (c2 := 2120) (s2 := 17368) (m1 := hS_words_12) C hX (pL_word hst hI (nI 0) (nI 1) (-1) (nI 0) (nI 1) (ev_word (by decide +kernel) (by decide +kernel)) (ev_word (by decide +kernel) (by decide +kernel)) (ev_word (by decide +kernel) (by decide +kernel)) (ev_word (by decide +kernel) (by decide +kernel)) (ev_word (by decide +kernel) (by decide +kernel))) (gl_up inv_L_word) rfl rfl rfl hdP_L_word ⟨Nat.le_of_ble_eq_true rfl, Nat.le_of_ble_eq_true rfl⟩ rfl hl.1 rfl (by decide) dL_words_446 ⟨Nat.le_of_ble_eq_true rfl, Nat.le_of_ble_eq_true rfl⟩ rfl rfl (fun f H locs hX hI => ?_)
  refine lv_if_eq (tgt := 488) C.x C.b dL_words_449 (by decide) (fun q9 => absurd q9 (by decide)) (fun _ => ?_)
  refine lv_aload_n C.x C.b dL_words_452 rfl (lv_at hl 0 rfl) ?_
  refine lv_iconst (v := (nI 0)) C.x C.b dL_words_453 (by decide) ?_
  refine lv_iconst (v := (nI 0)) C.x C.b dL_words_454 (by decide) ?_
  refine k_cI (As := [.int (nI 0), .int (nI 0)]) (rest := []) (c2 := 2128) (s2 := 17432) (v := (-2)) (m1 := _) C hX (iop_append hst hI (nI 0) (nI 0)) (ev_append 0 (by decide +kernel) (by decide) (by decide +kernel) (by decide +kernel) rfl) hI.hd (gl_up inv_X8_append) rfl ⟨rfl, hdA_X8_append⟩ (by decide) rfl hl.1 rfl (by decide) dL_words_455 ⟨Nat.le_of_ble_eq_true rfl, Nat.le_of_ble_eq_true rfl⟩ ⟨Nat.le_of_ble_eq_true rfl, Nat.le_of_ble_eq_true rfl⟩ rfl rfl (fun f H locs hX hI => ?_)
  have hI : Inv G h f hS_words_13 := hI.cg (hL [0, 0, 0, 0, 0, 0, 0, 0, 0, 0, 0, 0, 0, 0, 0, 0, 0, 0, 0, 0, 0, 0, 0, 0, 0, 0, 0, 0, 0, 0, 0, 0]) (hL [0, 0, 0, 0, 0, 0, 0, 0, 0, 0, 0, 0, 0, 0, 0, 0, 0, 0, 0, 0, 0, 0, 0, 0, 0, 0, 0, 0, 0, 0, 0, 0]) (hL [0, 1, (-1), (-2)]) (hE [0, 0, 0, 0, 0, 0, 0, 0, 0, 0]) (hE [0, 0, 0, 0, 0, 0, 0, 0, 0, 0]) ⟨by decide +kernel, by decide +kernel, by decide +kernel⟩
  refine lv_bipush (v := (-2)) C.x C.b dL_words_458 (by decide) ?_
  refine lv_icmp_ne (tgt := 488) C.x C.b dL_words_460 (by decide) (fun q9 => absurd (by decide) q9) (fun _ => ?_)
  refine lv_aload_n C.x C.b dL_words_463 rfl (lv_at hl 0 rfl) ?_
  refine lv_iconst (v := (nI 0)) C.x C.b dL_words_464 (by decide) ?_
  refine lv_iconst (v := (nI 1)) C.x C.b dL_words_465 (by decide) ?_
  refine lv_iconst (v := (-1)) C.x C.b dL_words_466 (by decide) ?_
  refine lv_bipush (v := (-2)) C.x C.b dL_words_467 (by decide) ?_
  refine lv_iconst (v := (nI 2)) C.x C.b dL_words_469 (by decide) ?_
  refine k_law (As := [.ref h, .int (nI 0), .int (nI 1), .int (-1), .int (-2), .int (nI 2)]) (rest := []) (c2 := 2208) (s2 := 18072) (m1 := hS_words_13) C hX (pL_word hst hI (nI 0) (nI 1) (-1) (-2) (nI 2) (ev_word (by decide +kernel) (by decide +kernel)) (ev_word (by decide +kernel) (by decide +kernel)) (ev_word (by decide +kernel) (by decide +kernel)) (ev_word (by decide +kernel) (by decide +kernel)) (ev_word (by decide +kernel) (by decide +kernel))) (gl_up inv_L_word) rfl rfl rfl hdP_L_word ⟨Nat.le_of_ble_eq_true rfl, Nat.le_of_ble_eq_true rfl⟩ rfl hl.1 rfl (by decide) dL_words_470 ⟨Nat.le_of_ble_eq_true rfl, Nat.le_of_ble_eq_true rfl⟩ rfl rfl (fun f H locs hX hI => ?_)
  refine lv_if_eq (tgt := 488) C.x C.b dL_words_473 (by decide) (fun q9 => absurd q9 (by decide)) (fun _ => ?_)
  refine lv_aload_n C.x C.b dL_words_476 rfl (lv_at hl 0 rfl) ?_
  refine lv_iconst (v := (nI 0)) C.x C.b dL_words_477 (by decide) ?_
  refine lv_iconst (v := (nI 0)) C.x C.b dL_words_478 (by decide) ?_
  refine lv_iconst (v := (nI 3)) C.x C.b dL_words_479 (by decide) ?_
  refine lv_iconst (v := (nI 2)) C.x C.b dL_words_480 (by decide) ?_
  refine lv_iconst (v := (nI 0)) C.x C.b dL_words_481 (by decide) ?_
  refine k_law (As := [.ref h, .int (nI 0), .int (nI 0), .int (nI 3), .int (nI 2), .int (nI 0)]) (rest := []) (c2 := 5508) (s2 := 44472) (m1 := hS_words_13) C hX (pL_refuses hst hI) (gl_up inv_L_refuses) rfl rfl rfl hdP_L_refuses ⟨Nat.le_of_ble_eq_true rfl, Nat.le_of_ble_eq_true rfl⟩ rfl hl.1 rfl (by decide) dL_words_482 ⟨Nat.le_of_ble_eq_true rfl, Nat.le_of_ble_eq_true rfl⟩ rfl rfl (fun f H locs hX hI => ?_)
  refine lv_if_ne (tgt := 490) C.x C.b dL_words_485 (by decide) (fun _ => ?_) (fun q9 => absurd q9 (by decide))
  refine lv_aload_n C.x C.b dL_words_490 rfl (lv_at hl 0 rfl) ?_
  refine k_cI (As := []) (rest := []) (c2 := 5516) (s2 := 44536) (v := (-2)) (m1 := _) C hX (iop_home hst hI) (ev_home (by decide +kernel) rfl) hI.hd (gl_up inv_X8_home) rfl ⟨rfl, hdA_X8_home⟩ (by decide) rfl hl.1 rfl (by decide) dL_words_491 ⟨Nat.le_of_ble_eq_true rfl, Nat.le_of_ble_eq_true rfl⟩ ⟨Nat.le_of_ble_eq_true rfl, Nat.le_of_ble_eq_true rfl⟩ rfl rfl (fun f H locs hX hI => ?_)
  have hI : Inv G h f hS_words_14 := hI.cg (hL [0, 0, 0, 0, 0, 0, 0, 0, 0, 0, 0, 0, 0, 0, 0, 0, 0, 0, 0, 0, 0, 0, 0, 0, 0, 0, 0, 0, 0, 0, 0, 0]) (hL [0, 0, 0, 0, 0, 0, 0, 0, 0, 0, 0, 0, 0, 0, 0, 0, 0, 0, 0, 0, 0, 0, 0, 0, 0, 0, 0, 0, 0, 0, 0, 0]) (hL [1, 0, 0, 1]) (hE [0, 0, 0, 0, 0, 0, 0, 0, 0, 0]) (hE [0, 0, 0, 0, 0, 0, 0, 0, 0, 0]) ⟨by decide +kernel, by decide +kernel, by decide +kernel⟩
  refine lv_bipush (v := (-2)) C.x C.b dL_words_494 (by decide) ?_
  refine lv_icmp_ne (tgt := 664) C.x C.b dL_words_496 (by decide) (fun q9 => absurd (by decide) q9) (fun _ => ?_)
  refine lv_aload_n C.x C.b dL_words_499 rfl (lv_at hl 0 rfl) ?_
  refine lv_sipush (v := (nI 1000)) C.x C.b dL_words_500 (by decide) ?_
  refine lv_iconst (v := (-1)) C.x C.b dL_words_503 (by decide) ?_
  refine lv_iconst (v := (nI 1)) C.x C.b dL_words_504 (by decide) ?_
  refine lv_iconst (v := (nI 0)) C.x C.b dL_words_505 (by decide) ?_
  refine k_cI (As := [.int (nI 1000), .int (-1), .int (nI 1), .int (nI 0)]) (rest := []) (c2 := 5524) (s2 := 44600) (v := (nI 3)) (m1 := hS_words_15) C hX (iop_tell hst hI (nI 1000) (-1) (nI 1) (nI 0)) (ev_tell 3 (by decide +kernel) (by decide) rfl rfl) hI.hd (gl_up inv_X8_tell) rfl ⟨rfl, hdA_X8_tell⟩ (by decide) rfl hl.1 rfl (by decide) dL_words_506 ⟨Nat.le_of_ble_eq_true rfl, Nat.le_of_ble_eq_true rfl⟩ ⟨Nat.le_of_ble_eq_true rfl, Nat.le_of_ble_eq_true rfl⟩ rfl rfl (fun f H locs hX hI => ?_)
  refine lv_iconst (v := (nI 3)) C.x C.b dL_words_509 (by decide) ?_
  refine lv_icmp_ne (tgt := 664) C.x C.b dL_words_510 (by decide) (fun q9 => absurd (by decide) q9) (fun _ => ?_)
  refine lv_aload_n C.x C.b dL_words_513 rfl (lv_at hl 0 rfl) ?_
  refine lv_bipush (v := (nI 19)) C.x C.b dL_words_514 (by decide) ?_
  refine lv_iconst (v := (nI 1)) C.x C.b dL_words_516 (by decide) ?_
  refine lv_iconst (v := (nI 0)) C.x C.b dL_words_517 (by decide) ?_
  refine lv_iconst (v := (nI 0)) C.x C.b dL_words_518 (by decide) ?_
  refine lv_iconst (v := (nI 1)) C.x C.b dL_words_519 (by decide) ?_
  refine k_actI (As := [.ref h, .int (nI 19), .int (nI 1), .int (nI 0), .int (nI 0), .int (nI 1)]) (rest := []) (c2 := 5532) (s2 := 44664) (v := (-7000003)) (m1 := hS_words_15) C hX (act_19 hI.hd (nI 1) (nI 0) (nI 0) (nI 1) (iop_tell hst hI (nI 1) (nI 0) (nI 0) (nI 1))) (e_tell_s (by decide +kernel) (by decide +kernel)) (rfl) (gl_up inv_L_act) rfl hl.1 rfl (by decide) dL_words_520 ⟨Nat.le_of_ble_eq_true rfl, Nat.le_of_ble_eq_true rfl⟩ ⟨Nat.le_of_ble_eq_true rfl, Nat.le_of_ble_eq_true rfl⟩ rfl rfl (fun f H locs hX hI => ?_)
  refine lv_ldc2 (v := (-7000003)) C.x C.b C.ow (C.ts _ (List.mem_cons_of_mem _ lkC_4)) dL_words_523 ?_
  refine k_lcmp_ne (tgt := 664) C.x C.b dL_words_526 dL_words_527 (by decide) (fun q9 => absurd (by decide) q9) (fun _ => ?_)
  refine lv_aload_n C.x C.b dL_words_530 rfl (lv_at hl 0 rfl) ?_
  refine lv_iconst (v := (nI 3)) C.x C.b dL_words_531 (by decide) ?_
  refine lv_iconst (v := (nI 0)) C.x C.b dL_words_532 (by decide) ?_
  refine k_cI (As := [.int (nI 3), .int (nI 0)]) (rest := []) (c2 := 5540) (s2 := 44728) (v := (nI 1000)) (m1 := _) C hX (iop_append hst hI (nI 3) (nI 0)) (ev_append 3 (by decide +kernel) (by decide) (by decide +kernel) (by decide +kernel) rfl) hI.hd (gl_up inv_X8_append) rfl ⟨rfl, hdA_X8_append⟩ (by decide) rfl hl.1 rfl (by decide) dL_words_533 ⟨Nat.le_of_ble_eq_true rfl, Nat.le_of_ble_eq_true rfl⟩ ⟨Nat.le_of_ble_eq_true rfl, Nat.le_of_ble_eq_true rfl⟩ rfl rfl (fun f H locs hX hI => ?_)
  have hI : Inv G h f hS_words_16 := hI.cg (hL [0, 0, 0, 0, 0, 0, 0, 0, 0, 0, 0, 0, 0, 0, 0, 0, 0, 0, 0, 0, 0, 0, 0, 0, 0, 0, 0, 0, 0, 0, 0, 0]) (hL [0, 0, 0, 0, 0, 0, 0, 0, 0, 0, 0, 0, 0, 0, 0, 0, 0, 0, 0, 0, 0, 0, 0, 0, 0, 0, 0, 0, 0, 0, 0, 0]) (hL [1000, (-1), 1, 0]) (hE [0, 0, 0, 0, 0, 0, 0, 0, 0, 0]) (hE [0, 0, 0, 0, 0, 0, 0, 0, 0, 0]) ⟨by decide +kernel, by decide +kernel, by decide +kernel⟩
  refine lv_sipush (v := (nI 1000)) C.x C.b dL_words_536 (by decide) ?_
  refine lv_icmp_ne (tgt := 664) C.x C.b dL_words_539 (by decide) (fun q9 => absurd (by decide) q9) (fun _ => ?_)
  refine lv_aload_n C.x C.b dL_words_542 rfl (lv_at hl 0 rfl) ?_
  refine lv_iconst (v := (nI 3)) C.x C.b dL_words_543 (by decide) ?_
  refine lv_iconst (v := (nI 0)) C.x C.b dL_words_544 (by decide) ?_
  refine k_cI (As := [.int (nI 3), .int (nI 0)]) (rest := []) (c2 := 5548) (s2 := 44792) (v := (nI 999998)) (m1 := _) C hX (iop_append hst hI (nI 3) (nI 0)) (ev_append 3 (by decide +kernel) (by decide) (by decide +kernel) (by decide +kernel) rfl) hI.hd (gl_up inv_X8_append) rfl ⟨rfl, hdA_X8_append⟩ (by decide) rfl hl.1 rfl (by decide) dL_words_545 ⟨Nat.le_of_ble_eq_true rfl, Nat.le_of_ble_eq_true rfl⟩ ⟨Nat.le_of_ble_eq_true rfl, Nat.le_of_ble_eq_true rfl⟩ rfl rfl (fun f H locs hX hI => ?_)
  have hI : Inv G h f hS_words_17 := hI.cg (hL [0, 0, 0, 0, 0, 0, 0, 0, 0, 0, 0, 0, 0, 0, 0, 0, 0, 0, 0, 0, 0, 0, 0, 0, 0, 0, 0, 0, 0, 0, 0, 0]) (hL [0, 0, 0, 0, 0, 0, 0, 0, 0, 0, 0, 0, 0, 0, 0, 0, 0, 0, 0, 0, 0, 0, 0, 0, 0, 0, 0, 0, 0, 0, 0, 0]) (hL [999999, (-1000), 1000, (-1)]) (hE [0, 0, 0, 0, 0, 0, 0, 0, 0, 0]) (hE [0, 0, 0, 0, 0, 0, 0, 0, 0, 0]) ⟨by decide +kernel, by decide +kernel, by decide +kernel⟩
  refine lv_ldc (v := (nI 999998)) C.x C.b C.ow (C.ts _ (List.mem_cons_of_mem _ lkC_697)) dL_words_548 ?_
  refine lv_icmp_ne (tgt := 664) C.x C.b dL_words_550 (by decide) (fun q9 => absurd (by decide) q9) (fun _ => ?_)
  refine lv_aload_n C.x C.b dL_words_553 rfl (lv_at hl 0 rfl) ?_
  refine lv_iconst (v := (nI 3)) C.x C.b dL_words_554 (by decide) ?_
  refine lv_iconst (v := (nI 0)) C.x C.b dL_words_555 (by decide) ?_
  refine k_cI (As := [.int (nI 3), .int (nI 0)]) (rest := []) (c2 := 5556) (s2 := 44856) (v := (nI 999997000)) (m1 := _) C hX (iop_append hst hI (nI 3) (nI 0)) (ev_append 3 (by decide +kernel) (by decide) (by decide +kernel) (by decide +kernel) rfl) hI.hd (gl_up inv_X8_append) rfl ⟨rfl, hdA_X8_append⟩ (by decide) rfl hl.1 rfl (by decide) dL_words_556 ⟨Nat.le_of_ble_eq_true rfl, Nat.le_of_ble_eq_true rfl⟩ ⟨Nat.le_of_ble_eq_true rfl, Nat.le_of_ble_eq_true rfl⟩ rfl rfl (fun f H locs hX hI => ?_)
  have hI : Inv G h f hS_words_18 := hI.cg (hL [0, 0, 0, 0, 0, 0, 0, 0, 0, 0, 0, 0, 0, 0, 0, 0, 0, 0, 0, 0, 0, 0, 0, 0, 0, 0, 0, 0, 0, 0, 0, 0]) (hL [0, 0, 0, 0, 0, 0, 0, 0, 0, 0, 0, 0, 0, 0, 0, 0, 0, 0, 0, 0, 0, 0, 0, 0, 0, 0, 0, 0, 0, 0, 0, 0]) (hL [999998000, (-999999), 999999, (-1000)]) (hE [0, 0, 0, 0, 0, 0, 0, 0, 0, 0]) (hE [0, 0, 0, 0, 0, 0, 0, 0, 0, 0]) ⟨by decide +kernel, by decide +kernel, by decide +kernel⟩
  refine lv_ldc (v := (nI 999997000)) C.x C.b C.ow (C.ts _ (List.mem_cons_of_mem _ lkC_698)) dL_words_559 ?_
  refine lv_icmp_ne (tgt := 664) C.x C.b dL_words_561 (by decide) (fun q9 => absurd (by decide) q9) (fun _ => ?_)
  refine lv_aload_n C.x C.b dL_words_564 rfl (lv_at hl 0 rfl) ?_
  refine lv_ldc (v := (nI 999998000)) C.x C.b C.ow (C.ts _ (List.mem_cons_of_mem _ lkC_699)) dL_words_565 ?_
  refine lv_ldc (v := (-999999)) C.x C.b C.ow (C.ts _ (List.mem_cons_of_mem _ lkC_700)) dL_words_567 ?_
  refine lv_ldc (v := (nI 999999)) C.x C.b C.ow (C.ts _ (List.mem_cons_of_mem _ lkC_701)) dL_words_569 ?_
  refine lv_sipush (v := (-1000)) C.x C.b dL_words_571 (by decide) ?_
  refine lv_iconst (v := (nI 3)) C.x C.b dL_words_574 (by decide) ?_
  refine k_law (As := [.ref h, .int (nI 999998000), .int (-999999), .int (nI 999999), .int (-1000), .int (nI 3)]) (rest := []) (c2 := 5636) (s2 := 45496) (m1 := hS_words_18) C hX (pL_word hst hI (nI 999998000) (-999999) (nI 999999) (-1000) (nI 3) (ev_word (by decide +kernel) (by decide +kernel)) (ev_word (by decide +kernel) (by decide +kernel)) (ev_word (by decide +kernel) (by decide +kernel)) (ev_word (by decide +kernel) (by decide +kernel)) (ev_word (by decide +kernel) (by decide +kernel))) (gl_up inv_L_word) rfl rfl rfl hdP_L_word ⟨Nat.le_of_ble_eq_true rfl, Nat.le_of_ble_eq_true rfl⟩ rfl hl.1 rfl (by decide) dL_words_575 ⟨Nat.le_of_ble_eq_true rfl, Nat.le_of_ble_eq_true rfl⟩ rfl rfl (fun f H locs hX hI => ?_)
  refine lv_if_eq (tgt := 664) C.x C.b dL_words_578 (by decide) (fun q9 => absurd q9 (by decide)) (fun _ => ?_)
  refine lv_aload_n C.x C.b dL_words_581 rfl (lv_at hl 0 rfl) ?_
  refine lv_bipush (v := (nI 20)) C.x C.b dL_words_582 (by decide) ?_
  refine lv_iconst (v := (nI 3)) C.x C.b dL_words_584 (by decide) ?_
  refine lv_iconst (v := (nI 0)) C.x C.b dL_words_585 (by decide) ?_
  refine lv_iconst (v := (nI 0)) C.x C.b dL_words_586 (by decide) ?_
  refine lv_iconst (v := (nI 0)) C.x C.b dL_words_587 (by decide) ?_
  refine k_actI (As := [.ref h, .int (nI 20), .int (nI 3), .int (nI 0), .int (nI 0), .int (nI 0)]) (rest := []) (c2 := 5644) (s2 := 45560) (v := (-7000003)) (m1 := hS_words_18) C hX (act_20 hI.hd (nI 3) (nI 0) (nI 0) (nI 0) (z := (nI 0)) (.inr ⟨by decide, rfl⟩) (iop_append hst hI (nI 3) (nI 0))) (e_append_s (by decide +kernel) (by decide +kernel)) (rfl) (gl_up inv_L_act) rfl hl.1 rfl (by decide) dL_words_588 ⟨Nat.le_of_ble_eq_true rfl, Nat.le_of_ble_eq_true rfl⟩ ⟨Nat.le_of_ble_eq_true rfl, Nat.le_of_ble_eq_true rfl⟩ rfl rfl (fun f H locs hX hI => ?_)
  refine lv_ldc2 (v := (-7000003)) C.x C.b C.ow (C.ts _ (List.mem_cons_of_mem _ lkC_4)) dL_words_591 ?_
  refine k_lcmp_ne (tgt := 664) C.x C.b dL_words_594 dL_words_595 (by decide) (fun q9 => absurd (by decide) q9) (fun _ => ?_)
  refine lv_aload_n C.x C.b dL_words_598 rfl (lv_at hl 0 rfl) ?_
  refine lv_ldc (v := (nI 999998000)) C.x C.b C.ow (C.ts _ (List.mem_cons_of_mem _ lkC_699)) dL_words_599 ?_
  refine lv_ldc (v := (-999999)) C.x C.b C.ow (C.ts _ (List.mem_cons_of_mem _ lkC_700)) dL_words_601 ?_
  refine lv_ldc (v := (nI 999999)) C.x C.b C.ow (C.ts _ (List.mem_cons_of_mem _ lkC_701)) dL_words_603 ?_
  refine lv_sipush (v := (-1000)) C.x C.b dL_words_605 (by decide) ?_
  refine lv_iconst (v := (nI 3)) C.x C.b dL_words_608 (by decide) ?_
  refine k_law (As := [.ref h, .int (nI 999998000), .int (-999999), .int (nI 999999), .int (-1000), .int (nI 3)]) (rest := []) (c2 := 5724) (s2 := 46200) (m1 := hS_words_18) C hX (pL_word hst hI (nI 999998000) (-999999) (nI 999999) (-1000) (nI 3) (ev_word (by decide +kernel) (by decide +kernel)) (ev_word (by decide +kernel) (by decide +kernel)) (ev_word (by decide +kernel) (by decide +kernel)) (ev_word (by decide +kernel) (by decide +kernel)) (ev_word (by decide +kernel) (by decide +kernel))) (gl_up inv_L_word) rfl rfl rfl hdP_L_word ⟨Nat.le_of_ble_eq_true rfl, Nat.le_of_ble_eq_true rfl⟩ rfl hl.1 rfl (by decide) dL_words_609 ⟨Nat.le_of_ble_eq_true rfl, Nat.le_of_ble_eq_true rfl⟩ rfl rfl (fun f H locs hX hI => ?_)
  refine lv_if_eq (tgt := 664) C.x C.b dL_words_612 (by decide) (fun q9 => absurd q9 (by decide)) (fun _ => ?_)
  refine lv_aload_n C.x C.b dL_words_615 rfl (lv_at hl 0 rfl) ?_
  refine lv_iconst (v := (nI 3)) C.x C.b dL_words_616 (by decide) ?_
  refine lv_iconst (v := (nI 1)) C.x C.b dL_words_617 (by decide) ?_
  refine k_cI (As := [.int (nI 3), .int (nI 1)]) (rest := []) (c2 := 5732) (s2 := 46264) (v := (nI 999998)) (m1 := _) C hX (iop_append hst hI (nI 3) (nI 1)) (ev_append 3 (by decide +kernel) (by decide) (by decide +kernel) (by decide +kernel) rfl) hI.hd (gl_up inv_X8_append) rfl ⟨rfl, hdA_X8_append⟩ (by decide) rfl hl.1 rfl (by decide) dL_words_618 ⟨Nat.le_of_ble_eq_true rfl, Nat.le_of_ble_eq_true rfl⟩ ⟨Nat.le_of_ble_eq_true rfl, Nat.le_of_ble_eq_true rfl⟩ rfl rfl (fun f H locs hX hI => ?_)
  have hI : Inv G h f hS_words_19 := hI.cg (hL [0, 0, 0, 0, 0, 0, 0, 0, 0, 0, 0, 0, 0, 0, 0, 0, 0, 0, 0, 0, 0, 0, 0, 0, 0, 0, 0, 0, 0, 0, 0, 0]) (hL [0, 0, 0, 0, 0, 0, 0, 0, 0, 0, 0, 0, 0, 0, 0, 0, 0, 0, 0, 0, 0, 0, 0, 0, 0, 0, 0, 0, 0, 0, 0, 0]) (hL [999999, (-1000), 1000, (-1)]) (hE [0, 0, 0, 0, 0, 0, 0, 0, 0, 0]) (hE [0, 0, 0, 0, 0, 0, 0, 0, 0, 0]) ⟨by decide +kernel, by decide +kernel, by decide +kernel⟩
  refine lv_ldc (v := (nI 999998)) C.x C.b C.ow (C.ts _ (List.mem_cons_of_mem _ lkC_697)) dL_words_621 ?_
  refine lv_icmp_ne (tgt := 664) C.x C.b dL_words_623 (by decide) (fun q9 => absurd (by decide) q9) (fun _ => ?_)
  refine lv_aload_n C.x C.b dL_words_626 rfl (lv_at hl 0 rfl) ?_
  refine lv_iconst (v := (nI 3)) C.x C.b dL_words_627 (by decide) ?_
  refine lv_iconst (v := (nI 1)) C.x C.b dL_words_628 (by decide) ?_
  refine k_cI (As := [.int (nI 3), .int (nI 1)]) (rest := []) (c2 := 5740) (s2 := 46328) (v := (nI 1000)) (m1 := _) C hX (iop_append hst hI (nI 3) (nI 1)) (ev_append 3 (by decide +kernel) (by decide) (by decide +kernel) (by decide +kernel) rfl) hI.hd (gl_up inv_X8_append) rfl ⟨rfl, hdA_X8_append⟩ (by decide) rfl hl.1 rfl (by decide) dL_words_629 ⟨Nat.le_of_ble_eq_true rfl, Nat.le_of_ble_eq_true rfl⟩ ⟨Nat.le_of_ble_eq_true rfl, Nat.le_of_ble_eq_true rfl⟩ rfl rfl (fun f H locs hX hI => ?_)
  have hI : Inv G h f hS_words_20 := hI.cg (hL [0, 0, 0, 0, 0, 0, 0, 0, 0, 0, 0, 0, 0, 0, 0, 0, 0, 0, 0, 0, 0, 0, 0, 0, 0, 0, 0, 0, 0, 0, 0, 0]) (hL [0, 0, 0, 0, 0, 0, 0, 0, 0, 0, 0, 0, 0, 0, 0, 0, 0, 0, 0, 0, 0, 0, 0, 0, 0, 0, 0, 0, 0, 0, 0, 0]) (hL [1000, (-1), 1, 0]) (hE [0, 0, 0, 0, 0, 0, 0, 0, 0, 0]) (hE [0, 0, 0, 0, 0, 0, 0, 0, 0, 0]) ⟨by decide +kernel, by decide +kernel, by decide +kernel⟩
  refine lv_sipush (v := (nI 1000)) C.x C.b dL_words_632 (by decide) ?_
  refine lv_icmp_ne (tgt := 664) C.x C.b dL_words_635 (by decide) (fun q9 => absurd (by decide) q9) (fun _ => ?_)
  refine lv_aload_n C.x C.b dL_words_638 rfl (lv_at hl 0 rfl) ?_
  refine lv_iconst (v := (nI 3)) C.x C.b dL_words_639 (by decide) ?_
  refine lv_iconst (v := (nI 1)) C.x C.b dL_words_640 (by decide) ?_
  refine k_cI (As := [.int (nI 3), .int (nI 1)]) (rest := []) (c2 := 5748) (s2 := 46392) (v := (nI 2)) (m1 := _) C hX (iop_append hst hI (nI 3) (nI 1)) (ev_append 3 (by decide +kernel) (by decide) (by decide +kernel) (by decide +kernel) rfl) hI.hd (gl_up inv_X8_append) rfl ⟨rfl, hdA_X8_append⟩ (by decide) rfl hl.1 rfl (by decide) dL_words_641 ⟨Nat.le_of_ble_eq_true rfl, Nat.le_of_ble_eq_true rfl⟩ ⟨Nat.le_of_ble_eq_true rfl, Nat.le_of_ble_eq_true rfl⟩ rfl rfl (fun f H locs hX hI => ?_)
  have hI : Inv G h f hS_words_21 := hI.cg (hL [0, 0, 0, 0, 0, 0, 0, 0, 0, 0, 0, 0, 0, 0, 0, 0, 0, 0, 0, 0, 0, 0, 0, 0, 0, 0, 0, 0, 0, 0, 0, 0]) (hL [0, 0, 0, 0, 0, 0, 0, 0, 0, 0, 0, 0, 0, 0, 0, 0, 0, 0, 0, 0, 0, 0, 0, 0, 0, 0, 0, 0, 0, 0, 0, 0]) (hL [1, 0, 0, 1]) (hE [0, 0, 0, 0, 0, 0, 0, 0, 0, 0]) (hE [0, 0, 0, 0, 0, 0, 0, 0, 0, 0]) ⟨by decide +kernel, by decide +kernel, by decide +kernel⟩
  refine lv_iconst (v := (nI 2)) C.x C.b dL_words_644 (by decide) ?_
  refine lv_icmp_ne (tgt := 664) C.x C.b dL_words_645 (by decide) (fun q9 => absurd (by decide) q9) (fun _ => ?_)
  refine lv_aload_n C.x C.b dL_words_648 rfl (lv_at hl 0 rfl) ?_
  refine lv_iconst (v := (nI 1)) C.x C.b dL_words_649 (by decide) ?_
  refine lv_iconst (v := (nI 0)) C.x C.b dL_words_650 (by decide) ?_
  refine lv_iconst (v := (nI 0)) C.x C.b dL_words_651 (by decide) ?_
  refine lv_iconst (v := (nI 1)) C.x C.b dL_words_652 (by decide) ?_
  refine lv_iconst (v := (nI 0)) C.x C.b dL_words_653 (by decide) ?_
  refine k_law (As := [.ref h, .int (nI 1), .int (nI 0), .int (nI 0), .int (nI 1), .int (nI 0)]) (rest := []) (c2 := 5828) (s2 := 47032) (m1 := hS_words_21) C hX (pL_word hst hI (nI 1) (nI 0) (nI 0) (nI 1) (nI 0) (ev_word (by decide +kernel) (by decide +kernel)) (ev_word (by decide +kernel) (by decide +kernel)) (ev_word (by decide +kernel) (by decide +kernel)) (ev_word (by decide +kernel) (by decide +kernel)) (ev_word (by decide +kernel) (by decide +kernel))) (gl_up inv_L_word) rfl rfl rfl hdP_L_word ⟨Nat.le_of_ble_eq_true rfl, Nat.le_of_ble_eq_true rfl⟩ rfl hl.1 rfl (by decide) dL_words_654 ⟨Nat.le_of_ble_eq_true rfl, Nat.le_of_ble_eq_true rfl⟩ rfl rfl (fun f H locs hX hI => ?_)
  refine lv_if_eq (tgt := 664) C.x C.b dL_words_657 (by decide) (fun q9 => absurd q9 (by decide)) (fun _ => ?_)
  refine lv_iconst (v := (nI 1)) C.x C.b dL_words_660 (by decide) ?_
  refine lv_goto (tgt := 665) C.x C.b dL_words_661 (by decide) ?_
  exact k_zret C hX hr hlocks hQ (Nat.le_of_ble_eq_true rfl) (Nat.le_of_ble_eq_true rfl) (Or.inr rfl) ⟨rfl, trivial⟩ dL_words_665
