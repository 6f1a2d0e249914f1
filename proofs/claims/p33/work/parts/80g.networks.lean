def hS_networks_1 : pSt := pMk 4 4 0 0 0 3 0 mF0 (fun _ => 0) (fun _ => 0) (fun _ => 0) (fun _ => 0) (fun _ => 0) (fun _ => 0) mW0 (fun _ => 0) (fun _ => 0)
def hS_networks_2 : pSt := pMk 4 4 0 0 0 3 1 mF0 (fun _ => 0) (fun _ => 0) (fun _ => 0) (hL [0, 0, 0, 0, 0, 0, 0, 0, 0, 0, 0, 0, 0, 0, 0, 0, 0, 0, 0, 0, 0, 0, 0, 0, 0, 0, 0, 0, 0, 0, 0, 0]) (hL [0, 0, 0, 0, 0, 0, 0, 0, 0, 0, 0, 0, 0, 0, 0, 0, 0, 0, 0, 0, 0, 0, 0, 0, 0, 0, 0, 0, 0, 0, 0, 0]) (fun _ => 0) (hL [1, 0, 0, 1]) (hE [0, 0, 0, 0, 0, 0, 0, 0, 0, 0]) (hE [1, 0, 0, 0, 0, 0, 0, 0, 0, 0])
def hS_networks_3 : pSt := pMk 4 4 0 0 0 3 2 mF0 (fun _ => 0) (fun _ => 0) (fun _ => 0) (hL [0, 0, 0, 0, 0, 0, 0, 0, 0, 0, 0, 0, 0, 0, 0, 0, 0, 0, 0, 0, 0, 0, 0, 0, 0, 0, 0, 0, 0, 0, 0, 0]) (hL [0, 0, 0, 0, 0, 0, 0, 0, 0, 0, 0, 0, 0, 0, 0, 0, 0, 0, 0, 0, 0, 0, 0, 0, 0, 0, 0, 0, 0, 0, 0, 0]) (fun _ => 0) (hL [1, 0, 0, 1]) (hE [0, 1, 0, 0, 0, 0, 0, 0, 0, 0]) (hE [1, 2, 0, 0, 0, 0, 0, 0, 0, 0])
def hS_networks_4 : pSt := pMk 4 4 0 0 0 3 3 mF0 (fun _ => 0) (fun _ => 0) (fun _ => 0) (hL [0, 0, 0, 0, 0, 0, 0, 0, 0, 0, 0, 0, 0, 0, 0, 0, 0, 0, 0, 0, 0, 0, 0, 0, 0, 0, 0, 0, 0, 0, 0, 0]) (hL [0, 0, 0, 0, 0, 0, 0, 0, 0, 0, 0, 0, 0, 0, 0, 0, 0, 0, 0, 0, 0, 0, 0, 0, 0, 0, 0, 0, 0, 0, 0, 0]) (fun _ => 0) (hL [1, 0, 0, 1]) (hE [0, 1, 0, 0, 0, 0, 0, 0, 0, 0]) (hE [1, 2, 2, 0, 0, 0, 0, 0, 0, 0])
def hS_networks_5 : pSt := pMk 4 4 0 0 0 2 0 mF0 (fun _ => 0) (fun _ => 0) (fun _ => 0) hS_networks_4.fo hS_networks_4.ro (fun _ => 0) hS_networks_4.pr hS_networks_4.ea hS_networks_4.eb
def hS_networks_6 : pSt := pMk 4 4 0 0 0 2 1 mF0 (fun _ => 0) (fun _ => 0) (fun _ => 0) (hL [0, 0, 0, 0, 0, 0, 0, 0, 0, 0, 0, 0, 0, 0, 0, 0, 0, 0, 0, 0, 0, 0, 0, 0, 0, 0, 0, 0, 0, 0, 0, 0]) (hL [0, 0, 0, 0, 0, 0, 0, 0, 0, 0, 0, 0, 0, 0, 0, 0, 0, 0, 0, 0, 0, 0, 0, 0, 0, 0, 0, 0, 0, 0, 0, 0]) (fun _ => 0) (hL [1, 0, 0, 1]) (hE [0, 1, 0, 0, 0, 0, 0, 0, 0, 0]) (hE [1, 2, 2, 0, 0, 0, 0, 0, 0, 0])
def hS_networks_7 : pSt := pMk 4 4 0 0 0 2 2 mF0 (fun _ => 0) (fun _ => 0) (fun _ => 0) (hL [0, 0, 0, 0, 0, 0, 0, 0, 0, 0, 0, 0, 0, 0, 0, 0, 0, 0, 0, 0, 0, 0, 0, 0, 0, 0, 0, 0, 0, 0, 0, 0]) (hL [0, 0, 0, 0, 0, 0, 0, 0, 0, 0, 0, 0, 0, 0, 0, 0, 0, 0, 0, 0, 0, 0, 0, 0, 0, 0, 0, 0, 0, 0, 0, 0]) (fun _ => 0) (hL [1, 0, 0, 1]) (hE [0, 1, 0, 0, 0, 0, 0, 0, 0, 0]) (hE [1, 0, 2, 0, 0, 0, 0, 0, 0, 0])
def hS_networks_8 : pSt := pMk 4 4 0 0 0 2 3 mF0 (fun _ => 0) (fun _ => 0) (fun _ => 0) (hL [0, 0, 0, 0, 0, 0, 0, 0, 0, 0, 0, 0, 0, 0, 0, 0, 0, 0, 0, 0, 0, 0, 0, 0, 0, 0, 0, 0, 0, 0, 0, 0]) (hL [0, 0, 0, 0, 0, 0, 0, 0, 0, 0, 0, 0, 0, 0, 0, 0, 0, 0, 0, 0, 0, 0, 0, 0, 0, 0, 0, 0, 0, 0, 0, 0]) (fun _ => 0) (hL [1, 0, 0, 1]) (hE [0, 1, 0, 0, 0, 0, 0, 0, 0, 0]) (hE [1, 0, 1, 0, 0, 0, 0, 0, 0, 0])
def hS_networks_9 : pSt := pMk 4 4 0 0 0 4 0 mF0 (fun _ => 0) (fun _ => 0) (fun _ => 0) hS_networks_8.fo hS_networks_8.ro (fun _ => 0) hS_networks_8.pr hS_networks_8.ea hS_networks_8.eb
def hS_networks_10 : pSt := pMk 4 4 0 0 0 4 1 mF0 (fun _ => 0) (fun _ => 0) (fun _ => 0) (hL [0, 0, 0, 0, 0, 0, 0, 0, 0, 0, 0, 0, 0, 0, 0, 0, 0, 0, 0, 0, 0, 0, 0, 0, 0, 0, 0, 0, 0, 0, 0, 0]) (hL [0, 0, 0, 0, 0, 0, 0, 0, 0, 0, 0, 0, 0, 0, 0, 0, 0, 0, 0, 0, 0, 0, 0, 0, 0, 0, 0, 0, 0, 0, 0, 0]) (fun _ => 0) (hL [1, 0, 0, 1]) (hE [0, 1, 0, 0, 0, 0, 0, 0, 0, 0]) (hE [1, 0, 1, 0, 0, 0, 0, 0, 0, 0])
def hS_networks_11 : pSt := pMk 4 4 0 0 0 4 2 mF0 (fun _ => 0) (fun _ => 0) (fun _ => 0) (hL [0, 0, 0, 0, 0, 0, 0, 0, 0, 0, 0, 0, 0, 0, 0, 0, 0, 0, 0, 0, 0, 0, 0, 0, 0, 0, 0, 0, 0, 0, 0, 0]) (hL [0, 0, 0, 0, 0, 0, 0, 0, 0, 0, 0, 0, 0, 0, 0, 0, 0, 0, 0, 0, 0, 0, 0, 0, 0, 0, 0, 0, 0, 0, 0, 0]) (fun _ => 0) (hL [1, 0, 0, 1]) (hE [0, 1, 0, 0, 0, 0, 0, 0, 0, 0]) (hE [1, 2, 1, 0, 0, 0, 0, 0, 0, 0])
def hS_networks_12 : pSt := pMk 4 4 0 0 0 4 3 mF0 (fun _ => 0) (fun _ => 0) (fun _ => 0) (hL [0, 0, 0, 0, 0, 0, 0, 0, 0, 0, 0, 0, 0, 0, 0, 0, 0, 0, 0, 0, 0, 0, 0, 0, 0, 0, 0, 0, 0, 0, 0, 0]) (hL [0, 0, 0, 0, 0, 0, 0, 0, 0, 0, 0, 0, 0, 0, 0, 0, 0, 0, 0, 0, 0, 0, 0, 0, 0, 0, 0, 0, 0, 0, 0, 0]) (fun _ => 0) (hL [1, 0, 0, 1]) (hE [0, 1, 2, 0, 0, 0, 0, 0, 0, 0]) (hE [1, 2, 3, 0, 0, 0, 0, 0, 0, 0])
def hS_networks_13 : pSt := pMk 4 4 0 0 0 6 0 mF0 (fun _ => 0) (fun _ => 0) (fun _ => 0) hS_networks_12.fo hS_networks_12.ro (fun _ => 0) hS_networks_12.pr hS_networks_12.ea hS_networks_12.eb
def hS_networks_14 : pSt := pMk 4 4 0 0 0 6 1 mF0 (fun _ => 0) (fun _ => 0) (fun _ => 0) (hL [0, 0, 0, 0, 0, 0, 0, 0, 0, 0, 0, 0, 0, 0, 0, 0, 0, 0, 0, 0, 0, 0, 0, 0, 0, 0, 0, 0, 0, 0, 0, 0]) (hL [0, 0, 0, 0, 0, 0, 0, 0, 0, 0, 0, 0, 0, 0, 0, 0, 0, 0, 0, 0, 0, 0, 0, 0, 0, 0, 0, 0, 0, 0, 0, 0]) (fun _ => 0) (hL [1, 0, 0, 1]) (hE [0, 1, 2, 0, 0, 0, 0, 0, 0, 0]) (hE [1, 2, 3, 0, 0, 0, 0, 0, 0, 0])
def hS_networks_15 : pSt := pMk 4 4 0 0 0 6 2 mF0 (fun _ => 0) (fun _ => 0) (fun _ => 0) (hL [0, 0, 0, 0, 0, 0, 0, 0, 0, 0, 0, 0, 0, 0, 0, 0, 0, 0, 0, 0, 0, 0, 0, 0, 0, 0, 0, 0, 0, 0, 0, 0]) (hL [0, 0, 0, 0, 0, 0, 0, 0, 0, 0, 0, 0, 0, 0, 0, 0, 0, 0, 0, 0, 0, 0, 0, 0, 0, 0, 0, 0, 0, 0, 0, 0]) (fun _ => 0) (hL [1, 0, 0, 1]) (hE [0, 1, 2, 0, 0, 0, 0, 0, 0, 0]) (hE [1, 2, 3, 0, 0, 0, 0, 0, 0, 0])
def hS_networks_16 : pSt := pMk 4 4 0 0 0 6 3 mF0 (fun _ => 0) (fun _ => 0) (fun _ => 0) (hL [0, 0, 0, 0, 0, 0, 0, 0, 0, 0, 0, 0, 0, 0, 0, 0, 0, 0, 0, 0, 0, 0, 0, 0, 0, 0, 0, 0, 0, 0, 0, 0]) (hL [0, 0, 0, 0, 0, 0, 0, 0, 0, 0, 0, 0, 0, 0, 0, 0, 0, 0, 0, 0, 0, 0, 0, 0, 0, 0, 0, 0, 0, 0, 0, 0]) (fun _ => 0) (hL [1, 0, 0, 1]) (hE [0, 1, 2, 0, 0, 0, 0, 0, 0, 0]) (hE [1, 2, 3, 0, 0, 0, 0, 0, 0, 0])
def hS_networks_17 : pSt := pMk 4 4 0 0 0 6 4 mF0 (fun _ => 0) (fun _ => 0) (fun _ => 0) (hL [0, 0, 0, 0, 0, 0, 0, 0, 0, 0, 0, 0, 0, 0, 0, 0, 0, 0, 0, 0, 0, 0, 0, 0, 0, 0, 0, 0, 0, 0, 0, 0]) (hL [0, 0, 0, 0, 0, 0, 0, 0, 0, 0, 0, 0, 0, 0, 0, 0, 0, 0, 0, 0, 0, 0, 0, 0, 0, 0, 0, 0, 0, 0, 0, 0]) (fun _ => 0) (hL [1, 0, 0, 1]) (hE [0, 1, 2, 3, 0, 0, 0, 0, 0, 0]) (hE [1, 2, 3, 4, 0, 0, 0, 0, 0, 0])
def hS_networks_18 : pSt := pMk 4 4 0 0 0 6 5 mF0 (fun _ => 0) (fun _ => 0) (fun _ => 0) (hL [0, 0, 0, 0, 0, 0, 0, 0, 0, 0, 0, 0, 0, 0, 0, 0, 0, 0, 0, 0, 0, 0, 0, 0, 0, 0, 0, 0, 0, 0, 0, 0]) (hL [0, 0, 0, 0, 0, 0, 0, 0, 0, 0, 0, 0, 0, 0, 0, 0, 0, 0, 0, 0, 0, 0, 0, 0, 0, 0, 0, 0, 0, 0, 0, 0]) (fun _ => 0) (hL [1, 0, 0, 1]) (hE [0, 1, 2, 3, 4, 0, 0, 0, 0, 0]) (hE [1, 2, 3, 4, 5, 0, 0, 0, 0, 0])
def hS_networks_19 : pSt := pMk 4 4 0 0 0 6 6 mF0 (fun _ => 0) (fun _ => 0) (fun _ => 0) (hL [0, 0, 0, 0, 0, 0, 0, 0, 0, 0, 0, 0, 0, 0, 0, 0, 0, 0, 0, 0, 0, 0, 0, 0, 0, 0, 0, 0, 0, 0, 0, 0]) (hL [0, 0, 0, 0, 0, 0, 0, 0, 0, 0, 0, 0, 0, 0, 0, 0, 0, 0, 0, 0, 0, 0, 0, 0, 0, 0, 0, 0, 0, 0, 0, 0]) (fun _ => 0) (hL [1, 0, 0, 1]) (hE [0, 1, 2, 3, 4, 5, 0, 0, 0, 0]) (hE [1, 2, 3, 4, 5, 0, 0, 0, 0, 0])
def hS_networks_20 : pSt := pMk 4 4 0 0 0 6 7 mF0 (fun _ => 0) (fun _ => 0) (fun _ => 0) (hL [0, 0, 0, 0, 0, 0, 0, 0, 0, 0, 0, 0, 0, 0, 0, 0, 0, 0, 0, 0, 0, 0, 0, 0, 0, 0, 0, 0, 0, 0, 0, 0]) (hL [0, 0, 0, 0, 0, 0, 0, 0, 0, 0, 0, 0, 0, 0, 0, 0, 0, 0, 0, 0, 0, 0, 0, 0, 0, 0, 0, 0, 0, 0, 0, 0]) (fun _ => 0) (hL [1, 0, 0, 1]) (hE [0, 1, 2, 3, 4, 5, 0, 0, 0, 0]) (hE [1, 2, 3, 4, 5, 0, 2, 0, 0, 0])
def hS_networks_21 : pSt := pMk 4 4 0 0 0 6 8 mF0 (fun _ => 0) (fun _ => 0) (fun _ => 0) (hL [0, 0, 0, 0, 0, 0, 0, 0, 0, 0, 0, 0, 0, 0, 0, 0, 0, 0, 0, 0, 0, 0, 0, 0, 0, 0, 0, 0, 0, 0, 0, 0]) (hL [0, 0, 0, 0, 0, 0, 0, 0, 0, 0, 0, 0, 0, 0, 0, 0, 0, 0, 0, 0, 0, 0, 0, 0, 0, 0, 0, 0, 0, 0, 0, 0]) (fun _ => 0) (hL [1, 0, 0, 1]) (hE [0, 1, 2, 3, 4, 5, 0, 1, 0, 0]) (hE [1, 2, 3, 4, 5, 0, 2, 3, 0, 0])
def hS_networks_22 : pSt := pMk 4 4 0 0 0 6 9 mF0 (fun _ => 0) (fun _ => 0) (fun _ => 0) (hL [0, 0, 0, 0, 0, 0, 0, 0, 0, 0, 0, 0, 0, 0, 0, 0, 0, 0, 0, 0, 0, 0, 0, 0, 0, 0, 0, 0, 0, 0, 0, 0]) (hL [0, 0, 0, 0, 0, 0, 0, 0, 0, 0, 0, 0, 0, 0, 0, 0, 0, 0, 0, 0, 0, 0, 0, 0, 0, 0, 0, 0, 0, 0, 0, 0]) (fun _ => 0) (hL [1, 0, 0, 1]) (hE [0, 1, 2, 3, 4, 5, 0, 1, 2, 0]) (hE [1, 2, 3, 4, 5, 0, 2, 3, 4, 0])
def hS_networks_23 : pSt := pMk 4 4 0 0 0 6 10 mF0 (fun _ => 0) (fun _ => 0) (fun _ => 0) (hL [0, 0, 0, 0, 0, 0, 0, 0, 0, 0, 0, 0, 0, 0, 0, 0, 0, 0, 0, 0, 0, 0, 0, 0, 0, 0, 0, 0, 0, 0, 0, 0]) (hL [0, 0, 0, 0, 0, 0, 0, 0, 0, 0, 0, 0, 0, 0, 0, 0, 0, 0, 0, 0, 0, 0, 0, 0, 0, 0, 0, 0, 0, 0, 0, 0]) (fun _ => 0) (hL [1, 0, 0, 1]) (hE [0, 1, 2, 3, 4, 5, 0, 1, 2, 3]) (hE [1, 2, 3, 4, 5, 0, 2, 3, 4, 5])
def hS_networks_24 : pSt := pMk 4 4 0 0 0 2 0 mF0 (fun _ => 0) (fun _ => 0) (fun _ => 0) hS_networks_23.fo hS_networks_23.ro (fun _ => 0) hS_networks_23.pr hS_networks_23.ea hS_networks_23.eb
set_option maxHeartbeats 16000000 in
set_option maxRecDepth 100000 in
theorem pL_networks {l : Launch} (hst : l.stackTraces = false) {G : kG} {B0 : Nat} {f : kH} : Met l yL_networks wsP_networks rmH (kP G B0 f []) (kQi G B0 (fun r f1 => r = nI 1 ∧ True)) 9000 72000 (kAb B0) := by
  refine kMet (cc := cL_networks) (maxL := 6) (ret := (some .boolean)) (by decide) rfl (Nat.le_of_ble_eq_true rfl) ?_
  intro p e s mi args below meth c H locs Q ls C hX hl hr hlocks hnm hQ
  refine k_new (X := RX8) (T := TX8) (N := 7) (ci := 8) (fs := [.null, .null, .null, .null, .null, .null, .null]) C hX (fun w9 h9 => List.mem_cons_of_mem _ (inlX8 w9 h9)) tyX8_ok (fun w9 h9 => List.mem_cons_of_mem _ (in_new w9 h9)) rfl (by decide) (Nat.le_of_ble_eq_true rfl) (Nat.le_of_ble_eq_true rfl) dL_networks_0 (fun h H hn hX => ?_)
  refine lv_dup C.x C.b dL_networks_3 rfl ?_
  have h0 : kCs (kst f h (.inr (8, [.null, .null, .null, .null, .null, .null, .null]))) [(h, .inr (8, [.null, .null, .null, .null, .null, .null, .null]))] := ⟨fun q hq => by rw [List.mem_singleton.mp hq]; exact kst_s _ _ _, by simp⟩
  refine k_callv (va_runI (As := []) (rest := [.ref h]) C.1 (kX8_init l G B0 _ h h0) (cwI 0 C.ts (gl_up inw_X8_init) rfl rfl rfl (C.ts (.initialized RX8) (List.mem_cons_of_mem _ (in_ini _ (by simp)))) (C.ts (.methodLink RL 126 yX8_init) (List.mem_cons_of_mem _ (in_ini _ (by simp)))) (C.ts (.instanceMethod yX8_init) (List.mem_cons_of_mem _ (in_ini _ (by simp)))) rfl hdA_X8_init ⟨Nat.le_of_ble_eq_true rfl, Nat.le_of_ble_eq_true rfl⟩) (k_preS C hX) rfl rfl hl.1 rfl (lv_room (Nat.le_of_ble_eq_true rfl)) dL_networks_4 ⟨Nat.le_of_ble_eq_true rfl, Nat.le_of_ble_eq_true rfl⟩) hX (fun f H locs hp hX => ?_)
  obtain ⟨sp, nA, tA, dl, gl, rw9, sA, wA, ml, pp, nn, wL, qm, rm9, h1, -, -⟩ := hp
  have hI : Inv G h f p0 := Inv_start h1
  refine W.widen (k := 24) (n := 600) (by decide) (by decide) ?_
  refine lv_astore_n (lv' := [(0, .ref h)]) C.x C.b dL_networks_7 rfl hl (by decide) rfl (fun ls hl => ?_)
  refine lv_aload_n C.x C.b dL_networks_8 rfl (lv_at hl 0 rfl) ?_
  refine lv_iconst (v := (nI 0)) C.x C.b dL_networks_9 (by decide) ?_
  refine k_law (As := [.ref h, .int (nI 0)]) (rest := []) (c2 := 104) (s2 := 1240) (m1 := p0) C hX (pL_trees hst hI (nI 0) (ev_trees (by decide +kernel)) (ev_treesAnew (by decide +kernel))) (gl_up inv_L_trees) rfl rfl rfl hdP_L_trees ⟨Nat.le_of_ble_eq_true rfl, Nat.le_of_ble_eq_true rfl⟩ rfl hl.1 rfl (by decide) dL_networks_10 ⟨Nat.le_of_ble_eq_true rfl, Nat.le_of_ble_eq_true rfl⟩ rfl rfl (fun f H locs hX hI => ?_)
  refine lv_if_eq (tgt := 288) C.x C.b dL_networks_13 (by decide) (fun q9 => absurd q9 (by decide)) (fun _ => ?_)
  refine lv_aload_n C.x C.b dL_networks_16 rfl (lv_at hl 0 rfl) ?_
  refine lv_bipush (v := (nI 25)) C.x C.b dL_networks_17 (by decide) ?_
  refine lv_iconst (v := (nI 0)) C.x C.b dL_networks_19 (by decide) ?_
  refine lv_iconst (v := (nI 1)) C.x C.b dL_networks_20 (by decide) ?_
  refine lv_iconst (v := (-1)) C.x C.b dL_networks_21 (by decide) ?_
  refine lv_iconst (v := (nI 0)) C.x C.b dL_networks_22 (by decide) ?_
  refine k_actI (As := [.ref h, .int (nI 25), .int (nI 0), .int (nI 1), .int (-1), .int (nI 0)]) (rest := []) (c2 := 112) (s2 := 1304) (v := (-7000003)) (m1 := p0) C hX (act_25 hI.hd (nI 0) (nI 1) (-1) (nI 0) (iop_side hst hI (nI 0) (nI 1) (-1))) (e_side_s (by decide +kernel) (by decide +kernel) (by decide +kernel)) (rfl) (gl_up inv_L_act) rfl hl.1 rfl (by decide) dL_networks_23 ⟨Nat.le_of_ble_eq_true rfl, Nat.le_of_ble_eq_true rfl⟩ ⟨Nat.le_of_ble_eq_true rfl, Nat.le_of_ble_eq_true rfl⟩ rfl rfl (fun f H locs hX hI => ?_)
  refine lv_ldc2 (v := (-7000003)) C.x C.b C.ow (C.ts _ (List.mem_cons_of_mem _ lkC_4)) dL_networks_26 ?_
  refine k_lcmp_ne (tgt := 288) C.x C.b dL_networks_29 dL_networks_30 (by decide) (fun q9 => absurd (by decide) q9) (fun _ => ?_)
  refine lv_aload_n C.x C.b dL_networks_33 rfl (lv_at hl 0 rfl) ?_
  refine lv_iconst (v := (nI 3)) C.x C.b dL_networks_34 (by decide) ?_
  refine k_cI (As := [.int (nI 3)]) (rest := []) (c2 := 120) (s2 := 1368) (v := (nI 2)) (m1 := hS_networks_1) C hX (iop_nodes hst hI (nI 3)) (ev_nodes 3 2 (by decide +kernel) (by decide) rfl rfl) hI.hd (gl_up inv_X8_nodes) rfl ⟨rfl, hdA_X8_nodes⟩ (by decide) rfl hl.1 rfl (by decide) dL_networks_35 ⟨Nat.le_of_ble_eq_true rfl, Nat.le_of_ble_eq_true rfl⟩ ⟨Nat.le_of_ble_eq_true rfl, Nat.le_of_ble_eq_true rfl⟩ rfl rfl (fun f H locs hX hI => ?_)
  refine lv_iconst (v := (nI 2)) C.x C.b dL_networks_38 (by decide) ?_
  refine lv_icmp_ne (tgt := 288) C.x C.b dL_networks_39 (by decide) (fun q9 => absurd (by decide) q9) (fun _ => ?_)
  refine lv_aload_n C.x C.b dL_networks_42 rfl (lv_at hl 0 rfl) ?_
  refine lv_iconst (v := (nI 0)) C.x C.b dL_networks_43 (by decide) ?_
  refine lv_iconst (v := (nI 1)) C.x C.b dL_networks_44 (by decide) ?_
  refine k_cI (As := [.int (nI 0), .int (nI 1)]) (rest := []) (c2 := 128) (s2 := 1432) (v := (nI 0)) (m1 := _) C hX (iop_wire hst hI (nI 0) (nI 1)) (ev_wire 0 1 0 (by decide +kernel) (by decide) (by decide) (by decide) (by decide) rfl rfl) hI.hd (gl_up inv_X8_wire) rfl ⟨rfl, hdA_X8_wire⟩ (by decide) rfl hl.1 rfl (by decide) dL_networks_45 ⟨Nat.le_of_ble_eq_true rfl, Nat.le_of_ble_eq_true rfl⟩ ⟨Nat.le_of_ble_eq_true rfl, Nat.le_of_ble_eq_true rfl⟩ rfl rfl (fun f H locs hX hI => ?_)
  have hI : Inv G h f hS_networks_2 := hI.cg (hL [0, 0, 0, 0, 0, 0, 0, 0, 0, 0, 0, 0, 0, 0, 0, 0, 0, 0, 0, 0, 0, 0, 0, 0, 0, 0, 0, 0, 0, 0, 0, 0]) (hL [0, 0, 0, 0, 0, 0, 0, 0, 0, 0, 0, 0, 0, 0, 0, 0, 0, 0, 0, 0, 0, 0, 0, 0, 0, 0, 0, 0, 0, 0, 0, 0]) (hL [1, 0, 0, 1]) (hE [0, 0, 0, 0, 0, 0, 0, 0, 0, 0]) (hE [1, 0, 0, 0, 0, 0, 0, 0, 0, 0]) ⟨by decide +kernel, by decide +kernel, by decide +kernel⟩
  refine lv_if_ne (tgt := 288) C.x C.b dL_networks_48 (by decide) (fun q9 => absurd (by decide) q9) (fun _ => ?_)
  refine lv_aload_n C.x C.b dL_networks_51 rfl (lv_at hl 0 rfl) ?_
  refine lv_iconst (v := (nI 1)) C.x C.b dL_networks_52 (by decide) ?_
  refine lv_iconst (v := (nI 2)) C.x C.b dL_networks_53 (by decide) ?_
  refine k_cI (As := [.int (nI 1), .int (nI 2)]) (rest := []) (c2 := 136) (s2 := 1496) (v := (nI 1)) (m1 := _) C hX (iop_wire hst hI (nI 1) (nI 2)) (ev_wire 1 2 1 (by decide +kernel) (by decide) (by decide) (by decide) (by decide) rfl rfl) hI.hd (gl_up inv_X8_wire) rfl ⟨rfl, hdA_X8_wire⟩ (by decide) rfl hl.1 rfl (by decide) dL_networks_54 ⟨Nat.le_of_ble_eq_true rfl, Nat.le_of_ble_eq_true rfl⟩ ⟨Nat.le_of_ble_eq_true rfl, Nat.le_of_ble_eq_true rfl⟩ rfl rfl (fun f H locs hX hI => ?_)
  have hI : Inv G h f hS_networks_3 := hI.cg (hL [0, 0, 0, 0, 0, 0, 0, 0, 0, 0, 0, 0, 0, 0, 0, 0, 0, 0, 0, 0, 0, 0, 0, 0, 0, 0, 0, 0, 0, 0, 0, 0]) (hL [0, 0, 0, 0, 0, 0, 0, 0, 0, 0, 0, 0, 0, 0, 0, 0, 0, 0, 0, 0, 0, 0, 0, 0, 0, 0, 0, 0, 0, 0, 0, 0]) (hL [1, 0, 0, 1]) (hE [0, 1, 0, 0, 0, 0, 0, 0, 0, 0]) (hE [1, 2, 0, 0, 0, 0, 0, 0, 0, 0]) ⟨by decide +kernel, by decide +kernel, by decide +kernel⟩
  refine lv_iconst (v := (nI 1)) C.x C.b dL_networks_57 (by decide) ?_
  refine lv_icmp_ne (tgt := 288) C.x C.b dL_networks_58 (by decide) (fun q9 => absurd (by decide) q9) (fun _ => ?_)
  refine lv_aload_n C.x C.b dL_networks_61 rfl (lv_at hl 0 rfl) ?_
  refine lv_iconst (v := (nI 0)) C.x C.b dL_networks_62 (by decide) ?_
  refine lv_iconst (v := (nI 2)) C.x C.b dL_networks_63 (by decide) ?_
  refine k_cI (As := [.int (nI 0), .int (nI 2)]) (rest := []) (c2 := 144) (s2 := 1560) (v := (nI 2)) (m1 := _) C hX (iop_wire hst hI (nI 0) (nI 2)) (ev_wire 0 2 2 (by decide +kernel) (by decide) (by decide) (by decide) (by decide) rfl rfl) hI.hd (gl_up inv_X8_wire) rfl ⟨rfl, hdA_X8_wire⟩ (by decide) rfl hl.1 rfl (by decide) dL_networks_64 ⟨Nat.le_of_ble_eq_true rfl, Nat.le_of_ble_eq_true rfl⟩ ⟨Nat.le_of_ble_eq_true rfl, Nat.le_of_ble_eq_true rfl⟩ rfl rfl (fun f H locs hX hI => ?_)
  have hI : Inv G h f hS_networks_4 := hI.cg (hL [0, 0, 0, 0, 0, 0, 0, 0, 0, 0, 0, 0, 0, 0, 0, 0, 0, 0, 0, 0, 0, 0, 0, 0, 0, 0, 0, 0, 0, 0, 0, 0]) (hL [0, 0, 0, 0, 0, 0, 0, 0, 0, 0, 0, 0, 0, 0, 0, 0, 0, 0, 0, 0, 0, 0, 0, 0, 0, 0, 0, 0, 0, 0, 0, 0]) (hL [1, 0, 0, 1]) (hE [0, 1, 0, 0, 0, 0, 0, 0, 0, 0]) (hE [1, 2, 2, 0, 0, 0, 0, 0, 0, 0]) ⟨by decide +kernel, by decide +kernel, by decide +kernel⟩
  refine lv_iconst (v := (nI 2)) C.x C.b dL_networks_67 (by decide) ?_
  refine lv_icmp_ne (tgt := 288) C.x C.b dL_networks_68 (by decide) (fun q9 => absurd (by decide) q9) (fun _ => ?_)
  refine lv_aload_n C.x C.b dL_networks_71 rfl (lv_at hl 0 rfl) ?_
  refine lv_iconst (v := (nI 3)) C.x C.b dL_networks_72 (by decide) ?_
  refine k_law (As := [.ref h, .int (nI 3)]) (rest := []) (c2 := 224) (s2 := 2200) (m1 := hS_networks_4) C hX (pL_trees hst hI (nI 3) (ev_trees (by decide +kernel)) (ev_treesAnew (by decide +kernel))) (gl_up inv_L_trees) rfl rfl rfl hdP_L_trees ⟨Nat.le_of_ble_eq_true rfl, Nat.le_of_ble_eq_true rfl⟩ rfl hl.1 rfl (by decide) dL_networks_73 ⟨Nat.le_of_ble_eq_true rfl, Nat.le_of_ble_eq_true rfl⟩ rfl rfl (fun f H locs hX hI => ?_)
  refine lv_if_eq (tgt := 288) C.x C.b dL_networks_76 (by decide) (fun q9 => absurd q9 (by decide)) (fun _ => ?_)
  refine lv_aload_n C.x C.b dL_networks_79 rfl (lv_at hl 0 rfl) ?_
  refine lv_iconst (v := (nI 0)) C.x C.b dL_networks_80 (by decide) ?_
  refine lv_iconst (v := (nI 1)) C.x C.b dL_networks_81 (by decide) ?_
  refine lv_iconst (v := (nI 2)) C.x C.b dL_networks_82 (by decide) ?_
  refine lv_iconst (v := (nI 2)) C.x C.b dL_networks_83 (by decide) ?_
  refine lv_iconst (v := (-1)) C.x C.b dL_networks_84 (by decide) ?_
  refine lv_iconst (v := (nI 1)) C.x C.b dL_networks_85 (by decide) ?_
  refine k_law (As := [.ref h, .int (nI 0), .int (nI 1), .int (nI 2), .int (nI 2), .int (-1), .int (nI 1)]) (rest := []) (c2 := 304) (s2 := 2840) (m1 := hS_networks_4) C hX (pL_rectangle hst hI (nI 0) (nI 1) (nI 2) (nI 2) (-1) (nI 1) (ev_side (by decide +kernel) (by decide +kernel) (by decide +kernel) (by decide +kernel)) (ev_side (by decide +kernel) (by decide +kernel) (by decide +kernel) (by decide +kernel)) (ev_side (by decide +kernel) (by decide +kernel) (by decide +kernel) (by decide +kernel)) (ev_side (by decide +kernel) (by decide +kernel) (by decide +kernel) (by decide +kernel))) (gl_up inv_L_rectangle) rfl rfl rfl hdP_L_rectangle ⟨Nat.le_of_ble_eq_true rfl, Nat.le_of_ble_eq_true rfl⟩ rfl hl.1 rfl (by decide) dL_networks_86 ⟨Nat.le_of_ble_eq_true rfl, Nat.le_of_ble_eq_true rfl⟩ rfl rfl (fun f H locs hX hI => ?_)
  refine lv_if_eq (tgt := 288) C.x C.b dL_networks_89 (by decide) (fun q9 => absurd q9 (by decide)) (fun _ => ?_)
  refine lv_aload_n C.x C.b dL_networks_92 rfl (lv_at hl 0 rfl) ?_
  refine lv_iconst (v := (nI 1)) C.x C.b dL_networks_93 (by decide) ?_
  refine lv_iconst (v := (nI 0)) C.x C.b dL_networks_94 (by decide) ?_
  refine lv_iconst (v := (nI 2)) C.x C.b dL_networks_95 (by decide) ?_
  refine lv_bipush (v := (-2)) C.x C.b dL_networks_96 (by decide) ?_
  refine lv_iconst (v := (nI 1)) C.x C.b dL_networks_98 (by decide) ?_
  refine lv_iconst (v := (-1)) C.x C.b dL_networks_99 (by decide) ?_
  refine k_law (As := [.ref h, .int (nI 1), .int (nI 0), .int (nI 2), .int (-2), .int (nI 1), .int (-1)]) (rest := []) (c2 := 384) (s2 := 3480) (m1 := hS_networks_4) C hX (pL_rectangle hst hI (nI 1) (nI 0) (nI 2) (-2) (nI 1) (-1) (ev_side (by decide +kernel) (by decide +kernel) (by decide +kernel) (by decide +kernel)) (ev_side (by decide +kernel) (by decide +kernel) (by decide +kernel) (by decide +kernel)) (ev_side (by decide +kernel) (by decide +kernel) (by decide +kernel) (by decide +kernel)) (ev_side (by decide +kernel) (by decide +kernel) (by decide +kernel) (by decide +kernel))) (gl_up inv_L_rectangle) rfl rfl rfl hdP_L_rectangle ⟨Nat.le_of_ble_eq_true rfl, Nat.le_of_ble_eq_true rfl⟩ rfl hl.1 rfl (by decide) dL_networks_100 ⟨Nat.le_of_ble_eq_true rfl, Nat.le_of_ble_eq_true rfl⟩ rfl rfl (fun f H locs hX hI => ?_)
  refine lv_if_eq (tgt := 288) C.x C.b dL_networks_103 (by decide) (fun q9 => absurd q9 (by decide)) (fun _ => ?_)
  refine lv_aload_n C.x C.b dL_networks_106 rfl (lv_at hl 0 rfl) ?_
  refine lv_iconst (v := (nI 2)) C.x C.b dL_networks_107 (by decide) ?_
  refine lv_iconst (v := (nI 1)) C.x C.b dL_networks_108 (by decide) ?_
  refine lv_iconst (v := (nI 2)) C.x C.b dL_networks_109 (by decide) ?_
  refine lv_iconst (v := (nI 1)) C.x C.b dL_networks_110 (by decide) ?_
  refine lv_bipush (v := (-2)) C.x C.b dL_networks_111 (by decide) ?_
  refine lv_iconst (v := (-1)) C.x C.b dL_networks_113 (by decide) ?_
  refine k_law (As := [.ref h, .int (nI 2), .int (nI 1), .int (nI 2), .int (nI 1), .int (-2), .int (-1)]) (rest := []) (c2 := 464) (s2 := 4120) (m1 := hS_networks_4) C hX (pL_rectangle hst hI (nI 2) (nI 1) (nI 2) (nI 1) (-2) (-1) (ev_side (by decide +kernel) (by decide +kernel) (by decide +kernel) (by decide +kernel)) (ev_side (by decide +kernel) (by decide +kernel) (by decide +kernel) (by decide +kernel)) (ev_side (by decide +kernel) (by decide +kernel) (by decide +kernel) (by decide +kernel)) (ev_side (by decide +kernel) (by decide +kernel) (by decide +kernel) (by decide +kernel))) (gl_up inv_L_rectangle) rfl rfl rfl hdP_L_rectangle ⟨Nat.le_of_ble_eq_true rfl, Nat.le_of_ble_eq_true rfl⟩ rfl hl.1 rfl (by decide) dL_networks_114 ⟨Nat.le_of_ble_eq_true rfl, Nat.le_of_ble_eq_true rfl⟩ rfl rfl (fun f H locs hX hI => ?_)
  refine lv_if_eq (tgt := 288) C.x C.b dL_networks_117 (by decide) (fun q9 => absurd q9 (by decide)) (fun _ => ?_)
  refine lv_aload_n C.x C.b dL_networks_120 rfl (lv_at hl 0 rfl) ?_
  refine lv_iconst (v := (nI 2)) C.x C.b dL_networks_121 (by decide) ?_
  refine k_cI (As := [.int (nI 2)]) (rest := []) (c2 := 472) (s2 := 4184) (v := (nI 3)) (m1 := hS_networks_5) C hX (iop_nodes hst hI (nI 2)) (ev_nodes 2 3 (by decide +kernel) (by decide) rfl rfl) hI.hd (gl_up inv_X8_nodes) rfl ⟨rfl, hdA_X8_nodes⟩ (by decide) rfl hl.1 rfl (by decide) dL_networks_122 ⟨Nat.le_of_ble_eq_true rfl, Nat.le_of_ble_eq_true rfl⟩ ⟨Nat.le_of_ble_eq_true rfl, Nat.le_of_ble_eq_true rfl⟩ rfl rfl (fun f H locs hX hI => ?_)
  refine lv_iconst (v := (nI 3)) C.x C.b dL_networks_125 (by decide) ?_
  refine lv_icmp_ne (tgt := 288) C.x C.b dL_networks_126 (by decide) (fun q9 => absurd (by decide) q9) (fun _ => ?_)
  refine lv_aload_n C.x C.b dL_networks_129 rfl (lv_at hl 0 rfl) ?_
  refine lv_iconst (v := (nI 0)) C.x C.b dL_networks_130 (by decide) ?_
  refine lv_iconst (v := (nI 1)) C.x C.b dL_networks_131 (by decide) ?_
  refine k_cI (As := [.int (nI 0), .int (nI 1)]) (rest := []) (c2 := 480) (s2 := 4248) (v := (nI 0)) (m1 := _) C hX (iop_wire hst hI (nI 0) (nI 1)) (ev_wire 0 1 0 (by decide +kernel) (by decide) (by decide) (by decide) (by decide) rfl rfl) hI.hd (gl_up inv_X8_wire) rfl ⟨rfl, hdA_X8_wire⟩ (by decide) rfl hl.1 rfl (by decide) dL_networks_132 ⟨Nat.le_of_ble_eq_true rfl, Nat.le_of_ble_eq_true rfl⟩ ⟨Nat.le_of_ble_eq_true rfl, Nat.le_of_ble_eq_true rfl⟩ rfl rfl (fun f H locs hX hI => ?_)
  have hI : Inv G h f hS_networks_6 := hI.cg (hL [0, 0, 0, 0, 0, 0, 0, 0, 0, 0, 0, 0, 0, 0, 0, 0, 0, 0, 0, 0, 0, 0, 0, 0, 0, 0, 0, 0, 0, 0, 0, 0]) (hL [0, 0, 0, 0, 0, 0, 0, 0, 0, 0, 0, 0, 0, 0, 0, 0, 0, 0, 0, 0, 0, 0, 0, 0, 0, 0, 0, 0, 0, 0, 0, 0]) (hL [1, 0, 0, 1]) (hE [0, 1, 0, 0, 0, 0, 0, 0, 0, 0]) (hE [1, 2, 2, 0, 0, 0, 0, 0, 0, 0]) ⟨by decide +kernel, by decide +kernel, by decide +kernel⟩
  refine lv_if_ne (tgt := 288) C.x C.b dL_networks_135 (by decide) (fun q9 => absurd (by decide) q9) (fun _ => ?_)
  refine lv_aload_n C.x C.b dL_networks_138 rfl (lv_at hl 0 rfl) ?_
  refine lv_iconst (v := (nI 1)) C.x C.b dL_networks_139 (by decide) ?_
  refine lv_iconst (v := (nI 0)) C.x C.b dL_networks_140 (by decide) ?_
  refine k_cI (As := [.int (nI 1), .int (nI 0)]) (rest := []) (c2 := 488) (s2 := 4312) (v := (nI 1)) (m1 := _) C hX (iop_wire hst hI (nI 1) (nI 0)) (ev_wire 1 0 1 (by decide +kernel) (by decide) (by decide) (by decide) (by decide) rfl rfl) hI.hd (gl_up inv_X8_wire) rfl ⟨rfl, hdA_X8_wire⟩ (by decide) rfl hl.1 rfl (by decide) dL_networks_141 ⟨Nat.le_of_ble_eq_true rfl, Nat.le_of_ble_eq_true rfl⟩ ⟨Nat.le_of_ble_eq_true rfl, Nat.le_of_ble_eq_true rfl⟩ rfl rfl (fun f H locs hX hI => ?_)
  have hI : Inv G h f hS_networks_7 := hI.cg (hL [0, 0, 0, 0, 0, 0, 0, 0, 0, 0, 0, 0, 0, 0, 0, 0, 0, 0, 0, 0, 0, 0, 0, 0, 0, 0, 0, 0, 0, 0, 0, 0]) (hL [0, 0, 0, 0, 0, 0, 0, 0, 0, 0, 0, 0, 0, 0, 0, 0, 0, 0, 0, 0, 0, 0, 0, 0, 0, 0, 0, 0, 0, 0, 0, 0]) (hL [1, 0, 0, 1]) (hE [0, 1, 0, 0, 0, 0, 0, 0, 0, 0]) (hE [1, 0, 2, 0, 0, 0, 0, 0, 0, 0]) ⟨by decide +kernel, by decide +kernel, by decide +kernel⟩
  refine lv_iconst (v := (nI 1)) C.x C.b dL_networks_144 (by decide) ?_
  refine lv_icmp_ne (tgt := 288) C.x C.b dL_networks_145 (by decide) (fun q9 => absurd (by decide) q9) (fun _ => ?_)
  refine lv_aload_n C.x C.b dL_networks_148 rfl (lv_at hl 0 rfl) ?_
  refine lv_iconst (v := (nI 0)) C.x C.b dL_networks_149 (by decide) ?_
  refine lv_iconst (v := (nI 1)) C.x C.b dL_networks_150 (by decide) ?_
  refine k_cI (As := [.int (nI 0), .int (nI 1)]) (rest := []) (c2 := 496) (s2 := 4376) (v := (nI 2)) (m1 := _) C hX (iop_wire hst hI (nI 0) (nI 1)) (ev_wire 0 1 2 (by decide +kernel) (by decide) (by decide) (by decide) (by decide) rfl rfl) hI.hd (gl_up inv_X8_wire) rfl ⟨rfl, hdA_X8_wire⟩ (by decide) rfl hl.1 rfl (by decide) dL_networks_151 ⟨Nat.le_of_ble_eq_true rfl, Nat.le_of_ble_eq_true rfl⟩ ⟨Nat.le_of_ble_eq_true rfl, Nat.le_of_ble_eq_true rfl⟩ rfl rfl (fun f H locs hX hI => ?_)
  have hI : Inv G h f hS_networks_8 := hI.cg (hL [0, 0, 0, 0, 0, 0, 0, 0, 0, 0, 0, 0, 0, 0, 0, 0, 0, 0, 0, 0, 0, 0, 0, 0, 0, 0, 0, 0, 0, 0, 0, 0]) (hL [0, 0, 0, 0, 0, 0, 0, 0, 0, 0, 0, 0, 0, 0, 0, 0, 0, 0, 0, 0, 0, 0, 0, 0, 0, 0, 0, 0, 0, 0, 0, 0]) (hL [1, 0, 0, 1]) (hE [0, 1, 0, 0, 0, 0, 0, 0, 0, 0]) (hE [1, 0, 1, 0, 0, 0, 0, 0, 0, 0]) ⟨by decide +kernel, by decide +kernel, by decide +kernel⟩
  refine lv_iconst (v := (nI 2)) C.x C.b dL_networks_154 (by decide) ?_
  refine lv_icmp_ne (tgt := 288) C.x C.b dL_networks_155 (by decide) (fun q9 => absurd (by decide) q9) (fun _ => ?_)
  refine lv_aload_n C.x C.b dL_networks_158 rfl (lv_at hl 0 rfl) ?_
  refine lv_iconst (v := (nI 3)) C.x C.b dL_networks_159 (by decide) ?_
  refine k_law (As := [.ref h, .int (nI 3)]) (rest := []) (c2 := 576) (s2 := 5016) (m1 := hS_networks_8) C hX (pL_trees hst hI (nI 3) (ev_trees (by decide +kernel)) (ev_treesAnew (by decide +kernel))) (gl_up inv_L_trees) rfl rfl rfl hdP_L_trees ⟨Nat.le_of_ble_eq_true rfl, Nat.le_of_ble_eq_true rfl⟩ rfl hl.1 rfl (by decide) dL_networks_160 ⟨Nat.le_of_ble_eq_true rfl, Nat.le_of_ble_eq_true rfl⟩ rfl rfl (fun f H locs hX hI => ?_)
  refine lv_if_eq (tgt := 288) C.x C.b dL_networks_163 (by decide) (fun q9 => absurd q9 (by decide)) (fun _ => ?_)
  refine lv_aload_n C.x C.b dL_networks_166 rfl (lv_at hl 0 rfl) ?_
  refine lv_iconst (v := (nI 0)) C.x C.b dL_networks_167 (by decide) ?_
  refine lv_iconst (v := (nI 1)) C.x C.b dL_networks_168 (by decide) ?_
  refine lv_iconst (v := (nI 1)) C.x C.b dL_networks_169 (by decide) ?_
  refine lv_iconst (v := (nI 1)) C.x C.b dL_networks_170 (by decide) ?_
  refine lv_iconst (v := (-1)) C.x C.b dL_networks_171 (by decide) ?_
  refine lv_iconst (v := (nI 1)) C.x C.b dL_networks_172 (by decide) ?_
  refine k_law (As := [.ref h, .int (nI 0), .int (nI 1), .int (nI 1), .int (nI 1), .int (-1), .int (nI 1)]) (rest := []) (c2 := 656) (s2 := 5656) (m1 := hS_networks_8) C hX (pL_rectangle hst hI (nI 0) (nI 1) (nI 1) (nI 1) (-1) (nI 1) (ev_side (by decide +kernel) (by decide +kernel) (by decide +kernel) (by decide +kernel)) (ev_side (by decide +kernel) (by decide +kernel) (by decide +kernel) (by decide +kernel)) (ev_side (by decide +kernel) (by decide +kernel) (by decide +kernel) (by decide +kernel)) (ev_side (by decide +kernel) (by decide +kernel) (by decide +kernel) (by decide +kernel))) (gl_up inv_L_rectangle) rfl rfl rfl hdP_L_rectangle ⟨Nat.le_of_ble_eq_true rfl, Nat.le_of_ble_eq_true rfl⟩ rfl hl.1 rfl (by decide) dL_networks_173 ⟨Nat.le_of_ble_eq_true rfl, Nat.le_of_ble_eq_true rfl⟩ rfl rfl (fun f H locs hX hI => ?_)
  refine lv_if_eq (tgt := 288) C.x C.b dL_networks_176 (by decide) (fun q9 => absurd q9 (by decide)) (fun _ => ?_)
  refine lv_aload_n C.x C.b dL_networks_179 rfl (lv_at hl 0 rfl) ?_
  refine lv_iconst (v := (nI 4)) C.x C.b dL_networks_180 (by decide) ?_
  refine k_cI (As := [.int (nI 4)]) (rest := []) (c2 := 664) (s2 := 5720) (v := (nI 2)) (m1 := hS_networks_9) C hX (iop_nodes hst hI (nI 4)) (ev_nodes 4 2 (by decide +kernel) (by decide) rfl rfl) hI.hd (gl_up inv_X8_nodes) rfl ⟨rfl, hdA_X8_nodes⟩ (by decide) rfl hl.1 rfl (by decide) dL_networks_181 ⟨Nat.le_of_ble_eq_true rfl, Nat.le_of_ble_eq_true rfl⟩ ⟨Nat.le_of_ble_eq_true rfl, Nat.le_of_ble_eq_true rfl⟩ rfl rfl (fun f H locs hX hI => ?_)
  refine lv_iconst (v := (nI 2)) C.x C.b dL_networks_184 (by decide) ?_
  refine lv_icmp_ne (tgt := 288) C.x C.b dL_networks_185 (by decide) (fun q9 => absurd (by decide) q9) (fun _ => ?_)
  refine lv_aload_n C.x C.b dL_networks_188 rfl (lv_at hl 0 rfl) ?_
  refine lv_iconst (v := (nI 0)) C.x C.b dL_networks_189 (by decide) ?_
  refine lv_iconst (v := (nI 1)) C.x C.b dL_networks_190 (by decide) ?_
  refine k_cI (As := [.int (nI 0), .int (nI 1)]) (rest := []) (c2 := 672) (s2 := 5784) (v := (nI 0)) (m1 := _) C hX (iop_wire hst hI (nI 0) (nI 1)) (ev_wire 0 1 0 (by decide +kernel) (by decide) (by decide) (by decide) (by decide) rfl rfl) hI.hd (gl_up inv_X8_wire) rfl ⟨rfl, hdA_X8_wire⟩ (by decide) rfl hl.1 rfl (by decide) dL_networks_191 ⟨Nat.le_of_ble_eq_true rfl, Nat.le_of_ble_eq_true rfl⟩ ⟨Nat.le_of_ble_eq_true rfl, Nat.le_of_ble_eq_true rfl⟩ rfl rfl (fun f H locs hX hI => ?_)
  have hI : Inv G h f hS_networks_10 := hI.cg (hL [0, 0, 0, 0, 0, 0, 0, 0, 0, 0, 0, 0, 0, 0, 0, 0, 0, 0, 0, 0, 0, 0, 0, 0, 0, 0, 0, 0, 0, 0, 0, 0]) (hL [0, 0, 0, 0, 0, 0, 0, 0, 0, 0, 0, 0, 0, 0, 0, 0, 0, 0, 0, 0, 0, 0, 0, 0, 0, 0, 0, 0, 0, 0, 0, 0]) (hL [1, 0, 0, 1]) (hE [0, 1, 0, 0, 0, 0, 0, 0, 0, 0]) (hE [1, 0, 1, 0, 0, 0, 0, 0, 0, 0]) ⟨by decide +kernel, by decide +kernel, by decide +kernel⟩
  refine lv_if_ne (tgt := 288) C.x C.b dL_networks_194 (by decide) (fun q9 => absurd (by decide) q9) (fun _ => ?_)
  refine lv_aload_n C.x C.b dL_networks_197 rfl (lv_at hl 0 rfl) ?_
  refine lv_iconst (v := (nI 0)) C.x C.b dL_networks_198 (by decide) ?_
  refine k_law (As := [.ref h, .int (nI 0)]) (rest := []) (c2 := 752) (s2 := 6424) (m1 := hS_networks_10) C hX (pL_trees hst hI (nI 0) (ev_trees (by decide +kernel)) (ev_treesAnew (by decide +kernel))) (gl_up inv_L_trees) rfl rfl rfl hdP_L_trees ⟨Nat.le_of_ble_eq_true rfl, Nat.le_of_ble_eq_true rfl⟩ rfl hl.1 rfl (by decide) dL_networks_199 ⟨Nat.le_of_ble_eq_true rfl, Nat.le_of_ble_eq_true rfl⟩ rfl rfl (fun f H locs hX hI => ?_)
  refine lv_if_eq (tgt := 288) C.x C.b dL_networks_202 (by decide) (fun q9 => absurd q9 (by decide)) (fun _ => ?_)
  refine lv_aload_n C.x C.b dL_networks_205 rfl (lv_at hl 0 rfl) ?_
  refine lv_bipush (v := (nI 25)) C.x C.b dL_networks_206 (by decide) ?_
  refine lv_iconst (v := (nI 0)) C.x C.b dL_networks_208 (by decide) ?_
  refine lv_iconst (v := (nI 1)) C.x C.b dL_networks_209 (by decide) ?_
  refine lv_iconst (v := (nI 0)) C.x C.b dL_networks_210 (by decide) ?_
  refine lv_iconst (v := (nI 0)) C.x C.b dL_networks_211 (by decide) ?_
  refine k_actI (As := [.ref h, .int (nI 25), .int (nI 0), .int (nI 1), .int (nI 0), .int (nI 0)]) (rest := []) (c2 := 760) (s2 := 6488) (v := (-7000003)) (m1 := hS_networks_10) C hX (act_25 hI.hd (nI 0) (nI 1) (nI 0) (nI 0) (iop_side hst hI (nI 0) (nI 1) (nI 0))) (e_side_s (by decide +kernel) (by decide +kernel) (by decide +kernel)) (rfl) (gl_up inv_L_act) rfl hl.1 rfl (by decide) dL_networks_212 ⟨Nat.le_of_ble_eq_true rfl, Nat.le_of_ble_eq_true rfl⟩ ⟨Nat.le_of_ble_eq_true rfl, Nat.le_of_ble_eq_true rfl⟩ rfl rfl (fun f H locs hX hI => ?_)
  refine lv_ldc2 (v := (-7000003)) C.x C.b C.ow (C.ts _ (List.mem_cons_of_mem _ lkC_4)) dL_networks_215 ?_
  refine k_lcmp_ne (tgt := 288) C.x C.b dL_networks_218 dL_networks_219 (by decide) (fun q9 => absurd (by decide) q9) (fun _ => ?_)
  refine lv_aload_n C.x C.b dL_networks_222 rfl (lv_at hl 0 rfl) ?_
  refine lv_iconst (v := (nI 1)) C.x C.b dL_networks_223 (by decide) ?_
  refine lv_iconst (v := (nI 2)) C.x C.b dL_networks_224 (by decide) ?_
  refine k_cI (As := [.int (nI 1), .int (nI 2)]) (rest := []) (c2 := 768) (s2 := 6552) (v := (nI 1)) (m1 := _) C hX (iop_wire hst hI (nI 1) (nI 2)) (ev_wire 1 2 1 (by decide +kernel) (by decide) (by decide) (by decide) (by decide) rfl rfl) hI.hd (gl_up inv_X8_wire) rfl ⟨rfl, hdA_X8_wire⟩ (by decide) rfl hl.1 rfl (by decide) dL_networks_225 ⟨Nat.le_of_ble_eq_true rfl, Nat.le_of_ble_eq_true rfl⟩ ⟨Nat.le_of_ble_eq_true rfl, Nat.le_of_ble_eq_true rfl⟩ rfl rfl (fun f H locs hX hI => ?_)
  have hI : Inv G h f hS_networks_11 := hI.cg (hL [0, 0, 0, 0, 0, 0, 0, 0, 0, 0, 0, 0, 0, 0, 0, 0, 0, 0, 0, 0, 0, 0, 0, 0, 0, 0, 0, 0, 0, 0, 0, 0]) (hL [0, 0, 0, 0, 0, 0, 0, 0, 0, 0, 0, 0, 0, 0, 0, 0, 0, 0, 0, 0, 0, 0, 0, 0, 0, 0, 0, 0, 0, 0, 0, 0]) (hL [1, 0, 0, 1]) (hE [0, 1, 0, 0, 0, 0, 0, 0, 0, 0]) (hE [1, 2, 1, 0, 0, 0, 0, 0, 0, 0]) ⟨by decide +kernel, by decide +kernel, by decide +kernel⟩
  refine lv_iconst (v := (nI 1)) C.x C.b dL_networks_228 (by decide) ?_
  refine lv_icmp_ne (tgt := 288) C.x C.b dL_networks_229 (by decide) (fun q9 => absurd (by decide) q9) (fun _ => ?_)
  refine lv_aload_n C.x C.b dL_networks_232 rfl (lv_at hl 0 rfl) ?_
  refine lv_iconst (v := (nI 2)) C.x C.b dL_networks_233 (by decide) ?_
  refine lv_iconst (v := (nI 3)) C.x C.b dL_networks_234 (by decide) ?_
  refine k_cI (As := [.int (nI 2), .int (nI 3)]) (rest := []) (c2 := 776) (s2 := 6616) (v := (nI 2)) (m1 := _) C hX (iop_wire hst hI (nI 2) (nI 3)) (ev_wire 2 3 2 (by decide +kernel) (by decide) (by decide) (by decide) (by decide) rfl rfl) hI.hd (gl_up inv_X8_wire) rfl ⟨rfl, hdA_X8_wire⟩ (by decide) rfl hl.1 rfl (by decide) dL_networks_235 ⟨Nat.le_of_ble_eq_true rfl, Nat.le_of_ble_eq_true rfl⟩ ⟨Nat.le_of_ble_eq_true rfl, Nat.le_of_ble_eq_true rfl⟩ rfl rfl (fun f H locs hX hI => ?_)
  have hI : Inv G h f hS_networks_12 := hI.cg (hL [0, 0, 0, 0, 0, 0, 0, 0, 0, 0, 0, 0, 0, 0, 0, 0, 0, 0, 0, 0, 0, 0, 0, 0, 0, 0, 0, 0, 0, 0, 0, 0]) (hL [0, 0, 0, 0, 0, 0, 0, 0, 0, 0, 0, 0, 0, 0, 0, 0, 0, 0, 0, 0, 0, 0, 0, 0, 0, 0, 0, 0, 0, 0, 0, 0]) (hL [1, 0, 0, 1]) (hE [0, 1, 2, 0, 0, 0, 0, 0, 0, 0]) (hE [1, 2, 3, 0, 0, 0, 0, 0, 0, 0]) ⟨by decide +kernel, by decide +kernel, by decide +kernel⟩
  refine lv_iconst (v := (nI 2)) C.x C.b dL_networks_238 (by decide) ?_
  refine lv_icmp_ne (tgt := 288) C.x C.b dL_networks_239 (by decide) (fun q9 => absurd (by decide) q9) (fun _ => ?_)
  refine lv_aload_n C.x C.b dL_networks_242 rfl (lv_at hl 0 rfl) ?_
  refine lv_iconst (v := (nI 1)) C.x C.b dL_networks_243 (by decide) ?_
  refine k_law (As := [.ref h, .int (nI 1)]) (rest := []) (c2 := 856) (s2 := 7256) (m1 := hS_networks_12) C hX (pL_trees hst hI (nI 1) (ev_trees (by decide +kernel)) (ev_treesAnew (by decide +kernel))) (gl_up inv_L_trees) rfl rfl rfl hdP_L_trees ⟨Nat.le_of_ble_eq_true rfl, Nat.le_of_ble_eq_true rfl⟩ rfl hl.1 rfl (by decide) dL_networks_244 ⟨Nat.le_of_ble_eq_true rfl, Nat.le_of_ble_eq_true rfl⟩ rfl rfl (fun f H locs hX hI => ?_)
  refine lv_if_eq (tgt := 288) C.x C.b dL_networks_247 (by decide) (fun q9 => absurd q9 (by decide)) (fun _ => ?_)
  refine lv_aload_n C.x C.b dL_networks_250 rfl (lv_at hl 0 rfl) ?_
  refine lv_iconst (v := (nI 0)) C.x C.b dL_networks_251 (by decide) ?_
  refine lv_iconst (v := (nI 3)) C.x C.b dL_networks_252 (by decide) ?_
  refine lv_iconst (v := (nI 3)) C.x C.b dL_networks_253 (by decide) ?_
  refine lv_iconst (v := (nI 1)) C.x C.b dL_networks_254 (by decide) ?_
  refine lv_iconst (v := (nI 1)) C.x C.b dL_networks_255 (by decide) ?_
  refine lv_iconst (v := (nI 1)) C.x C.b dL_networks_256 (by decide) ?_
  refine k_law (As := [.ref h, .int (nI 0), .int (nI 3), .int (nI 3), .int (nI 1), .int (nI 1), .int (nI 1)]) (rest := []) (c2 := 936) (s2 := 7896) (m1 := hS_networks_12) C hX (pL_rectangle hst hI (nI 0) (nI 3) (nI 3) (nI 1) (nI 1) (nI 1) (ev_side (by decide +kernel) (by decide +kernel) (by decide +kernel) (by decide +kernel)) (ev_side (by decide +kernel) (by decide +kernel) (by decide +kernel) (by decide +kernel)) (ev_side (by decide +kernel) (by decide +kernel) (by decide +kernel) (by decide +kernel)) (ev_side (by decide +kernel) (by decide +kernel) (by decide +kernel) (by decide +kernel))) (gl_up inv_L_rectangle) rfl rfl rfl hdP_L_rectangle ⟨Nat.le_of_ble_eq_true rfl, Nat.le_of_ble_eq_true rfl⟩ rfl hl.1 rfl (by decide) dL_networks_257 ⟨Nat.le_of_ble_eq_true rfl, Nat.le_of_ble_eq_true rfl⟩ rfl rfl (fun f H locs hX hI => ?_)
  refine lv_if_eq (tgt := 288) C.x C.b dL_networks_260 (by decide) (fun q9 => absurd q9 (by decide)) (fun _ => ?_)
  refine lv_aload_n C.x C.b dL_networks_263 rfl (lv_at hl 0 rfl) ?_
  refine lv_iconst (v := (nI 1)) C.x C.b dL_networks_264 (by decide) ?_
  refine lv_iconst (v := (nI 2)) C.x C.b dL_networks_265 (by decide) ?_
  refine lv_iconst (v := (nI 1)) C.x C.b dL_networks_266 (by decide) ?_
  refine lv_iconst (v := (nI 0)) C.x C.b dL_networks_267 (by decide) ?_
  refine lv_iconst (v := (nI 1)) C.x C.b dL_networks_268 (by decide) ?_
  refine lv_iconst (v := (nI 0)) C.x C.b dL_networks_269 (by decide) ?_
  refine k_law (As := [.ref h, .int (nI 1), .int (nI 2), .int (nI 1), .int (nI 0), .int (nI 1), .int (nI 0)]) (rest := []) (c2 := 1016) (s2 := 8536) (m1 := hS_networks_12) C hX (pL_rectangle hst hI (nI 1) (nI 2) (nI 1) (nI 0) (nI 1) (nI 0) (ev_side (by decide +kernel) (by decide +kernel) (by decide +kernel) (by decide +kernel)) (ev_side (by decide +kernel) (by decide +kernel) (by decide +kernel) (by decide +kernel)) (ev_side (by decide +kernel) (by decide +kernel) (by decide +kernel) (by decide +kernel)) (ev_side (by decide +kernel) (by decide +kernel) (by decide +kernel) (by decide +kernel))) (gl_up inv_L_rectangle) rfl rfl rfl hdP_L_rectangle ⟨Nat.le_of_ble_eq_true rfl, Nat.le_of_ble_eq_true rfl⟩ rfl hl.1 rfl (by decide) dL_networks_270 ⟨Nat.le_of_ble_eq_true rfl, Nat.le_of_ble_eq_true rfl⟩ rfl rfl (fun f H locs hX hI => ?_)
  refine lv_if_eq (tgt := 288) C.x C.b dL_networks_273 (by decide) (fun q9 => absurd q9 (by decide)) (fun _ => ?_)
  refine lv_aload_n C.x C.b dL_networks_276 rfl (lv_at hl 0 rfl) ?_
  refine lv_iconst (v := (nI 0)) C.x C.b dL_networks_277 (by decide) ?_
  refine lv_iconst (v := (nI 0)) C.x C.b dL_networks_278 (by decide) ?_
  refine lv_iconst (v := (nI 0)) C.x C.b dL_networks_279 (by decide) ?_
  refine lv_iconst (v := (nI 4)) C.x C.b dL_networks_280 (by decide) ?_
  refine lv_iconst (v := (nI 3)) C.x C.b dL_networks_281 (by decide) ?_
  refine k_law (As := [.ref h, .int (nI 0), .int (nI 0), .int (nI 0), .int (nI 4), .int (nI 3)]) (rest := []) (c2 := 4316) (s2 := 34936) (m1 := hS_networks_12) C hX (pL_refuses hst hI) (gl_up inv_L_refuses) rfl rfl rfl hdP_L_refuses ⟨Nat.le_of_ble_eq_true rfl, Nat.le_of_ble_eq_true rfl⟩ rfl hl.1 rfl (by decide) dL_networks_282 ⟨Nat.le_of_ble_eq_true rfl, Nat.le_of_ble_eq_true rfl⟩ rfl rfl (fun f H locs hX hI => ?_)
  refine lv_if_ne (tgt := 290) C.x C.b dL_networks_285 (by decide) (fun _ => ?_) (fun q9 => absurd q9 (by decide))
  refine lv_aload_n C.x C.b dL_networks_290 rfl (lv_at hl 0 rfl) ?_
  refine lv_bipush (v := (nI 6)) C.x C.b dL_networks_291 (by decide) ?_
  refine k_cI (As := [.int (nI 6)]) (rest := []) (c2 := 4324) (s2 := 35000) (v := (nI 4)) (m1 := hS_networks_13) C hX (iop_nodes hst hI (nI 6)) (ev_nodes 6 4 (by decide +kernel) (by decide) rfl rfl) hI.hd (gl_up inv_X8_nodes) rfl ⟨rfl, hdA_X8_nodes⟩ (by decide) rfl hl.1 rfl (by decide) dL_networks_293 ⟨Nat.le_of_ble_eq_true rfl, Nat.le_of_ble_eq_true rfl⟩ ⟨Nat.le_of_ble_eq_true rfl, Nat.le_of_ble_eq_true rfl⟩ rfl rfl (fun f H locs hX hI => ?_)
  refine lv_iconst (v := (nI 4)) C.x C.b dL_networks_296 (by decide) ?_
  refine lv_icmp_eq (tgt := 302) C.x C.b dL_networks_297 (by decide) (fun _ => ?_) (fun q9 => absurd (by decide) q9)
  refine lv_iconst (v := (nI 0)) C.x C.b dL_networks_302 (by decide) ?_
  refine lv_istore_n (lv' := [(1, .int (nI 0)), (0, .ref h)]) C.x C.b dL_networks_303 rfl hl (by decide) rfl (fun ls hl => ?_)
  refine lv_iload_n C.x C.b dL_networks_304 rfl (lv_at hl 0 rfl) ?_
  refine lv_bipush (v := (nI 11)) C.x C.b dL_networks_305 (by decide) ?_
  refine lv_icmp_ge (tgt := 363) C.x C.b dL_networks_307 (by decide) (fun q9 => absurd q9 (by decide)) (fun _ => ?_)
  refine lv_aload_n C.x C.b dL_networks_310 rfl (lv_at hl 1 rfl) ?_
  refine lv_bipush (v := (nI 24)) C.x C.b dL_networks_311 (by decide) ?_
  refine lv_iload_n C.x C.b dL_networks_313 rfl (lv_at hl 0 rfl) ?_
  refine lv_bipush (v := (nI 6)) C.x C.b dL_networks_314 (by decide) ?_
  refine lv_irem C.x C.b dL_networks_316 (by decide) ?_
  refine k_topi (y := (nI 0)) (by decide) ?_
  refine lv_iload_n C.x C.b dL_networks_317 rfl (lv_at hl 0 rfl) ?_
  refine lv_iload_n C.x C.b dL_networks_318 rfl (lv_at hl 0 rfl) ?_
  refine lv_bipush (v := (nI 6)) C.x C.b dL_networks_319 (by decide) ?_
  refine lv_icmp_ge (tgt := 328) C.x C.b dL_networks_321 (by decide) (fun q9 => absurd q9 (by decide)) (fun _ => ?_)
  refine lv_iconst (v := (nI 1)) C.x C.b dL_networks_324 (by decide) ?_
  refine lv_goto (tgt := 329) C.x C.b dL_networks_325 (by decide) ?_
  refine lv_iadd C.x C.b dL_networks_329 ?_
  refine k_topi (y := (nI 1)) (by decide) ?_
  refine lv_bipush (v := (nI 6)) C.x C.b dL_networks_330 (by decide) ?_
  refine lv_irem C.x C.b dL_networks_332 (by decide) ?_
  refine k_topi (y := (nI 1)) (by decide) ?_
  refine lv_iconst (v := (nI 0)) C.x C.b dL_networks_333 (by decide) ?_
  refine lv_iconst (v := (nI 0)) C.x C.b dL_networks_334 (by decide) ?_
  refine k_actI (As := [.ref h, .int (nI 24), .int (nI 0), .int (nI 1), .int (nI 0), .int (nI 0)]) (rest := []) (c2 := 4332) (s2 := 35064) (v := 0) (m1 := _) C hX (act_24 hI.hd (nI 0) (nI 1) (nI 0) (nI 0) (iop_wire hst hI (nI 0) (nI 1))) (ev_wire 0 1 0 (by decide +kernel) (by decide) (by decide) (by decide) (by decide) rfl rfl) (rfl) (gl_up inv_L_act) rfl hl.1 rfl (by decide) dL_networks_335 ⟨Nat.le_of_ble_eq_true rfl, Nat.le_of_ble_eq_true rfl⟩ ⟨Nat.le_of_ble_eq_true rfl, Nat.le_of_ble_eq_true rfl⟩ rfl rfl (fun f H locs hX hI => ?_)
  have hI : Inv G h f hS_networks_14 := hI.cg (hL [0, 0, 0, 0, 0, 0, 0, 0, 0, 0, 0, 0, 0, 0, 0, 0, 0, 0, 0, 0, 0, 0, 0, 0, 0, 0, 0, 0, 0, 0, 0, 0]) (hL [0, 0, 0, 0, 0, 0, 0, 0, 0, 0, 0, 0, 0, 0, 0, 0, 0, 0, 0, 0, 0, 0, 0, 0, 0, 0, 0, 0, 0, 0, 0, 0]) (hL [1, 0, 0, 1]) (hE [0, 1, 2, 0, 0, 0, 0, 0, 0, 0]) (hE [1, 2, 3, 0, 0, 0, 0, 0, 0, 0]) ⟨by decide +kernel, by decide +kernel, by decide +kernel⟩
  refine lv_iload_n C.x C.b dL_networks_338 rfl (lv_at hl 0 rfl) ?_
  refine lv_bipush (v := (nI 10)) C.x C.b dL_networks_339 (by decide) ?_
  refine lv_icmp_ge (tgt := 348) C.x C.b dL_networks_341 (by decide) (fun q9 => absurd q9 (by decide)) (fun _ => ?_)
  refine lv_iload_n C.x C.b dL_networks_344 rfl (lv_at hl 0 rfl) ?_
  refine lv_goto (tgt := 350) C.x C.b dL_networks_345 (by decide) ?_
  refine lv_i2l (v := (nI 0).toInt64) C.x C.b dL_networks_350 rfl ?_
  refine k_topl (y := 0) (by decide) ?_
  refine k_lcmp_eq (tgt := 357) C.x C.b dL_networks_351 dL_networks_352 (by decide) (fun _ => ?_) (fun q9 => absurd (by decide) q9)
  refine lv_iinc (v := (nI 1)) (lv' := [(1, .int (nI 1)), (0, .ref h)]) C.x C.b dL_networks_357 hl (k := 0) rfl (by decide) (by decide) rfl (fun ls hl => ?_)
  refine lv_goto (tgt := 304) C.x C.b dL_networks_360 (by decide) ?_
  refine lv_iload_n C.x C.b dL_networks_304 rfl (lv_at hl 0 rfl) ?_
  refine lv_bipush (v := (nI 11)) C.x C.b dL_networks_305 (by decide) ?_
  refine lv_icmp_ge (tgt := 363) C.x C.b dL_networks_307 (by decide) (fun q9 => absurd q9 (by decide)) (fun _ => ?_)
  refine lv_aload_n C.x C.b dL_networks_310 rfl (lv_at hl 1 rfl) ?_
  refine lv_bipush (v := (nI 24)) C.x C.b dL_networks_311 (by decide) ?_
  refine lv_iload_n C.x C.b dL_networks_313 rfl (lv_at hl 0 rfl) ?_
  refine lv_bipush (v := (nI 6)) C.x C.b dL_networks_314 (by decide) ?_
  refine lv_irem C.x C.b dL_networks_316 (by decide) ?_
  refine k_topi (y := (nI 1)) (by decide) ?_
  refine lv_iload_n C.x C.b dL_networks_317 rfl (lv_at hl 0 rfl) ?_
  refine lv_iload_n C.x C.b dL_networks_318 rfl (lv_at hl 0 rfl) ?_
  refine lv_bipush (v := (nI 6)) C.x C.b dL_networks_319 (by decide) ?_
  refine lv_icmp_ge (tgt := 328) C.x C.b dL_networks_321 (by decide) (fun q9 => absurd q9 (by decide)) (fun _ => ?_)
  refine lv_iconst (v := (nI 1)) C.x C.b dL_networks_324 (by decide) ?_
  refine lv_goto (tgt := 329) C.x C.b dL_networks_325 (by decide) ?_
  refine lv_iadd C.x C.b dL_networks_329 ?_
  refine k_topi (y := (nI 2)) (by decide) ?_
  refine lv_bipush (v := (nI 6)) C.x C.b dL_networks_330 (by decide) ?_
  refine lv_irem C.x C.b dL_networks_332 (by decide) ?_
  refine k_topi (y := (nI 2)) (by decide) ?_
  refine lv_iconst (v := (nI 0)) C.x C.b dL_networks_333 (by decide) ?_
  refine lv_iconst (v := (nI 0)) C.x C.b dL_networks_334 (by decide) ?_
  refine k_actI (As := [.ref h, .int (nI 24), .int (nI 1), .int (nI 2), .int (nI 0), .int (nI 0)]) (rest := []) (c2 := 4340) (s2 := 35128) (v := 1) (m1 := _) C hX (act_24 hI.hd (nI 1) (nI 2) (nI 0) (nI 0) (iop_wire hst hI (nI 1) (nI 2))) (ev_wire 1 2 1 (by decide +kernel) (by decide) (by decide) (by decide) (by decide) rfl rfl) (rfl) (gl_up inv_L_act) rfl hl.1 rfl (by decide) dL_networks_335 ⟨Nat.le_of_ble_eq_true rfl, Nat.le_of_ble_eq_true rfl⟩ ⟨Nat.le_of_ble_eq_true rfl, Nat.le_of_ble_eq_true rfl⟩ rfl rfl (fun f H locs hX hI => ?_)
  have hI : Inv G h f hS_networks_15 := hI.cg (hL [0, 0, 0, 0, 0, 0, 0, 0, 0, 0, 0, 0, 0, 0, 0, 0, 0, 0, 0, 0, 0, 0, 0, 0, 0, 0, 0, 0, 0, 0, 0, 0]) (hL [0, 0, 0, 0, 0, 0, 0, 0, 0, 0, 0, 0, 0, 0, 0, 0, 0, 0, 0, 0, 0, 0, 0, 0, 0, 0, 0, 0, 0, 0, 0, 0]) (hL [1, 0, 0, 1]) (hE [0, 1, 2, 0, 0, 0, 0, 0, 0, 0]) (hE [1, 2, 3, 0, 0, 0, 0, 0, 0, 0]) ⟨by decide +kernel, by decide +kernel, by decide +kernel⟩
  refine lv_iload_n C.x C.b dL_networks_338 rfl (lv_at hl 0 rfl) ?_
  refine lv_bipush (v := (nI 10)) C.x C.b dL_networks_339 (by decide) ?_
  refine lv_icmp_ge (tgt := 348) C.x C.b dL_networks_341 (by decide) (fun q9 => absurd q9 (by decide)) (fun _ => ?_)
  refine lv_iload_n C.x C.b dL_networks_344 rfl (lv_at hl 0 rfl) ?_
  refine lv_goto (tgt := 350) C.x C.b dL_networks_345 (by decide) ?_
  refine lv_i2l (v := (nI 1).toInt64) C.x C.b dL_networks_350 rfl ?_
  refine k_topl (y := 1) (by decide) ?_
  refine k_lcmp_eq (tgt := 357) C.x C.b dL_networks_351 dL_networks_352 (by decide) (fun _ => ?_) (fun q9 => absurd (by decide) q9)
  refine lv_iinc (v := (nI 2)) (lv' := [(1, .int (nI 2)), (0, .ref h)]) C.x C.b dL_networks_357 hl (k := 0) rfl (by decide) (by decide) rfl (fun ls hl => ?_)
  refine lv_goto (tgt := 304) C.x C.b dL_networks_360 (by decide) ?_
  refine lv_iload_n C.x C.b dL_networks_304 rfl (lv_at hl 0 rfl) ?_
  refine lv_bipush (v := (nI 11)) C.x C.b dL_networks_305 (by decide) ?_
  refine lv_icmp_ge (tgt := 363) C.x C.b dL_networks_307 (by decide) (fun q9 => absurd q9 (by decide)) (fun _ => ?_)
  refine lv_aload_n C.x C.b dL_networks_310 rfl (lv_at hl 1 rfl) ?_
  refine lv_bipush (v := (nI 24)) C.x C.b dL_networks_311 (by decide) ?_
  refine lv_iload_n C.x C.b dL_networks_313 rfl (lv_at hl 0 rfl) ?_
  refine lv_bipush (v := (nI 6)) C.x C.b dL_networks_314 (by decide) ?_
  refine lv_irem C.x C.b dL_networks_316 (by decide) ?_
  refine k_topi (y := (nI 2)) (by decide) ?_
  refine lv_iload_n C.x C.b dL_networks_317 rfl (lv_at hl 0 rfl) ?_
  refine lv_iload_n C.x C.b dL_networks_318 rfl (lv_at hl 0 rfl) ?_
  refine lv_bipush (v := (nI 6)) C.x C.b dL_networks_319 (by decide) ?_
  refine lv_icmp_ge (tgt := 328) C.x C.b dL_networks_321 (by decide) (fun q9 => absurd q9 (by decide)) (fun _ => ?_)
  refine lv_iconst (v := (nI 1)) C.x C.b dL_networks_324 (by decide) ?_
  refine lv_goto (tgt := 329) C.x C.b dL_networks_325 (by decide) ?_
  refine lv_iadd C.x C.b dL_networks_329 ?_
  refine k_topi (y := (nI 3)) (by decide) ?_
  refine lv_bipush (v := (nI 6)) C.x C.b dL_networks_330 (by decide) ?_
  refine lv_irem C.x C.b dL_networks_332 (by decide) ?_
  refine k_topi (y := (nI 3)) (by decide) ?_
  refine lv_iconst (v := (nI 0)) C.x C.b dL_networks_333 (by decide) ?_
  refine lv_iconst (v := (nI 0)) C.x C.b dL_networks_334 (by decide) ?_
  refine k_actI (As := [.ref h, .int (nI 24), .int (nI 2), .int (nI 3), .int (nI 0), .int (nI 0)]) (rest := []) (c2 := 4348) (s2 := 35192) (v := 2) (m1 := _) C hX (act_24 hI.hd (nI 2) (nI 3) (nI 0) (nI 0) (iop_wire hst hI (nI 2) (nI 3))) (ev_wire 2 3 2 (by decide +kernel) (by decide) (by decide) (by decide) (by decide) rfl rfl) (rfl) (gl_up inv_L_act) rfl hl.1 rfl (by decide) dL_networks_335 ⟨Nat.le_of_ble_eq_true rfl, Nat.le_of_ble_eq_true rfl⟩ ⟨Nat.le_of_ble_eq_true rfl, Nat.le_of_ble_eq_true rfl⟩ rfl rfl (fun f H locs hX hI => ?_)
  have hI : Inv G h f hS_networks_16 := hI.cg (hL [0, 0, 0, 0, 0, 0, 0, 0, 0, 0, 0, 0, 0, 0, 0, 0, 0, 0, 0, 0, 0, 0, 0, 0, 0, 0, 0, 0, 0, 0, 0, 0]) (hL [0, 0, 0, 0, 0, 0, 0, 0, 0, 0, 0, 0, 0, 0, 0, 0, 0, 0, 0, 0, 0, 0, 0, 0, 0, 0, 0, 0, 0, 0, 0, 0]) (hL [1, 0, 0, 1]) (hE [0, 1, 2, 0, 0, 0, 0, 0, 0, 0]) (hE [1, 2, 3, 0, 0, 0, 0, 0, 0, 0]) ⟨by decide +kernel, by decide +kernel, by decide +kernel⟩
  refine lv_iload_n C.x C.b dL_networks_338 rfl (lv_at hl 0 rfl) ?_
  refine lv_bipush (v := (nI 10)) C.x C.b dL_networks_339 (by decide) ?_
  refine lv_icmp_ge (tgt := 348) C.x C.b dL_networks_341 (by decide) (fun q9 => absurd q9 (by decide)) (fun _ => ?_)
  refine lv_iload_n C.x C.b dL_networks_344 rfl (lv_at hl 0 rfl) ?_
  refine lv_goto (tgt := 350) C.x C.b dL_networks_345 (by decide) ?_
  refine lv_i2l (v := (nI 2).toInt64) C.x C.b dL_networks_350 rfl ?_
  refine k_topl (y := 2) (by decide) ?_
  refine k_lcmp_eq (tgt := 357) C.x C.b dL_networks_351 dL_networks_352 (by decide) (fun _ => ?_) (fun q9 => absurd (by decide) q9)
  refine lv_iinc (v := (nI 3)) (lv' := [(1, .int (nI 3)), (0, .ref h)]) C.x C.b dL_networks_357 hl (k := 0) rfl (by decide) (by decide) rfl (fun ls hl => ?_)
  refine lv_goto (tgt := 304) C.x C.b dL_networks_360 (by decide) ?_
  refine lv_iload_n C.x C.b dL_networks_304 rfl (lv_at hl 0 rfl) ?_
  refine lv_bipush (v := (nI 11)) C.x C.b dL_networks_305 (by decide) ?_
  refine lv_icmp_ge (tgt := 363) C.x C.b dL_networks_307 (by decide) (fun q9 => absurd q9 (by decide)) (fun _ => ?_)
  refine lv_aload_n C.x C.b dL_networks_310 rfl (lv_at hl 1 rfl) ?_
  refine lv_bipush (v := (nI 24)) C.x C.b dL_networks_311 (by decide) ?_
  refine lv_iload_n C.x C.b dL_networks_313 rfl (lv_at hl 0 rfl) ?_
  refine lv_bipush (v := (nI 6)) C.x C.b dL_networks_314 (by decide) ?_
  refine lv_irem C.x C.b dL_networks_316 (by decide) ?_
  refine k_topi (y := (nI 3)) (by decide) ?_
  refine lv_iload_n C.x C.b dL_networks_317 rfl (lv_at hl 0 rfl) ?_
  refine lv_iload_n C.x C.b dL_networks_318 rfl (lv_at hl 0 rfl) ?_
  refine lv_bipush (v := (nI 6)) C.x C.b dL_networks_319 (by decide) ?_
  refine lv_icmp_ge (tgt := 328) C.x C.b dL_networks_321 (by decide) (fun q9 => absurd q9 (by decide)) (fun _ => ?_)
  refine lv_iconst (v := (nI 1)) C.x C.b dL_networks_324 (by decide) ?_
  refine lv_goto (tgt := 329) C.x C.b dL_networks_325 (by decide) ?_
  refine lv_iadd C.x C.b dL_networks_329 ?_
  refine k_topi (y := (nI 4)) (by decide) ?_
  refine lv_bipush (v := (nI 6)) C.x C.b dL_networks_330 (by decide) ?_
  refine lv_irem C.x C.b dL_networks_332 (by decide) ?_
  refine k_topi (y := (nI 4)) (by decide) ?_
  refine lv_iconst (v := (nI 0)) C.x C.b dL_networks_333 (by decide) ?_
  refine lv_iconst (v := (nI 0)) C.x C.b dL_networks_334 (by decide) ?_
  refine k_actI (As := [.ref h, .int (nI 24), .int (nI 3), .int (nI 4), .int (nI 0), .int (nI 0)]) (rest := []) (c2 := 4356) (s2 := 35256) (v := 3) (m1 := _) C hX (act_24 hI.hd (nI 3) (nI 4) (nI 0) (nI 0) (iop_wire hst hI (nI 3) (nI 4))) (ev_wire 3 4 3 (by decide +kernel) (by decide) (by decide) (by decide) (by decide) rfl rfl) (rfl) (gl_up inv_L_act) rfl hl.1 rfl (by decide) dL_networks_335 ⟨Nat.le_of_ble_eq_true rfl, Nat.le_of_ble_eq_true rfl⟩ ⟨Nat.le_of_ble_eq_true rfl, Nat.le_of_ble_eq_true rfl⟩ rfl rfl (fun f H locs hX hI => ?_)
  have hI : Inv G h f hS_networks_17 := hI.cg (hL [0, 0, 0, 0, 0, 0, 0, 0, 0, 0, 0, 0, 0, 0, 0, 0, 0, 0, 0, 0, 0, 0, 0, 0, 0, 0, 0, 0, 0, 0, 0, 0]) (hL [0, 0, 0, 0, 0, 0, 0, 0, 0, 0, 0, 0, 0, 0, 0, 0, 0, 0, 0, 0, 0, 0, 0, 0, 0, 0, 0, 0, 0, 0, 0, 0]) (hL [1, 0, 0, 1]) (hE [0, 1, 2, 3, 0, 0, 0, 0, 0, 0]) (hE [1, 2, 3, 4, 0, 0, 0, 0, 0, 0]) ⟨by decide +kernel, by decide +kernel, by decide +kernel⟩
  refine lv_iload_n C.x C.b dL_networks_338 rfl (lv_at hl 0 rfl) ?_
  refine lv_bipush (v := (nI 10)) C.x C.b dL_networks_339 (by decide) ?_
  refine lv_icmp_ge (tgt := 348) C.x C.b dL_networks_341 (by decide) (fun q9 => absurd q9 (by decide)) (fun _ => ?_)
  refine lv_iload_n C.x C.b dL_networks_344 rfl (lv_at hl 0 rfl) ?_
  refine lv_goto (tgt := 350) C.x C.b dL_networks_345 (by decide) ?_
  refine lv_i2l (v := (nI 3).toInt64) C.x C.b dL_networks_350 rfl ?_
  refine k_topl (y := 3) (by decide) ?_
  refine k_lcmp_eq (tgt := 357) C.x C.b dL_networks_351 dL_networks_352 (by decide) (fun _ => ?_) (fun q9 => absurd (by decide) q9)
  refine lv_iinc (v := (nI 4)) (lv' := [(1, .int (nI 4)), (0, .ref h)]) C.x C.b dL_networks_357 hl (k := 0) rfl (by decide) (by decide) rfl (fun ls hl => ?_)
  refine lv_goto (tgt := 304) C.x C.b dL_networks_360 (by decide) ?_
  refine lv_iload_n C.x C.b dL_networks_304 rfl (lv_at hl 0 rfl) ?_
  refine lv_bipush (v := (nI 11)) C.x C.b dL_networks_305 (by decide) ?_
  refine lv_icmp_ge (tgt := 363) C.x C.b dL_networks_307 (by decide) (fun q9 => absurd q9 (by decide)) (fun _ => ?_)
  refine lv_aload_n C.x C.b dL_networks_310 rfl (lv_at hl 1 rfl) ?_
  refine lv_bipush (v := (nI 24)) C.x C.b dL_networks_311 (by decide) ?_
  refine lv_iload_n C.x C.b dL_networks_313 rfl (lv_at hl 0 rfl) ?_
  refine lv_bipush (v := (nI 6)) C.x C.b dL_networks_314 (by decide) ?_
  refine lv_irem C.x C.b dL_networks_316 (by decide) ?_
  refine k_topi (y := (nI 4)) (by decide) ?_
  refine lv_iload_n C.x C.b dL_networks_317 rfl (lv_at hl 0 rfl) ?_
  refine lv_iload_n C.x C.b dL_networks_318 rfl (lv_at hl 0 rfl) ?_
  refine lv_bipush (v := (nI 6)) C.x C.b dL_networks_319 (by decide) ?_
  refine lv_icmp_ge (tgt := 328) C.x C.b dL_networks_321 (by decide) (fun q9 => absurd q9 (by decide)) (fun _ => ?_)
  refine lv_iconst (v := (nI 1)) C.x C.b dL_networks_324 (by decide) ?_
  refine lv_goto (tgt := 329) C.x C.b dL_networks_325 (by decide) ?_
  refine lv_iadd C.x C.b dL_networks_329 ?_
  refine k_topi (y := (nI 5)) (by decide) ?_
  refine lv_bipush (v := (nI 6)) C.x C.b dL_networks_330 (by decide) ?_
  refine lv_irem C.x C.b dL_networks_332 (by decide) ?_
  refine k_topi (y := (nI 5)) (by decide) ?_
  refine lv_iconst (v := (nI 0)) C.x C.b dL_networks_333 (by decide) ?_
  refine lv_iconst (v := (nI 0)) C.x C.b dL_networks_334 (by decide) ?_
  refine k_actI (As := [.ref h, .int (nI 24), .int (nI 4), .int (nI 5), .int (nI 0), .int (nI 0)]) (rest := []) (c2 := 4364) (s2 := 35320) (v := 4) (m1 := _) C hX (act_24 hI.hd (nI 4) (nI 5) (nI 0) (nI 0) (iop_wire hst hI (nI 4) (nI 5))) (ev_wire 4 5 4 (by decide +kernel) (by decide) (by decide) (by decide) (by decide) rfl rfl) (rfl) (gl_up inv_L_act) rfl hl.1 rfl (by decide) dL_networks_335 ⟨Nat.le_of_ble_eq_true rfl, Nat.le_of_ble_eq_true rfl⟩ ⟨Nat.le_of_ble_eq_true rfl, Nat.le_of_ble_eq_true rfl⟩ rfl rfl (fun f H locs hX hI => ?_)
  have hI : Inv G h f hS_networks_18 := hI.cg (hL [0, 0, 0, 0, 0, 0, 0, 0, 0, 0, 0, 0, 0, 0, 0, 0, 0, 0, 0, 0, 0, 0, 0, 0, 0, 0, 0, 0, 0, 0, 0, 0]) (hL [0, 0, 0, 0, 0, 0, 0, 0, 0, 0, 0, 0, 0, 0, 0, 0, 0, 0, 0, 0, 0, 0, 0, 0, 0, 0, 0, 0, 0, 0, 0, 0]) (hL [1, 0, 0, 1]) (hE [0, 1, 2, 3, 4, 0, 0, 0, 0, 0]) (hE [1, 2, 3, 4, 5, 0, 0, 0, 0, 0]) ⟨by decide +kernel, by decide +kernel, by decide +kernel⟩
  refine lv_iload_n C.x C.b dL_networks_338 rfl (lv_at hl 0 rfl) ?_
  refine lv_bipush (v := (nI 10)) C.x C.b dL_networks_339 (by decide) ?_
  refine lv_icmp_ge (tgt := 348) C.x C.b dL_networks_341 (by decide) (fun q9 => absurd q9 (by decide)) (fun _ => ?_)
  refine lv_iload_n C.x C.b dL_networks_344 rfl (lv_at hl 0 rfl) ?_
  refine lv_goto (tgt := 350) C.x C.b dL_networks_345 (by decide) ?_
  refine lv_i2l (v := (nI 4).toInt64) C.x C.b dL_networks_350 rfl ?_
  refine k_topl (y := 4) (by decide) ?_
  refine k_lcmp_eq (tgt := 357) C.x C.b dL_networks_351 dL_networks_352 (by decide) (fun _ => ?_) (fun q9 => absurd (by decide) q9)
  refine lv_iinc (v := (nI 5)) (lv' := [(1, .int (nI 5)), (0, .ref h)]) C.x C.b dL_networks_357 hl (k := 0) rfl (by decide) (by decide) rfl (fun ls hl => ?_)
  refine lv_goto (tgt := 304) C.x C.b dL_networks_360 (by decide) ?_
  refine lv_iload_n C.x C.b dL_networks_304 rfl (lv_at hl 0 rfl) ?_
  refine lv_bipush (v := (nI 11)) C.x C.b dL_networks_305 (by decide) ?_
  refine lv_icmp_ge (tgt := 363) C.x C.b dL_networks_307 (by decide) (fun q9 => absurd q9 (by decide)) (fun _ => ?_)
  refine lv_aload_n C.x C.b dL_networks_310 rfl (lv_at hl 1 rfl) ?_
  refine lv_bipush (v := (nI 24)) C.x C.b dL_networks_311 (by decide) ?_
  refine lv_iload_n C.x C.b dL_networks_313 rfl (lv_at hl 0 rfl) ?_
  refine lv_bipush (v := (nI 6)) C.x C.b dL_networks_314 (by decide) ?_
  refine lv_irem C.x C.b dL_networks_316 (by decide) ?_
  refine k_topi (y := (nI 5)) (by decide) ?_
  refine lv_iload_n C.x C.b dL_networks_317 rfl (lv_at hl 0 rfl) ?_
  refine lv_iload_n C.x C.b dL_networks_318 rfl (lv_at hl 0 rfl) ?_
  refine lv_bipush (v := (nI 6)) C.x C.b dL_networks_319 (by decide) ?_
  refine lv_icmp_ge (tgt := 328) C.x C.b dL_networks_321 (by decide) (fun q9 => absurd q9 (by decide)) (fun _ => ?_)
  refine lv_iconst (v := (nI 1)) C.x C.b dL_networks_324 (by decide) ?_
  refine lv_goto (tgt := 329) C.x C.b dL_networks_325 (by decide) ?_
  refine lv_iadd C.x C.b dL_networks_329 ?_
  refine k_topi (y := (nI 6)) (by decide) ?_
  refine lv_bipush (v := (nI 6)) C.x C.b dL_networks_330 (by decide) ?_
  refine lv_irem C.x C.b dL_networks_332 (by decide) ?_
  refine k_topi (y := (nI 0)) (by decide) ?_
  refine lv_iconst (v := (nI 0)) C.x C.b dL_networks_333 (by decide) ?_
  refine lv_iconst (v := (nI 0)) C.x C.b dL_networks_334 (by decide) ?_
  refine k_actI (As := [.ref h, .int (nI 24), .int (nI 5), .int (nI 0), .int (nI 0), .int (nI 0)]) (rest := []) (c2 := 4372) (s2 := 35384) (v := 5) (m1 := _) C hX (act_24 hI.hd (nI 5) (nI 0) (nI 0) (nI 0) (iop_wire hst hI (nI 5) (nI 0))) (ev_wire 5 0 5 (by decide +kernel) (by decide) (by decide) (by decide) (by decide) rfl rfl) (rfl) (gl_up inv_L_act) rfl hl.1 rfl (by decide) dL_networks_335 ⟨Nat.le_of_ble_eq_true rfl, Nat.le_of_ble_eq_true rfl⟩ ⟨Nat.le_of_ble_eq_true rfl, Nat.le_of_ble_eq_true rfl⟩ rfl rfl (fun f H locs hX hI => ?_)
  have hI : Inv G h f hS_networks_19 := hI.cg (hL [0, 0, 0, 0, 0, 0, 0, 0, 0, 0, 0, 0, 0, 0, 0, 0, 0, 0, 0, 0, 0, 0, 0, 0, 0, 0, 0, 0, 0, 0, 0, 0]) (hL [0, 0, 0, 0, 0, 0, 0, 0, 0, 0, 0, 0, 0, 0, 0, 0, 0, 0, 0, 0, 0, 0, 0, 0, 0, 0, 0, 0, 0, 0, 0, 0]) (hL [1, 0, 0, 1]) (hE [0, 1, 2, 3, 4, 5, 0, 0, 0, 0]) (hE [1, 2, 3, 4, 5, 0, 0, 0, 0, 0]) ⟨by decide +kernel, by decide +kernel, by decide +kernel⟩
  refine lv_iload_n C.x C.b dL_networks_338 rfl (lv_at hl 0 rfl) ?_
  refine lv_bipush (v := (nI 10)) C.x C.b dL_networks_339 (by decide) ?_
  refine lv_icmp_ge (tgt := 348) C.x C.b dL_networks_341 (by decide) (fun q9 => absurd q9 (by decide)) (fun _ => ?_)
  refine lv_iload_n C.x C.b dL_networks_344 rfl (lv_at hl 0 rfl) ?_
  refine lv_goto (tgt := 350) C.x C.b dL_networks_345 (by decide) ?_
  refine lv_i2l (v := (nI 5).toInt64) C.x C.b dL_networks_350 rfl ?_
  refine k_topl (y := 5) (by decide) ?_
  refine k_lcmp_eq (tgt := 357) C.x C.b dL_networks_351 dL_networks_352 (by decide) (fun _ => ?_) (fun q9 => absurd (by decide) q9)
  refine lv_iinc (v := (nI 6)) (lv' := [(1, .int (nI 6)), (0, .ref h)]) C.x C.b dL_networks_357 hl (k := 0) rfl (by decide) (by decide) rfl (fun ls hl => ?_)
  refine lv_goto (tgt := 304) C.x C.b dL_networks_360 (by decide) ?_
  refine lv_iload_n C.x C.b dL_networks_304 rfl (lv_at hl 0 rfl) ?_
  refine lv_bipush (v := (nI 11)) C.x C.b dL_networks_305 (by decide) ?_
  refine lv_icmp_ge (tgt := 363) C.x C.b dL_networks_307 (by decide) (fun q9 => absurd q9 (by decide)) (fun _ => ?_)
  refine lv_aload_n C.x C.b dL_networks_310 rfl (lv_at hl 1 rfl) ?_
  refine lv_bipush (v := (nI 24)) C.x C.b dL_networks_311 (by decide) ?_
  refine lv_iload_n C.x C.b dL_networks_313 rfl (lv_at hl 0 rfl) ?_
  refine lv_bipush (v := (nI 6)) C.x C.b dL_networks_314 (by decide) ?_
  refine lv_irem C.x C.b dL_networks_316 (by decide) ?_
  refine k_topi (y := (nI 0)) (by decide) ?_
  refine lv_iload_n C.x C.b dL_networks_317 rfl (lv_at hl 0 rfl) ?_
  refine lv_iload_n C.x C.b dL_networks_318 rfl (lv_at hl 0 rfl) ?_
  refine lv_bipush (v := (nI 6)) C.x C.b dL_networks_319 (by decide) ?_
  refine lv_icmp_ge (tgt := 328) C.x C.b dL_networks_321 (by decide) (fun _ => ?_) (fun q9 => absurd (by decide) q9)
  refine lv_iconst (v := (nI 2)) C.x C.b dL_networks_328 (by decide) ?_
  refine lv_iadd C.x C.b dL_networks_329 ?_
  refine k_topi (y := (nI 8)) (by decide) ?_
  refine lv_bipush (v := (nI 6)) C.x C.b dL_networks_330 (by decide) ?_
  refine lv_irem C.x C.b dL_networks_332 (by decide) ?_
  refine k_topi (y := (nI 2)) (by decide) ?_
  refine lv_iconst (v := (nI 0)) C.x C.b dL_networks_333 (by decide) ?_
  refine lv_iconst (v := (nI 0)) C.x C.b dL_networks_334 (by decide) ?_
  refine k_actI (As := [.ref h, .int (nI 24), .int (nI 0), .int (nI 2), .int (nI 0), .int (nI 0)]) (rest := []) (c2 := 4380) (s2 := 35448) (v := 6) (m1 := _) C hX (act_24 hI.hd (nI 0) (nI 2) (nI 0) (nI 0) (iop_wire hst hI (nI 0) (nI 2))) (ev_wire 0 2 6 (by decide +kernel) (by decide) (by decide) (by decide) (by decide) rfl rfl) (rfl) (gl_up inv_L_act) rfl hl.1 rfl (by decide) dL_networks_335 ⟨Nat.le_of_ble_eq_true rfl, Nat.le_of_ble_eq_true rfl⟩ ⟨Nat.le_of_ble_eq_true rfl, Nat.le_of_ble_eq_true rfl⟩ rfl rfl (fun f H locs hX hI => ?_)
  have hI : Inv G h f hS_networks_20 := hI.cg (hL [0, 0, 0, 0, 0, 0, 0, 0, 0, 0, 0, 0, 0, 0, 0, 0, 0, 0, 0, 0, 0, 0, 0, 0, 0, 0, 0, 0, 0, 0, 0, 0]) (hL [0, 0, 0, 0, 0, 0, 0, 0, 0, 0, 0, 0, 0, 0, 0, 0, 0, 0, 0, 0, 0, 0, 0, 0, 0, 0, 0, 0, 0, 0, 0, 0]) (hL [1, 0, 0, 1]) (hE [0, 1, 2, 3, 4, 5, 0, 0, 0, 0]) (hE [1, 2, 3, 4, 5, 0, 2, 0, 0, 0]) ⟨by decide +kernel, by decide +kernel, by decide +kernel⟩
  refine lv_iload_n C.x C.b dL_networks_338 rfl (lv_at hl 0 rfl) ?_
  refine lv_bipush (v := (nI 10)) C.x C.b dL_networks_339 (by decide) ?_
  refine lv_icmp_ge (tgt := 348) C.x C.b dL_networks_341 (by decide) (fun q9 => absurd q9 (by decide)) (fun _ => ?_)
  refine lv_iload_n C.x C.b dL_networks_344 rfl (lv_at hl 0 rfl) ?_
  refine lv_goto (tgt := 350) C.x C.b dL_networks_345 (by decide) ?_
  refine lv_i2l (v := (nI 6).toInt64) C.x C.b dL_networks_350 rfl ?_
  refine k_topl (y := 6) (by decide) ?_
  refine k_lcmp_eq (tgt := 357) C.x C.b dL_networks_351 dL_networks_352 (by decide) (fun _ => ?_) (fun q9 => absurd (by decide) q9)
  refine lv_iinc (v := (nI 7)) (lv' := [(1, .int (nI 7)), (0, .ref h)]) C.x C.b dL_networks_357 hl (k := 0) rfl (by decide) (by decide) rfl (fun ls hl => ?_)
  refine lv_goto (tgt := 304) C.x C.b dL_networks_360 (by decide) ?_
  refine lv_iload_n C.x C.b dL_networks_304 rfl (lv_at hl 0 rfl) ?_
  refine lv_bipush (v := (nI 11)) C.x C.b dL_networks_305 (by decide) ?_
  refine lv_icmp_ge (tgt := 363) C.x C.b dL_networks_307 (by decide) (fun q9 => absurd q9 (by decide)) (fun _ => ?_)
  refine lv_aload_n C.x C.b dL_networks_310 rfl (lv_at hl 1 rfl) ?_
  refine lv_bipush (v := (nI 24)) C.x C.b dL_networks_311 (by decide) ?_
  refine lv_iload_n C.x C.b dL_networks_313 rfl (lv_at hl 0 rfl) ?_
  refine lv_bipush (v := (nI 6)) C.x C.b dL_networks_314 (by decide) ?_
  refine lv_irem C.x C.b dL_networks_316 (by decide) ?_
  refine k_topi (y := (nI 1)) (by decide) ?_
  refine lv_iload_n C.x C.b dL_networks_317 rfl (lv_at hl 0 rfl) ?_
  refine lv_iload_n C.x C.b dL_networks_318 rfl (lv_at hl 0 rfl) ?_
  refine lv_bipush (v := (nI 6)) C.x C.b dL_networks_319 (by decide) ?_
  refine lv_icmp_ge (tgt := 328) C.x C.b dL_networks_321 (by decide) (fun _ => ?_) (fun q9 => absurd (by decide) q9)
  refine lv_iconst (v := (nI 2)) C.x C.b dL_networks_328 (by decide) ?_
  refine lv_iadd C.x C.b dL_networks_329 ?_
  refine k_topi (y := (nI 9)) (by decide) ?_
  refine lv_bipush (v := (nI 6)) C.x C.b dL_networks_330 (by decide) ?_
  refine lv_irem C.x C.b dL_networks_332 (by decide) ?_
  refine k_topi (y := (nI 3)) (by decide) ?_
  refine lv_iconst (v := (nI 0)) C.x C.b dL_networks_333 (by decide) ?_
  refine lv_iconst (v := (nI 0)) C.x C.b dL_networks_334 (by decide) ?_
  refine k_actI (As := [.ref h, .int (nI 24), .int (nI 1), .int (nI 3), .int (nI 0), .int (nI 0)]) (rest := []) (c2 := 4388) (s2 := 35512) (v := 7) (m1 := _) C hX (act_24 hI.hd (nI 1) (nI 3) (nI 0) (nI 0) (iop_wire hst hI (nI 1) (nI 3))) (ev_wire 1 3 7 (by decide +kernel) (by decide) (by decide) (by decide) (by decide) rfl rfl) (rfl) (gl_up inv_L_act) rfl hl.1 rfl (by decide) dL_networks_335 ⟨Nat.le_of_ble_eq_true rfl, Nat.le_of_ble_eq_true rfl⟩ ⟨Nat.le_of_ble_eq_true rfl, Nat.le_of_ble_eq_true rfl⟩ rfl rfl (fun f H locs hX hI => ?_)
  have hI : Inv G h f hS_networks_21 := hI.cg (hL [0, 0, 0, 0, 0, 0, 0, 0, 0, 0, 0, 0, 0, 0, 0, 0, 0, 0, 0, 0, 0, 0, 0, 0, 0, 0, 0, 0, 0, 0, 0, 0]) (hL [0, 0, 0, 0, 0, 0, 0, 0, 0, 0, 0, 0, 0, 0, 0, 0, 0, 0, 0, 0, 0, 0, 0, 0, 0, 0, 0, 0, 0, 0, 0, 0]) (hL [1, 0, 0, 1]) (hE [0, 1, 2, 3, 4, 5, 0, 1, 0, 0]) (hE [1, 2, 3, 4, 5, 0, 2, 3, 0, 0]) ⟨by decide +kernel, by decide +kernel, by decide +kernel⟩
  refine lv_iload_n C.x C.b dL_networks_338 rfl (lv_at hl 0 rfl) ?_
  refine lv_bipush (v := (nI 10)) C.x C.b dL_networks_339 (by decide) ?_
  refine lv_icmp_ge (tgt := 348) C.x C.b dL_networks_341 (by decide) (fun q9 => absurd q9 (by decide)) (fun _ => ?_)
  refine lv_iload_n C.x C.b dL_networks_344 rfl (lv_at hl 0 rfl) ?_
  refine lv_goto (tgt := 350) C.x C.b dL_networks_345 (by decide) ?_
  refine lv_i2l (v := (nI 7).toInt64) C.x C.b dL_networks_350 rfl ?_
  refine k_topl (y := 7) (by decide) ?_
  refine k_lcmp_eq (tgt := 357) C.x C.b dL_networks_351 dL_networks_352 (by decide) (fun _ => ?_) (fun q9 => absurd (by decide) q9)
  refine lv_iinc (v := (nI 8)) (lv' := [(1, .int (nI 8)), (0, .ref h)]) C.x C.b dL_networks_357 hl (k := 0) rfl (by decide) (by decide) rfl (fun ls hl => ?_)
  refine lv_goto (tgt := 304) C.x C.b dL_networks_360 (by decide) ?_
  refine lv_iload_n C.x C.b dL_networks_304 rfl (lv_at hl 0 rfl) ?_
  refine lv_bipush (v := (nI 11)) C.x C.b dL_networks_305 (by decide) ?_
  refine lv_icmp_ge (tgt := 363) C.x C.b dL_networks_307 (by decide) (fun q9 => absurd q9 (by decide)) (fun _ => ?_)
  refine lv_aload_n C.x C.b dL_networks_310 rfl (lv_at hl 1 rfl) ?_
  refine lv_bipush (v := (nI 24)) C.x C.b dL_networks_311 (by decide) ?_
  refine lv_iload_n C.x C.b dL_networks_313 rfl (lv_at hl 0 rfl) ?_
  refine lv_bipush (v := (nI 6)) C.x C.b dL_networks_314 (by decide) ?_
  refine lv_irem C.x C.b dL_networks_316 (by decide) ?_
  refine k_topi (y := (nI 2)) (by decide) ?_
  refine lv_iload_n C.x C.b dL_networks_317 rfl (lv_at hl 0 rfl) ?_
  refine lv_iload_n C.x C.b dL_networks_318 rfl (lv_at hl 0 rfl) ?_
  refine lv_bipush (v := (nI 6)) C.x C.b dL_networks_319 (by decide) ?_
  refine lv_icmp_ge (tgt := 328) C.x C.b dL_networks_321 (by decide) (fun _ => ?_) (fun q9 => absurd (by decide) q9)
  refine lv_iconst (v := (nI 2)) C.x C.b dL_networks_328 (by decide) ?_
  refine lv_iadd C.x C.b dL_networks_329 ?_
  refine k_topi (y := (nI 10)) (by decide) ?_
  refine lv_bipush (v := (nI 6)) C.x C.b dL_networks_330 (by decide) ?_
  refine lv_irem C.x C.b dL_networks_332 (by decide) ?_
  refine k_topi (y := (nI 4)) (by decide) ?_
  refine lv_iconst (v := (nI 0)) C.x C.b dL_networks_333 (by decide) ?_
  refine lv_iconst (v := (nI 0)) C.x C.b dL_networks_334 (by decide) ?_
  refine k_actI (As := [.ref h, .int (nI 24), .int (nI 2), .int (nI 4), .int (nI 0), .int (nI 0)]) (rest := []) (c2 := 4396) (s2 := 35576) (v := 8) (m1 := _) C hX (act_24 hI.hd (nI 2) (nI 4) (nI 0) (nI 0) (iop_wire hst hI (nI 2) (nI 4))) (ev_wire 2 4 8 (by decide +kernel) (by decide) (by decide) (by decide) (by decide) rfl rfl) (rfl) (gl_up inv_L_act) rfl hl.1 rfl (by decide) dL_networks_335 ⟨Nat.le_of_ble_eq_true rfl, Nat.le_of_ble_eq_true rfl⟩ ⟨Nat.le_of_ble_eq_true rfl, Nat.le_of_ble_eq_true rfl⟩ rfl rfl (fun f H locs hX hI => ?_)
  have hI : Inv G h f hS_networks_22 := hI.cg (hL [0, 0, 0, 0, 0, 0, 0, 0, 0, 0, 0, 0, 0, 0, 0, 0, 0, 0, 0, 0, 0, 0, 0, 0, 0, 0, 0, 0, 0, 0, 0, 0]) (hL [0, 0, 0, 0, 0, 0, 0, 0, 0, 0, 0, 0, 0, 0, 0, 0, 0, 0, 0, 0, 0, 0, 0, 0, 0, 0, 0, 0, 0, 0, 0, 0]) (hL [1, 0, 0, 1]) (hE [0, 1, 2, 3, 4, 5, 0, 1, 2, 0]) (hE [1, 2, 3, 4, 5, 0, 2, 3, 4, 0]) ⟨by decide +kernel, by decide +kernel, by decide +kernel⟩
  refine lv_iload_n C.x C.b dL_networks_338 rfl (lv_at hl 0 rfl) ?_
  refine lv_bipush (v := (nI 10)) C.x C.b dL_networks_339 (by decide) ?_
  refine lv_icmp_ge (tgt := 348) C.x C.b dL_networks_341 (by decide) (fun q9 => absurd q9 (by decide)) (fun _ => ?_)
  refine lv_iload_n C.x C.b dL_networks_344 rfl (lv_at hl 0 rfl) ?_
  refine lv_goto (tgt := 350) C.x C.b dL_networks_345 (by decide) ?_
  refine lv_i2l (v := (nI 8).toInt64) C.x C.b dL_networks_350 rfl ?_
  refine k_topl (y := 8) (by decide) ?_
  refine k_lcmp_eq (tgt := 357) C.x C.b dL_networks_351 dL_networks_352 (by decide) (fun _ => ?_) (fun q9 => absurd (by decide) q9)
  refine lv_iinc (v := (nI 9)) (lv' := [(1, .int (nI 9)), (0, .ref h)]) C.x C.b dL_networks_357 hl (k := 0) rfl (by decide) (by decide) rfl (fun ls hl => ?_)
  refine lv_goto (tgt := 304) C.x C.b dL_networks_360 (by decide) ?_
  refine lv_iload_n C.x C.b dL_networks_304 rfl (lv_at hl 0 rfl) ?_
  refine lv_bipush (v := (nI 11)) C.x C.b dL_networks_305 (by decide) ?_
  refine lv_icmp_ge (tgt := 363) C.x C.b dL_networks_307 (by decide) (fun q9 => absurd q9 (by decide)) (fun _ => ?_)
  refine lv_aload_n C.x C.b dL_networks_310 rfl (lv_at hl 1 rfl) ?_
  refine lv_bipush (v := (nI 24)) C.x C.b dL_networks_311 (by decide) ?_
  refine lv_iload_n C.x C.b dL_networks_313 rfl (lv_at hl 0 rfl) ?_
  refine lv_bipush (v := (nI 6)) C.x C.b dL_networks_314 (by decide) ?_
  refine lv_irem C.x C.b dL_networks_316 (by decide) ?_
  refine k_topi (y := (nI 3)) (by decide) ?_
  refine lv_iload_n C.x C.b dL_networks_317 rfl (lv_at hl 0 rfl) ?_
  refine lv_iload_n C.x C.b dL_networks_318 rfl (lv_at hl 0 rfl) ?_
  refine lv_bipush (v := (nI 6)) C.x C.b dL_networks_319 (by decide) ?_
  refine lv_icmp_ge (tgt := 328) C.x C.b dL_networks_321 (by decide) (fun _ => ?_) (fun q9 => absurd (by decide) q9)
  refine lv_iconst (v := (nI 2)) C.x C.b dL_networks_328 (by decide) ?_
  refine lv_iadd C.x C.b dL_networks_329 ?_
  refine k_topi (y := (nI 11)) (by decide) ?_
  refine lv_bipush (v := (nI 6)) C.x C.b dL_networks_330 (by decide) ?_
  refine lv_irem C.x C.b dL_networks_332 (by decide) ?_
  refine k_topi (y := (nI 5)) (by decide) ?_
  refine lv_iconst (v := (nI 0)) C.x C.b dL_networks_333 (by decide) ?_
  refine lv_iconst (v := (nI 0)) C.x C.b dL_networks_334 (by decide) ?_
  refine k_actI (As := [.ref h, .int (nI 24), .int (nI 3), .int (nI 5), .int (nI 0), .int (nI 0)]) (rest := []) (c2 := 4404) (s2 := 35640) (v := 9) (m1 := _) C hX (act_24 hI.hd (nI 3) (nI 5) (nI 0) (nI 0) (iop_wire hst hI (nI 3) (nI 5))) (ev_wire 3 5 9 (by decide +kernel) (by decide) (by decide) (by decide) (by decide) rfl rfl) (rfl) (gl_up inv_L_act) rfl hl.1 rfl (by decide) dL_networks_335 ⟨Nat.le_of_ble_eq_true rfl, Nat.le_of_ble_eq_true rfl⟩ ⟨Nat.le_of_ble_eq_true rfl, Nat.le_of_ble_eq_true rfl⟩ rfl rfl (fun f H locs hX hI => ?_)
  have hI : Inv G h f hS_networks_23 := hI.cg (hL [0, 0, 0, 0, 0, 0, 0, 0, 0, 0, 0, 0, 0, 0, 0, 0, 0, 0, 0, 0, 0, 0, 0, 0, 0, 0, 0, 0, 0, 0, 0, 0]) (hL [0, 0, 0, 0, 0, 0, 0, 0, 0, 0, 0, 0, 0, 0, 0, 0, 0, 0, 0, 0, 0, 0, 0, 0, 0, 0, 0, 0, 0, 0, 0, 0]) (hL [1, 0, 0, 1]) (hE [0, 1, 2, 3, 4, 5, 0, 1, 2, 3]) (hE [1, 2, 3, 4, 5, 0, 2, 3, 4, 5]) ⟨by decide +kernel, by decide +kernel, by decide +kernel⟩
  refine lv_iload_n C.x C.b dL_networks_338 rfl (lv_at hl 0 rfl) ?_
  refine lv_bipush (v := (nI 10)) C.x C.b dL_networks_339 (by decide) ?_
  refine lv_icmp_ge (tgt := 348) C.x C.b dL_networks_341 (by decide) (fun q9 => absurd q9 (by decide)) (fun _ => ?_)
  refine lv_iload_n C.x C.b dL_networks_344 rfl (lv_at hl 0 rfl) ?_
  refine lv_goto (tgt := 350) C.x C.b dL_networks_345 (by decide) ?_
  refine lv_i2l (v := (nI 9).toInt64) C.x C.b dL_networks_350 rfl ?_
  refine k_topl (y := 9) (by decide) ?_
  refine k_lcmp_eq (tgt := 357) C.x C.b dL_networks_351 dL_networks_352 (by decide) (fun _ => ?_) (fun q9 => absurd (by decide) q9)
  refine lv_iinc (v := (nI 10)) (lv' := [(1, .int (nI 10)), (0, .ref h)]) C.x C.b dL_networks_357 hl (k := 0) rfl (by decide) (by decide) rfl (fun ls hl => ?_)
  refine lv_goto (tgt := 304) C.x C.b dL_networks_360 (by decide) ?_
  refine lv_iload_n C.x C.b dL_networks_304 rfl (lv_at hl 0 rfl) ?_
  refine lv_bipush (v := (nI 11)) C.x C.b dL_networks_305 (by decide) ?_
  refine lv_icmp_ge (tgt := 363) C.x C.b dL_networks_307 (by decide) (fun q9 => absurd q9 (by decide)) (fun _ => ?_)
  refine lv_aload_n C.x C.b dL_networks_310 rfl (lv_at hl 1 rfl) ?_
  refine lv_bipush (v := (nI 24)) C.x C.b dL_networks_311 (by decide) ?_
  refine lv_iload_n C.x C.b dL_networks_313 rfl (lv_at hl 0 rfl) ?_
  refine lv_bipush (v := (nI 6)) C.x C.b dL_networks_314 (by decide) ?_
  refine lv_irem C.x C.b dL_networks_316 (by decide) ?_
  refine k_topi (y := (nI 4)) (by decide) ?_
  refine lv_iload_n C.x C.b dL_networks_317 rfl (lv_at hl 0 rfl) ?_
  refine lv_iload_n C.x C.b dL_networks_318 rfl (lv_at hl 0 rfl) ?_
  refine lv_bipush (v := (nI 6)) C.x C.b dL_networks_319 (by decide) ?_
  refine lv_icmp_ge (tgt := 328) C.x C.b dL_networks_321 (by decide) (fun _ => ?_) (fun q9 => absurd (by decide) q9)
  refine lv_iconst (v := (nI 2)) C.x C.b dL_networks_328 (by decide) ?_
  refine lv_iadd C.x C.b dL_networks_329 ?_
  refine k_topi (y := (nI 12)) (by decide) ?_
  refine lv_bipush (v := (nI 6)) C.x C.b dL_networks_330 (by decide) ?_
  refine lv_irem C.x C.b dL_networks_332 (by decide) ?_
  refine k_topi (y := (nI 0)) (by decide) ?_
  refine lv_iconst (v := (nI 0)) C.x C.b dL_networks_333 (by decide) ?_
  refine lv_iconst (v := (nI 0)) C.x C.b dL_networks_334 (by decide) ?_
  refine k_actI (As := [.ref h, .int (nI 24), .int (nI 4), .int (nI 0), .int (nI 0), .int (nI 0)]) (rest := []) (c2 := 4412) (s2 := 35704) (v := (-7000003)) (m1 := hS_networks_23) C hX (act_24 hI.hd (nI 4) (nI 0) (nI 0) (nI 0) (iop_wire hst hI (nI 4) (nI 0))) (e_wire_s (by decide +kernel) (by decide +kernel) (by decide +kernel)) (rfl) (gl_up inv_L_act) rfl hl.1 rfl (by decide) dL_networks_335 ⟨Nat.le_of_ble_eq_true rfl, Nat.le_of_ble_eq_true rfl⟩ ⟨Nat.le_of_ble_eq_true rfl, Nat.le_of_ble_eq_true rfl⟩ rfl rfl (fun f H locs hX hI => ?_)
  refine lv_iload_n C.x C.b dL_networks_338 rfl (lv_at hl 0 rfl) ?_
  refine lv_bipush (v := (nI 10)) C.x C.b dL_networks_339 (by decide) ?_
  refine lv_icmp_ge (tgt := 348) C.x C.b dL_networks_341 (by decide) (fun _ => ?_) (fun q9 => absurd (by decide) q9)
  refine lv_ldc (v := (-7000003)) C.x C.b C.ow (C.ts _ (List.mem_cons_of_mem _ lkC_3)) dL_networks_348 ?_
  refine lv_i2l (v := (-7000003).toInt64) C.x C.b dL_networks_350 rfl ?_
  refine k_topl (y := (-7000003)) (by decide) ?_
  refine k_lcmp_eq (tgt := 357) C.x C.b dL_networks_351 dL_networks_352 (by decide) (fun _ => ?_) (fun q9 => absurd (by decide) q9)
  refine lv_iinc (v := (nI 11)) (lv' := [(1, .int (nI 11)), (0, .ref h)]) C.x C.b dL_networks_357 hl (k := 0) rfl (by decide) (by decide) rfl (fun ls hl => ?_)
  refine lv_goto (tgt := 304) C.x C.b dL_networks_360 (by decide) ?_
  refine lv_iload_n C.x C.b dL_networks_304 rfl (lv_at hl 0 rfl) ?_
  refine lv_bipush (v := (nI 11)) C.x C.b dL_networks_305 (by decide) ?_
  refine lv_icmp_ge (tgt := 363) C.x C.b dL_networks_307 (by decide) (fun _ => ?_) (fun q9 => absurd (by decide) q9)
  refine lv_aload_n C.x C.b dL_networks_363 rfl (lv_at hl 1 rfl) ?_
  refine lv_iconst (v := (nI 0)) C.x C.b dL_networks_364 (by decide) ?_
  refine lv_iconst (v := (nI 0)) C.x C.b dL_networks_365 (by decide) ?_
  refine lv_iconst (v := (nI 0)) C.x C.b dL_networks_366 (by decide) ?_
  refine lv_bipush (v := (nI 6)) C.x C.b dL_networks_367 (by decide) ?_
  refine lv_bipush (v := (nI 10)) C.x C.b dL_networks_369 (by decide) ?_
  refine k_law (As := [.ref h, .int (nI 0), .int (nI 0), .int (nI 0), .int (nI 6), .int (nI 10)]) (rest := []) (c2 := 7712) (s2 := 62104) (m1 := hS_networks_23) C hX (pL_refuses hst hI) (gl_up inv_L_refuses) rfl rfl rfl hdP_L_refuses ⟨Nat.le_of_ble_eq_true rfl, Nat.le_of_ble_eq_true rfl⟩ rfl hl.1 rfl (by decide) dL_networks_371 ⟨Nat.le_of_ble_eq_true rfl, Nat.le_of_ble_eq_true rfl⟩ rfl rfl (fun f H locs hX hI => ?_)
  refine lv_if_ne (tgt := 379) C.x C.b dL_networks_374 (by decide) (fun _ => ?_) (fun q9 => absurd q9 (by decide))
  refine lv_aload_n C.x C.b dL_networks_379 rfl (lv_at hl 1 rfl) ?_
  refine lv_iconst (v := (nI 0)) C.x C.b dL_networks_380 (by decide) ?_
  refine lv_iconst (v := (nI 3)) C.x C.b dL_networks_381 (by decide) ?_
  refine lv_iconst (v := (-1)) C.x C.b dL_networks_382 (by decide) ?_
  refine k_cI (As := [.int (nI 0), .int (nI 3), .int (-1)]) (rest := []) (c2 := 7720) (s2 := 62168) (v := (nI 79)) (m1 := hS_networks_23) C hX (iop_side hst hI (nI 0) (nI 3) (-1)) (ev_side (by decide +kernel) (by decide +kernel) (by decide +kernel) (by decide +kernel)) hI.hd (gl_up inv_X8_side) rfl ⟨rfl, hdA_X8_side⟩ (by decide) rfl hl.1 rfl (by decide) dL_networks_383 ⟨Nat.le_of_ble_eq_true rfl, Nat.le_of_ble_eq_true rfl⟩ ⟨Nat.le_of_ble_eq_true rfl, Nat.le_of_ble_eq_true rfl⟩ rfl rfl (fun f H locs hX hI => ?_)
  refine lv_istore_n (lv' := [(1, .int (nI 79)), (0, .ref h)]) C.x C.b dL_networks_386 rfl hl (by decide) rfl (fun ls hl => ?_)
  refine lv_iconst (v := (nI 0)) C.x C.b dL_networks_387 (by decide) ?_
  refine lv_istore_n (lv' := [(2, .int (nI 0)), (1, .int (nI 79)), (0, .ref h)]) C.x C.b dL_networks_388 rfl hl (by decide) rfl (fun ls hl => ?_)
  refine lv_iconst (v := (nI 0)) C.x C.b dL_networks_389 (by decide) ?_
  refine lv_istore_n (lv' := [(3, .int (nI 0)), (2, .int (nI 0)), (1, .int (nI 79)), (0, .ref h)]) C.x C.b dL_networks_390 rfl hl (by decide) rfl (fun ls hl => ?_)
  refine lv_iconst (v := (nI 0)) C.x C.b dL_networks_391 (by decide) ?_
  refine lv_istore (lv' := [(4, .int (nI 0)), (3, .int (nI 0)), (2, .int (nI 0)), (1, .int (nI 79)), (0, .ref h)]) C.x C.b dL_networks_392 hl (by decide) rfl (fun ls hl => ?_)
  refine lv_iload C.x C.b dL_networks_394 (lv_at hl 0 rfl) ?_
  refine lv_bipush (v := (nI 10)) C.x C.b dL_networks_396 (by decide) ?_
  refine lv_icmp_ge (tgt := 458) C.x C.b dL_networks_398 (by decide) (fun q9 => absurd q9 (by decide)) (fun _ => ?_)
  refine lv_aload_n C.x C.b dL_networks_401 rfl (lv_at hl 4 rfl) ?_
  refine lv_iconst (v := (nI 0)) C.x C.b dL_networks_402 (by decide) ?_
  refine lv_iconst (v := (nI 3)) C.x C.b dL_networks_403 (by decide) ?_
  refine lv_iload C.x C.b dL_networks_404 (lv_at hl 0 rfl) ?_
  refine k_cI (As := [.int (nI 0), .int (nI 3), .int (nI 0)]) (rest := []) (c2 := 7728) (s2 := 62232) (v := (nI 41)) (m1 := hS_networks_23) C hX (iop_side hst hI (nI 0) (nI 3) (nI 0)) (ev_side (by decide +kernel) (by decide +kernel) (by decide +kernel) (by decide +kernel)) hI.hd (gl_up inv_X8_side) rfl ⟨rfl, hdA_X8_side⟩ (by decide) rfl hl.1 rfl (by decide) dL_networks_406 ⟨Nat.le_of_ble_eq_true rfl, Nat.le_of_ble_eq_true rfl⟩ ⟨Nat.le_of_ble_eq_true rfl, Nat.le_of_ble_eq_true rfl⟩ rfl rfl (fun f H locs hX hI => ?_)
  refine lv_istore (lv' := [(5, .int (nI 41)), (4, .int (nI 0)), (3, .int (nI 0)), (2, .int (nI 0)), (1, .int (nI 79)), (0, .ref h)]) C.x C.b dL_networks_409 hl (by decide) rfl (fun ls hl => ?_)
  refine lv_iload_n C.x C.b dL_networks_411 rfl (lv_at hl 2 rfl) ?_
  refine lv_iload C.x C.b dL_networks_412 (lv_at hl 0 rfl) ?_
  refine lv_iload C.x C.b dL_networks_414 (lv_at hl 0 rfl) ?_
  refine lv_imul C.x C.b dL_networks_416 ?_
  refine k_topi (y := (nI 1681)) (by decide) ?_
  refine lv_iadd C.x C.b dL_networks_417 ?_
  refine k_topi (y := (nI 1681)) (by decide) ?_
  refine lv_istore_n (lv' := [(3, .int (nI 1681)), (5, .int (nI 41)), (4, .int (nI 0)), (2, .int (nI 0)), (1, .int (nI 79)), (0, .ref h)]) C.x C.b dL_networks_418 rfl hl (by decide) rfl (fun ls hl => ?_)
  refine lv_iload_n C.x C.b dL_networks_419 rfl (lv_at hl 3 rfl) ?_
  refine lv_iload C.x C.b dL_networks_420 (lv_at hl 2 rfl) ?_
  refine lv_if_eq (tgt := 432) C.x C.b dL_networks_422 (by decide) (fun _ => ?_) (fun q9 => absurd (by decide) q9)
  refine lv_iload C.x C.b dL_networks_432 (lv_at hl 1 rfl) ?_
  refine lv_goto (tgt := 450) C.x C.b dL_networks_434 (by decide) ?_
  refine lv_iadd C.x C.b dL_networks_450 ?_
  refine k_topi (y := (nI 41)) (by decide) ?_
  refine lv_istore_n (lv' := [(2, .int (nI 41)), (3, .int (nI 1681)), (5, .int (nI 41)), (4, .int (nI 0)), (1, .int (nI 79)), (0, .ref h)]) C.x C.b dL_networks_451 rfl hl (by decide) rfl (fun ls hl => ?_)
  refine lv_iinc (v := (nI 1)) (lv' := [(4, .int (nI 1)), (2, .int (nI 41)), (3, .int (nI 1681)), (5, .int (nI 41)), (1, .int (nI 79)), (0, .ref h)]) C.x C.b dL_networks_452 hl (k := 3) rfl (by decide) (by decide) rfl (fun ls hl => ?_)
  refine lv_goto (tgt := 394) C.x C.b dL_networks_455 (by decide) ?_
  refine lv_iload C.x C.b dL_networks_394 (lv_at hl 0 rfl) ?_
  refine lv_bipush (v := (nI 10)) C.x C.b dL_networks_396 (by decide) ?_
  refine lv_icmp_ge (tgt := 458) C.x C.b dL_networks_398 (by decide) (fun q9 => absurd q9 (by decide)) (fun _ => ?_)
  refine lv_aload_n C.x C.b dL_networks_401 rfl (lv_at hl 5 rfl) ?_
  refine lv_iconst (v := (nI 0)) C.x C.b dL_networks_402 (by decide) ?_
  refine lv_iconst (v := (nI 3)) C.x C.b dL_networks_403 (by decide) ?_
  refine lv_iload C.x C.b dL_networks_404 (lv_at hl 0 rfl) ?_
  refine k_cI (As := [.int (nI 0), .int (nI 3), .int (nI 1)]) (rest := []) (c2 := 7736) (s2 := 62296) (v := (nI 3)) (m1 := hS_networks_23) C hX (iop_side hst hI (nI 0) (nI 3) (nI 1)) (ev_side (by decide +kernel) (by decide +kernel) (by decide +kernel) (by decide +kernel)) hI.hd (gl_up inv_X8_side) rfl ⟨rfl, hdA_X8_side⟩ (by decide) rfl hl.1 rfl (by decide) dL_networks_406 ⟨Nat.le_of_ble_eq_true rfl, Nat.le_of_ble_eq_true rfl⟩ ⟨Nat.le_of_ble_eq_true rfl, Nat.le_of_ble_eq_true rfl⟩ rfl rfl (fun f H locs hX hI => ?_)
  refine lv_istore (lv' := [(5, .int (nI 3)), (4, .int (nI 1)), (2, .int (nI 41)), (3, .int (nI 1681)), (1, .int (nI 79)), (0, .ref h)]) C.x C.b dL_networks_409 hl (by decide) rfl (fun ls hl => ?_)
  refine lv_iload_n C.x C.b dL_networks_411 rfl (lv_at hl 3 rfl) ?_
  refine lv_iload C.x C.b dL_networks_412 (lv_at hl 0 rfl) ?_
  refine lv_iload C.x C.b dL_networks_414 (lv_at hl 0 rfl) ?_
  refine lv_imul C.x C.b dL_networks_416 ?_
  refine k_topi (y := (nI 9)) (by decide) ?_
  refine lv_iadd C.x C.b dL_networks_417 ?_
  refine k_topi (y := (nI 1690)) (by decide) ?_
  refine lv_istore_n (lv' := [(3, .int (nI 1690)), (5, .int (nI 3)), (4, .int (nI 1)), (2, .int (nI 41)), (1, .int (nI 79)), (0, .ref h)]) C.x C.b dL_networks_418 rfl hl (by decide) rfl (fun ls hl => ?_)
  refine lv_iload_n C.x C.b dL_networks_419 rfl (lv_at hl 3 rfl) ?_
  refine lv_iload C.x C.b dL_networks_420 (lv_at hl 2 rfl) ?_
  refine lv_if_eq (tgt := 432) C.x C.b dL_networks_422 (by decide) (fun q9 => absurd q9 (by decide)) (fun _ => ?_)
  refine lv_iload C.x C.b dL_networks_425 (lv_at hl 2 rfl) ?_
  refine lv_bipush (v := (nI 6)) C.x C.b dL_networks_427 (by decide) ?_
  refine lv_icmp_ne (tgt := 437) C.x C.b dL_networks_429 (by decide) (fun _ => ?_) (fun q9 => absurd q9 (by decide))
  refine lv_iload C.x C.b dL_networks_437 (lv_at hl 2 rfl) ?_
  refine lv_iconst (v := (nI 5)) C.x C.b dL_networks_439 (by decide) ?_
  refine lv_icmp_ne (tgt := 449) C.x C.b dL_networks_440 (by decide) (fun _ => ?_) (fun q9 => absurd q9 (by decide))
  refine lv_iconst (v := (nI 0)) C.x C.b dL_networks_449 (by decide) ?_
  refine lv_iadd C.x C.b dL_networks_450 ?_
  refine k_topi (y := (nI 41)) (by decide) ?_
  refine lv_istore_n (lv' := [(2, .int (nI 41)), (3, .int (nI 1690)), (5, .int (nI 3)), (4, .int (nI 1)), (1, .int (nI 79)), (0, .ref h)]) C.x C.b dL_networks_451 rfl hl (by decide) rfl (fun ls hl => ?_)
  refine lv_iinc (v := (nI 2)) (lv' := [(4, .int (nI 2)), (2, .int (nI 41)), (3, .int (nI 1690)), (5, .int (nI 3)), (1, .int (nI 79)), (0, .ref h)]) C.x C.b dL_networks_452 hl (k := 3) rfl (by decide) (by decide) rfl (fun ls hl => ?_)
  refine lv_goto (tgt := 394) C.x C.b dL_networks_455 (by decide) ?_
  refine lv_iload C.x C.b dL_networks_394 (lv_at hl 0 rfl) ?_
  refine lv_bipush (v := (nI 10)) C.x C.b dL_networks_396 (by decide) ?_
  refine lv_icmp_ge (tgt := 458) C.x C.b dL_networks_398 (by decide) (fun q9 => absurd q9 (by decide)) (fun _ => ?_)
  refine lv_aload_n C.x C.b dL_networks_401 rfl (lv_at hl 5 rfl) ?_
  refine lv_iconst (v := (nI 0)) C.x C.b dL_networks_402 (by decide) ?_
  refine lv_iconst (v := (nI 3)) C.x C.b dL_networks_403 (by decide) ?_
  refine lv_iload C.x C.b dL_networks_404 (lv_at hl 0 rfl) ?_
  refine k_cI (As := [.int (nI 0), .int (nI 3), .int (nI 2)]) (rest := []) (c2 := 7744) (s2 := 62360) (v := (nI 35)) (m1 := hS_networks_23) C hX (iop_side hst hI (nI 0) (nI 3) (nI 2)) (ev_side (by decide +kernel) (by decide +kernel) (by decide +kernel) (by decide +kernel)) hI.hd (gl_up inv_X8_side) rfl ⟨rfl, hdA_X8_side⟩ (by decide) rfl hl.1 rfl (by decide) dL_networks_406 ⟨Nat.le_of_ble_eq_true rfl, Nat.le_of_ble_eq_true rfl⟩ ⟨Nat.le_of_ble_eq_true rfl, Nat.le_of_ble_eq_true rfl⟩ rfl rfl (fun f H locs hX hI => ?_)
  refine lv_istore (lv' := [(5, .int (nI 35)), (4, .int (nI 2)), (2, .int (nI 41)), (3, .int (nI 1690)), (1, .int (nI 79)), (0, .ref h)]) C.x C.b dL_networks_409 hl (by decide) rfl (fun ls hl => ?_)
  refine lv_iload_n C.x C.b dL_networks_411 rfl (lv_at hl 3 rfl) ?_
  refine lv_iload C.x C.b dL_networks_412 (lv_at hl 0 rfl) ?_
  refine lv_iload C.x C.b dL_networks_414 (lv_at hl 0 rfl) ?_
  refine lv_imul C.x C.b dL_networks_416 ?_
  refine k_topi (y := (nI 1225)) (by decide) ?_
  refine lv_iadd C.x C.b dL_networks_417 ?_
  refine k_topi (y := (nI 2915)) (by decide) ?_
  refine lv_istore_n (lv' := [(3, .int (nI 2915)), (5, .int (nI 35)), (4, .int (nI 2)), (2, .int (nI 41)), (1, .int (nI 79)), (0, .ref h)]) C.x C.b dL_networks_418 rfl hl (by decide) rfl (fun ls hl => ?_)
  refine lv_iload_n C.x C.b dL_networks_419 rfl (lv_at hl 3 rfl) ?_
  refine lv_iload C.x C.b dL_networks_420 (lv_at hl 2 rfl) ?_
  refine lv_if_eq (tgt := 432) C.x C.b dL_networks_422 (by decide) (fun q9 => absurd q9 (by decide)) (fun _ => ?_)
  refine lv_iload C.x C.b dL_networks_425 (lv_at hl 2 rfl) ?_
  refine lv_bipush (v := (nI 6)) C.x C.b dL_networks_427 (by decide) ?_
  refine lv_icmp_ne (tgt := 437) C.x C.b dL_networks_429 (by decide) (fun _ => ?_) (fun q9 => absurd q9 (by decide))
  refine lv_iload C.x C.b dL_networks_437 (lv_at hl 2 rfl) ?_
  refine lv_iconst (v := (nI 5)) C.x C.b dL_networks_439 (by decide) ?_
  refine lv_icmp_ne (tgt := 449) C.x C.b dL_networks_440 (by decide) (fun _ => ?_) (fun q9 => absurd q9 (by decide))
  refine lv_iconst (v := (nI 0)) C.x C.b dL_networks_449 (by decide) ?_
  refine lv_iadd C.x C.b dL_networks_450 ?_
  refine k_topi (y := (nI 41)) (by decide) ?_
  refine lv_istore_n (lv' := [(2, .int (nI 41)), (3, .int (nI 2915)), (5, .int (nI 35)), (4, .int (nI 2)), (1, .int (nI 79)), (0, .ref h)]) C.x C.b dL_networks_451 rfl hl (by decide) rfl (fun ls hl => ?_)
  refine lv_iinc (v := (nI 3)) (lv' := [(4, .int (nI 3)), (2, .int (nI 41)), (3, .int (nI 2915)), (5, .int (nI 35)), (1, .int (nI 79)), (0, .ref h)]) C.x C.b dL_networks_452 hl (k := 3) rfl (by decide) (by decide) rfl (fun ls hl => ?_)
  refine lv_goto (tgt := 394) C.x C.b dL_networks_455 (by decide) ?_
  refine lv_iload C.x C.b dL_networks_394 (lv_at hl 0 rfl) ?_
  refine lv_bipush (v := (nI 10)) C.x C.b dL_networks_396 (by decide) ?_
  refine lv_icmp_ge (tgt := 458) C.x C.b dL_networks_398 (by decide) (fun q9 => absurd q9 (by decide)) (fun _ => ?_)
  refine lv_aload_n C.x C.b dL_networks_401 rfl (lv_at hl 5 rfl) ?_
  refine lv_iconst (v := (nI 0)) C.x C.b dL_networks_402 (by decide) ?_
  refine lv_iconst (v := (nI 3)) C.x C.b dL_networks_403 (by decide) ?_
  refine lv_iload C.x C.b dL_networks_404 (lv_at hl 0 rfl) ?_
  refine k_cI (As := [.int (nI 0), .int (nI 3), .int (nI 3)]) (rest := []) (c2 := 7752) (s2 := 62424) (v := (-23)) (m1 := hS_networks_23) C hX (iop_side hst hI (nI 0) (nI 3) (nI 3)) (ev_side (by decide +kernel) (by decide +kernel) (by decide +kernel) (by decide +kernel)) hI.hd (gl_up inv_X8_side) rfl ⟨rfl, hdA_X8_side⟩ (by decide) rfl hl.1 rfl (by decide) dL_networks_406 ⟨Nat.le_of_ble_eq_true rfl, Nat.le_of_ble_eq_true rfl⟩ ⟨Nat.le_of_ble_eq_true rfl, Nat.le_of_ble_eq_true rfl⟩ rfl rfl (fun f H locs hX hI => ?_)
  refine lv_istore (lv' := [(5, .int (-23)), (4, .int (nI 3)), (2, .int (nI 41)), (3, .int (nI 2915)), (1, .int (nI 79)), (0, .ref h)]) C.x C.b dL_networks_409 hl (by decide) rfl (fun ls hl => ?_)
  refine lv_iload_n C.x C.b dL_networks_411 rfl (lv_at hl 3 rfl) ?_
  refine lv_iload C.x C.b dL_networks_412 (lv_at hl 0 rfl) ?_
  refine lv_iload C.x C.b dL_networks_414 (lv_at hl 0 rfl) ?_
  refine lv_imul C.x C.b dL_networks_416 ?_
  refine k_topi (y := (nI 529)) (by decide) ?_
  refine lv_iadd C.x C.b dL_networks_417 ?_
  refine k_topi (y := (nI 3444)) (by decide) ?_
  refine lv_istore_n (lv' := [(3, .int (nI 3444)), (5, .int (-23)), (4, .int (nI 3)), (2, .int (nI 41)), (1, .int (nI 79)), (0, .ref h)]) C.x C.b dL_networks_418 rfl hl (by decide) rfl (fun ls hl => ?_)
  refine lv_iload_n C.x C.b dL_networks_419 rfl (lv_at hl 3 rfl) ?_
  refine lv_iload C.x C.b dL_networks_420 (lv_at hl 2 rfl) ?_
  refine lv_if_eq (tgt := 432) C.x C.b dL_networks_422 (by decide) (fun q9 => absurd q9 (by decide)) (fun _ => ?_)
  refine lv_iload C.x C.b dL_networks_425 (lv_at hl 2 rfl) ?_
  refine lv_bipush (v := (nI 6)) C.x C.b dL_networks_427 (by decide) ?_
  refine lv_icmp_ne (tgt := 437) C.x C.b dL_networks_429 (by decide) (fun _ => ?_) (fun q9 => absurd q9 (by decide))
  refine lv_iload C.x C.b dL_networks_437 (lv_at hl 2 rfl) ?_
  refine lv_iconst (v := (nI 5)) C.x C.b dL_networks_439 (by decide) ?_
  refine lv_icmp_ne (tgt := 449) C.x C.b dL_networks_440 (by decide) (fun _ => ?_) (fun q9 => absurd q9 (by decide))
  refine lv_iconst (v := (nI 0)) C.x C.b dL_networks_449 (by decide) ?_
  refine lv_iadd C.x C.b dL_networks_450 ?_
  refine k_topi (y := (nI 41)) (by decide) ?_
  refine lv_istore_n (lv' := [(2, .int (nI 41)), (3, .int (nI 3444)), (5, .int (-23)), (4, .int (nI 3)), (1, .int (nI 79)), (0, .ref h)]) C.x C.b dL_networks_451 rfl hl (by decide) rfl (fun ls hl => ?_)
  refine lv_iinc (v := (nI 4)) (lv' := [(4, .int (nI 4)), (2, .int (nI 41)), (3, .int (nI 3444)), (5, .int (-23)), (1, .int (nI 79)), (0, .ref h)]) C.x C.b dL_networks_452 hl (k := 3) rfl (by decide) (by decide) rfl (fun ls hl => ?_)
  refine lv_goto (tgt := 394) C.x C.b dL_networks_455 (by decide) ?_
  refine lv_iload C.x C.b dL_networks_394 (lv_at hl 0 rfl) ?_
  refine lv_bipush (v := (nI 10)) C.x C.b dL_networks_396 (by decide) ?_
  refine lv_icmp_ge (tgt := 458) C.x C.b dL_networks_398 (by decide) (fun q9 => absurd q9 (by decide)) (fun _ => ?_)
  refine lv_aload_n C.x C.b dL_networks_401 rfl (lv_at hl 5 rfl) ?_
  refine lv_iconst (v := (nI 0)) C.x C.b dL_networks_402 (by decide) ?_
  refine lv_iconst (v := (nI 3)) C.x C.b dL_networks_403 (by decide) ?_
  refine lv_iload C.x C.b dL_networks_404 (lv_at hl 0 rfl) ?_
  refine k_cI (As := [.int (nI 0), .int (nI 3), .int (nI 4)]) (rest := []) (c2 := 7760) (s2 := 62488) (v := (-11)) (m1 := hS_networks_23) C hX (iop_side hst hI (nI 0) (nI 3) (nI 4)) (ev_side (by decide +kernel) (by decide +kernel) (by decide +kernel) (by decide +kernel)) hI.hd (gl_up inv_X8_side) rfl ⟨rfl, hdA_X8_side⟩ (by decide) rfl hl.1 rfl (by decide) dL_networks_406 ⟨Nat.le_of_ble_eq_true rfl, Nat.le_of_ble_eq_true rfl⟩ ⟨Nat.le_of_ble_eq_true rfl, Nat.le_of_ble_eq_true rfl⟩ rfl rfl (fun f H locs hX hI => ?_)
  refine lv_istore (lv' := [(5, .int (-11)), (4, .int (nI 4)), (2, .int (nI 41)), (3, .int (nI 3444)), (1, .int (nI 79)), (0, .ref h)]) C.x C.b dL_networks_409 hl (by decide) rfl (fun ls hl => ?_)
  refine lv_iload_n C.x C.b dL_networks_411 rfl (lv_at hl 3 rfl) ?_
  refine lv_iload C.x C.b dL_networks_412 (lv_at hl 0 rfl) ?_
  refine lv_iload C.x C.b dL_networks_414 (lv_at hl 0 rfl) ?_
  refine lv_imul C.x C.b dL_networks_416 ?_
  refine k_topi (y := (nI 121)) (by decide) ?_
  refine lv_iadd C.x C.b dL_networks_417 ?_
  refine k_topi (y := (nI 3565)) (by decide) ?_
  refine lv_istore_n (lv' := [(3, .int (nI 3565)), (5, .int (-11)), (4, .int (nI 4)), (2, .int (nI 41)), (1, .int (nI 79)), (0, .ref h)]) C.x C.b dL_networks_418 rfl hl (by decide) rfl (fun ls hl => ?_)
  refine lv_iload_n C.x C.b dL_networks_419 rfl (lv_at hl 3 rfl) ?_
  refine lv_iload C.x C.b dL_networks_420 (lv_at hl 2 rfl) ?_
  refine lv_if_eq (tgt := 432) C.x C.b dL_networks_422 (by decide) (fun q9 => absurd q9 (by decide)) (fun _ => ?_)
  refine lv_iload C.x C.b dL_networks_425 (lv_at hl 2 rfl) ?_
  refine lv_bipush (v := (nI 6)) C.x C.b dL_networks_427 (by decide) ?_
  refine lv_icmp_ne (tgt := 437) C.x C.b dL_networks_429 (by decide) (fun _ => ?_) (fun q9 => absurd q9 (by decide))
  refine lv_iload C.x C.b dL_networks_437 (lv_at hl 2 rfl) ?_
  refine lv_iconst (v := (nI 5)) C.x C.b dL_networks_439 (by decide) ?_
  refine lv_icmp_ne (tgt := 449) C.x C.b dL_networks_440 (by decide) (fun _ => ?_) (fun q9 => absurd q9 (by decide))
  refine lv_iconst (v := (nI 0)) C.x C.b dL_networks_449 (by decide) ?_
  refine lv_iadd C.x C.b dL_networks_450 ?_
  refine k_topi (y := (nI 41)) (by decide) ?_
  refine lv_istore_n (lv' := [(2, .int (nI 41)), (3, .int (nI 3565)), (5, .int (-11)), (4, .int (nI 4)), (1, .int (nI 79)), (0, .ref h)]) C.x C.b dL_networks_451 rfl hl (by decide) rfl (fun ls hl => ?_)
  refine lv_iinc (v := (nI 5)) (lv' := [(4, .int (nI 5)), (2, .int (nI 41)), (3, .int (nI 3565)), (5, .int (-11)), (1, .int (nI 79)), (0, .ref h)]) C.x C.b dL_networks_452 hl (k := 3) rfl (by decide) (by decide) rfl (fun ls hl => ?_)
  refine lv_goto (tgt := 394) C.x C.b dL_networks_455 (by decide) ?_
  refine lv_iload C.x C.b dL_networks_394 (lv_at hl 0 rfl) ?_
  refine lv_bipush (v := (nI 10)) C.x C.b dL_networks_396 (by decide) ?_
  refine lv_icmp_ge (tgt := 458) C.x C.b dL_networks_398 (by decide) (fun q9 => absurd q9 (by decide)) (fun _ => ?_)
  refine lv_aload_n C.x C.b dL_networks_401 rfl (lv_at hl 5 rfl) ?_
  refine lv_iconst (v := (nI 0)) C.x C.b dL_networks_402 (by decide) ?_
  refine lv_iconst (v := (nI 3)) C.x C.b dL_networks_403 (by decide) ?_
  refine lv_iload C.x C.b dL_networks_404 (lv_at hl 0 rfl) ?_
  refine k_cI (As := [.int (nI 0), .int (nI 3), .int (nI 5)]) (rest := []) (c2 := 7768) (s2 := 62552) (v := (-45)) (m1 := hS_networks_23) C hX (iop_side hst hI (nI 0) (nI 3) (nI 5)) (ev_side (by decide +kernel) (by decide +kernel) (by decide +kernel) (by decide +kernel)) hI.hd (gl_up inv_X8_side) rfl ⟨rfl, hdA_X8_side⟩ (by decide) rfl hl.1 rfl (by decide) dL_networks_406 ⟨Nat.le_of_ble_eq_true rfl, Nat.le_of_ble_eq_true rfl⟩ ⟨Nat.le_of_ble_eq_true rfl, Nat.le_of_ble_eq_true rfl⟩ rfl rfl (fun f H locs hX hI => ?_)
  refine lv_istore (lv' := [(5, .int (-45)), (4, .int (nI 5)), (2, .int (nI 41)), (3, .int (nI 3565)), (1, .int (nI 79)), (0, .ref h)]) C.x C.b dL_networks_409 hl (by decide) rfl (fun ls hl => ?_)
  refine lv_iload_n C.x C.b dL_networks_411 rfl (lv_at hl 3 rfl) ?_
  refine lv_iload C.x C.b dL_networks_412 (lv_at hl 0 rfl) ?_
  refine lv_iload C.x C.b dL_networks_414 (lv_at hl 0 rfl) ?_
  refine lv_imul C.x C.b dL_networks_416 ?_
  refine k_topi (y := (nI 2025)) (by decide) ?_
  refine lv_iadd C.x C.b dL_networks_417 ?_
  refine k_topi (y := (nI 5590)) (by decide) ?_
  refine lv_istore_n (lv' := [(3, .int (nI 5590)), (5, .int (-45)), (4, .int (nI 5)), (2, .int (nI 41)), (1, .int (nI 79)), (0, .ref h)]) C.x C.b dL_networks_418 rfl hl (by decide) rfl (fun ls hl => ?_)
  refine lv_iload_n C.x C.b dL_networks_419 rfl (lv_at hl 3 rfl) ?_
  refine lv_iload C.x C.b dL_networks_420 (lv_at hl 2 rfl) ?_
  refine lv_if_eq (tgt := 432) C.x C.b dL_networks_422 (by decide) (fun q9 => absurd q9 (by decide)) (fun _ => ?_)
  refine lv_iload C.x C.b dL_networks_425 (lv_at hl 2 rfl) ?_
  refine lv_bipush (v := (nI 6)) C.x C.b dL_networks_427 (by decide) ?_
  refine lv_icmp_ne (tgt := 437) C.x C.b dL_networks_429 (by decide) (fun _ => ?_) (fun q9 => absurd q9 (by decide))
  refine lv_iload C.x C.b dL_networks_437 (lv_at hl 2 rfl) ?_
  refine lv_iconst (v := (nI 5)) C.x C.b dL_networks_439 (by decide) ?_
  refine lv_icmp_ne (tgt := 449) C.x C.b dL_networks_440 (by decide) (fun q9 => absurd (by decide) q9) (fun _ => ?_)
  refine lv_iload C.x C.b dL_networks_443 (lv_at hl 1 rfl) ?_
  refine lv_ineg C.x C.b dL_networks_445 ?_
  refine k_topi (y := (nI 45)) (by decide) ?_
  refine lv_goto (tgt := 450) C.x C.b dL_networks_446 (by decide) ?_
  refine lv_iadd C.x C.b dL_networks_450 ?_
  refine k_topi (y := (nI 86)) (by decide) ?_
  refine lv_istore_n (lv' := [(2, .int (nI 86)), (3, .int (nI 5590)), (5, .int (-45)), (4, .int (nI 5)), (1, .int (nI 79)), (0, .ref h)]) C.x C.b dL_networks_451 rfl hl (by decide) rfl (fun ls hl => ?_)
  refine lv_iinc (v := (nI 6)) (lv' := [(4, .int (nI 6)), (2, .int (nI 86)), (3, .int (nI 5590)), (5, .int (-45)), (1, .int (nI 79)), (0, .ref h)]) C.x C.b dL_networks_452 hl (k := 3) rfl (by decide) (by decide) rfl (fun ls hl => ?_)
  refine lv_goto (tgt := 394) C.x C.b dL_networks_455 (by decide) ?_
  refine lv_iload C.x C.b dL_networks_394 (lv_at hl 0 rfl) ?_
  refine lv_bipush (v := (nI 10)) C.x C.b dL_networks_396 (by decide) ?_
  refine lv_icmp_ge (tgt := 458) C.x C.b dL_networks_398 (by decide) (fun q9 => absurd q9 (by decide)) (fun _ => ?_)
  refine lv_aload_n C.x C.b dL_networks_401 rfl (lv_at hl 5 rfl) ?_
  refine lv_iconst (v := (nI 0)) C.x C.b dL_networks_402 (by decide) ?_
  refine lv_iconst (v := (nI 3)) C.x C.b dL_networks_403 (by decide) ?_
  refine lv_iload C.x C.b dL_networks_404 (lv_at hl 0 rfl) ?_
  refine k_cI (As := [.int (nI 0), .int (nI 3), .int (nI 6)]) (rest := []) (c2 := 7776) (s2 := 62616) (v := (nI 44)) (m1 := hS_networks_23) C hX (iop_side hst hI (nI 0) (nI 3) (nI 6)) (ev_side (by decide +kernel) (by decide +kernel) (by decide +kernel) (by decide +kernel)) hI.hd (gl_up inv_X8_side) rfl ⟨rfl, hdA_X8_side⟩ (by decide) rfl hl.1 rfl (by decide) dL_networks_406 ⟨Nat.le_of_ble_eq_true rfl, Nat.le_of_ble_eq_true rfl⟩ ⟨Nat.le_of_ble_eq_true rfl, Nat.le_of_ble_eq_true rfl⟩ rfl rfl (fun f H locs hX hI => ?_)
  refine lv_istore (lv' := [(5, .int (nI 44)), (4, .int (nI 6)), (2, .int (nI 86)), (3, .int (nI 5590)), (1, .int (nI 79)), (0, .ref h)]) C.x C.b dL_networks_409 hl (by decide) rfl (fun ls hl => ?_)
  refine lv_iload_n C.x C.b dL_networks_411 rfl (lv_at hl 3 rfl) ?_
  refine lv_iload C.x C.b dL_networks_412 (lv_at hl 0 rfl) ?_
  refine lv_iload C.x C.b dL_networks_414 (lv_at hl 0 rfl) ?_
  refine lv_imul C.x C.b dL_networks_416 ?_
  refine k_topi (y := (nI 1936)) (by decide) ?_
  refine lv_iadd C.x C.b dL_networks_417 ?_
  refine k_topi (y := (nI 7526)) (by decide) ?_
  refine lv_istore_n (lv' := [(3, .int (nI 7526)), (5, .int (nI 44)), (4, .int (nI 6)), (2, .int (nI 86)), (1, .int (nI 79)), (0, .ref h)]) C.x C.b dL_networks_418 rfl hl (by decide) rfl (fun ls hl => ?_)
  refine lv_iload_n C.x C.b dL_networks_419 rfl (lv_at hl 3 rfl) ?_
  refine lv_iload C.x C.b dL_networks_420 (lv_at hl 2 rfl) ?_
  refine lv_if_eq (tgt := 432) C.x C.b dL_networks_422 (by decide) (fun q9 => absurd q9 (by decide)) (fun _ => ?_)
  refine lv_iload C.x C.b dL_networks_425 (lv_at hl 2 rfl) ?_
  refine lv_bipush (v := (nI 6)) C.x C.b dL_networks_427 (by decide) ?_
  refine lv_icmp_ne (tgt := 437) C.x C.b dL_networks_429 (by decide) (fun q9 => absurd (by decide) q9) (fun _ => ?_)
  refine lv_iload C.x C.b dL_networks_432 (lv_at hl 1 rfl) ?_
  refine lv_goto (tgt := 450) C.x C.b dL_networks_434 (by decide) ?_
  refine lv_iadd C.x C.b dL_networks_450 ?_
  refine k_topi (y := (nI 130)) (by decide) ?_
  refine lv_istore_n (lv' := [(2, .int (nI 130)), (3, .int (nI 7526)), (5, .int (nI 44)), (4, .int (nI 6)), (1, .int (nI 79)), (0, .ref h)]) C.x C.b dL_networks_451 rfl hl (by decide) rfl (fun ls hl => ?_)
  refine lv_iinc (v := (nI 7)) (lv' := [(4, .int (nI 7)), (2, .int (nI 130)), (3, .int (nI 7526)), (5, .int (nI 44)), (1, .int (nI 79)), (0, .ref h)]) C.x C.b dL_networks_452 hl (k := 3) rfl (by decide) (by decide) rfl (fun ls hl => ?_)
  refine lv_goto (tgt := 394) C.x C.b dL_networks_455 (by decide) ?_
  refine lv_iload C.x C.b dL_networks_394 (lv_at hl 0 rfl) ?_
  refine lv_bipush (v := (nI 10)) C.x C.b dL_networks_396 (by decide) ?_
  refine lv_icmp_ge (tgt := 458) C.x C.b dL_networks_398 (by decide) (fun q9 => absurd q9 (by decide)) (fun _ => ?_)
  refine lv_aload_n C.x C.b dL_networks_401 rfl (lv_at hl 5 rfl) ?_
  refine lv_iconst (v := (nI 0)) C.x C.b dL_networks_402 (by decide) ?_
  refine lv_iconst (v := (nI 3)) C.x C.b dL_networks_403 (by decide) ?_
  refine lv_iload C.x C.b dL_networks_404 (lv_at hl 0 rfl) ?_
  refine k_cI (As := [.int (nI 0), .int (nI 3), .int (nI 7)]) (rest := []) (c2 := 7784) (s2 := 62680) (v := (nI 38)) (m1 := hS_networks_23) C hX (iop_side hst hI (nI 0) (nI 3) (nI 7)) (ev_side (by decide +kernel) (by decide +kernel) (by decide +kernel) (by decide +kernel)) hI.hd (gl_up inv_X8_side) rfl ⟨rfl, hdA_X8_side⟩ (by decide) rfl hl.1 rfl (by decide) dL_networks_406 ⟨Nat.le_of_ble_eq_true rfl, Nat.le_of_ble_eq_true rfl⟩ ⟨Nat.le_of_ble_eq_true rfl, Nat.le_of_ble_eq_true rfl⟩ rfl rfl (fun f H locs hX hI => ?_)
  refine lv_istore (lv' := [(5, .int (nI 38)), (4, .int (nI 7)), (2, .int (nI 130)), (3, .int (nI 7526)), (1, .int (nI 79)), (0, .ref h)]) C.x C.b dL_networks_409 hl (by decide) rfl (fun ls hl => ?_)
  refine lv_iload_n C.x C.b dL_networks_411 rfl (lv_at hl 3 rfl) ?_
  refine lv_iload C.x C.b dL_networks_412 (lv_at hl 0 rfl) ?_
  refine lv_iload C.x C.b dL_networks_414 (lv_at hl 0 rfl) ?_
  refine lv_imul C.x C.b dL_networks_416 ?_
  refine k_topi (y := (nI 1444)) (by decide) ?_
  refine lv_iadd C.x C.b dL_networks_417 ?_
  refine k_topi (y := (nI 8970)) (by decide) ?_
  refine lv_istore_n (lv' := [(3, .int (nI 8970)), (5, .int (nI 38)), (4, .int (nI 7)), (2, .int (nI 130)), (1, .int (nI 79)), (0, .ref h)]) C.x C.b dL_networks_418 rfl hl (by decide) rfl (fun ls hl => ?_)
  refine lv_iload_n C.x C.b dL_networks_419 rfl (lv_at hl 3 rfl) ?_
  refine lv_iload C.x C.b dL_networks_420 (lv_at hl 2 rfl) ?_
  refine lv_if_eq (tgt := 432) C.x C.b dL_networks_422 (by decide) (fun q9 => absurd q9 (by decide)) (fun _ => ?_)
  refine lv_iload C.x C.b dL_networks_425 (lv_at hl 2 rfl) ?_
  refine lv_bipush (v := (nI 6)) C.x C.b dL_networks_427 (by decide) ?_
  refine lv_icmp_ne (tgt := 437) C.x C.b dL_networks_429 (by decide) (fun _ => ?_) (fun q9 => absurd q9 (by decide))
  refine lv_iload C.x C.b dL_networks_437 (lv_at hl 2 rfl) ?_
  refine lv_iconst (v := (nI 5)) C.x C.b dL_networks_439 (by decide) ?_
  refine lv_icmp_ne (tgt := 449) C.x C.b dL_networks_440 (by decide) (fun _ => ?_) (fun q9 => absurd q9 (by decide))
  refine lv_iconst (v := (nI 0)) C.x C.b dL_networks_449 (by decide) ?_
  refine lv_iadd C.x C.b dL_networks_450 ?_
  refine k_topi (y := (nI 130)) (by decide) ?_
  refine lv_istore_n (lv' := [(2, .int (nI 130)), (3, .int (nI 8970)), (5, .int (nI 38)), (4, .int (nI 7)), (1, .int (nI 79)), (0, .ref h)]) C.x C.b dL_networks_451 rfl hl (by decide) rfl (fun ls hl => ?_)
  refine lv_iinc (v := (nI 8)) (lv' := [(4, .int (nI 8)), (2, .int (nI 130)), (3, .int (nI 8970)), (5, .int (nI 38)), (1, .int (nI 79)), (0, .ref h)]) C.x C.b dL_networks_452 hl (k := 3) rfl (by decide) (by decide) rfl (fun ls hl => ?_)
  refine lv_goto (tgt := 394) C.x C.b dL_networks_455 (by decide) ?_
  refine lv_iload C.x C.b dL_networks_394 (lv_at hl 0 rfl) ?_
  refine lv_bipush (v := (nI 10)) C.x C.b dL_networks_396 (by decide) ?_
  refine lv_icmp_ge (tgt := 458) C.x C.b dL_networks_398 (by decide) (fun q9 => absurd q9 (by decide)) (fun _ => ?_)
  refine lv_aload_n C.x C.b dL_networks_401 rfl (lv_at hl 5 rfl) ?_
  refine lv_iconst (v := (nI 0)) C.x C.b dL_networks_402 (by decide) ?_
  refine lv_iconst (v := (nI 3)) C.x C.b dL_networks_403 (by decide) ?_
  refine lv_iload C.x C.b dL_networks_404 (lv_at hl 0 rfl) ?_
  refine k_cI (As := [.int (nI 0), .int (nI 3), .int (nI 8)]) (rest := []) (c2 := 7792) (s2 := 62744) (v := (nI 12)) (m1 := hS_networks_23) C hX (iop_side hst hI (nI 0) (nI 3) (nI 8)) (ev_side (by decide +kernel) (by decide +kernel) (by decide +kernel) (by decide +kernel)) hI.hd (gl_up inv_X8_side) rfl ⟨rfl, hdA_X8_side⟩ (by decide) rfl hl.1 rfl (by decide) dL_networks_406 ⟨Nat.le_of_ble_eq_true rfl, Nat.le_of_ble_eq_true rfl⟩ ⟨Nat.le_of_ble_eq_true rfl, Nat.le_of_ble_eq_true rfl⟩ rfl rfl (fun f H locs hX hI => ?_)
  refine lv_istore (lv' := [(5, .int (nI 12)), (4, .int (nI 8)), (2, .int (nI 130)), (3, .int (nI 8970)), (1, .int (nI 79)), (0, .ref h)]) C.x C.b dL_networks_409 hl (by decide) rfl (fun ls hl => ?_)
  refine lv_iload_n C.x C.b dL_networks_411 rfl (lv_at hl 3 rfl) ?_
  refine lv_iload C.x C.b dL_networks_412 (lv_at hl 0 rfl) ?_
  refine lv_iload C.x C.b dL_networks_414 (lv_at hl 0 rfl) ?_
  refine lv_imul C.x C.b dL_networks_416 ?_
  refine k_topi (y := (nI 144)) (by decide) ?_
  refine lv_iadd C.x C.b dL_networks_417 ?_
  refine k_topi (y := (nI 9114)) (by decide) ?_
  refine lv_istore_n (lv' := [(3, .int (nI 9114)), (5, .int (nI 12)), (4, .int (nI 8)), (2, .int (nI 130)), (1, .int (nI 79)), (0, .ref h)]) C.x C.b dL_networks_418 rfl hl (by decide) rfl (fun ls hl => ?_)
  refine lv_iload_n C.x C.b dL_networks_419 rfl (lv_at hl 3 rfl) ?_
  refine lv_iload C.x C.b dL_networks_420 (lv_at hl 2 rfl) ?_
  refine lv_if_eq (tgt := 432) C.x C.b dL_networks_422 (by decide) (fun q9 => absurd q9 (by decide)) (fun _ => ?_)
  refine lv_iload C.x C.b dL_networks_425 (lv_at hl 2 rfl) ?_
  refine lv_bipush (v := (nI 6)) C.x C.b dL_networks_427 (by decide) ?_
  refine lv_icmp_ne (tgt := 437) C.x C.b dL_networks_429 (by decide) (fun _ => ?_) (fun q9 => absurd q9 (by decide))
  refine lv_iload C.x C.b dL_networks_437 (lv_at hl 2 rfl) ?_
  refine lv_iconst (v := (nI 5)) C.x C.b dL_networks_439 (by decide) ?_
  refine lv_icmp_ne (tgt := 449) C.x C.b dL_networks_440 (by decide) (fun _ => ?_) (fun q9 => absurd q9 (by decide))
  refine lv_iconst (v := (nI 0)) C.x C.b dL_networks_449 (by decide) ?_
  refine lv_iadd C.x C.b dL_networks_450 ?_
  refine k_topi (y := (nI 130)) (by decide) ?_
  refine lv_istore_n (lv' := [(2, .int (nI 130)), (3, .int (nI 9114)), (5, .int (nI 12)), (4, .int (nI 8)), (1, .int (nI 79)), (0, .ref h)]) C.x C.b dL_networks_451 rfl hl (by decide) rfl (fun ls hl => ?_)
  refine lv_iinc (v := (nI 9)) (lv' := [(4, .int (nI 9)), (2, .int (nI 130)), (3, .int (nI 9114)), (5, .int (nI 12)), (1, .int (nI 79)), (0, .ref h)]) C.x C.b dL_networks_452 hl (k := 3) rfl (by decide) (by decide) rfl (fun ls hl => ?_)
  refine lv_goto (tgt := 394) C.x C.b dL_networks_455 (by decide) ?_
  refine lv_iload C.x C.b dL_networks_394 (lv_at hl 0 rfl) ?_
  refine lv_bipush (v := (nI 10)) C.x C.b dL_networks_396 (by decide) ?_
  refine lv_icmp_ge (tgt := 458) C.x C.b dL_networks_398 (by decide) (fun q9 => absurd q9 (by decide)) (fun _ => ?_)
  refine lv_aload_n C.x C.b dL_networks_401 rfl (lv_at hl 5 rfl) ?_
  refine lv_iconst (v := (nI 0)) C.x C.b dL_networks_402 (by decide) ?_
  refine lv_iconst (v := (nI 3)) C.x C.b dL_networks_403 (by decide) ?_
  refine lv_iload C.x C.b dL_networks_404 (lv_at hl 0 rfl) ?_
  refine k_cI (As := [.int (nI 0), .int (nI 3), .int (nI 9)]) (rest := []) (c2 := 7800) (s2 := 62808) (v := (-34)) (m1 := hS_networks_23) C hX (iop_side hst hI (nI 0) (nI 3) (nI 9)) (ev_side (by decide +kernel) (by decide +kernel) (by decide +kernel) (by decide +kernel)) hI.hd (gl_up inv_X8_side) rfl ⟨rfl, hdA_X8_side⟩ (by decide) rfl hl.1 rfl (by decide) dL_networks_406 ⟨Nat.le_of_ble_eq_true rfl, Nat.le_of_ble_eq_true rfl⟩ ⟨Nat.le_of_ble_eq_true rfl, Nat.le_of_ble_eq_true rfl⟩ rfl rfl (fun f H locs hX hI => ?_)
  refine lv_istore (lv' := [(5, .int (-34)), (4, .int (nI 9)), (2, .int (nI 130)), (3, .int (nI 9114)), (1, .int (nI 79)), (0, .ref h)]) C.x C.b dL_networks_409 hl (by decide) rfl (fun ls hl => ?_)
  refine lv_iload_n C.x C.b dL_networks_411 rfl (lv_at hl 3 rfl) ?_
  refine lv_iload C.x C.b dL_networks_412 (lv_at hl 0 rfl) ?_
  refine lv_iload C.x C.b dL_networks_414 (lv_at hl 0 rfl) ?_
  refine lv_imul C.x C.b dL_networks_416 ?_
  refine k_topi (y := (nI 1156)) (by decide) ?_
  refine lv_iadd C.x C.b dL_networks_417 ?_
  refine k_topi (y := (nI 10270)) (by decide) ?_
  refine lv_istore_n (lv' := [(3, .int (nI 10270)), (5, .int (-34)), (4, .int (nI 9)), (2, .int (nI 130)), (1, .int (nI 79)), (0, .ref h)]) C.x C.b dL_networks_418 rfl hl (by decide) rfl (fun ls hl => ?_)
  refine lv_iload_n C.x C.b dL_networks_419 rfl (lv_at hl 3 rfl) ?_
  refine lv_iload C.x C.b dL_networks_420 (lv_at hl 2 rfl) ?_
  refine lv_if_eq (tgt := 432) C.x C.b dL_networks_422 (by decide) (fun q9 => absurd q9 (by decide)) (fun _ => ?_)
  refine lv_iload C.x C.b dL_networks_425 (lv_at hl 2 rfl) ?_
  refine lv_bipush (v := (nI 6)) C.x C.b dL_networks_427 (by decide) ?_
  refine lv_icmp_ne (tgt := 437) C.x C.b dL_networks_429 (by decide) (fun _ => ?_) (fun q9 => absurd q9 (by decide))
  refine lv_iload C.x C.b dL_networks_437 (lv_at hl 2 rfl) ?_
  refine lv_iconst (v := (nI 5)) C.x C.b dL_networks_439 (by decide) ?_
  refine lv_icmp_ne (tgt := 449) C.x C.b dL_networks_440 (by decide) (fun _ => ?_) (fun q9 => absurd q9 (by decide))
  refine lv_iconst (v := (nI 0)) C.x C.b dL_networks_449 (by decide) ?_
  refine lv_iadd C.x C.b dL_networks_450 ?_
  refine k_topi (y := (nI 130)) (by decide) ?_
  refine lv_istore_n (lv' := [(2, .int (nI 130)), (3, .int (nI 10270)), (5, .int (-34)), (4, .int (nI 9)), (1, .int (nI 79)), (0, .ref h)]) C.x C.b dL_networks_451 rfl hl (by decide) rfl (fun ls hl => ?_)
  refine lv_iinc (v := (nI 10)) (lv' := [(4, .int (nI 10)), (2, .int (nI 130)), (3, .int (nI 10270)), (5, .int (-34)), (1, .int (nI 79)), (0, .ref h)]) C.x C.b dL_networks_452 hl (k := 3) rfl (by decide) (by decide) rfl (fun ls hl => ?_)
  refine lv_goto (tgt := 394) C.x C.b dL_networks_455 (by decide) ?_
  refine lv_iload C.x C.b dL_networks_394 (lv_at hl 0 rfl) ?_
  refine lv_bipush (v := (nI 10)) C.x C.b dL_networks_396 (by decide) ?_
  refine lv_icmp_ge (tgt := 458) C.x C.b dL_networks_398 (by decide) (fun _ => ?_) (fun q9 => absurd (by decide) q9)
  refine lv_aload_n C.x C.b dL_networks_458 rfl (lv_at hl 5 rfl) ?_
  refine k_cI (As := []) (rest := []) (c2 := 7808) (s2 := 62872) (v := (nI 130)) (m1 := hS_networks_23) C hX (iop_trees hst hI) (ev_trees (by decide +kernel)) hI.hd (gl_up inv_X8_trees) rfl ⟨rfl, hdA_X8_trees⟩ (by decide) rfl hl.1 rfl (by decide) dL_networks_459 ⟨Nat.le_of_ble_eq_true rfl, Nat.le_of_ble_eq_true rfl⟩ ⟨Nat.le_of_ble_eq_true rfl, Nat.le_of_ble_eq_true rfl⟩ rfl rfl (fun f H locs hX hI => ?_)
  refine lv_if_le (tgt := 505) C.x C.b dL_networks_462 (by decide) (fun q9 => absurd q9 (by decide)) (fun _ => ?_)
  refine lv_iload_n C.x C.b dL_networks_465 rfl (lv_at hl 2 rfl) ?_
  refine lv_iload_n C.x C.b dL_networks_466 rfl (lv_at hl 4 rfl) ?_
  refine lv_aload_n C.x C.b dL_networks_467 rfl (lv_at hl 5 rfl) ?_
  refine k_cI (As := []) (rest := [.int (nI 79), .int (nI 10270)]) (c2 := 7816) (s2 := 62936) (v := (nI 130)) (m1 := hS_networks_23) C hX (iop_trees hst hI) (ev_trees (by decide +kernel)) hI.hd (gl_up inv_X8_trees) rfl ⟨rfl, hdA_X8_trees⟩ (by decide) rfl hl.1 rfl (by decide) dL_networks_468 ⟨Nat.le_of_ble_eq_true rfl, Nat.le_of_ble_eq_true rfl⟩ ⟨Nat.le_of_ble_eq_true rfl, Nat.le_of_ble_eq_true rfl⟩ rfl rfl (fun f H locs hX hI => ?_)
  refine lv_imul C.x C.b dL_networks_471 ?_
  refine k_topi (y := (nI 10270)) (by decide) ?_
  refine lv_icmp_ne (tgt := 505) C.x C.b dL_networks_472 (by decide) (fun q9 => absurd (by decide) q9) (fun _ => ?_)
  refine lv_iload_n C.x C.b dL_networks_475 rfl (lv_at hl 1 rfl) ?_
  refine lv_aload_n C.x C.b dL_networks_476 rfl (lv_at hl 5 rfl) ?_
  refine k_cI (As := []) (rest := [.int (nI 130)]) (c2 := 7824) (s2 := 63000) (v := (nI 130)) (m1 := hS_networks_23) C hX (iop_trees hst hI) (ev_trees (by decide +kernel)) hI.hd (gl_up inv_X8_trees) rfl ⟨rfl, hdA_X8_trees⟩ (by decide) rfl hl.1 rfl (by decide) dL_networks_477 ⟨Nat.le_of_ble_eq_true rfl, Nat.le_of_ble_eq_true rfl⟩ ⟨Nat.le_of_ble_eq_true rfl, Nat.le_of_ble_eq_true rfl⟩ rfl rfl (fun f H locs hX hI => ?_)
  refine lv_icmp_ne (tgt := 505) C.x C.b dL_networks_480 (by decide) (fun q9 => absurd (by decide) q9) (fun _ => ?_)
  refine lv_aload_n C.x C.b dL_networks_483 rfl (lv_at hl 5 rfl) ?_
  refine lv_iconst (v := (nI 2)) C.x C.b dL_networks_484 (by decide) ?_
  refine k_cI (As := [.int (nI 2)]) (rest := []) (c2 := 7832) (s2 := 63064) (v := (nI 6)) (m1 := hS_networks_24) C hX (iop_nodes hst hI (nI 2)) (ev_nodes 2 6 (by decide +kernel) (by decide) rfl rfl) hI.hd (gl_up inv_X8_nodes) rfl ⟨rfl, hdA_X8_nodes⟩ (by decide) rfl hl.1 rfl (by decide) dL_networks_485 ⟨Nat.le_of_ble_eq_true rfl, Nat.le_of_ble_eq_true rfl⟩ ⟨Nat.le_of_ble_eq_true rfl, Nat.le_of_ble_eq_true rfl⟩ rfl rfl (fun f H locs hX hI => ?_)
  refine lv_bipush (v := (nI 6)) C.x C.b dL_networks_488 (by decide) ?_
  refine lv_icmp_ne (tgt := 505) C.x C.b dL_networks_490 (by decide) (fun q9 => absurd (by decide) q9) (fun _ => ?_)
  refine lv_aload_n C.x C.b dL_networks_493 rfl (lv_at hl 5 rfl) ?_
  refine lv_iconst (v := (nI 0)) C.x C.b dL_networks_494 (by decide) ?_
  refine k_law (As := [.ref h, .int (nI 0)]) (rest := []) (c2 := 7912) (s2 := 63704) (m1 := hS_networks_24) C hX (pL_trees hst hI (nI 0) (ev_trees (by decide +kernel)) (ev_treesAnew (by decide +kernel))) (gl_up inv_L_trees) rfl rfl rfl hdP_L_trees ⟨Nat.le_of_ble_eq_true rfl, Nat.le_of_ble_eq_true rfl⟩ rfl hl.1 rfl (by decide) dL_networks_495 ⟨Nat.le_of_ble_eq_true rfl, Nat.le_of_ble_eq_true rfl⟩ rfl rfl (fun f H locs hX hI => ?_)
  refine lv_if_eq (tgt := 505) C.x C.b dL_networks_498 (by decide) (fun q9 => absurd q9 (by decide)) (fun _ => ?_)
  refine lv_iconst (v := (nI 1)) C.x C.b dL_networks_501 (by decide) ?_
  refine lv_goto (tgt := 506) C.x C.b dL_networks_502 (by decide) ?_
  exact k_zret C hX hr hlocks hQ (Nat.le_of_ble_eq_true rfl) (Nat.le_of_ble_eq_true rfl) (Or.inr rfl) ⟨rfl, trivial⟩ dL_networks_506
