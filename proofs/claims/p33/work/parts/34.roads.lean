theorem kCs.subgs {f f1 : kH} {ws ws1 ns : va_W} {as : List Nat} (hM : kCs f ws) (h1 : kCs f1 (ws1 ++ ns)) (hO : kKp as f f1) (hn : ∀ q ∈ ns, f q.1 = none) (ks : List Nat) (has : ∀ a ∈ as, a ∈ ws1.map Prod.fst) (hp : kPl ks ws1 ws) : kCs f1 (kSub ws ks ws1 ++ ns) := by
  have h4 := h1.2
  rw [List.map_append, List.nodup_append] at h4
  have h2 : kCs f1 ws1 := ⟨fun x hx => h1.1 x (List.mem_append_left _ hx), h4.1⟩
  have h3 := hM.sub h2 hO ks has hp
  obtain ⟨hl, hks⟩ := hp.ok
  obtain ⟨i1, -⟩ := kSub_ok ks ws1 ws hl hks
  refine ⟨fun x hx => ?_, ?_⟩
  · rcases List.mem_append.mp hx with z | z
    · exact h3.1 x z
    · exact h1.1 _ (List.mem_append_right _ z)
  · rw [List.map_append]
    refine List.nodup_append.mpr ⟨h3.2, h4.2.1, fun a ha b hb => ?_⟩
    intro z
    subst z
    rw [i1] at ha
    obtain ⟨x, hx, rfl⟩ := List.mem_map.mp ha
    obtain ⟨y, hy, hy1⟩ := List.mem_map.mp hb
    have := hM.1 x hx
    rw [← hy1, hn y hy] at this; cases this
abbrev cDrP (dx dy dr : Nat → Int64) (aT : Nat → Int32) (cc u v : Nat) : Prop := dsL dx dy dr v u = if nAdj aT cc (nI v) (nI u) then nI 1 else nI 0
abbrev cDr (dx dy dr : Nat → Int64) (aT : Nat → Int32) (cc sz : Nat) : Prop := sz = cc ∧ ∀ u, u < sz → ∀ v, v < u → cDrP dx dy dr aT cc u v
abbrev cTop (a1 b1 : Int64) (x1 x2 : Int32) : Int64 := a1 * x1.toInt64 + b1 * x2.toInt64
abbrev cTrn (a1 b1 c1 d1 : Int64) (x1 x2 : Int32) : Prop := cTop c1 d1 x1 x2 < 0 ∨ cTop c1 d1 x1 x2 = 0 ∧ cTop a1 b1 x1 x2 < 0
abbrev cIm (a1 b1 c1 d1 : Int64) (x1 x2 z9 : Int32) : Int64 := if cTrn a1 b1 c1 d1 x1 x2 then -(if z9 = 0 then cTop c1 d1 x1 x2 else cTop a1 b1 x1 x2) else (if z9 = 0 then cTop c1 d1 x1 x2 else cTop a1 b1 x1 x2)
abbrev tbE (t1 t2 t3 t4 : Nat → Int64) (k : Nat) : va_E := .inr (6, [.long (t1 k), .long (t2 k), .long (t3 k), .long (t4 k)])

theorem lk_X4_beginAnew_f23 : Cond.fieldLink RX4 23 "Koebehall$Network" "nodeCount" "I" ∈ wsX4_beginAnew := by decide +kernel
theorem hin_X4_beginAnew_RX4 : ∀ w ∈ u_ws RX4 TX4 3, w ∈ wsX4_beginAnew := by decide +kernel
theorem lk_X4_beginAnew_f12 : Cond.fieldLink RX4 12 "Koebehall$Network" "wires" "Ljava/util/ArrayList;" ∈ wsX4_beginAnew := by decide +kernel
theorem hdX4_beginAnew_Jx4a65c_clear_da8c8 : yJx4a65c_clear_da8c8.cls ≠ "java/lang/invoke/MethodHandle" ∧ yJx4a65c_clear_da8c8.cls ≠ "java/lang/invoke/VarHandle" ∧ (parseMethodDescriptor yJx4a65c_clear_da8c8.desc).map (fun d => d.parameters.length) = some 0 := by decide +kernel
abbrev rmX4_beginAnew_0 : Room := { frames := 1, cells := 0, slots := 0, locals := 23 }
set_option maxHeartbeats 4000000 in
set_option maxRecDepth 100000 in
/-- X4_beginAnew_0 -/
theorem kX4_beginAnew_0 (l : Launch) (G : kG) (B0 : Nat) (f : kH) (nn wL nc b : Nat) (vt : Value) (mc : Int32) (hM : kCs f [(nn, .inr (4, [.ref wL, vt, .int (nI nc)])), (wL, .inr (0, [.int mc, .ref (G.2.2 1), .int (nI 0)]))]) : Met l yX4_beginAnew wsX4_beginAnew (rmX4_beginAnew_0) (kP G B0 f [.ref nn, .int (nI b)]) (kQi G B0 (fun r f1 => r = nI nc ∧ kCs f1 [(nn, .inr (4, [.ref wL, vt, .int (nI b)])), (wL, .inr (0, [.int (mc + nI 1), .ref (G.2.2 1), .int (nI 0)]))] ∧ kKp [nn, wL] f f1)) 0 0 (kAb B0) := by
  refine kMet (cc := cX4_beginAnew) (maxL := 3) (ret := (some .int)) (by decide) rfl (Nat.le_of_ble_eq_true rfl) ?_
  intro p e s m args below meth c H locs Q ls C hX hl hr hlocks hnm hQ
  have hO : kKp [nn, wL] f f := kKp.rf
  have hS : ∀ a ∈ [nn, wL], (f a).isSome := by
    intro a h9
    simp only [List.mem_cons, List.not_mem_nil, or_false] at h9
    rcases h9 with rfl | rfl
    · rw [hM.at 0 rfl]; rfl
    · rw [hM.at 1 rfl]; rfl
  have hl : lv_has ls 3 [(0, .ref nn), (1, .int (nI b))] := hl
  refine lv_aload_n C.x C.b dX4_beginAnew_0 rfl (lv_at hl 0 rfl) ?_
  refine k_get (X := RX4) (T := TX4) (N := 3) (v := .int (nI nc)) C hX (hM.at 0 rfl) rfl hin_X4_beginAnew_RX4 2 (by decide) lk_X4_beginAnew_f23 (fun _ h9 => h9) rfl dX4_beginAnew_1 ?_
  refine lv_istore_n (lv' := [(2, .int (nI nc)), (0, .ref nn), (1, .int (nI b))]) C.x C.b dX4_beginAnew_4 rfl hl (by decide) rfl (fun ls hl => ?_)
  refine lv_aload_n C.x C.b dX4_beginAnew_5 rfl (lv_at hl 1 rfl) ?_
  refine lv_iload_n C.x C.b dX4_beginAnew_6 rfl (lv_at hl 2 rfl) ?_
  refine k_put (X := RX4) (T := TX4) (N := 3) (ty := .int) (v := .int (nI b)) C hX (hM.at 0 rfl) rfl hin_X4_beginAnew_RX4 tyX4_ok nmX4 2 (by decide) lk_X4_beginAnew_f23 (fun _ h9 => h9) rfl (by decide +kernel) rfl rfl (Nat.le_of_ble_eq_true rfl) dX4_beginAnew_7 (fun H locs hX => ?_)
  obtain ⟨g1, hX, hM, hO, hS⟩ := kX.wrP hX hM hO hS 0 rfl (Or.inl (by simp))
  have hM : kCs g1 ([(nn, .inr (4, [.ref wL, vt, .int (nI b)])), (wL, .inr (0, [.int mc, .ref (G.2.2 1), .int (nI 0)]))]) := hM
  refine lv_aload_n C.x C.b dX4_beginAnew_10 rfl (lv_at hl 1 rfl) ?_
  refine k_get (X := RX4) (T := TX4) (N := 3) (v := .ref wL) C hX (hM.at 0 rfl) rfl hin_X4_beginAnew_RX4 0 (by decide) lk_X4_beginAnew_f12 (fun _ h9 => h9) rfl dX4_beginAnew_11 ?_
  have hM9 : kCs g1 ([(wL, .inr (0, [.int mc, .ref (G.2.2 1), .int (nI 0)]))]) := hM.pick [1] (by decide) ⟨rfl, trivial⟩
  refine k_callv (va_runV (As := []) (rest := []) C.1 (kJx4a65c_clear_da8c8_0 l G B0 g1 wL mc hM9) (cwV 0 C.ts gX4_beginAnew_Jx4a65c_clear_da8c8 rfl rfl rfl ⟨rfl, hdX4_beginAnew_Jx4a65c_clear_da8c8⟩ ⟨Nat.le_of_ble_eq_true rfl, Nat.le_of_ble_eq_true rfl⟩) (k_preV C hX (hM.at 1 rfl) rfl) rfl rfl hl.1 rfl (lv_room (Nat.le_of_ble_eq_true rfl)) dX4_beginAnew_14 ⟨Nat.le_of_ble_eq_true rfl, Nat.le_of_ble_eq_true rfl⟩) hX (fun f14 H locs hp14 hX => ?_)
  obtain ⟨hM9, hO9⟩ := hp14
  have hM : kCs f14 ([(nn, .inr (4, [.ref wL, vt, .int (nI b)])), (wL, .inr (0, [.int (mc + nI 1), .ref (G.2.2 1), .int (nI 0)]))]) := hM.sub hM9 (kKp.of hO9) [1] (by simp) ⟨rfl, trivial⟩
  have hO := hO.then (kKp.of hO9) (by
      intro a h9
      simp only [List.mem_cons, List.not_mem_nil, or_false] at h9
      rcases h9 with rfl
      · exact Or.inl (by simp))
  have hS : ∀ a ∈ [nn, wL], (f14 a).isSome := by
    intro a h9
    simp only [List.mem_cons, List.not_mem_nil, or_false] at h9
    rcases h9 with rfl | rfl
    · rw [hM.at 0 rfl]; rfl
    · rw [hM.at 1 rfl]; rfl
  refine lv_iload_n C.x C.b dX4_beginAnew_17 rfl (lv_at hl 0 rfl) ?_
  exact k_iret C hX hr hlocks hQ (by omega) (by omega) (⟨rfl, hM, hO⟩) dX4_beginAnew_18

abbrev rmX4_beginAnew_n : Room := { frames := 1, cells := 0, slots := 0, locals := 23 }
set_option maxHeartbeats 4000000 in
set_option maxRecDepth 100000 in
/-- X4_beginAnew_n -/
theorem kX4_beginAnew_n (l : Launch) (G : kG) (B0 : Nat) (f : kH) (nn wL q nc b : Nat) (vt : Value) (mc : Int32) (sz cap : Nat) (g0 : Nat → Option Nat) (hM : kCs f [(nn, .inr (4, [.ref wL, vt, .int (nI nc)])), (wL, .inr (0, [.int mc, .ref q, .int (nI sz)])), (q, kaO G cap g0)]) (hcap : sz ≤ cap) (hc9 : cap < 2 ^ 31) : Met l yX4_beginAnew wsX4_beginAnew (rmX4_beginAnew_n) (kP G B0 f [.ref nn, .int (nI b)]) (kQi G B0 (fun r f1 => r = nI nc ∧ kCs f1 [(nn, .inr (4, [.ref wL, vt, .int (nI b)])), (wL, .inr (0, [.int (mc + nI 1), .ref q, .int (nI 0)])), (q, kaO G cap (fun j => if j < sz then none else g0 j))] ∧ kKp [nn, wL, q] f f1)) 0 0 (kAb B0) := by
  refine kMet (cc := cX4_beginAnew) (maxL := 3) (ret := (some .int)) (by decide) rfl (Nat.le_of_ble_eq_true rfl) ?_
  intro p e s m args below meth c H locs Q ls C hX hl hr hlocks hnm hQ
  have hO : kKp [nn, wL, q] f f := kKp.rf
  have hS : ∀ a ∈ [nn, wL, q], (f a).isSome := by
    intro a h9
    simp only [List.mem_cons, List.not_mem_nil, or_false] at h9
    rcases h9 with rfl | rfl | rfl
    · rw [hM.at 0 rfl]; rfl
    · rw [hM.at 1 rfl]; rfl
    · rw [hM.at 2 rfl]; rfl
  have hl : lv_has ls 3 [(0, .ref nn), (1, .int (nI b))] := hl
  refine lv_aload_n C.x C.b dX4_beginAnew_0 rfl (lv_at hl 0 rfl) ?_
  refine k_get (X := RX4) (T := TX4) (N := 3) (v := .int (nI nc)) C hX (hM.at 0 rfl) rfl hin_X4_beginAnew_RX4 2 (by decide) lk_X4_beginAnew_f23 (fun _ h9 => h9) rfl dX4_beginAnew_1 ?_
  refine lv_istore_n (lv' := [(2, .int (nI nc)), (0, .ref nn), (1, .int (nI b))]) C.x C.b dX4_beginAnew_4 rfl hl (by decide) rfl (fun ls hl => ?_)
  refine lv_aload_n C.x C.b dX4_beginAnew_5 rfl (lv_at hl 1 rfl) ?_
  refine lv_iload_n C.x C.b dX4_beginAnew_6 rfl (lv_at hl 2 rfl) ?_
  refine k_put (X := RX4) (T := TX4) (N := 3) (ty := .int) (v := .int (nI b)) C hX (hM.at 0 rfl) rfl hin_X4_beginAnew_RX4 tyX4_ok nmX4 2 (by decide) lk_X4_beginAnew_f23 (fun _ h9 => h9) rfl (by decide +kernel) rfl rfl (Nat.le_of_ble_eq_true rfl) dX4_beginAnew_7 (fun H locs hX => ?_)
  obtain ⟨g1, hX, hM, hO, hS⟩ := kX.wrP hX hM hO hS 0 rfl (Or.inl (by simp))
  have hM : kCs g1 ([(nn, .inr (4, [.ref wL, vt, .int (nI b)])), (wL, .inr (0, [.int mc, .ref q, .int (nI sz)])), (q, kaO G cap g0)]) := hM
  refine lv_aload_n C.x C.b dX4_beginAnew_10 rfl (lv_at hl 1 rfl) ?_
  refine k_get (X := RX4) (T := TX4) (N := 3) (v := .ref wL) C hX (hM.at 0 rfl) rfl hin_X4_beginAnew_RX4 0 (by decide) lk_X4_beginAnew_f12 (fun _ h9 => h9) rfl dX4_beginAnew_11 ?_
  have hM9 : kCs g1 ([(wL, .inr (0, [.int mc, .ref q, .int (nI sz)])), (q, kaO G cap g0)]) := hM.pick [1, 2] (by decide) ⟨rfl, rfl, trivial⟩
  refine k_callv (va_runV (As := []) (rest := []) C.1 (kJx4a65c_clear_da8c8_n l G B0 g1 wL q mc sz cap g0 (by omega) hc9 hM9) (cwV 0 C.ts gX4_beginAnew_Jx4a65c_clear_da8c8 rfl rfl rfl ⟨rfl, hdX4_beginAnew_Jx4a65c_clear_da8c8⟩ ⟨Nat.le_of_ble_eq_true rfl, Nat.le_of_ble_eq_true rfl⟩) (k_preV C hX (hM.at 1 rfl) rfl) rfl rfl hl.1 rfl (lv_room (Nat.le_of_ble_eq_true rfl)) dX4_beginAnew_14 ⟨Nat.le_of_ble_eq_true rfl, Nat.le_of_ble_eq_true rfl⟩) hX (fun f14 H locs hp14 hX => ?_)
  obtain ⟨hM9, hO9⟩ := hp14
  have hM : kCs f14 ([(nn, .inr (4, [.ref wL, vt, .int (nI b)])), (wL, .inr (0, [.int (mc + nI 1), .ref q, .int (nI 0)])), (q, kaO G cap (fun j => if j < sz then none else g0 j))]) := hM.sub hM9 (kKp.of hO9) [1, 2] (by simp) ⟨rfl, rfl, trivial⟩
  have hO := hO.then (kKp.of hO9) (by
      intro a h9
      simp only [List.mem_cons, List.not_mem_nil, or_false] at h9
      rcases h9 with rfl | rfl
      · exact Or.inl (by simp)
      · exact Or.inl (by simp))
  have hS : ∀ a ∈ [nn, wL, q], (f14 a).isSome := by
    intro a h9
    simp only [List.mem_cons, List.not_mem_nil, or_false] at h9
    rcases h9 with rfl | rfl | rfl
    · rw [hM.at 0 rfl]; rfl
    · rw [hM.at 1 rfl]; rfl
    · rw [hM.at 2 rfl]; rfl
  refine lv_iload_n C.x C.b dX4_beginAnew_17 rfl (lv_at hl 0 rfl) ?_
  exact k_iret C hX hr hlocks hQ (by omega) (by omega) (⟨rfl, hM, hO⟩) dX4_beginAnew_18

theorem lk_X8_nodes_f48 : Cond.fieldLink RX8 48 "Koebehall" "network" "LKoebehall$Network;" ∈ wsX8_nodes := by decide +kernel
theorem hin_X8_nodes_RX8 : ∀ w ∈ u_ws RX8 TX8 7, w ∈ wsX8_nodes := by decide +kernel
theorem hdX8_nodes_X4_beginAnew : yX4_beginAnew.cls ≠ "java/lang/invoke/MethodHandle" ∧ yX4_beginAnew.cls ≠ "java/lang/invoke/VarHandle" ∧ (parseMethodDescriptor yX4_beginAnew.desc).map (fun d => d.parameters.length) = some 1 := by decide +kernel
theorem lk_X8_nodes_in_RX4 : Cond.initialized RX4 ∈ wsX8_nodes := by decide +kernel
theorem lk_X8_nodes_im_X4_beginAnew : Cond.instanceMethod yX4_beginAnew ∈ wsX8_nodes := by decide +kernel
theorem lk_X8_nodes_se_X4_beginAnew : Cond.selects RX4 yX4_beginAnew yX4_beginAnew ∈ wsX8_nodes := by decide +kernel
abbrev rmX8_nodes_0 : Room := { frames := 2, cells := 0, slots := 0, locals := 45 }
set_option maxHeartbeats 4000000 in
set_option maxRecDepth 100000 in
/-- X8_nodes_0 -/
theorem kX8_nodes_0 (l : Launch) (G : kG) (B0 : Nat) (f : kH) (h nn wL nc b : Nat) (vs vd vg vw vm vp vt : Value) (mc : Int32) (hM : kCs f [(h, .inr (8, [vs, vd, vg, vw, vm, vp, .ref nn])), (nn, .inr (4, [.ref wL, vt, .int (nI nc)])), (wL, .inr (0, [.int mc, .ref (G.2.2 1), .int (nI 0)]))]) (hb1 : 2 ≤ b) (hb2 : b ≤ 6) : Met l yX8_nodes wsX8_nodes (rmX8_nodes_0) (kP G B0 f [.ref h, .int (nI b)]) (kQi G B0 (fun r f1 => r = nI nc ∧ kCs f1 [(h, .inr (8, [vs, vd, vg, vw, vm, vp, .ref nn])), (nn, .inr (4, [.ref wL, vt, .int (nI b)])), (wL, .inr (0, [.int (mc + nI 1), .ref (G.2.2 1), .int (nI 0)]))] ∧ kKp [nn, wL] f f1)) 0 0 (kAb B0) := by
  refine kMet (cc := cX8_nodes) (maxL := 2) (ret := (some .int)) (by decide) rfl (Nat.le_of_ble_eq_true rfl) ?_
  intro p e s m args below meth c H locs Q ls C hX hl hr hlocks hnm hQ
  have hO : kKp [nn, wL] f f := kKp.rf
  have hS : ∀ a ∈ [nn, wL], (f a).isSome := by
    intro a h9
    simp only [List.mem_cons, List.not_mem_nil, or_false] at h9
    rcases h9 with rfl | rfl
    · rw [hM.at 1 rfl]; rfl
    · rw [hM.at 2 rfl]; rfl
  have hl : lv_has ls 2 [(0, .ref h), (1, .int (nI b))] := hl
  refine lv_iload_n C.x C.b dX8_nodes_0 rfl (lv_at hl 1 rfl) ?_
  refine lv_iconst (v := nI 2) C.x C.b dX8_nodes_1 (by decide) ?_
  refine lv_icmp_lt (tgt := 11) C.x C.b dX8_nodes_2 (by decide) (fun c_2 => ?_) (fun c_2 => ?_)
  · skip
    have c_2 : b < 2 := (nI_ltI (by omega) (by omega)).mp c_2
    omega
  have c_2 : ¬ (b < 2) := fun h9 => c_2 ((nI_ltI (by omega) (by omega)).mpr h9)
  refine lv_iload_n C.x C.b dX8_nodes_5 rfl (lv_at hl 1 rfl) ?_
  refine lv_bipush (v := nI 6) C.x C.b dX8_nodes_6 (by decide) ?_
  refine lv_icmp_le (tgt := 22) C.x C.b dX8_nodes_8 (by decide) (fun c_8 => ?_) (fun c_8 => ?_)
  rotate_left
  · skip
    have c_8 : ¬ (b ≤ 6) := fun h9 => c_8 ((nI_leI (by omega) (by omega)).mpr h9)
    omega
  have c_8 : b ≤ 6 := (nI_leI (by omega) (by omega)).mp c_8
  refine lv_aload_n C.x C.b dX8_nodes_22 rfl (lv_at hl 0 rfl) ?_
  refine k_get (X := RX8) (T := TX8) (N := 7) (v := .ref nn) C hX (hM.at 0 rfl) rfl hin_X8_nodes_RX8 6 (by decide) lk_X8_nodes_f48 (fun _ h9 => h9) rfl dX8_nodes_23 ?_
  refine lv_iload_n C.x C.b dX8_nodes_26 rfl (lv_at hl 1 rfl) ?_
  have hM9 : kCs f ([(nn, .inr (4, [.ref wL, vt, .int (nI nc)])), (wL, .inr (0, [.int mc, .ref (G.2.2 1), .int (nI 0)]))]) := hM.pick [1, 2] (by decide) ⟨rfl, rfl, trivial⟩
  refine k_calli (va_runVN (As := [.int (nI b)]) (rest := []) C.1 (kX4_beginAnew_0 l G B0 f nn wL nc b vt mc hM9) ⟨va_cnB 1 C.ts gX8_nodes_X4_beginAnew_n310 rfl rfl rfl (C.2.1.2.2.1 _ (show ((RX8, 310, yX4_beginAnew, "Koebehall") : String × Nat × MethodName × String) ∈ kNestM by decide +kernel)) (C.ts _ lk_X8_nodes_in_RX4) hdX8_nodes_X4_beginAnew ⟨Nat.le_of_ble_eq_true rfl, Nat.le_of_ble_eq_true rfl⟩, C.ts _ lk_X8_nodes_im_X4_beginAnew, C.ts _ lk_X8_nodes_se_X4_beginAnew⟩ (k_preV C hX (hM.at 1 rfl) rfl) rfl rfl hl.1 rfl (lv_room (Nat.le_of_ble_eq_true rfl)) dX8_nodes_27 ⟨Nat.le_of_ble_eq_true rfl, Nat.le_of_ble_eq_true rfl⟩) hX (fun r27 f27 H locs hp27 hX => ?_)
  obtain ⟨hr27, hM9, hO9⟩ := hp27
  have hM : kCs f27 ([(h, .inr (8, [vs, vd, vg, vw, vm, vp, .ref nn])), (nn, .inr (4, [.ref wL, vt, .int (nI b)])), (wL, .inr (0, [.int (mc + nI 1), .ref (G.2.2 1), .int (nI 0)]))]) := hM.sub hM9 (hO9) [1, 2] (by simp) ⟨rfl, rfl, trivial⟩
  have hO := hO.then (hO9) (by
      intro a h9
      simp only [List.mem_cons, List.not_mem_nil, or_false] at h9
      rcases h9 with rfl | rfl
      · exact Or.inl (by simp)
      · exact Or.inl (by simp))
  have hS : ∀ a ∈ [nn, wL], (f27 a).isSome := by
    intro a h9
    simp only [List.mem_cons, List.not_mem_nil, or_false] at h9
    rcases h9 with rfl | rfl
    · rw [hM.at 1 rfl]; rfl
    · rw [hM.at 2 rfl]; rfl
  refine k_topi (y := (nI nc)) hr27 ?_
  exact k_iret C hX hr hlocks hQ (by omega) (by omega) (⟨rfl, hM, hO⟩) dX8_nodes_30

abbrev rmX8_nodes_n : Room := { frames := 2, cells := 0, slots := 0, locals := 45 }
set_option maxHeartbeats 4000000 in
set_option maxRecDepth 100000 in
/-- X8_nodes_n -/
theorem kX8_nodes_n (l : Launch) (G : kG) (B0 : Nat) (f : kH) (h nn wL q nc b : Nat) (vs vd vg vw vm vp vt : Value) (mc : Int32) (sz cap : Nat) (g0 : Nat → Option Nat) (hM : kCs f [(h, .inr (8, [vs, vd, vg, vw, vm, vp, .ref nn])), (nn, .inr (4, [.ref wL, vt, .int (nI nc)])), (wL, .inr (0, [.int mc, .ref q, .int (nI sz)])), (q, kaO G cap g0)]) (hb1 : 2 ≤ b) (hb2 : b ≤ 6) (hcap : sz ≤ cap) (hc9 : cap < 2 ^ 31) : Met l yX8_nodes wsX8_nodes (rmX8_nodes_n) (kP G B0 f [.ref h, .int (nI b)]) (kQi G B0 (fun r f1 => r = nI nc ∧ kCs f1 [(h, .inr (8, [vs, vd, vg, vw, vm, vp, .ref nn])), (nn, .inr (4, [.ref wL, vt, .int (nI b)])), (wL, .inr (0, [.int (mc + nI 1), .ref q, .int (nI 0)])), (q, kaO G cap (fun j => if j < sz then none else g0 j))] ∧ kKp [nn, wL, q] f f1)) 0 0 (kAb B0) := by
  refine kMet (cc := cX8_nodes) (maxL := 2) (ret := (some .int)) (by decide) rfl (Nat.le_of_ble_eq_true rfl) ?_
  intro p e s m args below meth c H locs Q ls C hX hl hr hlocks hnm hQ
  have hO : kKp [nn, wL, q] f f := kKp.rf
  have hS : ∀ a ∈ [nn, wL, q], (f a).isSome := by
    intro a h9
    simp only [List.mem_cons, List.not_mem_nil, or_false] at h9
    rcases h9 with rfl | rfl | rfl
    · rw [hM.at 1 rfl]; rfl
    · rw [hM.at 2 rfl]; rfl
    · rw [hM.at 3 rfl]; rfl
  have hl : lv_has ls 2 [(0, .ref h), (1, .int (nI b))] := hl
  refine lv_iload_n C.x C.b dX8_nodes_0 rfl (lv_at hl 1 rfl) ?_
  refine lv_iconst (v := nI 2) C.x C.b dX8_nodes_1 (by decide) ?_
  refine lv_icmp_lt (tgt := 11) C.x C.b dX8_nodes_2 (by decide) (fun c_2 => ?_) (fun c_2 => ?_)
  · skip
    have c_2 : b < 2 := (nI_ltI (by omega) (by omega)).mp c_2
    omega
  have c_2 : ¬ (b < 2) := fun h9 => c_2 ((nI_ltI (by omega) (by omega)).mpr h9)
  refine lv_iload_n C.x C.b dX8_nodes_5 rfl (lv_at hl 1 rfl) ?_
  refine lv_bipush (v := nI 6) C.x C.b dX8_nodes_6 (by decide) ?_
  refine lv_icmp_le (tgt := 22) C.x C.b dX8_nodes_8 (by decide) (fun c_8 => ?_) (fun c_8 => ?_)
  rotate_left
  · skip
    have c_8 : ¬ (b ≤ 6) := fun h9 => c_8 ((nI_leI (by omega) (by omega)).mpr h9)
    omega
  have c_8 : b ≤ 6 := (nI_leI (by omega) (by omega)).mp c_8
  refine lv_aload_n C.x C.b dX8_nodes_22 rfl (lv_at hl 0 rfl) ?_
  refine k_get (X := RX8) (T := TX8) (N := 7) (v := .ref nn) C hX (hM.at 0 rfl) rfl hin_X8_nodes_RX8 6 (by decide) lk_X8_nodes_f48 (fun _ h9 => h9) rfl dX8_nodes_23 ?_
  refine lv_iload_n C.x C.b dX8_nodes_26 rfl (lv_at hl 1 rfl) ?_
  have hM9 : kCs f ([(nn, .inr (4, [.ref wL, vt, .int (nI nc)])), (wL, .inr (0, [.int mc, .ref q, .int (nI sz)])), (q, kaO G cap g0)]) := hM.pick [1, 2, 3] (by decide) ⟨rfl, rfl, rfl, trivial⟩
  refine k_calli (va_runVN (As := [.int (nI b)]) (rest := []) C.1 (kX4_beginAnew_n l G B0 f nn wL q nc b vt mc sz cap g0 hM9 hcap hc9) ⟨va_cnB 1 C.ts gX8_nodes_X4_beginAnew_n310 rfl rfl rfl (C.2.1.2.2.1 _ (show ((RX8, 310, yX4_beginAnew, "Koebehall") : String × Nat × MethodName × String) ∈ kNestM by decide +kernel)) (C.ts _ lk_X8_nodes_in_RX4) hdX8_nodes_X4_beginAnew ⟨Nat.le_of_ble_eq_true rfl, Nat.le_of_ble_eq_true rfl⟩, C.ts _ lk_X8_nodes_im_X4_beginAnew, C.ts _ lk_X8_nodes_se_X4_beginAnew⟩ (k_preV C hX (hM.at 1 rfl) rfl) rfl rfl hl.1 rfl (lv_room (Nat.le_of_ble_eq_true rfl)) dX8_nodes_27 ⟨Nat.le_of_ble_eq_true rfl, Nat.le_of_ble_eq_true rfl⟩) hX (fun r27 f27 H locs hp27 hX => ?_)
  obtain ⟨hr27, hM9, hO9⟩ := hp27
  have hM : kCs f27 ([(h, .inr (8, [vs, vd, vg, vw, vm, vp, .ref nn])), (nn, .inr (4, [.ref wL, vt, .int (nI b)])), (wL, .inr (0, [.int (mc + nI 1), .ref q, .int (nI 0)])), (q, kaO G cap (fun j => if j < sz then none else g0 j))]) := hM.sub hM9 (hO9) [1, 2, 3] (by simp) ⟨rfl, rfl, rfl, trivial⟩
  have hO := hO.then (hO9) (by
      intro a h9
      simp only [List.mem_cons, List.not_mem_nil, or_false] at h9
      rcases h9 with rfl | rfl | rfl
      · exact Or.inl (by simp)
      · exact Or.inl (by simp)
      · exact Or.inl (by simp))
  have hS : ∀ a ∈ [nn, wL, q], (f27 a).isSome := by
    intro a h9
    simp only [List.mem_cons, List.not_mem_nil, or_false] at h9
    rcases h9 with rfl | rfl | rfl
    · rw [hM.at 1 rfl]; rfl
    · rw [hM.at 2 rfl]; rfl
    · rw [hM.at 3 rfl]; rfl
  refine k_topi (y := (nI nc)) hr27 ?_
  exact k_iret C hX hr hlocks hQ (by omega) (by omega) (⟨rfl, hM, hO⟩) dX8_nodes_30

theorem lk_X8_draws_f19 : Cond.fieldLink RX8 19 "Koebehall" "disks" "Ljava/util/ArrayList;" ∈ wsX8_draws := by decide +kernel
theorem hin_X8_draws_RX8 : ∀ w ∈ u_ws RX8 TX8 7, w ∈ wsX8_draws := by decide +kernel
theorem hdX8_draws_Jx4a65c_size_8abf5 : yJx4a65c_size_8abf5.cls ≠ "java/lang/invoke/MethodHandle" ∧ yJx4a65c_size_8abf5.cls ≠ "java/lang/invoke/VarHandle" ∧ (parseMethodDescriptor yJx4a65c_size_8abf5.desc).map (fun d => d.parameters.length) = some 0 := by decide +kernel
theorem lk_X8_draws_f10 : Cond.fieldLink RX8 10 "Koebehall" "sphere" "LKoebehall$Net;" ∈ wsX8_draws := by decide +kernel
theorem hin_X8_draws_RX3 : ∀ w ∈ u_ws RX3 TX3 4, w ∈ wsX8_draws := by decide +kernel
theorem hdX8_draws_X3_areNeighbours : yX3_areNeighbours.cls ≠ "java/lang/invoke/MethodHandle" ∧ yX3_areNeighbours.cls ≠ "java/lang/invoke/VarHandle" ∧ (parseMethodDescriptor yX3_areNeighbours.desc).map (fun d => d.parameters.length) = some 2 := by decide +kernel
theorem lk_X8_draws_in_RX3 : Cond.initialized RX3 ∈ wsX8_draws := by decide +kernel
theorem lk_X8_draws_im_X3_areNeighbours : Cond.instanceMethod yX3_areNeighbours ∈ wsX8_draws := by decide +kernel
theorem lk_X8_draws_se_X3_areNeighbours : Cond.selects RX3 yX3_areNeighbours yX3_areNeighbours ∈ wsX8_draws := by decide +kernel
theorem hdX8_draws_X8_howDisksLie : yX8_howDisksLie.cls ≠ "java/lang/invoke/MethodHandle" ∧ yX8_howDisksLie.cls ≠ "java/lang/invoke/VarHandle" ∧ (parseMethodDescriptor yX8_howDisksLie.desc).map (fun d => d.parameters.length) = some 2 := by decide +kernel
abbrev rmX8_draws : Room := { frames := 4, cells := 0, slots := 0, locals := 86 }
set_option maxHeartbeats 4000000 in
set_option maxRecDepth 100000 in
/-- X8_draws -/
theorem kX8_draws (l : Launch) (G : kG) (B0 : Nat) (f : kH) (h sp nA tA dl sz : Nat) (vg vw vm vp vn : Value) (aN aT : Nat → Int32) (cc fc : Nat) (w : Nat → Nat) (dx dy dr : Nat → Int64) (hM : kCs f [(h, .inr (8, [.ref sp, .ref dl, vg, vw, vm, vp, vn])), (sp, .inr (3, [.ref nA, .ref tA, .int (nI cc), .int (nI fc)])), (nA, kaI G 84 aN), (tA, kaI G 256 aT)]) (hc9 : cc ≤ 16) (hF9 : fc ≤ 28) (hdl : kLs G f dl sz w (dsE dx dy dr)) (hsz : sz ≤ 16) : Met l yX8_draws wsX8_draws (rmX8_draws) (kP G B0 f [.ref h]) (kQi G B0 (fun r f1 => r = kbI (cDr dx dy dr aT cc sz) ∧ f1 = f)) 0 0 (kAb B0) := by
  refine kMet (cc := cX8_draws) (maxL := 4) (ret := (some .boolean)) (by decide) rfl (Nat.le_of_ble_eq_true rfl) ?_
  intro p e s m args below meth c H locs Q ls C hX hl hr hlocks hnm hQ
  have hl : lv_has ls 4 [(0, .ref h)] := hl
  refine lv_aload_n C.x C.b dX8_draws_0 rfl (lv_at hl 0 rfl) ?_
  refine k_get (X := RX8) (T := TX8) (N := 7) (v := .ref dl) C hX (hM.at 0 rfl) rfl hin_X8_draws_RX8 1 (by decide) lk_X8_draws_f19 (fun _ h9 => h9) rfl dX8_draws_1 ?_
  refine k_calli (va_runV (As := []) (rest := []) C.1 (kSizeL l G B0 f hdl) (cwV 0 C.ts gX8_draws_Jx4a65c_size_8abf5 rfl rfl rfl ⟨rfl, hdX8_draws_Jx4a65c_size_8abf5⟩ ⟨Nat.le_of_ble_eq_true rfl, Nat.le_of_ble_eq_true rfl⟩) (k_preV C hX (hdl.list.choose_spec) rfl) rfl rfl hl.1 rfl (lv_room (Nat.le_of_ble_eq_true rfl)) dX8_draws_4 ⟨Nat.le_of_ble_eq_true rfl, Nat.le_of_ble_eq_true rfl⟩) hX (fun r4 f4 H locs hp4 hX => ?_)
  obtain ⟨hr4, hf4⟩ := hp4
  rw [hf4] at hX
  refine k_topi (y := (nI sz)) hr4 ?_
  refine lv_aload_n C.x C.b dX8_draws_7 rfl (lv_at hl 0 rfl) ?_
  refine k_get (X := RX8) (T := TX8) (N := 7) (v := .ref sp) C hX (hM.at 0 rfl) rfl hin_X8_draws_RX8 0 (by decide) lk_X8_draws_f10 (fun _ h9 => h9) rfl dX8_draws_8 ?_
  refine k_getN (host := "Koebehall") (X := RX3) (T := TX3) (N := 4) (v := .int (nI cc)) C hX (hM.at 1 rfl) rfl hin_X8_draws_RX3 2 (by decide) (by decide +kernel) (fun _ h9 => h9) rfl dX8_draws_11 ?_
  refine lv_icmp_eq (tgt := 19) C.x C.b dX8_draws_14 (by decide) (fun c_14 => ?_) (fun c_14 => ?_)
  · skip
    have c_14 : sz = cc := (nI_eq (by omega) (by omega)).mp c_14
    refine lv_iconst (v := nI 1) C.x C.b dX8_draws_19 (by decide) ?_
    refine lv_istore_n (lv' := [(1, .int (nI 1)), (0, .ref h)]) C.x C.b dX8_draws_20 rfl hl (by decide) rfl (fun ls hl => ?_)
    have LOOP21 : ∀ (n : Nat) (u : Nat), (u ≤ sz ∨ u = 1) → (1 ≤ u) → (∀ u9, u9 < u → ∀ v9, v9 < u9 → cDrP dx dy dr aT cc u9 v9) → (sz - u) < n → ∀ (ls : Array Slot), lv_has ls 4 [(1, .int (nI u)), (0, .ref h)] → ∀ (H : Heap) (locs : List Loc), kX G B0 s f H locs → W p l e (rmX8_draws) s m args below meth c H locs 0 0 Q (F0 m 21 ls []) := by
      intro n21
      induction n21 with
      | zero => intro u hu hu1 hd hn; exact absurd hn (Nat.not_lt_zero _)
      | succ n21 ih21 =>
        intro u hu hu1 hd hn ls hl H locs hX
        refine lv_iload_n C.x C.b dX8_draws_21 rfl (lv_at hl 0 rfl) ?_
        refine lv_aload_n C.x C.b dX8_draws_22 rfl (lv_at hl 1 rfl) ?_
        refine k_get (X := RX8) (T := TX8) (N := 7) (v := .ref dl) C hX (hM.at 0 rfl) rfl hin_X8_draws_RX8 1 (by decide) lk_X8_draws_f19 (fun _ h9 => h9) rfl dX8_draws_23 ?_
        refine k_calli (va_runV (As := []) (rest := [.int (nI u)]) C.1 (kSizeL l G B0 f hdl) (cwV 0 C.ts gX8_draws_Jx4a65c_size_8abf5 rfl rfl rfl ⟨rfl, hdX8_draws_Jx4a65c_size_8abf5⟩ ⟨Nat.le_of_ble_eq_true rfl, Nat.le_of_ble_eq_true rfl⟩) (k_preV C hX (hdl.list.choose_spec) rfl) rfl rfl hl.1 rfl (lv_room (Nat.le_of_ble_eq_true rfl)) dX8_draws_26 ⟨Nat.le_of_ble_eq_true rfl, Nat.le_of_ble_eq_true rfl⟩) hX (fun r26 f26 H locs hp26 hX => ?_)
        obtain ⟨hr26, hf26⟩ := hp26
        rw [hf26] at hX
        refine k_topi (y := (nI sz)) hr26 ?_
        refine lv_icmp_ge (tgt := 81) C.x C.b dX8_draws_29 (by decide) (fun c_29 => ?_) (fun c_29 => ?_)
        · skip
          have c_29 : sz ≤ u := (nI_leI (by omega) (by omega)).mp c_29
          refine lv_iconst (v := nI 1) C.x C.b dX8_draws_81 (by decide) ?_
          exact k_zret C hX hr hlocks hQ (by omega) (by omega) (by first | exact kbI_01 _ | exact Or.inl rfl | exact Or.inr rfl) (⟨kbI_tN ⟨c_14, fun u9 hu9 v9 hv9 => hd u9 (by omega) v9 hv9⟩, rfl⟩) dX8_draws_82
        · skip
          have c_29 : ¬ (sz ≤ u) := fun h9 => c_29 ((nI_leI (by omega) (by omega)).mpr h9)
          refine lv_iconst (v := nI 0) C.x C.b dX8_draws_32 (by decide) ?_
          refine lv_istore_n (lv' := [(2, .int (nI 0)), (1, .int (nI u)), (0, .ref h)]) C.x C.b dX8_draws_33 rfl hl (by decide) rfl (fun ls hl => ?_)
          have LOOP34 : ∀ (n : Nat) (v : Nat), (v ≤ u) → (∀ v9, v9 < v → cDrP dx dy dr aT cc u v9) → (u - v) < n → ∀ (ls : Array Slot), lv_has ls 4 [(2, .int (nI v)), (1, .int (nI u)), (0, .ref h)] → ∀ (H : Heap) (locs : List Loc), kX G B0 s f H locs → W p l e (rmX8_draws) s m args below meth c H locs 0 0 Q (F0 m 34 ls []) := by
            intro n34
            induction n34 with
            | zero => intro v hv hq hn; exact absurd hn (Nat.not_lt_zero _)
            | succ n34 ih34 =>
              intro v hv hq hn ls hl H locs hX
              refine lv_iload_n C.x C.b dX8_draws_34 rfl (lv_at hl 0 rfl) ?_
              refine lv_iload_n C.x C.b dX8_draws_35 rfl (lv_at hl 1 rfl) ?_
              refine lv_icmp_ge (tgt := 75) C.x C.b dX8_draws_36 (by decide) (fun c_36 => ?_) (fun c_36 => ?_)
              · skip
                have c_36 : u ≤ v := (nI_leI (by omega) (by omega)).mp c_36
                refine lv_iinc (v := (nI (u + 1))) (lv' := [(1, .int (nI (u + 1))), (2, .int (nI v)), (0, .ref h)]) C.x C.b dX8_draws_75 hl (k := 1) rfl (nI_1 _) (by decide) rfl (fun ls hl => ?_)
                refine lv_goto (tgt := 21) C.x C.b dX8_draws_78 (by decide) ?_
                exact ih21 (u + 1) (by omega) (by omega) (fun u9 hu9 v9 hv9 => by
            rcases Nat.lt_or_ge u9 u with q9 | q9
            · exact hd u9 q9 v9 hv9
            · obtain rfl : u9 = u := (by omega)
              exact hq v9 (by omega)) (by omega) ls (lv_sub hl [0, 2] rfl) _ _ hX
              · skip
                have c_36 : ¬ (u ≤ v) := fun h9 => c_36 ((nI_leI (by omega) (by omega)).mpr h9)
                refine lv_aload_n C.x C.b dX8_draws_39 rfl (lv_at hl 2 rfl) ?_
                refine k_get (X := RX8) (T := TX8) (N := 7) (v := .ref sp) C hX (hM.at 0 rfl) rfl hin_X8_draws_RX8 0 (by decide) lk_X8_draws_f10 (fun _ h9 => h9) rfl dX8_draws_40 ?_
                refine lv_iload_n C.x C.b dX8_draws_43 rfl (lv_at hl 0 rfl) ?_
                refine lv_iload_n C.x C.b dX8_draws_44 rfl (lv_at hl 1 rfl) ?_
                have hM9 : kCs f (nW G sp nA tA aN aT cc fc) := hM.pick [1, 2, 3] (by decide) ⟨rfl, rfl, rfl, trivial⟩
                refine k_calli (va_runVN (As := [.int (nI v), .int (nI u)]) (rest := []) C.1 (kX3_areNeighbours l G B0 f sp nA tA aN aT cc fc (nI v) (nI u) hM9 hc9 hF9) ⟨va_cnB 2 C.ts gX8_draws_X3_areNeighbours_n167 rfl rfl rfl (C.2.1.2.2.1 _ (show ((RX8, 167, yX3_areNeighbours, "Koebehall") : String × Nat × MethodName × String) ∈ kNestM by decide +kernel)) (C.ts _ lk_X8_draws_in_RX3) hdX8_draws_X3_areNeighbours ⟨Nat.le_of_ble_eq_true rfl, Nat.le_of_ble_eq_true rfl⟩, C.ts _ lk_X8_draws_im_X3_areNeighbours, C.ts _ lk_X8_draws_se_X3_areNeighbours⟩ (k_preV C hX (hM.at 1 rfl) rfl) rfl rfl hl.1 rfl (lv_room (Nat.le_of_ble_eq_true rfl)) dX8_draws_45 ⟨Nat.le_of_ble_eq_true rfl, Nat.le_of_ble_eq_true rfl⟩) hX (fun r45 f45 H locs hp45 hX => ?_)
                obtain ⟨hr45, hf45⟩ := hp45
                rw [hf45] at hX
                refine k_topi (y := (kbI (nAdj aT cc (nI v) (nI u)))) hr45 ?_
                have J56 : ∀ (ls : Array Slot), lv_has ls 4 [(2, .int (nI v)), (1, .int (nI u)), (0, .ref h)] → ∀ (H : Heap) (locs : List Loc), kX G B0 s f H locs → W p l e (rmX8_draws) s m args below meth c H locs 0 0 Q (F0 m 56 ls [.int (if nAdj aT cc (nI v) (nI u) then nI 1 else nI 0)]) := by
                  intro ls hl H locs hX
                  refine lv_istore_n (lv' := [(3, .int (if nAdj aT cc (nI v) (nI u) then nI 1 else nI 0)), (2, .int (nI v)), (1, .int (nI u)), (0, .ref h)]) C.x C.b dX8_draws_56 rfl hl (by decide) rfl (fun ls hl => ?_)
                  refine lv_aload_n C.x C.b dX8_draws_57 rfl (lv_at hl 3 rfl) ?_
                  refine lv_iload_n C.x C.b dX8_draws_58 rfl (lv_at hl 1 rfl) ?_
                  refine lv_iload_n C.x C.b dX8_draws_59 rfl (lv_at hl 2 rfl) ?_
                  have hM9 : kCs f ([(h, .inr (8, [.ref sp, .ref dl, vg, vw, vm, vp, vn]))]) := hM.pick [0] (by decide) ⟨rfl, trivial⟩
                  refine k_calli (va_runV (As := [.int (nI v), .int (nI u)]) (rest := []) C.1 (kX8_howDisksLie l G B0 f h dl sz (.ref sp) vg vw vm vp vn w dx dy dr v u hM9 hdl hsz (by omega) (by omega) (by omega)) (cwV 2 C.ts gX8_draws_X8_howDisksLie rfl rfl rfl ⟨rfl, hdX8_draws_X8_howDisksLie⟩ ⟨Nat.le_of_ble_eq_true rfl, Nat.le_of_ble_eq_true rfl⟩) (k_preV C hX (hM.at 0 rfl) rfl) rfl rfl hl.1 rfl (lv_room (Nat.le_of_ble_eq_true rfl)) dX8_draws_60 ⟨Nat.le_of_ble_eq_true rfl, Nat.le_of_ble_eq_true rfl⟩) hX (fun r60 f60 H locs hp60 hX => ?_)
                  obtain ⟨hr60, hf60⟩ := hp60
                  rw [hf60] at hX
                  refine k_topi (y := (dsL dx dy dr v u)) hr60 ?_
                  refine lv_iload_n C.x C.b dX8_draws_63 rfl (lv_at hl 0 rfl) ?_
                  refine lv_icmp_eq (tgt := 69) C.x C.b dX8_draws_64 (by decide) (fun c_64 => ?_) (fun c_64 => ?_)
                  · skip
                    refine lv_iinc (v := (nI (v + 1))) (lv' := [(2, .int (nI (v + 1))), (3, .int (if nAdj aT cc (nI v) (nI u) then nI 1 else nI 0)), (1, .int (nI u)), (0, .ref h)]) C.x C.b dX8_draws_69 hl (k := 1) rfl (nI_1 _) (by decide) rfl (fun ls hl => ?_)
                    refine lv_goto (tgt := 34) C.x C.b dX8_draws_72 (by decide) ?_
                    exact ih34 (v + 1) (by omega) (fun v9 hv9 => by
            rcases Nat.lt_or_ge v9 v with q9 | q9
            · exact hq v9 q9
            · obtain rfl : v9 = v := (by omega)
              exact c_64) (by omega) ls (lv_sub hl [0, 2, 3] rfl) _ _ hX
                  · skip
                    refine lv_iconst (v := nI 0) C.x C.b dX8_draws_67 (by decide) ?_
                    exact k_zret C hX hr hlocks hQ (by omega) (by omega) (by first | exact kbI_01 _ | exact Or.inl rfl | exact Or.inr rfl) (⟨kbI_fN (fun h9 => c_64 (h9.2 u (by omega) v (by omega))), rfl⟩) dX8_draws_68
                refine lv_if_eq (tgt := 55) C.x C.b dX8_draws_48 (by decide) (fun c_48 => ?_) (fun c_48 => ?_)
                · skip
                  have c_48 := kbI_0 c_48
                  refine lv_iconst (v := nI 0) C.x C.b dX8_draws_55 (by decide) ?_
                  refine k_topi (y := (if nAdj aT cc (nI v) (nI u) then nI 1 else nI 0)) (by first | rw [if_pos c_48] | rw [if_neg c_48]) ?_
                  exact J56 ls (lv_sub hl [0, 1, 2] rfl) _ _ hX
                · skip
                  have c_48 := kbI_1 c_48
                  refine lv_iconst (v := nI 1) C.x C.b dX8_draws_51 (by decide) ?_
                  refine lv_goto (tgt := 56) C.x C.b dX8_draws_52 (by decide) ?_
                  refine k_topi (y := (if nAdj aT cc (nI v) (nI u) then nI 1 else nI 0)) (by first | rw [if_pos c_48] | rw [if_neg c_48]) ?_
                  exact J56 ls (lv_sub hl [0, 1, 2] rfl) _ _ hX
          exact LOOP34 _ 0 (by omega) (fun v9 hv9 => absurd hv9 (Nat.not_lt_zero _)) (Nat.lt_succ_self _) ls (lv_sub hl [0, 1, 2] rfl) _ _ hX
    exact LOOP21 _ 1 (by omega) (by omega) (fun u9 hu9 v9 hv9 => absurd hv9 (by omega)) (Nat.lt_succ_self _) ls (lv_sub hl [0, 1] rfl) _ _ hX
  · skip
    have c_14 : ¬ (sz = cc) := fun h9 => c_14 ((nI_eq (by omega) (by omega)).mpr h9)
    refine lv_iconst (v := nI 0) C.x C.b dX8_draws_17 (by decide) ?_
    exact k_zret C hX hr hlocks hQ (by omega) (by omega) (by first | exact kbI_01 _ | exact Or.inl rfl | exact Or.inr rfl) (⟨kbI_fN (fun h9 => c_14 h9.1), rfl⟩) dX8_draws_18

theorem hdX8_radius_X8_fourOf : yX8_fourOf.cls ≠ "java/lang/invoke/MethodHandle" ∧ yX8_fourOf.cls ≠ "java/lang/invoke/VarHandle" ∧ (parseMethodDescriptor yX8_fourOf.desc).map (fun d => d.parameters.length) = some 2 := by decide +kernel
abbrev rmX8_radius : Room := { frames := 5, cells := 0, slots := 0, locals := 108 }
set_option maxHeartbeats 4000000 in
set_option maxRecDepth 100000 in
/-- X8_radius -/
theorem kX8_radius (l : Launch) (G : kG) (B0 : Nat) (f : kH) (h dl sz : Nat) (vs vd vw vm vp vn : Value) (w g1 g2 g3 : Nat → Nat) (fo le wa : Nat → Nat → Int64) (i pl : Nat) (hM : kCs f [(h, .inr (8, [vs, vd, .ref dl, vw, vm, vp, vn]))]) (hdl : kLs G f dl sz w (gkE g1 g2 g3)) (har : gkA G f sz g1 g2 g3 fo le wa) (hsz : sz ≤ 8) (hi : i < sz) (hpl : pl < 4) : Met l yX8_radius wsX8_radius (rmX8_radius) (kP G B0 f [.ref h, .int (nI i), .int (nI pl)]) (kQf G B0 (fun r f1 => r = kRad (fo i pl) ∧ f1 = f)) 0 0 (kAb B0) := by
  refine kMet (cc := cX8_radius) (maxL := 3) (ret := (some .float)) (by decide) rfl (Nat.le_of_ble_eq_true rfl) ?_
  intro p e s m args below meth c H locs Q ls C hX hl hr hlocks hnm hQ
  have hl : lv_has ls 3 [(0, .ref h), (1, .int (nI i)), (2, .int (nI pl))] := hl
  refine lv_fconst1 C.x C.b dX8_radius_0 ?_
  refine lv_aload_n C.x C.b dX8_radius_1 rfl (lv_at hl 0 rfl) ?_
  refine lv_iload_n C.x C.b dX8_radius_2 rfl (lv_at hl 1 rfl) ?_
  refine lv_iload_n C.x C.b dX8_radius_3 rfl (lv_at hl 2 rfl) ?_
  refine k_callq (va_runV (As := [.int (nI i), .int (nI pl)]) (rest := [.float FP.fconst1]) C.1 (kX8_fourOf l G B0 f h dl sz vs vd vw vm vp vn w g1 g2 g3 fo le wa i pl hM hdl har hsz hi hpl) (cwV 2 C.ts gX8_radius_X8_fourOf rfl rfl rfl ⟨rfl, hdX8_radius_X8_fourOf⟩ ⟨Nat.le_of_ble_eq_true rfl, Nat.le_of_ble_eq_true rfl⟩) (k_preV C hX (hM.at 0 rfl) rfl) rfl rfl hl.1 rfl (lv_room (Nat.le_of_ble_eq_true rfl)) dX8_radius_4 ⟨Nat.le_of_ble_eq_true rfl, Nat.le_of_ble_eq_true rfl⟩) hX (fun r4 f4 H locs hp4 hX => ?_)
  obtain ⟨hr4, hf4⟩ := hp4
  rw [hf4] at hX
  refine k_topq (v := g1 i) hr4 ?_
  refine lv_iload_n C.x C.b dX8_radius_7 rfl (lv_at hl 2 rfl) ?_
  refine k_lald C hX ((har _ (by omega)).1) (vp_in_nI (by omega) (by omega)) dX8_radius_8 ?_
  refine k_topl (y := (fo i) pl) (by rw [nI_clamp (by omega)]) ?_
  refine lv_l2f C.x C.b dX8_radius_9 ?_
  refine lv_fdiv C.x C.b dX8_radius_10 (kRad_n _) ?_
  exact k_fret C hX hr hlocks hQ (by omega) (by omega) (⟨rfl, rfl⟩) dX8_radius_11

theorem lk_X8_word_f41 : Cond.fieldLink RX8 41 "Koebehall" "product" "LKoebehall$Table;" ∈ wsX8_word := by decide +kernel
theorem hin_X8_word_RX8 : ∀ w ∈ u_ws RX8 TX8 7, w ∈ wsX8_word := by decide +kernel
theorem hin_X8_word_RX6 : ∀ w ∈ u_ws RX6 TX6 4, w ∈ wsX8_word := by decide +kernel
abbrev rmX8_word_0 : Room := { frames := 0, cells := 0, slots := 0, locals := 0 }
set_option maxHeartbeats 4000000 in
set_option maxRecDepth 100000 in
/-- X8_word_0 -/
theorem kX8_word_0 (l : Launch) (G : kG) (B0 : Nat) (f : kH) (h pp : Nat) (vs vd vg vw vm vn : Value) (a1 b1 c1 d1 : Int64) (hM : kCs f [(h, .inr (8, [vs, vd, vg, vw, vm, .ref pp, vn])), (pp, .inr (6, [.long a1, .long b1, .long c1, .long d1]))]) : Met l yX8_word wsX8_word (rmX8_word_0) (kP G B0 f [.ref h, .int (nI 0)]) (kQi G B0 (fun r f1 => r = a1.toInt32 ∧ f1 = f)) 0 0 (kAb B0) := by
  refine kMet (cc := cX8_word) (maxL := 2) (ret := (some .int)) (by decide) rfl (Nat.le_of_ble_eq_true rfl) ?_
  intro p e s m args below meth c H locs Q ls C hX hl hr hlocks hnm hQ
  have hl : lv_has ls 2 [(0, .ref h), (1, .int (nI 0))] := hl
  refine lv_iload_n C.x C.b dX8_word_0 rfl (lv_at hl 1 rfl) ?_
  refine lv_tableIn (off := 35) (tgt := 36) C.x C.b dX8_word_1 (by decide) (by decide) (by decide) (by decide) ?_
  refine lv_aload_n C.x C.b dX8_word_36 rfl (lv_at hl 0 rfl) ?_
  refine k_get (X := RX8) (T := TX8) (N := 7) (v := .ref pp) C hX (hM.at 0 rfl) rfl hin_X8_word_RX8 5 (by decide) lk_X8_word_f41 (fun _ h9 => h9) rfl dX8_word_37 ?_
  refine k_getN (host := "Koebehall") (X := RX6) (T := TX6) (N := 4) (v := .long a1) C hX (hM.at 1 rfl) rfl hin_X8_word_RX6 0 (by decide) (by decide +kernel) (fun _ h9 => h9) rfl dX8_word_40 ?_
  refine lv_l2i (v := a1.toInt32) C.x C.b dX8_word_43 rfl ?_
  exact k_iret C hX hr hlocks hQ (by omega) (by omega) (⟨rfl, rfl⟩) dX8_word_44

abbrev rmX8_word_1 : Room := { frames := 0, cells := 0, slots := 0, locals := 0 }
set_option maxHeartbeats 4000000 in
set_option maxRecDepth 100000 in
/-- X8_word_1 -/
theorem kX8_word_1 (l : Launch) (G : kG) (B0 : Nat) (f : kH) (h pp : Nat) (vs vd vg vw vm vn : Value) (a1 b1 c1 d1 : Int64) (hM : kCs f [(h, .inr (8, [vs, vd, vg, vw, vm, .ref pp, vn])), (pp, .inr (6, [.long a1, .long b1, .long c1, .long d1]))]) : Met l yX8_word wsX8_word (rmX8_word_1) (kP G B0 f [.ref h, .int (nI 1)]) (kQi G B0 (fun r f1 => r = b1.toInt32 ∧ f1 = f)) 0 0 (kAb B0) := by
  refine kMet (cc := cX8_word) (maxL := 2) (ret := (some .int)) (by decide) rfl (Nat.le_of_ble_eq_true rfl) ?_
  intro p e s m args below meth c H locs Q ls C hX hl hr hlocks hnm hQ
  have hl : lv_has ls 2 [(0, .ref h), (1, .int (nI 1))] := hl
  refine lv_iload_n C.x C.b dX8_word_0 rfl (lv_at hl 1 rfl) ?_
  refine lv_tableIn (off := 44) (tgt := 45) C.x C.b dX8_word_1 (by decide) (by decide) (by decide) (by decide) ?_
  refine lv_aload_n C.x C.b dX8_word_45 rfl (lv_at hl 0 rfl) ?_
  refine k_get (X := RX8) (T := TX8) (N := 7) (v := .ref pp) C hX (hM.at 0 rfl) rfl hin_X8_word_RX8 5 (by decide) lk_X8_word_f41 (fun _ h9 => h9) rfl dX8_word_46 ?_
  refine k_getN (host := "Koebehall") (X := RX6) (T := TX6) (N := 4) (v := .long b1) C hX (hM.at 1 rfl) rfl hin_X8_word_RX6 1 (by decide) (by decide +kernel) (fun _ h9 => h9) rfl dX8_word_49 ?_
  refine lv_l2i (v := b1.toInt32) C.x C.b dX8_word_52 rfl ?_
  exact k_iret C hX hr hlocks hQ (by omega) (by omega) (⟨rfl, rfl⟩) dX8_word_53

abbrev rmX8_word_2 : Room := { frames := 0, cells := 0, slots := 0, locals := 0 }
set_option maxHeartbeats 4000000 in
set_option maxRecDepth 100000 in
/-- X8_word_2 -/
theorem kX8_word_2 (l : Launch) (G : kG) (B0 : Nat) (f : kH) (h pp : Nat) (vs vd vg vw vm vn : Value) (a1 b1 c1 d1 : Int64) (hM : kCs f [(h, .inr (8, [vs, vd, vg, vw, vm, .ref pp, vn])), (pp, .inr (6, [.long a1, .long b1, .long c1, .long d1]))]) : Met l yX8_word wsX8_word (rmX8_word_2) (kP G B0 f [.ref h, .int (nI 2)]) (kQi G B0 (fun r f1 => r = c1.toInt32 ∧ f1 = f)) 0 0 (kAb B0) := by
  refine kMet (cc := cX8_word) (maxL := 2) (ret := (some .int)) (by decide) rfl (Nat.le_of_ble_eq_true rfl) ?_
  intro p e s m args below meth c H locs Q ls C hX hl hr hlocks hnm hQ
  have hl : lv_has ls 2 [(0, .ref h), (1, .int (nI 2))] := hl
  refine lv_iload_n C.x C.b dX8_word_0 rfl (lv_at hl 1 rfl) ?_
  refine lv_tableIn (off := 53) (tgt := 54) C.x C.b dX8_word_1 (by decide) (by decide) (by decide) (by decide) ?_
  refine lv_aload_n C.x C.b dX8_word_54 rfl (lv_at hl 0 rfl) ?_
  refine k_get (X := RX8) (T := TX8) (N := 7) (v := .ref pp) C hX (hM.at 0 rfl) rfl hin_X8_word_RX8 5 (by decide) lk_X8_word_f41 (fun _ h9 => h9) rfl dX8_word_55 ?_
  refine k_getN (host := "Koebehall") (X := RX6) (T := TX6) (N := 4) (v := .long c1) C hX (hM.at 1 rfl) rfl hin_X8_word_RX6 2 (by decide) (by decide +kernel) (fun _ h9 => h9) rfl dX8_word_58 ?_
  refine lv_l2i (v := c1.toInt32) C.x C.b dX8_word_61 rfl ?_
  exact k_iret C hX hr hlocks hQ (by omega) (by omega) (⟨rfl, rfl⟩) dX8_word_62

abbrev rmX8_word_3 : Room := { frames := 0, cells := 0, slots := 0, locals := 0 }
set_option maxHeartbeats 4000000 in
set_option maxRecDepth 100000 in
/-- X8_word_3 -/
theorem kX8_word_3 (l : Launch) (G : kG) (B0 : Nat) (f : kH) (h pp : Nat) (vs vd vg vw vm vn : Value) (a1 b1 c1 d1 : Int64) (hM : kCs f [(h, .inr (8, [vs, vd, vg, vw, vm, .ref pp, vn])), (pp, .inr (6, [.long a1, .long b1, .long c1, .long d1]))]) : Met l yX8_word wsX8_word (rmX8_word_3) (kP G B0 f [.ref h, .int (nI 3)]) (kQi G B0 (fun r f1 => r = d1.toInt32 ∧ f1 = f)) 0 0 (kAb B0) := by
  refine kMet (cc := cX8_word) (maxL := 2) (ret := (some .int)) (by decide) rfl (Nat.le_of_ble_eq_true rfl) ?_
  intro p e s m args below meth c H locs Q ls C hX hl hr hlocks hnm hQ
  have hl : lv_has ls 2 [(0, .ref h), (1, .int (nI 3))] := hl
  refine lv_iload_n C.x C.b dX8_word_0 rfl (lv_at hl 1 rfl) ?_
  refine lv_tableIn (off := 62) (tgt := 63) C.x C.b dX8_word_1 (by decide) (by decide) (by decide) (by decide) ?_
  refine lv_aload_n C.x C.b dX8_word_63 rfl (lv_at hl 0 rfl) ?_
  refine k_get (X := RX8) (T := TX8) (N := 7) (v := .ref pp) C hX (hM.at 0 rfl) rfl hin_X8_word_RX8 5 (by decide) lk_X8_word_f41 (fun _ h9 => h9) rfl dX8_word_64 ?_
  refine k_getN (host := "Koebehall") (X := RX6) (T := TX6) (N := 4) (v := .long d1) C hX (hM.at 1 rfl) rfl hin_X8_word_RX6 3 (by decide) (by decide +kernel) (fun _ h9 => h9) rfl dX8_word_67 ?_
  refine lv_l2i (v := d1.toInt32) C.x C.b dX8_word_70 rfl ?_
  exact k_iret C hX hr hlocks hQ (by omega) (by omega) (⟨rfl, rfl⟩) dX8_word_71

theorem hdX8_word_X6_kind : yX6_kind.cls ≠ "java/lang/invoke/MethodHandle" ∧ yX6_kind.cls ≠ "java/lang/invoke/VarHandle" ∧ (parseMethodDescriptor yX6_kind.desc).map (fun d => d.parameters.length) = some 0 := by decide +kernel
theorem lk_X8_word_in_RX6 : Cond.initialized RX6 ∈ wsX8_word := by decide +kernel
theorem lk_X8_word_im_X6_kind : Cond.instanceMethod yX6_kind ∈ wsX8_word := by decide +kernel
theorem lk_X8_word_se_X6_kind : Cond.selects RX6 yX6_kind yX6_kind ∈ wsX8_word := by decide +kernel
abbrev rmX8_word_4 : Room := { frames := 2, cells := 0, slots := 0, locals := 42 }
set_option maxHeartbeats 4000000 in
set_option maxRecDepth 100000 in
/-- X8_word_4 -/
theorem kX8_word_4 (l : Launch) (G : kG) (B0 : Nat) (f : kH) (h pp : Nat) (vs vd vg vw vm vn : Value) (a1 b1 c1 d1 : Int64) (hM : kCs f [(h, .inr (8, [vs, vd, vg, vw, vm, .ref pp, vn])), (pp, .inr (6, [.long a1, .long b1, .long c1, .long d1]))]) : Met l yX8_word wsX8_word (rmX8_word_4) (kP G B0 f [.ref h, .int (nI 4)]) (kQi G B0 (fun r f1 => r = cKind a1 b1 c1 d1 ∧ f1 = f)) 0 0 (kAb B0) := by
  refine kMet (cc := cX8_word) (maxL := 2) (ret := (some .int)) (by decide) rfl (Nat.le_of_ble_eq_true rfl) ?_
  intro p e s m args below meth c H locs Q ls C hX hl hr hlocks hnm hQ
  have hl : lv_has ls 2 [(0, .ref h), (1, .int (nI 4))] := hl
  refine lv_iload_n C.x C.b dX8_word_0 rfl (lv_at hl 1 rfl) ?_
  refine lv_tableIn (off := 71) (tgt := 72) C.x C.b dX8_word_1 (by decide) (by decide) (by decide) (by decide) ?_
  refine lv_aload_n C.x C.b dX8_word_72 rfl (lv_at hl 0 rfl) ?_
  refine k_get (X := RX8) (T := TX8) (N := 7) (v := .ref pp) C hX (hM.at 0 rfl) rfl hin_X8_word_RX8 5 (by decide) lk_X8_word_f41 (fun _ h9 => h9) rfl dX8_word_73 ?_
  have hM9 : kCs f ([(pp, .inr (6, [.long a1, .long b1, .long c1, .long d1]))]) := hM.pick [1] (by decide) ⟨rfl, trivial⟩
  refine k_calli (va_runVN (As := []) (rest := []) C.1 (kX6_kind l G B0 f pp a1 b1 c1 d1 hM9) ⟨va_cnB 0 C.ts gX8_word_X6_kind_n303 rfl rfl rfl (C.2.1.2.2.1 _ (show ((RX8, 303, yX6_kind, "Koebehall") : String × Nat × MethodName × String) ∈ kNestM by decide +kernel)) (C.ts _ lk_X8_word_in_RX6) hdX8_word_X6_kind ⟨Nat.le_of_ble_eq_true rfl, Nat.le_of_ble_eq_true rfl⟩, C.ts _ lk_X8_word_im_X6_kind, C.ts _ lk_X8_word_se_X6_kind⟩ (k_preV C hX (hM.at 1 rfl) rfl) rfl rfl hl.1 rfl (lv_room (Nat.le_of_ble_eq_true rfl)) dX8_word_76 ⟨Nat.le_of_ble_eq_true rfl, Nat.le_of_ble_eq_true rfl⟩) hX (fun r76 f76 H locs hp76 hX => ?_)
  obtain ⟨hr76, hf76⟩ := hp76
  rw [hf76] at hX
  refine k_topi (y := (cKind a1 b1 c1 d1)) hr76 ?_
  exact k_iret C hX hr hlocks hQ (by omega) (by omega) (⟨rfl, rfl⟩) dX8_word_79

theorem lk_X8_image_c170 : Cond.constantLong RX8 170 (1000000000) ∈ wsX8_image := by decide +kernel
theorem hdX8_image_X8_isWithin : yX8_isWithin.cls ≠ "java/lang/invoke/MethodHandle" ∧ yX8_isWithin.cls ≠ "java/lang/invoke/VarHandle" ∧ (parseMethodDescriptor yX8_isWithin.desc).map (fun d => d.parameters.length) = some 2 := by decide +kernel
theorem lk_X8_image_c176 : Cond.constant RX8 176 (1000000000) ∈ wsX8_image := by decide +kernel
theorem hdX8_image_X1_isLowest : yX1_isLowest.cls ≠ "java/lang/invoke/MethodHandle" ∧ yX1_isLowest.cls ≠ "java/lang/invoke/VarHandle" ∧ (parseMethodDescriptor yX1_isLowest.desc).map (fun d => d.parameters.length) = some 2 := by decide +kernel
theorem lk_X8_image_in_RX1 : Cond.initialized RX1 ∈ wsX8_image := by decide +kernel
theorem lk_X8_image_st_X1_isLowest : Cond.static yX1_isLowest ∈ wsX8_image := by decide +kernel
theorem lk_X8_image_f41 : Cond.fieldLink RX8 41 "Koebehall" "product" "LKoebehall$Table;" ∈ wsX8_image := by decide +kernel
theorem hin_X8_image_RX8 : ∀ w ∈ u_ws RX8 TX8 7, w ∈ wsX8_image := by decide +kernel
theorem hin_X8_image_RX6 : ∀ w ∈ u_ws RX6 TX6 4, w ∈ wsX8_image := by decide +kernel
abbrev rmX8_image : Room := { frames := 2, cells := 0, slots := 0, locals := 43 }
set_option maxHeartbeats 4000000 in
set_option maxRecDepth 100000 in
/-- X8_image -/
theorem kX8_image (l : Launch) (G : kG) (B0 : Nat) (f : kH) (h pp : Nat) (vs vd vg vw vm vn : Value) (a1 b1 c1 d1 : Int64) (x1 x2 z9 : Int32) (hM : kCs f [(h, .inr (8, [vs, vd, vg, vw, vm, .ref pp, vn])), (pp, .inr (6, [.long a1, .long b1, .long c1, .long d1]))]) (hv1 : cIn x1.toInt64 1000000000) (hv2 : ¬ x2 < 0) (hv3 : x2 ≤ nI 1000000000) (hv4 : cEu 1000 (jAbs x1.toInt64) x2.toInt64 = 1) (hv5 : ¬ x2 = 0 ∨ x1 = nI 1) : Met l yX8_image wsX8_image (rmX8_image) (kP G B0 f [.ref h, .int x1, .int x2, .int z9]) (kQl G B0 (fun r f1 => r = cIm a1 b1 c1 d1 x1 x2 z9 ∧ f1 = f)) 0 0 (kAb B0) := by
  refine kMet (cc := cX8_image) (maxL := 11) (ret := (some .long)) (by decide) rfl (Nat.le_of_ble_eq_true rfl) ?_
  intro p e s m args below meth c H locs Q ls C hX hl hr hlocks hnm hQ
  have hl : lv_has ls 11 [(0, .ref h), (1, .int x1), (2, .int x2), (3, .int z9)] := hl
  refine lv_iload_n C.x C.b dX8_image_0 rfl (lv_at hl 1 rfl) ?_
  refine lv_i2l (v := x1.toInt64) C.x C.b dX8_image_1 rfl ?_
  refine lv_ldc2 (v := 1000000000) C.x C.b C.ow (C.ts _ lk_X8_image_c170) dX8_image_2 ?_
  refine k_calli (va_runS (As := [.long x1.toInt64, .long 1000000000]) (rest := []) C.1 (kX8_isWithin l G B0 f x1.toInt64 1000000000) (va_cwS 2 C.ts gX8_image_X8_isWithin rfl rfl rfl (hdX8_image_X8_isWithin) ⟨Nat.le_of_ble_eq_true rfl, Nat.le_of_ble_eq_true rfl⟩) (k_preS C hX) rfl rfl hl.1 rfl (lv_room (Nat.le_of_ble_eq_true rfl)) dX8_image_5 ⟨Nat.le_of_ble_eq_true rfl, Nat.le_of_ble_eq_true rfl⟩) hX (fun r5 f5 H locs hp5 hX => ?_)
  obtain ⟨hr5, hf5⟩ := hp5
  rw [hf5] at hX
  refine k_topi (y := (kbI (cIn x1.toInt64 1000000000))) hr5 ?_
  refine lv_if_eq (tgt := 21) C.x C.b dX8_image_8 (by decide) (fun c_8 => ?_) (fun c_8 => ?_)
  · exact absurd (hv1) (kbI_0 c_8)
  refine lv_iload_n C.x C.b dX8_image_11 rfl (lv_at hl 2 rfl) ?_
  refine lv_if_lt (tgt := 21) C.x C.b dX8_image_12 (by decide) (fun c_12 => ?_) (fun c_12 => ?_)
  · skip
    exact absurd c_12 hv2
  · skip
    refine lv_iload_n C.x C.b dX8_image_15 rfl (lv_at hl 2 rfl) ?_
    refine lv_ldc (v := nI 1000000000) C.x C.b C.ow (C.ts _ lk_X8_image_c176) dX8_image_16 ?_
    refine lv_icmp_le (tgt := 31) C.x C.b dX8_image_18 (by decide) (fun c_18 => ?_) (fun c_18 => ?_)
    rotate_left
    · skip
      exact absurd hv3 c_18
    refine lv_iload_n C.x C.b dX8_image_31 rfl (lv_at hl 1 rfl) ?_
    refine lv_i2l (v := x1.toInt64) C.x C.b dX8_image_32 rfl ?_
    refine lv_iload_n C.x C.b dX8_image_33 rfl (lv_at hl 2 rfl) ?_
    refine lv_i2l (v := x2.toInt64) C.x C.b dX8_image_34 rfl ?_
    refine k_calli (va_runSN (As := [.long x1.toInt64, .long x2.toInt64]) (rest := []) C.1 (kX1_isLowest l G B0 f x1.toInt64 x2.toInt64) ⟨va_cnB 2 C.ts gX8_image_X1_isLowest_n262 rfl rfl rfl (C.2.1.2.2.1 _ (show ((RX8, 262, yX1_isLowest, "Koebehall") : String × Nat × MethodName × String) ∈ kNestM by decide +kernel)) (C.ts _ lk_X8_image_in_RX1) hdX8_image_X1_isLowest ⟨Nat.le_of_ble_eq_true rfl, Nat.le_of_ble_eq_true rfl⟩, C.ts _ lk_X8_image_st_X1_isLowest, trivial⟩ (k_preS C hX) rfl rfl hl.1 rfl (lv_room (Nat.le_of_ble_eq_true rfl)) dX8_image_35 ⟨Nat.le_of_ble_eq_true rfl, Nat.le_of_ble_eq_true rfl⟩) hX (fun r35 f35 H locs hp35 hX => ?_)
    obtain ⟨hr35, hf35⟩ := hp35
    rw [hf35] at hX
    refine k_topi (y := (kbI (cEu 1000 (jAbs x1.toInt64) x2.toInt64 = 1))) hr35 ?_
    refine lv_if_eq (tgt := 50) C.x C.b dX8_image_38 (by decide) (fun c_38 => ?_) (fun c_38 => ?_)
    · exact absurd (hv4) (kbI_0 c_38)
    refine lv_iload_n C.x C.b dX8_image_41 rfl (lv_at hl 2 rfl) ?_
    have J61 : ∀ (ls : Array Slot), lv_has ls 11 [(0, .ref h), (1, .int x1), (2, .int x2), (3, .int z9)] → ∀ (H : Heap) (locs : List Loc), kX G B0 s f H locs → W p l e (rmX8_image) s m args below meth c H locs 0 0 Q (F0 m 61 ls []) := by
      intro ls hl H locs hX
      refine lv_aload_n C.x C.b dX8_image_61 rfl (lv_at hl 0 rfl) ?_
      refine k_get (X := RX8) (T := TX8) (N := 7) (v := .ref pp) C hX (hM.at 0 rfl) rfl hin_X8_image_RX8 5 (by decide) lk_X8_image_f41 (fun _ h9 => h9) rfl dX8_image_62 ?_
      refine k_getN (host := "Koebehall") (X := RX6) (T := TX6) (N := 4) (v := .long a1) C hX (hM.at 1 rfl) rfl hin_X8_image_RX6 0 (by decide) (by decide +kernel) (fun _ h9 => h9) rfl dX8_image_65 ?_
      refine lv_iload_n C.x C.b dX8_image_68 rfl (lv_at hl 1 rfl) ?_
      refine lv_i2l (v := x1.toInt64) C.x C.b dX8_image_69 rfl ?_
      refine lv_lmul C.x C.b dX8_image_70 ?_
      refine lv_aload_n C.x C.b dX8_image_71 rfl (lv_at hl 0 rfl) ?_
      refine k_get (X := RX8) (T := TX8) (N := 7) (v := .ref pp) C hX (hM.at 0 rfl) rfl hin_X8_image_RX8 5 (by decide) lk_X8_image_f41 (fun _ h9 => h9) rfl dX8_image_72 ?_
      refine k_getN (host := "Koebehall") (X := RX6) (T := TX6) (N := 4) (v := .long b1) C hX (hM.at 1 rfl) rfl hin_X8_image_RX6 1 (by decide) (by decide +kernel) (fun _ h9 => h9) rfl dX8_image_75 ?_
      refine lv_iload_n C.x C.b dX8_image_78 rfl (lv_at hl 2 rfl) ?_
      refine lv_i2l (v := x2.toInt64) C.x C.b dX8_image_79 rfl ?_
      refine lv_lmul C.x C.b dX8_image_80 ?_
      refine lv_ladd C.x C.b dX8_image_81 ?_
      refine lv_lstore (lv' := [(4, .long ((a1 * x1.toInt64) + (b1 * x2.toInt64))), (0, .ref h), (1, .int x1), (2, .int x2), (3, .int z9)]) C.x C.b dX8_image_82 hl (by decide) rfl (fun ls hl => ?_)
      refine lv_aload_n C.x C.b dX8_image_84 rfl (lv_at hl 1 rfl) ?_
      refine k_get (X := RX8) (T := TX8) (N := 7) (v := .ref pp) C hX (hM.at 0 rfl) rfl hin_X8_image_RX8 5 (by decide) lk_X8_image_f41 (fun _ h9 => h9) rfl dX8_image_85 ?_
      refine k_getN (host := "Koebehall") (X := RX6) (T := TX6) (N := 4) (v := .long c1) C hX (hM.at 1 rfl) rfl hin_X8_image_RX6 2 (by decide) (by decide +kernel) (fun _ h9 => h9) rfl dX8_image_88 ?_
      refine lv_iload_n C.x C.b dX8_image_91 rfl (lv_at hl 2 rfl) ?_
      refine lv_i2l (v := x1.toInt64) C.x C.b dX8_image_92 rfl ?_
      refine lv_lmul C.x C.b dX8_image_93 ?_
      refine lv_aload_n C.x C.b dX8_image_94 rfl (lv_at hl 1 rfl) ?_
      refine k_get (X := RX8) (T := TX8) (N := 7) (v := .ref pp) C hX (hM.at 0 rfl) rfl hin_X8_image_RX8 5 (by decide) lk_X8_image_f41 (fun _ h9 => h9) rfl dX8_image_95 ?_
      refine k_getN (host := "Koebehall") (X := RX6) (T := TX6) (N := 4) (v := .long d1) C hX (hM.at 1 rfl) rfl hin_X8_image_RX6 3 (by decide) (by decide +kernel) (fun _ h9 => h9) rfl dX8_image_98 ?_
      refine lv_iload_n C.x C.b dX8_image_101 rfl (lv_at hl 3 rfl) ?_
      refine lv_i2l (v := x2.toInt64) C.x C.b dX8_image_102 rfl ?_
      refine lv_lmul C.x C.b dX8_image_103 ?_
      refine lv_ladd C.x C.b dX8_image_104 ?_
      refine lv_lstore (lv' := [(6, .long ((c1 * x1.toInt64) + (d1 * x2.toInt64))), (4, .long ((a1 * x1.toInt64) + (b1 * x2.toInt64))), (0, .ref h), (1, .int x1), (2, .int x2), (3, .int z9)]) C.x C.b dX8_image_105 hl (by decide) rfl (fun ls hl => ?_)
      have J133 : ∀ (ls : Array Slot), lv_has ls 11 [(6, .long ((c1 * x1.toInt64) + (d1 * x2.toInt64))), (4, .long ((a1 * x1.toInt64) + (b1 * x2.toInt64))), (0, .ref h), (1, .int x1), (2, .int x2), (3, .int z9)] → ∀ (H : Heap) (locs : List Loc), kX G B0 s f H locs → W p l e (rmX8_image) s m args below meth c H locs 0 0 Q (F0 m 133 ls [.int (kbI (cTrn a1 b1 c1 d1 x1 x2))]) := by
        intro ls hl H locs hX
        refine lv_istore (lv' := [(8, .int (kbI (cTrn a1 b1 c1 d1 x1 x2))), (6, .long ((c1 * x1.toInt64) + (d1 * x2.toInt64))), (4, .long ((a1 * x1.toInt64) + (b1 * x2.toInt64))), (0, .ref h), (1, .int x1), (2, .int x2), (3, .int z9)]) C.x C.b dX8_image_133 hl (by decide) rfl (fun ls hl => ?_)
        have J146 : ∀ (ls : Array Slot), lv_has ls 11 [(8, .int (kbI (cTrn a1 b1 c1 d1 x1 x2))), (6, .long ((c1 * x1.toInt64) + (d1 * x2.toInt64))), (4, .long ((a1 * x1.toInt64) + (b1 * x2.toInt64))), (0, .ref h), (1, .int x1), (2, .int x2), (3, .int z9)] → ∀ (H : Heap) (locs : List Loc), kX G B0 s f H locs → W p l e (rmX8_image) s m args below meth c H locs 0 0 Q (F0 m 146 ls [.long (if z9 = 0 then cTop c1 d1 x1 x2 else cTop a1 b1 x1 x2)]) := by
          intro ls hl H locs hX
          refine lv_lstore (lv' := [(9, .long (if z9 = 0 then cTop c1 d1 x1 x2 else cTop a1 b1 x1 x2)), (8, .int (kbI (cTrn a1 b1 c1 d1 x1 x2))), (6, .long ((c1 * x1.toInt64) + (d1 * x2.toInt64))), (4, .long ((a1 * x1.toInt64) + (b1 * x2.toInt64))), (0, .ref h), (1, .int x1), (2, .int x2), (3, .int z9)]) C.x C.b dX8_image_146 hl (by decide) rfl (fun ls hl => ?_)
          have J161 : ∀ (ls : Array Slot), lv_has ls 11 [(9, .long (if z9 = 0 then cTop c1 d1 x1 x2 else cTop a1 b1 x1 x2)), (8, .int (kbI (cTrn a1 b1 c1 d1 x1 x2))), (6, .long ((c1 * x1.toInt64) + (d1 * x2.toInt64))), (4, .long ((a1 * x1.toInt64) + (b1 * x2.toInt64))), (0, .ref h), (1, .int x1), (2, .int x2), (3, .int z9)] → ∀ (H : Heap) (locs : List Loc), kX G B0 s f H locs → W p l e (rmX8_image) s m args below meth c H locs 0 0 Q (F0 m 161 ls [.long (cIm a1 b1 c1 d1 x1 x2 z9)]) := by
            intro ls hl H locs hX
            exact k_lret C hX hr hlocks hQ (by omega) (by omega) (⟨rfl, rfl⟩) dX8_image_161
          refine lv_iload C.x C.b dX8_image_148 (lv_at hl 1 rfl) ?_
          refine lv_if_eq (tgt := 159) C.x C.b dX8_image_150 (by decide) (fun c_150 => ?_) (fun c_150 => ?_)
          · skip
            have c_150 := kbI_0 c_150
            refine lv_lload C.x C.b dX8_image_159 (lv_at hl 0 rfl) ?_
            refine k_topl (y := (cIm a1 b1 c1 d1 x1 x2 z9)) (by first | (rw [cIm, if_pos c_150]; done) | (rw [cIm, if_neg c_150]; done)) ?_
            exact J161 ls (lv_sub hl [0, 1, 2, 3, 4, 5, 6, 7] rfl) _ _ hX
          · skip
            have c_150 := kbI_1 c_150
            refine lv_lload C.x C.b dX8_image_153 (lv_at hl 0 rfl) ?_
            refine lv_lneg C.x C.b dX8_image_155 ?_
            refine lv_goto (tgt := 161) C.x C.b dX8_image_156 (by decide) ?_
            refine k_topl (y := (cIm a1 b1 c1 d1 x1 x2 z9)) (by first | (rw [cIm, if_pos c_150]; done) | (rw [cIm, if_neg c_150]; done)) ?_
            exact J161 ls (lv_sub hl [0, 1, 2, 3, 4, 5, 6, 7] rfl) _ _ hX
        refine lv_iload_n C.x C.b dX8_image_135 rfl (lv_at hl 6 rfl) ?_
        refine lv_if_eq (tgt := 144) C.x C.b dX8_image_136 (by decide) (fun c_136 => ?_) (fun c_136 => ?_)
        · skip
          refine lv_lload C.x C.b dX8_image_144 (lv_at hl 1 rfl) ?_
          refine k_topl (y := (if z9 = 0 then cTop c1 d1 x1 x2 else cTop a1 b1 x1 x2)) (by first | rw [if_pos c_136] | rw [if_neg c_136]) ?_
          exact J146 ls (lv_sub hl [0, 1, 2, 3, 4, 5, 6] rfl) _ _ hX
        · skip
          refine lv_lload C.x C.b dX8_image_139 (lv_at hl 2 rfl) ?_
          refine lv_goto (tgt := 146) C.x C.b dX8_image_141 (by decide) ?_
          refine k_topl (y := (if z9 = 0 then cTop c1 d1 x1 x2 else cTop a1 b1 x1 x2)) (by first | rw [if_pos c_136] | rw [if_neg c_136]) ?_
          exact J146 ls (lv_sub hl [0, 1, 2, 3, 4, 5, 6] rfl) _ _ hX
      refine lv_lload C.x C.b dX8_image_107 (lv_at hl 0 rfl) ?_
      refine lv_lconst (v := 0) C.x C.b dX8_image_109 (by decide) ?_
      refine k_lcmp_lt (tgt := 128) C.x C.b dX8_image_110 dX8_image_111 (by decide) (fun c_111 => ?_) (fun c_111 => ?_)
      · skip
        refine lv_iconst (v := nI 1) C.x C.b dX8_image_128 (by decide) ?_
        refine lv_goto (tgt := 133) C.x C.b dX8_image_129 (by decide) ?_
        refine k_topi (y := (kbI (cTrn a1 b1 c1 d1 x1 x2))) (by first | exact kbI_tN (Or.inl c_111) | exact kbI_tN (Or.inr ⟨c_118, c_125⟩) | exact kbI_fN (fun h9 => h9.elim c_111 (fun q => c_118 q.1)) | exact kbI_fN (fun h9 => h9.elim c_111 (fun q => c_125 q.2))) ?_
        exact J133 ls (lv_sub hl [0, 1, 2, 3, 4, 5] rfl) _ _ hX
      · skip
        refine lv_lload C.x C.b dX8_image_114 (lv_at hl 0 rfl) ?_
        refine lv_lconst (v := 0) C.x C.b dX8_image_116 (by decide) ?_
        refine k_lcmp_ne (tgt := 132) C.x C.b dX8_image_117 dX8_image_118 (by decide) (fun c_118 => ?_) (fun c_118 => ?_)
        · skip
          refine lv_iconst (v := nI 0) C.x C.b dX8_image_132 (by decide) ?_
          refine k_topi (y := (kbI (cTrn a1 b1 c1 d1 x1 x2))) (by first | exact kbI_tN (Or.inl c_111) | exact kbI_tN (Or.inr ⟨c_118, c_125⟩) | exact kbI_fN (fun h9 => h9.elim c_111 (fun q => c_118 q.1)) | exact kbI_fN (fun h9 => h9.elim c_111 (fun q => c_125 q.2))) ?_
          exact J133 ls (lv_sub hl [0, 1, 2, 3, 4, 5] rfl) _ _ hX
        · skip
          refine lv_lload C.x C.b dX8_image_121 (lv_at hl 1 rfl) ?_
          refine lv_lconst (v := 0) C.x C.b dX8_image_123 (by decide) ?_
          refine k_lcmp_ge (tgt := 132) C.x C.b dX8_image_124 dX8_image_125 (by decide) (fun c_125 => ?_) (fun c_125 => ?_)
          · skip
            refine lv_iconst (v := nI 0) C.x C.b dX8_image_132 (by decide) ?_
            refine k_topi (y := (kbI (cTrn a1 b1 c1 d1 x1 x2))) (by first | exact kbI_tN (Or.inl c_111) | exact kbI_tN (Or.inr ⟨c_118, c_125⟩) | exact kbI_fN (fun h9 => h9.elim c_111 (fun q => c_118 q.1)) | exact kbI_fN (fun h9 => h9.elim c_111 (fun q => c_125 q.2))) ?_
            exact J133 ls (lv_sub hl [0, 1, 2, 3, 4, 5] rfl) _ _ hX
          · skip
            refine lv_iconst (v := nI 1) C.x C.b dX8_image_128 (by decide) ?_
            refine lv_goto (tgt := 133) C.x C.b dX8_image_129 (by decide) ?_
            refine k_topi (y := (kbI (cTrn a1 b1 c1 d1 x1 x2))) (by first | exact kbI_tN (Or.inl c_111) | exact kbI_tN (Or.inr ⟨c_118, c_125⟩) | exact kbI_fN (fun h9 => h9.elim c_111 (fun q => c_118 q.1)) | exact kbI_fN (fun h9 => h9.elim c_111 (fun q => c_125 q.2))) ?_
            exact J133 ls (lv_sub hl [0, 1, 2, 3, 4, 5] rfl) _ _ hX
    refine lv_if_ne (tgt := 61) C.x C.b dX8_image_42 (by decide) (fun c_42 => ?_) (fun c_42 => ?_)
    · skip
      exact J61 ls (lv_sub hl [0, 1, 2, 3] rfl) _ _ hX
    · skip
      refine lv_iload_n C.x C.b dX8_image_45 rfl (lv_at hl 1 rfl) ?_
      refine lv_iconst (v := nI 1) C.x C.b dX8_image_46 (by decide) ?_
      refine lv_icmp_eq (tgt := 61) C.x C.b dX8_image_47 (by decide) (fun c_47 => ?_) (fun c_47 => ?_)
      · skip
        exact J61 ls (lv_sub hl [0, 1, 2, 3] rfl) _ _ hX
      · skip
        exact hv5.elim (fun q => absurd c_42 q) (fun q => absurd q c_47)

theorem lk_X8_append_f33 : Cond.fieldLink RX8 33 "Koebehall" "moves" "Ljava/util/ArrayList;" ∈ wsX8_append := by decide +kernel
theorem hin_X8_append_RX8 : ∀ w ∈ u_ws RX8 TX8 7, w ∈ wsX8_append := by decide +kernel
theorem hdX8_append_Jx4a65c_size_8abf5 : yJx4a65c_size_8abf5.cls ≠ "java/lang/invoke/MethodHandle" ∧ yJx4a65c_size_8abf5.cls ≠ "java/lang/invoke/VarHandle" ∧ (parseMethodDescriptor yJx4a65c_size_8abf5.desc).map (fun d => d.parameters.length) = some 0 := by decide +kernel
theorem hdX8_append_Jx4a65c_get_915e3 : yJx4a65c_get_915e3.cls ≠ "java/lang/invoke/MethodHandle" ∧ yJx4a65c_get_915e3.cls ≠ "java/lang/invoke/VarHandle" ∧ (parseMethodDescriptor yJx4a65c_get_915e3.desc).map (fun d => d.parameters.length) = some 1 := by decide +kernel
theorem lk_X8_append_cl36 : Cond.classLink RX8 36 RX6 ∈ wsX8_append := by decide +kernel
theorem lk_X8_append_f41 : Cond.fieldLink RX8 41 "Koebehall" "product" "LKoebehall$Table;" ∈ wsX8_append := by decide +kernel
theorem hdX8_append_X6_times : yX6_times.cls ≠ "java/lang/invoke/MethodHandle" ∧ yX6_times.cls ≠ "java/lang/invoke/VarHandle" ∧ (parseMethodDescriptor yX6_times.desc).map (fun d => d.parameters.length) = some 1 := by decide +kernel
theorem lk_X8_append_in_RX6 : Cond.initialized RX6 ∈ wsX8_append := by decide +kernel
theorem lk_X8_append_im_X6_times : Cond.instanceMethod yX6_times ∈ wsX8_append := by decide +kernel
theorem lk_X8_append_se_X6_times : Cond.selects RX6 yX6_times yX6_times ∈ wsX8_append := by decide +kernel
theorem lk_X8_append_c170 : Cond.constantLong RX8 170 (1000000000) ∈ wsX8_append := by decide +kernel
theorem hdX8_append_X6_isWhollyWithin : yX6_isWhollyWithin.cls ≠ "java/lang/invoke/MethodHandle" ∧ yX6_isWhollyWithin.cls ≠ "java/lang/invoke/VarHandle" ∧ (parseMethodDescriptor yX6_isWhollyWithin.desc).map (fun d => d.parameters.length) = some 1 := by decide +kernel
theorem lk_X8_append_im_X6_isWhollyWithin : Cond.instanceMethod yX6_isWhollyWithin ∈ wsX8_append := by decide +kernel
theorem lk_X8_append_se_X6_isWhollyWithin : Cond.selects RX6 yX6_isWhollyWithin yX6_isWhollyWithin ∈ wsX8_append := by decide +kernel
theorem hdX8_append_X6_trace : yX6_trace.cls ≠ "java/lang/invoke/MethodHandle" ∧ yX6_trace.cls ≠ "java/lang/invoke/VarHandle" ∧ (parseMethodDescriptor yX6_trace.desc).map (fun d => d.parameters.length) = some 0 := by decide +kernel
theorem lk_X8_append_im_X6_trace : Cond.instanceMethod yX6_trace ∈ wsX8_append := by decide +kernel
theorem lk_X8_append_se_X6_trace : Cond.selects RX6 yX6_trace yX6_trace ∈ wsX8_append := by decide +kernel
abbrev rmX8_append_f : Room := { frames := 3, cells := 1, slots := 4, locals := 64 }
set_option maxHeartbeats 4000000 in
set_option maxRecDepth 100000 in
/-- X8_append_f -/
theorem kX8_append_f (l : Launch) (G : kG) (B0 : Nat) (f : kH) (h pp dl sz i : Nat) (vs vd vg vw vn : Value) (a1 b1 c1 d1 : Int64) (w : Nat → Nat) (t1 t2 t3 t4 : Nat → Int64) (hM : kCs f [(h, .inr (8, [vs, vd, vg, vw, .ref dl, .ref pp, vn])), (pp, .inr (6, [.long a1, .long b1, .long c1, .long d1])), (w i, .inr (6, [.long (t1 i), .long (t2 i), .long (t3 i), .long (t4 i)]))]) (hdl : kLs G f dl sz w (tbE t1 t2 t3 t4)) (hsz : sz ≤ 4) (hi : i < sz) (z9 : Int32) (hz : z9 = 0) (hw : cIn (a1 * (t1 i) + b1 * (t3 i)) 1000000000 ∧ cIn (a1 * (t2 i) + b1 * (t4 i)) 1000000000 ∧ cIn (c1 * (t1 i) + d1 * (t3 i)) 1000000000 ∧ cIn (c1 * (t2 i) + d1 * (t4 i)) 1000000000) : Met l yX8_append wsX8_append (rmX8_append_f) (kP G B0 f [.ref h, .int (nI i), .int z9]) (kQi G B0 (fun r f1 => ∃ q : Nat, r = ((a1 * (t1 i) + b1 * (t3 i)) + (c1 * (t2 i) + d1 * (t4 i))).toInt32 ∧ f q = none ∧ kCs f1 [(h, .inr (8, [vs, vd, vg, vw, .ref dl, .ref q, vn])), (q, .inr (6, [.long (a1 * (t1 i) + b1 * (t3 i)), .long (a1 * (t2 i) + b1 * (t4 i)), .long (c1 * (t1 i) + d1 * (t3 i)), .long (c1 * (t2 i) + d1 * (t4 i))]))] ∧ kKp [h] f f1)) 1 4 (kAb B0) := by
  refine kMet (cc := cX8_append) (maxL := 5) (ret := (some .int)) (by decide) rfl (Nat.le_of_ble_eq_true rfl) ?_
  intro p e s m args below meth c H locs Q ls C hX hl hr hlocks hnm hQ
  have hO : kKp [h] f f := kKp.rf
  have hS : ∀ a ∈ [h], (f a).isSome := by
    intro a h9
    simp only [List.mem_cons, List.not_mem_nil, or_false] at h9
    rcases h9 with rfl
    · rw [hM.at 0 rfl]; rfl
  have hl : lv_has ls 5 [(0, .ref h), (1, .int (nI i)), (2, .int z9)] := hl
  refine lv_iload_n C.x C.b dX8_append_0 rfl (lv_at hl 1 rfl) ?_
  refine lv_if_lt (tgt := 15) C.x C.b dX8_append_1 (by decide) (fun c_1 => ?_) (fun c_1 => ?_)
  · skip
    exact absurd c_1 (nI_pos (by omega))
  · skip
    refine lv_iload_n C.x C.b dX8_append_4 rfl (lv_at hl 1 rfl) ?_
    refine lv_aload_n C.x C.b dX8_append_5 rfl (lv_at hl 0 rfl) ?_
    refine k_get (X := RX8) (T := TX8) (N := 7) (v := .ref dl) C hX (hM.at 0 rfl) rfl hin_X8_append_RX8 4 (by decide) lk_X8_append_f33 (fun _ h9 => h9) rfl dX8_append_6 ?_
    refine k_calli (va_runV (As := []) (rest := [.int (nI i)]) C.1 (kSizeL l G B0 f hdl) (cwV 0 C.ts gX8_append_Jx4a65c_size_8abf5 rfl rfl rfl ⟨rfl, hdX8_append_Jx4a65c_size_8abf5⟩ ⟨Nat.le_of_ble_eq_true rfl, Nat.le_of_ble_eq_true rfl⟩) (k_preV C hX (hdl.list.choose_spec) rfl) rfl rfl hl.1 rfl (lv_room (Nat.le_of_ble_eq_true rfl)) dX8_append_9 ⟨Nat.le_of_ble_eq_true rfl, Nat.le_of_ble_eq_true rfl⟩) hX (fun r9 f9 H locs hp9 hX => ?_)
    obtain ⟨hr9, hf9⟩ := hp9
    rw [hf9] at hX
    refine k_topi (y := (nI sz)) hr9 ?_
    refine lv_icmp_lt (tgt := 26) C.x C.b dX8_append_12 (by decide) (fun c_12 => ?_) (fun c_12 => ?_)
    rotate_left
    · skip
      have c_12 : ¬ (i < sz) := fun h9 => c_12 ((nI_ltI (by omega) (by omega)).mpr h9)
      omega
    have c_12 : i < sz := (nI_ltI (by omega) (by omega)).mp c_12
    refine lv_aload_n C.x C.b dX8_append_26 rfl (lv_at hl 0 rfl) ?_
    refine k_get (X := RX8) (T := TX8) (N := 7) (v := .ref dl) C hX (hM.at 0 rfl) rfl hin_X8_append_RX8 4 (by decide) lk_X8_append_f33 (fun _ h9 => h9) rfl dX8_append_27 ?_
    refine lv_iload_n C.x C.b dX8_append_30 rfl (lv_at hl 1 rfl) ?_
    refine k_callq (va_runV (As := [.int (nI i)]) (rest := []) C.1 (kGetL l G B0 f i hi hdl) (cwV 1 C.ts gX8_append_Jx4a65c_get_915e3 rfl rfl rfl ⟨rfl, hdX8_append_Jx4a65c_get_915e3⟩ ⟨Nat.le_of_ble_eq_true rfl, Nat.le_of_ble_eq_true rfl⟩) (k_preV C hX (hdl.list.choose_spec) rfl) rfl rfl hl.1 rfl (lv_room (Nat.le_of_ble_eq_true rfl)) dX8_append_31 ⟨Nat.le_of_ble_eq_true rfl, Nat.le_of_ble_eq_true rfl⟩) hX (fun r31 f31 H locs hp31 hX => ?_)
    obtain ⟨hr31, hf31⟩ := hp31
    rw [hf31] at hX
    refine k_topq (v := w i) hr31 ?_
    refine k_cast C hX (hM.at 2 rfl) rfl (C.ts _ lk_X8_append_cl36) dX8_append_34 ?_
    refine lv_astore_n (lv' := [(3, .ref (w i)), (0, .ref h), (1, .int (nI i)), (2, .int z9)]) C.x C.b dX8_append_37 rfl hl (by decide) rfl (fun ls hl => ?_)
    refine lv_aload_n C.x C.b dX8_append_38 rfl (lv_at hl 1 rfl) ?_
    refine k_get (X := RX8) (T := TX8) (N := 7) (v := .ref pp) C hX (hM.at 0 rfl) rfl hin_X8_append_RX8 5 (by decide) lk_X8_append_f41 (fun _ h9 => h9) rfl dX8_append_39 ?_
    refine lv_iload_n C.x C.b dX8_append_42 rfl (lv_at hl 3 rfl) ?_
    refine lv_if_eq (tgt := 53) C.x C.b dX8_append_43 (by decide) (fun c_43 => ?_) (fun c_43 => ?_)
    · skip
      refine lv_aload_n C.x C.b dX8_append_53 rfl (lv_at hl 0 rfl) ?_
      have hM9 : kCs f ([(pp, .inr (6, [.long a1, .long b1, .long c1, .long d1])), (w i, .inr (6, [.long (t1 i), .long (t2 i), .long (t3 i), .long (t4 i)]))]) := hM.pick [1, 2] (by decide) ⟨rfl, rfl, trivial⟩
      refine k_callq (va_runVN (As := [.ref (w i)]) (rest := []) C.1 (kX6_times l G B0 f pp (w i) a1 b1 c1 d1 (t1 i) (t2 i) (t3 i) (t4 i) hM9) ⟨va_cnB 1 C.ts gX8_append_X6_times_n277 rfl rfl rfl (C.2.1.2.2.1 _ (show ((RX8, 277, yX6_times, "Koebehall") : String × Nat × MethodName × String) ∈ kNestM by decide +kernel)) (C.ts _ lk_X8_append_in_RX6) hdX8_append_X6_times ⟨Nat.le_of_ble_eq_true rfl, Nat.le_of_ble_eq_true rfl⟩, C.ts _ lk_X8_append_im_X6_times, C.ts _ lk_X8_append_se_X6_times⟩ (k_preV C hX (hM.at 1 rfl) rfl) rfl rfl hl.1 rfl (lv_room (Nat.le_of_ble_eq_true rfl)) dX8_append_54 ⟨Nat.le_of_ble_eq_true rfl, Nat.le_of_ble_eq_true rfl⟩) hX (fun r54 f54 H locs hp54 hX => ?_)
      obtain ⟨q54, hr54, hn54, hM9, hO9⟩ := hp54
      have fr_q54 : f q54 = none := hO.fr hS hn54
      have hM9 : kCs f54 ([] ++ [(q54, .inr (6, [.long (a1 * (t1 i) + b1 * (t3 i)), .long (a1 * (t2 i) + b1 * (t4 i)), .long (c1 * (t1 i) + d1 * (t3 i)), .long (c1 * (t2 i) + d1 * (t4 i))]))]) := kCs.one hM9
      have hM : kCs f54 ([(h, .inr (8, [vs, vd, vg, vw, .ref dl, .ref pp, vn])), (pp, .inr (6, [.long a1, .long b1, .long c1, .long d1])), (w i, .inr (6, [.long (t1 i), .long (t2 i), .long (t3 i), .long (t4 i)])), (q54, .inr (6, [.long (a1 * (t1 i) + b1 * (t3 i)), .long (a1 * (t2 i) + b1 * (t4 i)), .long (c1 * (t1 i) + d1 * (t3 i)), .long (c1 * (t2 i) + d1 * (t4 i))]))]) := hM.subg hM9 hO9 hn54 [] (by simp) trivial
      have hO := hO.then (hO9) (by intro a h9; cases h9)
      have hS : ∀ a ∈ [h], (f54 a).isSome := by
        intro a h9
        simp only [List.mem_cons, List.not_mem_nil, or_false] at h9
        rcases h9 with rfl
        · rw [hM.at 0 rfl]; rfl
      refine k_topq (v := q54) hr54 ?_
      refine lv_astore (lv' := [(4, .ref q54), (3, .ref (w i)), (0, .ref h), (1, .int (nI i)), (2, .int z9)]) C.x C.b dX8_append_57 hl (by decide) rfl (fun ls hl => ?_)
      refine lv_aload C.x C.b dX8_append_59 (lv_at hl 0 rfl) ?_
      refine lv_ldc2 (v := 1000000000) C.x C.b C.ow (C.ts _ lk_X8_append_c170) dX8_append_61 ?_
      have hM9 : kCs f54 ([(q54, .inr (6, [.long (a1 * (t1 i) + b1 * (t3 i)), .long (a1 * (t2 i) + b1 * (t4 i)), .long (c1 * (t1 i) + d1 * (t3 i)), .long (c1 * (t2 i) + d1 * (t4 i))]))]) := hM.pick [3] (by decide) ⟨rfl, trivial⟩
      refine k_calli (va_runVN (As := [.long 1000000000]) (rest := []) C.1 (kX6_isWhollyWithin l G B0 f54 q54 (a1 * (t1 i) + b1 * (t3 i)) (a1 * (t2 i) + b1 * (t4 i)) (c1 * (t1 i) + d1 * (t3 i)) (c1 * (t2 i) + d1 * (t4 i)) 1000000000 hM9) ⟨va_cnB 1 C.ts gX8_append_X6_isWhollyWithin_n281 rfl rfl rfl (C.2.1.2.2.1 _ (show ((RX8, 281, yX6_isWhollyWithin, "Koebehall") : String × Nat × MethodName × String) ∈ kNestM by decide +kernel)) (C.ts _ lk_X8_append_in_RX6) hdX8_append_X6_isWhollyWithin ⟨Nat.le_of_ble_eq_true rfl, Nat.le_of_ble_eq_true rfl⟩, C.ts _ lk_X8_append_im_X6_isWhollyWithin, C.ts _ lk_X8_append_se_X6_isWhollyWithin⟩ (k_preV C hX (hM.at 3 rfl) rfl) rfl rfl hl.1 rfl (lv_room (Nat.le_of_ble_eq_true rfl)) dX8_append_64 ⟨Nat.le_of_ble_eq_true rfl, Nat.le_of_ble_eq_true rfl⟩) hX (fun r64 f64 H locs hp64 hX => ?_)
      obtain ⟨hr64, hf64⟩ := hp64
      rw [hf64] at hX
      refine k_topi (y := (kbI (cIn (a1 * (t1 i) + b1 * (t3 i)) 1000000000 ∧ cIn (a1 * (t2 i) + b1 * (t4 i)) 1000000000 ∧ cIn (c1 * (t1 i) + d1 * (t3 i)) 1000000000 ∧ cIn (c1 * (t2 i) + d1 * (t4 i)) 1000000000))) hr64 ?_
      refine lv_if_ne (tgt := 81) C.x C.b dX8_append_67 (by decide) (fun c_67 => ?_) (fun c_67 => ?_)
      rotate_left
      · exact absurd (hw) (kbI_0 c_67)
      refine lv_aload_n C.x C.b dX8_append_81 rfl (lv_at hl 2 rfl) ?_
      refine lv_aload C.x C.b dX8_append_82 (lv_at hl 0 rfl) ?_
      refine k_put (X := RX8) (T := TX8) (N := 7) (ty := .object "Koebehall$Table") (v := .ref q54) C hX (hM.at 0 rfl) rfl hin_X8_append_RX8 tyX8_ok nmX8 5 (by decide) lk_X8_append_f41 (fun _ h9 => h9) rfl (by decide +kernel) rfl rfl (Nat.le_of_ble_eq_true rfl) dX8_append_84 (fun H locs hX => ?_)
      obtain ⟨g1, hX, hM, hO, hS⟩ := kX.wrP hX hM hO hS 0 rfl (Or.inl (by simp))
      have hM : kCs g1 ([(h, .inr (8, [vs, vd, vg, vw, .ref dl, .ref q54, vn])), (pp, .inr (6, [.long a1, .long b1, .long c1, .long d1])), (w i, .inr (6, [.long (t1 i), .long (t2 i), .long (t3 i), .long (t4 i)])), (q54, .inr (6, [.long (a1 * (t1 i) + b1 * (t3 i)), .long (a1 * (t2 i) + b1 * (t4 i)), .long (c1 * (t1 i) + d1 * (t3 i)), .long (c1 * (t2 i) + d1 * (t4 i))]))]) := hM
      refine lv_aload_n C.x C.b dX8_append_87 rfl (lv_at hl 2 rfl) ?_
      refine k_get (X := RX8) (T := TX8) (N := 7) (v := .ref q54) C hX (hM.at 0 rfl) rfl hin_X8_append_RX8 5 (by decide) lk_X8_append_f41 (fun _ h9 => h9) rfl dX8_append_88 ?_
      have hM9 : kCs g1 ([(q54, .inr (6, [.long (a1 * (t1 i) + b1 * (t3 i)), .long (a1 * (t2 i) + b1 * (t4 i)), .long (c1 * (t1 i) + d1 * (t3 i)), .long (c1 * (t2 i) + d1 * (t4 i))]))]) := hM.pick [3] (by decide) ⟨rfl, trivial⟩
      refine k_calll (va_runVN (As := []) (rest := []) C.1 (kX6_trace l G B0 g1 q54 (a1 * (t1 i) + b1 * (t3 i)) (a1 * (t2 i) + b1 * (t4 i)) (c1 * (t1 i) + d1 * (t3 i)) (c1 * (t2 i) + d1 * (t4 i)) hM9) ⟨va_cnB 0 C.ts gX8_append_X6_trace_n287 rfl rfl rfl (C.2.1.2.2.1 _ (show ((RX8, 287, yX6_trace, "Koebehall") : String × Nat × MethodName × String) ∈ kNestM by decide +kernel)) (C.ts _ lk_X8_append_in_RX6) hdX8_append_X6_trace ⟨Nat.le_of_ble_eq_true rfl, Nat.le_of_ble_eq_true rfl⟩, C.ts _ lk_X8_append_im_X6_trace, C.ts _ lk_X8_append_se_X6_trace⟩ (k_preV C hX (hM.at 3 rfl) rfl) rfl rfl hl.1 rfl (lv_room (Nat.le_of_ble_eq_true rfl)) dX8_append_91 ⟨Nat.le_of_ble_eq_true rfl, Nat.le_of_ble_eq_true rfl⟩) hX (fun r91 f91 H locs hp91 hX => ?_)
      obtain ⟨hr91, hf91⟩ := hp91
      rw [hf91] at hX
      refine k_topl (y := ((a1 * (t1 i) + b1 * (t3 i)) + (c1 * (t2 i) + d1 * (t4 i)))) hr91 ?_
      refine lv_l2i (v := ((a1 * (t1 i) + b1 * (t3 i)) + (c1 * (t2 i) + d1 * (t4 i))).toInt32) C.x C.b dX8_append_94 rfl ?_
      exact k_iret C hX hr hlocks hQ (by omega) (by omega) (⟨q54, rfl, fr_q54, hM.pick [0, 3] (by decide) ⟨rfl, rfl, trivial⟩, hO⟩) dX8_append_95
    · skip
      exact absurd hz c_43

theorem hdX8_append_X6_undone : yX6_undone.cls ≠ "java/lang/invoke/MethodHandle" ∧ yX6_undone.cls ≠ "java/lang/invoke/VarHandle" ∧ (parseMethodDescriptor yX6_undone.desc).map (fun d => d.parameters.length) = some 0 := by decide +kernel
theorem lk_X8_append_im_X6_undone : Cond.instanceMethod yX6_undone ∈ wsX8_append := by decide +kernel
theorem lk_X8_append_se_X6_undone : Cond.selects RX6 yX6_undone yX6_undone ∈ wsX8_append := by decide +kernel
abbrev rmX8_append_u : Room := { frames := 3, cells := 2, slots := 8, locals := 64 }
set_option maxHeartbeats 4000000 in
set_option maxRecDepth 100000 in
/-- X8_append_u -/
theorem kX8_append_u (l : Launch) (G : kG) (B0 : Nat) (f : kH) (h pp dl sz i : Nat) (vs vd vg vw vn : Value) (a1 b1 c1 d1 : Int64) (w : Nat → Nat) (t1 t2 t3 t4 : Nat → Int64) (hM : kCs f [(h, .inr (8, [vs, vd, vg, vw, .ref dl, .ref pp, vn])), (pp, .inr (6, [.long a1, .long b1, .long c1, .long d1])), (w i, .inr (6, [.long (t1 i), .long (t2 i), .long (t3 i), .long (t4 i)]))]) (hdl : kLs G f dl sz w (tbE t1 t2 t3 t4)) (hsz : sz ≤ 4) (hi : i < sz) (z9 : Int32) (hz : ¬ z9 = 0) (hw : cIn (a1 * (t4 i) + b1 * (-t3 i)) 1000000000 ∧ cIn (a1 * (-t2 i) + b1 * (t1 i)) 1000000000 ∧ cIn (c1 * (t4 i) + d1 * (-t3 i)) 1000000000 ∧ cIn (c1 * (-t2 i) + d1 * (t1 i)) 1000000000) : Met l yX8_append wsX8_append (rmX8_append_u) (kP G B0 f [.ref h, .int (nI i), .int z9]) (kQi G B0 (fun r f1 => ∃ q : Nat, r = ((a1 * (t4 i) + b1 * (-t3 i)) + (c1 * (-t2 i) + d1 * (t1 i))).toInt32 ∧ f q = none ∧ kCs f1 [(h, .inr (8, [vs, vd, vg, vw, .ref dl, .ref q, vn])), (q, .inr (6, [.long (a1 * (t4 i) + b1 * (-t3 i)), .long (a1 * (-t2 i) + b1 * (t1 i)), .long (c1 * (t4 i) + d1 * (-t3 i)), .long (c1 * (-t2 i) + d1 * (t1 i))]))] ∧ kKp [h] f f1)) 2 8 (kAb B0) := by
  refine kMet (cc := cX8_append) (maxL := 5) (ret := (some .int)) (by decide) rfl (Nat.le_of_ble_eq_true rfl) ?_
  intro p e s m args below meth c H locs Q ls C hX hl hr hlocks hnm hQ
  have hO : kKp [h] f f := kKp.rf
  have hS : ∀ a ∈ [h], (f a).isSome := by
    intro a h9
    simp only [List.mem_cons, List.not_mem_nil, or_false] at h9
    rcases h9 with rfl
    · rw [hM.at 0 rfl]; rfl
  have hl : lv_has ls 5 [(0, .ref h), (1, .int (nI i)), (2, .int z9)] := hl
  refine lv_iload_n C.x C.b dX8_append_0 rfl (lv_at hl 1 rfl) ?_
  refine lv_if_lt (tgt := 15) C.x C.b dX8_append_1 (by decide) (fun c_1 => ?_) (fun c_1 => ?_)
  · skip
    exact absurd c_1 (nI_pos (by omega))
  · skip
    refine lv_iload_n C.x C.b dX8_append_4 rfl (lv_at hl 1 rfl) ?_
    refine lv_aload_n C.x C.b dX8_append_5 rfl (lv_at hl 0 rfl) ?_
    refine k_get (X := RX8) (T := TX8) (N := 7) (v := .ref dl) C hX (hM.at 0 rfl) rfl hin_X8_append_RX8 4 (by decide) lk_X8_append_f33 (fun _ h9 => h9) rfl dX8_append_6 ?_
    refine k_calli (va_runV (As := []) (rest := [.int (nI i)]) C.1 (kSizeL l G B0 f hdl) (cwV 0 C.ts gX8_append_Jx4a65c_size_8abf5 rfl rfl rfl ⟨rfl, hdX8_append_Jx4a65c_size_8abf5⟩ ⟨Nat.le_of_ble_eq_true rfl, Nat.le_of_ble_eq_true rfl⟩) (k_preV C hX (hdl.list.choose_spec) rfl) rfl rfl hl.1 rfl (lv_room (Nat.le_of_ble_eq_true rfl)) dX8_append_9 ⟨Nat.le_of_ble_eq_true rfl, Nat.le_of_ble_eq_true rfl⟩) hX (fun r9 f9 H locs hp9 hX => ?_)
    obtain ⟨hr9, hf9⟩ := hp9
    rw [hf9] at hX
    refine k_topi (y := (nI sz)) hr9 ?_
    refine lv_icmp_lt (tgt := 26) C.x C.b dX8_append_12 (by decide) (fun c_12 => ?_) (fun c_12 => ?_)
    rotate_left
    · skip
      have c_12 : ¬ (i < sz) := fun h9 => c_12 ((nI_ltI (by omega) (by omega)).mpr h9)
      omega
    have c_12 : i < sz := (nI_ltI (by omega) (by omega)).mp c_12
    refine lv_aload_n C.x C.b dX8_append_26 rfl (lv_at hl 0 rfl) ?_
    refine k_get (X := RX8) (T := TX8) (N := 7) (v := .ref dl) C hX (hM.at 0 rfl) rfl hin_X8_append_RX8 4 (by decide) lk_X8_append_f33 (fun _ h9 => h9) rfl dX8_append_27 ?_
    refine lv_iload_n C.x C.b dX8_append_30 rfl (lv_at hl 1 rfl) ?_
    refine k_callq (va_runV (As := [.int (nI i)]) (rest := []) C.1 (kGetL l G B0 f i hi hdl) (cwV 1 C.ts gX8_append_Jx4a65c_get_915e3 rfl rfl rfl ⟨rfl, hdX8_append_Jx4a65c_get_915e3⟩ ⟨Nat.le_of_ble_eq_true rfl, Nat.le_of_ble_eq_true rfl⟩) (k_preV C hX (hdl.list.choose_spec) rfl) rfl rfl hl.1 rfl (lv_room (Nat.le_of_ble_eq_true rfl)) dX8_append_31 ⟨Nat.le_of_ble_eq_true rfl, Nat.le_of_ble_eq_true rfl⟩) hX (fun r31 f31 H locs hp31 hX => ?_)
    obtain ⟨hr31, hf31⟩ := hp31
    rw [hf31] at hX
    refine k_topq (v := w i) hr31 ?_
    refine k_cast C hX (hM.at 2 rfl) rfl (C.ts _ lk_X8_append_cl36) dX8_append_34 ?_
    refine lv_astore_n (lv' := [(3, .ref (w i)), (0, .ref h), (1, .int (nI i)), (2, .int z9)]) C.x C.b dX8_append_37 rfl hl (by decide) rfl (fun ls hl => ?_)
    refine lv_aload_n C.x C.b dX8_append_38 rfl (lv_at hl 1 rfl) ?_
    refine k_get (X := RX8) (T := TX8) (N := 7) (v := .ref pp) C hX (hM.at 0 rfl) rfl hin_X8_append_RX8 5 (by decide) lk_X8_append_f41 (fun _ h9 => h9) rfl dX8_append_39 ?_
    refine lv_iload_n C.x C.b dX8_append_42 rfl (lv_at hl 3 rfl) ?_
    refine lv_if_eq (tgt := 53) C.x C.b dX8_append_43 (by decide) (fun c_43 => ?_) (fun c_43 => ?_)
    · skip
      exact absurd c_43 hz
    · skip
      refine lv_aload_n C.x C.b dX8_append_46 rfl (lv_at hl 0 rfl) ?_
      have hM9 : kCs f ([(w i, .inr (6, [.long (t1 i), .long (t2 i), .long (t3 i), .long (t4 i)]))]) := hM.pick [2] (by decide) ⟨rfl, trivial⟩
      refine k_callq (va_runVN (As := []) (rest := [.ref pp]) C.1 (kX6_undone l G B0 f (w i) (t1 i) (t2 i) (t3 i) (t4 i) hM9) ⟨va_cnB 0 C.ts gX8_append_X6_undone_n273 rfl rfl rfl (C.2.1.2.2.1 _ (show ((RX8, 273, yX6_undone, "Koebehall") : String × Nat × MethodName × String) ∈ kNestM by decide +kernel)) (C.ts _ lk_X8_append_in_RX6) hdX8_append_X6_undone ⟨Nat.le_of_ble_eq_true rfl, Nat.le_of_ble_eq_true rfl⟩, C.ts _ lk_X8_append_im_X6_undone, C.ts _ lk_X8_append_se_X6_undone⟩ (k_preV C hX (hM.at 2 rfl) rfl) rfl rfl hl.1 rfl (lv_room (Nat.le_of_ble_eq_true rfl)) dX8_append_47 ⟨Nat.le_of_ble_eq_true rfl, Nat.le_of_ble_eq_true rfl⟩) hX (fun r47 f47 H locs hp47 hX => ?_)
      obtain ⟨q47, hr47, hn47, hM9, hO9⟩ := hp47
      have fr_q47 : f q47 = none := hO.fr hS hn47
      have hM9 : kCs f47 ([] ++ [(q47, .inr (6, [.long (t4 i), .long (-t2 i), .long (-t3 i), .long (t1 i)]))]) := kCs.one hM9
      have hM : kCs f47 ([(h, .inr (8, [vs, vd, vg, vw, .ref dl, .ref pp, vn])), (pp, .inr (6, [.long a1, .long b1, .long c1, .long d1])), (w i, .inr (6, [.long (t1 i), .long (t2 i), .long (t3 i), .long (t4 i)])), (q47, .inr (6, [.long (t4 i), .long (-t2 i), .long (-t3 i), .long (t1 i)]))]) := hM.subg hM9 hO9 hn47 [] (by simp) trivial
      have hO := hO.then (hO9) (by intro a h9; cases h9)
      have hS : ∀ a ∈ [h], (f47 a).isSome := by
        intro a h9
        simp only [List.mem_cons, List.not_mem_nil, or_false] at h9
        rcases h9 with rfl
        · rw [hM.at 0 rfl]; rfl
      refine k_topq (v := q47) hr47 ?_
      refine lv_goto (tgt := 54) C.x C.b dX8_append_50 (by decide) ?_
      have hM9 : kCs f47 ([(pp, .inr (6, [.long a1, .long b1, .long c1, .long d1])), (q47, .inr (6, [.long (t4 i), .long (-t2 i), .long (-t3 i), .long (t1 i)]))]) := hM.pick [1, 3] (by decide) ⟨rfl, rfl, trivial⟩
      refine k_callq (va_runVN (As := [.ref q47]) (rest := []) C.1 (kX6_times l G B0 f47 pp q47 a1 b1 c1 d1 (t4 i) (-t2 i) (-t3 i) (t1 i) hM9) ⟨va_cnB 1 C.ts gX8_append_X6_times_n277 rfl rfl rfl (C.2.1.2.2.1 _ (show ((RX8, 277, yX6_times, "Koebehall") : String × Nat × MethodName × String) ∈ kNestM by decide +kernel)) (C.ts _ lk_X8_append_in_RX6) hdX8_append_X6_times ⟨Nat.le_of_ble_eq_true rfl, Nat.le_of_ble_eq_true rfl⟩, C.ts _ lk_X8_append_im_X6_times, C.ts _ lk_X8_append_se_X6_times⟩ (k_preV C hX (hM.at 1 rfl) rfl) rfl rfl hl.1 rfl (lv_room (Nat.le_of_ble_eq_true rfl)) dX8_append_54 ⟨Nat.le_of_ble_eq_true rfl, Nat.le_of_ble_eq_true rfl⟩) hX (fun r54 f54 H locs hp54 hX => ?_)
      obtain ⟨q54, hr54, hn54, hM9, hO9⟩ := hp54
      have fr_q54 : f q54 = none := hO.fr hS hn54
      have hM9 : kCs f54 ([] ++ [(q54, .inr (6, [.long (a1 * (t4 i) + b1 * (-t3 i)), .long (a1 * (-t2 i) + b1 * (t1 i)), .long (c1 * (t4 i) + d1 * (-t3 i)), .long (c1 * (-t2 i) + d1 * (t1 i))]))]) := kCs.one hM9
      have hM : kCs f54 ([(h, .inr (8, [vs, vd, vg, vw, .ref dl, .ref pp, vn])), (pp, .inr (6, [.long a1, .long b1, .long c1, .long d1])), (w i, .inr (6, [.long (t1 i), .long (t2 i), .long (t3 i), .long (t4 i)])), (q47, .inr (6, [.long (t4 i), .long (-t2 i), .long (-t3 i), .long (t1 i)])), (q54, .inr (6, [.long (a1 * (t4 i) + b1 * (-t3 i)), .long (a1 * (-t2 i) + b1 * (t1 i)), .long (c1 * (t4 i) + d1 * (-t3 i)), .long (c1 * (-t2 i) + d1 * (t1 i))]))]) := hM.subg hM9 hO9 hn54 [] (by simp) trivial
      have hO := hO.then (hO9) (by intro a h9; cases h9)
      have hS : ∀ a ∈ [h], (f54 a).isSome := by
        intro a h9
        simp only [List.mem_cons, List.not_mem_nil, or_false] at h9
        rcases h9 with rfl
        · rw [hM.at 0 rfl]; rfl
      refine k_topq (v := q54) hr54 ?_
      refine lv_astore (lv' := [(4, .ref q54), (3, .ref (w i)), (0, .ref h), (1, .int (nI i)), (2, .int z9)]) C.x C.b dX8_append_57 hl (by decide) rfl (fun ls hl => ?_)
      refine lv_aload C.x C.b dX8_append_59 (lv_at hl 0 rfl) ?_
      refine lv_ldc2 (v := 1000000000) C.x C.b C.ow (C.ts _ lk_X8_append_c170) dX8_append_61 ?_
      have hM9 : kCs f54 ([(q54, .inr (6, [.long (a1 * (t4 i) + b1 * (-t3 i)), .long (a1 * (-t2 i) + b1 * (t1 i)), .long (c1 * (t4 i) + d1 * (-t3 i)), .long (c1 * (-t2 i) + d1 * (t1 i))]))]) := hM.pick [4] (by decide) ⟨rfl, trivial⟩
      refine k_calli (va_runVN (As := [.long 1000000000]) (rest := []) C.1 (kX6_isWhollyWithin l G B0 f54 q54 (a1 * (t4 i) + b1 * (-t3 i)) (a1 * (-t2 i) + b1 * (t1 i)) (c1 * (t4 i) + d1 * (-t3 i)) (c1 * (-t2 i) + d1 * (t1 i)) 1000000000 hM9) ⟨va_cnB 1 C.ts gX8_append_X6_isWhollyWithin_n281 rfl rfl rfl (C.2.1.2.2.1 _ (show ((RX8, 281, yX6_isWhollyWithin, "Koebehall") : String × Nat × MethodName × String) ∈ kNestM by decide +kernel)) (C.ts _ lk_X8_append_in_RX6) hdX8_append_X6_isWhollyWithin ⟨Nat.le_of_ble_eq_true rfl, Nat.le_of_ble_eq_true rfl⟩, C.ts _ lk_X8_append_im_X6_isWhollyWithin, C.ts _ lk_X8_append_se_X6_isWhollyWithin⟩ (k_preV C hX (hM.at 4 rfl) rfl) rfl rfl hl.1 rfl (lv_room (Nat.le_of_ble_eq_true rfl)) dX8_append_64 ⟨Nat.le_of_ble_eq_true rfl, Nat.le_of_ble_eq_true rfl⟩) hX (fun r64 f64 H locs hp64 hX => ?_)
      obtain ⟨hr64, hf64⟩ := hp64
      rw [hf64] at hX
      refine k_topi (y := (kbI (cIn (a1 * (t4 i) + b1 * (-t3 i)) 1000000000 ∧ cIn (a1 * (-t2 i) + b1 * (t1 i)) 1000000000 ∧ cIn (c1 * (t4 i) + d1 * (-t3 i)) 1000000000 ∧ cIn (c1 * (-t2 i) + d1 * (t1 i)) 1000000000))) hr64 ?_
      refine lv_if_ne (tgt := 81) C.x C.b dX8_append_67 (by decide) (fun c_67 => ?_) (fun c_67 => ?_)
      rotate_left
      · exact absurd (hw) (kbI_0 c_67)
      refine lv_aload_n C.x C.b dX8_append_81 rfl (lv_at hl 2 rfl) ?_
      refine lv_aload C.x C.b dX8_append_82 (lv_at hl 0 rfl) ?_
      refine k_put (X := RX8) (T := TX8) (N := 7) (ty := .object "Koebehall$Table") (v := .ref q54) C hX (hM.at 0 rfl) rfl hin_X8_append_RX8 tyX8_ok nmX8 5 (by decide) lk_X8_append_f41 (fun _ h9 => h9) rfl (by decide +kernel) rfl rfl (Nat.le_of_ble_eq_true rfl) dX8_append_84 (fun H locs hX => ?_)
      obtain ⟨g1, hX, hM, hO, hS⟩ := kX.wrP hX hM hO hS 0 rfl (Or.inl (by simp))
      have hM : kCs g1 ([(h, .inr (8, [vs, vd, vg, vw, .ref dl, .ref q54, vn])), (pp, .inr (6, [.long a1, .long b1, .long c1, .long d1])), (w i, .inr (6, [.long (t1 i), .long (t2 i), .long (t3 i), .long (t4 i)])), (q47, .inr (6, [.long (t4 i), .long (-t2 i), .long (-t3 i), .long (t1 i)])), (q54, .inr (6, [.long (a1 * (t4 i) + b1 * (-t3 i)), .long (a1 * (-t2 i) + b1 * (t1 i)), .long (c1 * (t4 i) + d1 * (-t3 i)), .long (c1 * (-t2 i) + d1 * (t1 i))]))]) := hM
      refine lv_aload_n C.x C.b dX8_append_87 rfl (lv_at hl 2 rfl) ?_
      refine k_get (X := RX8) (T := TX8) (N := 7) (v := .ref q54) C hX (hM.at 0 rfl) rfl hin_X8_append_RX8 5 (by decide) lk_X8_append_f41 (fun _ h9 => h9) rfl dX8_append_88 ?_
      have hM9 : kCs g1 ([(q54, .inr (6, [.long (a1 * (t4 i) + b1 * (-t3 i)), .long (a1 * (-t2 i) + b1 * (t1 i)), .long (c1 * (t4 i) + d1 * (-t3 i)), .long (c1 * (-t2 i) + d1 * (t1 i))]))]) := hM.pick [4] (by decide) ⟨rfl, trivial⟩
      refine k_calll (va_runVN (As := []) (rest := []) C.1 (kX6_trace l G B0 g1 q54 (a1 * (t4 i) + b1 * (-t3 i)) (a1 * (-t2 i) + b1 * (t1 i)) (c1 * (t4 i) + d1 * (-t3 i)) (c1 * (-t2 i) + d1 * (t1 i)) hM9) ⟨va_cnB 0 C.ts gX8_append_X6_trace_n287 rfl rfl rfl (C.2.1.2.2.1 _ (show ((RX8, 287, yX6_trace, "Koebehall") : String × Nat × MethodName × String) ∈ kNestM by decide +kernel)) (C.ts _ lk_X8_append_in_RX6) hdX8_append_X6_trace ⟨Nat.le_of_ble_eq_true rfl, Nat.le_of_ble_eq_true rfl⟩, C.ts _ lk_X8_append_im_X6_trace, C.ts _ lk_X8_append_se_X6_trace⟩ (k_preV C hX (hM.at 4 rfl) rfl) rfl rfl hl.1 rfl (lv_room (Nat.le_of_ble_eq_true rfl)) dX8_append_91 ⟨Nat.le_of_ble_eq_true rfl, Nat.le_of_ble_eq_true rfl⟩) hX (fun r91 f91 H locs hp91 hX => ?_)
      obtain ⟨hr91, hf91⟩ := hp91
      rw [hf91] at hX
      refine k_topl (y := ((a1 * (t4 i) + b1 * (-t3 i)) + (c1 * (-t2 i) + d1 * (t1 i)))) hr91 ?_
      refine lv_l2i (v := ((a1 * (t4 i) + b1 * (-t3 i)) + (c1 * (-t2 i) + d1 * (t1 i))).toInt32) C.x C.b dX8_append_94 rfl ?_
      exact k_iret C hX hr hlocks hQ (by omega) (by omega) (⟨q54, rfl, fr_q54, hM.pick [0, 4] (by decide) ⟨rfl, rfl, trivial⟩, hO⟩) dX8_append_95
