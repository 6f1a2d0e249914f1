theorem hdW_L_split : yL_split.cls ≠ "java/lang/invoke/MethodHandle" ∧ yL_split.cls ≠ "java/lang/invoke/VarHandle" ∧ (parseMethodDescriptor yL_split.desc).map (fun d => d.parameters.length) = some 3 := by decide +kernel
theorem hdW_X9_split : yX9_split.cls ≠ "java/lang/invoke/MethodHandle" ∧ yX9_split.cls ≠ "java/lang/invoke/VarHandle" ∧ (parseMethodDescriptor yX9_split.desc).map (fun d => d.parameters.length) = some 1 := by decide +kernel
theorem hdW_L_flip : yL_flip.cls ≠ "java/lang/invoke/MethodHandle" ∧ yL_flip.cls ≠ "java/lang/invoke/VarHandle" ∧ (parseMethodDescriptor yL_flip.desc).map (fun d => d.parameters.length) = some 4 := by decide +kernel
theorem hdW_X9_flip : yX9_flip.cls ≠ "java/lang/invoke/MethodHandle" ∧ yX9_flip.cls ≠ "java/lang/invoke/VarHandle" ∧ (parseMethodDescriptor yX9_flip.desc).map (fun d => d.parameters.length) = some 2 := by decide +kernel
theorem hdW_L_corner : yL_corner.cls ≠ "java/lang/invoke/MethodHandle" ∧ yL_corner.cls ≠ "java/lang/invoke/VarHandle" ∧ (parseMethodDescriptor yL_corner.desc).map (fun d => d.parameters.length) = some 4 := by decide +kernel
theorem hdW_X9_corner : yX9_corner.cls ≠ "java/lang/invoke/MethodHandle" ∧ yX9_corner.cls ≠ "java/lang/invoke/VarHandle" ∧ (parseMethodDescriptor yX9_corner.desc).map (fun d => d.parameters.length) = some 2 := by decide +kernel
theorem hdW_L_around : yL_around.cls ≠ "java/lang/invoke/MethodHandle" ∧ yL_around.cls ≠ "java/lang/invoke/VarHandle" ∧ (parseMethodDescriptor yL_around.desc).map (fun d => d.parameters.length) = some 4 := by decide +kernel
theorem hdW_X9_around : yX9_around.cls ≠ "java/lang/invoke/MethodHandle" ∧ yX9_around.cls ≠ "java/lang/invoke/VarHandle" ∧ (parseMethodDescriptor yX9_around.desc).map (fun d => d.parameters.length) = some 2 := by decide +kernel
theorem hdW_L_net : yL_net.cls ≠ "java/lang/invoke/MethodHandle" ∧ yL_net.cls ≠ "java/lang/invoke/VarHandle" ∧ (parseMethodDescriptor yL_net.desc).map (fun d => d.parameters.length) = some 3 := by decide +kernel
theorem hdW_X9_net : yX9_net.cls ≠ "java/lang/invoke/MethodHandle" ∧ yX9_net.cls ≠ "java/lang/invoke/VarHandle" ∧ (parseMethodDescriptor yX9_net.desc).map (fun d => d.parameters.length) = some 1 := by decide +kernel
theorem hdW_L_disk : yL_disk.cls ≠ "java/lang/invoke/MethodHandle" ∧ yL_disk.cls ≠ "java/lang/invoke/VarHandle" ∧ (parseMethodDescriptor yL_disk.desc).map (fun d => d.parameters.length) = some 5 := by decide +kernel
theorem hdW_X9_disk : yX9_disk.cls ≠ "java/lang/invoke/MethodHandle" ∧ yX9_disk.cls ≠ "java/lang/invoke/VarHandle" ∧ (parseMethodDescriptor yX9_disk.desc).map (fun d => d.parameters.length) = some 3 := by decide +kernel
theorem hdW_L_move : yL_move.cls ≠ "java/lang/invoke/MethodHandle" ∧ yL_move.cls ≠ "java/lang/invoke/VarHandle" ∧ (parseMethodDescriptor yL_move.desc).map (fun d => d.parameters.length) = some 6 := by decide +kernel
theorem hdW_X9_move : yX9_move.cls ≠ "java/lang/invoke/MethodHandle" ∧ yX9_move.cls ≠ "java/lang/invoke/VarHandle" ∧ (parseMethodDescriptor yX9_move.desc).map (fun d => d.parameters.length) = some 4 := by decide +kernel
theorem hdW_L_lie : yL_lie.cls ≠ "java/lang/invoke/MethodHandle" ∧ yL_lie.cls ≠ "java/lang/invoke/VarHandle" ∧ (parseMethodDescriptor yL_lie.desc).map (fun d => d.parameters.length) = some 4 := by decide +kernel
theorem hdW_X9_lie : yX9_lie.cls ≠ "java/lang/invoke/MethodHandle" ∧ yX9_lie.cls ≠ "java/lang/invoke/VarHandle" ∧ (parseMethodDescriptor yX9_lie.desc).map (fun d => d.parameters.length) = some 2 := by decide +kernel
theorem hdW_L_pairs : yL_pairs.cls ≠ "java/lang/invoke/MethodHandle" ∧ yL_pairs.cls ≠ "java/lang/invoke/VarHandle" ∧ (parseMethodDescriptor yL_pairs.desc).map (fun d => d.parameters.length) = some 3 := by decide +kernel
theorem hdW_X9_pairs : yX9_pairs.cls ≠ "java/lang/invoke/MethodHandle" ∧ yX9_pairs.cls ≠ "java/lang/invoke/VarHandle" ∧ (parseMethodDescriptor yX9_pairs.desc).map (fun d => d.parameters.length) = some 1 := by decide +kernel
theorem hdW_X8_draws : yX8_draws.cls ≠ "java/lang/invoke/MethodHandle" ∧ yX8_draws.cls ≠ "java/lang/invoke/VarHandle" ∧ (parseMethodDescriptor yX8_draws.desc).map (fun d => d.parameters.length) = some 0 := by decide +kernel
theorem hdW_X9_draws : yX9_draws.cls ≠ "java/lang/invoke/MethodHandle" ∧ yX9_draws.cls ≠ "java/lang/invoke/VarHandle" ∧ (parseMethodDescriptor yX9_draws.desc).map (fun d => d.parameters.length) = some 0 := by decide +kernel
theorem hdW_L_gasket : yL_gasket.cls ≠ "java/lang/invoke/MethodHandle" ∧ yL_gasket.cls ≠ "java/lang/invoke/VarHandle" ∧ (parseMethodDescriptor yL_gasket.desc).map (fun d => d.parameters.length) = some 6 := by decide +kernel
theorem hdW_X9_gasket : yX9_gasket.cls ≠ "java/lang/invoke/MethodHandle" ∧ yX9_gasket.cls ≠ "java/lang/invoke/VarHandle" ∧ (parseMethodDescriptor yX9_gasket.desc).map (fun d => d.parameters.length) = some 4 := by decide +kernel
theorem hdW_L_turn : yL_turn.cls ≠ "java/lang/invoke/MethodHandle" ∧ yL_turn.cls ≠ "java/lang/invoke/VarHandle" ∧ (parseMethodDescriptor yL_turn.desc).map (fun d => d.parameters.length) = some 4 := by decide +kernel
theorem hdW_X9_turn : yX9_turn.cls ≠ "java/lang/invoke/MethodHandle" ∧ yX9_turn.cls ≠ "java/lang/invoke/VarHandle" ∧ (parseMethodDescriptor yX9_turn.desc).map (fun d => d.parameters.length) = some 2 := by decide +kernel
theorem hdW_L_curvature : yL_curvature.cls ≠ "java/lang/invoke/MethodHandle" ∧ yL_curvature.cls ≠ "java/lang/invoke/VarHandle" ∧ (parseMethodDescriptor yL_curvature.desc).map (fun d => d.parameters.length) = some 4 := by decide +kernel
theorem hdW_X9_curvature : yX9_curvature.cls ≠ "java/lang/invoke/MethodHandle" ∧ yX9_curvature.cls ≠ "java/lang/invoke/VarHandle" ∧ (parseMethodDescriptor yX9_curvature.desc).map (fun d => d.parameters.length) = some 2 := by decide +kernel
theorem hdW_L_radius : yL_radius.cls ≠ "java/lang/invoke/MethodHandle" ∧ yL_radius.cls ≠ "java/lang/invoke/VarHandle" ∧ (parseMethodDescriptor yL_radius.desc).map (fun d => d.parameters.length) = some 4 := by decide +kernel
theorem hdW_X9_radius : yX9_radius.cls ≠ "java/lang/invoke/MethodHandle" ∧ yX9_radius.cls ≠ "java/lang/invoke/VarHandle" ∧ (parseMethodDescriptor yX9_radius.desc).map (fun d => d.parameters.length) = some 2 := by decide +kernel
theorem hdW_L_root : yL_root.cls ≠ "java/lang/invoke/MethodHandle" ∧ yL_root.cls ≠ "java/lang/invoke/VarHandle" ∧ (parseMethodDescriptor yL_root.desc).map (fun d => d.parameters.length) = some 4 := by decide +kernel
theorem hdW_X9_root : yX9_root.cls ≠ "java/lang/invoke/MethodHandle" ∧ yX9_root.cls ≠ "java/lang/invoke/VarHandle" ∧ (parseMethodDescriptor yX9_root.desc).map (fun d => d.parameters.length) = some 2 := by decide +kernel
theorem hdW_L_count : yL_count.cls ≠ "java/lang/invoke/MethodHandle" ∧ yL_count.cls ≠ "java/lang/invoke/VarHandle" ∧ (parseMethodDescriptor yL_count.desc).map (fun d => d.parameters.length) = some 4 := by decide +kernel
theorem hdW_X9_count : yX9_count.cls ≠ "java/lang/invoke/MethodHandle" ∧ yX9_count.cls ≠ "java/lang/invoke/VarHandle" ∧ (parseMethodDescriptor yX9_count.desc).map (fun d => d.parameters.length) = some 2 := by decide +kernel
theorem hdW_L_countAnew : yL_countAnew.cls ≠ "java/lang/invoke/MethodHandle" ∧ yL_countAnew.cls ≠ "java/lang/invoke/VarHandle" ∧ (parseMethodDescriptor yL_countAnew.desc).map (fun d => d.parameters.length) = some 4 := by decide +kernel
theorem hdW_X9_countAnew : yX9_countAnew.cls ≠ "java/lang/invoke/MethodHandle" ∧ yX9_countAnew.cls ≠ "java/lang/invoke/VarHandle" ∧ (parseMethodDescriptor yX9_countAnew.desc).map (fun d => d.parameters.length) = some 2 := by decide +kernel
theorem hdW_L_remainders : yL_remainders.cls ≠ "java/lang/invoke/MethodHandle" ∧ yL_remainders.cls ≠ "java/lang/invoke/VarHandle" ∧ (parseMethodDescriptor yL_remainders.desc).map (fun d => d.parameters.length) = some 4 := by decide +kernel
theorem hdW_X9_remainders : yX9_remainders.cls ≠ "java/lang/invoke/MethodHandle" ∧ yX9_remainders.cls ≠ "java/lang/invoke/VarHandle" ∧ (parseMethodDescriptor yX9_remainders.desc).map (fun d => d.parameters.length) = some 2 := by decide +kernel
theorem hdW_L_ford : yL_ford.cls ≠ "java/lang/invoke/MethodHandle" ∧ yL_ford.cls ≠ "java/lang/invoke/VarHandle" ∧ (parseMethodDescriptor yL_ford.desc).map (fun d => d.parameters.length) = some 6 := by decide +kernel
theorem hdW_X9_ford : yX9_ford.cls ≠ "java/lang/invoke/MethodHandle" ∧ yX9_ford.cls ≠ "java/lang/invoke/VarHandle" ∧ (parseMethodDescriptor yX9_ford.desc).map (fun d => d.parameters.length) = some 4 := by decide +kernel
theorem hdW_L_between : yL_between.cls ≠ "java/lang/invoke/MethodHandle" ∧ yL_between.cls ≠ "java/lang/invoke/VarHandle" ∧ (parseMethodDescriptor yL_between.desc).map (fun d => d.parameters.length) = some 7 := by decide +kernel
theorem hdW_X9_between : yX9_between.cls ≠ "java/lang/invoke/MethodHandle" ∧ yX9_between.cls ≠ "java/lang/invoke/VarHandle" ∧ (parseMethodDescriptor yX9_between.desc).map (fun d => d.parameters.length) = some 5 := by decide +kernel
theorem hdW_L_tell : yL_tell.cls ≠ "java/lang/invoke/MethodHandle" ∧ yL_tell.cls ≠ "java/lang/invoke/VarHandle" ∧ (parseMethodDescriptor yL_tell.desc).map (fun d => d.parameters.length) = some 6 := by decide +kernel
theorem hdW_X9_tell : yX9_tell.cls ≠ "java/lang/invoke/MethodHandle" ∧ yX9_tell.cls ≠ "java/lang/invoke/VarHandle" ∧ (parseMethodDescriptor yX9_tell.desc).map (fun d => d.parameters.length) = some 4 := by decide +kernel
theorem hdW_L_append : yL_append.cls ≠ "java/lang/invoke/MethodHandle" ∧ yL_append.cls ≠ "java/lang/invoke/VarHandle" ∧ (parseMethodDescriptor yL_append.desc).map (fun d => d.parameters.length) = some 4 := by decide +kernel
theorem hdW_X9_append : yX9_append.cls ≠ "java/lang/invoke/MethodHandle" ∧ yX9_append.cls ≠ "java/lang/invoke/VarHandle" ∧ (parseMethodDescriptor yX9_append.desc).map (fun d => d.parameters.length) = some 2 := by decide +kernel
theorem hdW_X8_home : yX8_home.cls ≠ "java/lang/invoke/MethodHandle" ∧ yX8_home.cls ≠ "java/lang/invoke/VarHandle" ∧ (parseMethodDescriptor yX8_home.desc).map (fun d => d.parameters.length) = some 0 := by decide +kernel
theorem hdW_X9_home : yX9_home.cls ≠ "java/lang/invoke/MethodHandle" ∧ yX9_home.cls ≠ "java/lang/invoke/VarHandle" ∧ (parseMethodDescriptor yX9_home.desc).map (fun d => d.parameters.length) = some 0 := by decide +kernel
theorem hdW_L_word : yL_word.cls ≠ "java/lang/invoke/MethodHandle" ∧ yL_word.cls ≠ "java/lang/invoke/VarHandle" ∧ (parseMethodDescriptor yL_word.desc).map (fun d => d.parameters.length) = some 3 := by decide +kernel
theorem hdW_X9_word : yX9_word.cls ≠ "java/lang/invoke/MethodHandle" ∧ yX9_word.cls ≠ "java/lang/invoke/VarHandle" ∧ (parseMethodDescriptor yX9_word.desc).map (fun d => d.parameters.length) = some 1 := by decide +kernel
theorem hdW_L_image : yL_image.cls ≠ "java/lang/invoke/MethodHandle" ∧ yL_image.cls ≠ "java/lang/invoke/VarHandle" ∧ (parseMethodDescriptor yL_image.desc).map (fun d => d.parameters.length) = some 5 := by decide +kernel
theorem hdW_X9_image : yX9_image.cls ≠ "java/lang/invoke/MethodHandle" ∧ yX9_image.cls ≠ "java/lang/invoke/VarHandle" ∧ (parseMethodDescriptor yX9_image.desc).map (fun d => d.parameters.length) = some 3 := by decide +kernel
theorem hdW_L_nodes : yL_nodes.cls ≠ "java/lang/invoke/MethodHandle" ∧ yL_nodes.cls ≠ "java/lang/invoke/VarHandle" ∧ (parseMethodDescriptor yL_nodes.desc).map (fun d => d.parameters.length) = some 3 := by decide +kernel
theorem hdW_X9_nodes : yX9_nodes.cls ≠ "java/lang/invoke/MethodHandle" ∧ yX9_nodes.cls ≠ "java/lang/invoke/VarHandle" ∧ (parseMethodDescriptor yX9_nodes.desc).map (fun d => d.parameters.length) = some 1 := by decide +kernel
theorem hdW_L_wire : yL_wire.cls ≠ "java/lang/invoke/MethodHandle" ∧ yL_wire.cls ≠ "java/lang/invoke/VarHandle" ∧ (parseMethodDescriptor yL_wire.desc).map (fun d => d.parameters.length) = some 4 := by decide +kernel
theorem hdW_X9_wire : yX9_wire.cls ≠ "java/lang/invoke/MethodHandle" ∧ yX9_wire.cls ≠ "java/lang/invoke/VarHandle" ∧ (parseMethodDescriptor yX9_wire.desc).map (fun d => d.parameters.length) = some 2 := by decide +kernel
theorem hdW_X8_trees : yX8_trees.cls ≠ "java/lang/invoke/MethodHandle" ∧ yX8_trees.cls ≠ "java/lang/invoke/VarHandle" ∧ (parseMethodDescriptor yX8_trees.desc).map (fun d => d.parameters.length) = some 0 := by decide +kernel
theorem hdW_X9_trees : yX9_trees.cls ≠ "java/lang/invoke/MethodHandle" ∧ yX9_trees.cls ≠ "java/lang/invoke/VarHandle" ∧ (parseMethodDescriptor yX9_trees.desc).map (fun d => d.parameters.length) = some 0 := by decide +kernel
theorem hdW_X8_treesAnew : yX8_treesAnew.cls ≠ "java/lang/invoke/MethodHandle" ∧ yX8_treesAnew.cls ≠ "java/lang/invoke/VarHandle" ∧ (parseMethodDescriptor yX8_treesAnew.desc).map (fun d => d.parameters.length) = some 0 := by decide +kernel
theorem hdW_X9_treesAnew : yX9_treesAnew.cls ≠ "java/lang/invoke/MethodHandle" ∧ yX9_treesAnew.cls ≠ "java/lang/invoke/VarHandle" ∧ (parseMethodDescriptor yX9_treesAnew.desc).map (fun d => d.parameters.length) = some 0 := by decide +kernel
theorem hdW_L_side : yL_side.cls ≠ "java/lang/invoke/MethodHandle" ∧ yL_side.cls ≠ "java/lang/invoke/VarHandle" ∧ (parseMethodDescriptor yL_side.desc).map (fun d => d.parameters.length) = some 5 := by decide +kernel
theorem hdW_X9_side : yX9_side.cls ≠ "java/lang/invoke/MethodHandle" ∧ yX9_side.cls ≠ "java/lang/invoke/VarHandle" ∧ (parseMethodDescriptor yX9_side.desc).map (fun d => d.parameters.length) = some 3 := by decide +kernel
/-! the law's cases 0 to 9 -/
section KLC0
variable {p : Program} {l : Launch} {e : Env} {R : Room} {s : State} {m : MethodId} {args : Array Value} {below : List Frame} {meth : Method} {c : Code} {H : Heap} {locs : List Loc} {cells slots : Nat} {Q : State → Prop}
variable {ls : Array Slot} {G : kG} {B0 h hm po pd b L i : Nat} {f : kH} {xs : Nat → Int32} {m0 : mSt}
set_option maxHeartbeats 2000000 in
theorem law_c0 (hst : l.stackTraces = false) (C : kC G B0 p m c cL_law 9 s args wsL_law RL) (hX : kX G B0 s f H locs) (hXs : va_X b L xs s s.heap) (hbl : b < s.heap.size) (hbA : ¬ kAb B0 b) (hL : L ≤ 3072) (hi : i + 6 ≤ L) (hR : 302 ≤ R.frames ∧ 21000 ≤ R.locals) (hcl : cells + 1000 ≤ R.cells ∧ slots + 14000 ≤ R.slots) (hI : Inv G h hm po pd f m0) (hl : lv_has ls 9 (lwL b h hm po pd i))
    (K : ∀ (f1 : kH) (H1 : Heap) (locs1 : List Loc) (m1 : mSt) (ls1 : Array Slot), kX G B0 s f1 H1 locs1 → Inv G h hm po pd f1 m1 → lv_has ls1 9 (lwL b h hm po pd i) → W p l e R s m args below meth c H1 locs1 (cells + 1000) (slots + 14000) Q (F0 m 2173 ls1 [])) : W p l e R s m args below meth c H locs cells slots Q (F0 m 180 ls []) := by
  obtain ⟨o9, c9, hI⟩ := hI
  refine lv_aload_n C.x C.b dL_law_180 rfl (lv_at hl 1 rfl) ?_
  obtain ⟨k, rm, mc, ms, Φ, hk, ⟨q1, q2, q3, q4, q5, q6⟩, hLm, hN⟩ := op_split (l := l) (B0 := B0) hst hI (xs (i + 1))
  refine k_arg C hX hXs hbl hbA hL (i := i) 1 (by omega) (lv_at hl 0 rfl) (lv_at hl 5 rfl) (by rfl) (by decide) dL_law_181 dL_law_182 dL_law_184 dL_law_185 dL_law_186 ?_
  refine lv_aload_n C.x C.b dL_law_187 rfl (lv_at hl 3 rfl) ?_
  refine k_callX (vx_runSX (As := [.ref h, .int (xs (i + 1)), .ref po]) (rest := []) C.1 hLm (vx_cwSW 3 C.ts gL_law_L_split rfl q1 q2 hdW_L_split ⟨by omega, by show 8 + (4 + 11) + rm.locals ≤ R.locals; omega⟩) (k_preS C hX) rfl rfl hl.1 rfl (lv_room (Nat.le_of_ble_eq_true rfl)) dL_law_188 ⟨by omega, by omega⟩) hX (fun r9 f2 H locs hp2 hX => ?_)
  obtain ⟨hr9, hp2⟩ := hp2
  subst hr9
  obtain ⟨rm2, mc2, ms2, Ψ, ⟨w1, w2, w3, w4, w5, w6⟩, hMm, ⟨m9, hm9⟩, hE⟩ := hN f2 hp2
  refine lv_istore (lv' := [(6, .int (nI k)), (0, .ref b), (1, .ref h), (2, .ref hm), (3, .ref po), (4, .ref pd), (5, .int (nI i))]) C.x C.b dL_law_191 hl (by decide) rfl (fun ls hl => ?_)
  refine lv_aload_n C.x C.b dL_law_193 rfl (lv_at hl 3 rfl) ?_
  refine k_arg C hX hXs hbl hbA hL (i := i) 1 (by omega) (lv_at hl 1 rfl) (lv_at hl 6 rfl) (by rfl) (by decide) dL_law_194 dL_law_195 dL_law_197 dL_law_198 dL_law_199 ?_
  refine k_calli (va_runV (As := [.int (xs (i + 1))]) (rest := []) C.1 hMm (cwV 1 C.ts gL_law_X9_split rfl w1 w2 ⟨rfl, hdW_X9_split⟩ ⟨by omega, by show 8 + (5 + 11) + rm2.locals ≤ R.locals; omega⟩) (k_preV C hX (hm9.at 0 rfl) rfl) rfl rfl hl.1 rfl (lv_room (Nat.le_of_ble_eq_true rfl)) dL_law_200 ⟨by omega, by omega⟩) hX (fun r f3 H locs hp3 hX => ?_)
  obtain ⟨m2, hI3, h27, hE0⟩ := hE r f3 hp3
  obtain ⟨o3, c3, hJ3⟩ := id hI3
  refine lv_istore (lv' := [(7, .int r), (6, .int (nI k)), (0, .ref b), (1, .ref h), (2, .ref hm), (3, .ref po), (4, .ref pd), (5, .int (nI i))]) C.x C.b dL_law_203 hl (by decide) rfl (fun ls hl => ?_)
  refine k_thr (tgt := 233) C hX hJ3.mC h27 hk hl.1 (lv_at hl 4 rfl) (lv_at hl 1 rfl) hR ⟨by omega, by omega⟩ (by rfl) (by decide) dL_law_205 dL_law_206 dL_law_209 dL_law_211 dL_law_216 dL_law_218 (fun k9 H locs hX => ?_) (fun H locs hX => ?_)
  · obtain ⟨g9, hg1, hg2⟩ := hE0 k9
    refine k_cmpI C hX hg1 hg2 (lv_at hl 5 rfl) (lv_at hl 0 rfl) (by rfl) dL_law_221 dL_law_222 dL_law_223 dL_law_224 dL_law_226 dL_law_227 dL_law_228 ?_
    refine lv_goto (tgt := 2173) C.x C.b dL_law_233 (by decide) ?_
    refine W.widen (k := cells + 1000) (n := slots + 14000) (by omega) (by omega) ?_
    exact K f3 _ _ m2 ls hX hI3 (lv_sub hl [2, 3, 4, 5, 6, 7] rfl)
  · refine lv_goto (tgt := 2173) C.x C.b dL_law_233 (by decide) ?_
    refine W.widen (k := cells + 1000) (n := slots + 14000) (by omega) (by omega) ?_
    exact K f3 _ _ m2 ls hX hI3 (lv_sub hl [2, 3, 4, 5, 6, 7] rfl)
set_option maxHeartbeats 2000000 in
theorem law_c1 (hst : l.stackTraces = false) (C : kC G B0 p m c cL_law 9 s args wsL_law RL) (hX : kX G B0 s f H locs) (hXs : va_X b L xs s s.heap) (hbl : b < s.heap.size) (hbA : ¬ kAb B0 b) (hL : L ≤ 3072) (hi : i + 6 ≤ L) (hR : 302 ≤ R.frames ∧ 21000 ≤ R.locals) (hcl : cells + 1000 ≤ R.cells ∧ slots + 14000 ≤ R.slots) (hI : Inv G h hm po pd f m0) (hl : lv_has ls 9 (lwL b h hm po pd i))
    (K : ∀ (f1 : kH) (H1 : Heap) (locs1 : List Loc) (m1 : mSt) (ls1 : Array Slot), kX G B0 s f1 H1 locs1 → Inv G h hm po pd f1 m1 → lv_has ls1 9 (lwL b h hm po pd i) → W p l e R s m args below meth c H1 locs1 (cells + 1000) (slots + 14000) Q (F0 m 2173 ls1 [])) : W p l e R s m args below meth c H locs cells slots Q (F0 m 236 ls []) := by
  obtain ⟨o9, c9, hI⟩ := hI
  refine lv_aload_n C.x C.b dL_law_236 rfl (lv_at hl 1 rfl) ?_
  obtain ⟨k, rm, mc, ms, Φ, hk, ⟨q1, q2, q3, q4, q5, q6⟩, hLm, hN⟩ := op_flip (l := l) (B0 := B0) hst hI (xs (i + 1)) (xs (i + 2))
  refine k_arg C hX hXs hbl hbA hL (i := i) 1 (by omega) (lv_at hl 0 rfl) (lv_at hl 5 rfl) (by rfl) (by decide) dL_law_237 dL_law_238 dL_law_240 dL_law_241 dL_law_242 ?_
  refine k_arg C hX hXs hbl hbA hL (i := i) 2 (by omega) (lv_at hl 0 rfl) (lv_at hl 5 rfl) (by rfl) (by decide) dL_law_243 dL_law_244 dL_law_246 dL_law_247 dL_law_248 ?_
  refine lv_aload_n C.x C.b dL_law_249 rfl (lv_at hl 3 rfl) ?_
  refine k_callX (vx_runSX (As := [.ref h, .int (xs (i + 1)), .int (xs (i + 2)), .ref po]) (rest := []) C.1 hLm (vx_cwSW 4 C.ts gL_law_L_flip rfl q1 q2 hdW_L_flip ⟨by omega, by show 8 + (5 + 11) + rm.locals ≤ R.locals; omega⟩) (k_preS C hX) rfl rfl hl.1 rfl (lv_room (Nat.le_of_ble_eq_true rfl)) dL_law_250 ⟨by omega, by omega⟩) hX (fun r9 f2 H locs hp2 hX => ?_)
  obtain ⟨hr9, hp2⟩ := hp2
  subst hr9
  obtain ⟨rm2, mc2, ms2, Ψ, ⟨w1, w2, w3, w4, w5, w6⟩, hMm, ⟨m9, hm9⟩, hE⟩ := hN f2 hp2
  refine lv_istore (lv' := [(6, .int (nI k)), (0, .ref b), (1, .ref h), (2, .ref hm), (3, .ref po), (4, .ref pd), (5, .int (nI i))]) C.x C.b dL_law_253 hl (by decide) rfl (fun ls hl => ?_)
  refine lv_aload_n C.x C.b dL_law_255 rfl (lv_at hl 3 rfl) ?_
  refine k_arg C hX hXs hbl hbA hL (i := i) 1 (by omega) (lv_at hl 1 rfl) (lv_at hl 6 rfl) (by rfl) (by decide) dL_law_256 dL_law_257 dL_law_259 dL_law_260 dL_law_261 ?_
  refine k_arg C hX hXs hbl hbA hL (i := i) 2 (by omega) (lv_at hl 1 rfl) (lv_at hl 6 rfl) (by rfl) (by decide) dL_law_262 dL_law_263 dL_law_265 dL_law_266 dL_law_267 ?_
  refine k_calli (va_runV (As := [.int (xs (i + 1)), .int (xs (i + 2))]) (rest := []) C.1 hMm (cwV 2 C.ts gL_law_X9_flip rfl w1 w2 ⟨rfl, hdW_X9_flip⟩ ⟨by omega, by show 8 + (7 + 11) + rm2.locals ≤ R.locals; omega⟩) (k_preV C hX (hm9.at 0 rfl) rfl) rfl rfl hl.1 rfl (lv_room (Nat.le_of_ble_eq_true rfl)) dL_law_268 ⟨by omega, by omega⟩) hX (fun r f3 H locs hp3 hX => ?_)
  obtain ⟨m2, hI3, h27, hE0⟩ := hE r f3 hp3
  obtain ⟨o3, c3, hJ3⟩ := id hI3
  refine lv_istore (lv' := [(7, .int r), (6, .int (nI k)), (0, .ref b), (1, .ref h), (2, .ref hm), (3, .ref po), (4, .ref pd), (5, .int (nI i))]) C.x C.b dL_law_271 hl (by decide) rfl (fun ls hl => ?_)
  refine k_thr (tgt := 301) C hX hJ3.mC h27 hk hl.1 (lv_at hl 4 rfl) (lv_at hl 1 rfl) hR ⟨by omega, by omega⟩ (by rfl) (by decide) dL_law_273 dL_law_274 dL_law_277 dL_law_279 dL_law_284 dL_law_286 (fun k9 H locs hX => ?_) (fun H locs hX => ?_)
  · obtain ⟨g9, hg1, hg2⟩ := hE0 k9
    refine k_cmpI C hX hg1 hg2 (lv_at hl 5 rfl) (lv_at hl 0 rfl) (by rfl) dL_law_289 dL_law_290 dL_law_291 dL_law_292 dL_law_294 dL_law_295 dL_law_296 ?_
    refine lv_goto (tgt := 2173) C.x C.b dL_law_301 (by decide) ?_
    refine W.widen (k := cells + 1000) (n := slots + 14000) (by omega) (by omega) ?_
    exact K f3 _ _ m2 ls hX hI3 (lv_sub hl [2, 3, 4, 5, 6, 7] rfl)
  · refine lv_goto (tgt := 2173) C.x C.b dL_law_301 (by decide) ?_
    refine W.widen (k := cells + 1000) (n := slots + 14000) (by omega) (by omega) ?_
    exact K f3 _ _ m2 ls hX hI3 (lv_sub hl [2, 3, 4, 5, 6, 7] rfl)
set_option maxHeartbeats 2000000 in
theorem law_c2 (hst : l.stackTraces = false) (C : kC G B0 p m c cL_law 9 s args wsL_law RL) (hX : kX G B0 s f H locs) (hXs : va_X b L xs s s.heap) (hbl : b < s.heap.size) (hbA : ¬ kAb B0 b) (hL : L ≤ 3072) (hi : i + 6 ≤ L) (hR : 302 ≤ R.frames ∧ 21000 ≤ R.locals) (hcl : cells + 1000 ≤ R.cells ∧ slots + 14000 ≤ R.slots) (hI : Inv G h hm po pd f m0) (hl : lv_has ls 9 (lwL b h hm po pd i))
    (K : ∀ (f1 : kH) (H1 : Heap) (locs1 : List Loc) (m1 : mSt) (ls1 : Array Slot), kX G B0 s f1 H1 locs1 → Inv G h hm po pd f1 m1 → lv_has ls1 9 (lwL b h hm po pd i) → W p l e R s m args below meth c H1 locs1 (cells + 1000) (slots + 14000) Q (F0 m 2173 ls1 [])) : W p l e R s m args below meth c H locs cells slots Q (F0 m 304 ls []) := by
  obtain ⟨o9, c9, hI⟩ := hI
  refine lv_aload_n C.x C.b dL_law_304 rfl (lv_at hl 1 rfl) ?_
  obtain ⟨k, rm, mc, ms, Φ, hk, ⟨q1, q2, q3, q4, q5, q6⟩, hLm, hN⟩ := op_corner (l := l) (B0 := B0) hst hI (xs (i + 1)) (xs (i + 2))
  refine k_arg C hX hXs hbl hbA hL (i := i) 1 (by omega) (lv_at hl 0 rfl) (lv_at hl 5 rfl) (by rfl) (by decide) dL_law_305 dL_law_306 dL_law_308 dL_law_309 dL_law_310 ?_
  refine k_arg C hX hXs hbl hbA hL (i := i) 2 (by omega) (lv_at hl 0 rfl) (lv_at hl 5 rfl) (by rfl) (by decide) dL_law_311 dL_law_312 dL_law_314 dL_law_315 dL_law_316 ?_
  refine lv_aload_n C.x C.b dL_law_317 rfl (lv_at hl 3 rfl) ?_
  refine k_callX (vx_runSX (As := [.ref h, .int (xs (i + 1)), .int (xs (i + 2)), .ref po]) (rest := []) C.1 hLm (vx_cwSW 4 C.ts gL_law_L_corner rfl q1 q2 hdW_L_corner ⟨by omega, by show 8 + (5 + 11) + rm.locals ≤ R.locals; omega⟩) (k_preS C hX) rfl rfl hl.1 rfl (lv_room (Nat.le_of_ble_eq_true rfl)) dL_law_318 ⟨by omega, by omega⟩) hX (fun r9 f2 H locs hp2 hX => ?_)
  obtain ⟨hr9, hp2⟩ := hp2
  subst hr9
  obtain ⟨rm2, mc2, ms2, Ψ, ⟨w1, w2, w3, w4, w5, w6⟩, hMm, ⟨m9, hm9⟩, hE⟩ := hN f2 hp2
  refine lv_istore (lv' := [(6, .int (nI k)), (0, .ref b), (1, .ref h), (2, .ref hm), (3, .ref po), (4, .ref pd), (5, .int (nI i))]) C.x C.b dL_law_321 hl (by decide) rfl (fun ls hl => ?_)
  refine lv_aload_n C.x C.b dL_law_323 rfl (lv_at hl 3 rfl) ?_
  refine k_arg C hX hXs hbl hbA hL (i := i) 1 (by omega) (lv_at hl 1 rfl) (lv_at hl 6 rfl) (by rfl) (by decide) dL_law_324 dL_law_325 dL_law_327 dL_law_328 dL_law_329 ?_
  refine k_arg C hX hXs hbl hbA hL (i := i) 2 (by omega) (lv_at hl 1 rfl) (lv_at hl 6 rfl) (by rfl) (by decide) dL_law_330 dL_law_331 dL_law_333 dL_law_334 dL_law_335 ?_
  refine k_calli (va_runV (As := [.int (xs (i + 1)), .int (xs (i + 2))]) (rest := []) C.1 hMm (cwV 2 C.ts gL_law_X9_corner rfl w1 w2 ⟨rfl, hdW_X9_corner⟩ ⟨by omega, by show 8 + (3 + 11) + rm2.locals ≤ R.locals; omega⟩) (k_preV C hX (hm9.at 0 rfl) rfl) rfl rfl hl.1 rfl (lv_room (Nat.le_of_ble_eq_true rfl)) dL_law_336 ⟨by omega, by omega⟩) hX (fun r f3 H locs hp3 hX => ?_)
  obtain ⟨m2, hI3, h27, hE0⟩ := hE r f3 hp3
  obtain ⟨o3, c3, hJ3⟩ := id hI3
  refine lv_istore (lv' := [(7, .int r), (6, .int (nI k)), (0, .ref b), (1, .ref h), (2, .ref hm), (3, .ref po), (4, .ref pd), (5, .int (nI i))]) C.x C.b dL_law_339 hl (by decide) rfl (fun ls hl => ?_)
  refine k_thr (tgt := 369) C hX hJ3.mC h27 hk hl.1 (lv_at hl 4 rfl) (lv_at hl 1 rfl) hR ⟨by omega, by omega⟩ (by rfl) (by decide) dL_law_341 dL_law_342 dL_law_345 dL_law_347 dL_law_352 dL_law_354 (fun k9 H locs hX => ?_) (fun H locs hX => ?_)
  · obtain ⟨g9, hg1, hg2⟩ := hE0 k9
    refine k_cmpI C hX hg1 hg2 (lv_at hl 5 rfl) (lv_at hl 0 rfl) (by rfl) dL_law_357 dL_law_358 dL_law_359 dL_law_360 dL_law_362 dL_law_363 dL_law_364 ?_
    refine lv_goto (tgt := 2173) C.x C.b dL_law_369 (by decide) ?_
    refine W.widen (k := cells + 1000) (n := slots + 14000) (by omega) (by omega) ?_
    exact K f3 _ _ m2 ls hX hI3 (lv_sub hl [2, 3, 4, 5, 6, 7] rfl)
  · refine lv_goto (tgt := 2173) C.x C.b dL_law_369 (by decide) ?_
    refine W.widen (k := cells + 1000) (n := slots + 14000) (by omega) (by omega) ?_
    exact K f3 _ _ m2 ls hX hI3 (lv_sub hl [2, 3, 4, 5, 6, 7] rfl)
set_option maxHeartbeats 2000000 in
theorem law_c3 (hst : l.stackTraces = false) (C : kC G B0 p m c cL_law 9 s args wsL_law RL) (hX : kX G B0 s f H locs) (hXs : va_X b L xs s s.heap) (hbl : b < s.heap.size) (hbA : ¬ kAb B0 b) (hL : L ≤ 3072) (hi : i + 6 ≤ L) (hR : 302 ≤ R.frames ∧ 21000 ≤ R.locals) (hcl : cells + 1000 ≤ R.cells ∧ slots + 14000 ≤ R.slots) (hI : Inv G h hm po pd f m0) (hl : lv_has ls 9 (lwL b h hm po pd i))
    (K : ∀ (f1 : kH) (H1 : Heap) (locs1 : List Loc) (m1 : mSt) (ls1 : Array Slot), kX G B0 s f1 H1 locs1 → Inv G h hm po pd f1 m1 → lv_has ls1 9 (lwL b h hm po pd i) → W p l e R s m args below meth c H1 locs1 (cells + 1000) (slots + 14000) Q (F0 m 2173 ls1 [])) : W p l e R s m args below meth c H locs cells slots Q (F0 m 372 ls []) := by
  obtain ⟨o9, c9, hI⟩ := hI
  refine lv_aload_n C.x C.b dL_law_372 rfl (lv_at hl 1 rfl) ?_
  obtain ⟨k, rm, mc, ms, Φ, hk, ⟨q1, q2, q3, q4, q5, q6⟩, hLm, hN⟩ := op_around (l := l) (B0 := B0) hst hI (xs (i + 1)) (xs (i + 2))
  refine k_arg C hX hXs hbl hbA hL (i := i) 1 (by omega) (lv_at hl 0 rfl) (lv_at hl 5 rfl) (by rfl) (by decide) dL_law_373 dL_law_374 dL_law_376 dL_law_377 dL_law_378 ?_
  refine k_arg C hX hXs hbl hbA hL (i := i) 2 (by omega) (lv_at hl 0 rfl) (lv_at hl 5 rfl) (by rfl) (by decide) dL_law_379 dL_law_380 dL_law_382 dL_law_383 dL_law_384 ?_
  refine lv_aload_n C.x C.b dL_law_385 rfl (lv_at hl 3 rfl) ?_
  refine k_callX (vx_runSX (As := [.ref h, .int (xs (i + 1)), .int (xs (i + 2)), .ref po]) (rest := []) C.1 hLm (vx_cwSW 4 C.ts gL_law_L_around rfl q1 q2 hdW_L_around ⟨by omega, by show 8 + (5 + 11) + rm.locals ≤ R.locals; omega⟩) (k_preS C hX) rfl rfl hl.1 rfl (lv_room (Nat.le_of_ble_eq_true rfl)) dL_law_386 ⟨by omega, by omega⟩) hX (fun r9 f2 H locs hp2 hX => ?_)
  obtain ⟨hr9, hp2⟩ := hp2
  subst hr9
  obtain ⟨rm2, mc2, ms2, Ψ, ⟨w1, w2, w3, w4, w5, w6⟩, hMm, ⟨m9, hm9⟩, hE⟩ := hN f2 hp2
  refine lv_istore (lv' := [(6, .int (nI k)), (0, .ref b), (1, .ref h), (2, .ref hm), (3, .ref po), (4, .ref pd), (5, .int (nI i))]) C.x C.b dL_law_389 hl (by decide) rfl (fun ls hl => ?_)
  refine lv_aload_n C.x C.b dL_law_391 rfl (lv_at hl 3 rfl) ?_
  refine k_arg C hX hXs hbl hbA hL (i := i) 1 (by omega) (lv_at hl 1 rfl) (lv_at hl 6 rfl) (by rfl) (by decide) dL_law_392 dL_law_393 dL_law_395 dL_law_396 dL_law_397 ?_
  refine k_arg C hX hXs hbl hbA hL (i := i) 2 (by omega) (lv_at hl 1 rfl) (lv_at hl 6 rfl) (by rfl) (by decide) dL_law_398 dL_law_399 dL_law_401 dL_law_402 dL_law_403 ?_
  refine k_calli (va_runV (As := [.int (xs (i + 1)), .int (xs (i + 2))]) (rest := []) C.1 hMm (cwV 2 C.ts gL_law_X9_around rfl w1 w2 ⟨rfl, hdW_X9_around⟩ ⟨by omega, by show 8 + (5 + 11) + rm2.locals ≤ R.locals; omega⟩) (k_preV C hX (hm9.at 0 rfl) rfl) rfl rfl hl.1 rfl (lv_room (Nat.le_of_ble_eq_true rfl)) dL_law_404 ⟨by omega, by omega⟩) hX (fun r f3 H locs hp3 hX => ?_)
  obtain ⟨m2, hI3, h27, hE0⟩ := hE r f3 hp3
  obtain ⟨o3, c3, hJ3⟩ := id hI3
  refine lv_istore (lv' := [(7, .int r), (6, .int (nI k)), (0, .ref b), (1, .ref h), (2, .ref hm), (3, .ref po), (4, .ref pd), (5, .int (nI i))]) C.x C.b dL_law_407 hl (by decide) rfl (fun ls hl => ?_)
  refine k_thr (tgt := 437) C hX hJ3.mC h27 hk hl.1 (lv_at hl 4 rfl) (lv_at hl 1 rfl) hR ⟨by omega, by omega⟩ (by rfl) (by decide) dL_law_409 dL_law_410 dL_law_413 dL_law_415 dL_law_420 dL_law_422 (fun k9 H locs hX => ?_) (fun H locs hX => ?_)
  · obtain ⟨g9, hg1, hg2⟩ := hE0 k9
    refine k_cmpI C hX hg1 hg2 (lv_at hl 5 rfl) (lv_at hl 0 rfl) (by rfl) dL_law_425 dL_law_426 dL_law_427 dL_law_428 dL_law_430 dL_law_431 dL_law_432 ?_
    refine lv_goto (tgt := 2173) C.x C.b dL_law_437 (by decide) ?_
    refine W.widen (k := cells + 1000) (n := slots + 14000) (by omega) (by omega) ?_
    exact K f3 _ _ m2 ls hX hI3 (lv_sub hl [2, 3, 4, 5, 6, 7] rfl)
  · refine lv_goto (tgt := 2173) C.x C.b dL_law_437 (by decide) ?_
    refine W.widen (k := cells + 1000) (n := slots + 14000) (by omega) (by omega) ?_
    exact K f3 _ _ m2 ls hX hI3 (lv_sub hl [2, 3, 4, 5, 6, 7] rfl)
set_option maxHeartbeats 2000000 in
theorem law_c4 (hst : l.stackTraces = false) (C : kC G B0 p m c cL_law 9 s args wsL_law RL) (hX : kX G B0 s f H locs) (hXs : va_X b L xs s s.heap) (hbl : b < s.heap.size) (hbA : ¬ kAb B0 b) (hL : L ≤ 3072) (hi : i + 6 ≤ L) (hR : 302 ≤ R.frames ∧ 21000 ≤ R.locals) (hcl : cells + 1000 ≤ R.cells ∧ slots + 14000 ≤ R.slots) (hI : Inv G h hm po pd f m0) (hl : lv_has ls 9 (lwL b h hm po pd i))
    (K : ∀ (f1 : kH) (H1 : Heap) (locs1 : List Loc) (m1 : mSt) (ls1 : Array Slot), kX G B0 s f1 H1 locs1 → Inv G h hm po pd f1 m1 → lv_has ls1 9 (lwL b h hm po pd i) → W p l e R s m args below meth c H1 locs1 (cells + 1000) (slots + 14000) Q (F0 m 2173 ls1 [])) : W p l e R s m args below meth c H locs cells slots Q (F0 m 440 ls []) := by
  obtain ⟨o9, c9, hI⟩ := hI
  refine lv_aload_n C.x C.b dL_law_440 rfl (lv_at hl 1 rfl) ?_
  obtain ⟨k, rm, mc, ms, Φ, hk, ⟨q1, q2, q3, q4, q5, q6⟩, hLm, hN⟩ := op_net (l := l) (B0 := B0) hst hI (xs (i + 1))
  refine k_arg C hX hXs hbl hbA hL (i := i) 1 (by omega) (lv_at hl 0 rfl) (lv_at hl 5 rfl) (by rfl) (by decide) dL_law_441 dL_law_442 dL_law_444 dL_law_445 dL_law_446 ?_
  refine lv_aload_n C.x C.b dL_law_447 rfl (lv_at hl 3 rfl) ?_
  refine k_callX (vx_runSX (As := [.ref h, .int (xs (i + 1)), .ref po]) (rest := []) C.1 hLm (vx_cwSW 3 C.ts gL_law_L_net rfl q1 q2 hdW_L_net ⟨by omega, by show 8 + (4 + 11) + rm.locals ≤ R.locals; omega⟩) (k_preS C hX) rfl rfl hl.1 rfl (lv_room (Nat.le_of_ble_eq_true rfl)) dL_law_448 ⟨by omega, by omega⟩) hX (fun r9 f2 H locs hp2 hX => ?_)
  obtain ⟨hr9, hp2⟩ := hp2
  subst hr9
  obtain ⟨rm2, mc2, ms2, Ψ, ⟨w1, w2, w3, w4, w5, w6⟩, hMm, ⟨m9, hm9⟩, hE⟩ := hN f2 hp2
  refine lv_istore (lv' := [(6, .int (nI k)), (0, .ref b), (1, .ref h), (2, .ref hm), (3, .ref po), (4, .ref pd), (5, .int (nI i))]) C.x C.b dL_law_451 hl (by decide) rfl (fun ls hl => ?_)
  refine lv_aload_n C.x C.b dL_law_453 rfl (lv_at hl 3 rfl) ?_
  refine k_arg C hX hXs hbl hbA hL (i := i) 1 (by omega) (lv_at hl 1 rfl) (lv_at hl 6 rfl) (by rfl) (by decide) dL_law_454 dL_law_455 dL_law_457 dL_law_458 dL_law_459 ?_
  refine k_calli (va_runV (As := [.int (xs (i + 1))]) (rest := []) C.1 hMm (cwV 1 C.ts gL_law_X9_net rfl w1 w2 ⟨rfl, hdW_X9_net⟩ ⟨by omega, by show 8 + (6 + 11) + rm2.locals ≤ R.locals; omega⟩) (k_preV C hX (hm9.at 0 rfl) rfl) rfl rfl hl.1 rfl (lv_room (Nat.le_of_ble_eq_true rfl)) dL_law_460 ⟨by omega, by omega⟩) hX (fun r f3 H locs hp3 hX => ?_)
  obtain ⟨m2, hI3, h27, hE0⟩ := hE r f3 hp3
  obtain ⟨o3, c3, hJ3⟩ := id hI3
  refine lv_istore (lv' := [(7, .int r), (6, .int (nI k)), (0, .ref b), (1, .ref h), (2, .ref hm), (3, .ref po), (4, .ref pd), (5, .int (nI i))]) C.x C.b dL_law_463 hl (by decide) rfl (fun ls hl => ?_)
  refine k_thr (tgt := 493) C hX hJ3.mC h27 hk hl.1 (lv_at hl 4 rfl) (lv_at hl 1 rfl) hR ⟨by omega, by omega⟩ (by rfl) (by decide) dL_law_465 dL_law_466 dL_law_469 dL_law_471 dL_law_476 dL_law_478 (fun k9 H locs hX => ?_) (fun H locs hX => ?_)
  · obtain ⟨g9, hg1, hg2⟩ := hE0 k9
    refine k_cmpI C hX hg1 hg2 (lv_at hl 5 rfl) (lv_at hl 0 rfl) (by rfl) dL_law_481 dL_law_482 dL_law_483 dL_law_484 dL_law_486 dL_law_487 dL_law_488 ?_
    refine lv_goto (tgt := 2173) C.x C.b dL_law_493 (by decide) ?_
    refine W.widen (k := cells + 1000) (n := slots + 14000) (by omega) (by omega) ?_
    exact K f3 _ _ m2 ls hX hI3 (lv_sub hl [2, 3, 4, 5, 6, 7] rfl)
  · refine lv_goto (tgt := 2173) C.x C.b dL_law_493 (by decide) ?_
    refine W.widen (k := cells + 1000) (n := slots + 14000) (by omega) (by omega) ?_
    exact K f3 _ _ m2 ls hX hI3 (lv_sub hl [2, 3, 4, 5, 6, 7] rfl)
set_option maxHeartbeats 2000000 in
theorem law_c5 (hst : l.stackTraces = false) (C : kC G B0 p m c cL_law 9 s args wsL_law RL) (hX : kX G B0 s f H locs) (hXs : va_X b L xs s s.heap) (hbl : b < s.heap.size) (hbA : ¬ kAb B0 b) (hL : L ≤ 3072) (hi : i + 6 ≤ L) (hR : 302 ≤ R.frames ∧ 21000 ≤ R.locals) (hcl : cells + 1000 ≤ R.cells ∧ slots + 14000 ≤ R.slots) (hI : Inv G h hm po pd f m0) (hl : lv_has ls 9 (lwL b h hm po pd i))
    (K : ∀ (f1 : kH) (H1 : Heap) (locs1 : List Loc) (m1 : mSt) (ls1 : Array Slot), kX G B0 s f1 H1 locs1 → Inv G h hm po pd f1 m1 → lv_has ls1 9 (lwL b h hm po pd i) → W p l e R s m args below meth c H1 locs1 (cells + 1000) (slots + 14000) Q (F0 m 2173 ls1 [])) : W p l e R s m args below meth c H locs cells slots Q (F0 m 496 ls []) := by
  obtain ⟨o9, c9, hI⟩ := hI
  refine lv_aload_n C.x C.b dL_law_496 rfl (lv_at hl 1 rfl) ?_
  obtain ⟨k, rm, mc, ms, Φ, hk, ⟨q1, q2, q3, q4, q5, q6⟩, hLm, hN⟩ := op_disk (l := l) (B0 := B0) hst hI (xs (i + 1)) (xs (i + 2)) (xs (i + 3))
  refine k_arg C hX hXs hbl hbA hL (i := i) 1 (by omega) (lv_at hl 0 rfl) (lv_at hl 5 rfl) (by rfl) (by decide) dL_law_497 dL_law_498 dL_law_500 dL_law_501 dL_law_502 ?_
  refine k_arg C hX hXs hbl hbA hL (i := i) 2 (by omega) (lv_at hl 0 rfl) (lv_at hl 5 rfl) (by rfl) (by decide) dL_law_503 dL_law_504 dL_law_506 dL_law_507 dL_law_508 ?_
  refine k_arg C hX hXs hbl hbA hL (i := i) 3 (by omega) (lv_at hl 0 rfl) (lv_at hl 5 rfl) (by rfl) (by decide) dL_law_509 dL_law_510 dL_law_512 dL_law_513 dL_law_514 ?_
  refine lv_aload_n C.x C.b dL_law_515 rfl (lv_at hl 3 rfl) ?_
  refine k_callX (vx_runSX (As := [.ref h, .int (xs (i + 1)), .int (xs (i + 2)), .int (xs (i + 3)), .ref po]) (rest := []) C.1 hLm (vx_cwSW 5 C.ts gL_law_L_disk rfl q1 q2 hdW_L_disk ⟨by omega, by show 8 + (6 + 11) + rm.locals ≤ R.locals; omega⟩) (k_preS C hX) rfl rfl hl.1 rfl (lv_room (Nat.le_of_ble_eq_true rfl)) dL_law_516 ⟨by omega, by omega⟩) hX (fun r9 f2 H locs hp2 hX => ?_)
  obtain ⟨hr9, hp2⟩ := hp2
  subst hr9
  obtain ⟨rm2, mc2, ms2, Ψ, ⟨w1, w2, w3, w4, w5, w6⟩, hMm, ⟨m9, hm9⟩, hE⟩ := hN f2 hp2
  refine lv_istore (lv' := [(6, .int (nI k)), (0, .ref b), (1, .ref h), (2, .ref hm), (3, .ref po), (4, .ref pd), (5, .int (nI i))]) C.x C.b dL_law_519 hl (by decide) rfl (fun ls hl => ?_)
  refine lv_aload_n C.x C.b dL_law_521 rfl (lv_at hl 3 rfl) ?_
  refine k_arg C hX hXs hbl hbA hL (i := i) 1 (by omega) (lv_at hl 1 rfl) (lv_at hl 6 rfl) (by rfl) (by decide) dL_law_522 dL_law_523 dL_law_525 dL_law_526 dL_law_527 ?_
  refine k_arg C hX hXs hbl hbA hL (i := i) 2 (by omega) (lv_at hl 1 rfl) (lv_at hl 6 rfl) (by rfl) (by decide) dL_law_528 dL_law_529 dL_law_531 dL_law_532 dL_law_533 ?_
  refine k_arg C hX hXs hbl hbA hL (i := i) 3 (by omega) (lv_at hl 1 rfl) (lv_at hl 6 rfl) (by rfl) (by decide) dL_law_534 dL_law_535 dL_law_537 dL_law_538 dL_law_539 ?_
  refine k_calli (va_runV (As := [.int (xs (i + 1)), .int (xs (i + 2)), .int (xs (i + 3))]) (rest := []) C.1 hMm (cwV 3 C.ts gL_law_X9_disk rfl w1 w2 ⟨rfl, hdW_X9_disk⟩ ⟨by omega, by show 8 + (4 + 11) + rm2.locals ≤ R.locals; omega⟩) (k_preV C hX (hm9.at 0 rfl) rfl) rfl rfl hl.1 rfl (lv_room (Nat.le_of_ble_eq_true rfl)) dL_law_540 ⟨by omega, by omega⟩) hX (fun r f3 H locs hp3 hX => ?_)
  obtain ⟨m2, hI3, h27, hE0⟩ := hE r f3 hp3
  obtain ⟨o3, c3, hJ3⟩ := id hI3
  refine lv_istore (lv' := [(7, .int r), (6, .int (nI k)), (0, .ref b), (1, .ref h), (2, .ref hm), (3, .ref po), (4, .ref pd), (5, .int (nI i))]) C.x C.b dL_law_543 hl (by decide) rfl (fun ls hl => ?_)
  refine k_thr (tgt := 573) C hX hJ3.mC h27 hk hl.1 (lv_at hl 4 rfl) (lv_at hl 1 rfl) hR ⟨by omega, by omega⟩ (by rfl) (by decide) dL_law_545 dL_law_546 dL_law_549 dL_law_551 dL_law_556 dL_law_558 (fun k9 H locs hX => ?_) (fun H locs hX => ?_)
  · obtain ⟨g9, hg1, hg2⟩ := hE0 k9
    refine k_cmpI C hX hg1 hg2 (lv_at hl 5 rfl) (lv_at hl 0 rfl) (by rfl) dL_law_561 dL_law_562 dL_law_563 dL_law_564 dL_law_566 dL_law_567 dL_law_568 ?_
    refine lv_goto (tgt := 2173) C.x C.b dL_law_573 (by decide) ?_
    refine W.widen (k := cells + 1000) (n := slots + 14000) (by omega) (by omega) ?_
    exact K f3 _ _ m2 ls hX hI3 (lv_sub hl [2, 3, 4, 5, 6, 7] rfl)
  · refine lv_goto (tgt := 2173) C.x C.b dL_law_573 (by decide) ?_
    refine W.widen (k := cells + 1000) (n := slots + 14000) (by omega) (by omega) ?_
    exact K f3 _ _ m2 ls hX hI3 (lv_sub hl [2, 3, 4, 5, 6, 7] rfl)
set_option maxHeartbeats 2000000 in
theorem law_c6 (hst : l.stackTraces = false) (C : kC G B0 p m c cL_law 9 s args wsL_law RL) (hX : kX G B0 s f H locs) (hXs : va_X b L xs s s.heap) (hbl : b < s.heap.size) (hbA : ¬ kAb B0 b) (hL : L ≤ 3072) (hi : i + 6 ≤ L) (hR : 302 ≤ R.frames ∧ 21000 ≤ R.locals) (hcl : cells + 1000 ≤ R.cells ∧ slots + 14000 ≤ R.slots) (hI : Inv G h hm po pd f m0) (hl : lv_has ls 9 (lwL b h hm po pd i))
    (K : ∀ (f1 : kH) (H1 : Heap) (locs1 : List Loc) (m1 : mSt) (ls1 : Array Slot), kX G B0 s f1 H1 locs1 → Inv G h hm po pd f1 m1 → lv_has ls1 9 (lwL b h hm po pd i) → W p l e R s m args below meth c H1 locs1 (cells + 1000) (slots + 14000) Q (F0 m 2173 ls1 [])) : W p l e R s m args below meth c H locs cells slots Q (F0 m 576 ls []) := by
  obtain ⟨o9, c9, hI⟩ := hI
  refine lv_aload_n C.x C.b dL_law_576 rfl (lv_at hl 1 rfl) ?_
  obtain ⟨k, rm, mc, ms, Φ, hk, ⟨q1, q2, q3, q4, q5, q6⟩, hLm, hN⟩ := op_move (l := l) (B0 := B0) hst hI (xs (i + 1)) (xs (i + 2)) (xs (i + 3)) (xs (i + 4))
  refine k_arg C hX hXs hbl hbA hL (i := i) 1 (by omega) (lv_at hl 0 rfl) (lv_at hl 5 rfl) (by rfl) (by decide) dL_law_577 dL_law_578 dL_law_580 dL_law_581 dL_law_582 ?_
  refine k_arg C hX hXs hbl hbA hL (i := i) 2 (by omega) (lv_at hl 0 rfl) (lv_at hl 5 rfl) (by rfl) (by decide) dL_law_583 dL_law_584 dL_law_586 dL_law_587 dL_law_588 ?_
  refine k_arg C hX hXs hbl hbA hL (i := i) 3 (by omega) (lv_at hl 0 rfl) (lv_at hl 5 rfl) (by rfl) (by decide) dL_law_589 dL_law_590 dL_law_592 dL_law_593 dL_law_594 ?_
  refine k_arg C hX hXs hbl hbA hL (i := i) 4 (by omega) (lv_at hl 0 rfl) (lv_at hl 5 rfl) (by rfl) (by decide) dL_law_595 dL_law_596 dL_law_598 dL_law_599 dL_law_600 ?_
  refine lv_aload_n C.x C.b dL_law_601 rfl (lv_at hl 3 rfl) ?_
  refine k_callX (vx_runSX (As := [.ref h, .int (xs (i + 1)), .int (xs (i + 2)), .int (xs (i + 3)), .int (xs (i + 4)), .ref po]) (rest := []) C.1 hLm (vx_cwSW 6 C.ts gL_law_L_move rfl q1 q2 hdW_L_move ⟨by omega, by show 8 + (7 + 11) + rm.locals ≤ R.locals; omega⟩) (k_preS C hX) rfl rfl hl.1 rfl (lv_room (Nat.le_of_ble_eq_true rfl)) dL_law_602 ⟨by omega, by omega⟩) hX (fun r9 f2 H locs hp2 hX => ?_)
  obtain ⟨hr9, hp2⟩ := hp2
  subst hr9
  obtain ⟨rm2, mc2, ms2, Ψ, ⟨w1, w2, w3, w4, w5, w6⟩, hMm, ⟨m9, hm9⟩, hE⟩ := hN f2 hp2
  refine lv_istore (lv' := [(6, .int (nI k)), (0, .ref b), (1, .ref h), (2, .ref hm), (3, .ref po), (4, .ref pd), (5, .int (nI i))]) C.x C.b dL_law_605 hl (by decide) rfl (fun ls hl => ?_)
  refine lv_aload_n C.x C.b dL_law_607 rfl (lv_at hl 3 rfl) ?_
  refine k_arg C hX hXs hbl hbA hL (i := i) 1 (by omega) (lv_at hl 1 rfl) (lv_at hl 6 rfl) (by rfl) (by decide) dL_law_608 dL_law_609 dL_law_611 dL_law_612 dL_law_613 ?_
  refine k_arg C hX hXs hbl hbA hL (i := i) 2 (by omega) (lv_at hl 1 rfl) (lv_at hl 6 rfl) (by rfl) (by decide) dL_law_614 dL_law_615 dL_law_617 dL_law_618 dL_law_619 ?_
  refine k_arg C hX hXs hbl hbA hL (i := i) 3 (by omega) (lv_at hl 1 rfl) (lv_at hl 6 rfl) (by rfl) (by decide) dL_law_620 dL_law_621 dL_law_623 dL_law_624 dL_law_625 ?_
  refine k_arg C hX hXs hbl hbA hL (i := i) 4 (by omega) (lv_at hl 1 rfl) (lv_at hl 6 rfl) (by rfl) (by decide) dL_law_626 dL_law_627 dL_law_629 dL_law_630 dL_law_631 ?_
  refine k_calli (va_runV (As := [.int (xs (i + 1)), .int (xs (i + 2)), .int (xs (i + 3)), .int (xs (i + 4))]) (rest := []) C.1 hMm (cwV 4 C.ts gL_law_X9_move rfl w1 w2 ⟨rfl, hdW_X9_move⟩ ⟨by omega, by show 8 + (6 + 11) + rm2.locals ≤ R.locals; omega⟩) (k_preV C hX (hm9.at 0 rfl) rfl) rfl rfl hl.1 rfl (lv_room (Nat.le_of_ble_eq_true rfl)) dL_law_632 ⟨by omega, by omega⟩) hX (fun r f3 H locs hp3 hX => ?_)
  obtain ⟨m2, hI3, h27, hE0⟩ := hE r f3 hp3
  obtain ⟨o3, c3, hJ3⟩ := id hI3
  refine lv_istore (lv' := [(7, .int r), (6, .int (nI k)), (0, .ref b), (1, .ref h), (2, .ref hm), (3, .ref po), (4, .ref pd), (5, .int (nI i))]) C.x C.b dL_law_635 hl (by decide) rfl (fun ls hl => ?_)
  refine k_thr (tgt := 665) C hX hJ3.mC h27 hk hl.1 (lv_at hl 4 rfl) (lv_at hl 1 rfl) hR ⟨by omega, by omega⟩ (by rfl) (by decide) dL_law_637 dL_law_638 dL_law_641 dL_law_643 dL_law_648 dL_law_650 (fun k9 H locs hX => ?_) (fun H locs hX => ?_)
  · obtain ⟨g9, hg1, hg2⟩ := hE0 k9
    refine k_cmpI C hX hg1 hg2 (lv_at hl 5 rfl) (lv_at hl 0 rfl) (by rfl) dL_law_653 dL_law_654 dL_law_655 dL_law_656 dL_law_658 dL_law_659 dL_law_660 ?_
    refine lv_goto (tgt := 2173) C.x C.b dL_law_665 (by decide) ?_
    refine W.widen (k := cells + 1000) (n := slots + 14000) (by omega) (by omega) ?_
    exact K f3 _ _ m2 ls hX hI3 (lv_sub hl [2, 3, 4, 5, 6, 7] rfl)
  · refine lv_goto (tgt := 2173) C.x C.b dL_law_665 (by decide) ?_
    refine W.widen (k := cells + 1000) (n := slots + 14000) (by omega) (by omega) ?_
    exact K f3 _ _ m2 ls hX hI3 (lv_sub hl [2, 3, 4, 5, 6, 7] rfl)
set_option maxHeartbeats 2000000 in
theorem law_c7 (hst : l.stackTraces = false) (C : kC G B0 p m c cL_law 9 s args wsL_law RL) (hX : kX G B0 s f H locs) (hXs : va_X b L xs s s.heap) (hbl : b < s.heap.size) (hbA : ¬ kAb B0 b) (hL : L ≤ 3072) (hi : i + 6 ≤ L) (hR : 302 ≤ R.frames ∧ 21000 ≤ R.locals) (hcl : cells + 1000 ≤ R.cells ∧ slots + 14000 ≤ R.slots) (hI : Inv G h hm po pd f m0) (hl : lv_has ls 9 (lwL b h hm po pd i))
    (K : ∀ (f1 : kH) (H1 : Heap) (locs1 : List Loc) (m1 : mSt) (ls1 : Array Slot), kX G B0 s f1 H1 locs1 → Inv G h hm po pd f1 m1 → lv_has ls1 9 (lwL b h hm po pd i) → W p l e R s m args below meth c H1 locs1 (cells + 1000) (slots + 14000) Q (F0 m 2173 ls1 [])) : W p l e R s m args below meth c H locs cells slots Q (F0 m 668 ls []) := by
  obtain ⟨o9, c9, hI⟩ := hI
  refine lv_aload_n C.x C.b dL_law_668 rfl (lv_at hl 1 rfl) ?_
  obtain ⟨k, rm, mc, ms, Φ, hk, ⟨q1, q2, q3, q4, q5, q6⟩, hLm, hN⟩ := op_lie (l := l) (B0 := B0) hst hI (xs (i + 1)) (xs (i + 2))
  refine k_arg C hX hXs hbl hbA hL (i := i) 1 (by omega) (lv_at hl 0 rfl) (lv_at hl 5 rfl) (by rfl) (by decide) dL_law_669 dL_law_670 dL_law_672 dL_law_673 dL_law_674 ?_
  refine k_arg C hX hXs hbl hbA hL (i := i) 2 (by omega) (lv_at hl 0 rfl) (lv_at hl 5 rfl) (by rfl) (by decide) dL_law_675 dL_law_676 dL_law_678 dL_law_679 dL_law_680 ?_
  refine lv_aload_n C.x C.b dL_law_681 rfl (lv_at hl 3 rfl) ?_
  refine k_callX (vx_runSX (As := [.ref h, .int (xs (i + 1)), .int (xs (i + 2)), .ref po]) (rest := []) C.1 hLm (vx_cwSW 4 C.ts gL_law_L_lie rfl q1 q2 hdW_L_lie ⟨by omega, by show 8 + (5 + 11) + rm.locals ≤ R.locals; omega⟩) (k_preS C hX) rfl rfl hl.1 rfl (lv_room (Nat.le_of_ble_eq_true rfl)) dL_law_682 ⟨by omega, by omega⟩) hX (fun r9 f2 H locs hp2 hX => ?_)
  obtain ⟨hr9, hp2⟩ := hp2
  subst hr9
  obtain ⟨rm2, mc2, ms2, Ψ, ⟨w1, w2, w3, w4, w5, w6⟩, hMm, ⟨m9, hm9⟩, hE⟩ := hN f2 hp2
  refine lv_istore (lv' := [(6, .int (nI k)), (0, .ref b), (1, .ref h), (2, .ref hm), (3, .ref po), (4, .ref pd), (5, .int (nI i))]) C.x C.b dL_law_685 hl (by decide) rfl (fun ls hl => ?_)
  refine lv_aload_n C.x C.b dL_law_687 rfl (lv_at hl 3 rfl) ?_
  refine k_arg C hX hXs hbl hbA hL (i := i) 1 (by omega) (lv_at hl 1 rfl) (lv_at hl 6 rfl) (by rfl) (by decide) dL_law_688 dL_law_689 dL_law_691 dL_law_692 dL_law_693 ?_
  refine k_arg C hX hXs hbl hbA hL (i := i) 2 (by omega) (lv_at hl 1 rfl) (lv_at hl 6 rfl) (by rfl) (by decide) dL_law_694 dL_law_695 dL_law_697 dL_law_698 dL_law_699 ?_
  refine k_calli (va_runV (As := [.int (xs (i + 1)), .int (xs (i + 2))]) (rest := []) C.1 hMm (cwV 2 C.ts gL_law_X9_lie rfl w1 w2 ⟨rfl, hdW_X9_lie⟩ ⟨by omega, by show 8 + (3 + 11) + rm2.locals ≤ R.locals; omega⟩) (k_preV C hX (hm9.at 0 rfl) rfl) rfl rfl hl.1 rfl (lv_room (Nat.le_of_ble_eq_true rfl)) dL_law_700 ⟨by omega, by omega⟩) hX (fun r f3 H locs hp3 hX => ?_)
  obtain ⟨m2, hI3, h27, hE0⟩ := hE r f3 hp3
  obtain ⟨o3, c3, hJ3⟩ := id hI3
  refine lv_istore (lv' := [(7, .int r), (6, .int (nI k)), (0, .ref b), (1, .ref h), (2, .ref hm), (3, .ref po), (4, .ref pd), (5, .int (nI i))]) C.x C.b dL_law_703 hl (by decide) rfl (fun ls hl => ?_)
  refine k_thr (tgt := 733) C hX hJ3.mC h27 hk hl.1 (lv_at hl 4 rfl) (lv_at hl 1 rfl) hR ⟨by omega, by omega⟩ (by rfl) (by decide) dL_law_705 dL_law_706 dL_law_709 dL_law_711 dL_law_716 dL_law_718 (fun k9 H locs hX => ?_) (fun H locs hX => ?_)
  · obtain ⟨g9, hg1, hg2⟩ := hE0 k9
    refine k_cmpI C hX hg1 hg2 (lv_at hl 5 rfl) (lv_at hl 0 rfl) (by rfl) dL_law_721 dL_law_722 dL_law_723 dL_law_724 dL_law_726 dL_law_727 dL_law_728 ?_
    refine lv_goto (tgt := 2173) C.x C.b dL_law_733 (by decide) ?_
    refine W.widen (k := cells + 1000) (n := slots + 14000) (by omega) (by omega) ?_
    exact K f3 _ _ m2 ls hX hI3 (lv_sub hl [2, 3, 4, 5, 6, 7] rfl)
  · refine lv_goto (tgt := 2173) C.x C.b dL_law_733 (by decide) ?_
    refine W.widen (k := cells + 1000) (n := slots + 14000) (by omega) (by omega) ?_
    exact K f3 _ _ m2 ls hX hI3 (lv_sub hl [2, 3, 4, 5, 6, 7] rfl)
set_option maxHeartbeats 2000000 in
theorem law_c8 (hst : l.stackTraces = false) (C : kC G B0 p m c cL_law 9 s args wsL_law RL) (hX : kX G B0 s f H locs) (hXs : va_X b L xs s s.heap) (hbl : b < s.heap.size) (hbA : ¬ kAb B0 b) (hL : L ≤ 3072) (hi : i + 6 ≤ L) (hR : 302 ≤ R.frames ∧ 21000 ≤ R.locals) (hcl : cells + 1000 ≤ R.cells ∧ slots + 14000 ≤ R.slots) (hI : Inv G h hm po pd f m0) (hl : lv_has ls 9 (lwL b h hm po pd i))
    (K : ∀ (f1 : kH) (H1 : Heap) (locs1 : List Loc) (m1 : mSt) (ls1 : Array Slot), kX G B0 s f1 H1 locs1 → Inv G h hm po pd f1 m1 → lv_has ls1 9 (lwL b h hm po pd i) → W p l e R s m args below meth c H1 locs1 (cells + 1000) (slots + 14000) Q (F0 m 2173 ls1 [])) : W p l e R s m args below meth c H locs cells slots Q (F0 m 736 ls []) := by
  obtain ⟨o9, c9, hI⟩ := hI
  refine lv_aload_n C.x C.b dL_law_736 rfl (lv_at hl 1 rfl) ?_
  obtain ⟨k, rm, mc, ms, Φ, hk, ⟨q1, q2, q3, q4, q5, q6⟩, hLm, hN⟩ := op_pairs (l := l) (B0 := B0) hst hI (xs (i + 1))
  refine k_arg C hX hXs hbl hbA hL (i := i) 1 (by omega) (lv_at hl 0 rfl) (lv_at hl 5 rfl) (by rfl) (by decide) dL_law_737 dL_law_738 dL_law_740 dL_law_741 dL_law_742 ?_
  refine lv_aload_n C.x C.b dL_law_743 rfl (lv_at hl 3 rfl) ?_
  refine k_callX (vx_runSX (As := [.ref h, .int (xs (i + 1)), .ref po]) (rest := []) C.1 hLm (vx_cwSW 3 C.ts gL_law_L_pairs rfl q1 q2 hdW_L_pairs ⟨by omega, by show 8 + (4 + 11) + rm.locals ≤ R.locals; omega⟩) (k_preS C hX) rfl rfl hl.1 rfl (lv_room (Nat.le_of_ble_eq_true rfl)) dL_law_744 ⟨by omega, by omega⟩) hX (fun r9 f2 H locs hp2 hX => ?_)
  obtain ⟨hr9, hp2⟩ := hp2
  subst hr9
  obtain ⟨rm2, mc2, ms2, Ψ, ⟨w1, w2, w3, w4, w5, w6⟩, hMm, ⟨m9, hm9⟩, hE⟩ := hN f2 hp2
  refine lv_istore (lv' := [(6, .int (nI k)), (0, .ref b), (1, .ref h), (2, .ref hm), (3, .ref po), (4, .ref pd), (5, .int (nI i))]) C.x C.b dL_law_747 hl (by decide) rfl (fun ls hl => ?_)
  refine lv_aload_n C.x C.b dL_law_749 rfl (lv_at hl 3 rfl) ?_
  refine k_arg C hX hXs hbl hbA hL (i := i) 1 (by omega) (lv_at hl 1 rfl) (lv_at hl 6 rfl) (by rfl) (by decide) dL_law_750 dL_law_751 dL_law_753 dL_law_754 dL_law_755 ?_
  refine k_calli (va_runV (As := [.int (xs (i + 1))]) (rest := []) C.1 hMm (cwV 1 C.ts gL_law_X9_pairs rfl w1 w2 ⟨rfl, hdW_X9_pairs⟩ ⟨by omega, by show 8 + (5 + 11) + rm2.locals ≤ R.locals; omega⟩) (k_preV C hX (hm9.at 0 rfl) rfl) rfl rfl hl.1 rfl (lv_room (Nat.le_of_ble_eq_true rfl)) dL_law_756 ⟨by omega, by omega⟩) hX (fun r f3 H locs hp3 hX => ?_)
  obtain ⟨m2, hI3, h27, hE0⟩ := hE r f3 hp3
  obtain ⟨o3, c3, hJ3⟩ := id hI3
  refine lv_istore (lv' := [(7, .int r), (6, .int (nI k)), (0, .ref b), (1, .ref h), (2, .ref hm), (3, .ref po), (4, .ref pd), (5, .int (nI i))]) C.x C.b dL_law_759 hl (by decide) rfl (fun ls hl => ?_)
  refine k_thr (tgt := 789) C hX hJ3.mC h27 hk hl.1 (lv_at hl 4 rfl) (lv_at hl 1 rfl) hR ⟨by omega, by omega⟩ (by rfl) (by decide) dL_law_761 dL_law_762 dL_law_765 dL_law_767 dL_law_772 dL_law_774 (fun k9 H locs hX => ?_) (fun H locs hX => ?_)
  · obtain ⟨g9, hg1, hg2⟩ := hE0 k9
    refine k_cmpI C hX hg1 hg2 (lv_at hl 5 rfl) (lv_at hl 0 rfl) (by rfl) dL_law_777 dL_law_778 dL_law_779 dL_law_780 dL_law_782 dL_law_783 dL_law_784 ?_
    refine lv_goto (tgt := 2173) C.x C.b dL_law_789 (by decide) ?_
    refine W.widen (k := cells + 1000) (n := slots + 14000) (by omega) (by omega) ?_
    exact K f3 _ _ m2 ls hX hI3 (lv_sub hl [2, 3, 4, 5, 6, 7] rfl)
  · refine lv_goto (tgt := 2173) C.x C.b dL_law_789 (by decide) ?_
    refine W.widen (k := cells + 1000) (n := slots + 14000) (by omega) (by omega) ?_
    exact K f3 _ _ m2 ls hX hI3 (lv_sub hl [2, 3, 4, 5, 6, 7] rfl)
set_option maxHeartbeats 2000000 in
theorem law_c9 (hst : l.stackTraces = false) (C : kC G B0 p m c cL_law 9 s args wsL_law RL) (hX : kX G B0 s f H locs) (hXs : va_X b L xs s s.heap) (hbl : b < s.heap.size) (hbA : ¬ kAb B0 b) (hL : L ≤ 3072) (hi : i + 6 ≤ L) (hR : 302 ≤ R.frames ∧ 21000 ≤ R.locals) (hcl : cells + 1000 ≤ R.cells ∧ slots + 14000 ≤ R.slots) (hI : Inv G h hm po pd f m0) (hl : lv_has ls 9 (lwL b h hm po pd i))
    (K : ∀ (f1 : kH) (H1 : Heap) (locs1 : List Loc) (m1 : mSt) (ls1 : Array Slot), kX G B0 s f1 H1 locs1 → Inv G h hm po pd f1 m1 → lv_has ls1 9 (lwL b h hm po pd i) → W p l e R s m args below meth c H1 locs1 (cells + 1000) (slots + 14000) Q (F0 m 2173 ls1 [])) : W p l e R s m args below meth c H locs cells slots Q (F0 m 792 ls []) := by
  obtain ⟨o9, c9, hI⟩ := hI
  obtain ⟨rm, mc, ms, Φ, ⟨q1, q2, q3, q4, q5, q6⟩, hLm, hN⟩ := op_draws (l := l) (B0 := B0) hI
  refine lv_aload_n C.x C.b dL_law_792 rfl (lv_at hl 1 rfl) ?_
  refine k_calli (va_runV (As := []) (rest := []) C.1 hLm (cwV 0 C.ts gL_law_X8_draws rfl q1 q2 ⟨rfl, hdW_X8_draws⟩ ⟨by omega, by show 8 + (4 + 11) + rm.locals ≤ R.locals; omega⟩) (k_preV C hX hI.hd rfl) rfl rfl hl.1 rfl (lv_room (Nat.le_of_ble_eq_true rfl)) dL_law_793 ⟨by omega, by omega⟩) hX (fun v f2 H locs hp2 hX => ?_)
  obtain ⟨rm2, mc2, ms2, Ψ, ⟨w1, w2, w3, w4, w5, w6⟩, hMm, ⟨m9, hm9⟩, hE⟩ := hN v f2 hp2
  refine lv_aload_n C.x C.b dL_law_796 rfl (lv_at hl 2 rfl) ?_
  refine k_calli (va_runV (As := []) (rest := [.int v]) C.1 hMm (cwV 0 C.ts gL_law_X9_draws rfl w1 w2 ⟨rfl, hdW_X9_draws⟩ ⟨by omega, by show 8 + (4 + 11) + rm2.locals ≤ R.locals; omega⟩) (k_preV C hX (hm9.at 0 rfl) rfl) rfl rfl hl.1 rfl (lv_room (Nat.le_of_ble_eq_true rfl)) dL_law_797 ⟨by omega, by omega⟩) hX (fun r f3 H locs hp3 hX => ?_)
  obtain ⟨hv, m2, hI3⟩ := hE r f3 hp3
  refine lv_icmp_eq (tgt := 2173) C.x C.b dL_law_800 (by decide) (fun _ => ?_) (fun q => absurd hv.symm q)
  refine W.widen (k := cells + 1000) (n := slots + 14000) (by omega) (by omega) ?_
  exact K f3 H locs m2 ls hX hI3 hl
end KLC0
