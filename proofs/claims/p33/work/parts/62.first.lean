/-! the object at first -/
def oF : List (Nat × Nat) → Nat → Nat
  | [], _ => 11
  | (a, k) :: t, x => if x = a then k else oF t x
theorem oF_mem : ∀ (l : List (Nat × Nat)), (l.map Prod.fst).Nodup → ∀ a k, (a, k) ∈ l → oF l a = k
  | [], _, _, _, h => nomatch h
  | (b, j) :: t, hn, a, k, h => by
    rw [List.map_cons, List.nodup_cons] at hn
    rcases List.mem_cons.mp h with h | h
    · cases h
      exact if_pos rfl
    · show (if a = b then j else oF t a) = k
      rw [if_neg (fun z => hn.1 (by
        show b ∈ List.map Prod.fst t
        rw [← z]
        exact List.mem_map.mpr ⟨_, h, rfl⟩))]
      exact oF_mem t hn.2 a k h
theorem kCs_own0 {o : Nat → Nat} {k : Nat} {f : kH} {ws : va_W} (h : kCs f ws) (ho : ∀ q ∈ ws, o q.1 = k) : kCs (kR o k f) ws := ⟨fun q hq => kR_some.mpr ⟨ho q hq, h.1 q hq⟩, h.2⟩
/-- the reference's first state -/
abbrev p0 : pSt := pMk 4 4 0 0 0 2 0 mF0 (fun _ => 0) (fun _ => 0) (fun _ => 0) (fun _ => 0) (fun _ => 0) (fun _ => 0) mW0 (fun _ => 0) (fun _ => 0)
/-- the class's cells at first -/
def kW0 (G : kG) (h sp nA tA dl gl rw sA wA ml pp nn wL qm : Nat) (rm9 : Nat → Nat) : va_W := [(h, .inr (8, [.ref sp, .ref dl, .ref gl, .ref rw, .ref ml, .ref pp, .ref nn])), (sp, .inr (3, [.ref nA, .ref tA, .int (nI 4), .int (nI 4)])), (nA, kaI G 84 (iNN 4)), (tA, kaI G 256 (iTT 4)), (dl, .inr (0, [.int (nI 0), .ref (G.2.2 1), .int 0])), (gl, .inr (0, [.int (nI 0), .ref (G.2.2 1), .int 0])), (rw, .inr (5, [.ref sA, .ref wA])), (sA, kaJ G 64 (fun _ => 0)), (wA, kaJ G 64 (fun _ => 0)), (ml, .inr (0, [.int (nI 0), .ref (G.2.2 1), .int 0])), (pp, .inr (6, [.long 1, .long 0, .long 0, .long 1])), (nn, .inr (4, [.ref wL, .ref qm, .int (nI 2)])), (wL, .inr (0, [.int (nI 0), .ref (G.2.2 1), .int 0])), (qm, kaR G 5 (fun i9 => if i9 < 5 then some (rm9 i9) else none)), (rm9 0, kaJ G 5 (fun _ => 0)), (rm9 1, kaJ G 5 (fun _ => 0)), (rm9 2, kaJ G 5 (fun _ => 0)), (rm9 3, kaJ G 5 (fun _ => 0)), (rm9 4, kaJ G 5 (fun _ => 0))]
def kT0 (h sp nA tA dl gl rw sA wA ml pp nn wL qm : Nat) (rm9 : Nat → Nat) : List (Nat × Nat) := [(h, 0), (sp, 1), (nA, 1), (tA, 1), (dl, 2), (gl, 3), (rw, 4), (sA, 4), (wA, 4), (ml, 5), (pp, 6), (nn, 7), (wL, 7), (qm, 7), (rm9 0, 7), (rm9 1, 7), (rm9 2, 7), (rm9 3, 7), (rm9 4, 7)]
theorem mW0_0 : mW0 0 = 1 ∧ mW0 1 = 0 ∧ mW0 2 = 0 ∧ mW0 3 = 1 := ⟨rfl, rfl, rfl, rfl⟩
set_option maxHeartbeats 4000000 in
set_option maxRecDepth 20000 in
theorem Inv_start {G : kG} {h sp nA tA dl gl rw sA wA ml pp nn wL qm : Nat} {rm9 : Nat → Nat} {f2 : kH} (h1 : kCs f2 (kW0 G h sp nA tA dl gl rw sA wA ml pp nn wL qm rm9)) : Inv G h f2 p0 := by
  have hnd : ((kT0 h sp nA tA dl gl rw sA wA ml pp nn wL qm rm9).map Prod.fst).Nodup := h1.2
  have oo : ∀ a k, (a, k) ∈ kT0 h sp nA tA dl gl rw sA wA ml pp nn wL qm rm9 → oF (kT0 h sp nA tA dl gl rw sA wA ml pp nn wL qm rm9) a = k := fun a k hk => oF_mem _ hnd a k hk
  generalize ho : oF (kT0 h sp nA tA dl gl rw sA wA ml pp nn wL qm rm9) = o at oo
  have pk : ∀ (k : Nat) (ks : List Nat) (ws : va_W), ks.Nodup → kPk ks ws (kW0 G h sp nA tA dl gl rw sA wA ml pp nn wL qm rm9) → (∀ x ∈ ws, (x.1, k) ∈ kT0 h sp nA tA dl gl rw sA wA ml pp nn wL qm rm9) → kCs (kR o k f2) ws := fun k ks ws a1 a2 a3 => kCs_own0 (h1.pick ks a1 a2) (fun x hx => oo _ _ (a3 x hx))
  refine ⟨o, cMk sp dl gl rw ml pp nn, fun k => ?_⟩
  match k with
  | 0 => exact pk 0 [0] _ (by decide) ⟨rfl, trivial⟩ (fun x hx => by
      simp only [List.mem_cons, List.not_mem_nil, or_false] at hx
      subst hx
      simp [kT0])
  | 1 =>
    refine ⟨nA, tA, 4, 4, iTT 4, ?_, rfl, rfl, ?_⟩
    · show kCs _ (nW G sp nA tA mF0 (iTT 4) 4 4)
      rw [net_start.1]
      exact pk 1 [1, 2, 3] _ (by decide) ⟨rfl, rfl, rfl, trivial⟩ (fun x hx => by
        simp only [nW, List.mem_cons, List.not_mem_nil, or_false] at hx
        rcases hx with rfl | rfl | rfl
        all_goals simp [kT0])
    · show nInv 4 4 mF0 (iTT 4)
      rw [net_start.1]
      exact net_start.2
  | 2 =>
    have hd := pk 2 [4] [(dl, .inr (0, [.int (nI 0), .ref (G.2.2 1), .int 0]))] (by decide) ⟨rfl, trivial⟩ (fun x hx => by
      simp only [List.mem_cons, List.not_mem_nil, or_false] at hx
      subst hx
      simp [kT0])
    exact ⟨0, fun _ => 0, fun _ => 0, fun _ => 0, fun _ => 0, ⟨nI 0, .inl ⟨rfl, hd.at 0 rfl⟩⟩, fun _ hk => absurd hk (Nat.not_lt_zero _), by omega, rfl, fun _ hk => absurd hk (Nat.not_lt_zero _)⟩
  | 3 =>
    have hd := pk 3 [5] [(gl, .inr (0, [.int (nI 0), .ref (G.2.2 1), .int 0]))] (by decide) ⟨rfl, trivial⟩ (fun x hx => by
      simp only [List.mem_cons, List.not_mem_nil, or_false] at hx
      subst hx
      simp [kT0])
    exact ⟨0, fun _ => 0, fun _ => 0, fun _ => 0, fun _ => 0, fun _ _ => 0, fun _ _ => 0, fun _ _ => 0, ⟨nI 0, .inl ⟨rfl, hd.at 0 rfl⟩⟩, fun _ hk => absurd hk (Nat.not_lt_zero _), fun _ _ hk => absurd hk (Nat.not_lt_zero _), fun _ _ hk => absurd hk (Nat.not_lt_zero _), by omega, rfl, fun _ hk => absurd hk (Nat.not_lt_zero _)⟩
  | 4 =>
    exact ⟨sA, wA, fun _ => 0, fun _ => 0, pk 4 [6, 7, 8] _ (by decide) ⟨rfl, rfl, rfl, trivial⟩ (fun x hx => by
      simp only [List.mem_cons, List.not_mem_nil, or_false] at hx
      rcases hx with rfl | rfl | rfl
      all_goals simp [kT0])⟩
  | 5 =>
    have hd := pk 5 [9] [(ml, .inr (0, [.int (nI 0), .ref (G.2.2 1), .int 0]))] (by decide) ⟨rfl, trivial⟩ (fun x hx => by
      simp only [List.mem_cons, List.not_mem_nil, or_false] at hx
      subst hx
      simp [kT0])
    exact ⟨0, fun _ => 0, fun _ => 0, fun _ => 0, fun _ => 0, fun _ => 0, ⟨nI 0, .inl ⟨rfl, hd.at 0 rfl⟩⟩, fun _ hk => absurd hk (Nat.not_lt_zero _), by omega, rfl, fun _ hk => absurd hk (Nat.not_lt_zero _)⟩
  | 6 =>
    have hd := pk 6 [10] [(pp, .inr (6, [.long 1, .long 0, .long 0, .long 1]))] (by decide) ⟨rfl, trivial⟩ (fun x hx => by
      simp only [List.mem_cons, List.not_mem_nil, or_false] at hx
      subst hx
      simp [kT0])
    obtain ⟨e0, e1, e2, e3⟩ := mW0_0
    refine ⟨?_, fun k hk => ?_⟩
    · show kCs _ [(pp, .inr (6, [.long (mW0 0), .long (mW0 1), .long (mW0 2), .long (mW0 3)]))]
      rw [e0, e1, e2, e3]
      exact hd
    · show (mW0 k).toInt.natAbs ≤ 1000000000
      rcases (show k = 0 ∨ k = 1 ∨ k = 2 ∨ k = 3 by omega) with rfl | rfl | rfl | rfl
      · rw [e0]; decide
      · rw [e1]; decide
      · rw [e2]; decide
      · rw [e3]; decide
  | 7 =>
    have hd := pk 7 [12, 11, 13, 14, 15, 16, 17, 18] ((wL, .inr (0, [.int (nI 0), .ref (G.2.2 1), .int 0])) :: mxW G nn wL qm 2 rm9 (fun i => i) (fun _ _ => 0)) (by decide) ⟨rfl, rfl, rfl, rfl, rfl, rfl, rfl, rfl, trivial⟩ (fun x hx => by
      simp only [mxW, List.mem_cons, List.not_mem_nil, or_false] at hx
      rcases hx with rfl | rfl | rfl | rfl | rfl | rfl | rfl | rfl
      all_goals simp [kT0])
    have hd2 : kCs (kR o 7 f2) (mxW G nn wL qm 2 rm9 (fun i => i) (fun _ _ => 0)) := ⟨fun x hx => hd.1 x (List.mem_cons_of_mem _ hx), (List.nodup_cons.mp hd.2).2⟩
    exact ⟨wL, qm, 2, 0, rm9, fun i => i, fun _ _ => 0, fun _ => 0, hd2, (List.nodup_cons.mp hd.2).1, fun _ hi => hi, fun _ _ _ _ hz => hz, ⟨nI 0, .inl ⟨rfl, hd.at 0 rfl⟩⟩, fun _ hk => absurd hk (Nat.not_lt_zero _), by omega, by omega, by omega, rfl, rfl, fun _ hk => absurd hk (Nat.not_lt_zero _)⟩
  | n + 8 => exact trivial
