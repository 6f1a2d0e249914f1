/-- what lay elsewhere still lies there -/
def kKeep (h : Nat) (f f1 : kH) : Prop := ∀ a e, a ≠ h → f a = some e → f1 a = some e
theorem kX.nw {G : kG} {B0 : Nat} {s : State} {f0 f : kH} {H : Heap} {locs : List Loc} {h q : Nat} {e eh : va_E} {ws : va_W} (hX : kX G B0 s (kst f q e) H locs) (hM : kCs f ws) (hO : kKeep h f0 f) (hn : f q = none) (hh : f h = some eh) : ∃ f1, kX G B0 s f1 H locs ∧ kCs f1 (ws ++ [(q, e)]) ∧ kKeep h f0 f1 ∧ f0 q = none := by
  have hq : ∀ b e', f b = some e' → b ≠ q := fun b e' hb z => by subst z; rw [hn] at hb; cases hb
  refine ⟨_, hX, ⟨fun x hx => ?_, ?_⟩, fun a e' ha h0 => ?_, ?_⟩
  · rcases List.mem_append.mp hx with z | z
    · rw [kst_n _ _ (hq _ _ (hM.1 x z))]; exact hM.1 x z
    · rw [List.mem_singleton.mp z]; exact kst_s _ _ _
  · rw [List.map_append]
    refine List.nodup_append.mpr ⟨hM.2, by simp, fun a ha b hb => ?_⟩
    obtain ⟨x, hx, rfl⟩ := List.mem_map.mp ha
    have : b = q := by simpa using hb
    subst this
    exact hq _ _ (hM.1 x hx)
  · have h1 := hO a e' ha h0
    rw [kst_n _ _ (hq _ _ h1)]; exact h1
  · cases h0 : f0 q with
    | none => rfl
    | some e' =>
      by_cases z : q = h
      · subst z; rw [hn] at hh; cases hh
      · have := hO q e' z h0
        rw [hn] at this; cases this
theorem kX.wrK {G : kG} {B0 : Nat} {s : State} {f0 f : kH} {H : Heap} {locs : List Loc} {h a : Nat} {e e1 : va_E} {ws : va_W} (hX : kX G B0 s (kst f a e1) H locs) (hM : kCs f ws) (hO : kKeep h f0 f) (i : Nat) (hi : ws[i]? = some (a, e)) (ha : a = h ∨ f0 a = none) : ∃ f1, kX G B0 s f1 H locs ∧ kCs f1 (ws.set i (a, e1)) ∧ kKeep h f0 f1 := by
  refine ⟨_, hX, hM.put i hi, fun b e' hb h0 => ?_⟩
  have hba : b ≠ a := fun z => by
    subst z
    rcases ha with q | q
    · exact hb q
    · rw [q] at h0; cases h0
  rw [kst_n _ _ hba]
  exact hO b e' hb h0
theorem kKeep.off {h : Nat} {as : List Nat} {f0 f f1 : kH} (hO : kKeep h f0 f) (h1 : kOff as f f1) (ha : ∀ a ∈ as, a = h ∨ f0 a = none) : kKeep h f0 f1 := fun b e hb h0 => by
  have hba : b ∉ as := fun z => by
    rcases ha b z with q | q
    · exact hb q
    · rw [q] at h0; cases h0
  rw [h1 b hba]
  exact hO b e hb h0
/-- the first faces -/
def mF0 : Nat → Int32 := mPut (mPut (mPut (mPut (fun _ => 0) 0 (nI 0) (nI 1) (nI 2)) 1 (nI 0) (nI 3) (nI 1)) 2 (nI 1) (nI 3) (nI 2)) 3 (nI 0) (nI 2) (nI 3)
def mW0 : Nat → Int64 := vp_updL (vp_updL (fun _ => 0) 0 1) 3 1
