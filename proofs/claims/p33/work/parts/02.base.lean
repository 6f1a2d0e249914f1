/-! The world of this proof: ONE abstract heap, a function from addresses to cells (the kit's va_E), and what holds of the tables and of the statics. -/
def kNestF : List (String × Nat × String × String × String × String) := [("Koebehall", 101, "Koebehall$Net", "cornerCount", "I", "Koebehall"), ("Koebehall", 109, "Koebehall$Net", "faceCount", "I", "Koebehall"), ("Koebehall", 156, "Koebehall$Disk", "radius", "J", "Koebehall"), ("Koebehall", 215, "Koebehall$Gasket", "least", "[J", "Koebehall"), ("Koebehall", 231, "Koebehall$Gasket", "four", "[J", "Koebehall"), ("Koebehall", 291, "Koebehall$Table", "a", "J", "Koebehall"), ("Koebehall", 294, "Koebehall$Table", "b", "J", "Koebehall"), ("Koebehall", 297, "Koebehall$Table", "c", "J", "Koebehall"), ("Koebehall", 300, "Koebehall$Table", "d", "J", "Koebehall"), ("Koebehall", 318, "Koebehall$Network", "wires", "Ljava/util/ArrayList;", "Koebehall"), ("Koebehall$Network", 54, "Koebehall$Wire", "first", "I", "Koebehall"), ("Koebehall$Network", 61, "Koebehall$Wire", "second", "I", "Koebehall")]
def kNestM : List (String × Nat × MethodName × String) := [("Koebehall", 9, ⟨"Koebehall$Net", "<init>", "()V"⟩, "Koebehall"), ("Koebehall", 28, ⟨"Koebehall$RemainderWalk", "<init>", "()V"⟩, "Koebehall"), ("Koebehall", 38, ⟨"Koebehall$Table", "<init>", "(JJJJ)V"⟩, "Koebehall"), ("Koebehall", 47, ⟨"Koebehall$Network", "<init>", "()V"⟩, "Koebehall"), ("Koebehall", 52, ⟨"Koebehall$Net", "hasFace", "(I)Z"⟩, "Koebehall"), ("Koebehall", 63, ⟨"Koebehall$Net", "isFull", "()Z"⟩, "Koebehall"), ("Koebehall", 72, ⟨"Koebehall$Net", "splitFace", "(I)I"⟩, "Koebehall"), ("Koebehall", 76, ⟨"Koebehall$Net", "hasCorner", "(I)Z"⟩, "Koebehall"), ("Koebehall", 81, ⟨"Koebehall$Net", "canFlip", "(II)Z"⟩, "Koebehall"), ("Koebehall", 87, ⟨"Koebehall$Net", "flipEdge", "(II)I"⟩, "Koebehall"), ("Koebehall", 93, ⟨"Koebehall$Net", "cornerOf", "(II)I"⟩, "Koebehall"), ("Koebehall", 98, ⟨"Koebehall$Net", "neighbourAt", "(II)I"⟩, "Koebehall"), ("Koebehall", 105, ⟨"Koebehall$Net", "edgeCount", "()I"⟩, "Koebehall"), ("Koebehall", 112, ⟨"Koebehall$Net", "flippableCount", "()I"⟩, "Koebehall"), ("Koebehall", 115, ⟨"Koebehall$Net", "mostNeighbours", "()I"⟩, "Koebehall"), ("Koebehall", 136, ⟨"Koebehall$Disk", "<init>", "(JJJ)V"⟩, "Koebehall"), ("Koebehall", 167, ⟨"Koebehall$Net", "areNeighbours", "(II)Z"⟩, "Koebehall"), ("Koebehall", 177, ⟨"Koebehall$Disk", "howItLies", "(LKoebehall$Disk;)I"⟩, "Koebehall"), ("Koebehall", 186, ⟨"Koebehall$Gasket", "areOfGasket", "(JJJJ)Z"⟩, "Koebehall"), ("Koebehall", 196, ⟨"Koebehall$Gasket", "<init>", "(JJJJ)V"⟩, "Koebehall"), ("Koebehall", 201, ⟨"Koebehall$Gasket", "turnedAt", "([JI)J"⟩, "Koebehall"), ("Koebehall", 223, ⟨"Koebehall$Gasket", "circlesByTurns", "(I)I"⟩, "Koebehall"), ("Koebehall", 226, ⟨"Koebehall$Gasket", "circlesByThrees", "(I)I"⟩, "Koebehall"), ("Koebehall", 234, ⟨"Koebehall$RemainderWalk", "allReached", "([JI)I"⟩, "Koebehall"), ("Koebehall", 250, ⟨"Koebehall$Fractions", "crossed", "(JJJJ)J"⟩, "Koebehall"), ("Koebehall", 258, ⟨"Koebehall$Fractions", "simplest", "(JJJJZ)J"⟩, "Koebehall"), ("Koebehall", 262, ⟨"Koebehall$Fractions", "isLowest", "(JJ)Z"⟩, "Koebehall"), ("Koebehall", 273, ⟨"Koebehall$Table", "undone", "()LKoebehall$Table;"⟩, "Koebehall"), ("Koebehall", 277, ⟨"Koebehall$Table", "times", "(LKoebehall$Table;)LKoebehall$Table;"⟩, "Koebehall"), ("Koebehall", 281, ⟨"Koebehall$Table", "isWhollyWithin", "(J)Z"⟩, "Koebehall"), ("Koebehall", 287, ⟨"Koebehall$Table", "trace", "()J"⟩, "Koebehall"), ("Koebehall", 303, ⟨"Koebehall$Table", "kind", "()I"⟩, "Koebehall"), ("Koebehall", 310, ⟨"Koebehall$Network", "beginAnew", "(I)I"⟩, "Koebehall"), ("Koebehall", 313, ⟨"Koebehall$Network", "hasNode", "(I)Z"⟩, "Koebehall"), ("Koebehall", 325, ⟨"Koebehall$Wire", "<init>", "(II)V"⟩, "Koebehall"), ("Koebehall", 327, ⟨"Koebehall$Network", "treesByTable", "()J"⟩, "Koebehall"), ("Koebehall", 330, ⟨"Koebehall$Network", "treesBySets", "()I"⟩, "Koebehall"), ("Koebehall", 333, ⟨"Koebehall$Network", "hasWire", "(I)Z"⟩, "Koebehall"), ("Koebehall", 342, ⟨"Koebehall$Network", "heightOf", "(III)J"⟩, "Koebehall"), ("Koebehall", 346, ⟨"Koebehall$Network", "fallAlong", "(III)J"⟩, "Koebehall"), ("Koebehall$Table", 25, ⟨"Koebehall", "isWithin", "(JJ)Z"⟩, "Koebehall")]
def kStrs : List (String × Nat × String) := [("Koebehall", 58, "there is no such face"), ("Koebehall", 69, "there are 16 corners"), ("Koebehall", 79, "there is no such corner"), ("Koebehall", 85, "they are no neighbours, or it cannot be done"), ("Koebehall", 91, "there is no such face or place"), ("Koebehall", 96, "there is no such corner, or place is below 0"), ("Koebehall", 118, "what is out of range"), ("Koebehall", 126, "an argument is out of range"), ("Koebehall", 132, "there are 16"), ("Koebehall", 146, "there is no such disk"), ("Koebehall", 160, "both are the same"), ("Koebehall", 165, "how is out of range"), ("Koebehall", 192, "they are none of a gasket"), ("Koebehall", 194, "there are 8"), ("Koebehall", 207, "the curvature would be above 1000000000000000"), ("Koebehall", 213, "there is no such rank"), ("Koebehall", 229, "by is out of range"), ("Koebehall", 238, "there is no such gasket"), ("Koebehall", 240, "there is no such place"), ("Koebehall", 242, "bound is out of range"), ("Koebehall", 244, "the gasket is not bounded"), ("Koebehall", 265, "a fraction is not in lowest terms"), ("Koebehall", 267, "a d less b c is not 1"), ("Koebehall", 269, "there are 4"), ("Koebehall", 271, "there is no such move"), ("Koebehall", 285, "a number of the word would be too great"), ("Koebehall", 306, "the fraction is not in lowest terms"), ("Koebehall", 308, "many is out of range"), ("Koebehall", 316, "there is no such node"), ("Koebehall", 321, "there are 10"), ("Koebehall", 336, "there is no such wire"), ("Koebehall", 338, "both nodes are the same"), ("Koebehall", 340, "the network has no tree")]
def kNcs : List (String × String) := [("Koebehall", "java/lang/IllegalArgumentException"), ("Koebehall", "java/lang/IllegalStateException"), ("Koebehall", "java/lang/IndexOutOfBoundsException"), ("Koebehall$Disk", "java/lang/IllegalArgumentException"), ("Koebehall$Disk", "java/lang/IllegalStateException"), ("Koebehall$Disk", "java/lang/IndexOutOfBoundsException"), ("Koebehall$Gasket", "java/lang/IllegalArgumentException"), ("Koebehall$Gasket", "java/lang/IllegalStateException"), ("Koebehall$Gasket", "java/lang/IndexOutOfBoundsException"), ("Koebehall$Net", "java/lang/IllegalArgumentException"), ("Koebehall$Net", "java/lang/IllegalStateException"), ("Koebehall$Net", "java/lang/IndexOutOfBoundsException"), ("Koebehall$Network", "java/lang/IllegalArgumentException"), ("Koebehall$Network", "java/lang/IllegalStateException"), ("Koebehall$Network", "java/lang/IndexOutOfBoundsException"), ("Koebehall$RemainderWalk", "java/lang/IllegalArgumentException"), ("Koebehall$RemainderWalk", "java/lang/IllegalStateException"), ("Koebehall$RemainderWalk", "java/lang/IndexOutOfBoundsException"), ("Koebehall$Table", "java/lang/IllegalArgumentException"), ("Koebehall$Table", "java/lang/IllegalStateException"), ("Koebehall$Table", "java/lang/IndexOutOfBoundsException"), ("Koebehall$Wire", "java/lang/IllegalArgumentException"), ("Koebehall$Wire", "java/lang/IllegalStateException"), ("Koebehall$Wire", "java/lang/IndexOutOfBoundsException"), ("java/lang/IllegalArgumentException", "java/lang/IllegalStateException"), ("java/lang/IllegalArgumentException", "java/lang/IndexOutOfBoundsException"), ("java/lang/IllegalStateException", "java/lang/IllegalArgumentException"), ("java/lang/IllegalStateException", "java/lang/IndexOutOfBoundsException"), ("java/lang/IndexOutOfBoundsException", "java/lang/IllegalArgumentException"), ("java/lang/IndexOutOfBoundsException", "java/lang/IllegalStateException"), ("java/util/ArrayList", "java/lang/IllegalArgumentException"), ("java/util/ArrayList", "java/lang/IllegalStateException"), ("java/util/ArrayList", "java/lang/IndexOutOfBoundsException")]
/-- classes' numbers and slots; array classes (0 int, 1 long, 2 boolean, 3 Object, 4 long[], 5 double); addresses (0 FIRST_FACES, 1 the empty list's array, 2 the mirror of Object[]) -/
abbrev kG : Type := va_G × (Nat → ClassId) × (Nat → Nat)
abbrev kTys (G : kG) : List (ClassId × FieldType) := [(G.2.1 0, .int), (G.2.1 1, .long), (G.2.1 2, .int), (G.2.1 3, .object "java/lang/Object"), (G.2.1 4, .array .long), (G.2.1 5, .long)]
abbrev kH : Type := Nat → Option va_E
def kd (f : kH) : Nat → va_E := fun a => (f a).getD (.inr (0, []))
def kst (f : kH) (a : Nat) (e : va_E) : kH := fun x => if x = a then some e else f x
theorem kst_s (f : kH) (a : Nat) (e : va_E) : kst f a e a = some e := by simp [kst]
theorem kst_n (f : kH) {a b : Nat} (e : va_E) (h : b ≠ a) : kst f a e b = f b := by simp [kst, h]
def kAb (B0 : Nat) : Nat → Prop := fun q => B0 ≤ q
/-- the heap H holds what f says; all of it lies at B0 and above -/
def kW (G : kG) (B0 : Nat) (f : kH) (H : Heap) : Prop := ∃ L : List Nat, (∀ a, a ∈ L ↔ (f a).isSome = true) ∧ va_P G.1 vwCl ([] ++ va_pl L (kd f)) H ∧ va_D (kAb B0) ([] ++ va_pl L (kd f))
/-- the classes whose objects lie in lists -/
def kCas : List String := ["Koebehall$Disk", "Koebehall$Gasket", "Koebehall$Table", "Koebehall$Wire"]
theorem kAOA_spec {s : State} (h : va_AOA .long s) : ∃ comp c k, s.vm.findClass "[J" = some comp ∧ s.vm.classes[c]? = some k ∧ k.kind = .array comp (.array .long) ∧ s.vm.findClass "[[J" = some c := Cond.arrayOver_specA h
theorem kAOA_moved {u U : State} (hvm : u.vm.Alike U.vm) (h : va_AOA .long u) : va_AOA .long U := by
  have e1 := Cond.arrayOver_setVmC (args := #[]) (s := u) (vm' := U.vm) hvm (.array .long)
  have e2 : (Cond.arrayOver (.array .long)).before #[] (u.setVm U.vm) = (Cond.arrayOver (.array .long)).before #[] U := rfl
  unfold va_AOA
  rw [← e2, e1]
  exact h
/-- what holds of the tables -/
def kT (G : kG) (U : State) : Prop := va_K G.1 vwCl (kTys G) U ∧ (∀ w ∈ kNestF, va_Nw (.fieldLinkNest w.1 w.2.1 w.2.2.1 w.2.2.2.1 w.2.2.2.2.1 w.2.2.2.2.2) U) ∧ (∀ w ∈ kNestM, va_Nw (.methodLinkNest w.1 w.2.1 w.2.2.1 w.2.2.2) U) ∧ (∀ w ∈ kStrs, ∃ a : Nat, vk_R w.1 w.2.1 w.2.2 a U) ∧ (∀ w ∈ kNcs, va_Nc w.1 w.2 U) ∧ va_AO "java/lang/Object" U ∧ va_Mi "[Ljava/lang/Object;" (G.2.2 2) U ∧ va_Dc U ∧ (∀ w ∈ kCas, va_Nw (.castable w "java/lang/Object") U) ∧ va_AOA .long U
def kFF : List Int32 := [0, 1, 2, 0, 3, 1, 1, 3, 2, 0, 2, 3]
/-- what holds of the statics -/
def kZ (G : kG) (B0 : Nat) (U : State) (H : Heap) : Prop := B0 ≤ H.size ∧ va_Z "Koebehall$Net" "FIRST_FACES" "[I" (.ref (G.2.2 0)) (kAb B0) U H ∧ va_T .int (G.2.2 0) 12 (fun j => .int (kFF.getD j 0)) (kAb B0) U H ∧ va_Z "java/util/ArrayList" "DEFAULTCAPACITY_EMPTY_ELEMENTDATA" "[Ljava/lang/Object;" (.ref (G.2.2 1)) (kAb B0) U H ∧ va_T (.object "java/lang/Object") (G.2.2 1) 0 (fun _ => .null) (kAb B0) U H ∧ vx_Zq Bundle.tN "UNASSIGNED_STACK" Bundle.steD (kAb B0) U H ∧ vx_Zq Bundle.tN "SUPPRESSED_SENTINEL" Bundle.listD (kAb B0) U H
theorem kT.same {G : kG} {u U : State} (h : u.vm = U.vm) (hT : kT G u) : kT G U := by
  have ha : u.vm.Alike U.vm := by rw [h]; exact Vm.Alike.refl _
  exact ⟨hT.1.moved ha, fun w hw => (hT.2.1 w hw).same rfl h, fun w hw => (hT.2.2.1 w hw).same rfl h, fun w hw => (hT.2.2.2.1 w hw).imp fun _ q => q.same h.symm, fun w hw => (hT.2.2.2.2.1 w hw).moved ha, hT.2.2.2.2.2.1.moved ha, hT.2.2.2.2.2.2.1.moved ha, hT.2.2.2.2.2.2.2.1.moved ha, fun w hw => (hT.2.2.2.2.2.2.2.2.1 w hw).same rfl h, kAOA_moved ha hT.2.2.2.2.2.2.2.2.2⟩
theorem kT.warm {G : kG} {s U : State} (hW : s.WarmedH U.vm) (hT : kT G s) : kT G U := by
  have ha : s.vm.Alike U.vm := hW.alike
  exact ⟨hT.1.moved ha, fun w hw => va_Nw.warmF hW (hT.2.1 w hw), fun w hw => va_Nw.warmM hW (hT.2.2.1 w hw), fun w hw => (hT.2.2.2.1 w hw).imp fun _ q => q.warm hW, fun w hw => (hT.2.2.2.2.1 w hw).moved ha, hT.2.2.2.2.2.1.moved ha, hT.2.2.2.2.2.2.1.moved ha, hT.2.2.2.2.2.2.2.1.moved ha, fun w hw => va_Nw.warmC hW (hT.2.2.2.2.2.2.2.2.1 w hw), kAOA_moved ha hT.2.2.2.2.2.2.2.2.2⟩
theorem kZ.moved {G : kG} {B0 : Nat} {u U : State} {H : Heap} (ha : u.vm.Alike U.vm) (h : kZ G B0 u H) : kZ G B0 U H :=
  ⟨h.1, h.2.1.moved ha, h.2.2.1.moved ha, h.2.2.2.1.moved ha, h.2.2.2.2.1.moved ha, h.2.2.2.2.2.1.moved ha, h.2.2.2.2.2.2.moved ha⟩
theorem kZ.kept {G : kG} {B0 : Nat} {U : State} {H H1 : Heap} (h : kZ G B0 U H) (hz : H.size ≤ H1.size) (hq : ∀ q : Nat, q < H.size → ¬ kAb B0 q → H1[q]? = H[q]?) : kZ G B0 U H1 :=
  ⟨Nat.le_trans h.1 hz, h.2.1.kept hq, h.2.2.1.kept hq, h.2.2.2.1.kept hq, h.2.2.2.2.1.kept hq, h.2.2.2.2.2.1.kept hq, h.2.2.2.2.2.2.kept hq⟩
/-- a method's start -/
def kP (G : kG) (B0 : Nat) (f : kH) (av : List Value) : Array Value → State → Prop := va_Pc av (fun U => kW G B0 f U.heap ∧ kT G U ∧ kZ G B0 U U.heap)
theorem kP_blind {G : kG} {B0 : Nat} {f : kH} {av : List Value} : FrameBlind (kP G B0 f av) := fun a U g mk h => ⟨h.1, h.2.1, kT.same (u := U) (U := U.calling g mk a) rfl h.2.2.1, kZ.moved (u := U) (U := U.calling g mk a) (Vm.Alike.refl U.vm) h.2.2.2⟩
/-- a method's end -/
abbrev kB (G : kG) (B0 : Nat) : kH → State → Prop := fun f t => kW G B0 f t.heap
abbrev kQi (G : kG) (B0 : Nat) (post : Int32 → kH → Prop) := va_Qi post (kB G B0) (kAb B0)
abbrev kQl (G : kG) (B0 : Nat) (post : Int64 → kH → Prop) := va_Ql post (kB G B0) (kAb B0)
abbrev kQv (G : kG) (B0 : Nat) (post : kH → Prop) := va_Qv post (kB G B0) (kAb B0)
abbrev kQq (G : kG) (B0 : Nat) (post : Option Nat → kH → Prop) := va_Qq post (kB G B0) (kAb B0)
/-- what stays in a method's body -/
def kC (G : kG) (B0 : Nat) (p : Program) (m : MethodId) (c : Code) (cc : ByteArray) (nL : Nat) (s : State) (args : Array Value) (Ts : List Cond) (own : String) : Prop := CallFix p m c cc nL s args Ts own ∧ kT G s ∧ kZ G B0 s s.heap
/-- what moves in it -/
def kX (G : kG) (B0 : Nat) (s : State) (f : kH) (H : Heap) (locs : List Loc) : Prop := kW G B0 f H ∧ va_S (kAb B0) s.heap H locs
theorem kW.at {G : kG} {B0 : Nat} {f : kH} {H : Heap} (h : kW G B0 f H) {a : Nat} {e : va_E} (ha : f a = some e) : va_P G.1 vwCl [(a, e)] H := by
  obtain ⟨L, hL, hP, hD⟩ := h
  have hm : a ∈ L := (hL a).mpr (by rw [ha]; rfl)
  obtain ⟨k, hk⟩ := va_pl_get (X := []) (f := kd f) hm
  have hka : kd f a = e := by simp [kd, ha]
  rw [hka] at hk
  intro j q hj
  cases j with
  | zero => cases hj; exact hP k _ hk
  | succ j => simp at hj
theorem kW.ge {G : kG} {B0 : Nat} {f : kH} {H : Heap} (h : kW G B0 f H) {a : Nat} {e : va_E} (ha : f a = some e) : B0 ≤ a ∧ a < H.size := by
  have h1 := (h.at ha 0 _ rfl).lt
  obtain ⟨L, hL, hP, hD⟩ := h
  have hm : a ∈ L := (hL a).mpr (by rw [ha]; rfl)
  obtain ⟨k, hk⟩ := va_pl_get (X := []) (f := kd f) hm
  exact ⟨hD.2 k _ hk, h1⟩
theorem kW.none {G : kG} {B0 : Nat} {f : kH} {H : Heap} (h : kW G B0 f H) {a : Nat} (ha : H.size ≤ a) : f a = none := by
  cases hf : f a with
  | none => rfl
  | some e => exact absurd (h.ge hf).2 (Nat.not_lt.mpr ha)
/-- a cell is written -/
theorem kW.put {G : kG} {B0 : Nat} {f : kH} {H H1 : Heap} (h : kW G B0 f H) {a : Nat} {e0 e : va_E} (ha : f a = some e0) (he : va_at G.1 vwCl (a, e) H1) (oq : ∀ q : Nat, q ≠ a → H1[q]? = H[q]?) : kW G B0 (kst f a e) H1 := by
  obtain ⟨L, hL, hP, hD⟩ := h
  have hm : a ∈ L := (hL a).mpr (by rw [ha]; rfl)
  obtain ⟨k, hk⟩ := va_pl_get (X := []) (f := kd f) hm
  have hs := va_pl_set (e := e) hD hm hk
  have hc : va_pl L (va_up (kd f) a e) = va_pl L (kd (kst f a e)) := va_pl_congr fun b => by
    by_cases hb : b = a
    · subst hb; simp [va_up, kd, kst]
    · simp [va_up, kd, kst, hb]
  refine ⟨L, fun b => ?_, ?_, ?_⟩
  · by_cases hb : b = a
    · subst hb; simp [kst, hm]
    · rw [kst_n _ _ hb]; exact hL b
  · rw [← hc, ← hs]; exact hP.set hD hk he oq
  · rw [← hc, ← hs]; exact hD.set hk
/-- a cell is new -/
theorem kW.push {G : kG} {B0 : Nat} {f : kH} {H H1 : Heap} (h : kW G B0 f H) {e : va_E} (hB : B0 ≤ H.size) (he : va_at G.1 vwCl (H.size, e) H1) (oq : ∀ q : Nat, q < H.size → H1[q]? = H[q]?) : kW G B0 (kst f H.size e) H1 := by
  have hn := h.none (Nat.le_refl H.size)
  obtain ⟨L, hL, hP, hD⟩ := h
  have hm : H.size ∉ L := fun q => by have := (hL _).mp q; rw [hn] at this; cases this
  have hc : va_pl (L ++ [H.size]) (va_up (kd f) H.size e) = va_pl (L ++ [H.size]) (kd (kst f H.size e)) := va_pl_congr fun b => by
    by_cases hb : b = H.size
    · subst hb; simp [va_up, kd, kst]
    · simp [va_up, kd, kst, hb]
  refine ⟨L ++ [H.size], fun b => ?_, ?_, ?_⟩
  · by_cases hb : b = H.size
    · subst hb; simp [kst]
    · rw [kst_n _ _ hb, List.mem_append]
      constructor
      · rintro (q | q)
        · exact (hL b).mp q
        · exact absurd (List.mem_singleton.mp q) hb
      · exact fun q => Or.inl ((hL b).mpr q)
  · rw [← hc, ← va_pl_push hm, ← List.append_assoc]
    refine (hP.kept fun k q hk => oq _ (hP k q hk).lt).app fun k q hk => ?_
    cases k with
    | zero => cases hk; exact he
    | succ k => simp at hk
  · rw [← hc, ← va_pl_push hm, ← List.append_assoc]
    exact hD.push hP rfl hB
theorem kX.call {G : kG} {B0 : Nat} {s : State} {f f1 : kH} {H H1 : Heap} {locs locs1 : List Loc} (_ : kX G B0 s f H locs) (hB : kW G B0 f1 H1) (hS : va_S (kAb B0) s.heap H1 locs1) : kX G B0 s f1 H1 locs1 := ⟨hB, hS⟩
/-- cells of different contents lie apart -/
theorem k_ne {f : kH} {a b : Nat} {x y : va_E} (ha : f a = some x) (hb : f b = some y) (h : x ≠ y) : a ≠ b := fun q => by
  subst q; rw [ha] at hb; exact h (Option.some.inj hb)
theorem k_neI {ci n : Nat} {fs : List Value} {cA : ClassId} {x : vp_A} : (Sum.inr (ci, fs) : va_E) ≠ .inl (cA, x) := fun h => nomatch h
theorem k_neR {ci n : Nat} {fs : List Value} {cA : ClassId} {x : vp_A} : (Sum.inl (cA, x) : va_E) ≠ .inr (ci, fs) := fun h => nomatch h
abbrev kaI (G : kG) (n : Nat) (g : Nat → Int32) : va_E := .inl (G.2.1 0, n, .inl g)
abbrev kaZ (G : kG) (n : Nat) (g : Nat → Int32) : va_E := .inl (G.2.1 2, n, .inl g)
abbrev kaJ (G : kG) (n : Nat) (g : Nat → Int64) : va_E := .inl (G.2.1 1, n, .inr (.inl g))
abbrev kaD (G : kG) (n : Nat) (g : Nat → UInt64) : va_E := .inl (G.2.1 5, n, .inr (.inr (.inr (.inl g))))
abbrev kaO (G : kG) (n : Nat) (g : Nat → Option Nat) : va_E := .inl (G.2.1 3, n, .inr (.inr (.inr (.inr g))))
abbrev kaR (G : kG) (n : Nat) (g : Nat → Option Nat) : va_E := .inl (G.2.1 4, n, .inr (.inr (.inr (.inr g))))
section KR
variable {p : Program} {l : Launch} {e : Env} {R : Room} {s : State} {m : MethodId} {args : Array Value} {below : List Frame} {meth : Method} {c : Code} {H : Heap} {locs : List Loc} {cells slots : Nat} {Q : State → Prop}
variable {cc : ByteArray} {pc : Nat} {ls : Array Slot} {rest : List Value} {G : kG} {B0 nL : Nat} {f : kH} {Ts : List Cond} {own : String} {a : Nat}
theorem kC.x (C : kC G B0 p m c cc nL s args Ts own) : p.tables.exec = Jvm.exec := C.1.1
theorem kC.b (C : kC G B0 p m c cc nL s args Ts own) : c.code = cc := C.1.2.1
theorem kC.ml (C : kC G B0 p m c cc nL s args Ts own) : c.maxLocals = nL := C.1.2.2.1
theorem kC.ow (C : kC G B0 p m c cc nL s args Ts own) : s.vm.findClass own = some m.cls := C.1.2.2.2.1
theorem kC.ts (C : kC G B0 p m c cc nL s args Ts own) : ∀ w ∈ Ts, w.before args s = true := C.1.2.2.2.2
theorem kC.K (C : kC G B0 p m c cc nL s args Ts own) : va_K G.1 vwCl (kTys G) s := C.2.1.1
theorem k_get (C : kC G B0 p m c cc nL s args Ts own) (hX : kX G B0 s f H locs) {ref X : String} {T : u_T} {N ci index : Nat} {fs : List Value} (ha : f a = some (.inr (ci, fs))) (hc : vwCl[ci]? = some (X, T, N)) (hin : ∀ w ∈ u_ws X T N, w ∈ Ts) (k : Nat) (hk : k < N) (hlink : Cond.fieldLink own index ref (T k).2.1 (T k).2.2.1 ∈ Ts) (hsame : ∀ x, s.fieldFound? (T k).1 (T k).2.1 (T k).2.2.1 = some x → s.fieldFound? ref (T k).2.1 (T k).2.2.1 = some x) {v : Value} (hv : fs[k]? = some v) (hdg : decode cc pc = .ok (.getfield index, 3))
    (kk : W p l e R s m args below meth c H locs cells slots Q (F0 m (pc + 3) ls (v :: rest))) : W p l e R s m args below meth c H locs cells slots Q (F0 m pc ls (.ref a :: rest)) :=
  va_get (D := G.1) (cl := vwCl) C.x C.b C.ts hin C.ow C.K (hX.1.at ha) 0 rfl hc k hk (C.ts _ hlink) hsame hv hdg kk
theorem k_getN (C : kC G B0 p m c cc nL s args Ts own) (hX : kX G B0 s f H locs) {ref X host : String} {T : u_T} {N ci index : Nat} {fs : List Value} (ha : f a = some (.inr (ci, fs))) (hc : vwCl[ci]? = some (X, T, N)) (hin : ∀ w ∈ u_ws X T N, w ∈ Ts) (k : Nat) (hk : k < N) (hlink : (own, index, ref, (T k).2.1, (T k).2.2.1, host) ∈ kNestF) (hsame : ∀ x, s.fieldFound? (T k).1 (T k).2.1 (T k).2.2.1 = some x → s.fieldFound? ref (T k).2.1 (T k).2.2.1 = some x) {v : Value} (hv : fs[k]? = some v) (hdg : decode cc pc = .ok (.getfield index, 3))
    (kk : W p l e R s m args below meth c H locs cells slots Q (F0 m (pc + 3) ls (v :: rest))) : W p l e R s m args below meth c H locs cells slots Q (F0 m pc ls (.ref a :: rest)) :=
  va_getN (D := G.1) (cl := vwCl) C.x C.b C.ts hin C.ow C.K (hX.1.at ha) 0 rfl hc k hk (va_Nw.use rfl (C.2.1.2.1 _ hlink)) hsame hv hdg kk
/-- the written cell of a one-cell world, and all others -/
theorem kX.of1 {f : kH} {e0 e1 : va_E} {H H1 : Heap} {locs1 : List Loc} (hX : kX G B0 s f H locs) (ha : f a = some e0) (hP : va_P G.1 vwCl [(a, e1)] H1) (hS : va_S (kAb B0) s.heap H1 locs1) (oq : ∀ q : Nat, q ≠ a → H1[q]? = H[q]?) : kX G B0 s (kst f a e1) H1 locs1 := ⟨hX.1.put ha (hP 0 _ rfl) oq, hS⟩
theorem kX.P {f : kH} {H : Heap} (hX : kX G B0 s f H locs) : ∃ L : List Nat, (∀ a, a ∈ L ↔ (f a).isSome = true) ∧ va_P G.1 vwCl ([] ++ va_pl L (kd f)) H ∧ va_D (kAb B0) ([] ++ va_pl L (kd f)) := hX.1
/-- from the pooled form back -/
theorem kX.back {f : kH} {L : List Nat} {k : Nat} {e1 : va_E} {H1 : Heap} {locs1 : List Loc} (hL : ∀ a, a ∈ L ↔ (f a).isSome = true) (hD0 : va_D (kAb B0) ([] ++ va_pl L (kd f))) (hm : a ∈ L) (hk : ([] ++ va_pl L (kd f))[k]? = some (a, kd f a)) (hP : va_P G.1 vwCl (([] ++ va_pl L (kd f)).set k (a, e1)) H1) (hD : va_D (kAb B0) (([] ++ va_pl L (kd f)).set k (a, e1))) (hS : va_S (kAb B0) s.heap H1 locs1) : kX G B0 s (kst f a e1) H1 locs1 := by
  have hs := va_pl_set (e := e1) hD0 hm hk
  have hc : va_pl L (va_up (kd f) a e1) = va_pl L (kd (kst f a e1)) := va_pl_congr fun b => by
    by_cases hb : b = a
    · subst hb; simp [va_up, kd, kst]
    · simp [va_up, kd, kst, hb]
  rw [hs, hc] at hP hD
  refine ⟨⟨L, fun b => ?_, hP, hD⟩, hS⟩
  by_cases hb : b = a
  · subst hb; simp [kst, hm]
  · rw [kst_n _ _ hb]; exact hL b
theorem kX.look {f : kH} {e0 : va_E} (ha : f a = some e0) {L : List Nat} (hL : ∀ a, a ∈ L ↔ (f a).isSome = true) : a ∈ L ∧ ∃ k : Nat, ([] ++ va_pl L (kd f))[k]? = some (a, kd f a) ∧ ([] ++ va_pl L (kd f))[k]? = some (a, e0) := by
  have hm : a ∈ L := (hL a).mpr (by rw [ha]; rfl)
  obtain ⟨k, hk⟩ := va_pl_get (X := []) (f := kd f) hm
  have hka : kd f a = e0 := by simp [kd, ha]
  exact ⟨hm, k, hk, by rw [← hka]; exact hk⟩
theorem k_put (C : kC G B0 p m c cc nL s args Ts own) (hX : kX G B0 s f H locs) {ref X : String} {T : u_T} {N ci index : Nat} {fs : List Value} (ha : f a = some (.inr (ci, fs))) (hc : vwCl[ci]? = some (X, T, N)) (hin : ∀ w ∈ u_ws X T N, w ∈ Ts) {ty0 : Nat → FieldType} (hty : ∀ k, k < N → parseFieldDescriptor (T k).2.2.1 = some (ty0 k)) (hnm : ∀ a, a < N → ∀ b, b < N → a ≠ b → (T a).2.1 ≠ (T b).2.1) (k : Nat) (hk : k < N) (hlink : Cond.fieldLink own index ref (T k).2.1 (T k).2.2.1 ∈ Ts) (hsame : ∀ x, s.fieldFound? (T k).1 (T k).2.1 (T k).2.2.1 = some x → s.fieldFound? ref (T k).2.1 (T k).2.2.1 = some x) (hfin : (T k).2.2.2 = false) {ty : FieldType} {v : Value} (hd : parseFieldDescriptor (T k).2.2.1 = some ty) (hn : narrow ty v = v) (hfit : fits ty v = true) (hl : k < fs.length) (hdg : decode cc pc = .ok (.putfield index, 3))
    (kk : ∀ (H1 : Heap) (locs1 : List Loc), kX G B0 s (kst f a (.inr (ci, fs.set k v))) H1 locs1 → W p l e R s m args below meth c H1 locs1 cells slots Q (F0 m (pc + 3) ls rest)) : W p l e R s m args below meth c H locs cells slots Q (F0 m pc ls (v :: .ref a :: rest)) := by
  obtain ⟨L, hL, hP, hD⟩ := hX.P
  obtain ⟨hm, q0, h1, h2⟩ := kX.look ha hL
  exact va_put (D := G.1) (cl := vwCl) C.x C.b C.ts hin ty0 hty hnm C.ow C.K hP hD hX.2 q0 h2 hc k hk (C.ts _ hlink) hsame hfin hd hn hfit hl hdg fun H1 locs1 hP1 hD1 hS1 => kk H1 locs1 (kX.back hL hD hm h1 hP1 hD1 hS1)
theorem k_putF (C : kC G B0 p m c cc nL s args Ts own) (hX : kX G B0 s f H locs) {ref X : String} {T : u_T} {N ci index : Nat} {fs : List Value} (ha : f a = some (.inr (ci, fs))) (hc : vwCl[ci]? = some (X, T, N)) (hin : ∀ w ∈ u_ws X T N, w ∈ Ts) {ty0 : Nat → FieldType} (hty : ∀ k, k < N → parseFieldDescriptor (T k).2.2.1 = some (ty0 k)) (hnm : ∀ a, a < N → ∀ b, b < N → a ≠ b → (T a).2.1 ≠ (T b).2.1) (k : Nat) (hk : k < N) (hlink : Cond.fieldLink own index ref (T k).2.1 (T k).2.2.1 ∈ Ts) (hsame : ∀ x, s.fieldFound? (T k).1 (T k).2.1 (T k).2.2.1 = some x → s.fieldFound? ref (T k).2.1 (T k).2.2.1 = some x) (hown0 : own = X) (hinit : meth.name = "<init>") (hfin : (T k).2.2.2 = true) (hdecl : (T k).1 = own) {ty : FieldType} {v : Value} (hd : parseFieldDescriptor (T k).2.2.1 = some ty) (hn : narrow ty v = v) (hfit : fits ty v = true) (hl : k < fs.length) (hdg : decode cc pc = .ok (.putfield index, 3))
    (kk : ∀ (H1 : Heap) (locs1 : List Loc), kX G B0 s (kst f a (.inr (ci, fs.set k v))) H1 locs1 → W p l e R s m args below meth c H1 locs1 cells slots Q (F0 m (pc + 3) ls rest)) : W p l e R s m args below meth c H locs cells slots Q (F0 m pc ls (v :: .ref a :: rest)) := by
  subst hown0
  obtain ⟨L, hL, hP, hD⟩ := hX.P
  obtain ⟨hm, q0, h1, h2⟩ := kX.look ha hL
  exact va_putF (D := G.1) (cl := vwCl) C.x C.b C.ts hin ty0 hty hnm C.ow C.K hP hD hX.2 q0 h2 hc k hk (C.ts _ hlink) hsame hfin hinit hdecl hd hn hfit hl hdg fun H1 locs1 hP1 hD1 hS1 => kk H1 locs1 (kX.back hL hD hm h1 hP1 hD1 hS1)
theorem k_iald (C : kC G B0 p m c cc nL s args Ts own) (hX : kX G B0 s f H locs) {n : Nat} {g : Nat → Int32} (ha : f a = some (kaI G n g)) {i : Int32} (hin : vp_in i n) (hdg : decode cc pc = .ok (.iaload, 1))
    (kk : W p l e R s m args below meth c H locs cells slots Q (F0 m (pc + 1) ls (.int (g i.toNatClampNeg) :: rest))) : W p l e R s m args below meth c H locs cells slots Q (F0 m pc ls (.int i :: .ref a :: rest)) :=
  va_iald (D := G.1) (cl := vwCl) C.x C.b C.K (hX.1.at ha) 0 0 rfl rfl hin hdg kk
theorem k_lald (C : kC G B0 p m c cc nL s args Ts own) (hX : kX G B0 s f H locs) {n : Nat} {g : Nat → Int64} (ha : f a = some (kaJ G n g)) {i : Int32} (hin : vp_in i n) (hdg : decode cc pc = .ok (.laload, 1))
    (kk : W p l e R s m args below meth c H locs cells slots Q (F0 m (pc + 1) ls (.long (g i.toNatClampNeg) :: rest))) : W p l e R s m args below meth c H locs cells slots Q (F0 m pc ls (.int i :: .ref a :: rest)) :=
  va_lald (D := G.1) (cl := vwCl) C.x C.b C.K (hX.1.at ha) 0 1 rfl rfl hin hdg kk
theorem k_iast (C : kC G B0 p m c cc nL s args Ts own) (hX : kX G B0 s f H locs) {n : Nat} {g : Nat → Int32} (ha : f a = some (kaI G n g)) {i x : Int32} (hin : vp_in i n) (hdg : decode cc pc = .ok (.iastore, 1))
    (kk : ∀ (H1 : Heap) (locs1 : List Loc), kX G B0 s (kst f a (kaI G n (upd g i.toNatClampNeg x))) H1 locs1 → W p l e R s m args below meth c H1 locs1 cells slots Q (F0 m (pc + 1) ls rest)) : W p l e R s m args below meth c H locs cells slots Q (F0 m pc ls (.int x :: .int i :: .ref a :: rest)) := by
  obtain ⟨L, hL, hP, hD⟩ := hX.P
  obtain ⟨hm, q0, h1, h2⟩ := kX.look ha hL
  exact va_iast (D := G.1) (cl := vwCl) C.x C.b C.K hP hD hX.2 q0 0 h2 rfl hin hdg fun H1 locs1 hP1 hD1 hS1 => kk H1 locs1 (kX.back hL hD hm h1 hP1 hD1 hS1)
theorem k_last (C : kC G B0 p m c cc nL s args Ts own) (hX : kX G B0 s f H locs) {n : Nat} {g : Nat → Int64} (ha : f a = some (kaJ G n g)) {i : Int32} {x : Int64} (hin : vp_in i n) (hdg : decode cc pc = .ok (.lastore, 1))
    (kk : ∀ (H1 : Heap) (locs1 : List Loc), kX G B0 s (kst f a (kaJ G n (vp_updL g i.toNatClampNeg x))) H1 locs1 → W p l e R s m args below meth c H1 locs1 cells slots Q (F0 m (pc + 1) ls rest)) : W p l e R s m args below meth c H locs cells slots Q (F0 m pc ls (.long x :: .int i :: .ref a :: rest)) := by
  obtain ⟨L, hL, hP, hD⟩ := hX.P
  obtain ⟨hm, q0, h1, h2⟩ := kX.look ha hL
  exact va_last (D := G.1) (cl := vwCl) C.x C.b C.K hP hD hX.2 q0 1 h2 rfl hin hdg fun H1 locs1 hP1 hD1 hS1 => kk H1 locs1 (kX.back hL hD hm h1 hP1 hD1 hS1)
theorem k_alenI (C : kC G B0 p m c cc nL s args Ts own) (hX : kX G B0 s f H locs) {n : Nat} {g : Nat → Int32} (ha : f a = some (kaI G n g)) (hdg : decode cc pc = .ok (.arraylength, 1))
    (kk : W p l e R s m args below meth c H locs cells slots Q (F0 m (pc + 1) ls (.int (nI n) :: rest))) : W p l e R s m args below meth c H locs cells slots Q (F0 m pc ls (.ref a :: rest)) :=
  va_alen (D := G.1) (cl := vwCl) C.x C.b C.K (hX.1.at ha) 0 0 rfl rfl rfl hdg kk
theorem k_alenJ (C : kC G B0 p m c cc nL s args Ts own) (hX : kX G B0 s f H locs) {n : Nat} {g : Nat → Int64} (ha : f a = some (kaJ G n g)) (hdg : decode cc pc = .ok (.arraylength, 1))
    (kk : W p l e R s m args below meth c H locs cells slots Q (F0 m (pc + 1) ls (.int (nI n) :: rest))) : W p l e R s m args below meth c H locs cells slots Q (F0 m pc ls (.ref a :: rest)) :=
  va_alen (D := G.1) (cl := vwCl) C.x C.b C.K (hX.1.at ha) 0 1 rfl rfl rfl hdg kk
theorem k_alenO (C : kC G B0 p m c cc nL s args Ts own) (hX : kX G B0 s f H locs) {n : Nat} {g : Nat → Option Nat} (ha : f a = some (kaO G n g)) (hdg : decode cc pc = .ok (.arraylength, 1))
    (kk : W p l e R s m args below meth c H locs cells slots Q (F0 m (pc + 1) ls (.int (nI n) :: rest))) : W p l e R s m args below meth c H locs cells slots Q (F0 m pc ls (.ref a :: rest)) :=
  va_alen (D := G.1) (cl := vwCl) C.x C.b C.K (hX.1.at ha) 0 3 rfl rfl rfl hdg kk
/-- what a callee's start asks -/
theorem kC.pre (C : kC G B0 p m c cc nL s args Ts own) (hX : kX G B0 s f H locs) {U : State} (hU : U.heap = H) (hW : s.WarmedH U.vm) : kW G B0 f U.heap ∧ kT G U ∧ kZ G B0 U U.heap := by
  rw [hU]
  exact ⟨hX.1, C.2.1.warm hW, (C.2.2.kept hX.2.1 (fun q h1 h2 => hX.2.2.1 q h1 h2)).moved hW.alike⟩
theorem k_preS (C : kC G B0 p m c cc nL s args Ts own) (hX : kX G B0 s f H locs) {As : List Value} : PreS s H (kP G B0 f As) As := ⟨kP_blind, fun _ hU hW => ⟨rfl, C.pre hX hU hW⟩⟩
theorem k_preV (C : kC G B0 p m c cc nL s args Ts own) (hX : kX G B0 s f H locs) {As : List Value} {ci : Nat} {fs : List Value} {X : String} {T : u_T} {N : Nat} (ha : f a = some (.inr (ci, fs))) (hc : vwCl[ci]? = some (X, T, N)) : PreV s H X a (kP G B0 f (.ref a :: As)) As := ⟨kP_blind, va_recv C.K (hX.1.at ha) (q0 := 0) hc rfl, fun _ hU hW => ⟨rfl, C.pre hX hU hW⟩⟩
variable {st0 : List Value} {av : Array Value} {mc ms : Nat} {nn : Nat}
theorem k_calli {post : Int32 → kH → Prop} (hr : va_Run p l e R s m args below meth c H locs cells slots mc ms (F0 m pc ls st0) rest (kQi G B0 post av) (kAb B0)) (hX : kX G B0 s f H locs)
    (kk : ∀ (r : Int32) (f1 : kH) (H1 : Heap) (locs1 : List Loc), post r f1 → kX G B0 s f1 H1 locs1 → W p l e R s m args below meth c H1 locs1 (cells + mc) (slots + ms) Q (F0 m (pc + 3) ls (.int r :: rest))) : W p l e R s m args below meth c H locs cells slots Q (F0 m pc ls st0) :=
  va_calli hr hX.2 (fun _ _ h => h) (fun _ h => h) fun r f1 t H1 locs1 ht _ hp hB _ _ hS => kk r f1 H1 locs1 hp ⟨ht ▸ hB, hS⟩
theorem k_calll {post : Int64 → kH → Prop} (hr : va_Run p l e R s m args below meth c H locs cells slots mc ms (F0 m pc ls st0) rest (kQl G B0 post av) (kAb B0)) (hX : kX G B0 s f H locs)
    (kk : ∀ (r : Int64) (f1 : kH) (H1 : Heap) (locs1 : List Loc), post r f1 → kX G B0 s f1 H1 locs1 → W p l e R s m args below meth c H1 locs1 (cells + mc) (slots + ms) Q (F0 m (pc + 3) ls (.long r :: rest))) : W p l e R s m args below meth c H locs cells slots Q (F0 m pc ls st0) :=
  va_calll hr hX.2 (fun _ _ h => h) (fun _ h => h) fun r f1 t H1 locs1 ht _ hp hB _ _ hS => kk r f1 H1 locs1 hp ⟨ht ▸ hB, hS⟩
theorem k_callv {post : kH → Prop} (hr : va_Run p l e R s m args below meth c H locs cells slots mc ms (F0 m pc ls st0) rest (kQv G B0 post av) (kAb B0)) (hX : kX G B0 s f H locs)
    (kk : ∀ (f1 : kH) (H1 : Heap) (locs1 : List Loc), post f1 → kX G B0 s f1 H1 locs1 → W p l e R s m args below meth c H1 locs1 (cells + mc) (slots + ms) Q (F0 m (pc + 3) ls rest)) : W p l e R s m args below meth c H locs cells slots Q (F0 m pc ls st0) :=
  va_callv hr hX.2 (fun _ _ h => h) (fun _ h => h) fun f1 t H1 locs1 ht _ hp hB _ _ hS => kk f1 H1 locs1 hp ⟨ht ▸ hB, hS⟩
theorem k_callq {post : Option Nat → kH → Prop} (hr : va_Run p l e R s m args below meth c H locs cells slots mc ms (F0 m pc ls st0) rest (kQq G B0 post av) (kAb B0)) (hX : kX G B0 s f H locs)
    (kk : ∀ (r : Option Nat) (f1 : kH) (H1 : Heap) (locs1 : List Loc), post r f1 → kX G B0 s f1 H1 locs1 → W p l e R s m args below meth c H1 locs1 (cells + mc) (slots + ms) Q (F0 m (pc + 3) ls (va_rf r :: rest))) : W p l e R s m args below meth c H locs cells slots Q (F0 m pc ls st0) :=
  va_callq hr hX.2 (fun _ _ h => h) (fun _ h => h) fun r f1 t H1 locs1 ht _ hp hB _ _ hS => kk r f1 H1 locs1 hp ⟨ht ▸ hB, hS⟩
/-- a method's end: the answer, and the heap behind it -/
theorem k_iret {post : Int32 → kH → Prop} {v : Int32} (C : kC G B0 p m c cc nL s args Ts own) (hX : kX G B0 s f H locs) (hr : meth.sig.returnType = some .int) (hlocks : meth.locks = false) (hQ : Q = MQ below (kQi G B0 post) args s mc ms (kAb B0)) (hc : cells ≤ mc) (hs : slots ≤ ms) (hp : post v f) (hdg : decode cc pc = .ok (.ireturn, 1)) : W p l e R s m args below meth c H locs cells slots Q (F0 m pc ls [.int v]) := by
  subst hQ
  refine W.widen hc hs ?_
  exact W.iret C.x C.b hr (fun t ht _ => ⟨⟨v, f, rfl, hp, by show kW G B0 f t.heap; rw [ht]; exact hX.1⟩, hX.2.F ht⟩) hX.2.2.2 hdg hlocks
theorem k_zret {post : Int32 → kH → Prop} {v : Int32} (C : kC G B0 p m c cc nL s args Ts own) (hX : kX G B0 s f H locs) (hr : meth.sig.returnType = some .boolean) (hlocks : meth.locks = false) (hQ : Q = MQ below (kQi G B0 post) args s mc ms (kAb B0)) (hc : cells ≤ mc) (hs : slots ≤ ms) (hv : v = 0 ∨ v = 1) (hp : post v f) (hdg : decode cc pc = .ok (.ireturn, 1)) : W p l e R s m args below meth c H locs cells slots Q (F0 m pc ls [.int v]) := by
  subst hQ
  refine W.widen hc hs ?_
  exact W.zret C.x C.b hr (by rcases hv with rfl | rfl <;> rfl) (fun t ht _ => ⟨⟨v, f, rfl, hp, by show kW G B0 f t.heap; rw [ht]; exact hX.1⟩, hX.2.F ht⟩) hX.2.2.2 hdg hlocks
theorem k_lret {post : Int64 → kH → Prop} {v : Int64} (C : kC G B0 p m c cc nL s args Ts own) (hX : kX G B0 s f H locs) (hr : meth.sig.returnType = some .long) (hlocks : meth.locks = false) (hQ : Q = MQ below (kQl G B0 post) args s mc ms (kAb B0)) (hc : cells ≤ mc) (hs : slots ≤ ms) (hp : post v f) (hdg : decode cc pc = .ok (.lreturn, 1)) : W p l e R s m args below meth c H locs cells slots Q (F0 m pc ls [.long v]) := by
  subst hQ
  refine W.widen hc hs ?_
  exact W.lret C.x C.b hr (fun t ht _ => ⟨⟨v, f, rfl, hp, by show kW G B0 f t.heap; rw [ht]; exact hX.1⟩, hX.2.F ht⟩) hX.2.2.2 hdg hlocks
theorem k_vret {post : kH → Prop} (C : kC G B0 p m c cc nL s args Ts own) (hX : kX G B0 s f H locs) (hr : meth.sig.returnType = none) (hlocks : meth.locks = false) (hQ : Q = MQ below (kQv G B0 post) args s mc ms (kAb B0)) (hc : cells ≤ mc) (hs : slots ≤ ms) (hp : post f) (hdg : decode cc pc = .ok (.return_, 1)) : W p l e R s m args below meth c H locs cells slots Q (F0 m pc ls []) := by
  subst hQ
  refine W.widen hc hs ?_
  exact W.vret C.x C.b hr (fun t ht _ => ⟨⟨f, rfl, hp, by show kW G B0 f t.heap; rw [ht]; exact hX.1⟩, hX.2.F ht⟩) hX.2.2.2 hdg hlocks
theorem k_topi {x y : Int32} (h : x = y) (k : W p l e R s m args below meth c H locs cells slots Q (F0 m pc ls (.int y :: rest))) : W p l e R s m args below meth c H locs cells slots Q (F0 m pc ls (.int x :: rest)) := by
  subst h; exact k
theorem k_topl {x y : Int64} (h : x = y) (k : W p l e R s m args below meth c H locs cells slots Q (F0 m pc ls (.long y :: rest))) : W p l e R s m args below meth c H locs cells slots Q (F0 m pc ls (.long x :: rest)) := by
  subst h; exact k
theorem i64_tri (x y : Int64) : x < y ∨ x = y ∨ y < x := by
  rcases Int.lt_trichotomy x.toInt y.toInt with h | h | h
  · exact Or.inl (Int64.lt_iff_toInt_lt.mpr h)
  · exact Or.inr (Or.inl (Int64.toInt_inj.mp h))
  · exact Or.inr (Or.inr (Int64.lt_iff_toInt_lt.mpr h))
theorem lgc_1 {x y : Int64} (h : y < x) : lg_cmp x y = 1 := by simp [lg_cmp, h]
theorem lgc_0 {x : Int64} : lg_cmp x x = 0 := by simp [lg_cmp]
theorem lgc_m {x y : Int64} (h : x < y) : lg_cmp x y = -1 := by
  have h1 : ¬ y < x := fun q => Int64.lt_irrefl (Int64.lt_trans h q)
  have h2 : ¬ x = y := fun q => by subst q; exact Int64.lt_irrefl h
  simp [lg_cmp, h1, h2]
theorem lgc_lt {x y : Int64} : lg_cmp x y < 0 ↔ x < y := by
  rcases i64_tri x y with h | h | h
  · rw [lgc_m h]; exact ⟨fun _ => h, fun _ => by decide⟩
  · subst h; rw [lgc_0]; exact ⟨fun q => absurd q (by decide), fun q => absurd q (Int64.lt_irrefl)⟩
  · rw [lgc_1 h]; exact ⟨fun q => absurd q (by decide), fun q => absurd (Int64.lt_trans h q) (Int64.lt_irrefl)⟩
theorem lgc_gt {x y : Int64} : 0 < lg_cmp x y ↔ y < x := by
  rcases i64_tri x y with h | h | h
  · rw [lgc_m h]; exact ⟨fun q => absurd q (by decide), fun q => absurd (Int64.lt_trans h q) (Int64.lt_irrefl)⟩
  · subst h; rw [lgc_0]; exact ⟨fun q => absurd q (by decide), fun q => absurd q (Int64.lt_irrefl)⟩
  · rw [lgc_1 h]; exact ⟨fun _ => h, fun _ => by decide⟩
theorem lgc_eq {x y : Int64} : lg_cmp x y = 0 ↔ x = y := by
  rcases i64_tri x y with h | h | h
  · rw [lgc_m h]; exact ⟨fun q => absurd q (by decide), fun q => by subst q; exact absurd h (Int64.lt_irrefl)⟩
  · subst h; rw [lgc_0]; exact ⟨fun _ => rfl, fun _ => rfl⟩
  · rw [lgc_1 h]; exact ⟨fun q => absurd q (by decide), fun q => by subst q; exact absurd h (Int64.lt_irrefl)⟩
theorem lgc_le {x y : Int64} : lg_cmp x y ≤ 0 ↔ ¬ y < x := by
  rcases i64_tri x y with h | h | h
  · rw [lgc_m h]; exact ⟨fun _ q => absurd (Int64.lt_trans h q) (Int64.lt_irrefl), fun _ => by decide⟩
  · subst h; rw [lgc_0]; exact ⟨fun _ => Int64.lt_irrefl, fun _ => by decide⟩
  · rw [lgc_1 h]; exact ⟨fun q => absurd q (by decide), fun q => absurd h q⟩
theorem lgc_ge {x y : Int64} : 0 ≤ lg_cmp x y ↔ ¬ x < y := by
  rcases i64_tri x y with h | h | h
  · rw [lgc_m h]; exact ⟨fun q => absurd q (by decide), fun q => absurd h q⟩
  · subst h; rw [lgc_0]; exact ⟨fun _ => Int64.lt_irrefl, fun _ => by decide⟩
  · rw [lgc_1 h]; exact ⟨fun _ q => absurd (Int64.lt_trans h q) (Int64.lt_irrefl), fun _ => by decide⟩
theorem k_lcmp_lt (hx : p.tables.exec = Jvm.exec) (hb : c.code = cc) {x y : Int64} {off : Int} {tgt : Nat} (h1 : decode cc pc = .ok (.lcmp, 1)) (h2 : decode cc (pc + 1) = .ok (.ifCond .lt off, 3)) (ht : ((pc + 1 : Nat) : Int) + off = (tgt : Int)) (kt : x < y → W p l e R s m args below meth c H locs cells slots Q (F0 m tgt ls rest)) (kf : ¬ x < y → W p l e R s m args below meth c H locs cells slots Q (F0 m (pc + 4) ls rest)) : W p l e R s m args below meth c H locs cells slots Q (F0 m pc ls (.long y :: .long x :: rest)) :=
  W.lcmp hx hb h1 (lv_if_lt hx hb h2 ht (fun q => kt (lgc_lt.mp q)) (fun q => kf (fun z => q (lgc_lt.mpr z))))
theorem k_lcmp_gt (hx : p.tables.exec = Jvm.exec) (hb : c.code = cc) {x y : Int64} {off : Int} {tgt : Nat} (h1 : decode cc pc = .ok (.lcmp, 1)) (h2 : decode cc (pc + 1) = .ok (.ifCond .gt off, 3)) (ht : ((pc + 1 : Nat) : Int) + off = (tgt : Int)) (kt : y < x → W p l e R s m args below meth c H locs cells slots Q (F0 m tgt ls rest)) (kf : ¬ y < x → W p l e R s m args below meth c H locs cells slots Q (F0 m (pc + 4) ls rest)) : W p l e R s m args below meth c H locs cells slots Q (F0 m pc ls (.long y :: .long x :: rest)) :=
  W.lcmp hx hb h1 (lv_if_gt hx hb h2 ht (fun q => kt (lgc_gt.mp q)) (fun q => kf (fun z => q (lgc_gt.mpr z))))
theorem k_lcmp_le (hx : p.tables.exec = Jvm.exec) (hb : c.code = cc) {x y : Int64} {off : Int} {tgt : Nat} (h1 : decode cc pc = .ok (.lcmp, 1)) (h2 : decode cc (pc + 1) = .ok (.ifCond .le off, 3)) (ht : ((pc + 1 : Nat) : Int) + off = (tgt : Int)) (kt : ¬ y < x → W p l e R s m args below meth c H locs cells slots Q (F0 m tgt ls rest)) (kf : y < x → W p l e R s m args below meth c H locs cells slots Q (F0 m (pc + 4) ls rest)) : W p l e R s m args below meth c H locs cells slots Q (F0 m pc ls (.long y :: .long x :: rest)) :=
  W.lcmp hx hb h1 (lv_if_le hx hb h2 ht (fun q => kt (lgc_le.mp q)) (fun q => kf (Decidable.byContradiction fun z => q (lgc_le.mpr z))))
theorem k_lcmp_ge (hx : p.tables.exec = Jvm.exec) (hb : c.code = cc) {x y : Int64} {off : Int} {tgt : Nat} (h1 : decode cc pc = .ok (.lcmp, 1)) (h2 : decode cc (pc + 1) = .ok (.ifCond .ge off, 3)) (ht : ((pc + 1 : Nat) : Int) + off = (tgt : Int)) (kt : ¬ x < y → W p l e R s m args below meth c H locs cells slots Q (F0 m tgt ls rest)) (kf : x < y → W p l e R s m args below meth c H locs cells slots Q (F0 m (pc + 4) ls rest)) : W p l e R s m args below meth c H locs cells slots Q (F0 m pc ls (.long y :: .long x :: rest)) :=
  W.lcmp hx hb h1 (lv_if_ge hx hb h2 ht (fun q => kt (lgc_ge.mp q)) (fun q => kf (Decidable.byContradiction fun z => q (lgc_ge.mpr z))))
theorem k_lcmp_eq (hx : p.tables.exec = Jvm.exec) (hb : c.code = cc) {x y : Int64} {off : Int} {tgt : Nat} (h1 : decode cc pc = .ok (.lcmp, 1)) (h2 : decode cc (pc + 1) = .ok (.ifCond .eq off, 3)) (ht : ((pc + 1 : Nat) : Int) + off = (tgt : Int)) (kt : x = y → W p l e R s m args below meth c H locs cells slots Q (F0 m tgt ls rest)) (kf : ¬ x = y → W p l e R s m args below meth c H locs cells slots Q (F0 m (pc + 4) ls rest)) : W p l e R s m args below meth c H locs cells slots Q (F0 m pc ls (.long y :: .long x :: rest)) :=
  W.lcmp hx hb h1 (lv_if_eq hx hb h2 ht (fun q => kt (lgc_eq.mp q)) (fun q => kf (fun z => q (lgc_eq.mpr z))))
theorem k_lcmp_ne (hx : p.tables.exec = Jvm.exec) (hb : c.code = cc) {x y : Int64} {off : Int} {tgt : Nat} (h1 : decode cc pc = .ok (.lcmp, 1)) (h2 : decode cc (pc + 1) = .ok (.ifCond .ne off, 3)) (ht : ((pc + 1 : Nat) : Int) + off = (tgt : Int)) (kt : ¬ x = y → W p l e R s m args below meth c H locs cells slots Q (F0 m tgt ls rest)) (kf : x = y → W p l e R s m args below meth c H locs cells slots Q (F0 m (pc + 4) ls rest)) : W p l e R s m args below meth c H locs cells slots Q (F0 m pc ls (.long y :: .long x :: rest)) :=
  W.lcmp hx hb h1 (lv_if_ne hx hb h2 ht (fun q => kt (fun z => q (lgc_eq.mpr z))) (fun q => kf (lgc_eq.mp q)))
end KR
/-- a contract out of a walk -/
theorem kMet {l : Launch} {y : MethodName} {ws ws' : List Cond} {rm : Room} {G : kG} {B0 : Nat} {f : kH} {av : List Value} {Qc : Array Value → State → Outcome → State → Prop} {mc ms : Nat} {cc : ByteArray} {maxL : Nat} {ret : Option FieldType} (hy : plainName y.cls = true) (hw : ws = Cond.code y cc maxL ret :: ws') (hav : (lg_sl av).length ≤ maxL)
    (body : ∀ (p : Program) (e : Env) (s : State) (m : MethodId) (args : Array Value) (below : List Frame) (meth : Method) (c : Code) (H : Heap) (locs : List Loc) (Q : State → Prop) (ls : Array Slot), kC G B0 p m c cc maxL s args ws y.cls → kX G B0 s f H locs → lv_has ls maxL (lv_args 0 av) → meth.sig.returnType = ret → meth.locks = false → meth.name = y.name → Q = MQ below Qc args s mc ms (kAb B0) →
      W p l e rm s m args below meth c H locs 0 0 Q (F0 m 0 ls [])) : Met l y ws rm (kP G B0 f av) Qc mc ms (kAb B0) := by
  refine Met.ofW (cc := cc) (maxL := maxL) (ret := ret) hy hw ?_
  intro p e s m args below meth c s₁ B hml hv
  obtain ⟨rfl, hW, hT, hZ⟩ := hv
  have hl := lv_entry av (n := maxL) hav
  rw [lg_entry_eq]
  exact body p e s m _ below meth c _ [] _ _ ⟨⟨B.exec, B.bytes, hml, findClass_of_methodNamed B.named, atoms_spec (ws := ws) B.pre⟩, hT, hZ⟩ ⟨hW, va_S.rf⟩ hl B.returns B.notSynchronized (name_of_methodNamed B.named B.method).1 rfl
/-! ## truth values; lists of cells in the one heap -/
def kbI (P : Prop) [Decidable P] : Int32 := if P then 1 else 0
theorem kbI_t {P : Prop} [Decidable P] (h : P) : (1 : Int32) = kbI P := by simp [kbI, h]
theorem kbI_f {P : Prop} [Decidable P] (h : ¬ P) : (0 : Int32) = kbI P := by simp [kbI, h]
theorem kbI_tN {P : Prop} [Decidable P] (h : P) : nI 1 = kbI P := by simp [kbI, h]; rfl
theorem kbI_fN {P : Prop} [Decidable P] (h : ¬ P) : nI 0 = kbI P := by simp [kbI, h]; rfl
theorem kbI_0 {P : Prop} [Decidable P] (h : kbI P = 0) : ¬ P := fun q => by simp [kbI, q] at h
theorem kbI_1 {P : Prop} [Decidable P] (h : ¬ kbI P = 0) : P := Decidable.byContradiction fun q => h (by simp [kbI, q])
theorem kbI_0n {P : Prop} [Decidable P] (h : ¬ ¬ kbI P = 0) : ¬ P := kbI_0 (Decidable.not_not.mp h)
theorem kbI_01 (P : Prop) [Decidable P] : kbI P = 0 ∨ kbI P = 1 := by
  by_cases h : P
  · right; simp [kbI, h]
  · left; simp [kbI, h]
theorem kbI_c {P R : Prop} [Decidable P] [Decidable R] (h : P ↔ R) : kbI P = kbI R := by
  by_cases q : P
  · simp [kbI, q, h.mp q]
  · have q2 : ¬ R := fun z => q (h.mpr z)
    simp [kbI, q, q2]
/-- f holds these cells, at different addresses -/
def kCs (f : kH) (ws : va_W) : Prop := (∀ q ∈ ws, f q.1 = some q.2) ∧ (ws.map Prod.fst).Nodup
theorem kCs.at {f : kH} {ws : va_W} (h : kCs f ws) (i : Nat) {a : Nat} {e : va_E} (hi : ws[i]? = some (a, e)) : f a = some e := h.1 _ (List.mem_of_getElem? hi)
/-- off these addresses nothing has changed -/
def kOff (as : List Nat) (f f1 : kH) : Prop := ∀ a, a ∉ as → f1 a = f a
theorem kOff.rf {as : List Nat} {f : kH} : kOff as f f := fun _ _ => rfl
theorem kCs.put {f : kH} {ws : va_W} (h : kCs f ws) (i : Nat) {a : Nat} {e e1 : va_E} (hi : ws[i]? = some (a, e)) : kCs (kst f a e1) (ws.set i (a, e1)) := by
  have hl := (List.getElem?_eq_some_iff.mp hi).1
  have hmap : (ws.set i (a, e1)).map Prod.fst = ws.map Prod.fst := by
    rw [List.map_set]
    apply List.ext_getElem?
    intro j
    by_cases hj : j = i
    · subst hj
      rw [List.getElem?_set_self (by simpa using hl)]
      simp [hi]
    · rw [List.getElem?_set_ne (Ne.symm hj)]
  refine ⟨fun q hq => ?_, by rw [hmap]; exact h.2⟩
  obtain ⟨j, hj⟩ := List.getElem?_of_mem hq
  by_cases hji : j = i
  · subst hji
    rw [List.getElem?_set_self hl] at hj
    cases hj
    exact kst_s _ _ _
  · rw [List.getElem?_set_ne (Ne.symm hji)] at hj
    have hne : q.1 ≠ a := by
      intro hqa
      have h1 : (ws.map Prod.fst)[j]? = some a := by rw [List.getElem?_map, hj]; simp [hqa]
      have h2 : (ws.map Prod.fst)[i]? = some a := by rw [List.getElem?_map, hi]; rfl
      have hjl : j < (ws.map Prod.fst).length := (List.getElem?_eq_some_iff.mp h1).1
      exact hji ((List.getElem?_inj hjl h.2).mp (h1.trans h2.symm))
    rw [kst_n _ _ hne]
    exact h.1 q (List.mem_of_getElem? hj)
theorem kOff.put {as : List Nat} {f f1 : kH} {a : Nat} {e : va_E} (h : kOff as f f1) (ha : a ∈ as) : kOff as f (kst f1 a e) := fun b hb => by
  have hne : b ≠ a := fun q => hb (q ▸ ha)
  rw [kst_n _ _ hne]
  exact h b hb
theorem kCs.off {f f1 : kH} {ws : va_W} {as : List Nat} (h : kCs f ws) (ho : kOff as f f1) (hd : ∀ q ∈ ws, q.1 ∉ as) : kCs f1 ws := ⟨fun q hq => by rw [ho q.1 (hd q hq)]; exact h.1 q hq, h.2⟩
theorem kOff.trans {as : List Nat} {f f1 f2 : kH} (h1 : kOff as f f1) (h2 : kOff as f1 f2) : kOff as f f2 := fun a ha => (h2 a ha).trans (h1 a ha)
theorem kOff.mono {as bs : List Nat} {f f1 : kH} (h : kOff as f f1) (hs : ∀ a ∈ as, a ∈ bs) : kOff bs f f1 := fun a ha => h a (fun q => ha (hs a q))
/-- behind a write: a new name for the heap, the cells, what is off them -/
theorem kX.wr {G : kG} {B0 : Nat} {s : State} {f0 f : kH} {H : Heap} {locs : List Loc} {a : Nat} {e e1 : va_E} {ws : va_W} {as : List Nat} (hX : kX G B0 s (kst f a e1) H locs) (hM : kCs f ws) (hO : kOff as f0 f) (i : Nat) (hi : ws[i]? = some (a, e)) (ha : a ∈ as) : ∃ f1, kX G B0 s f1 H locs ∧ kCs f1 (ws.set i (a, e1)) ∧ kOff as f0 f1 := ⟨_, hX, hM.put i hi, hO.put ha⟩
