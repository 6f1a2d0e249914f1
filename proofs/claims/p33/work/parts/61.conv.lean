/-! a call of the class as one value: what comes of it (0 an answer, 1 to 3 what is thrown), the answer, the state behind it -/
theorem Met.toi {l : Launch} {y : MethodName} {ws : List Cond} {rm : Room} {G : kG} {B0 : Nat} {f : kH} {av : List Value} {mc ms : Nat} {P Q : Int32 → kH → Prop} (h : Met l y ws rm (kP G B0 f av) (kQi G B0 P) mc ms (kAb B0)) (hPQ : ∀ r f1, P r f1 → Q r f1) : Met l y ws rm (kP G B0 f av) (kQi G B0 Q) mc ms (kAb B0) := by
  refine MetFree.mono h (fun _ _ z => z) (fun _ _ _ _ _ z => z) (fun a s o t _ hq => ?_)
  obtain ⟨⟨⟨r, u, e, hp, hb⟩, hF⟩, hL⟩ := hq
  exact ⟨⟨⟨r, u, e, hPQ r u hp, hb⟩, hF⟩, hL⟩
theorem Met.tol {l : Launch} {y : MethodName} {ws : List Cond} {rm : Room} {G : kG} {B0 : Nat} {f : kH} {av : List Value} {mc ms : Nat} {P Q : Int64 → kH → Prop} (h : Met l y ws rm (kP G B0 f av) (kQl G B0 P) mc ms (kAb B0)) (hPQ : ∀ r f1, P r f1 → Q r f1) : Met l y ws rm (kP G B0 f av) (kQl G B0 Q) mc ms (kAb B0) := by
  refine MetFree.mono h (fun _ _ z => z) (fun _ _ _ _ _ z => z) (fun a s o t _ hq => ?_)
  obtain ⟨⟨⟨r, u, e, hp, hb⟩, hF⟩, hL⟩ := hq
  exact ⟨⟨⟨r, u, e, hPQ r u hp, hb⟩, hF⟩, hL⟩
theorem Met.tof {l : Launch} {y : MethodName} {ws : List Cond} {rm : Room} {G : kG} {B0 : Nat} {f : kH} {av : List Value} {mc ms : Nat} {P Q : UInt32 → kH → Prop} (h : Met l y ws rm (kP G B0 f av) (kQf G B0 P) mc ms (kAb B0)) (hPQ : ∀ r f1, P r f1 → Q r f1) : Met l y ws rm (kP G B0 f av) (kQf G B0 Q) mc ms (kAb B0) := by
  refine MetFree.mono h (fun _ _ z => z) (fun _ _ _ _ _ z => z) (fun a s o t _ hq => ?_)
  obtain ⟨⟨⟨r, u, e, hp, hb⟩, hF⟩, hL⟩ := hq
  exact ⟨⟨⟨r, u, e, hPQ r u hp, hb⟩, hF⟩, hL⟩
theorem Met.tov {l : Launch} {y : MethodName} {ws : List Cond} {rm : Room} {G : kG} {B0 : Nat} {f : kH} {av : List Value} {mc ms : Nat} {P Q : kH → Prop} (h : Met l y ws rm (kP G B0 f av) (kQv G B0 P) mc ms (kAb B0)) (hPQ : ∀ f1, P f1 → Q f1) : Met l y ws rm (kP G B0 f av) (kQv G B0 Q) mc ms (kAb B0) := by
  refine MetFree.mono h (fun _ _ z => z) (fun _ _ _ _ _ z => z) (fun a s o t _ hq => ?_)
  obtain ⟨⟨⟨u, e, hp, hb⟩, hF⟩, hL⟩ := hq
  exact ⟨⟨⟨u, e, hPQ u hp, hb⟩, hF⟩, hL⟩
theorem vx_Met.to {l : Launch} {y : MethodName} {ws : List Cond} {rm : Room} {G : kG} {B0 : Nat} {f : kH} {av : List Value} {mc ms : Nat} {cls : String} {P Q : kH → Prop} (h : vx_Met l y ws rm (kP G B0 f av) kNo (kXC G B0 cls P) mc ms (kAb B0)) (hPQ : ∀ f1, P f1 → Q f1) : vx_Met l y ws rm (kP G B0 f av) kNo (kXC G B0 cls Q) mc ms (kAb B0) := by
  refine MetFree.mono h (fun _ _ z => z) (fun _ _ _ _ _ z => z) (fun a s o t _ hq => ?_)
  rcases hq with ⟨hn, -⟩ | ⟨q, eo, E, ce, L, ⟨u, hp, ⟨hE, hb⟩, hF⟩, h2⟩
  · exact hn.elim
  · exact Or.inr ⟨q, eo, E, ce, L, ⟨u, hPQ u hp, ⟨hE, hb⟩, hF⟩, h2⟩
def p8 (rm : Room) (mc ms : Nat) : Prop := rm.cells = mc ∧ rm.slots = ms ∧ rm.frames ≤ 300 ∧ rm.locals ≤ 20000 ∧ mc ≤ 8 ∧ ms ≤ 64
def xN (k : Nat) : String := if k = 1 then "java/lang/IndexOutOfBoundsException" else if k = 2 then "java/lang/IllegalArgumentException" else "java/lang/IllegalStateException"
abbrev pRI : Type := Nat × Int32 × pSt
abbrev pRJ : Type := Nat × Int64 × pSt
def pNo (l : Launch) (G : kG) (B0 h : Nat) (f : kH) (y : MethodName) (ws : List Cond) (av : List Value) (k : Nat) (m1 : pSt) : Prop := 1 ≤ k ∧ k ≤ 3 ∧ ∃ rm mc ms, p8 rm mc ms ∧ vx_Met l y ws rm (kP G B0 f (.ref h :: av)) kNo (kXC G B0 (xN k) (fun f1 => Inv G h f1 m1)) mc ms (kAb B0)
def cI (l : Launch) (G : kG) (B0 h : Nat) (f : kH) (y : MethodName) (ws : List Cond) (av : List Value) (R : pRI) : Prop := (R.1 = 0 ∧ ∃ rm mc ms, p8 rm mc ms ∧ Met l y ws rm (kP G B0 f (.ref h :: av)) (kQi G B0 (fun r f1 => r = R.2.1 ∧ Inv G h f1 R.2.2)) mc ms (kAb B0)) ∨ pNo l G B0 h f y ws av R.1 R.2.2
def cJ (l : Launch) (G : kG) (B0 h : Nat) (f : kH) (y : MethodName) (ws : List Cond) (av : List Value) (R : pRJ) : Prop := (R.1 = 0 ∧ ∃ rm mc ms, p8 rm mc ms ∧ Met l y ws rm (kP G B0 f (.ref h :: av)) (kQl G B0 (fun r f1 => r = R.2.1 ∧ Inv G h f1 R.2.2)) mc ms (kAb B0)) ∨ pNo l G B0 h f y ws av R.1 R.2.2
theorem cI_ok {l : Launch} {y : MethodName} {ws : List Cond} {rm : Room} {G : kG} {B0 h : Nat} {f : kH} {av : List Value} {mc ms : Nat} {v : Int32} {m1 : pSt} {P : Int32 → kH → Prop} (hb : p8 rm mc ms) (hc : Met l y ws rm (kP G B0 f (.ref h :: av)) (kQi G B0 P) mc ms (kAb B0)) (hp : ∀ r f1, P r f1 → r = v ∧ Inv G h f1 m1) : cI l G B0 h f y ws av (0, v, m1) := .inl ⟨rfl, rm, mc, ms, hb, hc.toi hp⟩
theorem cI_no {l : Launch} {y : MethodName} {ws : List Cond} {rm : Room} {G : kG} {B0 h : Nat} {f : kH} {av : List Value} {mc ms : Nat} {v : Int32} {m1 : pSt} {P : kH → Prop} (k : Nat) (hk : 1 ≤ k ∧ k ≤ 3) (hb : p8 rm mc ms) (hc : vx_Met l y ws rm (kP G B0 f (.ref h :: av)) kNo (kXC G B0 (xN k) P) mc ms (kAb B0)) (hp : ∀ f1, P f1 → Inv G h f1 m1) : cI l G B0 h f y ws av (k, v, m1) := .inr ⟨hk.1, hk.2, rm, mc, ms, hb, hc.to hp⟩
theorem cJ_ok {l : Launch} {y : MethodName} {ws : List Cond} {rm : Room} {G : kG} {B0 h : Nat} {f : kH} {av : List Value} {mc ms : Nat} {v : Int64} {m1 : pSt} {P : Int64 → kH → Prop} (hb : p8 rm mc ms) (hc : Met l y ws rm (kP G B0 f (.ref h :: av)) (kQl G B0 P) mc ms (kAb B0)) (hp : ∀ r f1, P r f1 → r = v ∧ Inv G h f1 m1) : cJ l G B0 h f y ws av (0, v, m1) := .inl ⟨rfl, rm, mc, ms, hb, hc.tol hp⟩
theorem cJ_no {l : Launch} {y : MethodName} {ws : List Cond} {rm : Room} {G : kG} {B0 h : Nat} {f : kH} {av : List Value} {mc ms : Nat} {v : Int64} {m1 : pSt} {P : kH → Prop} (k : Nat) (hk : 1 ≤ k ∧ k ≤ 3) (hb : p8 rm mc ms) (hc : vx_Met l y ws rm (kP G B0 f (.ref h :: av)) kNo (kXC G B0 (xN k) P) mc ms (kAb B0)) (hp : ∀ f1, P f1 → Inv G h f1 m1) : cJ l G B0 h f y ws av (k, v, m1) := .inr ⟨hk.1, hk.2, rm, mc, ms, hb, hc.to hp⟩
theorem Inv2.same {G : kG} {h : Nat} {f : kH} {o : Nat → Nat} {c : cSt} {m : pSt} (hI : Inv2 G h f o c m) : ∀ f1, f1 = f → Inv G h f1 m := fun _ e => e ▸ ⟨o, c, hI⟩
theorem Inv2.kept {G : kG} {h : Nat} {f : kH} {o : Nat → Nat} {c : cSt} {m : pSt} (hI : Inv2 G h f o c m) : ∀ f1, kKp [] f f1 → Inv G h f1 m := fun _ e => ⟨_, c, hI.new e⟩
