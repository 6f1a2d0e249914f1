section KR2
variable {p : Program} {l : Launch} {e : Env} {R : Room} {s : State} {m : MethodId} {args : Array Value} {below : List Frame} {meth : Method} {c : Code} {H : Heap} {locs : List Loc} {cells slots : Nat} {Q : State → Prop}
variable {cc : ByteArray} {pc : Nat} {ls : Array Slot} {rest : List Value} {G : kG} {B0 nL : Nat} {f : kH} {Ts : List Cond} {own : String} {a : Nat}
theorem k_mmax (C : kC G B0 p m c cc nL s args Ts own) (hml : c.maxLocals = ls.size) {idx : Nat} (hk : ∀ w ∈ [Cond.methodLink own idx Lib.Math.max.name, Cond.static Lib.Math.max.name, Cond.initialized "java/lang/Math", Cond.code Lib.Math.max.name Lib.Math.max.code 2 (some .int)], w ∈ Ts) (hf : 1 ≤ R.frames) (hlo : (rest.map fun v => v.category).sum + 13 ≤ R.locals) (hc : cells ≤ R.cells) (hs : slots ≤ R.slots) {x y : Int32} (hdg : decode cc pc = .ok (.invokestatic idx, 3))
    (kk : W p l e R s m args below meth c H locs cells slots Q (F0 m (pc + 3) ls (.int (if x < y then y else x) :: rest))) : W p l e R s m args below meth c H locs cells slots Q (F0 m pc ls (.int y :: .int x :: rest)) :=
  va_mmax C.x C.b hml C.ow (C.ts _ (hk _ (by simp))) (C.ts _ (hk _ (by simp))) (C.ts _ (hk _ (by simp))) (C.ts _ (hk _ (by simp))) hf hlo hc hs hdg kk
theorem k_mmin (C : kC G B0 p m c cc nL s args Ts own) (hml : c.maxLocals = ls.size) {idx : Nat} (hk : ∀ w ∈ [Cond.methodLink own idx Lib.Math.min.name, Cond.static Lib.Math.min.name, Cond.initialized "java/lang/Math", Cond.code Lib.Math.min.name Lib.Math.min.code 2 (some .int)], w ∈ Ts) (hf : 1 ≤ R.frames) (hlo : (rest.map fun v => v.category).sum + 13 ≤ R.locals) (hc : cells ≤ R.cells) (hs : slots ≤ R.slots) {x y : Int32} (hdg : decode cc pc = .ok (.invokestatic idx, 3))
    (kk : W p l e R s m args below meth c H locs cells slots Q (F0 m (pc + 3) ls (.int (if y < x then y else x) :: rest))) : W p l e R s m args below meth c H locs cells slots Q (F0 m pc ls (.int y :: .int x :: rest)) :=
  va_mmin C.x C.b hml C.ow (C.ts _ (hk _ (by simp))) (C.ts _ (hk _ (by simp))) (C.ts _ (hk _ (by simp))) (C.ts _ (hk _ (by simp))) hf hlo hc hs hdg kk
theorem k_mabs (C : kC G B0 p m c cc nL s args Ts own) (hml : c.maxLocals = ls.size) {idx : Nat} (hk : ∀ w ∈ [Cond.methodLink own idx Lib.Math.abs.name, Cond.static Lib.Math.abs.name, Cond.initialized "java/lang/Math", Cond.code Lib.Math.abs.name Lib.Math.abs.code 1 (some .int)], w ∈ Ts) (hf : 1 ≤ R.frames) (hlo : (rest.map fun v => v.category).sum + 13 ≤ R.locals) (hc : cells ≤ R.cells) (hs : slots ≤ R.slots) {x : Int32} (hdg : decode cc pc = .ok (.invokestatic idx, 3))
    (kk : W p l e R s m args below meth c H locs cells slots Q (F0 m (pc + 3) ls (.int (if 0 ≤ x then x else 0 - x) :: rest))) : W p l e R s m args below meth c H locs cells slots Q (F0 m pc ls (.int x :: rest)) :=
  va_mabs C.x C.b hml C.ow (C.ts _ (hk _ (by simp))) (C.ts _ (hk _ (by simp))) (C.ts _ (hk _ (by simp))) (C.ts _ (hk _ (by simp))) hf hlo hc hs hdg kk
theorem k_mabsL (C : kC G B0 p m c cc nL s args Ts own) (hml : c.maxLocals = ls.size) {idx : Nat} (hk : ∀ w ∈ [Cond.methodLink own idx Lib.MathLoose.abs_long.x, Cond.static Lib.MathLoose.abs_long.x, Cond.initialized "java/lang/Math", Cond.code Lib.MathLoose.abs_long.x Lib.MathLoose.abs_long.code 2 (some .long)], w ∈ Ts) (hf : 1 ≤ R.frames) (hlo : (rest.map fun v => v.category).sum + 13 ≤ R.locals) (hc : cells ≤ R.cells) (hs : slots ≤ R.slots) {x : Int64} (hdg : decode cc pc = .ok (.invokestatic idx, 3))
    (kk : W p l e R s m args below meth c H locs cells slots Q (F0 m (pc + 3) ls (.long (if 0 < x then x else -x) :: rest))) : W p l e R s m args below meth c H locs cells slots Q (F0 m pc ls (.long x :: rest)) :=
  va_mabs_long C.x C.b hml C.ow (C.ts _ (hk _ (by simp))) (C.ts _ (hk _ (by simp))) (C.ts _ (hk _ (by simp))) (C.ts _ (hk _ (by simp))) hf hlo hc hs hdg kk
theorem k_mmaxL (C : kC G B0 p m c cc nL s args Ts own) (hml : c.maxLocals = ls.size) {idx : Nat} (hk : ∀ w ∈ [Cond.methodLink own idx Lib.MathLoose.max_long.x, Cond.static Lib.MathLoose.max_long.x, Cond.initialized "java/lang/Math", Cond.code Lib.MathLoose.max_long.x Lib.MathLoose.max_long.code 4 (some .long)], w ∈ Ts) (hf : 1 ≤ R.frames) (hlo : (rest.map fun v => v.category).sum + 15 ≤ R.locals) (hc : cells ≤ R.cells) (hs : slots ≤ R.slots) {x y : Int64} (hdg : decode cc pc = .ok (.invokestatic idx, 3))
    (kk : W p l e R s m args below meth c H locs cells slots Q (F0 m (pc + 3) ls (.long (if y < x then x else y) :: rest))) : W p l e R s m args below meth c H locs cells slots Q (F0 m pc ls (.long y :: .long x :: rest)) :=
  va_mmax_long C.x C.b hml C.ow (C.ts _ (hk _ (by simp))) (C.ts _ (hk _ (by simp))) (C.ts _ (hk _ (by simp))) (C.ts _ (hk _ (by simp))) hf hlo hc hs hdg kk
theorem k_mminL (C : kC G B0 p m c cc nL s args Ts own) (hml : c.maxLocals = ls.size) {idx : Nat} (hk : ∀ w ∈ [Cond.methodLink own idx Lib.MathLoose.min_long.x, Cond.static Lib.MathLoose.min_long.x, Cond.initialized "java/lang/Math", Cond.code Lib.MathLoose.min_long.x Lib.MathLoose.min_long.code 4 (some .long)], w ∈ Ts) (hf : 1 ≤ R.frames) (hlo : (rest.map fun v => v.category).sum + 15 ≤ R.locals) (hc : cells ≤ R.cells) (hs : slots ≤ R.slots) {x y : Int64} (hdg : decode cc pc = .ok (.invokestatic idx, 3))
    (kk : W p l e R s m args below meth c H locs cells slots Q (F0 m (pc + 3) ls (.long (if y < x then y else x) :: rest))) : W p l e R s m args below meth c H locs cells slots Q (F0 m pc ls (.long y :: .long x :: rest)) :=
  va_mmin_long C.x C.b hml C.ow (C.ts _ (hk _ (by simp))) (C.ts _ (hk _ (by simp))) (C.ts _ (hk _ (by simp))) (C.ts _ (hk _ (by simp))) hf hlo hc hs hdg kk
theorem k_getsF (C : kC G B0 p m c cc nL s args Ts own) (hX : kX G B0 s f H locs) {ref : String} {index : Nat} (hlink : (Cond.fieldLink own index ref "FIRST_FACES" "[I").before args s = true) (hsame : ∀ x, s.fieldFound? "Koebehall$Net" "FIRST_FACES" "[I" = some x → s.fieldFound? ref "FIRST_FACES" "[I" = some x) (hdg : decode cc pc = .ok (.getstatic index, 3))
    (kk : W p l e R s m args below meth c H locs cells slots Q (F0 m (pc + 3) ls (.ref (G.2.2 0) :: rest))) : W p l e R s m args below meth c H locs cells slots Q (F0 m pc ls rest) :=
  va_gets C.x C.b C.2.2.2.1 hX.2 C.ow hlink hsame hdg kk
theorem k_getsD (C : kC G B0 p m c cc nL s args Ts own) (hX : kX G B0 s f H locs) {ref : String} {index : Nat} (hlink : (Cond.fieldLink own index ref "DEFAULTCAPACITY_EMPTY_ELEMENTDATA" "[Ljava/lang/Object;").before args s = true) (hsame : ∀ x, s.fieldFound? "java/util/ArrayList" "DEFAULTCAPACITY_EMPTY_ELEMENTDATA" "[Ljava/lang/Object;" = some x → s.fieldFound? ref "DEFAULTCAPACITY_EMPTY_ELEMENTDATA" "[Ljava/lang/Object;" = some x) (hdg : decode cc pc = .ok (.getstatic index, 3))
    (kk : W p l e R s m args below meth c H locs cells slots Q (F0 m (pc + 3) ls (.ref (G.2.2 1) :: rest))) : W p l e R s m args below meth c H locs cells slots Q (F0 m pc ls rest) :=
  va_gets C.x C.b C.2.2.2.2.2.1 hX.2 C.ow hlink hsame hdg kk
theorem k_iaF (C : kC G B0 p m c cc nL s args Ts own) (hX : kX G B0 s f H locs) {i : Int32} (hin : vp_in i 12) (hdg : decode cc pc = .ok (.iaload, 1))
    (kk : W p l e R s m args below meth c H locs cells slots Q (F0 m (pc + 1) ls (.int (kFF.getD i.toNatClampNeg 0) :: rest))) : W p l e R s m args below meth c H locs cells slots Q (F0 m pc ls (.int i :: .ref (G.2.2 0) :: rest)) :=
  va_ti C.x C.b C.2.2.2.2.1 hX.2 hin rfl hdg kk
end KR2
/-! the class's net -/
def nW (G : kG) (h nA tA : Nat) (aN aT : Nat → Int32) (cc fc : Nat) : va_W := [(h, .inr (3, [.ref nA, .ref tA, .int (nI cc), .int (nI fc)])), (nA, kaI G 84 aN), (tA, kaI G 256 aT)]
abbrev nAs (h nA tA : Nat) : List Nat := [h, nA, tA]
/-- the third corner of the face in which b is named behind a -/
def nThird (T : Nat → Int32) (cc : Nat) (a b : Int32) : Int32 := if mIn a cc ∧ mIn b cc then T (nI 16 * a + b).toNatClampNeg else -1
abbrev nAdj (T : Nat → Int32) (cc : Nat) (a b : Int32) : Prop := ¬ nThird T cc a b = -1
abbrev nCanFlip (T : Nat → Int32) (cc : Nat) (a b : Int32) : Prop := nAdj T cc a b ∧ ¬ nAdj T cc (nThird T cc a b) (nThird T cc b a)
/-- the first face, of n spots from k on, in which b is named behind a -/
def nFace (F : Nat → Int32) (a b : Int32) : Nat → Nat → Int32
  | 0, _ => -1
  | n + 1, k => if F k = a ∧ F (mNx k) = b then nI (k / 3) else nFace F a b n (k + 1)
abbrev nAt (F : Nat → Int32) (a : Int32) (n : Nat) : Nat := kCnt (fun k => F k = a) n
def nMost (F : Nat → Int32) (fc : Nat) : Nat → Nat
  | 0 => 0
  | n + 1 => if nMost F fc n < nAt F (nI n) (3 * fc) then nAt F (nI n) (3 * fc) else nMost F fc n
theorem nMost_le (F : Nat → Int32) (fc : Nat) : ∀ n, nMost F fc n ≤ 3 * fc
  | 0 => Nat.zero_le _
  | n + 1 => by
    have h1 := nMost_le F fc n
    have h2 := kCnt_le (fun k => F k = nI n) (3 * fc)
    simp only [nMost]
    split <;> assumption
/-- the first neighbour of a, of n corners from k on -/
def nLow (T : Nat → Int32) (cc : Nat) (a : Int32) : Nat → Nat → Int32
  | 0, _ => -1
  | n + 1, k => if nAdj T cc a (nI k) then nI k else nLow T cc a n (k + 1)
def nNb (T : Nat → Int32) (cc : Nat) (a low : Int32) : Nat → Int32 → Int32
  | 0, x => x
  | n + 1, x => if nThird T cc a x = low ∨ nThird T cc a x = -1 then -1 else nNb T cc a low n (nThird T cc a x)
/-- the neighbour at a place: no corner has sixteen -/
def nAro (T : Nat → Int32) (cc : Nat) (a : Int32) (b : Nat) : Int32 := if 16 ≤ b then -1 else nNb T cc a (nLow T cc a cc 0) b (nLow T cc a cc 0)
def n3 (F : Nat → Int32) (t x y z : Nat) : Nat → Int32 := upd (upd (upd F (3 * t) (nI x)) (3 * t + 1) (nI y)) (3 * t + 2) (nI z)
def nT3 (T : Nat → Int32) (x y z : Nat) : Nat → Int32 := upd (upd (upd T (16 * x + y) (nI z)) (16 * y + z) (nI x)) (16 * z + x) (nI y)
def nPutN (F : Nat → Int32) (t a b c : Nat) : Nat → Int32 := if a < b ∧ a < c then n3 F t a b c else if b < c then n3 F t b c a else n3 F t c a b
def nPutT (T : Nat → Int32) (a b c : Nat) : Nat → Int32 := if a < b ∧ a < c then nT3 T a b c else if b < c then nT3 T b c a else nT3 T c a b
theorem kCnt_p (p : Nat → Prop) [DecidablePred p] {k : Nat} (h : p k) : nI (kCnt p k + 1) = nI (kCnt p (k + 1)) := by simp only [kCnt]; rw [if_pos h]
theorem kCnt_n (p : Nat → Prop) [DecidablePred p] {k : Nat} (h : ¬ p k) : nI (kCnt p k) = nI (kCnt p (k + 1)) := by simp only [kCnt]; rw [if_neg h]; rfl
theorem kCnt_p2 (p : Nat → Prop) [DecidablePred p] {k : Nat} (u : Nat) (h : p k) : nI (u + kCnt p k + 1) = nI (u + kCnt p (k + 1)) := by simp only [kCnt]; rw [if_pos h]; rfl
theorem kCnt_n2 (p : Nat → Prop) [DecidablePred p] {k : Nat} (u : Nat) (h : ¬ p k) : nI (u + kCnt p k) = nI (u + kCnt p (k + 1)) := by simp only [kCnt]; rw [if_neg h]; rfl
theorem nPut_1 (F T : Nat → Int32) (t : Nat) {x y z : Nat} (h1 : x < y) (h2 : x < z) : nPutN F t x y z = n3 F t x y z ∧ nPutT T x y z = nT3 T x y z := by
  rw [nPutN, nPutT, if_pos ⟨h1, h2⟩, if_pos ⟨h1, h2⟩]; exact ⟨rfl, rfl⟩
theorem nPut_2 (F T : Nat → Int32) (t : Nat) {x y z : Nat} (h1 : ¬ (x < y ∧ x < z)) (h2 : y < z) : nPutN F t x y z = n3 F t y z x ∧ nPutT T x y z = nT3 T y z x := by
  rw [nPutN, nPutT, if_neg h1, if_neg h1, if_pos h2, if_pos h2]; exact ⟨rfl, rfl⟩
theorem nPut_3 (F T : Nat → Int32) (t : Nat) {x y z : Nat} (h1 : ¬ (x < y ∧ x < z)) (h2 : ¬ y < z) : nPutN F t x y z = n3 F t z x y ∧ nPutT T x y z = nT3 T z x y := by
  rw [nPutN, nPutT, if_neg h1, if_neg h1, if_neg h2, if_neg h2]; exact ⟨rfl, rfl⟩
theorem nT_in {a b : Int32} {cc : Nat} (h1 : mIn a cc) (h2 : mIn b cc) (hc : cc ≤ 16) : vp_in (nI 16 * a + b) 256 := by
  obtain ⟨x, hx, rfl⟩ := mIn_of h1 (by omega)
  obtain ⟨y, hy, rfl⟩ := mIn_of h2 (by omega)
  rw [pk_mul, nI_add]
  exact vp_in_nI (by omega) (by omega)
theorem nIn_t {a : Int32} {n : Nat} (h1 : ¬ a < 0) (h2 : ¬ nI n ≤ a) : mIn a n := by
  have h3 := Int32.not_lt.mp h1
  have h4 := Int32.not_le.mp h2
  rw [Int32.le_iff_toInt_le] at h3
  rw [Int32.lt_iff_toInt_lt] at h4
  have h5 : (nI n).toInt ≤ n := by
    by_cases hn : n < 2 ^ 31
    · rw [nI_toInt hn]; exact Int.le_refl _
    · have := Int32.toInt_lt (nI n); omega
  exact ⟨h3, by omega⟩
theorem nIn_f1 {a : Int32} {n : Nat} (h : mIn a n) : ¬ a < 0 := by
  intro h1
  rw [Int32.lt_iff_toInt_lt] at h1
  have := h.1
  exact absurd h1 (Int.not_lt.mpr this)
theorem nIn_f2 {a : Int32} {n : Nat} (h : mIn a n) (hn : n < 2 ^ 31) : ¬ nI n ≤ a := by
  intro h1
  rw [Int32.le_iff_toInt_le, nI_toInt hn] at h1
  have := h.2
  omega
theorem nI_ne1 {t : Nat} (h : t < 2 ^ 31) : ¬ nI t = -1 := by
  intro h1
  have h2 := congrArg Int32.toInt h1
  rw [nI_toInt h, show (-1 : Int32).toInt = -1 from rfl] at h2
  omega

theorem lk_X3_hasFace_f28 : Cond.fieldLink RX3 28 "Koebehall$Net" "faceCount" "I" ∈ wsX3_hasFace := by decide +kernel
theorem hin_X3_hasFace_RX3 : ∀ w ∈ u_ws RX3 TX3 4, w ∈ wsX3_hasFace := by decide +kernel
abbrev rmX3_hasFace : Room := { frames := 0, cells := 0, slots := 0, locals := 0 }
set_option maxHeartbeats 4000000 in
set_option maxRecDepth 100000 in
/-- X3_hasFace -/
theorem kX3_hasFace (l : Launch) (G : kG) (B0 : Nat) (f : kH) (h nA tA : Nat) (aN aT : Nat → Int32) (cc fc : Nat) (a : Int32) (hM : kCs f (nW G h nA tA aN aT cc fc)) (hc9 : cc ≤ 16) (hF9 : fc ≤ 28) : Met l yX3_hasFace wsX3_hasFace (rmX3_hasFace) (kP G B0 f [.ref h, .int a]) (kQi G B0 (fun r f1 => r = kbI (mIn a fc) ∧ f1 = f)) 0 0 (kAb B0) := by
  refine kMet (cc := cX3_hasFace) (maxL := 2) (ret := (some .boolean)) (by decide) rfl (Nat.le_of_ble_eq_true rfl) ?_
  intro p e s m args below meth c H locs Q ls C hX hl hr hlocks hnm hQ
  have hl : lv_has ls 2 [(0, .ref h), (1, .int a)] := hl
  refine lv_iload_n C.x C.b dX3_hasFace_0 rfl (lv_at hl 1 rfl) ?_
  refine lv_if_lt (tgt := 16) C.x C.b dX3_hasFace_1 (by decide) (fun c_1 => ?_) (fun c_1 => ?_)
  · skip
    refine lv_iconst (v := nI 0) C.x C.b dX3_hasFace_16 (by decide) ?_
    exact k_zret C hX hr hlocks hQ (by omega) (by omega) (by first | exact kbI_01 _ | exact Or.inl rfl | exact Or.inr rfl) (by refine ⟨?_, rfl⟩; first | exact kbI_tN (nIn_t c_1 c_9) | exact kbI_fN (fun h9 => absurd c_1 (nIn_f1 h9)) | exact kbI_fN (fun h9 => absurd c_9 (nIn_f2 h9 (by omega)))) dX3_hasFace_17
  · skip
    refine lv_iload_n C.x C.b dX3_hasFace_4 rfl (lv_at hl 1 rfl) ?_
    refine lv_aload_n C.x C.b dX3_hasFace_5 rfl (lv_at hl 0 rfl) ?_
    refine k_get (X := RX3) (T := TX3) (N := 4) (v := .int (nI fc)) C hX (hM.at 0 rfl) rfl hin_X3_hasFace_RX3 3 (by decide) lk_X3_hasFace_f28 (fun _ h9 => h9) rfl dX3_hasFace_6 ?_
    refine lv_icmp_ge (tgt := 16) C.x C.b dX3_hasFace_9 (by decide) (fun c_9 => ?_) (fun c_9 => ?_)
    · skip
      refine lv_iconst (v := nI 0) C.x C.b dX3_hasFace_16 (by decide) ?_
      exact k_zret C hX hr hlocks hQ (by omega) (by omega) (by first | exact kbI_01 _ | exact Or.inl rfl | exact Or.inr rfl) (by refine ⟨?_, rfl⟩; first | exact kbI_tN (nIn_t c_1 c_9) | exact kbI_fN (fun h9 => absurd c_1 (nIn_f1 h9)) | exact kbI_fN (fun h9 => absurd c_9 (nIn_f2 h9 (by omega)))) dX3_hasFace_17
    · skip
      refine lv_iconst (v := nI 1) C.x C.b dX3_hasFace_12 (by decide) ?_
      refine lv_goto (tgt := 17) C.x C.b dX3_hasFace_13 (by decide) ?_
      exact k_zret C hX hr hlocks hQ (by omega) (by omega) (by first | exact kbI_01 _ | exact Or.inl rfl | exact Or.inr rfl) (by refine ⟨?_, rfl⟩; first | exact kbI_tN (nIn_t c_1 c_9) | exact kbI_fN (fun h9 => absurd c_1 (nIn_f1 h9)) | exact kbI_fN (fun h9 => absurd c_9 (nIn_f2 h9 (by omega)))) dX3_hasFace_17

theorem lk_X3_hasCorner_f24 : Cond.fieldLink RX3 24 "Koebehall$Net" "cornerCount" "I" ∈ wsX3_hasCorner := by decide +kernel
theorem hin_X3_hasCorner_RX3 : ∀ w ∈ u_ws RX3 TX3 4, w ∈ wsX3_hasCorner := by decide +kernel
abbrev rmX3_hasCorner : Room := { frames := 0, cells := 0, slots := 0, locals := 0 }
set_option maxHeartbeats 4000000 in
set_option maxRecDepth 100000 in
/-- X3_hasCorner -/
theorem kX3_hasCorner (l : Launch) (G : kG) (B0 : Nat) (f : kH) (h nA tA : Nat) (aN aT : Nat → Int32) (cc fc : Nat) (a : Int32) (hM : kCs f (nW G h nA tA aN aT cc fc)) (hc9 : cc ≤ 16) (hF9 : fc ≤ 28) : Met l yX3_hasCorner wsX3_hasCorner (rmX3_hasCorner) (kP G B0 f [.ref h, .int a]) (kQi G B0 (fun r f1 => r = kbI (mIn a cc) ∧ f1 = f)) 0 0 (kAb B0) := by
  refine kMet (cc := cX3_hasCorner) (maxL := 2) (ret := (some .boolean)) (by decide) rfl (Nat.le_of_ble_eq_true rfl) ?_
  intro p e s m args below meth c H locs Q ls C hX hl hr hlocks hnm hQ
  have hl : lv_has ls 2 [(0, .ref h), (1, .int a)] := hl
  refine lv_iload_n C.x C.b dX3_hasCorner_0 rfl (lv_at hl 1 rfl) ?_
  refine lv_if_lt (tgt := 16) C.x C.b dX3_hasCorner_1 (by decide) (fun c_1 => ?_) (fun c_1 => ?_)
  · skip
    refine lv_iconst (v := nI 0) C.x C.b dX3_hasCorner_16 (by decide) ?_
    exact k_zret C hX hr hlocks hQ (by omega) (by omega) (by first | exact kbI_01 _ | exact Or.inl rfl | exact Or.inr rfl) (by refine ⟨?_, rfl⟩; first | exact kbI_tN (nIn_t c_1 c_9) | exact kbI_fN (fun h9 => absurd c_1 (nIn_f1 h9)) | exact kbI_fN (fun h9 => absurd c_9 (nIn_f2 h9 (by omega)))) dX3_hasCorner_17
  · skip
    refine lv_iload_n C.x C.b dX3_hasCorner_4 rfl (lv_at hl 1 rfl) ?_
    refine lv_aload_n C.x C.b dX3_hasCorner_5 rfl (lv_at hl 0 rfl) ?_
    refine k_get (X := RX3) (T := TX3) (N := 4) (v := .int (nI cc)) C hX (hM.at 0 rfl) rfl hin_X3_hasCorner_RX3 2 (by decide) lk_X3_hasCorner_f24 (fun _ h9 => h9) rfl dX3_hasCorner_6 ?_
    refine lv_icmp_ge (tgt := 16) C.x C.b dX3_hasCorner_9 (by decide) (fun c_9 => ?_) (fun c_9 => ?_)
    · skip
      refine lv_iconst (v := nI 0) C.x C.b dX3_hasCorner_16 (by decide) ?_
      exact k_zret C hX hr hlocks hQ (by omega) (by omega) (by first | exact kbI_01 _ | exact Or.inl rfl | exact Or.inr rfl) (by refine ⟨?_, rfl⟩; first | exact kbI_tN (nIn_t c_1 c_9) | exact kbI_fN (fun h9 => absurd c_1 (nIn_f1 h9)) | exact kbI_fN (fun h9 => absurd c_9 (nIn_f2 h9 (by omega)))) dX3_hasCorner_17
    · skip
      refine lv_iconst (v := nI 1) C.x C.b dX3_hasCorner_12 (by decide) ?_
      refine lv_goto (tgt := 17) C.x C.b dX3_hasCorner_13 (by decide) ?_
      exact k_zret C hX hr hlocks hQ (by omega) (by omega) (by first | exact kbI_01 _ | exact Or.inl rfl | exact Or.inr rfl) (by refine ⟨?_, rfl⟩; first | exact kbI_tN (nIn_t c_1 c_9) | exact kbI_fN (fun h9 => absurd c_1 (nIn_f1 h9)) | exact kbI_fN (fun h9 => absurd c_9 (nIn_f2 h9 (by omega)))) dX3_hasCorner_17

theorem lk_X3_isFull_f24 : Cond.fieldLink RX3 24 "Koebehall$Net" "cornerCount" "I" ∈ wsX3_isFull := by decide +kernel
theorem hin_X3_isFull_RX3 : ∀ w ∈ u_ws RX3 TX3 4, w ∈ wsX3_isFull := by decide +kernel
abbrev rmX3_isFull : Room := { frames := 0, cells := 0, slots := 0, locals := 0 }
set_option maxHeartbeats 4000000 in
set_option maxRecDepth 100000 in
/-- X3_isFull -/
theorem kX3_isFull (l : Launch) (G : kG) (B0 : Nat) (f : kH) (h nA tA : Nat) (aN aT : Nat → Int32) (cc fc : Nat) (hM : kCs f (nW G h nA tA aN aT cc fc)) (hc9 : cc ≤ 16) (hF9 : fc ≤ 28) : Met l yX3_isFull wsX3_isFull (rmX3_isFull) (kP G B0 f [.ref h]) (kQi G B0 (fun r f1 => r = kbI (16 ≤ cc) ∧ f1 = f)) 0 0 (kAb B0) := by
  refine kMet (cc := cX3_isFull) (maxL := 1) (ret := (some .boolean)) (by decide) rfl (Nat.le_of_ble_eq_true rfl) ?_
  intro p e s m args below meth c H locs Q ls C hX hl hr hlocks hnm hQ
  have hl : lv_has ls 1 [(0, .ref h)] := hl
  refine lv_aload_n C.x C.b dX3_isFull_0 rfl (lv_at hl 0 rfl) ?_
  refine k_get (X := RX3) (T := TX3) (N := 4) (v := .int (nI cc)) C hX (hM.at 0 rfl) rfl hin_X3_isFull_RX3 2 (by decide) lk_X3_isFull_f24 (fun _ h9 => h9) rfl dX3_isFull_1 ?_
  refine lv_bipush (v := nI 16) C.x C.b dX3_isFull_4 (by decide) ?_
  refine lv_icmp_lt (tgt := 13) C.x C.b dX3_isFull_6 (by decide) (fun c_6 => ?_) (fun c_6 => ?_)
  · skip
    have c_6 : cc < 16 := (nI_ltI (by omega) (by omega)).mp c_6
    refine lv_iconst (v := nI 0) C.x C.b dX3_isFull_13 (by decide) ?_
    exact k_zret C hX hr hlocks hQ (by omega) (by omega) (by first | exact kbI_01 _ | exact Or.inl rfl | exact Or.inr rfl) (by refine ⟨?_, rfl⟩; first | exact kbI_tN (by omega) | exact kbI_fN (by omega)) dX3_isFull_14
  · skip
    have c_6 : ¬ (cc < 16) := fun h9 => c_6 ((nI_ltI (by omega) (by omega)).mpr h9)
    refine lv_iconst (v := nI 1) C.x C.b dX3_isFull_9 (by decide) ?_
    refine lv_goto (tgt := 14) C.x C.b dX3_isFull_10 (by decide) ?_
    exact k_zret C hX hr hlocks hQ (by omega) (by omega) (by first | exact kbI_01 _ | exact Or.inl rfl | exact Or.inr rfl) (by refine ⟨?_, rfl⟩; first | exact kbI_tN (by omega) | exact kbI_fN (by omega)) dX3_isFull_14

theorem lk_X3_cornerOf_f11 : Cond.fieldLink RX3 11 "Koebehall$Net" "named" "[I" ∈ wsX3_cornerOf := by decide +kernel
theorem hin_X3_cornerOf_RX3 : ∀ w ∈ u_ws RX3 TX3 4, w ∈ wsX3_cornerOf := by decide +kernel
abbrev rmX3_cornerOf : Room := { frames := 0, cells := 0, slots := 0, locals := 0 }
set_option maxHeartbeats 4000000 in
set_option maxRecDepth 100000 in
/-- X3_cornerOf -/
theorem kX3_cornerOf (l : Launch) (G : kG) (B0 : Nat) (f : kH) (h nA tA : Nat) (aN aT : Nat → Int32) (cc fc : Nat) (t k : Nat) (hM : kCs f (nW G h nA tA aN aT cc fc)) (hc9 : cc ≤ 16) (hF9 : fc ≤ 28) (ht : t < 28) (hk : k < 3) : Met l yX3_cornerOf wsX3_cornerOf (rmX3_cornerOf) (kP G B0 f [.ref h, .int (nI t), .int (nI k)]) (kQi G B0 (fun r f1 => r = aN (3 * t + k) ∧ f1 = f)) 0 0 (kAb B0) := by
  refine kMet (cc := cX3_cornerOf) (maxL := 3) (ret := (some .int)) (by decide) rfl (Nat.le_of_ble_eq_true rfl) ?_
  intro p e s m args below meth c H locs Q ls C hX hl hr hlocks hnm hQ
  have hl : lv_has ls 3 [(0, .ref h), (1, .int (nI t)), (2, .int (nI k))] := hl
  refine lv_aload_n C.x C.b dX3_cornerOf_0 rfl (lv_at hl 0 rfl) ?_
  refine k_get (X := RX3) (T := TX3) (N := 4) (v := .ref nA) C hX (hM.at 0 rfl) rfl hin_X3_cornerOf_RX3 0 (by decide) lk_X3_cornerOf_f11 (fun _ h9 => h9) rfl dX3_cornerOf_1 ?_
  refine lv_iconst (v := nI 3) C.x C.b dX3_cornerOf_4 (by decide) ?_
  refine lv_iload_n C.x C.b dX3_cornerOf_5 rfl (lv_at hl 1 rfl) ?_
  refine lv_imul C.x C.b dX3_cornerOf_6 ?_
  refine k_topi (y := nI (3 * t)) (pk_mul _ _) ?_
  refine lv_iload_n C.x C.b dX3_cornerOf_7 rfl (lv_at hl 2 rfl) ?_
  refine lv_iadd C.x C.b dX3_cornerOf_8 ?_
  refine k_topi (y := nI ((3 * t) + k)) (nI_add _ _) ?_
  refine k_iald C hX (hM.at 1 rfl) (vp_in_nI (by omega) (by omega)) dX3_cornerOf_9 ?_
  refine k_topi (y := aN ((3 * t) + k)) (by rw [nI_clamp (by omega)]) ?_
  exact k_iret C hX hr hlocks hQ (by omega) (by omega) (⟨rfl, rfl⟩) dX3_cornerOf_10

theorem lk_X3_edgeCount_f28 : Cond.fieldLink RX3 28 "Koebehall$Net" "faceCount" "I" ∈ wsX3_edgeCount := by decide +kernel
theorem hin_X3_edgeCount_RX3 : ∀ w ∈ u_ws RX3 TX3 4, w ∈ wsX3_edgeCount := by decide +kernel
abbrev rmX3_edgeCount : Room := { frames := 0, cells := 0, slots := 0, locals := 0 }
set_option maxHeartbeats 4000000 in
set_option maxRecDepth 100000 in
/-- X3_edgeCount -/
theorem kX3_edgeCount (l : Launch) (G : kG) (B0 : Nat) (f : kH) (h nA tA : Nat) (aN aT : Nat → Int32) (cc fc : Nat) (hM : kCs f (nW G h nA tA aN aT cc fc)) (hc9 : cc ≤ 16) (hF9 : fc ≤ 28) : Met l yX3_edgeCount wsX3_edgeCount (rmX3_edgeCount) (kP G B0 f [.ref h]) (kQi G B0 (fun r f1 => r = nI (3 * fc / 2) ∧ f1 = f)) 0 0 (kAb B0) := by
  refine kMet (cc := cX3_edgeCount) (maxL := 1) (ret := (some .int)) (by decide) rfl (Nat.le_of_ble_eq_true rfl) ?_
  intro p e s m args below meth c H locs Q ls C hX hl hr hlocks hnm hQ
  have hl : lv_has ls 1 [(0, .ref h)] := hl
  refine lv_iconst (v := nI 3) C.x C.b dX3_edgeCount_0 (by decide) ?_
  refine lv_aload_n C.x C.b dX3_edgeCount_1 rfl (lv_at hl 0 rfl) ?_
  refine k_get (X := RX3) (T := TX3) (N := 4) (v := .int (nI fc)) C hX (hM.at 0 rfl) rfl hin_X3_edgeCount_RX3 3 (by decide) lk_X3_edgeCount_f28 (fun _ h9 => h9) rfl dX3_edgeCount_2 ?_
  refine lv_imul C.x C.b dX3_edgeCount_5 ?_
  refine k_topi (y := nI (3 * fc)) (pk_mul _ _) ?_
  refine lv_iconst (v := nI 2) C.x C.b dX3_edgeCount_6 (by decide) ?_
  refine lv_idiv C.x C.b dX3_edgeCount_7 (by decide) ?_
  refine k_topi (y := nI ((3 * fc) / 2)) (pk_div (by omega) (by omega) (by omega)) ?_
  exact k_iret C hX hr hlocks hQ (by omega) (by omega) (⟨rfl, rfl⟩) dX3_edgeCount_8

theorem hdX3_thirdOf_X3_hasCorner : yX3_hasCorner.cls ≠ "java/lang/invoke/MethodHandle" ∧ yX3_hasCorner.cls ≠ "java/lang/invoke/VarHandle" ∧ (parseMethodDescriptor yX3_hasCorner.desc).map (fun d => d.parameters.length) = some 1 := by decide +kernel
theorem lk_X3_thirdOf_f15 : Cond.fieldLink RX3 15 "Koebehall$Net" "thirds" "[I" ∈ wsX3_thirdOf := by decide +kernel
theorem hin_X3_thirdOf_RX3 : ∀ w ∈ u_ws RX3 TX3 4, w ∈ wsX3_thirdOf := by decide +kernel
abbrev rmX3_thirdOf : Room := { frames := 1, cells := 0, slots := 0, locals := 21 }
set_option maxHeartbeats 4000000 in
set_option maxRecDepth 100000 in
/-- X3_thirdOf -/
theorem kX3_thirdOf (l : Launch) (G : kG) (B0 : Nat) (f : kH) (h nA tA : Nat) (aN aT : Nat → Int32) (cc fc : Nat) (a b : Int32) (hM : kCs f (nW G h nA tA aN aT cc fc)) (hc9 : cc ≤ 16) (hF9 : fc ≤ 28) : Met l yX3_thirdOf wsX3_thirdOf (rmX3_thirdOf) (kP G B0 f [.ref h, .int a, .int b]) (kQi G B0 (fun r f1 => r = nThird aT cc a b ∧ f1 = f)) 0 0 (kAb B0) := by
  refine kMet (cc := cX3_thirdOf) (maxL := 3) (ret := (some .int)) (by decide) rfl (Nat.le_of_ble_eq_true rfl) ?_
  intro p e s m args below meth c H locs Q ls C hX hl hr hlocks hnm hQ
  have hl : lv_has ls 3 [(0, .ref h), (1, .int a), (2, .int b)] := hl
  refine lv_aload_n C.x C.b dX3_thirdOf_0 rfl (lv_at hl 0 rfl) ?_
  refine lv_iload_n C.x C.b dX3_thirdOf_1 rfl (lv_at hl 1 rfl) ?_
  refine k_calli (va_runV (As := [.int a]) (rest := []) C.1 (kX3_hasCorner l G B0 f h nA tA aN aT cc fc a hM hc9 hF9) (cwV 1 C.ts gX3_thirdOf_X3_hasCorner rfl rfl rfl ⟨rfl, hdX3_thirdOf_X3_hasCorner⟩ ⟨Nat.le_of_ble_eq_true rfl, Nat.le_of_ble_eq_true rfl⟩) (k_preV C hX (hM.at 0 rfl) rfl) rfl rfl hl.1 rfl (lv_room (Nat.le_of_ble_eq_true rfl)) dX3_thirdOf_2 ⟨Nat.le_of_ble_eq_true rfl, Nat.le_of_ble_eq_true rfl⟩) hX (fun r2 f2 H locs hp2 hX => ?_)
  obtain ⟨hr2, hf2⟩ := hp2
  rw [hf2] at hX
  refine k_topi (y := (kbI (mIn a cc))) hr2 ?_
  have J31 : ∀ (ls : Array Slot), lv_has ls 3 [(0, .ref h), (1, .int a), (2, .int b)] → ∀ (H : Heap) (locs : List Loc), kX G B0 s f H locs → W p l e (rmX3_thirdOf) s m args below meth c H locs 0 0 Q (F0 m 31 ls [.int (nThird aT cc a b)]) := by
    intro ls hl H locs hX
    exact k_iret C hX hr hlocks hQ (by omega) (by omega) (⟨rfl, rfl⟩) dX3_thirdOf_31
  refine lv_if_eq (tgt := 30) C.x C.b dX3_thirdOf_5 (by decide) (fun c_5 => ?_) (fun c_5 => ?_)
  · skip
    have c_5 := kbI_0 c_5
    refine lv_iconst (v := -1) C.x C.b dX3_thirdOf_30 (by decide) ?_
    refine k_topi (y := (nThird aT cc a b)) (by first | (rw [nThird, if_pos ⟨c_5, c_13⟩]; done) | (rw [nThird, if_neg (fun h9 => c_5 h9.1)]; done) | (rw [nThird, if_neg (fun h9 => c_13 h9.2)]; done)) ?_
    exact J31 ls (lv_sub hl [0, 1, 2] rfl) _ _ hX
  · skip
    have c_5 := kbI_1 c_5
    refine lv_aload_n C.x C.b dX3_thirdOf_8 rfl (lv_at hl 0 rfl) ?_
    refine lv_iload_n C.x C.b dX3_thirdOf_9 rfl (lv_at hl 2 rfl) ?_
    refine k_calli (va_runV (As := [.int b]) (rest := []) C.1 (kX3_hasCorner l G B0 f h nA tA aN aT cc fc b hM hc9 hF9) (cwV 1 C.ts gX3_thirdOf_X3_hasCorner rfl rfl rfl ⟨rfl, hdX3_thirdOf_X3_hasCorner⟩ ⟨Nat.le_of_ble_eq_true rfl, Nat.le_of_ble_eq_true rfl⟩) (k_preV C hX (hM.at 0 rfl) rfl) rfl rfl hl.1 rfl (lv_room (Nat.le_of_ble_eq_true rfl)) dX3_thirdOf_10 ⟨Nat.le_of_ble_eq_true rfl, Nat.le_of_ble_eq_true rfl⟩) hX (fun r10 f10 H locs hp10 hX => ?_)
    obtain ⟨hr10, hf10⟩ := hp10
    rw [hf10] at hX
    refine k_topi (y := (kbI (mIn b cc))) hr10 ?_
    refine lv_if_eq (tgt := 30) C.x C.b dX3_thirdOf_13 (by decide) (fun c_13 => ?_) (fun c_13 => ?_)
    · skip
      have c_13 := kbI_0 c_13
      refine lv_iconst (v := -1) C.x C.b dX3_thirdOf_30 (by decide) ?_
      refine k_topi (y := (nThird aT cc a b)) (by first | (rw [nThird, if_pos ⟨c_5, c_13⟩]; done) | (rw [nThird, if_neg (fun h9 => c_5 h9.1)]; done) | (rw [nThird, if_neg (fun h9 => c_13 h9.2)]; done)) ?_
      exact J31 ls (lv_sub hl [0, 1, 2] rfl) _ _ hX
    · skip
      have c_13 := kbI_1 c_13
      refine lv_aload_n C.x C.b dX3_thirdOf_16 rfl (lv_at hl 0 rfl) ?_
      refine k_get (X := RX3) (T := TX3) (N := 4) (v := .ref tA) C hX (hM.at 0 rfl) rfl hin_X3_thirdOf_RX3 1 (by decide) lk_X3_thirdOf_f15 (fun _ h9 => h9) rfl dX3_thirdOf_17 ?_
      refine lv_bipush (v := nI 16) C.x C.b dX3_thirdOf_20 (by decide) ?_
      refine lv_iload_n C.x C.b dX3_thirdOf_22 rfl (lv_at hl 1 rfl) ?_
      refine lv_imul C.x C.b dX3_thirdOf_23 ?_
      refine lv_iload_n C.x C.b dX3_thirdOf_24 rfl (lv_at hl 2 rfl) ?_
      refine lv_iadd C.x C.b dX3_thirdOf_25 ?_
      refine k_iald C hX (hM.at 2 rfl) (nT_in c_5 c_13 hc9) dX3_thirdOf_26 ?_
      refine lv_goto (tgt := 31) C.x C.b dX3_thirdOf_27 (by decide) ?_
      refine k_topi (y := (nThird aT cc a b)) (by first | (rw [nThird, if_pos ⟨c_5, c_13⟩]; done) | (rw [nThird, if_neg (fun h9 => c_5 h9.1)]; done) | (rw [nThird, if_neg (fun h9 => c_13 h9.2)]; done)) ?_
      exact J31 ls (lv_sub hl [0, 1, 2] rfl) _ _ hX

theorem hdX3_areNeighbours_X3_thirdOf : yX3_thirdOf.cls ≠ "java/lang/invoke/MethodHandle" ∧ yX3_thirdOf.cls ≠ "java/lang/invoke/VarHandle" ∧ (parseMethodDescriptor yX3_thirdOf.desc).map (fun d => d.parameters.length) = some 2 := by decide +kernel
abbrev rmX3_areNeighbours : Room := { frames := 2, cells := 0, slots := 0, locals := 43 }
set_option maxHeartbeats 4000000 in
set_option maxRecDepth 100000 in
/-- X3_areNeighbours -/
theorem kX3_areNeighbours (l : Launch) (G : kG) (B0 : Nat) (f : kH) (h nA tA : Nat) (aN aT : Nat → Int32) (cc fc : Nat) (a b : Int32) (hM : kCs f (nW G h nA tA aN aT cc fc)) (hc9 : cc ≤ 16) (hF9 : fc ≤ 28) : Met l yX3_areNeighbours wsX3_areNeighbours (rmX3_areNeighbours) (kP G B0 f [.ref h, .int a, .int b]) (kQi G B0 (fun r f1 => r = kbI (nAdj aT cc a b) ∧ f1 = f)) 0 0 (kAb B0) := by
  refine kMet (cc := cX3_areNeighbours) (maxL := 3) (ret := (some .boolean)) (by decide) rfl (Nat.le_of_ble_eq_true rfl) ?_
  intro p e s m args below meth c H locs Q ls C hX hl hr hlocks hnm hQ
  have hl : lv_has ls 3 [(0, .ref h), (1, .int a), (2, .int b)] := hl
  refine lv_aload_n C.x C.b dX3_areNeighbours_0 rfl (lv_at hl 0 rfl) ?_
  refine lv_iload_n C.x C.b dX3_areNeighbours_1 rfl (lv_at hl 1 rfl) ?_
  refine lv_iload_n C.x C.b dX3_areNeighbours_2 rfl (lv_at hl 2 rfl) ?_
  refine k_calli (va_runV (As := [.int a, .int b]) (rest := []) C.1 (kX3_thirdOf l G B0 f h nA tA aN aT cc fc a b hM hc9 hF9) (cwV 2 C.ts gX3_areNeighbours_X3_thirdOf rfl rfl rfl ⟨rfl, hdX3_areNeighbours_X3_thirdOf⟩ ⟨Nat.le_of_ble_eq_true rfl, Nat.le_of_ble_eq_true rfl⟩) (k_preV C hX (hM.at 0 rfl) rfl) rfl rfl hl.1 rfl (lv_room (Nat.le_of_ble_eq_true rfl)) dX3_areNeighbours_3 ⟨Nat.le_of_ble_eq_true rfl, Nat.le_of_ble_eq_true rfl⟩) hX (fun r3 f3 H locs hp3 hX => ?_)
  obtain ⟨hr3, hf3⟩ := hp3
  rw [hf3] at hX
  refine k_topi (y := (nThird aT cc a b)) hr3 ?_
  refine lv_iconst (v := -1) C.x C.b dX3_areNeighbours_6 (by decide) ?_
  refine lv_icmp_eq (tgt := 14) C.x C.b dX3_areNeighbours_7 (by decide) (fun c_7 => ?_) (fun c_7 => ?_)
  · skip
    refine lv_iconst (v := nI 0) C.x C.b dX3_areNeighbours_14 (by decide) ?_
    exact k_zret C hX hr hlocks hQ (by omega) (by omega) (by first | exact kbI_01 _ | exact Or.inl rfl | exact Or.inr rfl) (by refine ⟨?_, rfl⟩; first | exact kbI_tN c_7 | exact kbI_fN (fun h9 => h9 c_7)) dX3_areNeighbours_15
  · skip
    refine lv_iconst (v := nI 1) C.x C.b dX3_areNeighbours_10 (by decide) ?_
    refine lv_goto (tgt := 15) C.x C.b dX3_areNeighbours_11 (by decide) ?_
    exact k_zret C hX hr hlocks hQ (by omega) (by omega) (by first | exact kbI_01 _ | exact Or.inl rfl | exact Or.inr rfl) (by refine ⟨?_, rfl⟩; first | exact kbI_tN c_7 | exact kbI_fN (fun h9 => h9 c_7)) dX3_areNeighbours_15

theorem hdX3_canFlip_X3_areNeighbours : yX3_areNeighbours.cls ≠ "java/lang/invoke/MethodHandle" ∧ yX3_areNeighbours.cls ≠ "java/lang/invoke/VarHandle" ∧ (parseMethodDescriptor yX3_areNeighbours.desc).map (fun d => d.parameters.length) = some 2 := by decide +kernel
theorem hdX3_canFlip_X3_thirdOf : yX3_thirdOf.cls ≠ "java/lang/invoke/MethodHandle" ∧ yX3_thirdOf.cls ≠ "java/lang/invoke/VarHandle" ∧ (parseMethodDescriptor yX3_thirdOf.desc).map (fun d => d.parameters.length) = some 2 := by decide +kernel
abbrev rmX3_canFlip : Room := { frames := 3, cells := 0, slots := 0, locals := 65 }
set_option maxHeartbeats 4000000 in
set_option maxRecDepth 100000 in
/-- X3_canFlip -/
theorem kX3_canFlip (l : Launch) (G : kG) (B0 : Nat) (f : kH) (h nA tA : Nat) (aN aT : Nat → Int32) (cc fc : Nat) (a b : Int32) (hM : kCs f (nW G h nA tA aN aT cc fc)) (hc9 : cc ≤ 16) (hF9 : fc ≤ 28) : Met l yX3_canFlip wsX3_canFlip (rmX3_canFlip) (kP G B0 f [.ref h, .int a, .int b]) (kQi G B0 (fun r f1 => r = kbI (nCanFlip aT cc a b) ∧ f1 = f)) 0 0 (kAb B0) := by
  refine kMet (cc := cX3_canFlip) (maxL := 3) (ret := (some .boolean)) (by decide) rfl (Nat.le_of_ble_eq_true rfl) ?_
  intro p e s m args below meth c H locs Q ls C hX hl hr hlocks hnm hQ
  have hl : lv_has ls 3 [(0, .ref h), (1, .int a), (2, .int b)] := hl
  refine lv_aload_n C.x C.b dX3_canFlip_0 rfl (lv_at hl 0 rfl) ?_
  refine lv_iload_n C.x C.b dX3_canFlip_1 rfl (lv_at hl 1 rfl) ?_
  refine lv_iload_n C.x C.b dX3_canFlip_2 rfl (lv_at hl 2 rfl) ?_
  refine k_calli (va_runV (As := [.int a, .int b]) (rest := []) C.1 (kX3_areNeighbours l G B0 f h nA tA aN aT cc fc a b hM hc9 hF9) (cwV 2 C.ts gX3_canFlip_X3_areNeighbours rfl rfl rfl ⟨rfl, hdX3_canFlip_X3_areNeighbours⟩ ⟨Nat.le_of_ble_eq_true rfl, Nat.le_of_ble_eq_true rfl⟩) (k_preV C hX (hM.at 0 rfl) rfl) rfl rfl hl.1 rfl (lv_room (Nat.le_of_ble_eq_true rfl)) dX3_canFlip_3 ⟨Nat.le_of_ble_eq_true rfl, Nat.le_of_ble_eq_true rfl⟩) hX (fun r3 f3 H locs hp3 hX => ?_)
  obtain ⟨hr3, hf3⟩ := hp3
  rw [hf3] at hX
  refine k_topi (y := (kbI (nAdj aT cc a b))) hr3 ?_
  refine lv_if_eq (tgt := 32) C.x C.b dX3_canFlip_6 (by decide) (fun c_6 => ?_) (fun c_6 => ?_)
  · skip
    have c_6 := kbI_0 c_6
    refine lv_iconst (v := nI 0) C.x C.b dX3_canFlip_32 (by decide) ?_
    exact k_zret C hX hr hlocks hQ (by omega) (by omega) (by first | exact kbI_01 _ | exact Or.inl rfl | exact Or.inr rfl) (by refine ⟨?_, rfl⟩; first | exact kbI_tN ⟨c_6, c_25⟩ | exact kbI_fN (fun h9 => c_6 h9.1) | exact kbI_fN (fun h9 => h9.2 c_25)) dX3_canFlip_33
  · skip
    have c_6 := kbI_1 c_6
    refine lv_aload_n C.x C.b dX3_canFlip_9 rfl (lv_at hl 0 rfl) ?_
    refine lv_aload_n C.x C.b dX3_canFlip_10 rfl (lv_at hl 0 rfl) ?_
    refine lv_iload_n C.x C.b dX3_canFlip_11 rfl (lv_at hl 1 rfl) ?_
    refine lv_iload_n C.x C.b dX3_canFlip_12 rfl (lv_at hl 2 rfl) ?_
    refine k_calli (va_runV (As := [.int a, .int b]) (rest := [.ref h]) C.1 (kX3_thirdOf l G B0 f h nA tA aN aT cc fc a b hM hc9 hF9) (cwV 2 C.ts gX3_canFlip_X3_thirdOf rfl rfl rfl ⟨rfl, hdX3_canFlip_X3_thirdOf⟩ ⟨Nat.le_of_ble_eq_true rfl, Nat.le_of_ble_eq_true rfl⟩) (k_preV C hX (hM.at 0 rfl) rfl) rfl rfl hl.1 rfl (lv_room (Nat.le_of_ble_eq_true rfl)) dX3_canFlip_13 ⟨Nat.le_of_ble_eq_true rfl, Nat.le_of_ble_eq_true rfl⟩) hX (fun r13 f13 H locs hp13 hX => ?_)
    obtain ⟨hr13, hf13⟩ := hp13
    rw [hf13] at hX
    refine k_topi (y := (nThird aT cc a b)) hr13 ?_
    refine lv_aload_n C.x C.b dX3_canFlip_16 rfl (lv_at hl 0 rfl) ?_
    refine lv_iload_n C.x C.b dX3_canFlip_17 rfl (lv_at hl 2 rfl) ?_
    refine lv_iload_n C.x C.b dX3_canFlip_18 rfl (lv_at hl 1 rfl) ?_
    refine k_calli (va_runV (As := [.int b, .int a]) (rest := [.int (nThird aT cc a b), .ref h]) C.1 (kX3_thirdOf l G B0 f h nA tA aN aT cc fc b a hM hc9 hF9) (cwV 2 C.ts gX3_canFlip_X3_thirdOf rfl rfl rfl ⟨rfl, hdX3_canFlip_X3_thirdOf⟩ ⟨Nat.le_of_ble_eq_true rfl, Nat.le_of_ble_eq_true rfl⟩) (k_preV C hX (hM.at 0 rfl) rfl) rfl rfl hl.1 rfl (lv_room (Nat.le_of_ble_eq_true rfl)) dX3_canFlip_19 ⟨Nat.le_of_ble_eq_true rfl, Nat.le_of_ble_eq_true rfl⟩) hX (fun r19 f19 H locs hp19 hX => ?_)
    obtain ⟨hr19, hf19⟩ := hp19
    rw [hf19] at hX
    refine k_topi (y := (nThird aT cc b a)) hr19 ?_
    refine k_calli (va_runV (As := [.int (nThird aT cc a b), .int (nThird aT cc b a)]) (rest := []) C.1 (kX3_areNeighbours l G B0 f h nA tA aN aT cc fc (nThird aT cc a b) (nThird aT cc b a) hM hc9 hF9) (cwV 2 C.ts gX3_canFlip_X3_areNeighbours rfl rfl rfl ⟨rfl, hdX3_canFlip_X3_areNeighbours⟩ ⟨Nat.le_of_ble_eq_true rfl, Nat.le_of_ble_eq_true rfl⟩) (k_preV C hX (hM.at 0 rfl) rfl) rfl rfl hl.1 rfl (lv_room (Nat.le_of_ble_eq_true rfl)) dX3_canFlip_22 ⟨Nat.le_of_ble_eq_true rfl, Nat.le_of_ble_eq_true rfl⟩) hX (fun r22 f22 H locs hp22 hX => ?_)
    obtain ⟨hr22, hf22⟩ := hp22
    rw [hf22] at hX
    refine k_topi (y := (kbI (nAdj aT cc (nThird aT cc a b) (nThird aT cc b a)))) hr22 ?_
    refine lv_if_ne (tgt := 32) C.x C.b dX3_canFlip_25 (by decide) (fun c_25 => ?_) (fun c_25 => ?_)
    · skip
      have c_25 := kbI_1 c_25
      refine lv_iconst (v := nI 0) C.x C.b dX3_canFlip_32 (by decide) ?_
      exact k_zret C hX hr hlocks hQ (by omega) (by omega) (by first | exact kbI_01 _ | exact Or.inl rfl | exact Or.inr rfl) (by refine ⟨?_, rfl⟩; first | exact kbI_tN ⟨c_6, c_25⟩ | exact kbI_fN (fun h9 => c_6 h9.1) | exact kbI_fN (fun h9 => h9.2 c_25)) dX3_canFlip_33
    · skip
      have c_25 := kbI_0 c_25
      refine lv_iconst (v := nI 1) C.x C.b dX3_canFlip_28 (by decide) ?_
      refine lv_goto (tgt := 33) C.x C.b dX3_canFlip_29 (by decide) ?_
      exact k_zret C hX hr hlocks hQ (by omega) (by omega) (by first | exact kbI_01 _ | exact Or.inl rfl | exact Or.inr rfl) (by refine ⟨?_, rfl⟩; first | exact kbI_tN ⟨c_6, c_25⟩ | exact kbI_fN (fun h9 => c_6 h9.1) | exact kbI_fN (fun h9 => h9.2 c_25)) dX3_canFlip_33

theorem lk_X3_faceWith_f28 : Cond.fieldLink RX3 28 "Koebehall$Net" "faceCount" "I" ∈ wsX3_faceWith := by decide +kernel
theorem hin_X3_faceWith_RX3 : ∀ w ∈ u_ws RX3 TX3 4, w ∈ wsX3_faceWith := by decide +kernel
theorem lk_X3_faceWith_f11 : Cond.fieldLink RX3 11 "Koebehall$Net" "named" "[I" ∈ wsX3_faceWith := by decide +kernel
abbrev rmX3_faceWith : Room := { frames := 0, cells := 0, slots := 0, locals := 0 }
set_option maxHeartbeats 4000000 in
set_option maxRecDepth 100000 in
/-- X3_faceWith -/
theorem kX3_faceWith (l : Launch) (G : kG) (B0 : Nat) (f : kH) (h nA tA : Nat) (aN aT : Nat → Int32) (cc fc : Nat) (a b : Int32) (hM : kCs f (nW G h nA tA aN aT cc fc)) (hc9 : cc ≤ 16) (hF9 : fc ≤ 28) : Met l yX3_faceWith wsX3_faceWith (rmX3_faceWith) (kP G B0 f [.ref h, .int a, .int b]) (kQi G B0 (fun r f1 => r = nFace aN a b (3 * fc) 0 ∧ f1 = f)) 0 0 (kAb B0) := by
  refine kMet (cc := cX3_faceWith) (maxL := 5) (ret := (some .int)) (by decide) rfl (Nat.le_of_ble_eq_true rfl) ?_
  intro p e s m args below meth c H locs Q ls C hX hl hr hlocks hnm hQ
  have hl : lv_has ls 5 [(0, .ref h), (1, .int a), (2, .int b)] := hl
  refine lv_iconst (v := nI 0) C.x C.b dX3_faceWith_0 (by decide) ?_
  refine lv_istore_n (lv' := [(3, .int (nI 0)), (0, .ref h), (1, .int a), (2, .int b)]) C.x C.b dX3_faceWith_1 rfl hl (by decide) rfl (fun ls hl => ?_)
  have LOOP2 : ∀ (n : Nat) (k : Nat), (k ≤ 3 * fc) → (nFace aN a b (3 * fc - k) k = nFace aN a b (3 * fc) 0) → (3 * fc - k) < n → ∀ (ls : Array Slot), lv_has ls 5 [(3, .int (nI k)), (0, .ref h), (1, .int a), (2, .int b)] → ∀ (H : Heap) (locs : List Loc), kX G B0 s f H locs → W p l e (rmX3_faceWith) s m args below meth c H locs 0 0 Q (F0 m 2 ls []) := by
    intro n2
    induction n2 with
    | zero => intro k hk hv hn; exact absurd hn (Nat.not_lt_zero _)
    | succ n2 ih2 =>
      intro k hk hv hn ls hl H locs hX
      refine lv_iload_n C.x C.b dX3_faceWith_2 rfl (lv_at hl 0 rfl) ?_
      refine lv_iconst (v := nI 3) C.x C.b dX3_faceWith_3 (by decide) ?_
      refine lv_aload_n C.x C.b dX3_faceWith_4 rfl (lv_at hl 1 rfl) ?_
      refine k_get (X := RX3) (T := TX3) (N := 4) (v := .int (nI fc)) C hX (hM.at 0 rfl) rfl hin_X3_faceWith_RX3 3 (by decide) lk_X3_faceWith_f28 (fun _ h9 => h9) rfl dX3_faceWith_5 ?_
      refine lv_imul C.x C.b dX3_faceWith_8 ?_
      refine k_topi (y := nI (3 * fc)) (pk_mul _ _) ?_
      refine lv_icmp_ge (tgt := 61) C.x C.b dX3_faceWith_9 (by decide) (fun c_9 => ?_) (fun c_9 => ?_)
      · skip
        have c_9 : 3 * fc ≤ k := (nI_leI (by omega) (by omega)).mp c_9
        refine lv_iconst (v := -1) C.x C.b dX3_faceWith_61 (by decide) ?_
        exact k_iret C hX hr hlocks hQ (by omega) (by omega) (by refine ⟨?_, rfl⟩; first | (rw [← hv, show 3 * fc - k = (3 * fc - (k + 1)) + 1 by omega, nFace, if_pos ⟨c_37, c_48⟩]; done) | (rw [← hv, show 3 * fc - k = 0 by omega, nFace]; done)) dX3_faceWith_62
      · skip
        have c_9 : ¬ (3 * fc ≤ k) := fun h9 => c_9 ((nI_leI (by omega) (by omega)).mpr h9)
        refine lv_iload_n C.x C.b dX3_faceWith_12 rfl (lv_at hl 0 rfl) ?_
        refine lv_iconst (v := nI 3) C.x C.b dX3_faceWith_13 (by decide) ?_
        refine lv_irem C.x C.b dX3_faceWith_14 (by decide) ?_
        refine k_topi (y := nI (k % 3)) (pk_rem (by omega) (by omega) (by omega)) ?_
        refine lv_iconst (v := nI 2) C.x C.b dX3_faceWith_15 (by decide) ?_
        have J28 : ∀ (ls : Array Slot), lv_has ls 5 [(3, .int (nI k)), (0, .ref h), (1, .int a), (2, .int b)] → ∀ (H : Heap) (locs : List Loc), kX G B0 s f H locs → W p l e (rmX3_faceWith) s m args below meth c H locs 0 0 Q (F0 m 28 ls [.int (nI (mNx k))]) := by
          intro ls hl H locs hX
          refine lv_istore (lv' := [(4, .int (nI (mNx k))), (3, .int (nI k)), (0, .ref h), (1, .int a), (2, .int b)]) C.x C.b dX3_faceWith_28 hl (by decide) rfl (fun ls hl => ?_)
          have hnx : mNx k < 84 := by unfold mNx; split <;> omega
          refine lv_aload_n C.x C.b dX3_faceWith_30 rfl (lv_at hl 2 rfl) ?_
          refine k_get (X := RX3) (T := TX3) (N := 4) (v := .ref nA) C hX (hM.at 0 rfl) rfl hin_X3_faceWith_RX3 0 (by decide) lk_X3_faceWith_f11 (fun _ h9 => h9) rfl dX3_faceWith_31 ?_
          refine lv_iload_n C.x C.b dX3_faceWith_34 rfl (lv_at hl 1 rfl) ?_
          refine k_iald C hX (hM.at 1 rfl) (vp_in_nI (by omega) (by omega)) dX3_faceWith_35 ?_
          refine k_topi (y := aN k) (by rw [nI_clamp (by omega)]) ?_
          refine lv_iload_n C.x C.b dX3_faceWith_36 rfl (lv_at hl 3 rfl) ?_
          refine lv_icmp_ne (tgt := 55) C.x C.b dX3_faceWith_37 (by decide) (fun c_37 => ?_) (fun c_37 => ?_)
          · skip
            refine lv_iinc (v := (nI (k + 1))) (lv' := [(3, .int (nI (k + 1))), (4, .int (nI (mNx k))), (0, .ref h), (1, .int a), (2, .int b)]) C.x C.b dX3_faceWith_55 hl (k := 1) rfl (nI_1 _) (by decide) rfl (fun ls hl => ?_)
            refine lv_goto (tgt := 2) C.x C.b dX3_faceWith_58 (by decide) ?_
            exact ih2 (k + 1) (by omega) (by rw [← hv, show 3 * fc - k = (3 * fc - (k + 1)) + 1 by omega, nFace, if_neg]; first | exact fun h9 => c_37 h9.1 | exact fun h9 => c_48 h9.2) (by omega) ls (lv_sub hl [0, 2, 3, 4] rfl) _ _ hX
          · skip
            refine lv_aload_n C.x C.b dX3_faceWith_40 rfl (lv_at hl 2 rfl) ?_
            refine k_get (X := RX3) (T := TX3) (N := 4) (v := .ref nA) C hX (hM.at 0 rfl) rfl hin_X3_faceWith_RX3 0 (by decide) lk_X3_faceWith_f11 (fun _ h9 => h9) rfl dX3_faceWith_41 ?_
            refine lv_iload C.x C.b dX3_faceWith_44 (lv_at hl 0 rfl) ?_
            refine k_iald C hX (hM.at 1 rfl) (vp_in_nI (by omega) (by omega)) dX3_faceWith_46 ?_
            refine k_topi (y := aN (mNx k)) (by rw [nI_clamp (by omega)]) ?_
            refine lv_iload_n C.x C.b dX3_faceWith_47 rfl (lv_at hl 4 rfl) ?_
            refine lv_icmp_ne (tgt := 55) C.x C.b dX3_faceWith_48 (by decide) (fun c_48 => ?_) (fun c_48 => ?_)
            · skip
              refine lv_iinc (v := (nI (k + 1))) (lv' := [(3, .int (nI (k + 1))), (4, .int (nI (mNx k))), (0, .ref h), (1, .int a), (2, .int b)]) C.x C.b dX3_faceWith_55 hl (k := 1) rfl (nI_1 _) (by decide) rfl (fun ls hl => ?_)
              refine lv_goto (tgt := 2) C.x C.b dX3_faceWith_58 (by decide) ?_
              exact ih2 (k + 1) (by omega) (by rw [← hv, show 3 * fc - k = (3 * fc - (k + 1)) + 1 by omega, nFace, if_neg]; first | exact fun h9 => c_37 h9.1 | exact fun h9 => c_48 h9.2) (by omega) ls (lv_sub hl [0, 2, 3, 4] rfl) _ _ hX
            · skip
              refine lv_iload_n C.x C.b dX3_faceWith_51 rfl (lv_at hl 1 rfl) ?_
              refine lv_iconst (v := nI 3) C.x C.b dX3_faceWith_52 (by decide) ?_
              refine lv_idiv C.x C.b dX3_faceWith_53 (by decide) ?_
              refine k_topi (y := nI (k / 3)) (pk_div (by omega) (by omega) (by omega)) ?_
              exact k_iret C hX hr hlocks hQ (by omega) (by omega) (by refine ⟨?_, rfl⟩; first | (rw [← hv, show 3 * fc - k = (3 * fc - (k + 1)) + 1 by omega, nFace, if_pos ⟨c_37, c_48⟩]; done) | (rw [← hv, show 3 * fc - k = 0 by omega, nFace]; done)) dX3_faceWith_54
        refine lv_icmp_ne (tgt := 25) C.x C.b dX3_faceWith_16 (by decide) (fun c_16 => ?_) (fun c_16 => ?_)
        · skip
          have c_16 : ¬ (k % 3 = 2) := fun h9 => c_16 ((nI_eq (by omega) (by omega)).mpr h9)
          refine lv_iload_n C.x C.b dX3_faceWith_25 rfl (lv_at hl 0 rfl) ?_
          refine lv_iconst (v := nI 1) C.x C.b dX3_faceWith_26 (by decide) ?_
          refine lv_iadd C.x C.b dX3_faceWith_27 ?_
          refine k_topi (y := nI (k + 1)) (nI_add _ _) ?_
          refine k_topi (y := (nI (mNx k))) (congrArg nI (by unfold mNx; split <;> omega)) ?_
          exact J28 ls (lv_sub hl [0, 1, 2, 3] rfl) _ _ hX
        · skip
          have c_16 : k % 3 = 2 := (nI_eq (by omega) (by omega)).mp c_16
          refine lv_iload_n C.x C.b dX3_faceWith_19 rfl (lv_at hl 0 rfl) ?_
          refine lv_iconst (v := nI 2) C.x C.b dX3_faceWith_20 (by decide) ?_
          refine lv_isub C.x C.b dX3_faceWith_21 ?_
          refine k_topi (y := (nI (k - 2))) (pk_sub (by omega)) ?_
          refine lv_goto (tgt := 28) C.x C.b dX3_faceWith_22 (by decide) ?_
          refine k_topi (y := (nI (mNx k))) (congrArg nI (by unfold mNx; split <;> omega)) ?_
          exact J28 ls (lv_sub hl [0, 1, 2, 3] rfl) _ _ hX
  exact LOOP2 _ 0 (by omega) rfl (Nat.lt_succ_self _) ls (lv_sub hl [0, 1, 2, 3] rfl) _ _ hX

theorem lk_X3_facesAt_f28 : Cond.fieldLink RX3 28 "Koebehall$Net" "faceCount" "I" ∈ wsX3_facesAt := by decide +kernel
theorem hin_X3_facesAt_RX3 : ∀ w ∈ u_ws RX3 TX3 4, w ∈ wsX3_facesAt := by decide +kernel
theorem lk_X3_facesAt_f11 : Cond.fieldLink RX3 11 "Koebehall$Net" "named" "[I" ∈ wsX3_facesAt := by decide +kernel
abbrev rmX3_facesAt : Room := { frames := 0, cells := 0, slots := 0, locals := 0 }
set_option maxHeartbeats 4000000 in
set_option maxRecDepth 100000 in
/-- X3_facesAt -/
theorem kX3_facesAt (l : Launch) (G : kG) (B0 : Nat) (f : kH) (h nA tA : Nat) (aN aT : Nat → Int32) (cc fc : Nat) (a : Int32) (hM : kCs f (nW G h nA tA aN aT cc fc)) (hc9 : cc ≤ 16) (hF9 : fc ≤ 28) : Met l yX3_facesAt wsX3_facesAt (rmX3_facesAt) (kP G B0 f [.ref h, .int a]) (kQi G B0 (fun r f1 => r = nI (nAt aN a (3 * fc)) ∧ f1 = f)) 0 0 (kAb B0) := by
  refine kMet (cc := cX3_facesAt) (maxL := 4) (ret := (some .int)) (by decide) rfl (Nat.le_of_ble_eq_true rfl) ?_
  intro p e s m args below meth c H locs Q ls C hX hl hr hlocks hnm hQ
  have hl : lv_has ls 4 [(0, .ref h), (1, .int a)] := hl
  refine lv_iconst (v := nI 0) C.x C.b dX3_facesAt_0 (by decide) ?_
  refine lv_istore_n (lv' := [(2, .int (nI 0)), (0, .ref h), (1, .int a)]) C.x C.b dX3_facesAt_1 rfl hl (by decide) rfl (fun ls hl => ?_)
  refine lv_iconst (v := nI 0) C.x C.b dX3_facesAt_2 (by decide) ?_
  refine lv_istore_n (lv' := [(3, .int (nI 0)), (2, .int (nI 0)), (0, .ref h), (1, .int a)]) C.x C.b dX3_facesAt_3 rfl hl (by decide) rfl (fun ls hl => ?_)
  have LOOP4 : ∀ (n : Nat) (k : Nat), (k ≤ 3 * fc) → (3 * fc - k) < n → ∀ (ls : Array Slot), lv_has ls 4 [(2, .int (nI (nAt aN a k))), (3, .int (nI k)), (0, .ref h), (1, .int a)] → ∀ (H : Heap) (locs : List Loc), kX G B0 s f H locs → W p l e (rmX3_facesAt) s m args below meth c H locs 0 0 Q (F0 m 4 ls []) := by
    intro n4
    induction n4 with
    | zero => intro k hk hn; exact absurd hn (Nat.not_lt_zero _)
    | succ n4 ih4 =>
      intro k hk hn ls hl H locs hX
      refine lv_iload_n C.x C.b dX3_facesAt_4 rfl (lv_at hl 1 rfl) ?_
      refine lv_iconst (v := nI 3) C.x C.b dX3_facesAt_5 (by decide) ?_
      refine lv_aload_n C.x C.b dX3_facesAt_6 rfl (lv_at hl 2 rfl) ?_
      refine k_get (X := RX3) (T := TX3) (N := 4) (v := .int (nI fc)) C hX (hM.at 0 rfl) rfl hin_X3_facesAt_RX3 3 (by decide) lk_X3_facesAt_f28 (fun _ h9 => h9) rfl dX3_facesAt_7 ?_
      refine lv_imul C.x C.b dX3_facesAt_10 ?_
      refine k_topi (y := nI (3 * fc)) (pk_mul _ _) ?_
      refine lv_icmp_ge (tgt := 33) C.x C.b dX3_facesAt_11 (by decide) (fun c_11 => ?_) (fun c_11 => ?_)
      · skip
        have c_11 : 3 * fc ≤ k := (nI_leI (by omega) (by omega)).mp c_11
        refine lv_iload_n C.x C.b dX3_facesAt_33 rfl (lv_at hl 0 rfl) ?_
        exact k_iret C hX hr hlocks hQ (by omega) (by omega) (⟨congrArg (fun z => nI (nAt aN a z)) (by omega), rfl⟩) dX3_facesAt_34
      · skip
        have c_11 : ¬ (3 * fc ≤ k) := fun h9 => c_11 ((nI_leI (by omega) (by omega)).mpr h9)
        refine lv_aload_n C.x C.b dX3_facesAt_14 rfl (lv_at hl 2 rfl) ?_
        refine k_get (X := RX3) (T := TX3) (N := 4) (v := .ref nA) C hX (hM.at 0 rfl) rfl hin_X3_facesAt_RX3 0 (by decide) lk_X3_facesAt_f11 (fun _ h9 => h9) rfl dX3_facesAt_15 ?_
        refine lv_iload_n C.x C.b dX3_facesAt_18 rfl (lv_at hl 1 rfl) ?_
        refine k_iald C hX (hM.at 1 rfl) (vp_in_nI (by omega) (by omega)) dX3_facesAt_19 ?_
        refine k_topi (y := aN k) (by rw [nI_clamp (by omega)]) ?_
        refine lv_iload_n C.x C.b dX3_facesAt_20 rfl (lv_at hl 3 rfl) ?_
        refine lv_icmp_ne (tgt := 27) C.x C.b dX3_facesAt_21 (by decide) (fun c_21 => ?_) (fun c_21 => ?_)
        · skip
          refine lv_iinc (v := (nI (k + 1))) (lv' := [(3, .int (nI (k + 1))), (2, .int (nI (nAt aN a k))), (0, .ref h), (1, .int a)]) C.x C.b dX3_facesAt_27 hl (k := 1) rfl (nI_1 _) (by decide) rfl (fun ls hl => ?_)
          refine lv_goto (tgt := 4) C.x C.b dX3_facesAt_30 (by decide) ?_
          rw [show (nI (nAt aN a k)) = (nI (nAt aN a (k + 1))) from by first | exact kCnt_p _ c_21 | exact kCnt_n _ c_21] at hl
          exact ih4 (k + 1) (by omega) (by omega) ls (lv_sub hl [1, 0, 2, 3] rfl) _ _ hX
        · skip
          refine lv_iinc (v := (nI (nAt aN a k + 1))) (lv' := [(2, .int (nI (nAt aN a k + 1))), (3, .int (nI k)), (0, .ref h), (1, .int a)]) C.x C.b dX3_facesAt_24 hl (k := 0) rfl (nI_1 _) (by decide) rfl (fun ls hl => ?_)
          refine lv_iinc (v := (nI (k + 1))) (lv' := [(3, .int (nI (k + 1))), (2, .int (nI (nAt aN a k + 1))), (0, .ref h), (1, .int a)]) C.x C.b dX3_facesAt_27 hl (k := 1) rfl (nI_1 _) (by decide) rfl (fun ls hl => ?_)
          refine lv_goto (tgt := 4) C.x C.b dX3_facesAt_30 (by decide) ?_
          rw [show (nI (nAt aN a k + 1)) = (nI (nAt aN a (k + 1))) from by first | exact kCnt_p _ c_21 | exact kCnt_n _ c_21] at hl
          exact ih4 (k + 1) (by omega) (by omega) ls (lv_sub hl [1, 0, 2, 3] rfl) _ _ hX
  exact LOOP4 _ 0 (by omega) (Nat.lt_succ_self _) ls (lv_sub hl [1, 0, 2, 3] rfl) _ _ hX

theorem lk_X3_mostNeighbours_f24 : Cond.fieldLink RX3 24 "Koebehall$Net" "cornerCount" "I" ∈ wsX3_mostNeighbours := by decide +kernel
theorem hin_X3_mostNeighbours_RX3 : ∀ w ∈ u_ws RX3 TX3 4, w ∈ wsX3_mostNeighbours := by decide +kernel
theorem hdX3_mostNeighbours_X3_facesAt : yX3_facesAt.cls ≠ "java/lang/invoke/MethodHandle" ∧ yX3_facesAt.cls ≠ "java/lang/invoke/VarHandle" ∧ (parseMethodDescriptor yX3_facesAt.desc).map (fun d => d.parameters.length) = some 1 := by decide +kernel
theorem lk_X3_mostNeighbours_lib68 : ∀ w ∈ [Cond.methodLink RX3 68 Lib.Math.max.name, Cond.static Lib.Math.max.name, Cond.initialized "java/lang/Math", Cond.code Lib.Math.max.name Lib.Math.max.code 2 (some .int)], w ∈ wsX3_mostNeighbours := by decide +kernel
abbrev rmX3_mostNeighbours : Room := { frames := 1, cells := 0, slots := 0, locals := 23 }
set_option maxHeartbeats 4000000 in
set_option maxRecDepth 100000 in
/-- X3_mostNeighbours -/
theorem kX3_mostNeighbours (l : Launch) (G : kG) (B0 : Nat) (f : kH) (h nA tA : Nat) (aN aT : Nat → Int32) (cc fc : Nat) (hM : kCs f (nW G h nA tA aN aT cc fc)) (hc9 : cc ≤ 16) (hF9 : fc ≤ 28) : Met l yX3_mostNeighbours wsX3_mostNeighbours (rmX3_mostNeighbours) (kP G B0 f [.ref h]) (kQi G B0 (fun r f1 => r = nI (nMost aN fc cc) ∧ f1 = f)) 0 0 (kAb B0) := by
  refine kMet (cc := cX3_mostNeighbours) (maxL := 3) (ret := (some .int)) (by decide) rfl (Nat.le_of_ble_eq_true rfl) ?_
  intro p e s m args below meth c H locs Q ls C hX hl hr hlocks hnm hQ
  have hl : lv_has ls 3 [(0, .ref h)] := hl
  refine lv_iconst (v := nI 0) C.x C.b dX3_mostNeighbours_0 (by decide) ?_
  refine lv_istore_n (lv' := [(1, .int (nI 0)), (0, .ref h)]) C.x C.b dX3_mostNeighbours_1 rfl hl (by decide) rfl (fun ls hl => ?_)
  refine lv_iconst (v := nI 0) C.x C.b dX3_mostNeighbours_2 (by decide) ?_
  refine lv_istore_n (lv' := [(2, .int (nI 0)), (1, .int (nI 0)), (0, .ref h)]) C.x C.b dX3_mostNeighbours_3 rfl hl (by decide) rfl (fun ls hl => ?_)
  have LOOP4 : ∀ (n : Nat) (k : Nat), (k ≤ cc) → (cc - k) < n → ∀ (ls : Array Slot), lv_has ls 3 [(1, .int (nI (nMost aN fc k))), (2, .int (nI k)), (0, .ref h)] → ∀ (H : Heap) (locs : List Loc), kX G B0 s f H locs → W p l e (rmX3_mostNeighbours) s m args below meth c H locs 0 0 Q (F0 m 4 ls []) := by
    intro n4
    induction n4 with
    | zero => intro k hk hn; exact absurd hn (Nat.not_lt_zero _)
    | succ n4 ih4 =>
      intro k hk hn ls hl H locs hX
      refine lv_iload_n C.x C.b dX3_mostNeighbours_4 rfl (lv_at hl 1 rfl) ?_
      refine lv_aload_n C.x C.b dX3_mostNeighbours_5 rfl (lv_at hl 2 rfl) ?_
      refine k_get (X := RX3) (T := TX3) (N := 4) (v := .int (nI cc)) C hX (hM.at 0 rfl) rfl hin_X3_mostNeighbours_RX3 2 (by decide) lk_X3_mostNeighbours_f24 (fun _ h9 => h9) rfl dX3_mostNeighbours_6 ?_
      refine lv_icmp_ge (tgt := 28) C.x C.b dX3_mostNeighbours_9 (by decide) (fun c_9 => ?_) (fun c_9 => ?_)
      · skip
        have c_9 : cc ≤ k := (nI_leI (by omega) (by omega)).mp c_9
        refine lv_iload_n C.x C.b dX3_mostNeighbours_28 rfl (lv_at hl 0 rfl) ?_
        exact k_iret C hX hr hlocks hQ (by omega) (by omega) (⟨congrArg (fun z => nI (nMost aN fc z)) (by omega), rfl⟩) dX3_mostNeighbours_29
      · skip
        have c_9 : ¬ (cc ≤ k) := fun h9 => c_9 ((nI_leI (by omega) (by omega)).mpr h9)
        refine lv_iload_n C.x C.b dX3_mostNeighbours_12 rfl (lv_at hl 0 rfl) ?_
        refine lv_aload_n C.x C.b dX3_mostNeighbours_13 rfl (lv_at hl 2 rfl) ?_
        refine lv_iload_n C.x C.b dX3_mostNeighbours_14 rfl (lv_at hl 1 rfl) ?_
        refine k_calli (va_runV (As := [.int (nI k)]) (rest := [.int (nI (nMost aN fc k))]) C.1 (kX3_facesAt l G B0 f h nA tA aN aT cc fc (nI k) hM hc9 hF9) (cwV 1 C.ts gX3_mostNeighbours_X3_facesAt rfl rfl rfl ⟨rfl, hdX3_mostNeighbours_X3_facesAt⟩ ⟨Nat.le_of_ble_eq_true rfl, Nat.le_of_ble_eq_true rfl⟩) (k_preV C hX (hM.at 0 rfl) rfl) rfl rfl hl.1 rfl (lv_room (Nat.le_of_ble_eq_true rfl)) dX3_mostNeighbours_15 ⟨Nat.le_of_ble_eq_true rfl, Nat.le_of_ble_eq_true rfl⟩) hX (fun r15 f15 H locs hp15 hX => ?_)
        obtain ⟨hr15, hf15⟩ := hp15
        rw [hf15] at hX
        refine k_topi (y := (nI (nAt aN (nI k) (3 * fc)))) hr15 ?_
        refine k_mmax C (by rw [C.ml]; exact hl.1.symm) lk_X3_mostNeighbours_lib68 (Nat.le_of_ble_eq_true rfl) (Nat.le_of_ble_eq_true rfl) (by have h9 : rmX3_mostNeighbours.cells = 0 := rfl; omega) (by have h9 : rmX3_mostNeighbours.slots = 0 := rfl; omega) dX3_mostNeighbours_18 ?_
        have h1 := nMost_le aN fc k
        have h2 : nAt aN (nI k) (3 * fc) ≤ 3 * fc := kCnt_le _ _
        refine k_topi (y := (nI (nMost aN fc (k + 1)))) (by simp only [nI_ltI (show nMost aN fc k < 2 ^ 31 by omega) (show nAt aN (nI k) (3 * fc) < 2 ^ 31 by omega), nMost]; split <;> rfl) ?_
        refine lv_istore_n (lv' := [(1, .int (nI (nMost aN fc (k + 1)))), (2, .int (nI k)), (0, .ref h)]) C.x C.b dX3_mostNeighbours_21 rfl hl (by decide) rfl (fun ls hl => ?_)
        refine lv_iinc (v := (nI (k + 1))) (lv' := [(2, .int (nI (k + 1))), (1, .int (nI (nMost aN fc (k + 1)))), (0, .ref h)]) C.x C.b dX3_mostNeighbours_22 hl (k := 1) rfl (nI_1 _) (by decide) rfl (fun ls hl => ?_)
        refine lv_goto (tgt := 4) C.x C.b dX3_mostNeighbours_25 (by decide) ?_
        exact ih4 (k + 1) (by omega) (by omega) ls (lv_sub hl [1, 0, 2] rfl) _ _ hX
  exact LOOP4 _ 0 (by omega) (Nat.lt_succ_self _) ls (lv_sub hl [1, 0, 2] rfl) _ _ hX

theorem lk_X3_lowestNeighbour_f24 : Cond.fieldLink RX3 24 "Koebehall$Net" "cornerCount" "I" ∈ wsX3_lowestNeighbour := by decide +kernel
theorem hin_X3_lowestNeighbour_RX3 : ∀ w ∈ u_ws RX3 TX3 4, w ∈ wsX3_lowestNeighbour := by decide +kernel
theorem hdX3_lowestNeighbour_X3_areNeighbours : yX3_areNeighbours.cls ≠ "java/lang/invoke/MethodHandle" ∧ yX3_areNeighbours.cls ≠ "java/lang/invoke/VarHandle" ∧ (parseMethodDescriptor yX3_areNeighbours.desc).map (fun d => d.parameters.length) = some 2 := by decide +kernel
abbrev rmX3_lowestNeighbour : Room := { frames := 3, cells := 0, slots := 0, locals := 65 }
set_option maxHeartbeats 4000000 in
set_option maxRecDepth 100000 in
/-- X3_lowestNeighbour -/
theorem kX3_lowestNeighbour (l : Launch) (G : kG) (B0 : Nat) (f : kH) (h nA tA : Nat) (aN aT : Nat → Int32) (cc fc : Nat) (a : Int32) (hM : kCs f (nW G h nA tA aN aT cc fc)) (hc9 : cc ≤ 16) (hF9 : fc ≤ 28) : Met l yX3_lowestNeighbour wsX3_lowestNeighbour (rmX3_lowestNeighbour) (kP G B0 f [.ref h, .int a]) (kQi G B0 (fun r f1 => r = nLow aT cc a cc 0 ∧ f1 = f)) 0 0 (kAb B0) := by
  refine kMet (cc := cX3_lowestNeighbour) (maxL := 3) (ret := (some .int)) (by decide) rfl (Nat.le_of_ble_eq_true rfl) ?_
  intro p e s m args below meth c H locs Q ls C hX hl hr hlocks hnm hQ
  have hl : lv_has ls 3 [(0, .ref h), (1, .int a)] := hl
  refine lv_iconst (v := nI 0) C.x C.b dX3_lowestNeighbour_0 (by decide) ?_
  refine lv_istore_n (lv' := [(2, .int (nI 0)), (0, .ref h), (1, .int a)]) C.x C.b dX3_lowestNeighbour_1 rfl hl (by decide) rfl (fun ls hl => ?_)
  have LOOP2 : ∀ (n : Nat) (k : Nat), (k ≤ cc) → (nLow aT cc a (cc - k) k = nLow aT cc a cc 0) → (cc - k) < n → ∀ (ls : Array Slot), lv_has ls 3 [(2, .int (nI k)), (0, .ref h), (1, .int a)] → ∀ (H : Heap) (locs : List Loc), kX G B0 s f H locs → W p l e (rmX3_lowestNeighbour) s m args below meth c H locs 0 0 Q (F0 m 2 ls []) := by
    intro n2
    induction n2 with
    | zero => intro k hk hv hn; exact absurd hn (Nat.not_lt_zero _)
    | succ n2 ih2 =>
      intro k hk hv hn ls hl H locs hX
      refine lv_iload_n C.x C.b dX3_lowestNeighbour_2 rfl (lv_at hl 0 rfl) ?_
      refine lv_aload_n C.x C.b dX3_lowestNeighbour_3 rfl (lv_at hl 1 rfl) ?_
      refine k_get (X := RX3) (T := TX3) (N := 4) (v := .int (nI cc)) C hX (hM.at 0 rfl) rfl hin_X3_lowestNeighbour_RX3 2 (by decide) lk_X3_lowestNeighbour_f24 (fun _ h9 => h9) rfl dX3_lowestNeighbour_4 ?_
      refine lv_icmp_ge (tgt := 27) C.x C.b dX3_lowestNeighbour_7 (by decide) (fun c_7 => ?_) (fun c_7 => ?_)
      · skip
        have c_7 : cc ≤ k := (nI_leI (by omega) (by omega)).mp c_7
        refine lv_iconst (v := -1) C.x C.b dX3_lowestNeighbour_27 (by decide) ?_
        exact k_iret C hX hr hlocks hQ (by omega) (by omega) (by refine ⟨?_, rfl⟩; first | (rw [← hv, show cc - k = (cc - (k + 1)) + 1 by omega, nLow, if_pos c_16]; done) | (rw [← hv, show cc - k = 0 by omega, nLow]; done)) dX3_lowestNeighbour_28
      · skip
        have c_7 : ¬ (cc ≤ k) := fun h9 => c_7 ((nI_leI (by omega) (by omega)).mpr h9)
        refine lv_aload_n C.x C.b dX3_lowestNeighbour_10 rfl (lv_at hl 1 rfl) ?_
        refine lv_iload_n C.x C.b dX3_lowestNeighbour_11 rfl (lv_at hl 2 rfl) ?_
        refine lv_iload_n C.x C.b dX3_lowestNeighbour_12 rfl (lv_at hl 0 rfl) ?_
        refine k_calli (va_runV (As := [.int a, .int (nI k)]) (rest := []) C.1 (kX3_areNeighbours l G B0 f h nA tA aN aT cc fc a (nI k) hM hc9 hF9) (cwV 2 C.ts gX3_lowestNeighbour_X3_areNeighbours rfl rfl rfl ⟨rfl, hdX3_lowestNeighbour_X3_areNeighbours⟩ ⟨Nat.le_of_ble_eq_true rfl, Nat.le_of_ble_eq_true rfl⟩) (k_preV C hX (hM.at 0 rfl) rfl) rfl rfl hl.1 rfl (lv_room (Nat.le_of_ble_eq_true rfl)) dX3_lowestNeighbour_13 ⟨Nat.le_of_ble_eq_true rfl, Nat.le_of_ble_eq_true rfl⟩) hX (fun r13 f13 H locs hp13 hX => ?_)
        obtain ⟨hr13, hf13⟩ := hp13
        rw [hf13] at hX
        refine k_topi (y := (kbI (nAdj aT cc a (nI k)))) hr13 ?_
        refine lv_if_eq (tgt := 21) C.x C.b dX3_lowestNeighbour_16 (by decide) (fun c_16 => ?_) (fun c_16 => ?_)
        · skip
          have c_16 := kbI_0 c_16
          refine lv_iinc (v := (nI (k + 1))) (lv' := [(2, .int (nI (k + 1))), (0, .ref h), (1, .int a)]) C.x C.b dX3_lowestNeighbour_21 hl (k := 0) rfl (nI_1 _) (by decide) rfl (fun ls hl => ?_)
          refine lv_goto (tgt := 2) C.x C.b dX3_lowestNeighbour_24 (by decide) ?_
          exact ih2 (k + 1) (by omega) (by rw [← hv, show cc - k = (cc - (k + 1)) + 1 by omega, nLow, if_neg c_16]) (by omega) ls (lv_sub hl [0, 1, 2] rfl) _ _ hX
        · skip
          have c_16 := kbI_1 c_16
          refine lv_iload_n C.x C.b dX3_lowestNeighbour_19 rfl (lv_at hl 0 rfl) ?_
          exact k_iret C hX hr hlocks hQ (by omega) (by omega) (by refine ⟨?_, rfl⟩; first | (rw [← hv, show cc - k = (cc - (k + 1)) + 1 by omega, nLow, if_pos c_16]; done) | (rw [← hv, show cc - k = 0 by omega, nLow]; done)) dX3_lowestNeighbour_20
  exact LOOP2 _ 0 (by omega) rfl (Nat.lt_succ_self _) ls (lv_sub hl [0, 1, 2] rfl) _ _ hX

theorem hdX3_neighbourAt_X3_lowestNeighbour : yX3_lowestNeighbour.cls ≠ "java/lang/invoke/MethodHandle" ∧ yX3_lowestNeighbour.cls ≠ "java/lang/invoke/VarHandle" ∧ (parseMethodDescriptor yX3_lowestNeighbour.desc).map (fun d => d.parameters.length) = some 1 := by decide +kernel
theorem hdX3_neighbourAt_X3_thirdOf : yX3_thirdOf.cls ≠ "java/lang/invoke/MethodHandle" ∧ yX3_thirdOf.cls ≠ "java/lang/invoke/VarHandle" ∧ (parseMethodDescriptor yX3_thirdOf.desc).map (fun d => d.parameters.length) = some 2 := by decide +kernel
abbrev rmX3_neighbourAt : Room := { frames := 4, cells := 0, slots := 0, locals := 87 }
set_option maxHeartbeats 4000000 in
set_option maxRecDepth 100000 in
/-- X3_neighbourAt -/
theorem kX3_neighbourAt (l : Launch) (G : kG) (B0 : Nat) (f : kH) (h nA tA : Nat) (aN aT : Nat → Int32) (cc fc : Nat) (a : Int32) (b : Nat) (hM : kCs f (nW G h nA tA aN aT cc fc)) (hc9 : cc ≤ 16) (hF9 : fc ≤ 28) (hb : b < 2 ^ 31) : Met l yX3_neighbourAt wsX3_neighbourAt (rmX3_neighbourAt) (kP G B0 f [.ref h, .int a, .int (nI b)]) (kQi G B0 (fun r f1 => r = nAro aT cc a b ∧ f1 = f)) 0 0 (kAb B0) := by
  refine kMet (cc := cX3_neighbourAt) (maxL := 6) (ret := (some .int)) (by decide) rfl (Nat.le_of_ble_eq_true rfl) ?_
  intro p e s m args below meth c H locs Q ls C hX hl hr hlocks hnm hQ
  have hl : lv_has ls 6 [(0, .ref h), (1, .int a), (2, .int (nI b))] := hl
  refine lv_iload_n C.x C.b dX3_neighbourAt_0 rfl (lv_at hl 2 rfl) ?_
  refine lv_bipush (v := nI 16) C.x C.b dX3_neighbourAt_1 (by decide) ?_
  refine lv_icmp_lt (tgt := 8) C.x C.b dX3_neighbourAt_3 (by decide) (fun c_3 => ?_) (fun c_3 => ?_)
  · skip
    have c_3 : b < 16 := (nI_ltI (by omega) (by omega)).mp c_3
    refine lv_aload_n C.x C.b dX3_neighbourAt_8 rfl (lv_at hl 0 rfl) ?_
    refine lv_iload_n C.x C.b dX3_neighbourAt_9 rfl (lv_at hl 1 rfl) ?_
    refine k_calli (va_runV (As := [.int a]) (rest := []) C.1 (kX3_lowestNeighbour l G B0 f h nA tA aN aT cc fc a hM hc9 hF9) (cwV 1 C.ts gX3_neighbourAt_X3_lowestNeighbour rfl rfl rfl ⟨rfl, hdX3_neighbourAt_X3_lowestNeighbour⟩ ⟨Nat.le_of_ble_eq_true rfl, Nat.le_of_ble_eq_true rfl⟩) (k_preV C hX (hM.at 0 rfl) rfl) rfl rfl hl.1 rfl (lv_room (Nat.le_of_ble_eq_true rfl)) dX3_neighbourAt_10 ⟨Nat.le_of_ble_eq_true rfl, Nat.le_of_ble_eq_true rfl⟩) hX (fun r10 f10 H locs hp10 hX => ?_)
    obtain ⟨hr10, hf10⟩ := hp10
    rw [hf10] at hX
    refine k_topi (y := (nLow aT cc a cc 0)) hr10 ?_
    refine lv_istore_n (lv' := [(3, .int (nLow aT cc a cc 0)), (0, .ref h), (1, .int a), (2, .int (nI b))]) C.x C.b dX3_neighbourAt_13 rfl hl (by decide) rfl (fun ls hl => ?_)
    refine lv_iload_n C.x C.b dX3_neighbourAt_14 rfl (lv_at hl 0 rfl) ?_
    refine lv_istore (lv' := [(4, .int (nLow aT cc a cc 0)), (3, .int (nLow aT cc a cc 0)), (0, .ref h), (1, .int a), (2, .int (nI b))]) C.x C.b dX3_neighbourAt_15 hl (by decide) rfl (fun ls hl => ?_)
    refine lv_iconst (v := nI 0) C.x C.b dX3_neighbourAt_17 (by decide) ?_
    refine lv_istore (lv' := [(5, .int (nI 0)), (4, .int (nLow aT cc a cc 0)), (3, .int (nLow aT cc a cc 0)), (0, .ref h), (1, .int a), (2, .int (nI b))]) C.x C.b dX3_neighbourAt_18 hl (by decide) rfl (fun ls hl => ?_)
    have LOOP20 : ∀ (n : Nat) (k : Nat) (x : Int32), (k ≤ b) → (nNb aT cc a (nLow aT cc a cc 0) (b - k) x = nAro aT cc a b) → (b - k) < n → ∀ (ls : Array Slot), lv_has ls 6 [(4, .int x), (5, .int (nI k)), (3, .int (nLow aT cc a cc 0)), (0, .ref h), (1, .int a), (2, .int (nI b))] → ∀ (H : Heap) (locs : List Loc), kX G B0 s f H locs → W p l e (rmX3_neighbourAt) s m args below meth c H locs 0 0 Q (F0 m 20 ls []) := by
      intro n20
      induction n20 with
      | zero => intro k x hk hv hn; exact absurd hn (Nat.not_lt_zero _)
      | succ n20 ih20 =>
        intro k x hk hv hn ls hl H locs hX
        refine lv_iload C.x C.b dX3_neighbourAt_20 (lv_at hl 1 rfl) ?_
        refine lv_iload_n C.x C.b dX3_neighbourAt_22 rfl (lv_at hl 5 rfl) ?_
        refine lv_icmp_ge (tgt := 55) C.x C.b dX3_neighbourAt_23 (by decide) (fun c_23 => ?_) (fun c_23 => ?_)
        · skip
          have c_23 : b ≤ k := (nI_leI (by omega) (by omega)).mp c_23
          refine lv_iload C.x C.b dX3_neighbourAt_55 (lv_at hl 0 rfl) ?_
          exact k_iret C hX hr hlocks hQ (by omega) (by omega) (by refine ⟨?_, rfl⟩; first | (rw [nAro, if_pos (by omega)]; done) | (rw [← hv, show b - k = (b - (k + 1)) + 1 by omega, nNb, if_pos (Or.inl c_38)]; done) | (rw [← hv, show b - k = (b - (k + 1)) + 1 by omega, nNb, if_pos (Or.inr c_44)]; done) | (rw [← hv, show b - k = 0 by omega, nNb]; done)) dX3_neighbourAt_57
        · skip
          have c_23 : ¬ (b ≤ k) := fun h9 => c_23 ((nI_leI (by omega) (by omega)).mpr h9)
          refine lv_aload_n C.x C.b dX3_neighbourAt_26 rfl (lv_at hl 3 rfl) ?_
          refine lv_iload_n C.x C.b dX3_neighbourAt_27 rfl (lv_at hl 4 rfl) ?_
          refine lv_iload C.x C.b dX3_neighbourAt_28 (lv_at hl 0 rfl) ?_
          refine k_calli (va_runV (As := [.int a, .int x]) (rest := []) C.1 (kX3_thirdOf l G B0 f h nA tA aN aT cc fc a x hM hc9 hF9) (cwV 2 C.ts gX3_neighbourAt_X3_thirdOf rfl rfl rfl ⟨rfl, hdX3_neighbourAt_X3_thirdOf⟩ ⟨Nat.le_of_ble_eq_true rfl, Nat.le_of_ble_eq_true rfl⟩) (k_preV C hX (hM.at 0 rfl) rfl) rfl rfl hl.1 rfl (lv_room (Nat.le_of_ble_eq_true rfl)) dX3_neighbourAt_30 ⟨Nat.le_of_ble_eq_true rfl, Nat.le_of_ble_eq_true rfl⟩) hX (fun r30 f30 H locs hp30 hX => ?_)
          obtain ⟨hr30, hf30⟩ := hp30
          rw [hf30] at hX
          refine k_topi (y := (nThird aT cc a x)) hr30 ?_
          refine lv_istore (lv' := [(4, .int (nThird aT cc a x)), (5, .int (nI k)), (3, .int (nLow aT cc a cc 0)), (0, .ref h), (1, .int a), (2, .int (nI b))]) C.x C.b dX3_neighbourAt_33 hl (by decide) rfl (fun ls hl => ?_)
          refine lv_iload C.x C.b dX3_neighbourAt_35 (lv_at hl 0 rfl) ?_
          refine lv_iload_n C.x C.b dX3_neighbourAt_37 rfl (lv_at hl 2 rfl) ?_
          refine lv_icmp_eq (tgt := 47) C.x C.b dX3_neighbourAt_38 (by decide) (fun c_38 => ?_) (fun c_38 => ?_)
          · skip
            refine lv_iconst (v := -1) C.x C.b dX3_neighbourAt_47 (by decide) ?_
            exact k_iret C hX hr hlocks hQ (by omega) (by omega) (by refine ⟨?_, rfl⟩; first | (rw [nAro, if_pos (by omega)]; done) | (rw [← hv, show b - k = (b - (k + 1)) + 1 by omega, nNb, if_pos (Or.inl c_38)]; done) | (rw [← hv, show b - k = (b - (k + 1)) + 1 by omega, nNb, if_pos (Or.inr c_44)]; done) | (rw [← hv, show b - k = 0 by omega, nNb]; done)) dX3_neighbourAt_48
          · skip
            refine lv_iload C.x C.b dX3_neighbourAt_41 (lv_at hl 0 rfl) ?_
            refine lv_iconst (v := -1) C.x C.b dX3_neighbourAt_43 (by decide) ?_
            refine lv_icmp_ne (tgt := 49) C.x C.b dX3_neighbourAt_44 (by decide) (fun c_44 => ?_) (fun c_44 => ?_)
            · skip
              refine lv_iinc (v := (nI (k + 1))) (lv' := [(5, .int (nI (k + 1))), (4, .int (nThird aT cc a x)), (3, .int (nLow aT cc a cc 0)), (0, .ref h), (1, .int a), (2, .int (nI b))]) C.x C.b dX3_neighbourAt_49 hl (k := 1) rfl (nI_1 _) (by decide) rfl (fun ls hl => ?_)
              refine lv_goto (tgt := 20) C.x C.b dX3_neighbourAt_52 (by decide) ?_
              exact ih20 (k + 1) (nThird aT cc a x) (by omega) (by rw [← hv, show b - k = (b - (k + 1)) + 1 by omega, nNb, if_neg (fun h9 => h9.elim c_38 c_44)]) (by omega) ls (lv_sub hl [1, 0, 2, 3, 4, 5] rfl) _ _ hX
            · skip
              refine lv_iconst (v := -1) C.x C.b dX3_neighbourAt_47 (by decide) ?_
              exact k_iret C hX hr hlocks hQ (by omega) (by omega) (by refine ⟨?_, rfl⟩; first | (rw [nAro, if_pos (by omega)]; done) | (rw [← hv, show b - k = (b - (k + 1)) + 1 by omega, nNb, if_pos (Or.inl c_38)]; done) | (rw [← hv, show b - k = (b - (k + 1)) + 1 by omega, nNb, if_pos (Or.inr c_44)]; done) | (rw [← hv, show b - k = 0 by omega, nNb]; done)) dX3_neighbourAt_48
    exact LOOP20 _ 0 (nLow aT cc a cc 0) (by omega) (by rw [nAro, if_neg (by omega)] <;> rfl) (Nat.lt_succ_self _) ls (lv_sub hl [1, 0, 2, 3, 4, 5] rfl) _ _ hX
  · skip
    have c_3 : ¬ (b < 16) := fun h9 => c_3 ((nI_ltI (by omega) (by omega)).mpr h9)
    refine lv_iconst (v := -1) C.x C.b dX3_neighbourAt_6 (by decide) ?_
    exact k_iret C hX hr hlocks hQ (by omega) (by omega) (by refine ⟨?_, rfl⟩; first | (rw [nAro, if_pos (by omega)]; done) | (rw [← hv, show b - k = (b - (k + 1)) + 1 by omega, nNb, if_pos (Or.inl c_38)]; done) | (rw [← hv, show b - k = (b - (k + 1)) + 1 by omega, nNb, if_pos (Or.inr c_44)]; done) | (rw [← hv, show b - k = 0 by omega, nNb]; done)) dX3_neighbourAt_7

theorem lk_X3_flippableCount_f24 : Cond.fieldLink RX3 24 "Koebehall$Net" "cornerCount" "I" ∈ wsX3_flippableCount := by decide +kernel
theorem hin_X3_flippableCount_RX3 : ∀ w ∈ u_ws RX3 TX3 4, w ∈ wsX3_flippableCount := by decide +kernel
theorem hdX3_flippableCount_X3_canFlip : yX3_canFlip.cls ≠ "java/lang/invoke/MethodHandle" ∧ yX3_canFlip.cls ≠ "java/lang/invoke/VarHandle" ∧ (parseMethodDescriptor yX3_canFlip.desc).map (fun d => d.parameters.length) = some 2 := by decide +kernel
abbrev rmX3_flippableCount : Room := { frames := 4, cells := 0, slots := 0, locals := 87 }
set_option maxHeartbeats 4000000 in
set_option maxRecDepth 100000 in
/-- X3_flippableCount -/
theorem kX3_flippableCount (l : Launch) (G : kG) (B0 : Nat) (f : kH) (h nA tA : Nat) (aN aT : Nat → Int32) (cc fc : Nat) (hM : kCs f (nW G h nA tA aN aT cc fc)) (hc9 : cc ≤ 16) (hF9 : fc ≤ 28) (hc4 : 4 ≤ cc) : Met l yX3_flippableCount wsX3_flippableCount (rmX3_flippableCount) (kP G B0 f [.ref h]) (kQi G B0 (fun r f1 => r = nI (kCnt2 (fun x9 y9 => nCanFlip aT cc (nI y9) (nI x9)) cc) ∧ f1 = f)) 0 0 (kAb B0) := by
  refine kMet (cc := cX3_flippableCount) (maxL := 4) (ret := (some .int)) (by decide) rfl (Nat.le_of_ble_eq_true rfl) ?_
  intro p e s m args below meth c H locs Q ls C hX hl hr hlocks hnm hQ
  have hl : lv_has ls 4 [(0, .ref h)] := hl
  refine lv_iconst (v := nI 0) C.x C.b dX3_flippableCount_0 (by decide) ?_
  refine lv_istore_n (lv' := [(1, .int (nI 0)), (0, .ref h)]) C.x C.b dX3_flippableCount_1 rfl hl (by decide) rfl (fun ls hl => ?_)
  refine lv_iconst (v := nI 1) C.x C.b dX3_flippableCount_2 (by decide) ?_
  refine lv_istore_n (lv' := [(2, .int (nI 1)), (1, .int (nI 0)), (0, .ref h)]) C.x C.b dX3_flippableCount_3 rfl hl (by decide) rfl (fun ls hl => ?_)
  rw [show (nI 0) = (nI (kCnt2 (fun x9 y9 => nCanFlip aT cc (nI y9) (nI x9)) 1)) from rfl] at hl
  have LOOP4 : ∀ (n : Nat) (u : Nat), (u ≤ cc ∨ u = 1) → (1 ≤ u) → (cc - u) < n → ∀ (ls : Array Slot), lv_has ls 4 [(1, .int (nI (kCnt2 (fun x9 y9 => nCanFlip aT cc (nI y9) (nI x9)) u))), (2, .int (nI u)), (0, .ref h)] → ∀ (H : Heap) (locs : List Loc), kX G B0 s f H locs → W p l e (rmX3_flippableCount) s m args below meth c H locs 0 0 Q (F0 m 4 ls []) := by
    intro n4
    induction n4 with
    | zero => intro u hu hu1 hn; exact absurd hn (Nat.not_lt_zero _)
    | succ n4 ih4 =>
      intro u hu hu1 hn ls hl H locs hX
      refine lv_iload_n C.x C.b dX3_flippableCount_4 rfl (lv_at hl 1 rfl) ?_
      refine lv_aload_n C.x C.b dX3_flippableCount_5 rfl (lv_at hl 2 rfl) ?_
      refine k_get (X := RX3) (T := TX3) (N := 4) (v := .int (nI cc)) C hX (hM.at 0 rfl) rfl hin_X3_flippableCount_RX3 2 (by decide) lk_X3_flippableCount_f24 (fun _ h9 => h9) rfl dX3_flippableCount_6 ?_
      refine lv_icmp_ge (tgt := 43) C.x C.b dX3_flippableCount_9 (by decide) (fun c_9 => ?_) (fun c_9 => ?_)
      · skip
        have c_9 : cc ≤ u := (nI_leI (by omega) (by omega)).mp c_9
        refine lv_iload_n C.x C.b dX3_flippableCount_43 rfl (lv_at hl 0 rfl) ?_
        exact k_iret C hX hr hlocks hQ (by omega) (by omega) (⟨congrArg (fun z => nI (kCnt2 (fun x9 y9 => nCanFlip aT cc (nI y9) (nI x9)) z)) (by omega), rfl⟩) dX3_flippableCount_44
      · skip
        have c_9 : ¬ (cc ≤ u) := fun h9 => c_9 ((nI_leI (by omega) (by omega)).mpr h9)
        refine lv_iconst (v := nI 0) C.x C.b dX3_flippableCount_12 (by decide) ?_
        refine lv_istore_n (lv' := [(3, .int (nI 0)), (1, .int (nI (kCnt2 (fun x9 y9 => nCanFlip aT cc (nI y9) (nI x9)) u))), (2, .int (nI u)), (0, .ref h)]) C.x C.b dX3_flippableCount_13 rfl hl (by decide) rfl (fun ls hl => ?_)
        have LOOP14 : ∀ (n : Nat) (v : Nat), (v ≤ u) → (u - v) < n → ∀ (ls : Array Slot), lv_has ls 4 [(1, .int (nI (kCnt2 (fun x9 y9 => nCanFlip aT cc (nI y9) (nI x9)) u + kCnt ((fun x9 y9 => nCanFlip aT cc (nI y9) (nI x9)) u) v))), (3, .int (nI v)), (2, .int (nI u)), (0, .ref h)] → ∀ (H : Heap) (locs : List Loc), kX G B0 s f H locs → W p l e (rmX3_flippableCount) s m args below meth c H locs 0 0 Q (F0 m 14 ls []) := by
          intro n14
          induction n14 with
          | zero => intro v hv hn; exact absurd hn (Nat.not_lt_zero _)
          | succ n14 ih14 =>
            intro v hv hn ls hl H locs hX
            refine lv_iload_n C.x C.b dX3_flippableCount_14 rfl (lv_at hl 1 rfl) ?_
            refine lv_iload_n C.x C.b dX3_flippableCount_15 rfl (lv_at hl 2 rfl) ?_
            refine lv_icmp_ge (tgt := 37) C.x C.b dX3_flippableCount_16 (by decide) (fun c_16 => ?_) (fun c_16 => ?_)
            · skip
              have c_16 : u ≤ v := (nI_leI (by omega) (by omega)).mp c_16
              refine lv_iinc (v := (nI (u + 1))) (lv' := [(2, .int (nI (u + 1))), (1, .int (nI (kCnt2 (fun x9 y9 => nCanFlip aT cc (nI y9) (nI x9)) u + kCnt ((fun x9 y9 => nCanFlip aT cc (nI y9) (nI x9)) u) v))), (3, .int (nI v)), (0, .ref h)]) C.x C.b dX3_flippableCount_37 hl (k := 2) rfl (nI_1 _) (by decide) rfl (fun ls hl => ?_)
              refine lv_goto (tgt := 4) C.x C.b dX3_flippableCount_40 (by decide) ?_
              rw [show (nI (kCnt2 (fun x9 y9 => nCanFlip aT cc (nI y9) (nI x9)) u + kCnt ((fun x9 y9 => nCanFlip aT cc (nI y9) (nI x9)) u) v)) = (nI (kCnt2 (fun x9 y9 => nCanFlip aT cc (nI y9) (nI x9)) (u + 1))) from by rw [show v = u by omega]; rfl] at hl
              exact ih4 (u + 1) (by omega) (by omega) (by omega) ls (lv_sub hl [1, 0, 3] rfl) _ _ hX
            · skip
              have c_16 : ¬ (u ≤ v) := fun h9 => c_16 ((nI_leI (by omega) (by omega)).mpr h9)
              refine lv_aload_n C.x C.b dX3_flippableCount_19 rfl (lv_at hl 3 rfl) ?_
              refine lv_iload_n C.x C.b dX3_flippableCount_20 rfl (lv_at hl 1 rfl) ?_
              refine lv_iload_n C.x C.b dX3_flippableCount_21 rfl (lv_at hl 2 rfl) ?_
              refine k_calli (va_runV (As := [.int (nI v), .int (nI u)]) (rest := []) C.1 (kX3_canFlip l G B0 f h nA tA aN aT cc fc (nI v) (nI u) hM hc9 hF9) (cwV 2 C.ts gX3_flippableCount_X3_canFlip rfl rfl rfl ⟨rfl, hdX3_flippableCount_X3_canFlip⟩ ⟨Nat.le_of_ble_eq_true rfl, Nat.le_of_ble_eq_true rfl⟩) (k_preV C hX (hM.at 0 rfl) rfl) rfl rfl hl.1 rfl (lv_room (Nat.le_of_ble_eq_true rfl)) dX3_flippableCount_22 ⟨Nat.le_of_ble_eq_true rfl, Nat.le_of_ble_eq_true rfl⟩) hX (fun r22 f22 H locs hp22 hX => ?_)
              obtain ⟨hr22, hf22⟩ := hp22
              rw [hf22] at hX
              refine k_topi (y := (kbI (nCanFlip aT cc (nI v) (nI u)))) hr22 ?_
              refine lv_if_eq (tgt := 31) C.x C.b dX3_flippableCount_25 (by decide) (fun c_25 => ?_) (fun c_25 => ?_)
              · skip
                have c_25 := kbI_0 c_25
                refine lv_iinc (v := (nI (v + 1))) (lv' := [(3, .int (nI (v + 1))), (1, .int (nI (kCnt2 (fun x9 y9 => nCanFlip aT cc (nI y9) (nI x9)) u + kCnt ((fun x9 y9 => nCanFlip aT cc (nI y9) (nI x9)) u) v))), (2, .int (nI u)), (0, .ref h)]) C.x C.b dX3_flippableCount_31 hl (k := 1) rfl (nI_1 _) (by decide) rfl (fun ls hl => ?_)
                refine lv_goto (tgt := 14) C.x C.b dX3_flippableCount_34 (by decide) ?_
                rw [show (nI (kCnt2 (fun x9 y9 => nCanFlip aT cc (nI y9) (nI x9)) u + kCnt ((fun x9 y9 => nCanFlip aT cc (nI y9) (nI x9)) u) v)) = (nI (kCnt2 (fun x9 y9 => nCanFlip aT cc (nI y9) (nI x9)) u + kCnt ((fun x9 y9 => nCanFlip aT cc (nI y9) (nI x9)) u) (v + 1))) from by first | exact kCnt_p2 _ _ c_25 | exact kCnt_n2 _ _ c_25] at hl
                exact ih14 (v + 1) (by omega) (by omega) ls (lv_sub hl [1, 0, 2, 3] rfl) _ _ hX
              · skip
                have c_25 := kbI_1 c_25
                refine lv_iinc (v := (nI (kCnt2 (fun x9 y9 => nCanFlip aT cc (nI y9) (nI x9)) u + kCnt ((fun x9 y9 => nCanFlip aT cc (nI y9) (nI x9)) u) v + 1))) (lv' := [(1, .int (nI (kCnt2 (fun x9 y9 => nCanFlip aT cc (nI y9) (nI x9)) u + kCnt ((fun x9 y9 => nCanFlip aT cc (nI y9) (nI x9)) u) v + 1))), (3, .int (nI v)), (2, .int (nI u)), (0, .ref h)]) C.x C.b dX3_flippableCount_28 hl (k := 0) rfl (nI_1 _) (by decide) rfl (fun ls hl => ?_)
                refine lv_iinc (v := (nI (v + 1))) (lv' := [(3, .int (nI (v + 1))), (1, .int (nI (kCnt2 (fun x9 y9 => nCanFlip aT cc (nI y9) (nI x9)) u + kCnt ((fun x9 y9 => nCanFlip aT cc (nI y9) (nI x9)) u) v + 1))), (2, .int (nI u)), (0, .ref h)]) C.x C.b dX3_flippableCount_31 hl (k := 1) rfl (nI_1 _) (by decide) rfl (fun ls hl => ?_)
                refine lv_goto (tgt := 14) C.x C.b dX3_flippableCount_34 (by decide) ?_
                rw [show (nI (kCnt2 (fun x9 y9 => nCanFlip aT cc (nI y9) (nI x9)) u + kCnt ((fun x9 y9 => nCanFlip aT cc (nI y9) (nI x9)) u) v + 1)) = (nI (kCnt2 (fun x9 y9 => nCanFlip aT cc (nI y9) (nI x9)) u + kCnt ((fun x9 y9 => nCanFlip aT cc (nI y9) (nI x9)) u) (v + 1))) from by first | exact kCnt_p2 _ _ c_25 | exact kCnt_n2 _ _ c_25] at hl
                exact ih14 (v + 1) (by omega) (by omega) ls (lv_sub hl [1, 0, 2, 3] rfl) _ _ hX
        exact LOOP14 _ 0 (by omega) (Nat.lt_succ_self _) ls (lv_sub hl [1, 0, 2, 3] rfl) _ _ hX
  exact LOOP4 _ 1 (by omega) (by omega) (Nat.lt_succ_self _) ls (lv_sub hl [1, 0, 2] rfl) _ _ hX

theorem lk_X3_putThird_f15 : Cond.fieldLink RX3 15 "Koebehall$Net" "thirds" "[I" ∈ wsX3_putThird := by decide +kernel
theorem hin_X3_putThird_RX3 : ∀ w ∈ u_ws RX3 TX3 4, w ∈ wsX3_putThird := by decide +kernel
abbrev rmX3_putThird : Room := { frames := 0, cells := 0, slots := 0, locals := 0 }
set_option maxHeartbeats 4000000 in
set_option maxRecDepth 100000 in
/-- X3_putThird -/
theorem kX3_putThird (l : Launch) (G : kG) (B0 : Nat) (f : kH) (h nA tA : Nat) (aN aT : Nat → Int32) (cc fc : Nat) (x y : Nat) (v : Int32) (hM : kCs f (nW G h nA tA aN aT cc fc)) (hc9 : cc ≤ 16) (hF9 : fc ≤ 28) (hx : x < 16) (hy : y < 16) : Met l yX3_putThird wsX3_putThird (rmX3_putThird) (kP G B0 f [.ref h, .int (nI x), .int (nI y), .int v]) (kQv G B0 (fun f1 => kCs f1 (nW G h nA tA aN (upd aT (16 * x + y) v) cc fc) ∧ kOff (nAs h nA tA) f f1)) 0 0 (kAb B0) := by
  refine kMet (cc := cX3_putThird) (maxL := 4) (ret := none) (by decide) rfl (Nat.le_of_ble_eq_true rfl) ?_
  intro p e s m args below meth c H locs Q ls C hX hl hr hlocks hnm hQ
  have hO : kOff (nAs h nA tA) f f := kOff.rf
  have hl : lv_has ls 4 [(0, .ref h), (1, .int (nI x)), (2, .int (nI y)), (3, .int v)] := hl
  refine lv_aload_n C.x C.b dX3_putThird_0 rfl (lv_at hl 0 rfl) ?_
  refine k_get (X := RX3) (T := TX3) (N := 4) (v := .ref tA) C hX (hM.at 0 rfl) rfl hin_X3_putThird_RX3 1 (by decide) lk_X3_putThird_f15 (fun _ h9 => h9) rfl dX3_putThird_1 ?_
  refine lv_bipush (v := nI 16) C.x C.b dX3_putThird_4 (by decide) ?_
  refine lv_iload_n C.x C.b dX3_putThird_6 rfl (lv_at hl 1 rfl) ?_
  refine lv_imul C.x C.b dX3_putThird_7 ?_
  refine k_topi (y := nI (16 * x)) (pk_mul _ _) ?_
  refine lv_iload_n C.x C.b dX3_putThird_8 rfl (lv_at hl 2 rfl) ?_
  refine lv_iadd C.x C.b dX3_putThird_9 ?_
  refine k_topi (y := nI ((16 * x) + y)) (nI_add _ _) ?_
  refine lv_iload_n C.x C.b dX3_putThird_10 rfl (lv_at hl 3 rfl) ?_
  refine k_iast C hX (hM.at 2 rfl) (vp_in_nI (by omega) (by omega)) dX3_putThird_11 (fun H locs hX => ?_)
  rw [nI_clamp (by omega)] at hX
  obtain ⟨g1, hX, hM, hO⟩ := kX.wr hX hM hO 2 rfl (List.mem_of_getElem? (i := 2) rfl)
  have hM : kCs g1 (nW G h nA tA aN (upd aT ((16 * x) + y) v) cc fc) := hM
  exact k_vret C hX hr hlocks hQ (by omega) (by omega) (⟨hM, hO⟩) dX3_putThird_12

theorem lk_X3_putCorners_f11 : Cond.fieldLink RX3 11 "Koebehall$Net" "named" "[I" ∈ wsX3_putCorners := by decide +kernel
theorem hin_X3_putCorners_RX3 : ∀ w ∈ u_ws RX3 TX3 4, w ∈ wsX3_putCorners := by decide +kernel
theorem hdX3_putCorners_X3_putThird : yX3_putThird.cls ≠ "java/lang/invoke/MethodHandle" ∧ yX3_putThird.cls ≠ "java/lang/invoke/VarHandle" ∧ (parseMethodDescriptor yX3_putThird.desc).map (fun d => d.parameters.length) = some 3 := by decide +kernel
abbrev rmX3_putCorners : Room := { frames := 1, cells := 0, slots := 0, locals := 23 }
set_option maxHeartbeats 4000000 in
set_option maxRecDepth 100000 in
/-- X3_putCorners -/
theorem kX3_putCorners (l : Launch) (G : kG) (B0 : Nat) (f : kH) (h nA tA : Nat) (aN aT : Nat → Int32) (cc fc : Nat) (t x y z : Nat) (hM : kCs f (nW G h nA tA aN aT cc fc)) (hc9 : cc ≤ 16) (hF9 : fc ≤ 28) (ht : t < 28) (hx : x < 16) (hy : y < 16) (hz : z < 16) : Met l yX3_putCorners wsX3_putCorners (rmX3_putCorners) (kP G B0 f [.ref h, .int (nI t), .int (nI x), .int (nI y), .int (nI z)]) (kQv G B0 (fun f1 => kCs f1 (nW G h nA tA (n3 aN t x y z) (nT3 aT x y z) cc fc) ∧ kOff (nAs h nA tA) f f1)) 0 0 (kAb B0) := by
  refine kMet (cc := cX3_putCorners) (maxL := 5) (ret := none) (by decide) rfl (Nat.le_of_ble_eq_true rfl) ?_
  intro p e s m args below meth c H locs Q ls C hX hl hr hlocks hnm hQ
  have hO : kOff (nAs h nA tA) f f := kOff.rf
  have hl : lv_has ls 5 [(0, .ref h), (1, .int (nI t)), (2, .int (nI x)), (3, .int (nI y)), (4, .int (nI z))] := hl
  refine lv_aload_n C.x C.b dX3_putCorners_0 rfl (lv_at hl 0 rfl) ?_
  refine k_get (X := RX3) (T := TX3) (N := 4) (v := .ref nA) C hX (hM.at 0 rfl) rfl hin_X3_putCorners_RX3 0 (by decide) lk_X3_putCorners_f11 (fun _ h9 => h9) rfl dX3_putCorners_1 ?_
  refine lv_iconst (v := nI 3) C.x C.b dX3_putCorners_4 (by decide) ?_
  refine lv_iload_n C.x C.b dX3_putCorners_5 rfl (lv_at hl 1 rfl) ?_
  refine lv_imul C.x C.b dX3_putCorners_6 ?_
  refine k_topi (y := nI (3 * t)) (pk_mul _ _) ?_
  refine lv_iload_n C.x C.b dX3_putCorners_7 rfl (lv_at hl 2 rfl) ?_
  refine k_iast C hX (hM.at 1 rfl) (vp_in_nI (by omega) (by omega)) dX3_putCorners_8 (fun H locs hX => ?_)
  rw [nI_clamp (by omega)] at hX
  obtain ⟨g1, hX, hM, hO⟩ := kX.wr hX hM hO 1 rfl (List.mem_of_getElem? (i := 1) rfl)
  have hM : kCs g1 (nW G h nA tA (upd aN (3 * t) (nI x)) aT cc fc) := hM
  refine lv_aload_n C.x C.b dX3_putCorners_9 rfl (lv_at hl 0 rfl) ?_
  refine k_get (X := RX3) (T := TX3) (N := 4) (v := .ref nA) C hX (hM.at 0 rfl) rfl hin_X3_putCorners_RX3 0 (by decide) lk_X3_putCorners_f11 (fun _ h9 => h9) rfl dX3_putCorners_10 ?_
  refine lv_iconst (v := nI 3) C.x C.b dX3_putCorners_13 (by decide) ?_
  refine lv_iload_n C.x C.b dX3_putCorners_14 rfl (lv_at hl 1 rfl) ?_
  refine lv_imul C.x C.b dX3_putCorners_15 ?_
  refine k_topi (y := nI (3 * t)) (pk_mul _ _) ?_
  refine lv_iconst (v := nI 1) C.x C.b dX3_putCorners_16 (by decide) ?_
  refine lv_iadd C.x C.b dX3_putCorners_17 ?_
  refine k_topi (y := nI ((3 * t) + 1)) (nI_add _ _) ?_
  refine lv_iload_n C.x C.b dX3_putCorners_18 rfl (lv_at hl 3 rfl) ?_
  refine k_iast C hX (hM.at 1 rfl) (vp_in_nI (by omega) (by omega)) dX3_putCorners_19 (fun H locs hX => ?_)
  rw [nI_clamp (by omega)] at hX
  obtain ⟨g2, hX, hM, hO⟩ := kX.wr hX hM hO 1 rfl (List.mem_of_getElem? (i := 1) rfl)
  have hM : kCs g2 (nW G h nA tA (upd (upd aN (3 * t) (nI x)) ((3 * t) + 1) (nI y)) aT cc fc) := hM
  refine lv_aload_n C.x C.b dX3_putCorners_20 rfl (lv_at hl 0 rfl) ?_
  refine k_get (X := RX3) (T := TX3) (N := 4) (v := .ref nA) C hX (hM.at 0 rfl) rfl hin_X3_putCorners_RX3 0 (by decide) lk_X3_putCorners_f11 (fun _ h9 => h9) rfl dX3_putCorners_21 ?_
  refine lv_iconst (v := nI 3) C.x C.b dX3_putCorners_24 (by decide) ?_
  refine lv_iload_n C.x C.b dX3_putCorners_25 rfl (lv_at hl 1 rfl) ?_
  refine lv_imul C.x C.b dX3_putCorners_26 ?_
  refine k_topi (y := nI (3 * t)) (pk_mul _ _) ?_
  refine lv_iconst (v := nI 2) C.x C.b dX3_putCorners_27 (by decide) ?_
  refine lv_iadd C.x C.b dX3_putCorners_28 ?_
  refine k_topi (y := nI ((3 * t) + 2)) (nI_add _ _) ?_
  refine lv_iload C.x C.b dX3_putCorners_29 (lv_at hl 4 rfl) ?_
  refine k_iast C hX (hM.at 1 rfl) (vp_in_nI (by omega) (by omega)) dX3_putCorners_31 (fun H locs hX => ?_)
  rw [nI_clamp (by omega)] at hX
  obtain ⟨g3, hX, hM, hO⟩ := kX.wr hX hM hO 1 rfl (List.mem_of_getElem? (i := 1) rfl)
  have hM : kCs g3 (nW G h nA tA (upd (upd (upd aN (3 * t) (nI x)) ((3 * t) + 1) (nI y)) ((3 * t) + 2) (nI z)) aT cc fc) := hM
  refine lv_aload_n C.x C.b dX3_putCorners_32 rfl (lv_at hl 0 rfl) ?_
  refine lv_iload_n C.x C.b dX3_putCorners_33 rfl (lv_at hl 2 rfl) ?_
  refine lv_iload_n C.x C.b dX3_putCorners_34 rfl (lv_at hl 3 rfl) ?_
  refine lv_iload C.x C.b dX3_putCorners_35 (lv_at hl 4 rfl) ?_
  refine k_callv (va_runV (As := [.int (nI x), .int (nI y), .int (nI z)]) (rest := []) C.1 (kX3_putThird l G B0 g3 h nA tA (upd (upd (upd aN (3 * t) (nI x)) ((3 * t) + 1) (nI y)) ((3 * t) + 2) (nI z)) aT cc fc x y (nI z) hM (by omega) (by omega) (by omega) (by omega)) (cwV 3 C.ts gX3_putCorners_X3_putThird rfl rfl rfl ⟨rfl, hdX3_putCorners_X3_putThird⟩ ⟨Nat.le_of_ble_eq_true rfl, Nat.le_of_ble_eq_true rfl⟩) (k_preV C hX (hM.at 0 rfl) rfl) rfl rfl hl.1 rfl (lv_room (Nat.le_of_ble_eq_true rfl)) dX3_putCorners_37 ⟨Nat.le_of_ble_eq_true rfl, Nat.le_of_ble_eq_true rfl⟩) hX (fun f37 H locs hp37 hX => ?_)
  obtain ⟨hM, hO37⟩ := hp37
  have hO := hO.trans hO37
  have hM : kCs f37 (nW G h nA tA (upd (upd (upd aN (3 * t) (nI x)) ((3 * t) + 1) (nI y)) ((3 * t) + 2) (nI z)) (upd aT (16 * x + y) (nI z)) cc fc) := hM
  refine lv_aload_n C.x C.b dX3_putCorners_40 rfl (lv_at hl 0 rfl) ?_
  refine lv_iload_n C.x C.b dX3_putCorners_41 rfl (lv_at hl 3 rfl) ?_
  refine lv_iload C.x C.b dX3_putCorners_42 (lv_at hl 4 rfl) ?_
  refine lv_iload_n C.x C.b dX3_putCorners_44 rfl (lv_at hl 2 rfl) ?_
  refine k_callv (va_runV (As := [.int (nI y), .int (nI z), .int (nI x)]) (rest := []) C.1 (kX3_putThird l G B0 f37 h nA tA (upd (upd (upd aN (3 * t) (nI x)) ((3 * t) + 1) (nI y)) ((3 * t) + 2) (nI z)) (upd aT (16 * x + y) (nI z)) cc fc y z (nI x) hM (by omega) (by omega) (by omega) (by omega)) (cwV 3 C.ts gX3_putCorners_X3_putThird rfl rfl rfl ⟨rfl, hdX3_putCorners_X3_putThird⟩ ⟨Nat.le_of_ble_eq_true rfl, Nat.le_of_ble_eq_true rfl⟩) (k_preV C hX (hM.at 0 rfl) rfl) rfl rfl hl.1 rfl (lv_room (Nat.le_of_ble_eq_true rfl)) dX3_putCorners_45 ⟨Nat.le_of_ble_eq_true rfl, Nat.le_of_ble_eq_true rfl⟩) hX (fun f45 H locs hp45 hX => ?_)
  obtain ⟨hM, hO45⟩ := hp45
  have hO := hO.trans hO45
  have hM : kCs f45 (nW G h nA tA (upd (upd (upd aN (3 * t) (nI x)) ((3 * t) + 1) (nI y)) ((3 * t) + 2) (nI z)) (upd (upd aT (16 * x + y) (nI z)) (16 * y + z) (nI x)) cc fc) := hM
  refine lv_aload_n C.x C.b dX3_putCorners_48 rfl (lv_at hl 0 rfl) ?_
  refine lv_iload C.x C.b dX3_putCorners_49 (lv_at hl 4 rfl) ?_
  refine lv_iload_n C.x C.b dX3_putCorners_51 rfl (lv_at hl 2 rfl) ?_
  refine lv_iload_n C.x C.b dX3_putCorners_52 rfl (lv_at hl 3 rfl) ?_
  refine k_callv (va_runV (As := [.int (nI z), .int (nI x), .int (nI y)]) (rest := []) C.1 (kX3_putThird l G B0 f45 h nA tA (upd (upd (upd aN (3 * t) (nI x)) ((3 * t) + 1) (nI y)) ((3 * t) + 2) (nI z)) (upd (upd aT (16 * x + y) (nI z)) (16 * y + z) (nI x)) cc fc z x (nI y) hM (by omega) (by omega) (by omega) (by omega)) (cwV 3 C.ts gX3_putCorners_X3_putThird rfl rfl rfl ⟨rfl, hdX3_putCorners_X3_putThird⟩ ⟨Nat.le_of_ble_eq_true rfl, Nat.le_of_ble_eq_true rfl⟩) (k_preV C hX (hM.at 0 rfl) rfl) rfl rfl hl.1 rfl (lv_room (Nat.le_of_ble_eq_true rfl)) dX3_putCorners_53 ⟨Nat.le_of_ble_eq_true rfl, Nat.le_of_ble_eq_true rfl⟩) hX (fun f53 H locs hp53 hX => ?_)
  obtain ⟨hM, hO53⟩ := hp53
  have hO := hO.trans hO53
  have hM : kCs f53 (nW G h nA tA (upd (upd (upd aN (3 * t) (nI x)) ((3 * t) + 1) (nI y)) ((3 * t) + 2) (nI z)) (upd (upd (upd aT (16 * x + y) (nI z)) (16 * y + z) (nI x)) (16 * z + x) (nI y)) cc fc) := hM
  exact k_vret C hX hr hlocks hQ (by omega) (by omega) (⟨hM, hO⟩) dX3_putCorners_56

theorem hdX3_putFace_X3_putCorners : yX3_putCorners.cls ≠ "java/lang/invoke/MethodHandle" ∧ yX3_putCorners.cls ≠ "java/lang/invoke/VarHandle" ∧ (parseMethodDescriptor yX3_putCorners.desc).map (fun d => d.parameters.length) = some 4 := by decide +kernel
abbrev rmX3_putFace : Room := { frames := 2, cells := 0, slots := 0, locals := 47 }
set_option maxHeartbeats 4000000 in
set_option maxRecDepth 100000 in
/-- X3_putFace -/
theorem kX3_putFace (l : Launch) (G : kG) (B0 : Nat) (f : kH) (h nA tA : Nat) (aN aT : Nat → Int32) (cc fc : Nat) (t x y z : Nat) (hM : kCs f (nW G h nA tA aN aT cc fc)) (hc9 : cc ≤ 16) (hF9 : fc ≤ 28) (ht : t < 28) (hx : x < 16) (hy : y < 16) (hz : z < 16) : Met l yX3_putFace wsX3_putFace (rmX3_putFace) (kP G B0 f [.ref h, .int (nI t), .int (nI x), .int (nI y), .int (nI z)]) (kQv G B0 (fun f1 => kCs f1 (nW G h nA tA (nPutN aN t x y z) (nPutT aT x y z) cc fc) ∧ kOff (nAs h nA tA) f f1)) 0 0 (kAb B0) := by
  refine kMet (cc := cX3_putFace) (maxL := 5) (ret := none) (by decide) rfl (Nat.le_of_ble_eq_true rfl) ?_
  intro p e s m args below meth c H locs Q ls C hX hl hr hlocks hnm hQ
  have hO : kOff (nAs h nA tA) f f := kOff.rf
  have hl : lv_has ls 5 [(0, .ref h), (1, .int (nI t)), (2, .int (nI x)), (3, .int (nI y)), (4, .int (nI z))] := hl
  refine lv_iload_n C.x C.b dX3_putFace_0 rfl (lv_at hl 2 rfl) ?_
  refine lv_iload_n C.x C.b dX3_putFace_1 rfl (lv_at hl 3 rfl) ?_
  refine lv_icmp_ge (tgt := 23) C.x C.b dX3_putFace_2 (by decide) (fun c_2 => ?_) (fun c_2 => ?_)
  · skip
    have c_2 : y ≤ x := (nI_leI (by omega) (by omega)).mp c_2
    refine lv_iload_n C.x C.b dX3_putFace_23 rfl (lv_at hl 3 rfl) ?_
    refine lv_iload C.x C.b dX3_putFace_24 (lv_at hl 4 rfl) ?_
    refine lv_icmp_ge (tgt := 41) C.x C.b dX3_putFace_26 (by decide) (fun c_26 => ?_) (fun c_26 => ?_)
    · skip
      have c_26 : z ≤ y := (nI_leI (by omega) (by omega)).mp c_26
      refine lv_aload_n C.x C.b dX3_putFace_41 rfl (lv_at hl 0 rfl) ?_
      refine lv_iload_n C.x C.b dX3_putFace_42 rfl (lv_at hl 1 rfl) ?_
      refine lv_iload C.x C.b dX3_putFace_43 (lv_at hl 4 rfl) ?_
      refine lv_iload_n C.x C.b dX3_putFace_45 rfl (lv_at hl 2 rfl) ?_
      refine lv_iload_n C.x C.b dX3_putFace_46 rfl (lv_at hl 3 rfl) ?_
      refine k_callv (va_runV (As := [.int (nI t), .int (nI z), .int (nI x), .int (nI y)]) (rest := []) C.1 (kX3_putCorners l G B0 f h nA tA aN aT cc fc t z x y hM hc9 hF9 ht (by omega) (by omega) (by omega)) (cwV 4 C.ts gX3_putFace_X3_putCorners rfl rfl rfl ⟨rfl, hdX3_putFace_X3_putCorners⟩ ⟨Nat.le_of_ble_eq_true rfl, Nat.le_of_ble_eq_true rfl⟩) (k_preV C hX (hM.at 0 rfl) rfl) rfl rfl hl.1 rfl (lv_room (Nat.le_of_ble_eq_true rfl)) dX3_putFace_47 ⟨Nat.le_of_ble_eq_true rfl, Nat.le_of_ble_eq_true rfl⟩) hX (fun f47 H locs hp47 hX => ?_)
      obtain ⟨hM, hO47⟩ := hp47
      have hO := hO.trans hO47
      have hM : kCs f47 (nW G h nA tA (n3 aN t z x y) (nT3 aT z x y) cc fc) := hM
      exact k_vret C hX hr hlocks hQ (by omega) (by omega) (by refine ⟨?_, hO⟩; first | (obtain ⟨u1, u2⟩ := nPut_1 aN aT t (x := x) (y := y) (z := z) (by omega) (by omega); rw [u1, u2]; exact hM) | (obtain ⟨u1, u2⟩ := nPut_2 aN aT t (x := x) (y := y) (z := z) (by omega) (by omega); rw [u1, u2]; exact hM) | (obtain ⟨u1, u2⟩ := nPut_3 aN aT t (x := x) (y := y) (z := z) (by omega) (by omega); rw [u1, u2]; exact hM)) dX3_putFace_50
    · skip
      have c_26 : ¬ (z ≤ y) := fun h9 => c_26 ((nI_leI (by omega) (by omega)).mpr h9)
      refine lv_aload_n C.x C.b dX3_putFace_29 rfl (lv_at hl 0 rfl) ?_
      refine lv_iload_n C.x C.b dX3_putFace_30 rfl (lv_at hl 1 rfl) ?_
      refine lv_iload_n C.x C.b dX3_putFace_31 rfl (lv_at hl 3 rfl) ?_
      refine lv_iload C.x C.b dX3_putFace_32 (lv_at hl 4 rfl) ?_
      refine lv_iload_n C.x C.b dX3_putFace_34 rfl (lv_at hl 2 rfl) ?_
      refine k_callv (va_runV (As := [.int (nI t), .int (nI y), .int (nI z), .int (nI x)]) (rest := []) C.1 (kX3_putCorners l G B0 f h nA tA aN aT cc fc t y z x hM hc9 hF9 ht (by omega) (by omega) (by omega)) (cwV 4 C.ts gX3_putFace_X3_putCorners rfl rfl rfl ⟨rfl, hdX3_putFace_X3_putCorners⟩ ⟨Nat.le_of_ble_eq_true rfl, Nat.le_of_ble_eq_true rfl⟩) (k_preV C hX (hM.at 0 rfl) rfl) rfl rfl hl.1 rfl (lv_room (Nat.le_of_ble_eq_true rfl)) dX3_putFace_35 ⟨Nat.le_of_ble_eq_true rfl, Nat.le_of_ble_eq_true rfl⟩) hX (fun f35 H locs hp35 hX => ?_)
      obtain ⟨hM, hO35⟩ := hp35
      have hO := hO.trans hO35
      have hM : kCs f35 (nW G h nA tA (n3 aN t y z x) (nT3 aT y z x) cc fc) := hM
      refine lv_goto (tgt := 50) C.x C.b dX3_putFace_38 (by decide) ?_
      exact k_vret C hX hr hlocks hQ (by omega) (by omega) (by refine ⟨?_, hO⟩; first | (obtain ⟨u1, u2⟩ := nPut_1 aN aT t (x := x) (y := y) (z := z) (by omega) (by omega); rw [u1, u2]; exact hM) | (obtain ⟨u1, u2⟩ := nPut_2 aN aT t (x := x) (y := y) (z := z) (by omega) (by omega); rw [u1, u2]; exact hM) | (obtain ⟨u1, u2⟩ := nPut_3 aN aT t (x := x) (y := y) (z := z) (by omega) (by omega); rw [u1, u2]; exact hM)) dX3_putFace_50
  · skip
    have c_2 : ¬ (y ≤ x) := fun h9 => c_2 ((nI_leI (by omega) (by omega)).mpr h9)
    refine lv_iload_n C.x C.b dX3_putFace_5 rfl (lv_at hl 2 rfl) ?_
    refine lv_iload C.x C.b dX3_putFace_6 (lv_at hl 4 rfl) ?_
    refine lv_icmp_ge (tgt := 23) C.x C.b dX3_putFace_8 (by decide) (fun c_8 => ?_) (fun c_8 => ?_)
    · skip
      have c_8 : z ≤ x := (nI_leI (by omega) (by omega)).mp c_8
      refine lv_iload_n C.x C.b dX3_putFace_23 rfl (lv_at hl 3 rfl) ?_
      refine lv_iload C.x C.b dX3_putFace_24 (lv_at hl 4 rfl) ?_
      refine lv_icmp_ge (tgt := 41) C.x C.b dX3_putFace_26 (by decide) (fun c_26 => ?_) (fun c_26 => ?_)
      · skip
        have c_26 : z ≤ y := (nI_leI (by omega) (by omega)).mp c_26
        refine lv_aload_n C.x C.b dX3_putFace_41 rfl (lv_at hl 0 rfl) ?_
        refine lv_iload_n C.x C.b dX3_putFace_42 rfl (lv_at hl 1 rfl) ?_
        refine lv_iload C.x C.b dX3_putFace_43 (lv_at hl 4 rfl) ?_
        refine lv_iload_n C.x C.b dX3_putFace_45 rfl (lv_at hl 2 rfl) ?_
        refine lv_iload_n C.x C.b dX3_putFace_46 rfl (lv_at hl 3 rfl) ?_
        refine k_callv (va_runV (As := [.int (nI t), .int (nI z), .int (nI x), .int (nI y)]) (rest := []) C.1 (kX3_putCorners l G B0 f h nA tA aN aT cc fc t z x y hM hc9 hF9 ht (by omega) (by omega) (by omega)) (cwV 4 C.ts gX3_putFace_X3_putCorners rfl rfl rfl ⟨rfl, hdX3_putFace_X3_putCorners⟩ ⟨Nat.le_of_ble_eq_true rfl, Nat.le_of_ble_eq_true rfl⟩) (k_preV C hX (hM.at 0 rfl) rfl) rfl rfl hl.1 rfl (lv_room (Nat.le_of_ble_eq_true rfl)) dX3_putFace_47 ⟨Nat.le_of_ble_eq_true rfl, Nat.le_of_ble_eq_true rfl⟩) hX (fun f47 H locs hp47 hX => ?_)
        obtain ⟨hM, hO47⟩ := hp47
        have hO := hO.trans hO47
        have hM : kCs f47 (nW G h nA tA (n3 aN t z x y) (nT3 aT z x y) cc fc) := hM
        exact k_vret C hX hr hlocks hQ (by omega) (by omega) (by refine ⟨?_, hO⟩; first | (obtain ⟨u1, u2⟩ := nPut_1 aN aT t (x := x) (y := y) (z := z) (by omega) (by omega); rw [u1, u2]; exact hM) | (obtain ⟨u1, u2⟩ := nPut_2 aN aT t (x := x) (y := y) (z := z) (by omega) (by omega); rw [u1, u2]; exact hM) | (obtain ⟨u1, u2⟩ := nPut_3 aN aT t (x := x) (y := y) (z := z) (by omega) (by omega); rw [u1, u2]; exact hM)) dX3_putFace_50
      · skip
        have c_26 : ¬ (z ≤ y) := fun h9 => c_26 ((nI_leI (by omega) (by omega)).mpr h9)
        refine lv_aload_n C.x C.b dX3_putFace_29 rfl (lv_at hl 0 rfl) ?_
        refine lv_iload_n C.x C.b dX3_putFace_30 rfl (lv_at hl 1 rfl) ?_
        refine lv_iload_n C.x C.b dX3_putFace_31 rfl (lv_at hl 3 rfl) ?_
        refine lv_iload C.x C.b dX3_putFace_32 (lv_at hl 4 rfl) ?_
        refine lv_iload_n C.x C.b dX3_putFace_34 rfl (lv_at hl 2 rfl) ?_
        refine k_callv (va_runV (As := [.int (nI t), .int (nI y), .int (nI z), .int (nI x)]) (rest := []) C.1 (kX3_putCorners l G B0 f h nA tA aN aT cc fc t y z x hM hc9 hF9 ht (by omega) (by omega) (by omega)) (cwV 4 C.ts gX3_putFace_X3_putCorners rfl rfl rfl ⟨rfl, hdX3_putFace_X3_putCorners⟩ ⟨Nat.le_of_ble_eq_true rfl, Nat.le_of_ble_eq_true rfl⟩) (k_preV C hX (hM.at 0 rfl) rfl) rfl rfl hl.1 rfl (lv_room (Nat.le_of_ble_eq_true rfl)) dX3_putFace_35 ⟨Nat.le_of_ble_eq_true rfl, Nat.le_of_ble_eq_true rfl⟩) hX (fun f35 H locs hp35 hX => ?_)
        obtain ⟨hM, hO35⟩ := hp35
        have hO := hO.trans hO35
        have hM : kCs f35 (nW G h nA tA (n3 aN t y z x) (nT3 aT y z x) cc fc) := hM
        refine lv_goto (tgt := 50) C.x C.b dX3_putFace_38 (by decide) ?_
        exact k_vret C hX hr hlocks hQ (by omega) (by omega) (by refine ⟨?_, hO⟩; first | (obtain ⟨u1, u2⟩ := nPut_1 aN aT t (x := x) (y := y) (z := z) (by omega) (by omega); rw [u1, u2]; exact hM) | (obtain ⟨u1, u2⟩ := nPut_2 aN aT t (x := x) (y := y) (z := z) (by omega) (by omega); rw [u1, u2]; exact hM) | (obtain ⟨u1, u2⟩ := nPut_3 aN aT t (x := x) (y := y) (z := z) (by omega) (by omega); rw [u1, u2]; exact hM)) dX3_putFace_50
    · skip
      have c_8 : ¬ (z ≤ x) := fun h9 => c_8 ((nI_leI (by omega) (by omega)).mpr h9)
      refine lv_aload_n C.x C.b dX3_putFace_11 rfl (lv_at hl 0 rfl) ?_
      refine lv_iload_n C.x C.b dX3_putFace_12 rfl (lv_at hl 1 rfl) ?_
      refine lv_iload_n C.x C.b dX3_putFace_13 rfl (lv_at hl 2 rfl) ?_
      refine lv_iload_n C.x C.b dX3_putFace_14 rfl (lv_at hl 3 rfl) ?_
      refine lv_iload C.x C.b dX3_putFace_15 (lv_at hl 4 rfl) ?_
      refine k_callv (va_runV (As := [.int (nI t), .int (nI x), .int (nI y), .int (nI z)]) (rest := []) C.1 (kX3_putCorners l G B0 f h nA tA aN aT cc fc t x y z hM hc9 hF9 ht (by omega) (by omega) (by omega)) (cwV 4 C.ts gX3_putFace_X3_putCorners rfl rfl rfl ⟨rfl, hdX3_putFace_X3_putCorners⟩ ⟨Nat.le_of_ble_eq_true rfl, Nat.le_of_ble_eq_true rfl⟩) (k_preV C hX (hM.at 0 rfl) rfl) rfl rfl hl.1 rfl (lv_room (Nat.le_of_ble_eq_true rfl)) dX3_putFace_17 ⟨Nat.le_of_ble_eq_true rfl, Nat.le_of_ble_eq_true rfl⟩) hX (fun f17 H locs hp17 hX => ?_)
      obtain ⟨hM, hO17⟩ := hp17
      have hO := hO.trans hO17
      have hM : kCs f17 (nW G h nA tA (n3 aN t x y z) (nT3 aT x y z) cc fc) := hM
      refine lv_goto (tgt := 50) C.x C.b dX3_putFace_20 (by decide) ?_
      exact k_vret C hX hr hlocks hQ (by omega) (by omega) (by refine ⟨?_, hO⟩; first | (obtain ⟨u1, u2⟩ := nPut_1 aN aT t (x := x) (y := y) (z := z) (by omega) (by omega); rw [u1, u2]; exact hM) | (obtain ⟨u1, u2⟩ := nPut_2 aN aT t (x := x) (y := y) (z := z) (by omega) (by omega); rw [u1, u2]; exact hM) | (obtain ⟨u1, u2⟩ := nPut_3 aN aT t (x := x) (y := y) (z := z) (by omega) (by omega); rw [u1, u2]; exact hM)) dX3_putFace_50

theorem hdX3_splitFace_X3_cornerOf : yX3_cornerOf.cls ≠ "java/lang/invoke/MethodHandle" ∧ yX3_cornerOf.cls ≠ "java/lang/invoke/VarHandle" ∧ (parseMethodDescriptor yX3_cornerOf.desc).map (fun d => d.parameters.length) = some 2 := by decide +kernel
theorem lk_X3_splitFace_f24 : Cond.fieldLink RX3 24 "Koebehall$Net" "cornerCount" "I" ∈ wsX3_splitFace := by decide +kernel
theorem hin_X3_splitFace_RX3 : ∀ w ∈ u_ws RX3 TX3 4, w ∈ wsX3_splitFace := by decide +kernel
theorem hdX3_splitFace_X3_putFace : yX3_putFace.cls ≠ "java/lang/invoke/MethodHandle" ∧ yX3_putFace.cls ≠ "java/lang/invoke/VarHandle" ∧ (parseMethodDescriptor yX3_putFace.desc).map (fun d => d.parameters.length) = some 4 := by decide +kernel
theorem lk_X3_splitFace_f28 : Cond.fieldLink RX3 28 "Koebehall$Net" "faceCount" "I" ∈ wsX3_splitFace := by decide +kernel
abbrev rmX3_splitFace : Room := { frames := 3, cells := 0, slots := 0, locals := 71 }
set_option maxHeartbeats 4000000 in
set_option maxRecDepth 100000 in
/-- X3_splitFace -/
theorem kX3_splitFace (l : Launch) (G : kG) (B0 : Nat) (f : kH) (h nA tA : Nat) (aN aT : Nat → Int32) (cc fc : Nat) (t x y z : Nat) (hM : kCs f (nW G h nA tA aN aT cc fc)) (hc9 : cc ≤ 16) (hF9 : fc ≤ 28) (ht : t < fc) (hf2 : fc ≤ 26) (hc2 : cc < 16) (hx : aN (3 * t + 0) = nI x) (hy : aN (3 * t + 1) = nI y) (hz : aN (3 * t + 2) = nI z) (hx9 : x < 16) (hy9 : y < 16) (hz9 : z < 16) : Met l yX3_splitFace wsX3_splitFace (rmX3_splitFace) (kP G B0 f [.ref h, .int (nI t)]) (kQi G B0 (fun r f1 => r = nI cc ∧ kCs f1 (nW G h nA tA (nPutN (nPutN (nPutN aN t x y cc) fc y z cc) (fc + 1) z x cc) (nPutT (nPutT (nPutT aT x y cc) y z cc) z x cc) (cc + 1) (fc + 2)) ∧ kOff (nAs h nA tA) f f1)) 0 0 (kAb B0) := by
  refine kMet (cc := cX3_splitFace) (maxL := 6) (ret := (some .int)) (by decide) rfl (Nat.le_of_ble_eq_true rfl) ?_
  intro p e s m args below meth c H locs Q ls C hX hl hr hlocks hnm hQ
  have hO : kOff (nAs h nA tA) f f := kOff.rf
  have hl : lv_has ls 6 [(0, .ref h), (1, .int (nI t))] := hl
  refine lv_aload_n C.x C.b dX3_splitFace_0 rfl (lv_at hl 0 rfl) ?_
  refine lv_iload_n C.x C.b dX3_splitFace_1 rfl (lv_at hl 1 rfl) ?_
  refine lv_iconst (v := nI 0) C.x C.b dX3_splitFace_2 (by decide) ?_
  refine k_calli (va_runV (As := [.int (nI t), .int (nI 0)]) (rest := []) C.1 (kX3_cornerOf l G B0 f h nA tA aN aT cc fc t 0 hM hc9 hF9 (by omega) (by omega)) (cwV 2 C.ts gX3_splitFace_X3_cornerOf rfl rfl rfl ⟨rfl, hdX3_splitFace_X3_cornerOf⟩ ⟨Nat.le_of_ble_eq_true rfl, Nat.le_of_ble_eq_true rfl⟩) (k_preV C hX (hM.at 0 rfl) rfl) rfl rfl hl.1 rfl (lv_room (Nat.le_of_ble_eq_true rfl)) dX3_splitFace_3 ⟨Nat.le_of_ble_eq_true rfl, Nat.le_of_ble_eq_true rfl⟩) hX (fun r3 f3 H locs hp3 hX => ?_)
  obtain ⟨hr3, hf3⟩ := hp3
  rw [hf3] at hX
  refine k_topi (y := (aN (3 * t + 0))) hr3 ?_
  refine k_topi (y := (nI x)) (hx) ?_
  refine lv_istore_n (lv' := [(2, .int (nI x)), (0, .ref h), (1, .int (nI t))]) C.x C.b dX3_splitFace_6 rfl hl (by decide) rfl (fun ls hl => ?_)
  refine lv_aload_n C.x C.b dX3_splitFace_7 rfl (lv_at hl 1 rfl) ?_
  refine lv_iload_n C.x C.b dX3_splitFace_8 rfl (lv_at hl 2 rfl) ?_
  refine lv_iconst (v := nI 1) C.x C.b dX3_splitFace_9 (by decide) ?_
  refine k_calli (va_runV (As := [.int (nI t), .int (nI 1)]) (rest := []) C.1 (kX3_cornerOf l G B0 f h nA tA aN aT cc fc t 1 hM hc9 hF9 (by omega) (by omega)) (cwV 2 C.ts gX3_splitFace_X3_cornerOf rfl rfl rfl ⟨rfl, hdX3_splitFace_X3_cornerOf⟩ ⟨Nat.le_of_ble_eq_true rfl, Nat.le_of_ble_eq_true rfl⟩) (k_preV C hX (hM.at 0 rfl) rfl) rfl rfl hl.1 rfl (lv_room (Nat.le_of_ble_eq_true rfl)) dX3_splitFace_10 ⟨Nat.le_of_ble_eq_true rfl, Nat.le_of_ble_eq_true rfl⟩) hX (fun r10 f10 H locs hp10 hX => ?_)
  obtain ⟨hr10, hf10⟩ := hp10
  rw [hf10] at hX
  refine k_topi (y := (aN (3 * t + 1))) hr10 ?_
  refine k_topi (y := (nI y)) (hy) ?_
  refine lv_istore_n (lv' := [(3, .int (nI y)), (2, .int (nI x)), (0, .ref h), (1, .int (nI t))]) C.x C.b dX3_splitFace_13 rfl hl (by decide) rfl (fun ls hl => ?_)
  refine lv_aload_n C.x C.b dX3_splitFace_14 rfl (lv_at hl 2 rfl) ?_
  refine lv_iload_n C.x C.b dX3_splitFace_15 rfl (lv_at hl 3 rfl) ?_
  refine lv_iconst (v := nI 2) C.x C.b dX3_splitFace_16 (by decide) ?_
  refine k_calli (va_runV (As := [.int (nI t), .int (nI 2)]) (rest := []) C.1 (kX3_cornerOf l G B0 f h nA tA aN aT cc fc t 2 hM hc9 hF9 (by omega) (by omega)) (cwV 2 C.ts gX3_splitFace_X3_cornerOf rfl rfl rfl ⟨rfl, hdX3_splitFace_X3_cornerOf⟩ ⟨Nat.le_of_ble_eq_true rfl, Nat.le_of_ble_eq_true rfl⟩) (k_preV C hX (hM.at 0 rfl) rfl) rfl rfl hl.1 rfl (lv_room (Nat.le_of_ble_eq_true rfl)) dX3_splitFace_17 ⟨Nat.le_of_ble_eq_true rfl, Nat.le_of_ble_eq_true rfl⟩) hX (fun r17 f17 H locs hp17 hX => ?_)
  obtain ⟨hr17, hf17⟩ := hp17
  rw [hf17] at hX
  refine k_topi (y := (aN (3 * t + 2))) hr17 ?_
  refine k_topi (y := (nI z)) (hz) ?_
  refine lv_istore (lv' := [(4, .int (nI z)), (3, .int (nI y)), (2, .int (nI x)), (0, .ref h), (1, .int (nI t))]) C.x C.b dX3_splitFace_20 hl (by decide) rfl (fun ls hl => ?_)
  refine lv_aload_n C.x C.b dX3_splitFace_22 rfl (lv_at hl 3 rfl) ?_
  refine k_get (X := RX3) (T := TX3) (N := 4) (v := .int (nI cc)) C hX (hM.at 0 rfl) rfl hin_X3_splitFace_RX3 2 (by decide) lk_X3_splitFace_f24 (fun _ h9 => h9) rfl dX3_splitFace_23 ?_
  refine lv_istore (lv' := [(5, .int (nI cc)), (4, .int (nI z)), (3, .int (nI y)), (2, .int (nI x)), (0, .ref h), (1, .int (nI t))]) C.x C.b dX3_splitFace_26 hl (by decide) rfl (fun ls hl => ?_)
  refine lv_aload_n C.x C.b dX3_splitFace_28 rfl (lv_at hl 4 rfl) ?_
  refine lv_iload_n C.x C.b dX3_splitFace_29 rfl (lv_at hl 5 rfl) ?_
  refine lv_iload_n C.x C.b dX3_splitFace_30 rfl (lv_at hl 3 rfl) ?_
  refine lv_iload_n C.x C.b dX3_splitFace_31 rfl (lv_at hl 2 rfl) ?_
  refine lv_iload C.x C.b dX3_splitFace_32 (lv_at hl 0 rfl) ?_
  refine k_callv (va_runV (As := [.int (nI t), .int (nI x), .int (nI y), .int (nI cc)]) (rest := []) C.1 (kX3_putFace l G B0 f h nA tA aN aT cc fc t x y cc hM (by omega) (by omega) (by omega) (by omega) (by omega) (by omega)) (cwV 4 C.ts gX3_splitFace_X3_putFace rfl rfl rfl ⟨rfl, hdX3_splitFace_X3_putFace⟩ ⟨Nat.le_of_ble_eq_true rfl, Nat.le_of_ble_eq_true rfl⟩) (k_preV C hX (hM.at 0 rfl) rfl) rfl rfl hl.1 rfl (lv_room (Nat.le_of_ble_eq_true rfl)) dX3_splitFace_34 ⟨Nat.le_of_ble_eq_true rfl, Nat.le_of_ble_eq_true rfl⟩) hX (fun f34 H locs hp34 hX => ?_)
  obtain ⟨hM, hO34⟩ := hp34
  have hO := hO.trans hO34
  have hM : kCs f34 (nW G h nA tA (nPutN aN t x y cc) (nPutT aT x y cc) cc fc) := hM
  refine lv_aload_n C.x C.b dX3_splitFace_37 rfl (lv_at hl 4 rfl) ?_
  refine lv_aload_n C.x C.b dX3_splitFace_38 rfl (lv_at hl 4 rfl) ?_
  refine k_get (X := RX3) (T := TX3) (N := 4) (v := .int (nI fc)) C hX (hM.at 0 rfl) rfl hin_X3_splitFace_RX3 3 (by decide) lk_X3_splitFace_f28 (fun _ h9 => h9) rfl dX3_splitFace_39 ?_
  refine lv_iload_n C.x C.b dX3_splitFace_42 rfl (lv_at hl 2 rfl) ?_
  refine lv_iload C.x C.b dX3_splitFace_43 (lv_at hl 1 rfl) ?_
  refine lv_iload C.x C.b dX3_splitFace_45 (lv_at hl 0 rfl) ?_
  refine k_callv (va_runV (As := [.int (nI fc), .int (nI y), .int (nI z), .int (nI cc)]) (rest := []) C.1 (kX3_putFace l G B0 f34 h nA tA (nPutN aN t x y cc) (nPutT aT x y cc) cc fc fc y z cc hM (by omega) (by omega) (by omega) (by omega) (by omega) (by omega)) (cwV 4 C.ts gX3_splitFace_X3_putFace rfl rfl rfl ⟨rfl, hdX3_splitFace_X3_putFace⟩ ⟨Nat.le_of_ble_eq_true rfl, Nat.le_of_ble_eq_true rfl⟩) (k_preV C hX (hM.at 0 rfl) rfl) rfl rfl hl.1 rfl (lv_room (Nat.le_of_ble_eq_true rfl)) dX3_splitFace_47 ⟨Nat.le_of_ble_eq_true rfl, Nat.le_of_ble_eq_true rfl⟩) hX (fun f47 H locs hp47 hX => ?_)
  obtain ⟨hM, hO47⟩ := hp47
  have hO := hO.trans hO47
  have hM : kCs f47 (nW G h nA tA (nPutN (nPutN aN t x y cc) fc y z cc) (nPutT (nPutT aT x y cc) y z cc) cc fc) := hM
  refine lv_aload_n C.x C.b dX3_splitFace_50 rfl (lv_at hl 4 rfl) ?_
  refine lv_aload_n C.x C.b dX3_splitFace_51 rfl (lv_at hl 4 rfl) ?_
  refine k_get (X := RX3) (T := TX3) (N := 4) (v := .int (nI fc)) C hX (hM.at 0 rfl) rfl hin_X3_splitFace_RX3 3 (by decide) lk_X3_splitFace_f28 (fun _ h9 => h9) rfl dX3_splitFace_52 ?_
  refine lv_iconst (v := nI 1) C.x C.b dX3_splitFace_55 (by decide) ?_
  refine lv_iadd C.x C.b dX3_splitFace_56 ?_
  refine k_topi (y := nI (fc + 1)) (nI_add _ _) ?_
  refine lv_iload C.x C.b dX3_splitFace_57 (lv_at hl 1 rfl) ?_
  refine lv_iload_n C.x C.b dX3_splitFace_59 rfl (lv_at hl 3 rfl) ?_
  refine lv_iload C.x C.b dX3_splitFace_60 (lv_at hl 0 rfl) ?_
  refine k_callv (va_runV (As := [.int (nI (fc + 1)), .int (nI z), .int (nI x), .int (nI cc)]) (rest := []) C.1 (kX3_putFace l G B0 f47 h nA tA (nPutN (nPutN aN t x y cc) fc y z cc) (nPutT (nPutT aT x y cc) y z cc) cc fc (fc + 1) z x cc hM (by omega) (by omega) (by omega) (by omega) (by omega) (by omega)) (cwV 4 C.ts gX3_splitFace_X3_putFace rfl rfl rfl ⟨rfl, hdX3_splitFace_X3_putFace⟩ ⟨Nat.le_of_ble_eq_true rfl, Nat.le_of_ble_eq_true rfl⟩) (k_preV C hX (hM.at 0 rfl) rfl) rfl rfl hl.1 rfl (lv_room (Nat.le_of_ble_eq_true rfl)) dX3_splitFace_62 ⟨Nat.le_of_ble_eq_true rfl, Nat.le_of_ble_eq_true rfl⟩) hX (fun f62 H locs hp62 hX => ?_)
  obtain ⟨hM, hO62⟩ := hp62
  have hO := hO.trans hO62
  have hM : kCs f62 (nW G h nA tA (nPutN (nPutN (nPutN aN t x y cc) fc y z cc) (fc + 1) z x cc) (nPutT (nPutT (nPutT aT x y cc) y z cc) z x cc) cc fc) := hM
  refine lv_aload_n C.x C.b dX3_splitFace_65 rfl (lv_at hl 4 rfl) ?_
  refine lv_dup C.x C.b dX3_splitFace_66 rfl ?_
  refine k_get (X := RX3) (T := TX3) (N := 4) (v := .int (nI cc)) C hX (hM.at 0 rfl) rfl hin_X3_splitFace_RX3 2 (by decide) lk_X3_splitFace_f24 (fun _ h9 => h9) rfl dX3_splitFace_67 ?_
  refine lv_iconst (v := nI 1) C.x C.b dX3_splitFace_70 (by decide) ?_
  refine lv_iadd C.x C.b dX3_splitFace_71 ?_
  refine k_topi (y := nI (cc + 1)) (nI_add _ _) ?_
  refine k_put (X := RX3) (T := TX3) (N := 4) (ty := .int) (v := .int (nI (cc + 1))) C hX (hM.at 0 rfl) rfl hin_X3_splitFace_RX3 tyX3_ok nmX3 2 (by decide) lk_X3_splitFace_f24 (fun _ h9 => h9) rfl (by decide +kernel) rfl rfl (Nat.le_of_ble_eq_true rfl) dX3_splitFace_72 (fun H locs hX => ?_)
  obtain ⟨g1, hX, hM, hO⟩ := kX.wr hX hM hO 0 rfl (List.mem_of_getElem? (i := 0) rfl)
  have hM : kCs g1 (nW G h nA tA (nPutN (nPutN (nPutN aN t x y cc) fc y z cc) (fc + 1) z x cc) (nPutT (nPutT (nPutT aT x y cc) y z cc) z x cc) (cc + 1) fc) := hM
  refine lv_aload_n C.x C.b dX3_splitFace_75 rfl (lv_at hl 4 rfl) ?_
  refine lv_dup C.x C.b dX3_splitFace_76 rfl ?_
  refine k_get (X := RX3) (T := TX3) (N := 4) (v := .int (nI fc)) C hX (hM.at 0 rfl) rfl hin_X3_splitFace_RX3 3 (by decide) lk_X3_splitFace_f28 (fun _ h9 => h9) rfl dX3_splitFace_77 ?_
  refine lv_iconst (v := nI 2) C.x C.b dX3_splitFace_80 (by decide) ?_
  refine lv_iadd C.x C.b dX3_splitFace_81 ?_
  refine k_topi (y := nI (fc + 2)) (nI_add _ _) ?_
  refine k_put (X := RX3) (T := TX3) (N := 4) (ty := .int) (v := .int (nI (fc + 2))) C hX (hM.at 0 rfl) rfl hin_X3_splitFace_RX3 tyX3_ok nmX3 3 (by decide) lk_X3_splitFace_f28 (fun _ h9 => h9) rfl (by decide +kernel) rfl rfl (Nat.le_of_ble_eq_true rfl) dX3_splitFace_82 (fun H locs hX => ?_)
  obtain ⟨g2, hX, hM, hO⟩ := kX.wr hX hM hO 0 rfl (List.mem_of_getElem? (i := 0) rfl)
  have hM : kCs g2 (nW G h nA tA (nPutN (nPutN (nPutN aN t x y cc) fc y z cc) (fc + 1) z x cc) (nPutT (nPutT (nPutT aT x y cc) y z cc) z x cc) (cc + 1) (fc + 2)) := hM
  refine lv_iload C.x C.b dX3_splitFace_85 (lv_at hl 0 rfl) ?_
  exact k_iret C hX hr hlocks hQ (by omega) (by omega) (⟨rfl, hM, hO⟩) dX3_splitFace_87

theorem hdX3_flipEdge_X3_thirdOf : yX3_thirdOf.cls ≠ "java/lang/invoke/MethodHandle" ∧ yX3_thirdOf.cls ≠ "java/lang/invoke/VarHandle" ∧ (parseMethodDescriptor yX3_thirdOf.desc).map (fun d => d.parameters.length) = some 2 := by decide +kernel
theorem hdX3_flipEdge_X3_faceWith : yX3_faceWith.cls ≠ "java/lang/invoke/MethodHandle" ∧ yX3_faceWith.cls ≠ "java/lang/invoke/VarHandle" ∧ (parseMethodDescriptor yX3_faceWith.desc).map (fun d => d.parameters.length) = some 2 := by decide +kernel
theorem hdX3_flipEdge_X3_putThird : yX3_putThird.cls ≠ "java/lang/invoke/MethodHandle" ∧ yX3_putThird.cls ≠ "java/lang/invoke/VarHandle" ∧ (parseMethodDescriptor yX3_putThird.desc).map (fun d => d.parameters.length) = some 3 := by decide +kernel
theorem hdX3_flipEdge_X3_putFace : yX3_putFace.cls ≠ "java/lang/invoke/MethodHandle" ∧ yX3_putFace.cls ≠ "java/lang/invoke/VarHandle" ∧ (parseMethodDescriptor yX3_putFace.desc).map (fun d => d.parameters.length) = some 4 := by decide +kernel
theorem lk_X3_flipEdge_lib63 : ∀ w ∈ [Cond.methodLink RX3 63 Lib.Math.min.name, Cond.static Lib.Math.min.name, Cond.initialized "java/lang/Math", Cond.code Lib.Math.min.name Lib.Math.min.code 2 (some .int)], w ∈ wsX3_flipEdge := by decide +kernel
theorem lk_X3_flipEdge_lib68 : ∀ w ∈ [Cond.methodLink RX3 68 Lib.Math.max.name, Cond.static Lib.Math.max.name, Cond.initialized "java/lang/Math", Cond.code Lib.Math.max.name Lib.Math.max.code 2 (some .int)], w ∈ wsX3_flipEdge := by decide +kernel
abbrev rmX3_flipEdge : Room := { frames := 3, cells := 0, slots := 0, locals := 71 }
set_option maxHeartbeats 4000000 in
set_option maxRecDepth 100000 in
/-- X3_flipEdge -/
theorem kX3_flipEdge (l : Launch) (G : kG) (B0 : Nat) (f : kH) (h nA tA : Nat) (aN aT : Nat → Int32) (cc fc : Nat) (x y u v t1 t2 : Nat) (hM : kCs f (nW G h nA tA aN aT cc fc)) (hc9 : cc ≤ 16) (hF9 : fc ≤ 28) (hx9 : x < 16) (hy9 : y < 16) (hu9 : u < 16) (hv9 : v < 16) (ht1 : t1 < fc) (ht2 : t2 < fc) (h1 : nThird aT cc (nI x) (nI y) = nI u) (h2 : nThird aT cc (nI y) (nI x) = nI v) (e1 : nFace aN (nI x) (nI y) (3 * fc) 0 = nI t1) (e2 : nFace aN (nI y) (nI x) (3 * fc) 0 = nI t2) : Met l yX3_flipEdge wsX3_flipEdge (rmX3_flipEdge) (kP G B0 f [.ref h, .int (nI x), .int (nI y)]) (kQi G B0 (fun r f1 => r = nI (100 * (if u < v then u else v) + (if u < v then v else u)) ∧ kCs f1 (nW G h nA tA (nPutN (nPutN aN t1 x v u) t2 v y u) (nPutT (nPutT (upd (upd aT (16 * x + y) (-1)) (16 * y + x) (-1)) x v u) v y u) cc fc) ∧ kOff (nAs h nA tA) f f1)) 0 0 (kAb B0) := by
  refine kMet (cc := cX3_flipEdge) (maxL := 7) (ret := (some .int)) (by decide) rfl (Nat.le_of_ble_eq_true rfl) ?_
  intro p e s m args below meth c H locs Q ls C hX hl hr hlocks hnm hQ
  have hO : kOff (nAs h nA tA) f f := kOff.rf
  have hl : lv_has ls 7 [(0, .ref h), (1, .int (nI x)), (2, .int (nI y))] := hl
  refine lv_aload_n C.x C.b dX3_flipEdge_0 rfl (lv_at hl 0 rfl) ?_
  refine lv_iload_n C.x C.b dX3_flipEdge_1 rfl (lv_at hl 1 rfl) ?_
  refine lv_iload_n C.x C.b dX3_flipEdge_2 rfl (lv_at hl 2 rfl) ?_
  refine k_calli (va_runV (As := [.int (nI x), .int (nI y)]) (rest := []) C.1 (kX3_thirdOf l G B0 f h nA tA aN aT cc fc (nI x) (nI y) hM hc9 hF9) (cwV 2 C.ts gX3_flipEdge_X3_thirdOf rfl rfl rfl ⟨rfl, hdX3_flipEdge_X3_thirdOf⟩ ⟨Nat.le_of_ble_eq_true rfl, Nat.le_of_ble_eq_true rfl⟩) (k_preV C hX (hM.at 0 rfl) rfl) rfl rfl hl.1 rfl (lv_room (Nat.le_of_ble_eq_true rfl)) dX3_flipEdge_3 ⟨Nat.le_of_ble_eq_true rfl, Nat.le_of_ble_eq_true rfl⟩) hX (fun r3 f3 H locs hp3 hX => ?_)
  obtain ⟨hr3, hf3⟩ := hp3
  rw [hf3] at hX
  refine k_topi (y := (nThird aT cc (nI x) (nI y))) hr3 ?_
  refine k_topi (y := (nI u)) (h1) ?_
  refine lv_istore_n (lv' := [(3, .int (nI u)), (0, .ref h), (1, .int (nI x)), (2, .int (nI y))]) C.x C.b dX3_flipEdge_6 rfl hl (by decide) rfl (fun ls hl => ?_)
  refine lv_aload_n C.x C.b dX3_flipEdge_7 rfl (lv_at hl 1 rfl) ?_
  refine lv_iload_n C.x C.b dX3_flipEdge_8 rfl (lv_at hl 3 rfl) ?_
  refine lv_iload_n C.x C.b dX3_flipEdge_9 rfl (lv_at hl 2 rfl) ?_
  refine k_calli (va_runV (As := [.int (nI y), .int (nI x)]) (rest := []) C.1 (kX3_thirdOf l G B0 f h nA tA aN aT cc fc (nI y) (nI x) hM hc9 hF9) (cwV 2 C.ts gX3_flipEdge_X3_thirdOf rfl rfl rfl ⟨rfl, hdX3_flipEdge_X3_thirdOf⟩ ⟨Nat.le_of_ble_eq_true rfl, Nat.le_of_ble_eq_true rfl⟩) (k_preV C hX (hM.at 0 rfl) rfl) rfl rfl hl.1 rfl (lv_room (Nat.le_of_ble_eq_true rfl)) dX3_flipEdge_10 ⟨Nat.le_of_ble_eq_true rfl, Nat.le_of_ble_eq_true rfl⟩) hX (fun r10 f10 H locs hp10 hX => ?_)
  obtain ⟨hr10, hf10⟩ := hp10
  rw [hf10] at hX
  refine k_topi (y := (nThird aT cc (nI y) (nI x))) hr10 ?_
  refine k_topi (y := (nI v)) (h2) ?_
  refine lv_istore (lv' := [(4, .int (nI v)), (3, .int (nI u)), (0, .ref h), (1, .int (nI x)), (2, .int (nI y))]) C.x C.b dX3_flipEdge_13 hl (by decide) rfl (fun ls hl => ?_)
  refine lv_aload_n C.x C.b dX3_flipEdge_15 rfl (lv_at hl 2 rfl) ?_
  refine lv_iload_n C.x C.b dX3_flipEdge_16 rfl (lv_at hl 3 rfl) ?_
  refine lv_iload_n C.x C.b dX3_flipEdge_17 rfl (lv_at hl 4 rfl) ?_
  refine k_calli (va_runV (As := [.int (nI x), .int (nI y)]) (rest := []) C.1 (kX3_faceWith l G B0 f h nA tA aN aT cc fc (nI x) (nI y) hM hc9 hF9) (cwV 2 C.ts gX3_flipEdge_X3_faceWith rfl rfl rfl ⟨rfl, hdX3_flipEdge_X3_faceWith⟩ ⟨Nat.le_of_ble_eq_true rfl, Nat.le_of_ble_eq_true rfl⟩) (k_preV C hX (hM.at 0 rfl) rfl) rfl rfl hl.1 rfl (lv_room (Nat.le_of_ble_eq_true rfl)) dX3_flipEdge_18 ⟨Nat.le_of_ble_eq_true rfl, Nat.le_of_ble_eq_true rfl⟩) hX (fun r18 f18 H locs hp18 hX => ?_)
  obtain ⟨hr18, hf18⟩ := hp18
  rw [hf18] at hX
  refine k_topi (y := (nFace aN (nI x) (nI y) (3 * fc) 0)) hr18 ?_
  refine k_topi (y := (nI t1)) (e1) ?_
  refine lv_istore (lv' := [(5, .int (nI t1)), (4, .int (nI v)), (3, .int (nI u)), (0, .ref h), (1, .int (nI x)), (2, .int (nI y))]) C.x C.b dX3_flipEdge_21 hl (by decide) rfl (fun ls hl => ?_)
  refine lv_aload_n C.x C.b dX3_flipEdge_23 rfl (lv_at hl 3 rfl) ?_
  refine lv_iload_n C.x C.b dX3_flipEdge_24 rfl (lv_at hl 5 rfl) ?_
  refine lv_iload_n C.x C.b dX3_flipEdge_25 rfl (lv_at hl 4 rfl) ?_
  refine k_calli (va_runV (As := [.int (nI y), .int (nI x)]) (rest := []) C.1 (kX3_faceWith l G B0 f h nA tA aN aT cc fc (nI y) (nI x) hM hc9 hF9) (cwV 2 C.ts gX3_flipEdge_X3_faceWith rfl rfl rfl ⟨rfl, hdX3_flipEdge_X3_faceWith⟩ ⟨Nat.le_of_ble_eq_true rfl, Nat.le_of_ble_eq_true rfl⟩) (k_preV C hX (hM.at 0 rfl) rfl) rfl rfl hl.1 rfl (lv_room (Nat.le_of_ble_eq_true rfl)) dX3_flipEdge_26 ⟨Nat.le_of_ble_eq_true rfl, Nat.le_of_ble_eq_true rfl⟩) hX (fun r26 f26 H locs hp26 hX => ?_)
  obtain ⟨hr26, hf26⟩ := hp26
  rw [hf26] at hX
  refine k_topi (y := (nFace aN (nI y) (nI x) (3 * fc) 0)) hr26 ?_
  refine k_topi (y := (nI t2)) (e2) ?_
  refine lv_istore (lv' := [(6, .int (nI t2)), (5, .int (nI t1)), (4, .int (nI v)), (3, .int (nI u)), (0, .ref h), (1, .int (nI x)), (2, .int (nI y))]) C.x C.b dX3_flipEdge_29 hl (by decide) rfl (fun ls hl => ?_)
  refine lv_iload C.x C.b dX3_flipEdge_31 (lv_at hl 1 rfl) ?_
  refine lv_iconst (v := -1) C.x C.b dX3_flipEdge_33 (by decide) ?_
  refine lv_icmp_eq (tgt := 43) C.x C.b dX3_flipEdge_34 (by decide) (fun c_34 => ?_) (fun c_34 => ?_)
  · skip
    exact absurd c_34 (nI_ne1 (by omega))
  · skip
    refine lv_iload C.x C.b dX3_flipEdge_37 (lv_at hl 0 rfl) ?_
    refine lv_iconst (v := -1) C.x C.b dX3_flipEdge_39 (by decide) ?_
    refine lv_icmp_ne (tgt := 45) C.x C.b dX3_flipEdge_40 (by decide) (fun c_40 => ?_) (fun c_40 => ?_)
    · skip
      refine lv_aload_n C.x C.b dX3_flipEdge_45 rfl (lv_at hl 4 rfl) ?_
      refine lv_iload_n C.x C.b dX3_flipEdge_46 rfl (lv_at hl 5 rfl) ?_
      refine lv_iload_n C.x C.b dX3_flipEdge_47 rfl (lv_at hl 6 rfl) ?_
      refine lv_iconst (v := -1) C.x C.b dX3_flipEdge_48 (by decide) ?_
      refine k_callv (va_runV (As := [.int (nI x), .int (nI y), .int (-1)]) (rest := []) C.1 (kX3_putThird l G B0 f h nA tA aN aT cc fc x y (-1) hM (by omega) (by omega) (by omega) (by omega)) (cwV 3 C.ts gX3_flipEdge_X3_putThird rfl rfl rfl ⟨rfl, hdX3_flipEdge_X3_putThird⟩ ⟨Nat.le_of_ble_eq_true rfl, Nat.le_of_ble_eq_true rfl⟩) (k_preV C hX (hM.at 0 rfl) rfl) rfl rfl hl.1 rfl (lv_room (Nat.le_of_ble_eq_true rfl)) dX3_flipEdge_49 ⟨Nat.le_of_ble_eq_true rfl, Nat.le_of_ble_eq_true rfl⟩) hX (fun f49 H locs hp49 hX => ?_)
      obtain ⟨hM, hO49⟩ := hp49
      have hO := hO.trans hO49
      have hM : kCs f49 (nW G h nA tA aN (upd aT (16 * x + y) (-1)) cc fc) := hM
      refine lv_aload_n C.x C.b dX3_flipEdge_52 rfl (lv_at hl 4 rfl) ?_
      refine lv_iload_n C.x C.b dX3_flipEdge_53 rfl (lv_at hl 6 rfl) ?_
      refine lv_iload_n C.x C.b dX3_flipEdge_54 rfl (lv_at hl 5 rfl) ?_
      refine lv_iconst (v := -1) C.x C.b dX3_flipEdge_55 (by decide) ?_
      refine k_callv (va_runV (As := [.int (nI y), .int (nI x), .int (-1)]) (rest := []) C.1 (kX3_putThird l G B0 f49 h nA tA aN (upd aT (16 * x + y) (-1)) cc fc y x (-1) hM (by omega) (by omega) (by omega) (by omega)) (cwV 3 C.ts gX3_flipEdge_X3_putThird rfl rfl rfl ⟨rfl, hdX3_flipEdge_X3_putThird⟩ ⟨Nat.le_of_ble_eq_true rfl, Nat.le_of_ble_eq_true rfl⟩) (k_preV C hX (hM.at 0 rfl) rfl) rfl rfl hl.1 rfl (lv_room (Nat.le_of_ble_eq_true rfl)) dX3_flipEdge_56 ⟨Nat.le_of_ble_eq_true rfl, Nat.le_of_ble_eq_true rfl⟩) hX (fun f56 H locs hp56 hX => ?_)
      obtain ⟨hM, hO56⟩ := hp56
      have hO := hO.trans hO56
      have hM : kCs f56 (nW G h nA tA aN (upd (upd aT (16 * x + y) (-1)) (16 * y + x) (-1)) cc fc) := hM
      refine lv_aload_n C.x C.b dX3_flipEdge_59 rfl (lv_at hl 4 rfl) ?_
      refine lv_iload C.x C.b dX3_flipEdge_60 (lv_at hl 1 rfl) ?_
      refine lv_iload_n C.x C.b dX3_flipEdge_62 rfl (lv_at hl 5 rfl) ?_
      refine lv_iload C.x C.b dX3_flipEdge_63 (lv_at hl 2 rfl) ?_
      refine lv_iload_n C.x C.b dX3_flipEdge_65 rfl (lv_at hl 3 rfl) ?_
      refine k_callv (va_runV (As := [.int (nI t1), .int (nI x), .int (nI v), .int (nI u)]) (rest := []) C.1 (kX3_putFace l G B0 f56 h nA tA aN (upd (upd aT (16 * x + y) (-1)) (16 * y + x) (-1)) cc fc t1 x v u hM (by omega) (by omega) (by omega) (by omega) (by omega) (by omega)) (cwV 4 C.ts gX3_flipEdge_X3_putFace rfl rfl rfl ⟨rfl, hdX3_flipEdge_X3_putFace⟩ ⟨Nat.le_of_ble_eq_true rfl, Nat.le_of_ble_eq_true rfl⟩) (k_preV C hX (hM.at 0 rfl) rfl) rfl rfl hl.1 rfl (lv_room (Nat.le_of_ble_eq_true rfl)) dX3_flipEdge_66 ⟨Nat.le_of_ble_eq_true rfl, Nat.le_of_ble_eq_true rfl⟩) hX (fun f66 H locs hp66 hX => ?_)
      obtain ⟨hM, hO66⟩ := hp66
      have hO := hO.trans hO66
      have hM : kCs f66 (nW G h nA tA (nPutN aN t1 x v u) (nPutT (upd (upd aT (16 * x + y) (-1)) (16 * y + x) (-1)) x v u) cc fc) := hM
      refine lv_aload_n C.x C.b dX3_flipEdge_69 rfl (lv_at hl 4 rfl) ?_
      refine lv_iload C.x C.b dX3_flipEdge_70 (lv_at hl 0 rfl) ?_
      refine lv_iload C.x C.b dX3_flipEdge_72 (lv_at hl 2 rfl) ?_
      refine lv_iload_n C.x C.b dX3_flipEdge_74 rfl (lv_at hl 6 rfl) ?_
      refine lv_iload_n C.x C.b dX3_flipEdge_75 rfl (lv_at hl 3 rfl) ?_
      refine k_callv (va_runV (As := [.int (nI t2), .int (nI v), .int (nI y), .int (nI u)]) (rest := []) C.1 (kX3_putFace l G B0 f66 h nA tA (nPutN aN t1 x v u) (nPutT (upd (upd aT (16 * x + y) (-1)) (16 * y + x) (-1)) x v u) cc fc t2 v y u hM (by omega) (by omega) (by omega) (by omega) (by omega) (by omega)) (cwV 4 C.ts gX3_flipEdge_X3_putFace rfl rfl rfl ⟨rfl, hdX3_flipEdge_X3_putFace⟩ ⟨Nat.le_of_ble_eq_true rfl, Nat.le_of_ble_eq_true rfl⟩) (k_preV C hX (hM.at 0 rfl) rfl) rfl rfl hl.1 rfl (lv_room (Nat.le_of_ble_eq_true rfl)) dX3_flipEdge_76 ⟨Nat.le_of_ble_eq_true rfl, Nat.le_of_ble_eq_true rfl⟩) hX (fun f76 H locs hp76 hX => ?_)
      obtain ⟨hM, hO76⟩ := hp76
      have hO := hO.trans hO76
      have hM : kCs f76 (nW G h nA tA (nPutN (nPutN aN t1 x v u) t2 v y u) (nPutT (nPutT (upd (upd aT (16 * x + y) (-1)) (16 * y + x) (-1)) x v u) v y u) cc fc) := hM
      refine lv_bipush (v := nI 100) C.x C.b dX3_flipEdge_79 (by decide) ?_
      refine lv_iload_n C.x C.b dX3_flipEdge_81 rfl (lv_at hl 3 rfl) ?_
      refine lv_iload C.x C.b dX3_flipEdge_82 (lv_at hl 2 rfl) ?_
      refine k_mmin C (by rw [C.ml]; exact hl.1.symm) lk_X3_flipEdge_lib63 (Nat.le_of_ble_eq_true rfl) (Nat.le_of_ble_eq_true rfl) (by have h9 : rmX3_flipEdge.cells = 0 := rfl; omega) (by have h9 : rmX3_flipEdge.slots = 0 := rfl; omega) dX3_flipEdge_84 ?_
      refine k_topi (y := (nI (if u < v then u else v))) (by simp only [nI_ltI (show v < 2 ^ 31 by omega) (show u < 2 ^ 31 by omega)]; by_cases h9 : u < v <;> by_cases h8 : v < u <;> first | omega | (simp only [h9, h8, if_true, if_false]; done) | (rw [if_neg h9, if_neg h8]; exact congrArg nI (by omega))) ?_
      refine lv_imul C.x C.b dX3_flipEdge_87 ?_
      refine k_topi (y := nI (100 * (if u < v then u else v))) (pk_mul _ _) ?_
      refine lv_iload_n C.x C.b dX3_flipEdge_88 rfl (lv_at hl 3 rfl) ?_
      refine lv_iload C.x C.b dX3_flipEdge_89 (lv_at hl 2 rfl) ?_
      refine k_mmax C (by rw [C.ml]; exact hl.1.symm) lk_X3_flipEdge_lib68 (Nat.le_of_ble_eq_true rfl) (Nat.le_of_ble_eq_true rfl) (by have h9 : rmX3_flipEdge.cells = 0 := rfl; omega) (by have h9 : rmX3_flipEdge.slots = 0 := rfl; omega) dX3_flipEdge_91 ?_
      refine k_topi (y := (nI (if u < v then v else u))) (by simp only [nI_ltI (show u < 2 ^ 31 by omega) (show v < 2 ^ 31 by omega)]; split <;> rfl) ?_
      refine lv_iadd C.x C.b dX3_flipEdge_94 ?_
      refine k_topi (y := nI ((100 * (if u < v then u else v)) + (if u < v then v else u))) (nI_add _ _) ?_
      exact k_iret C hX hr hlocks hQ (by omega) (by omega) (⟨rfl, hM, hO⟩) dX3_flipEdge_95
    · skip
      exact absurd c_40 (nI_ne1 (t := t2) (by omega))
