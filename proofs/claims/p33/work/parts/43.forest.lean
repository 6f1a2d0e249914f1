/-! sets of wires, walked wire by wire: trees and forests are counted by determinants -/
abbrev gT : Type := Option ((Nat → Nat) × Int32)
def gSt (e1 e2 : Nat → Nat) (w b : Nat) (st : gT) : gT := match st with
  | none => none
  | some x => if b = 1 then if x.1 (e1 w) = x.1 (e2 w) then none else some (fun k => if x.1 k = x.1 (e2 w) then x.1 (e1 w) else x.1 k, x.2 + -1) else some x
def gF (e1 e2 : Nat → Nat) : Nat → Nat → Nat → gT → gT
  | 0, _, _, st => st
  | m + 1, w, t, st => gF e1 e2 m (w + 1) (t / 2) (gSt e1 e2 w (t % 2) st)
theorem mPB_s (e1 e2 : Nat → Nat) (n s w : Nat) : mPB e1 e2 n s (w + 1) = gSt e1 e2 w (s / 2 ^ w % 2) (mPB e1 e2 n s w) := by
  rw [mPB]
  cases mPB e1 e2 n s w <;> rfl
theorem gF_mPB (e1 e2 : Nat → Nat) (n s : Nat) : ∀ m w, mPB e1 e2 n s (w + m) = gF e1 e2 m w (s / 2 ^ w) (mPB e1 e2 n s w)
  | 0, w => rfl
  | m + 1, w => by rw [show w + (m + 1) = (w + 1) + m by omega, gF_mPB e1 e2 n s m (w + 1), gF, mPB_s, Nat.pow_succ, ← Nat.div_div_eq_div_mul]
theorem gF_none (e1 e2 : Nat → Nat) : ∀ m w t, gF e1 e2 m w t none = none
  | 0, _, _ => rfl
  | m + 1, w, t => gF_none e1 e2 m (w + 1) (t / 2)
theorem dSum_dbl (k : Nat) (f : Nat → Int) : dSum (2 * k) f = dSum k (fun t => f (2 * t)) + dSum k (fun t => f (2 * t + 1)) := by
  induction k with
  | zero => rfl
  | succ k ih =>
    rw [show 2 * (k + 1) = 2 * k + 1 + 1 by omega]
    simp only [dSum]
    rw [ih]; omega
theorem dSum_split (a b : Nat) (f : Nat → Int) : dSum (a + b) f = dSum a f + dSum b (fun i => f (a + i)) := by
  induction b with
  | zero => simp [dSum]
  | succ b ih => rw [← Nat.add_assoc, dSum, ih, dSum]; omega
def gW (e1 e2 : Nat → Nat) (q : gT → Int) (m w : Nat) (st : gT) : Int := dSum (2 ^ m) (fun t => q (gF e1 e2 m w t st))
theorem gW_s (e1 e2 : Nat → Nat) (q : gT → Int) (m w : Nat) (st : gT) : gW e1 e2 q (m + 1) w st = gW e1 e2 q m (w + 1) (gSt e1 e2 w 0 st) + gW e1 e2 q m (w + 1) (gSt e1 e2 w 1 st) := by
  unfold gW
  rw [Nat.pow_succ, Nat.mul_comm, dSum_dbl]
  congr 1
  · refine dSum_c fun t _ => ?_
    rw [gF, show 2 * t / 2 = t by omega, show 2 * t % 2 = 0 by omega]
  · refine dSum_c fun t _ => ?_
    rw [gF, show (2 * t + 1) / 2 = t by omega, show (2 * t + 1) % 2 = 1 by omega]
theorem gW_none (e1 e2 : Nat → Nat) {q : gT → Int} (hq : q none = 0) (m w : Nat) : gW e1 e2 q m w none = 0 := by
  unfold gW
  exact dSum_0 fun t _ => by rw [gF_none, hq]
theorem kCnt_0 {P : Nat → Prop} [DecidablePred P] {n : Nat} : kCnt P n = 0 ↔ ∀ i, i < n → ¬ P i := by
  induction n with
  | zero => exact ⟨fun _ i hi => absurd hi (Nat.not_lt_zero _), fun _ => rfl⟩
  | succ n ih =>
    simp only [kCnt]
    constructor
    · intro h i hi
      by_cases q : i = n
      · subst q; intro hp; rw [if_pos hp] at h; omega
      · exact (ih.mp (by omega)) i (by omega)
    · intro h
      rw [ih.mpr (fun i hi => h i (by omega)), if_neg (h n (by omega))]
theorem kCnt_cg {P Q : Nat → Prop} [DecidablePred P] [DecidablePred Q] {n : Nat} (h : ∀ i, i < n → (P i ↔ Q i)) : kCnt P n = kCnt Q n := by
  induction n with
  | zero => rfl
  | succ n ih =>
    simp only [kCnt]
    rw [ih (fun i hi => h i (by omega))]
    by_cases q : P n
    · rw [if_pos q, if_pos ((h n (by omega)).mp q)]
    · rw [if_neg q, if_neg (fun z => q ((h n (by omega)).mpr z))]
theorem kCnt_rm {P Q : Nat → Prop} [DecidablePred P] [DecidablePred Q] {n o : Nat} (ho : o < n) (hp : P o) (h : ∀ i, i < n → (Q i ↔ P i ∧ i ≠ o)) : kCnt Q n + 1 = kCnt P n := by
  induction n with
  | zero => omega
  | succ n ih =>
    simp only [kCnt]
    by_cases q : o = n
    · subst q
      rw [if_pos hp, if_neg (fun z => ((h o (by omega)).mp z).2 rfl), kCnt_cg (P := Q) (Q := P) (fun i hi => ⟨fun z => ((h i (by omega)).mp z).1, fun z => (h i (by omega)).mpr ⟨z, by omega⟩⟩)]
    · have e := ih (by omega) (fun i hi => h i (by omega))
      by_cases z : P n
      · rw [if_pos z, if_pos ((h n (by omega)).mpr ⟨z, by omega⟩)]; omega
      · rw [if_neg z, if_neg (fun y => z ((h n (by omega)).mp y).1)]; omega
theorem kCnt_int {P : Nat → Prop} [DecidablePred P] (n : Nat) : (kCnt P n : Int) = dSum n (fun i => if P i then 1 else 0) := by
  induction n with
  | zero => rfl
  | succ n ih => simp only [kCnt, dSum]; rw [← ih]; split <;> omega
abbrev tCt (n : Nat) (on : Nat → Bool) : Nat := kCnt (fun i => on i = true) n
/-- labels; which are parts but the ground's; how many parts -/
def tI (n g : Nat) (p : Nat → Nat) (on : Nat → Bool) (c : Int32) : Prop := (∀ k, k < n → p k < n) ∧ (∀ k, k < n → (on (p k) = true ↔ p k ≠ p g)) ∧ (∀ i, on i = true → ∃ k, k < n ∧ p k = i) ∧ c = nI (tCt n on + 1)
theorem tI_start {n g : Nat} (hg : g < n) (hn : n < 2 ^ 31) : tI n g (fun k => k) (fun i => decide (i < n ∧ i ≠ g)) (nI n) := by
  refine ⟨fun k hk => hk, fun k hk => ?_, fun i hi => ?_, ?_⟩
  · simp [hk]
  · have := of_decide_eq_true hi; exact ⟨i, this.1, rfl⟩
  · have h := kCnt_rm (P := fun _ => True) (Q := fun i => decide (i < n ∧ i ≠ g) = true) (n := n) hg trivial (fun i hi => by simp [hi])
    have h2 : ∀ m, kCnt (fun _ => True) m = m := by
      intro m
      induction m with
      | zero => rfl
      | succ m ih => simp only [kCnt]; rw [ih]; rfl
    rw [h2] at h
    show nI n = nI (kCnt (fun i => decide (i < n ∧ i ≠ g) = true) n + 1)
    rw [h]
theorem tI_step {n g : Nat} {p : Nat → Nat} {on : Nat → Bool} {c : Int32} (hg : g < n) (h : tI n g p on c) {a b : Nat} (ha : a < n) (hb : b < n) (hab : p a ≠ p b) : ∃ o, ((on (p b) = false ∧ on (p a) = true ∧ o = p a) ∨ (on (p b) = true ∧ o = p b)) ∧ tI n g (tMg p (p a) (p b)) (tOff on o) (c + -1) := by
  obtain ⟨h1, h2, h3, h4⟩ := h
  have key : ∀ o, o < n → on o = true → c + -1 = nI (tCt n (tOff on o) + 1) := fun o ho hon => by
    have e := kCnt_rm (P := fun i => on i = true) (Q := fun i => tOff on o i = true) ho hon (fun i _ => tOff_t)
    rw [h4]
    show nI (tCt n on + 1) + -1 = _
    rw [nI_dec (by omega)]
    congr 1
    show kCnt _ n + 1 - 1 = kCnt _ n + 1
    omega
  have hlt : ∀ k, k < n → tMg p (p a) (p b) k < n := fun k hk => by
    simp only [tMg]; split
    · exact h1 a ha
    · exact h1 k hk
  by_cases q : on (p b) = true
  · refine ⟨p b, Or.inr ⟨q, rfl⟩, hlt, fun k hk => ?_, fun i hi => ?_, key _ (h1 b hb) q⟩
    · have hbg : p b ≠ p g := (h2 b hb).mp q
      have eg : tMg p (p a) (p b) g = p g := if_neg (Ne.symm hbg)
      rw [eg, tOff_t]
      simp only [tMg]
      by_cases z : p k = p b
      · rw [if_pos z]
        exact ⟨fun y => (h2 a ha).mp y.1, fun y => ⟨(h2 a ha).mpr y, hab⟩⟩
      · rw [if_neg z]
        exact ⟨fun y => (h2 k hk).mp y.1, fun y => ⟨(h2 k hk).mpr y, z⟩⟩
    · rw [tOff_t] at hi
      obtain ⟨k, hk, e⟩ := h3 i hi.1
      exact ⟨k, hk, by rw [← e]; exact if_neg (fun z => hi.2 (by rw [← e, z]))⟩
  · have hbg : p b = p g := Decidable.byContradiction fun z => q ((h2 b hb).mpr z)
    have hao : on (p a) = true := (h2 a ha).mpr (by rw [← hbg]; exact hab)
    refine ⟨p a, Or.inl ⟨by simpa using q, hao, rfl⟩, hlt, fun k hk => ?_, fun i hi => ?_, key _ (h1 a ha) hao⟩
    · have eg : tMg p (p a) (p b) g = p a := if_pos hbg.symm
      rw [eg, tOff_t]
      simp only [tMg]
      by_cases z : p k = p b
      · rw [if_pos z]
        exact ⟨fun y => absurd rfl y.2, fun y => absurd rfl y⟩
      · rw [if_neg z]
        exact ⟨fun y => y.2, fun y => ⟨(h2 k hk).mpr (by rw [← hbg]; exact z), y⟩⟩
    · rw [tOff_t] at hi
      obtain ⟨k, hk, e⟩ := h3 i hi.1
      refine ⟨k, hk, ?_⟩
      rw [← e]
      refine if_neg (fun z => ?_)
      rw [← e, z] at hi
      exact q hi.1
def tQ (st : gT) : Int := match st with
  | none => 0
  | some x => if x.2 = nI 1 then 1 else 0
theorem gW_tree {n g : Nat} {e1 e2 : Nat → Nat} (hg : g < n) (hn : n < 1000) : ∀ (m w : Nat) (p : Nat → Nat) (on : Nat → Bool) (c : Int32), tI n g p on c → (∀ k, w ≤ k → k < w + m → e1 k < n ∧ e2 k < n) → gW e1 e2 tQ m w (some (p, c)) = dDet n (tA on p e1 e2 m w) := by
  intro m
  induction m with
  | zero =>
    intro w p on c h he
    rw [tA_base]
    show dSum 1 _ = _
    rw [show dSum 1 (fun t => tQ (gF e1 e2 0 w t (some (p, c)))) = tQ (some (p, c)) from by simp [dSum, gF]]
    show (if c = nI 1 then (1 : Int) else 0) = _
    have hc : tCt n on ≤ n := kCnt_le _ _
    rw [h.2.2.2]
    have e : (nI (tCt n on + 1) = nI 1) ↔ ∀ i, i < n → on i = false := by
      rw [nI_eq (by omega) (by omega)]
      refine Iff.trans (b := tCt n on = 0) (by omega) (Iff.trans kCnt_0 ⟨fun z i hi => by simpa using z i hi, fun z i hi => by simp [z i hi]⟩)
    by_cases q : nI (tCt n on + 1) = nI 1
    · rw [if_pos q, if_pos (e.mp q)]
    · rw [if_neg q, if_neg (fun z => q (e.mpr z))]
  | succ m ih =>
    intro w p on c h he
    rw [gW_s]
    have hw := he w (Nat.le_refl _) (by omega)
    have h0 : gSt e1 e2 w 0 (some (p, c)) = some (p, c) := rfl
    rw [h0, ih (w + 1) p on c h (fun k a b => he k (by omega) (by omega))]
    by_cases q : p (e1 w) = p (e2 w)
    · have h9 : gSt e1 e2 w 1 (some (p, c)) = none := if_pos q
      rw [h9, gW_none _ _ rfl, Int.add_zero]
      congr 1
      funext i j
      simp only [tA]
      rw [tS_same q]
    · have h9 : gSt e1 e2 w 1 (some (p, c)) = some (tMg p (p (e1 w)) (p (e2 w)), c + -1) := if_neg q
      obtain ⟨o, ho, hI⟩ := tI_step hg h hw.1 hw.2 q
      rw [h9, ih (w + 1) _ _ _ hI (fun k a b => he k (by omega) (by omega)), tA_step (h.1 _ hw.1) (h.1 _ hw.2) q ho]
abbrev tOn (n g : Nat) : Nat → Bool := fun i => decide (i < n ∧ i ≠ g)
abbrev tId : Nat → Nat := fun k => k
/-- the trees -/
theorem trees_det {n g sz : Nat} {e1 e2 : Nat → Nat} (hg : g < n) (hn : n < 1000) (he : ∀ k, k < sz → e1 k < n ∧ e2 k < n) : dSum (2 ^ sz) (fun s => tQ (mPB e1 e2 n s sz)) = dDet n (tA (tOn n g) tId e1 e2 sz 0) := by
  rw [← gW_tree hg hn sz 0 tId (tOn n g) (nI n) (tI_start hg (by omega)) (fun k _ h => he k (by omega))]
  refine dSum_c fun s _ => ?_
  have := gF_mPB e1 e2 n s sz 0
  rw [Nat.zero_add, Nat.pow_zero, Nat.div_one] at this
  rw [this]; rfl
theorem mTrees_det {n g sz : Nat} {e1 e2 : Nat → Nat} (hg : g < n) (hn : n < 1000) (he : ∀ k, k < sz → e1 k < n ∧ e2 k < n) : (mTrees e1 e2 n sz : Int) = dDet n (tA (tOn n g) tId e1 e2 sz 0) := by
  rw [← trees_det hg hn he, mTrees, kCnt_int]
  refine dSum_c fun s _ => ?_
  unfold mPV tQ
  cases mPB e1 e2 n s sz with
  | none => rfl
  | some x => rfl
/-- every walk keeps the labels in order -/
theorem mPB_I {n g : Nat} {e1 e2 : Nat → Nat} (hg : g < n) (hn : n < 1000) (s : Nat) : ∀ w, (∀ k, k < w → e1 k < n ∧ e2 k < n) → ∀ x, mPB e1 e2 n s w = some x → ∃ on, tI n g x.1 on x.2 := by
  intro w
  induction w with
  | zero =>
    intro _ x h
    have : some (tId, nI n) = some x := h
    cases this
    exact ⟨_, tI_start hg (by omega)⟩
  | succ w ih =>
    intro he x h
    rw [mPB_s] at h
    cases hm : mPB e1 e2 n s w with
    | none => rw [hm] at h; cases h
    | some y =>
      rw [hm] at h
      obtain ⟨on, hy⟩ := ih (fun k hk => he k (by omega)) y hm
      have hw := he w (by omega)
      by_cases hb : s / 2 ^ w % 2 = 1
      · by_cases q : y.1 (e1 w) = y.1 (e2 w)
        · have : (none : gT) = some x := by rw [← h]; simp only [gSt]; rw [if_pos hb, if_pos q]
          cases this
        · have : some (tMg y.1 (y.1 (e1 w)) (y.1 (e2 w)), y.2 + -1) = some x := by rw [← h]; simp only [gSt]; rw [if_pos hb, if_neg q]
          cases this
          obtain ⟨o, -, hI⟩ := tI_step hg hy hw.1 hw.2 q
          exact ⟨_, hI⟩
      · have : some y = some x := by rw [← h]; simp only [gSt]; rw [if_neg hb]
        cases this
        exact ⟨on, hy⟩
theorem mPB_wires {n s : Nat} {e1 e2 d1 d2 : Nat → Nat} : ∀ w, (∀ k, k < w → e1 k = d1 k ∧ e2 k = d2 k) → mPB e1 e2 n s w = mPB d1 d2 n s w := by
  intro w
  induction w with
  | zero => intro _; rfl
  | succ w ih =>
    intro h
    rw [mPB_s, mPB_s, ih (fun k hk => h k (by omega))]
    have := h w (by omega)
    simp only [gSt]
    rw [this.1, this.2]
theorem mPB_bits {n s t : Nat} {e1 e2 : Nat → Nat} : ∀ w, (∀ k, k < w → s / 2 ^ k % 2 = t / 2 ^ k % 2) → mPB e1 e2 n s w = mPB e1 e2 n t w := by
  intro w
  induction w with
  | zero => intro _; rfl
  | succ w ih =>
    intro h
    rw [mPB_s, mPB_s, ih (fun k hk => h k (by omega)), h w (by omega)]
/-- two parts that keep u and v apart -/
def nQ (u v : Nat) (st : gT) : Int := match st with
  | none => 0
  | some x => if x.2 + -1 = nI 1 ∧ ¬ x.1 u = x.1 v then 1 else 0
abbrev tX (e : Nat → Nat) (sz u : Nat) : Nat → Nat := fun k => if k = sz then u else e k
theorem nQ_sum {n sz u v : Nat} {e1 e2 : Nat → Nat} : dSum (2 ^ (sz + 1)) (fun s => tQ (mPB (tX e1 sz u) (tX e2 sz v) n s (sz + 1))) = dSum (2 ^ sz) (fun s => tQ (mPB e1 e2 n s sz)) + dSum (2 ^ sz) (fun s => nQ u v (mPB e1 e2 n s sz)) := by
  rw [Nat.pow_succ, Nat.mul_comm, Nat.two_mul, dSum_split]
  have hw : ∀ s, mPB (tX e1 sz u) (tX e2 sz v) n s sz = mPB e1 e2 n s sz := fun s => mPB_wires sz fun k hk => ⟨if_neg (by omega), if_neg (by omega)⟩
  have x1 : tX e1 sz u sz = u := if_pos rfl
  have x2 : tX e2 sz v sz = v := if_pos rfl
  congr 1
  · refine dSum_c fun s hs => ?_
    rw [mPB_s, hw, Nat.div_eq_of_lt hs]
    cases mPB e1 e2 n s sz with
    | none => rfl
    | some x => rfl
  · refine dSum_c fun s hs => ?_
    have hb : (2 ^ sz + s) / 2 ^ sz % 2 = 1 := by
      rw [Nat.add_div_left _ (Nat.two_pow_pos sz), Nat.div_eq_of_lt hs]
    rw [mPB_s, hw, hb, mPB_bits (s := 2 ^ sz + s) (t := s) sz (fun k hk => by
      obtain ⟨d, rfl⟩ : ∃ d, sz = k + 1 + d := ⟨sz - (k + 1), by omega⟩
      rw [show 2 ^ (k + 1 + d) = 2 ^ k * (2 * 2 ^ d) from by rw [Nat.pow_add, Nat.pow_succ, Nat.mul_assoc], Nat.mul_add_div (Nat.two_pow_pos k)]
      omega)]
    cases mPB e1 e2 n s sz with
    | none => rfl
    | some x =>
      simp only [gSt, if_pos, x1, x2]
      by_cases q : x.1 u = x.1 v
      · rw [if_pos q]
        simp only [tQ, nQ]
        rw [if_neg (fun z => z.2 q)]
      · rw [if_neg q]
        simp only [tQ, nQ]
        by_cases z : x.2 + -1 = nI 1
        · rw [if_pos z, if_pos ⟨z, q⟩]
        · rw [if_neg z, if_neg (fun y => z y.1)]
theorem tS_snoc {p e1 e2 : Nat → Nat} {i j : Nat} : ∀ m w, tS p e1 e2 (m + 1) w i j = tS p e1 e2 m w i j + tV (p (e1 (w + m))) (p (e2 (w + m))) i * tV (p (e1 (w + m))) (p (e2 (w + m))) j
  | 0, w => by simp [tS]
  | m + 1, w => by
    rw [tS, tS_snoc m (w + 1), tS, show w + 1 + m = w + (m + 1) by omega]; omega
theorem tS_wires {p e1 e2 d1 d2 : Nat → Nat} : ∀ m w, (∀ k, w ≤ k → k < w + m → e1 k = d1 k ∧ e2 k = d2 k) → tS p e1 e2 m w = tS p d1 d2 m w
  | 0, w, _ => rfl
  | m + 1, w, h => by
    have h0 := h w (Nat.le_refl _) (by omega)
    funext i j
    rw [tS, tS, tS_wires m (w + 1) (fun k a b => h k (by omega) (by omega)), h0.1, h0.2]
/-- a row in place of a row -/
abbrev tK (n : Nat) (A : Nat → Nat → Int) (u v : Nat) : Int := dDet n (dRow A u (fun j => tD j v))
section TK
variable {n g sz u v : Nat} {e1 e2 : Nat → Nat}
theorem tA_more (hu : u < n) (hv : v < n) (hug : u ≠ g) : tA (tOn n g) tId (tX e1 sz u) (tX e2 sz v) (sz + 1) 0 = fun i j => tA (tOn n g) tId e1 e2 sz 0 i j + (if v = g then tD i u * tD j u else tV u v i * tV u v j) := by
  funext i j
  have x1 : tX e1 sz u sz = u := if_pos rfl
  have x2 : tX e2 sz v sz = v := if_pos rfl
  simp only [tA]
  by_cases q : tOn n g i = true ∧ tOn n g j = true
  · rw [if_pos q, if_pos q, tS_snoc, tS_wires (d1 := e1) (d2 := e2) sz 0 (fun k _ hk => ⟨if_neg (by omega), if_neg (by omega)⟩), Nat.zero_add, x1, x2]
    have q1 := of_decide_eq_true q.1
    have q2 := of_decide_eq_true q.2
    split
    · rename_i hvg
      simp only [tV]
      rw [hvg, tD_n (b := g) q1.2, tD_n (b := g) q2.2]; grind
    · rfl
  · rw [if_neg q, if_neg q]
    have off : ∀ a : Nat, ¬ tOn n g a = true → a ≠ u := fun a ha hz => ha (decide_eq_true ⟨by omega, by rw [hz]; exact hug⟩)
    split
    · by_cases q2 : tOn n g i = true
      · rw [tD_n (b := u) (off j (fun z => q ⟨q2, z⟩))]; omega
      · rw [tD_n (b := u) (off i q2)]; omega
    · rename_i hvg
      have off2 : ∀ a : Nat, ¬ tOn n g a = true → a ≠ v := fun a ha hz => ha (decide_eq_true ⟨by omega, by rw [hz]; exact hvg⟩)
      simp only [tV]
      by_cases q2 : tOn n g i = true
      · rw [tD_n (b := u) (off j (fun z => q ⟨q2, z⟩)), tD_n (b := v) (off2 j (fun z => q ⟨q2, z⟩))]; omega
      · rw [tD_n (b := u) (off i q2), tD_n (b := v) (off2 i q2)]; omega
theorem dDet_row1 (hu : u < n) (A : Nat → Nat → Int) : dDet n (fun i j => A i j + tD i u * tD j u) = dDet n A + tK n A u u := by
  have e : (fun i j => A i j + tD i u * tD j u) = dRow A u (fun j => A u j + tD j u) := by
    funext i j
    simp only [dRow]
    by_cases h : i = u
    · subst h; rw [if_pos rfl, tD_s]; omega
    · rw [if_neg h, tD_n h]; omega
  rw [e, (dDet_alt n).add A hu, dRow_id]
theorem dDet_row2 (hu : u < n) (hv : v < n) (huv : u ≠ v) (A : Nat → Nat → Int) : dDet n (fun i j => A i j + tV u v i * tV u v j) = dDet n A + tK n A u u + tK n A v v - tK n A u v - tK n A v u := by
  have e : (fun i j => A i j + tV u v i * tV u v j) = dRow (dRow A u (fun j => A u j + (1 * tD j u + -1 * tD j v))) v (fun j => A v j + (1 * tD j v + -1 * tD j u)) := by
    funext i j
    simp only [dRow, tV]
    by_cases h : i = v
    · subst h; rw [if_pos rfl, tD_s, tD_n (Ne.symm huv)]; omega
    · rw [if_neg h]
      by_cases h2 : i = u
      · subst h2; rw [if_pos rfl, tD_s, tD_n huv]; omega
      · rw [if_neg h2, tD_n h2, tD_n h]; omega
  have D := dDet_alt n
  have e1 : ∀ x : Nat → Int, dDet n (dRow (dRow A u x) v (A v)) = dDet n (dRow A u x) := fun x => by
    rw [dRow_comm _ huv, dRow_id]
  have z : dDet n (dRow (dRow A u (fun j => 1 * tD j u + -1 * tD j v)) v (fun j => 1 * tD j v + -1 * tD j u)) = 0 := by
    have h2 := D.plus (r := v) (s := u) hv hu (Ne.symm huv) (dRow (dRow A u (fun j => 1 * tD j u + -1 * tD j v)) v (fun j => 1 * tD j v + -1 * tD j u)) 1
    rw [← h2, dRow_s, dRow_n _ _ huv, dRow_s, dRow_rr]
    have h3 : (fun j => 1 * tD j v + -1 * tD j u + 1 * (1 * tD j u + -1 * tD j v)) = (fun j => 0 * tD j u) := by funext j; omega
    rw [h3, D.mul _ hv]; omega
  have h1 := D.add (dRow A u (fun j => A u j + (1 * tD j u + -1 * tD j v))) hv (A v) (fun j => 1 * tD j v + -1 * tD j u)
  have h3 := D.add A hu (A u) (fun j => 1 * tD j u + -1 * tD j v)
  have h4 := D.add (dRow A v (fun j => 1 * tD j v + -1 * tD j u)) hu (A u) (fun j => 1 * tD j u + -1 * tD j v)
  have h5 : dDet n (dRow (dRow A v (fun j => 1 * tD j v + -1 * tD j u)) u (A u)) = dDet n (dRow A v (fun j => 1 * tD j v + -1 * tD j u)) := by rw [dRow_comm _ (Ne.symm huv), dRow_id]
  have h6 : dDet n (dRow (dRow A v (fun j => 1 * tD j v + -1 * tD j u)) u (fun j => 1 * tD j u + -1 * tD j v)) = 0 := by rw [dRow_comm _ (Ne.symm huv)]; exact z
  have h7 := dDet_row n A u (fun j => tD j u) (fun j => tD j v) 1 (-1) hu
  have h8 := dDet_row n A v (fun j => tD j v) (fun j => tD j u) 1 (-1) hv
  rw [e, h1, e1, h3, dRow_id, dRow_comm _ huv, h4, h5, h6, h7, h8]
  show _ = dDet n A + dDet n (dRow A u (fun j => tD j u)) + dDet n (dRow A v (fun j => tD j v)) - dDet n (dRow A u (fun j => tD j v)) - dDet n (dRow A v (fun j => tD j u))
  omega
/-- a column in place of a column -/
theorem dDet_colK (hu : u < n) (hv : v < n) (A : Nat → Nat → Int) : dDet n (fun i j => if j = v then tD i u else A i j) = tK n A u v := by
  have h1 := dDet_clear hu hv A
  have h2 := dDet_clear hv hu (dTr A)
  have h3 : dDet n (fun i j => if j = v then tD i u else A i j) = dDet n (dRow (dTr A) v (fun j => tD j u)) := by
    rw [← dDet_tr n (dRow (dTr A) v (fun j => tD j u))]
    rfl
  rw [h3, h2, tK, h1, ← dDet_tr]
  congr 1
  funext i j
  show (if j = v then tD i u else if i = u then 0 else A i j) = (if i = u then tD j v else if j = v then 0 else A i j)
  by_cases q1 : j = v
  · rw [if_pos q1, if_pos q1]
    by_cases q2 : i = u
    · rw [if_pos q2, q1, q2, tD_s, tD_s]
    · rw [if_neg q2, tD_n q2]
  · rw [if_neg q1, if_neg q1]
    by_cases q2 : i = u
    · rw [if_pos q2, if_pos q2, tD_n q1]
    · rw [if_neg q2, if_neg q2]
theorem tK_sym (hu : u < n) (hv : v < n) {A : Nat → Nat → Int} (hA : ∀ i j, A i j = A j i) : tK n A u v = tK n A v u := by
  rw [← dDet_colK hv hu A, tK, ← dDet_tr]
  congr 1
  funext i j
  show (if j = u then tD i v else A j i) = (if j = u then tD i v else A i j)
  rw [hA]
theorem tS_sym (p e1 e2 : Nat → Nat) (i j : Nat) : ∀ m w, tS p e1 e2 m w i j = tS p e1 e2 m w j i
  | 0, _ => rfl
  | m + 1, w => by rw [tS, tS, tS_sym p e1 e2 i j m (w + 1), Int.mul_comm]
theorem tA_sym (on : Nat → Bool) (p : Nat → Nat) (m w i j : Nat) : tA on p e1 e2 m w i j = tA on p e1 e2 m w j i := by
  simp only [tA]
  by_cases q : on i = true ∧ on j = true
  · rw [if_pos q, if_pos ⟨q.2, q.1⟩, tS_sym]
  · rw [if_neg q, if_neg (fun z => q ⟨z.2, z.1⟩), tD_c]
theorem nQ_g (hg : g < n) (hn : n < 1000) (he : ∀ k, k < sz → e1 k < n ∧ e2 k < n) (hu : u < n) (hug : u ≠ g) : dSum (2 ^ sz) (fun s => nQ u g (mPB e1 e2 n s sz)) = tK n (tA (tOn n g) tId e1 e2 sz 0) u u := by
  have h1 := nQ_sum (n := n) (sz := sz) (u := u) (v := g) (e1 := e1) (e2 := e2)
  rw [trees_det hg hn he, trees_det (e1 := tX e1 sz u) (e2 := tX e2 sz g) hg hn (fun k hk => ⟨by simp only [tX]; split; exact hu; exact (he k (by omega)).1, by simp only [tX]; split; exact hg; exact (he k (by omega)).2⟩), tA_more hu hg hug] at h1
  simp only [if_pos] at h1
  rw [dDet_row1 hu] at h1
  omega
theorem nQ_2 (hg : g < n) (hn : n < 1000) (he : ∀ k, k < sz → e1 k < n ∧ e2 k < n) (hu : u < n) (hug : u ≠ g) (hv : v < n) (hvg : v ≠ g) (huv : u ≠ v) : dSum (2 ^ sz) (fun s => nQ u v (mPB e1 e2 n s sz)) = tK n (tA (tOn n g) tId e1 e2 sz 0) u u + tK n (tA (tOn n g) tId e1 e2 sz 0) v v - 2 * tK n (tA (tOn n g) tId e1 e2 sz 0) u v := by
  have h1 := nQ_sum (n := n) (sz := sz) (u := u) (v := v) (e1 := e1) (e2 := e2)
  rw [trees_det hg hn he, trees_det (e1 := tX e1 sz u) (e2 := tX e2 sz v) hg hn (fun k hk => ⟨by simp only [tX]; split; exact hu; exact (he k (by omega)).1, by simp only [tX]; split; exact hv; exact (he k (by omega)).2⟩), tA_more hu hv hug] at h1
  simp only [if_neg hvg] at h1
  rw [dDet_row2 hu hv huv, tK_sym hv hu (tA_sym _ _ _ _)] at h1
  omega
def hQ (f t i : Nat) (st : gT) : Int := match st with
  | none => 0
  | some x => if x.2 = nI 2 ∧ ¬ x.1 f = x.1 t ∧ x.1 i = x.1 f then 1 else 0
theorem hQ_two (hg : g < n) (hn : n < 1000) (he : ∀ k, k < sz → e1 k < n ∧ e2 k < n) (hu : u < n) (hv : v < n) (s : Nat) : 2 * hQ u g v (mPB e1 e2 n s sz) = nQ u g (mPB e1 e2 n s sz) + nQ v g (mPB e1 e2 n s sz) - nQ u v (mPB e1 e2 n s sz) := by
  cases hm : mPB e1 e2 n s sz with
  | none => rfl
  | some x =>
    obtain ⟨on, h1, h2, h3, h4⟩ := mPB_I hg hn s sz he x hm
    simp only [hQ, nQ]
    have hc : tCt n on ≤ n := kCnt_le _ _
    have e1 : x.2 + -1 = nI (tCt n on) := by rw [h4, nI_dec (by omega)]; rfl
    have e2 : (x.2 = nI 2) ↔ (x.2 + -1 = nI 1) := by rw [e1, h4, nI_eq (by omega) (by omega), nI_eq (by omega) (by omega)]; omega
    by_cases q : x.2 + -1 = nI 1
    · have q2 := e2.mpr q
      rw [e1, nI_eq (by omega) (by omega)] at q
      have one : ∀ a b, a < n → b < n → on a = true → on b = true → a = b := fun a b ha hb hoa hob => by
        refine Decidable.byContradiction fun z => ?_
        have k1 := kCnt_rm (P := fun i => on i = true) (Q := fun i => tOff on a i = true) ha hoa (fun i _ => tOff_t)
        have k2 := kCnt_rm (P := fun i => tOff on a i = true) (Q := fun i => tOff (tOff on a) b i = true) hb (tOff_t.mpr ⟨hob, Ne.symm z⟩) (fun i _ => tOff_t)
        have k3 : kCnt (fun i => on i = true) n = 1 := q
        omega
      have q0 : x.2 + -1 = nI 1 := e2.mp q2
      by_cases a : x.1 u = x.1 g <;> by_cases b : x.1 v = x.1 g
      · rw [if_neg (fun z => z.2.1 a), if_neg (fun z => z.2 a), if_neg (fun z => z.2 b), if_neg (fun z => z.2 (a.trans b.symm))]; rfl
      · rw [if_neg (fun z => z.2.1 a), if_neg (fun z => z.2 a), if_pos ⟨q0, b⟩, if_pos ⟨q0, fun z => b (z ▸ a)⟩]; rfl
      · rw [if_neg (fun z => a (by rw [← z.2.2]; exact b)), if_pos ⟨q0, a⟩, if_neg (fun z => z.2 b), if_pos ⟨q0, fun z => a (z.trans b)⟩]; rfl
      · have e := one _ _ (h1 u hu) (h1 v hv) ((h2 u hu).mpr a) ((h2 v hv).mpr b)
        rw [if_pos ⟨q2, a, e.symm⟩, if_pos ⟨q0, a⟩, if_pos ⟨q0, b⟩, if_neg (fun z => z.2 e)]; rfl
    · rw [if_neg (fun z => q (e2.mp z.1)), if_neg (fun z => q z.1), if_neg (fun z => q z.1), if_neg (fun z => q z.1)]; rfl
/-- the height: the determinant with a column in place of a column -/
theorem height_det (hg : g < n) (hn : n < 1000) (he : ∀ k, k < sz → e1 k < n ∧ e2 k < n) (hu : u < n) (hug : u ≠ g) (hv : v < n) (hvg : v ≠ g) : (mHeight e1 e2 n sz u g v : Int) = dDet n (fun i j => if j = v then tD i u else tA (tOn n g) tId e1 e2 sz 0 i j) := by
  have h0 : (mHeight e1 e2 n sz u g v : Int) = dSum (2 ^ sz) (fun s => hQ u g v (mPB e1 e2 n s sz)) := by
    rw [mHeight, kCnt_int]
    refine dSum_c fun s _ => ?_
    unfold mHB hQ
    cases mPB e1 e2 n s sz with
    | none => rfl
    | some x =>
      simp only [Bool.and_eq_true, Bool.not_eq_true', decide_eq_true_eq, decide_eq_false_iff_not]
  have h1 : 2 * dSum (2 ^ sz) (fun s => hQ u g v (mPB e1 e2 n s sz)) = dSum (2 ^ sz) (fun s => nQ u g (mPB e1 e2 n s sz)) + dSum (2 ^ sz) (fun s => nQ v g (mPB e1 e2 n s sz)) - dSum (2 ^ sz) (fun s => nQ u v (mPB e1 e2 n s sz)) := by
    rw [← dSum_mul, ← dSum_add, Int.sub_eq_add_neg, ← dSum_neg, ← dSum_add]
    refine dSum_c fun s _ => ?_
    rw [hQ_two hg hn he hu hv]; omega
  rw [h0, dDet_colK hu hv]
  rw [nQ_g hg hn he hu hug, nQ_g hg hn he hv hvg] at h1
  by_cases huv : u = v
  · subst huv
    rw [dSum_0 (f := fun s => nQ u u (mPB e1 e2 n s sz)) (fun s _ => by
      cases mPB e1 e2 n s sz with
      | none => rfl
      | some x => simp [nQ])] at h1
    omega
  · rw [nQ_2 hg hn he hu hug hv hvg huv] at h1
    omega
theorem height_0 {f i : Nat} : mHeight e1 e2 n sz f i i = 0 := by
  rw [mHeight, kCnt_0]
  intro s _ h
  unfold mHB at h
  cases hm : mPB e1 e2 n s sz with
  | none => rw [hm] at h; cases h
  | some x =>
    rw [hm] at h
    simp only [Bool.and_eq_true, Bool.not_eq_true', decide_eq_true_eq, decide_eq_false_iff_not] at h
    exact h.2.1 h.2.2.symm
end TK
