/-! nets: faces, thirds, links of corners -/
def Rot (a b c x y z : Nat) : Prop := (x = a ∧ y = b ∧ z = c) ∨ (x = b ∧ y = c ∧ z = a) ∨ (x = c ∧ y = a ∧ z = b)
abbrev nTh : Type := Nat → Nat → Option Nat
def pT (th : nTh) (a b c : Nat) : nTh := fun x y => if x = a ∧ y = b then some c else if x = b ∧ y = c then some a else if x = c ∧ y = a then some b else th x y
def pR (th : nTh) (a b c : Nat) : nTh := fun x y => if x = a ∧ y = b then none else if x = b ∧ y = c then none else if x = c ∧ y = a then none else th x y
def pO (fo : Nat → Nat → Nat) (t a b c : Nat) : Nat → Nat → Nat := fun x y => if x = a ∧ y = b then t else if x = b ∧ y = c then t else if x = c ∧ y = a then t else fo x y
def u3 (F : Nat → Nat) (t a b c : Nat) : Nat → Nat := fun s => if s = 3 * t then a else if s = 3 * t + 1 then b else if s = 3 * t + 2 then c else F s
def pN (F : Nat → Nat) (t a b c : Nat) : Nat → Nat := if a < b ∧ a < c then u3 F t a b c else if b < c then u3 F t b c a else u3 F t c a b
theorem u3_0 (F : Nat → Nat) (t a b c : Nat) : u3 F t a b c (3 * t) = a := if_pos rfl
theorem u3_1 (F : Nat → Nat) (t a b c : Nat) : u3 F t a b c (3 * t + 1) = b := by rw [u3, if_neg (by omega), if_pos rfl]
theorem u3_2 (F : Nat → Nat) (t a b c : Nat) : u3 F t a b c (3 * t + 2) = c := by rw [u3, if_neg (by omega), if_neg (by omega), if_pos rfl]
theorem u3_n (F : Nat → Nat) (t a b c : Nat) {s : Nat} (h : s / 3 ≠ t) : u3 F t a b c s = F s := by rw [u3, if_neg (by omega), if_neg (by omega), if_neg (by omega)]
theorem pN_n (F : Nat → Nat) (t a b c : Nat) {s : Nat} (h : s / 3 ≠ t) : pN F t a b c s = F s := by
  unfold pN; split
  · exact u3_n _ _ _ _ _ h
  · split <;> exact u3_n _ _ _ _ _ h
/-- a face: its corners, the lowest first -/
def nOk (N : Nat → Nat) (t : Nat) : Prop := N (3 * t) < N (3 * t + 1) ∧ N (3 * t) < N (3 * t + 2) ∧ N (3 * t + 1) ≠ N (3 * t + 2)
abbrev nRot (N : Nat → Nat) (t x y z : Nat) : Prop := Rot (N (3 * t)) (N (3 * t + 1)) (N (3 * t + 2)) x y z
theorem pN_face {F : Nat → Nat} {t a b c : Nat} (h1 : a ≠ b) (h2 : b ≠ c) (h3 : a ≠ c) : nOk (pN F t a b c) t ∧ ∀ x y z, nRot (pN F t a b c) t x y z ↔ Rot a b c x y z := by
  unfold nOk nRot pN
  split
  · rw [u3_0, u3_1, u3_2]; exact ⟨⟨by omega, by omega, h2⟩, fun x y z => Iff.rfl⟩
  · split
    · rw [u3_0, u3_1, u3_2]; refine ⟨⟨by omega, by omega, by omega⟩, fun x y z => ?_⟩
      unfold Rot; omega
    · rw [u3_0, u3_1, u3_2]; refine ⟨⟨by omega, by omega, by omega⟩, fun x y z => ?_⟩
      unfold Rot; omega
/-- faces and thirds fit -/
def nFit (ok : Nat → Prop) (N : Nat → Nat) (th : nTh) (fo : Nat → Nat → Nat) : Prop :=
  (∀ t, ok t → nOk N t) ∧ (∀ t, ok t → ∀ x y z, nRot N t x y z → th x y = some z ∧ fo x y = t) ∧ ∀ x y z, th x y = some z → ok (fo x y) ∧ nRot N (fo x y) x y z
theorem pR_rot {th : nTh} {a b c x y z : Nat} (h : Rot a b c x y z) : pR th a b c x y = none := by
  unfold pR; unfold Rot at h; grind
theorem pT_rot {th : nTh} {a b c x y z : Nat} (h1 : a ≠ b) (h2 : b ≠ c) (h3 : a ≠ c) (h : Rot a b c x y z) : pT th a b c x y = some z := by
  unfold pT; unfold Rot at h; grind
theorem pO_rot {fo : Nat → Nat → Nat} {t a b c x y z : Nat} (h : Rot a b c x y z) : pO fo t a b c x y = t := by
  unfold pO; unfold Rot at h; grind
theorem pR_off {th : nTh} {a b c x y : Nat} (h : ∀ z, ¬ Rot a b c x y z) : pR th a b c x y = th x y := by
  have e1 := h c; have e2 := h a; have e3 := h b
  unfold pR; unfold Rot at e1 e2 e3; grind
theorem pT_off {th : nTh} {a b c x y : Nat} (h : ∀ z, ¬ Rot a b c x y z) : pT th a b c x y = th x y := by
  have e1 := h c; have e2 := h a; have e3 := h b
  unfold pT; unfold Rot at e1 e2 e3; grind
theorem pO_off {fo : Nat → Nat → Nat} {t a b c x y : Nat} (h : ∀ z, ¬ Rot a b c x y z) : pO fo t a b c x y = fo x y := by
  have e1 := h c; have e2 := h a; have e3 := h b
  unfold pO; unfold Rot at e1 e2 e3; grind
theorem nFit.rm {ok : Nat → Prop} {N : Nat → Nat} {th : nTh} {fo : Nat → Nat → Nat} (h : nFit ok N th fo) {t : Nat} (ht : ok t) : nFit (fun s => ok s ∧ s ≠ t) N (pR th (N (3 * t)) (N (3 * t + 1)) (N (3 * t + 2))) fo := by
  obtain ⟨h1, h2, h3⟩ := h
  refine ⟨fun s hs => h1 s hs.1, fun s hs x y z hr => ?_, fun x y z hx => ?_⟩
  · obtain ⟨e1, e2⟩ := h2 s hs.1 x y z hr
    rw [pR_off (fun z' hz => hs.2 (by rw [← e2]; exact (h2 t ht x y z' hz).2))]
    exact ⟨e1, e2⟩
  · have hne : ∀ z', ¬ nRot N t x y z' := fun z' hz => by rw [pR_rot hz] at hx; cases hx
    rw [pR_off hne] at hx
    obtain ⟨e1, e2⟩ := h3 x y z hx
    exact ⟨⟨e1, fun e => hne z (by rw [← e]; exact e2)⟩, e2⟩
theorem nFit.put {ok : Nat → Prop} {N : Nat → Nat} {th : nTh} {fo : Nat → Nat → Nat} (h : nFit ok N th fo) {t a b c : Nat} (ht : ¬ ok t) (h1 : a ≠ b) (h2 : b ≠ c) (h3 : a ≠ c) (hn : ∀ x y z, Rot a b c x y z → th x y = none) : nFit (fun s => ok s ∨ s = t) (pN N t a b c) (pT th a b c) (pO fo t a b c) := by
  obtain ⟨g1, g2, g3⟩ := h
  obtain ⟨f1, f2⟩ := pN_face (F := N) (t := t) h1 h2 h3
  have same : ∀ s, s ≠ t → pN N t a b c (3 * s) = N (3 * s) ∧ pN N t a b c (3 * s + 1) = N (3 * s + 1) ∧ pN N t a b c (3 * s + 2) = N (3 * s + 2) := fun s hs => ⟨pN_n _ _ _ _ _ (by omega), pN_n _ _ _ _ _ (by omega), pN_n _ _ _ _ _ (by omega)⟩
  have ne : ∀ s, ok s → s ≠ t := fun s hs e => ht (e ▸ hs)
  refine ⟨fun s hs => ?_, fun s hs x y z hr => ?_, fun x y z hx => ?_⟩
  · rcases hs with hs | rfl
    · obtain ⟨a1, a2, a3⟩ := same s (ne s hs)
      unfold nOk; rw [a1, a2, a3]; exact g1 s hs
    · exact f1
  · rcases hs with hs | rfl
    · obtain ⟨a1, a2, a3⟩ := same s (ne s hs)
      unfold nRot at hr; rw [a1, a2, a3] at hr
      obtain ⟨e1, e2⟩ := g2 s hs x y z hr
      have off : ∀ z', ¬ Rot a b c x y z' := fun z' hz => by rw [hn x y z' hz] at e1; cases e1
      rw [pT_off off, pO_off off]; exact ⟨e1, e2⟩
    · have := (f2 x y z).mp hr
      exact ⟨pT_rot h1 h2 h3 this, pO_rot this⟩
  · by_cases q : ∃ z', Rot a b c x y z'
    · obtain ⟨z', hz⟩ := q
      rw [pT_rot h1 h2 h3 hz] at hx
      cases hx
      rw [pO_rot hz]
      exact ⟨Or.inr rfl, (f2 x y z).mpr hz⟩
    · have off : ∀ z', ¬ Rot a b c x y z' := fun z' hz => q ⟨z', hz⟩
      rw [pT_off off] at hx
      rw [pO_off off]
      obtain ⟨e1, e2⟩ := g3 x y z hx
      obtain ⟨a1, a2, a3⟩ := same _ (ne _ e1)
      refine ⟨Or.inl e1, ?_⟩
      unfold nRot; rw [a1, a2, a3]; exact e2
/-- the neighbours of a corner, one behind the other: one ring -/
def Cyc (s : Nat → Option Nat) : Prop := ∃ (d : Nat) (k : Nat → Nat), 3 ≤ d ∧ (∀ i j, i < d → j < d → k i = k j → i = j) ∧ (∀ i, i < d → s (k i) = some (k (if i + 1 < d then i + 1 else 0))) ∧ ∀ x, s x ≠ none → ∃ i, i < d ∧ k i = x
theorem Cyc.rot {s : Nat → Option Nat} (h : Cyc s) {c : Nat} (hc : s c ≠ none) : ∃ (d : Nat) (k : Nat → Nat), 3 ≤ d ∧ (∀ i j, i < d → j < d → k i = k j → i = j) ∧ (∀ i, i < d → s (k i) = some (k (if i + 1 < d then i + 1 else 0))) ∧ (∀ x, s x ≠ none → ∃ i, i < d ∧ k i = x) ∧ k 0 = c := by
  obtain ⟨d, k, h1, h2, h3, h4⟩ := h
  obtain ⟨j, hj, e⟩ := h4 c hc
  have w : ∀ i, i < d → (if i + j < d then i + j else i + j - d) < d := fun i hi => by split <;> omega
  refine ⟨d, fun i => k (if i + j < d then i + j else i + j - d), h1, fun a b ha hb hab => ?_, fun i hi => ?_, fun x hx => ?_, ?_⟩
  · have := h2 _ _ (w a ha) (w b hb) hab
    split at this <;> split at this <;> omega
  · show s (k (if i + j < d then i + j else i + j - d)) = some (k (if (if i + 1 < d then i + 1 else 0) + j < d then (if i + 1 < d then i + 1 else 0) + j else (if i + 1 < d then i + 1 else 0) + j - d))
    rw [h3 _ (w i hi)]
    congr 2
    split <;> split <;> split <;> split <;> omega
  · obtain ⟨m, hm, e2⟩ := h4 x hx
    refine ⟨if j ≤ m then m - j else m + d - j, by split <;> omega, ?_⟩
    show k (if (if j ≤ m then m - j else m + d - j) + j < d then _ else _) = x
    rw [← e2]
    congr 1
    split <;> split <;> omega
  · show k (if 0 + j < d then 0 + j else 0 + j - d) = c
    rw [if_pos (by omega), Nat.zero_add]; exact e
/-- one more, n, behind b -/
theorem Cyc.ins {s : Nat → Option Nat} (h : Cyc s) {b c n : Nat} (hb : s b = some c) (hn : s n = none) (hc : s c ≠ none) {s' : Nat → Option Nat} (hs : ∀ x, s' x = if x = b then some n else if x = n then some c else s x) : Cyc s' := by
  obtain ⟨d, k, h1, h2, h3, h4, h0⟩ := h.rot hc
  have hkn : ∀ i, i < d → k i ≠ n := fun i hi e => by have := h3 i hi; rw [e, hn] at this; cases this
  have hbl : k (d - 1) = b := by
    obtain ⟨m, hm, e⟩ := h4 b (by rw [hb]; exact fun z => nomatch z)
    have e2 := h3 m hm
    rw [e, hb] at e2
    have e3 : c = k (if m + 1 < d then m + 1 else 0) := Option.some.inj e2
    rw [← h0] at e3
    have := h2 _ _ (by omega) (by split <;> omega) e3
    split at this
    · omega
    · rw [← e]; congr 1; omega
  have hnb : n ≠ b := fun e => by rw [e, hb] at hn; cases hn
  refine ⟨d + 1, fun i => if i < d then k i else n, by omega, fun i j hi hj hij => ?_, fun i hi => ?_, fun x hx => ?_⟩
  · by_cases q1 : i < d <;> by_cases q2 : j < d
    · simp only [if_pos q1, if_pos q2] at hij; exact h2 i j q1 q2 hij
    · simp only [if_pos q1, if_neg q2] at hij; exact absurd hij (hkn i q1)
    · simp only [if_neg q1, if_pos q2] at hij; exact absurd hij.symm (hkn j q2)
    · omega
  · by_cases q1 : i < d
    · by_cases q2 : i + 1 < d
      · simp only [if_pos q1, if_pos (show i + 1 < d + 1 by omega), if_pos q2]
        rw [hs, if_neg (fun e => by have := h2 i (d - 1) q1 (by omega) (e.trans hbl.symm); omega), if_neg (hkn i q1), h3 i q1, if_pos q2]
      · simp only [if_pos q1, if_pos (show i + 1 < d + 1 by omega), if_neg q2]
        rw [show i = d - 1 by omega, hbl, hs, if_pos rfl]
    · simp only [if_neg q1, if_neg (show ¬ i + 1 < d + 1 by omega), if_pos (show 0 < d by omega)]
      rw [hs, if_neg hnb, if_pos rfl, h0]
  · by_cases q : x = n
    · exact ⟨d, by omega, by simp only [if_neg (Nat.lt_irrefl d)]; exact q.symm⟩
    · have : s x ≠ none := by
        rw [hs] at hx
        by_cases q2 : x = b
        · rw [q2, hb]; exact fun z => nomatch z
        · rw [if_neg q2, if_neg q] at hx; exact hx
      obtain ⟨i, hi, e⟩ := h4 x this
      exact ⟨i, by omega, by simp only [if_pos hi]; exact e⟩
/-- one less, y, behind v and ahead of u -/
theorem Cyc.del {s : Nat → Option Nat} (h : Cyc s) {v y u : Nat} (hv : s v = some y) (hy : s y = some u) (hu : s u ≠ some v) {s' : Nat → Option Nat} (hs : ∀ x, s' x = if x = v then some u else if x = y then none else s x) : Cyc s' := by
  obtain ⟨d0, k0, a1, a2, a3, a4⟩ := h
  have hsu : s u ≠ none := by
    obtain ⟨m, hm, e⟩ := a4 y (by rw [hy]; exact fun z => nomatch z)
    have e2 := a3 m hm
    rw [e, hy] at e2
    rw [Option.some.inj e2, a3 _ (by split <;> omega)]
    exact fun z => nomatch z
  obtain ⟨d, k, h1, h2, h3, h4, h0⟩ := Cyc.rot ⟨d0, k0, a1, a2, a3, a4⟩ hsu
  have hlast : ∀ b c m, s b = some c → m < d → k m = c → k (if m = 0 then d - 1 else m - 1) = b := fun b c m hb hm e0 => by
    obtain ⟨j, hj, e⟩ := h4 b (by rw [hb]; exact fun z => nomatch z)
    have e2 := h3 j hj
    rw [e, hb] at e2
    have e3 : c = k (if j + 1 < d then j + 1 else 0) := Option.some.inj e2
    rw [← e0] at e3
    have := h2 _ _ hm (by split <;> omega) e3
    rw [← e]
    congr 1
    split at this <;> split <;> omega
  have ey : k (d - 1) = y := by have := hlast y u 0 hy (by omega) h0; rwa [if_pos rfl] at this
  have ev : k (d - 2) = v := by
    have := hlast v y (d - 1) hv (by omega) ey
    rw [if_neg (by omega)] at this
    rw [← this]; congr 1
  have hd : 4 ≤ d := by
    refine Decidable.byContradiction fun z => ?_
    have hd3 : d = 3 := by omega
    subst hd3
    have e := h3 0 (by omega)
    rw [h0, if_pos (by omega)] at e
    exact hu (by rw [e, ← ev])
  have hvy : v ≠ y := fun e => by have := h2 (d - 2) (d - 1) (by omega) (by omega) (by rw [ev, ey, e]); omega
  refine ⟨d - 1, k, by omega, fun i j hi hj => h2 i j (by omega) (by omega), fun i hi => ?_, fun x hx => ?_⟩
  · by_cases q : i + 1 < d - 1
    · rw [if_pos q, hs, if_neg (fun e => by have := h2 i (d - 2) (by omega) (by omega) (e.trans ev.symm); omega), if_neg (fun e => by have := h2 i (d - 1) (by omega) (by omega) (e.trans ey.symm); omega), h3 i (by omega), if_pos (by omega)]
    · rw [if_neg q, show i = d - 2 by omega, ev, hs, if_pos rfl, h0]
  · have hxy : x ≠ y := fun e => by rw [hs, e, if_neg (Ne.symm hvy), if_pos rfl] at hx; exact hx rfl
    have : s x ≠ none := by
      rw [hs] at hx
      by_cases q : x = v
      · rw [q, hv]; exact fun z => nomatch z
      · rw [if_neg q, if_neg hxy] at hx; exact hx
    obtain ⟨i, hi, e⟩ := h4 x this
    refine ⟨i, ?_, e⟩
    refine Decidable.byContradiction fun z => hxy ?_
    rw [← e, show i = d - 1 by omega, ey]
theorem Cyc.cg {s s' : Nat → Option Nat} (h : Cyc s) (e : ∀ x, s' x = s x) : Cyc s' := by
  have : s' = s := funext e
  rw [this]; exact h
theorem Cyc.next {s : Nat → Option Nat} (h : Cyc s) {b c : Nat} (hb : s b = some c) : s c ≠ none := by
  obtain ⟨d, k, h1, h2, h3, h4⟩ := h
  obtain ⟨m, hm, e⟩ := h4 b (by rw [hb]; exact fun z => nomatch z)
  have e2 := h3 m hm
  rw [e, hb] at e2
  rw [Option.some.inj e2, h3 _ (by split <;> omega)]
  exact fun z => nomatch z
/-- every neighbour stands behind one -/
theorem Cyc.prev {s : Nat → Option Nat} (h : Cyc s) {c : Nat} (hc : s c ≠ none) : ∃ b, s b = some c := by
  obtain ⟨d, k, h1, h2, h3, h4, h0⟩ := h.rot hc
  refine ⟨k (d - 1), ?_⟩
  rw [h3 _ (by omega), if_neg (by omega), h0]
theorem Cyc.three {s : Nat → Option Nat} (h : Cyc s) {b c : Nat} (hb : s b = some c) : s c ≠ some b := by
  obtain ⟨d, k, h1, h2, h3, h4, h0⟩ := h.rot (c := b) (by rw [hb]; exact fun z => nomatch z)
  have e1 := h3 0 (by omega)
  rw [h0, hb, if_pos (by omega)] at e1
  have e2 := h3 1 (by omega)
  rw [← Option.some.inj e1] at e2
  intro e
  rw [e] at e2
  have e3 : b = _ := Option.some.inj e2
  rw [← h0] at e3
  have := h2 _ _ (by omega) (by split <;> omega) e3
  split at this <;> omega
/-- a three: the start of a new corner -/
theorem Cyc.tri {s : Nat → Option Nat} {a b c : Nat} (h1 : a ≠ b) (h2 : b ≠ c) (h3 : a ≠ c) (hs : ∀ x, s x = if x = a then some b else if x = b then some c else if x = c then some a else none) : Cyc s := by
  refine ⟨3, fun i => if i = 0 then a else if i = 1 then b else c, by omega, fun i j hi hj h => ?_, fun i hi => ?_, fun x hx => ?_⟩
  · rcases (show i = 0 ∨ i = 1 ∨ i = 2 by omega) with rfl | rfl | rfl <;> rcases (show j = 0 ∨ j = 1 ∨ j = 2 by omega) with rfl | rfl | rfl <;> simp at h <;> first | rfl | (exact absurd h (by omega))
  · rcases (show i = 0 ∨ i = 1 ∨ i = 2 by omega) with rfl | rfl | rfl
    · simp [hs]
    · simp [hs, Ne.symm h1]
    · simp [hs, Ne.symm h2, Ne.symm h3]
  · rw [hs] at hx
    by_cases q1 : x = a
    · exact ⟨0, by omega, by simp [q1]⟩
    · by_cases q2 : x = b
      · exact ⟨1, by omega, by simp [q2]⟩
      · by_cases q3 : x = c
        · exact ⟨2, by omega, by simp [q3]⟩
        · rw [if_neg q1, if_neg q2, if_neg q3] at hx; exact absurd rfl hx
