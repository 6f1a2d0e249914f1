def mCopy0 (g src : Nat → Int64) : Nat → Nat → Int64
  | 0 => g
  | n + 1 => vp_updL (mCopy0 g src n) n (src n)
def mProd (g W : Nat → Int64) (a b c d : Int64) : Nat → Int64 := vp_updL (vp_updL (vp_updL (vp_updL g 0 (W 0 * a + W 1 * c)) 1 (W 0 * b + W 1 * d)) 2 (W 2 * a + W 3 * c)) 3 (W 2 * b + W 3 * d)
theorem kbI_all {P : Nat → Prop} [DecidablePred P] {k : Nat} : kbI (∀ j : Nat, j < k → P j) &&& kbI (P k) = kbI (∀ j : Nat, j < k + 1 → P j) := by
  rw [kbI_and]
  exact kbI_c ⟨fun z j hj => by rcases Nat.lt_or_ge j k with q | q; exact z.1 j q; rw [show j = k by omega]; exact z.2, fun z => ⟨fun j hj => z j (by omega), z k (by omega)⟩⟩
abbrev mIm (a b : Int32) : Prop := mFr a b (0 : Nat) ∧ (0 < b ∨ a = nI 1)
theorem k_shl1 : ∀ w, w < 31 → nI 1 <<< (nI w &&& 31) = nI (2 ^ w) := by decide
theorem k_31 : ∀ w, w < 32 → ((nI w &&& 31).toBitVec.smod 32).toNat = w := by decide
theorem k_bit {s w : Nat} (hs : s < 2 ^ 31) (hw : w < 32) : (nI s >>> (nI w &&& 31)) &&& nI 1 = nI (s / 2 ^ w % 2) := by
  rw [pk_shrN hs _ w (k_31 w hw)]
  exact pk_andN (m := nI 1) (Nat.lt_of_le_of_lt (Nat.div_le_self _ _) (by omega)) 1 (by decide)
/-- the parts of the nodes by the first w wires, those of the set s: which label each node has, how many labels; none if a wire closes a ring -/
def mPB (en ot : Nat → Nat) (n s : Nat) : Nat → Option ((Nat → Nat) × Int32)
  | 0 => some (fun k => k, nI n)
  | w + 1 => match mPB en ot n s w with
    | none => none
    | some x => if s / 2 ^ w % 2 = 1 then if x.1 (en w) = x.1 (ot w) then none else some (fun k => if x.1 k = x.1 (ot w) then x.1 (en w) else x.1 k, x.2 + -1) else some x
def mPV (en ot : Nat → Nat) (n w s : Nat) : Int32 := match mPB en ot n s w with
  | none => -1
  | some x => x.2
theorem mPB_none {en ot : Nat → Nat} {n s w : Nat} (h : mPB en ot n s w = none) : ∀ v, mPB en ot n s (w + v) = none
  | 0 => h
  | v + 1 => by
    have := mPB_none h v
    show mPB en ot n s (w + v + 1) = none
    simp only [mPB, this]
theorem mPB_lt {en ot : Nat → Nat} {n s : Nat} : ∀ {w : Nat} {x : (Nat → Nat) × Int32}, (∀ k, k < w → en k < n) → mPB en ot n s w = some x → ∀ k, k < n → x.1 k < n
  | 0, x, _, h, k, hk => by simp only [mPB, Option.some.injEq] at h; rw [← h]; exact hk
  | w + 1, x, he, h, k, hk => by
    simp only [mPB] at h
    cases hx : mPB en ot n s w with
    | none => rw [hx] at h; cases h
    | some y =>
      rw [hx] at h
      have ih := mPB_lt (fun k hk => he k (by omega)) hx
      simp only at h
      split at h
      · split at h
        · cases h
        · cases h
          simp only
          split
          · exact ih _ (he w (by omega))
          · exact ih k hk
      · cases h; exact ih k hk
def mMerge (F : Nat → Int32) (a b : Int32) : Nat → Nat → Int32
  | 0 => F
  | k + 1 => upd (mMerge F a b k) k (if mMerge F a b k k = b then a else mMerge F a b k k)
theorem mMerge_ge (F : Nat → Int32) (a b : Int32) : ∀ n k, n ≤ k → mMerge F a b n k = F k
  | 0, k, _ => rfl
  | n + 1, k, h => by
    simp only [mMerge, upd]
    rw [if_neg (by omega)]
    exact mMerge_ge F a b n k (by omega)
theorem mMerge_lt (F : Nat → Int32) (a b : Int32) : ∀ n k, k < n → mMerge F a b n k = if F k = b then a else F k
  | 0, k, h => absurd h (Nat.not_lt_zero _)
  | n + 1, k, h => by
    simp only [mMerge, upd]
    split
    · rename_i e; subst e; rw [mMerge_ge F a b k k (Nat.le_refl _)]
    · exact mMerge_lt F a b n k (by omega)
def mIota (F : Nat → Int32) : Nat → Nat → Int32
  | 0 => F
  | k + 1 => upd (mIota F k) k (nI k)
theorem mIota_lt (F : Nat → Int32) : ∀ n k, k < n → mIota F n k = nI k
  | 0, k, h => absurd h (Nat.not_lt_zero _)
  | n + 1, k, h => by
    simp only [mIota, upd]
    split
    · rename_i e; rw [e]
    · exact mIota_lt F n k (by omega)
abbrev mTrees (en ot : Nat → Nat) (n w : Nat) : Nat := kCnt (fun s9 => mPV en ot n w s9 = nI 1) (2 ^ w)
/-- a set that leaves two parts, with its and fr in one, to in the other -/
def mHP (en ot : Nat → Nat) (n w fr to its : Nat) (s : Nat) : Prop := match mPB en ot n s w with
  | none => False
  | some x => x.2 = nI 2 ∧ ¬ x.1 fr = x.1 to ∧ x.1 its = x.1 fr
theorem k_pow {w : Nat} (h : w ≤ 10) : 2 ^ w ≤ 1024 := Nat.pow_le_pow_right (n := 2) (by omega) h
