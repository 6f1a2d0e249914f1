/-! a gasket told: its conditions, its numbers' bounds -/
theorem run_le {g : Nat → Int64} {M : Int} (hm : ∀ k, k < 4 → (g k).toInt ≤ M) : ∀ N, (∀ i, i < N → mLess (mRun g i)) → ∀ k, k < 4 → (mRun g N k).toInt ≤ M
  | 0, _, k, hk => hm k hk
  | N + 1, h, k, hk => by
    have ih := run_le hm N (fun i hi => h i (by omega))
    have hl := h N (by omega)
    show (mDown (mRun g N) k).toInt ≤ M
    rw [mDown_x]
    have h2 := lt64.mp ((mLess_x _).mp hl)
    have h3 := ih _ (xGr_lt (mRun g N))
    by_cases q : k = xGr (mRun g N) 3
    · rw [q, vp_s]; omega
    · rw [vp_n _ _ q]; exact ih k hk
theorem xDown_le {g : Nat → Int64} {M : Int} (hm : ∀ k, k < 4 → (g k).toInt ≤ M) : ∀ k, k < 4 → (xDown 3 g k).toInt ≤ M := by
  have a : ∀ k, k < 4 → (xPass g 3 k).toInt ≤ M := fun k hk => xPass_le g M 3 (fun j hj => hm j (by omega)) k (by omega)
  have b : ∀ k, k < 4 → (xPass (xPass g 3) 2 k).toInt ≤ M := fun k hk => by
    by_cases q : k ≤ 2
    · exact xPass_le _ M 2 (fun j hj => a j (by omega)) k q
    · rw [xPass_off _ 2 k (by omega)]; exact a k hk
  intro k hk
  show (xPass (xPass (xPass g 3) 2) 1 k).toInt ≤ M
  by_cases q : k ≤ 1
  · exact xPass_le _ M 1 (fun j hj => b j (by omega)) k q
  · rw [xPass_off _ 1 k (by omega)]; exact b k hk
theorem told_b {g : Nat → Int64} (h : gOk g) (hm : ∀ k, k < 4 → (g k).toInt ≤ 1000000) : ∀ j, j < 4 → ((xDown 3 (xRoot 1000000 g)) j).toInt.natAbs ≤ 1000000 := by
  obtain ⟨N, h1, h2⟩ := root_ex (((g 0).toInt + (g 1).toInt + (g 2).toInt + (g 3).toInt)).toNat g h (Nat.le_refl _)
  have m0 := hm 0 (by omega); have m1 := hm 1 (by omega); have m2 := hm 2 (by omega); have m3 := hm 3 (by omega)
  have hN : N ≤ 1000000 := by omega
  have hp := (gInv.told h hm).rt.1.1.pair
  rw [xRoot_run N g 1000000 h1 hN] at hp ⊢
  have hu := xDown_le (run_le hm N h1.1)
  have u0 := hu 0 (by omega); have u1 := hu 1 (by omega); have u2 := hu 2 (by omega); have u3 := hu 3 (by omega)
  intro j hj
  rcases lt4 hj with rfl | rfl | rfl | rfl <;> omega
theorem gk_iff {x1 x2 x3 x4 : Int32} : ((cIn x1.toInt64 (nI 1000000).toInt64 ∧ cIn x2.toInt64 (nI 1000000).toInt64 ∧ cIn x3.toInt64 (nI 1000000).toInt64 ∧ cIn x4.toInt64 (nI 1000000).toInt64) ∧ xOf x1.toInt64 x2.toInt64 x3.toInt64 x4.toInt64) ↔ mGk x1 x2 x3 x4 := by
  rw [cIn_k (by decide), cIn_k (by decide), cIn_k (by decide), cIn_k (by decide)]
  exact ⟨fun h => ⟨h.1.1, h.1.2.1, h.1.2.2.1, h.1.2.2.2, h.2.2, h.2.1⟩, fun h => ⟨⟨h.1, h.2.1, h.2.2.1, h.2.2.2.1⟩, h.2.2.2.2.2, h.2.2.2.2.1⟩⟩
theorem gk_ok {x1 x2 x3 x4 : Int32} (h : mGk x1 x2 x3 x4) : gOk (xRow x1.toInt64 x2.toInt64 x3.toInt64 x4.toInt64) ∧ ∀ k, k < 4 → ((xRow x1.toInt64 x2.toInt64 x3.toInt64 x4.toInt64) k).toInt ≤ 1000000 := by
  obtain ⟨a, b, c, d, hq, hs⟩ := h
  have ea : x1.toInt64.toInt = x1.toInt := Int32.toInt_toInt64 x1
  have eb : x2.toInt64.toInt = x2.toInt := Int32.toInt_toInt64 x2
  have ec : x3.toInt64.toInt = x3.toInt := Int32.toInt_toInt64 x3
  have ed : x4.toInt64.toInt = x4.toInt := Int32.toInt_toInt64 x4
  have a' : -1000000 ≤ x1.toInt64.toInt ∧ x1.toInt64.toInt ≤ 1000000 := by rw [ea]; exact a
  have b' : -1000000 ≤ x2.toInt64.toInt ∧ x2.toInt64.toInt ≤ 1000000 := by rw [eb]; exact b
  have c' : -1000000 ≤ x3.toInt64.toInt ∧ x3.toInt64.toInt ≤ 1000000 := by rw [ec]; exact c
  have d' : -1000000 ≤ x4.toInt64.toInt ∧ x4.toInt64.toInt ≤ 1000000 := by rw [ed]; exact d
  have r0 : xRow x1.toInt64 x2.toInt64 x3.toInt64 x4.toInt64 0 = x1.toInt64 := rfl
  have r1 : xRow x1.toInt64 x2.toInt64 x3.toInt64 x4.toInt64 1 = x2.toInt64 := rfl
  have r2 : xRow x1.toInt64 x2.toInt64 x3.toInt64 x4.toInt64 2 = x3.toInt64 := rfl
  have r3 : xRow x1.toInt64 x2.toInt64 x3.toInt64 x4.toInt64 3 = x4.toInt64 := rfl
  have hle : ∀ k, k < 4 → ((xRow x1.toInt64 x2.toInt64 x3.toInt64 x4.toInt64) k).toInt ≤ 1000000 := fun k hk => by
    rcases lt4 hk with rfl | rfl | rfl | rfl
    · rw [r0]; exact a'.2
    · rw [r1]; exact b'.2
    · rw [r2]; exact c'.2
    · rw [r3]; exact d'.2
  have sq : ∀ y : Int64, -1000000 ≤ y.toInt ∧ y.toInt ≤ 1000000 → (y * y).toInt = y.toInt * y.toInt ∧ 0 ≤ y.toInt * y.toInt ∧ y.toInt * y.toInt ≤ 1000000000000 := fun y hy => by
    have p := mul_bd hy.1 hy.2 hy.1 hy.2
    have p0 : 0 ≤ y.toInt * y.toInt := by
      rcases Int.le_total 0 y.toInt with q | q
      · exact Int.mul_nonneg q q
      · exact Int.mul_nonneg_of_nonpos_of_nonpos q q
    exact ⟨z_mul (by omega) (by omega), p0, by omega⟩
  generalize hA : x1.toInt64 = A at *
  generalize hB : x2.toInt64 = B at *
  generalize hC : x3.toInt64 = C at *
  generalize hD : x4.toInt64 = D at *
  obtain ⟨s1, t1, t1'⟩ := sq A a'
  obtain ⟨s2, t2, t2'⟩ := sq B b'
  obtain ⟨s3, t3, t3'⟩ := sq C c'
  obtain ⟨s4, t4, t4'⟩ := sq D d'
  have u1 : (A + B).toInt = A.toInt + B.toInt := z_add (by omega) (by omega)
  have u2 : (A + B + C).toInt = A.toInt + B.toInt + C.toInt := by rw [z_add, u1] <;> rw [u1] <;> omega
  have u3 : (A + B + C + D).toInt = A.toInt + B.toInt + C.toInt + D.toInt := by rw [z_add, u2] <;> rw [u2] <;> omega
  have v1 : (A * A + B * B).toInt = A.toInt * A.toInt + B.toInt * B.toInt := by rw [z_add, s1, s2] <;> rw [s1, s2] <;> omega
  have v2 : (A * A + B * B + C * C).toInt = A.toInt * A.toInt + B.toInt * B.toInt + C.toInt * C.toInt := by rw [z_add, v1, s3] <;> rw [v1, s3] <;> omega
  have v3 : (A * A + B * B + C * C + D * D).toInt = A.toInt * A.toInt + B.toInt * B.toInt + C.toInt * C.toInt + D.toInt * D.toInt := by rw [z_add, v2, s4] <;> rw [v2, s4] <;> omega
  have w1 : (2 * (A * A + B * B + C * C + D * D)).toInt = 2 * (A.toInt * A.toInt + B.toInt * B.toInt + C.toInt * C.toInt + D.toInt * D.toInt) := by
    have e2 : (2 : Int64).toInt = 2 := rfl
    rw [z_mul, v3, e2] <;> rw [v3, e2] <;> omega
  have p := mul_bd (show -4000000 ≤ A.toInt + B.toInt + C.toInt + D.toInt by omega) (show A.toInt + B.toInt + C.toInt + D.toInt ≤ 4000000 by omega) (show -4000000 ≤ A.toInt + B.toInt + C.toInt + D.toInt by omega) (show A.toInt + B.toInt + C.toInt + D.toInt ≤ 4000000 by omega)
  have w2 : ((A + B + C + D) * (A + B + C + D)).toInt = (A.toInt + B.toInt + C.toInt + D.toInt) * (A.toInt + B.toInt + C.toInt + D.toInt) := by rw [z_mul, u3] <;> rw [u3] <;> omega
  have hs' := lt64.mp (show 0 < A + B + C + D by simpa only [mSm, hA, hB, hC, hD] using hs)
  have hq' := congrArg Int64.toInt (show (A + B + C + D) * (A + B + C + D) = 2 * (A * A + B * B + C * C + D * D) by simpa only [mSm, mSq, hA, hB, hC, hD] using hq)
  rw [w1, w2] at hq'
  have z0 : (0 : Int64).toInt = 0 := rfl
  refine ⟨⟨?_, ?_, fun k hk => by have := hle k hk; omega⟩, hle⟩
  · rw [r0, r1, r2, r3]; omega
  · rw [r0, r1, r2, r3]; exact hq'
theorem mCopy_ag {b8 b9 : Nat → Int64} {t : Nat} {g : Nat → Int64} (h : ∀ j, j < 4 → b8 (4 * t + j) = g j) : ag4 (mCopy b9 b8 (4 * t) 4) g := fun k hk => by
  rw [← h k hk]
  rcases lt4 hk with rfl | rfl | rfl | rfl <;> simp [mCopy, vp_updL]
theorem mTurned_x {b8 : Nat → Int64} {t : Nat} {g : Nat → Int64} (h : ∀ j, j < 4 → b8 (4 * t + j) = g j) {p : Nat} (hp : p < 4) : mTurned b8 (4 * t) p = xTurn g p := by
  have h0 := h 0 (by omega)
  rw [Nat.add_zero] at h0
  unfold mTurned xTurn
  rw [h0, h 1 (by omega), h 2 (by omega), h 3 (by omega), h p hp]
