/-! the tables and the statics at the law's entry -/
theorem tb_F : ∀ w ∈ kNestF, Cond.fieldLinkNest w.1 w.2.1 w.2.2.1 w.2.2.2.1 w.2.2.2.2.1 w.2.2.2.2.2 ∈ lw_tbl := by decide +kernel
theorem tb_M : ∀ w ∈ kNestM, Cond.methodLinkNest w.1 w.2.1 w.2.2.1 w.2.2.2 ∈ lw_tbl := by decide +kernel
theorem tb_S : ∀ w ∈ kStrs, Cond.stringRef w.1 w.2.1 w.2.2 ∈ lw_tbl := by decide +kernel
theorem tb_S1 : ∀ w ∈ kStrs, w.1 = RX8 := by decide +kernel
theorem tb_C : ∀ w ∈ kCas, Cond.castable w "java/lang/Object" ∈ lw_tbl := by decide +kernel
theorem tb_N : ∀ w ∈ kNcs, Cond.not (.castable w.1 w.2) ∈ flatC (Jvm.Cond.and given_1 narrow_1) := by decide +kernel
def tb_L : List Cond := [.arrayClass .int, .arrayClass .long, .arrayOver (.object "java/lang/Object"), .arrayOver (.array .long), .declares ⟨"java/lang/Object", "getClass", "()Ljava/lang/Class;"⟩, .laysStatic "Koebehall$Net" "FIRST_FACES" "[I", .initialized "Koebehall$Net", .laysStatic "java/util/ArrayList" "DEFAULTCAPACITY_EMPTY_ELEMENTDATA" "[Ljava/lang/Object;", .initialized "java/util/ArrayList", .laysStatic Bundle.tN "UNASSIGNED_STACK" Bundle.steD, .initialized Bundle.tN, .laysStatic Bundle.tN "SUPPRESSED_SENTINEL" Bundle.listD, .instantiable RJx4a65c 3, .instantiable RX0 3, .instantiable RX2 3, .instantiable RX3 4, .instantiable RX4 3, .instantiable RX5 2, .instantiable RX6 4, .instantiable RX7 2, .instantiable RX8 7]
theorem tb_in : ∀ w ∈ tb_L, w ∈ lw_tbl := by decide +kernel
abbrev tm_F : Term := .static "Koebehall$Net" "FIRST_FACES" "[I"
abbrev tm_A : Term := .static "java/util/ArrayList" "DEFAULTCAPACITY_EMPTY_ELEMENTDATA" "[Ljava/lang/Object;"
def tg_L : List Cond := [.arrayOf tm_F .int, .eq (.length tm_F) (.int 12), .eq (.elem tm_F (.int 0)) (.int 0), .eq (.elem tm_F (.int 1)) (.int 1), .eq (.elem tm_F (.int 2)) (.int 2), .eq (.elem tm_F (.int 3)) (.int 0), .eq (.elem tm_F (.int 4)) (.int 3), .eq (.elem tm_F (.int 5)) (.int 1), .eq (.elem tm_F (.int 6)) (.int 1), .eq (.elem tm_F (.int 7)) (.int 3), .eq (.elem tm_F (.int 8)) (.int 2), .eq (.elem tm_F (.int 9)) (.int 0), .eq (.elem tm_F (.int 10)) (.int 2), .eq (.elem tm_F (.int 11)) (.int 3), .arrayOf tm_A (.object "java/lang/Object"), .eq (.length tm_A) (.int 0), .isRef (.static Bundle.tN "UNASSIGNED_STACK" Bundle.steD), .isRef (.static Bundle.tN "SUPPRESSED_SENTINEL" Bundle.listD), .isRef (.mirror "[Ljava/lang/Object;")]
theorem tg_in : ∀ w ∈ tg_L, w ∈ flatC (Jvm.Cond.and given_1 narrow_1) := by decide +kernel
theorem tk_prim {s : State} {A : Array Value} {ty : FieldType} (h : (Cond.arrayClass ty).before A s = true) : ∃ cA : ClassId, ArrOfT s cA ty ∧ s.vm.findClass ("[" ++ ty.toString) = some cA := by
  obtain ⟨cA, k, comp, h1, h2, h3⟩ := Cond.arrayClass_spec h
  exact ⟨cA, fun n z => ⟨(fun k h => by cases h), k, h2, comp, h3⟩, h1⟩
/-- the classes, the arrays' classes, all tables and statics -/
theorem tables_start {s : State} {A : Array Value} (hts : ∀ w ∈ lw_tbl, w.before A s = true) (hgv : (Jvm.Cond.and given_1 narrow_1).before A s = true) : ∃ G : kG, kT G s ∧ kZ G s.heap.size s s.heap := by
  have hb : ∀ w ∈ tb_L, w.before A s = true := fun w hw => hts w (tb_in w hw)
  have hg : ∀ w ∈ tg_L, w.before A s = true := fun w hw => flat_of_before _ hgv w (tg_in w hw)
  have hB : ∀ a : Nat, a < s.heap.size → ¬ kAb s.heap.size a := fun a h => Nat.not_le.mpr h
  obtain ⟨c0, i0, k0⟩ := u_known (C := RJx4a65c) (T := TJx4a65c) (N := 3) (n := 3) hts inb_wsJx4a65c0 (hb _ (by simp [tb_L]))
  obtain ⟨c1, i1, k1⟩ := u_known (C := RX0) (T := TX0) (N := 3) (n := 3) hts inb_wsX00 (hb _ (by simp [tb_L]))
  obtain ⟨c2, i2, k2⟩ := u_known (C := RX2) (T := TX2) (N := 3) (n := 3) hts inb_wsX20 (hb _ (by simp [tb_L]))
  obtain ⟨c3, i3, k3⟩ := u_known (C := RX3) (T := TX3) (N := 4) (n := 4) hts inb_wsX30 (hb _ (by simp [tb_L]))
  obtain ⟨c4, i4, k4⟩ := u_known (C := RX4) (T := TX4) (N := 3) (n := 3) hts inb_wsX40 (hb _ (by simp [tb_L]))
  obtain ⟨c5, i5, k5⟩ := u_known (C := RX5) (T := TX5) (N := 2) (n := 2) hts inb_wsX50 (hb _ (by simp [tb_L]))
  obtain ⟨c6, i6, k6⟩ := u_known (C := RX6) (T := TX6) (N := 4) (n := 4) hts inb_wsX60 (hb _ (by simp [tb_L]))
  obtain ⟨c7, i7, k7⟩ := u_known (C := RX7) (T := TX7) (N := 2) (n := 2) hts inb_wsX70 (hb _ (by simp [tb_L]))
  obtain ⟨c8, i8, k8⟩ := u_known (C := RX8) (T := TX8) (N := 7) (n := 7) hts inb_wsX80 (hb _ (by simp [tb_L]))
  obtain ⟨cI, aI, nI9⟩ := tk_prim (hb (.arrayClass .int) (by simp [tb_L]))
  obtain ⟨cJ, aJ, nJ9⟩ := tk_prim (hb (.arrayClass .long) (by simp [tb_L]))
  have hAO := hb (.arrayOver (.object "java/lang/Object")) (by simp [tb_L])
  have hAA := hb (.arrayOver (.array .long)) (by simp [tb_L])
  obtain ⟨compO, cO, kO, o1, -, o3, o4, o5⟩ := Cond.arrayOver_spec hAO
  obtain ⟨compR, cR, kR9, r1, r3, r4, r5⟩ := Cond.arrayOver_specA hAA
  obtain ⟨tF, hF1, hF2⟩ := va_Tof (tm := tm_F) (ty := .int) (N := 12) (f := fun j => .int (kFF.getD j 0)) (A := kAb s.heap.size) (by decide) (hg _ (by simp [tg_L])) (va_eqt (hg (.eq (.length tm_F) (.int 12)) (by simp [tg_L]))) (fun j hj => by
    match j, hj with
    | 0, _ => exact va_eqt (hg (.eq (.elem tm_F (.int 0)) (.int 0)) (by simp [tg_L]))
    | 1, _ => exact va_eqt (hg (.eq (.elem tm_F (.int 1)) (.int 1)) (by simp [tg_L]))
    | 2, _ => exact va_eqt (hg (.eq (.elem tm_F (.int 2)) (.int 2)) (by simp [tg_L]))
    | 3, _ => exact va_eqt (hg (.eq (.elem tm_F (.int 3)) (.int 0)) (by simp [tg_L]))
    | 4, _ => exact va_eqt (hg (.eq (.elem tm_F (.int 4)) (.int 3)) (by simp [tg_L]))
    | 5, _ => exact va_eqt (hg (.eq (.elem tm_F (.int 5)) (.int 1)) (by simp [tg_L]))
    | 6, _ => exact va_eqt (hg (.eq (.elem tm_F (.int 6)) (.int 1)) (by simp [tg_L]))
    | 7, _ => exact va_eqt (hg (.eq (.elem tm_F (.int 7)) (.int 3)) (by simp [tg_L]))
    | 8, _ => exact va_eqt (hg (.eq (.elem tm_F (.int 8)) (.int 2)) (by simp [tg_L]))
    | 9, _ => exact va_eqt (hg (.eq (.elem tm_F (.int 9)) (.int 0)) (by simp [tg_L]))
    | 10, _ => exact va_eqt (hg (.eq (.elem tm_F (.int 10)) (.int 2)) (by simp [tg_L]))
    | 11, _ => exact va_eqt (hg (.eq (.elem tm_F (.int 11)) (.int 3)) (by simp [tg_L]))
    | n + 12, h => exact absurd h (by omega)) hB
  obtain ⟨tA, hA1, hA2⟩ := va_Tof (tm := tm_A) (ty := .object "java/lang/Object") (N := 0) (f := fun _ => .null) (A := kAb s.heap.size) (by decide) (hg _ (by simp [tg_L])) (va_eqt (hg (.eq (.length tm_A) (.int 0)) (by simp [tg_L]))) (fun j hj => absurd hj (Nat.not_lt_zero _)) hB
  obtain ⟨mi, hmi⟩ := va_Mi.of (hg (.isRef (.mirror "[Ljava/lang/Object;")) (by simp [tg_L]))
  refine ⟨((fun k => match k with | 0 => c0 | 1 => c1 | 2 => c2 | 3 => c3 | 4 => c4 | 5 => c5 | 6 => c6 | 7 => c7 | _ => c8, fun k => match k with | 0 => i0 | 1 => i1 | 2 => i2 | 3 => i3 | 4 => i4 | 5 => i5 | 6 => i6 | 7 => i7 | _ => i8), (fun k => match k with | 0 => cI | 1 => cJ | 2 => cI | 3 => cO | 4 => cR | _ => cJ), fun k => match k with | 0 => tF | 1 => tA | _ => mi), ⟨⟨fun k q hq => ?_, fun k q hq => ?_⟩, fun w hw => va_Nw.of rfl (hts _ (tb_F w hw)), fun w hw => va_Nw.of rfl (hts _ (tb_M w hw)), fun w hw => ?_, fun w hw => va_Nc.of (flat_of_before _ hgv _ (tb_N w hw)), va_AO.of hAO, hmi, va_Dc.of (hb _ (by simp [tb_L])), fun w hw => va_Nw.of rfl (hts _ (tb_C w hw)), va_AOA.of hAA⟩, Nat.le_refl _, va_Zref (hb _ (by simp [tb_L])) (hb _ (by simp [tb_L])) hF1 hB, hF2, va_Zref (hb _ (by simp [tb_L])) (hb _ (by simp [tb_L])) hA1 hB, hA2, vx_Zqof (hb _ (by simp [tb_L])) (hb _ (by simp [tb_L])) (hg _ (by simp [tg_L])) hB, vx_Zqof (hb _ (by simp [tb_L])) (hb _ (by simp [tb_L])) (hg _ (by simp [tg_L])) hB⟩
  · match k, hq with
    | 0, hq => cases hq; exact k0
    | 1, hq => cases hq; exact k1
    | 2, hq => cases hq; exact k2
    | 3, hq => cases hq; exact k3
    | 4, hq => cases hq; exact k4
    | 5, hq => cases hq; exact k5
    | 6, hq => cases hq; exact k6
    | 7, hq => cases hq; exact k7
    | 8, hq => cases hq; exact k8
    | n + 9, hq => first | exact nomatch hq | (simp [vwCl] at hq)
  · match k, hq with
    | 0, hq => cases hq; exact ⟨aI, nI9⟩
    | 1, hq => cases hq; exact ⟨aJ, nJ9⟩
    | 2, hq => cases hq; exact ⟨aI, nI9⟩
    | 3, hq => cases hq; exact ⟨fun N z => ⟨(fun k h => by cases h), kO, o3, compO, o4⟩, kO, compO, o3, o4, o1, o5⟩
    | 4, hq => cases hq; exact ⟨fun N z => ⟨(fun k h => by cases h), kR9, r3, compR, r4⟩, r5⟩
    | 5, hq => cases hq; exact ⟨aJ, nJ9⟩
    | n + 6, hq => first | exact nomatch hq | (simp [kTys] at hq)
  · have e1 := tb_S1 w hw
    have hw2 : (Cond.stringRef w.1 w.2.1 w.2.2).before #[] s = true := by
      have := hts _ (tb_S w hw)
      first | exact va_any rfl this | exact this
    obtain ⟨k, cf, i, a, -, -, -, -, -, h6⟩ := Cond.stringRef_spec (args := #[]) (first := s) (o := none) (idx := []) (hcur := (show s.vm.findClass w.1 = some c8 by rw [e1]; exact k8.2.1)) hw2
    exact ⟨a, hw2, h6⟩
