/-! what holds at the law's start -/
def xNW : List Cond := [.not (.castable "java/util/NoSuchElementException" "java/lang/IllegalArgumentException"), .not (.castable "java/util/NoSuchElementException" "java/lang/IllegalStateException"), .not (.castable "java/util/NoSuchElementException" "java/lang/UnsupportedOperationException"), .isRef (.static "java/lang/Throwable" "UNASSIGNED_STACK" "[Ljava/lang/StackTraceElement;"), .isRef (.static "java/lang/Throwable" "SUPPRESSED_SENTINEL" "Ljava/util/List;")] ++ xSR.map (fun q => .exactly (.string q.1 q.2.1) "java/lang/String")
theorem xNW_in : ∀ w ∈ xNW, w ∈ flatC (Cond.and given_1 narrow_1) := by
  have h : xNW.all (fun w => decide (w ∈ flatC (Cond.and given_1 narrow_1))) = true := by decide +kernel
  intro w hw
  exact of_decide_eq_true (List.all_eq_true.mp h w hw)
def xWW : List Cond := [.laysStatic "java/lang/Throwable" "UNASSIGNED_STACK" "[Ljava/lang/StackTraceElement;", .laysStatic "java/lang/Throwable" "SUPPRESSED_SENTINEL" "Ljava/util/List;", .arrayOver (.array .int)] ++ xSR.map (fun q => .stringRef q.1 q.2.1 q.2.2)
theorem xWW_in : ∀ w ∈ xWW, w ∈ tables_1 := by
  have h : xWW.all (fun w => decide (w ∈ tables_1)) = true := by decide +kernel
  intro w hw
  exact of_decide_eq_true (List.all_eq_true.mp h w hw)
theorem x_arr {args : Array Value} {s : State} {ty : FieldType} (h : (Cond.arrayClass ty).before args s = true) : ∃ cA : ClassId, ArrOfT s cA ty ∧ s.vm.findClass ("[" ++ ty.toString) = some cA := by
  obtain ⟨c, k, comp, h1, h2, h3⟩ := Cond.arrayClass_spec h
  exact ⟨c, fun n z => ⟨fun k h => (by cases h), k, h2, comp, h3⟩, h1⟩
theorem x_ma {args : Array Value} {s : State} (h : (Cond.arrayOver (.array .int)).before args s = true) : xMA s := by
  obtain ⟨comp, c, k, h1, h2, h3, h4⟩ := Cond.arrayOver_specA h
  exact ⟨comp, c, k, h1, h4, h2, h3⟩
theorem x_amb {b : Nat} {s : State} (hts : ∀ w ∈ lw_tbl, w.before #[Value.ref b] s = true) (hgv : (Jvm.Cond.and given_1 narrow_1).before #[Value.ref b] s = true) : xAmb s ∧ xTh s s.heap := by
  have hT : ∀ w ∈ tables_1, w.before #[Value.ref b] s = true := fun w hw => hts w (List.mem_append_right _ hw)
  have hs := flat_of_before _ hgv
  have hN : ∀ w ∈ xNW, w.before #[Value.ref b] s = true := fun w hw => hs w (xNW_in w hw)
  have hW : ∀ w ∈ xWW, w.before #[Value.ref b] s = true := fun w hw => hT w (xWW_in w hw)
  have n0 := hN _ (List.mem_of_getElem? (i := 0) rfl)
  have n1 := hN _ (List.mem_of_getElem? (i := 1) rfl)
  have n2 := hN _ (List.mem_of_getElem? (i := 2) rfl)
  have n3 := hN _ (List.mem_of_getElem? (i := 3) rfl)
  have n4 := hN _ (List.mem_of_getElem? (i := 4) rfl)
  have w0 := hW _ (List.mem_of_getElem? (i := 0) rfl)
  have w1 := hW _ (List.mem_of_getElem? (i := 1) rfl)
  have w2 := hW _ (List.mem_of_getElem? (i := 2) rfl)
  refine ⟨⟨fun w hw => va_Nw.of (xNT_ot w hw) (hT w (xNT_in w hw)), fun q hq => ?_, va_Nc.of n0, va_Nc.of n1, va_Nc.of n2, x_ma w2⟩, xSt.of w0 n3, xSt.of w1 n4⟩
  have e1 := hN _ (List.mem_append_right _ (List.mem_map.mpr ⟨q, hq, rfl⟩))
  have e2 := hW _ (List.mem_append_right _ (List.mem_map.mpr ⟨q, hq, rfl⟩))
  obtain ⟨a, -, -, -, h1, -⟩ := Cond.exactly_spec e1
  exact ⟨a, vk_R.of e2 h1⟩
theorem x_known {b : Nat} {s : State} (hts : ∀ w ∈ lw_tbl, w.before #[Value.ref b] s = true) : ∃ (D : va_G) (cI cZ cJ : ClassId), va_K D cl [(cI, .int), (cZ, .boolean), (cJ, .long)] s := by
  have hT : ∀ w ∈ xTB, w.before #[Value.ref b] s = true := fun w hw => hts w (List.mem_filter.mp hw).1
  obtain ⟨c0, i0, k0⟩ := u_known hT u_Bu (hT _ tw_123)
  obtain ⟨c1, i1, k1⟩ := u_known hT u_Di (hT _ tw_26)
  obtain ⟨c2, i2, k2⟩ := u_known hT u_Gr (hT _ tw_49)
  obtain ⟨c3, i3, k3⟩ := u_known hT u_Re (hT _ tw_81)
  obtain ⟨c4, i4, k4⟩ := u_known hT u_RL (hT _ tw_97)
  obtain ⟨c5, i5, k5⟩ := u_known hT u_FB (hT _ tw_18)
  obtain ⟨c6, i6, k6⟩ := u_known hT u_Mo (hT _ tw_660)
  obtain ⟨cI, a1, a2⟩ := x_arr (hT _ tw_47)
  obtain ⟨cZ, a3, a4⟩ := x_arr (hT _ tw_95)
  obtain ⟨cJ, a5, a6⟩ := x_arr (hT _ tw_943)
  refine ⟨(fun c => match c with | 0 => c0 | 1 => c1 | 2 => c2 | 3 => c3 | 4 => c4 | 5 => c5 | _ => c6, fun c => match c with | 0 => i0 | 1 => i1 | 2 => i2 | 3 => i3 | 4 => i4 | 5 => i5 | _ => i6), cI, cZ, cJ, fun c q hq => ?_, fun k q hq => ?_⟩
  · match c, hq with
    | 0, hq => cases hq; exact k0
    | 1, hq => cases hq; exact k1
    | 2, hq => cases hq; exact k2
    | 3, hq => cases hq; exact k3
    | 4, hq => cases hq; exact k4
    | 5, hq => cases hq; exact k5
    | 6, hq => cases hq; exact k6
    | n + 7, hq => exact absurd hq (by simp [cl])
  · match k, hq with
    | 0, hq => cases hq; exact ⟨a1, a2⟩
    | 1, hq => cases hq; exact ⟨a3, a4⟩
    | 2, hq => cases hq; exact ⟨a5, a6⟩
    | n + 3, hq => exact absurd hq (by simp)
