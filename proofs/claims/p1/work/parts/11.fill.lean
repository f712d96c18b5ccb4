/-! Arrays.fill(int[], int) -/
theorem xarr {D : va_G} {cl : List vw_C} {ws : va_W} {H : Heap} {q a n : Nat} {cA : ClassId} {f g : Nat → Int32} (hP : va_P D cl ws H) (hq : ws[q]? = some (a, .inl (cA, n, .inl f))) (h : ∀ j, j < n → f j = g j) : va_P D cl (ws.set q (a, .inl (cA, n, .inl g))) H := by
  have e : vp_cell cA (n, .inl f) = vp_cell cA (n, .inl g) := by
    rw [vp_cell_i, vp_cell_i]
    unfold arrV
    congr 1
    apply Array.ext_getElem?
    intro j
    by_cases hj : j < n
    · simp [hj, h j hj]
    · simp [hj]
  have hl := (List.getElem?_eq_some_iff.mp hq).1
  intro k x hk
  by_cases hkq : k = q
  · subst hkq
    rw [List.getElem?_set_self hl] at hk
    cases hk
    have h1 : H[a]? = some (vp_cell cA (n, .inl f)) := hP k _ hq
    rw [e] at h1
    exact h1
  · rw [List.getElem?_set_ne (Ne.symm hkq)] at hk
    exact hP k x hk
theorem d_Ar_fill_0 : decode b_Ar_fill 0 = .ok (.iconst 0, 1) := by decide +kernel
theorem d_Ar_fill_1 : decode b_Ar_fill 1 = .ok (.istore_n 2, 1) := by decide +kernel
theorem d_Ar_fill_2 : decode b_Ar_fill 2 = .ok (.aload_n 0, 1) := by decide +kernel
theorem d_Ar_fill_3 : decode b_Ar_fill 3 = .ok (.arraylength, 1) := by decide +kernel
theorem d_Ar_fill_4 : decode b_Ar_fill 4 = .ok (.istore_n 3, 1) := by decide +kernel
theorem d_Ar_fill_5 : decode b_Ar_fill 5 = .ok (.iload_n 2, 1) := by decide +kernel
theorem d_Ar_fill_6 : decode b_Ar_fill 6 = .ok (.iload_n 3, 1) := by decide +kernel
theorem d_Ar_fill_7 : decode b_Ar_fill 7 = .ok (.if_icmp .ge 13, 3) := by decide +kernel
theorem d_Ar_fill_10 : decode b_Ar_fill 10 = .ok (.aload_n 0, 1) := by decide +kernel
theorem d_Ar_fill_11 : decode b_Ar_fill 11 = .ok (.iload_n 2, 1) := by decide +kernel
theorem d_Ar_fill_12 : decode b_Ar_fill 12 = .ok (.iload_n 1, 1) := by decide +kernel
theorem d_Ar_fill_13 : decode b_Ar_fill 13 = .ok (.iastore, 1) := by decide +kernel
theorem d_Ar_fill_14 : decode b_Ar_fill 14 = .ok (.iinc 2 1, 3) := by decide +kernel
theorem d_Ar_fill_17 : decode b_Ar_fill 17 = .ok (.goto (-12), 3) := by decide +kernel
theorem d_Ar_fill_20 : decode b_Ar_fill 20 = .ok (.return_, 1) := by decide +kernel
set_option maxRecDepth 20000 in
set_option maxHeartbeats 4000000 in
theorem c_Ar_fill (l : Launch) (D : va_G) (a : Nat) (cA : ClassId) (n : Nat) (f : Nat → Int32) (v : Int32) (sz : Nat) (hn : n < 2 ^ 31) : xMv l y_Ar_fill w_Ar_fill { frames := 0, cells := 0, slots := 0, locals := 0 } D cl [.ref a, .int v] sz [(cA, .int)] [(a, .inl (cA, n, .inl f))] (fun (_ : Unit) => True) (fun _ => [(a, .inl (cA, n, .inl (fun _ => v)))]) (fun _ => []) := by
  refine xMv_of (by decide +kernel) rfl (Nat.le_of_ble_eq_true rfl) ?_
  intro p e s m args below meth c ls A B hAe hA hsz hP hK hD hS hAm hTh hAs hl
  obtain ⟨⟨hx, hb, hml, hown, hts⟩, hret, hlk, hnm, hemp⟩ := id B
  have hl : lv_has ls 4 [(0, .ref a), (1, .int v)] := hl
  have loop : ∀ (d k : Nat), k + d = n → ∀ (ls : Array Slot) (H : Heap) (locs : List Loc) (g : Nat → Int32), (∀ j, j < k → g j = v) → lv_has ls 4 [(2, .int (nI k)), (3, .int (nI n)), (0, .ref a), (1, .int v)] → va_P D cl [(a, .inl (cA, n, .inl g))] H → va_D A [(a, .inl (cA, n, .inl g))] → va_S A s.heap H locs →
      W p l e { frames := 0, cells := 0, slots := 0, locals := 0 } s m args below meth c H locs 0 0 (MQ below (va_Qv (fun (_ : Unit) => True) (xBh D cl A (fun _ => [(a, .inl (cA, n, .inl (fun _ => v)))]) (fun _ => [])) A) args s 0 0 A) (F0 m 5 ls []) := by
    intro d
    induction d with
    | zero =>
      intro k hk ls H locs g hg hl hP hD hS
      have hk : k = n := hk
      subst hk
      refine lv_iload_n hx hb d_Ar_fill_5 rfl (lv_at hl 0 rfl) ?_
      refine lv_iload_n hx hb d_Ar_fill_6 rfl (lv_at hl 1 rfl) ?_
      refine lv_icmp_ge (tgt := 20) hx hb d_Ar_fill_7 (by decide) (fun b7 => ?_) (fun b7 => absurd (nI_le (Nat.le_refl _) hn) b7)
      have hP2 : va_P D cl [(a, .inl (cA, k, .inl (fun _ => v)))] H := xarr (q := 0) hP rfl hg
      have hD2 : va_D A [(a, .inl (cA, k, .inl (fun _ => v)))] := va_D.set (p := 0) hD rfl
      exact xrv () B d_Ar_fill_20 trivial hP2 (hK.sub (tys' := []) [] rfl) hD2 hS (Nat.le_refl _) (Nat.le_refl _)
    | succ d ih =>
      intro k hk ls H locs g hg hl hP hD hS
      have hkn : k < n := by omega
      refine lv_iload_n hx hb d_Ar_fill_5 rfl (lv_at hl 0 rfl) ?_
      refine lv_iload_n hx hb d_Ar_fill_6 rfl (lv_at hl 1 rfl) ?_
      refine lv_icmp_ge (tgt := 20) hx hb d_Ar_fill_7 (by decide) (fun b7 => absurd b7 (nI_ge hkn hn)) (fun b7 => ?_)
      refine lv_aload_n hx hb d_Ar_fill_10 rfl (lv_at hl 2 rfl) ?_
      refine lv_iload_n hx hb d_Ar_fill_11 rfl (lv_at hl 0 rfl) ?_
      refine lv_iload_n hx hb d_Ar_fill_12 rfl (lv_at hl 3 rfl) ?_
      refine va_iast hx hb hK hP hD hS 0 0 rfl rfl (vp_in_nI hkn hn) d_Ar_fill_13 (fun H locs hP hD hS => ?_)
      refine lv_iinc (k := 0) (v := nI (k + 1)) hx hb d_Ar_fill_14 hl rfl (nI_1 k) (by decide) rfl (fun ls hl => ?_)
      have hl : lv_has ls 4 [(2, .int (nI (k + 1))), (3, .int (nI n)), (0, .ref a), (1, .int v)] := hl
      refine lv_goto (tgt := 5) hx hb d_Ar_fill_17 (by decide) ?_
      refine ih (k + 1) (by omega) ls H locs (upd g (nI k).toNatClampNeg v) (fun j hj => ?_) hl hP hD hS
      rw [nI_clamp (Nat.lt_trans hkn hn)]
      by_cases hjk : j = k
      · subst hjk; exact pk_us
      · rw [pk_un hjk]; exact hg j (by omega)
  refine lv_iconst (v := 0) hx hb d_Ar_fill_0 (by decide) ?_
  refine lv_istore_n hx hb d_Ar_fill_1 rfl hl (by decide) rfl (fun ls hl => ?_)
  have hl : lv_has ls 4 [(2, .int 0), (0, .ref a), (1, .int v)] := hl
  refine lv_aload_n hx hb d_Ar_fill_2 rfl (lv_at hl 1 rfl) ?_
  refine va_alen (v := nI n) hx hb hK hP 0 0 rfl rfl rfl d_Ar_fill_3 ?_
  refine lv_istore_n hx hb d_Ar_fill_4 rfl hl (by decide) rfl (fun ls hl => ?_)
  have hl : lv_has ls 4 [(3, .int (nI n)), (2, .int 0), (0, .ref a), (1, .int v)] := hl
  have hl2 : lv_has ls 4 [(2, .int (nI 0)), (3, .int (nI n)), (0, .ref a), (1, .int v)] := lv_sub hl [1, 0, 2, 3] rfl
  exact loop n 0 (Nat.zero_add n) ls s.heap [] f (fun j hj => absurd hj (Nat.not_lt_zero j)) hl2 hP hD hS
