theorem xsame {D : va_G} {cl : List vw_C} {tys : List (ClassId × FieldType)} {s : State} {c1 c2 : ClassId} {ty : FieldType} (hty : ∀ C, ty ≠ .object C) (hK : va_K D cl tys s) (i j : Nat) (hi : tys[i]? = some (c1, ty)) (hj : tys[j]? = some (c2, ty)) : c1 = c2 := by
  have h1 := (hK.2 i _ hi).2
  have h2 := (hK.2 j _ hj).2
  cases ty <;> first | exact absurd rfl (hty _) | exact Option.some.inj (h1.symm.trans h2)
theorem d_Bu_init_0 : decode b_Bu_init 0 = .ok (.aload_n 0, 1) := by decide +kernel
theorem d_Bu_init_1 : decode b_Bu_init 1 = .ok (.invokespecial 3, 3) := by decide +kernel
theorem d_Bu_init_4 : decode b_Bu_init 4 = .ok (.aload_n 0, 1) := by decide +kernel
theorem d_Bu_init_5 : decode b_Bu_init 5 = .ok (.bipush (12), 2) := by decide +kernel
theorem d_Bu_init_7 : decode b_Bu_init 7 = .ok (.newarray .int, 2) := by decide +kernel
theorem d_Bu_init_9 : decode b_Bu_init 9 = .ok (.putfield 9, 3) := by decide +kernel
theorem d_Bu_init_12 : decode b_Bu_init 12 = .ok (.return_, 1) := by decide +kernel
set_option maxRecDepth 20000 in
set_option maxHeartbeats 4000000 in
theorem c_Bu_init (l : Launch) (D : va_G) (bu : Nat) (cI : ClassId) (sz : Nat)  : xMv l y_Bu_init w_Bu_init { frames := 1, cells := 1, slots := 12, locals := 13 } D cl [.ref bu] sz [(cI, .int)] [(bu, .inr (0, [.null, .int 0, .int 0, .int 0]))] (fun (u : Nat) => True) (fun u => [(bu, .inr (0, [.ref u, .int 0, .int 0, .int 0])), (u, .inl (cI, 12, .inl (fun _ => 0)))]) (fun _ => []) := by
  refine xMv_of (by decide +kernel) rfl (Nat.le_of_ble_eq_true rfl) ?_
  intro p e s m args below meth c ls A B hAe hA hsz hP hK hD hS hAm hTh hAs hl
  obtain ⟨⟨hx, hb, hml, hown, hts⟩, hret, hlk, hnm, hemp⟩ := id B
  have hl : lv_has ls 1 [(0, .ref bu)] := hl
  refine lv_aload_n hx hb d_Bu_init_0 rfl (lv_at hl 0 rfl) ?_
  refine W.objInit hx hb hown (hts _ (List.mem_cons_of_mem _ tw_127)) (hts _ (List.mem_cons_of_mem _ tw_23)) (hts _ (List.mem_cons_of_mem _ tw_24)) rfl (by rw [hml]; exact hl.1) rfl d_Bu_init_1 (Nat.le_of_ble_eq_true rfl) (Nat.le_of_ble_eq_true rfl) ?_
  refine W.eq (g2 := F0 m 4 ls []) rfl ?_
  refine lv_aload_n hx hb d_Bu_init_4 rfl (lv_at hl 0 rfl) ?_
  refine lv_bipush (v := 12) hx hb d_Bu_init_5 (by decide) ?_
  refine va_newa (atype := .int) (a0 := (12, .inl (fun _ => 0))) (N' := 12) (ty := .int) hx hb (hts _ (List.mem_cons_of_mem _ tw_47)) rfl hK hP hD hS hA (fun _ => rfl) (by decide) (by decide) (by decide) (Nat.le_of_ble_eq_true rfl) (Nat.le_of_ble_eq_true rfl) d_Bu_init_7 (fun q1 cA2 H hK hP hD hS => ?_)
  obtain rfl : cI = cA2 := xsame (by intro C h; cases h) hK 0 1 rfl rfl
  have hK : va_K D cl [(cI, .int)] s := hK.sub [0] rfl
  have hP : va_P D cl [(bu, .inr (0, [.null, .int 0, .int 0, .int 0])), (q1, .inl (cI, 12, .inl (fun _ => 0)))] H := hP
  have hD : va_D A [(bu, .inr (0, [.null, .int 0, .int 0, .int 0])), (q1, .inl (cI, 12, .inl (fun _ => 0)))] := hD
  refine va_putF (D := D) (ci := 0) (v := .ref q1) (ty := .array .int) (C := R_Bu) (T := F_Bu) (N := 4) hx hb hts (fun w h => List.mem_cons_of_mem _ (u_Bu w h)) t_Bu o_Bu n_Bu hown hK hP hD hS 0 rfl rfl 0 (by decide) (hts _ (List.mem_cons_of_mem _ tw_128)) (fun _ h9 => h9) rfl hnm rfl (by decide +kernel) rfl rfl (Nat.le_of_ble_eq_true rfl) d_Bu_init_9 (fun H locs hP hD hS => ?_)
  have hP : va_P D cl [(bu, .inr (0, [.ref q1, .int 0, .int 0, .int 0])), (q1, .inl (cI, 12, .inl (fun _ => 0)))] H := hP
  have hD : va_D A [(bu, .inr (0, [.ref q1, .int 0, .int 0, .int 0])), (q1, .inl (cI, 12, .inl (fun _ => 0)))] := hD
  exact xrv q1 B d_Bu_init_12 (trivial) (hP.sub (ws' := [(bu, .inr (0, [.ref q1, .int 0, .int 0, .int 0])), (q1, .inl (cI, 12, .inl (fun _ => 0)))]) [0, 1] rfl) (hK.sub (tys' := []) [] rfl) (hD.sub (ws' := [(bu, .inr (0, [.ref q1, .int 0, .int 0, .int 0])), (q1, .inl (cI, 12, .inl (fun _ => 0)))]) [0, 1] (by decide) rfl) hS (Nat.le_of_ble_eq_true rfl) (Nat.le_of_ble_eq_true rfl)
theorem d_Di_init_0 : decode b_Di_init 0 = .ok (.aload_n 0, 1) := by decide +kernel
theorem d_Di_init_1 : decode b_Di_init 1 = .ok (.invokespecial 3, 3) := by decide +kernel
theorem d_Di_init_4 : decode b_Di_init 4 = .ok (.aload_n 0, 1) := by decide +kernel
theorem d_Di_init_5 : decode b_Di_init 5 = .ok (.bipush (24), 2) := by decide +kernel
theorem d_Di_init_7 : decode b_Di_init 7 = .ok (.newarray .int, 2) := by decide +kernel
theorem d_Di_init_9 : decode b_Di_init 9 = .ok (.putfield 9, 3) := by decide +kernel
theorem d_Di_init_12 : decode b_Di_init 12 = .ok (.aload_n 0, 1) := by decide +kernel
theorem d_Di_init_13 : decode b_Di_init 13 = .ok (.bipush (24), 2) := by decide +kernel
theorem d_Di_init_15 : decode b_Di_init 15 = .ok (.newarray .int, 2) := by decide +kernel
theorem d_Di_init_17 : decode b_Di_init 17 = .ok (.putfield 15, 3) := by decide +kernel
theorem d_Di_init_20 : decode b_Di_init 20 = .ok (.return_, 1) := by decide +kernel
set_option maxRecDepth 20000 in
set_option maxHeartbeats 4000000 in
theorem c_Di_init (l : Launch) (D : va_G) (di : Nat) (cI : ClassId) (sz : Nat)  : xMv l y_Di_init w_Di_init { frames := 1, cells := 2, slots := 48, locals := 13 } D cl [.ref di] sz [(cI, .int)] [(di, .inr (1, [.null, .null, .int 0, .int 0]))] (fun (u : Nat × Nat) => True) (fun u => [(di, .inr (1, [.ref u.1, .ref u.2, .int 0, .int 0])), (u.1, .inl (cI, 24, .inl (fun _ => 0))), (u.2, .inl (cI, 24, .inl (fun _ => 0)))]) (fun _ => []) := by
  refine xMv_of (by decide +kernel) rfl (Nat.le_of_ble_eq_true rfl) ?_
  intro p e s m args below meth c ls A B hAe hA hsz hP hK hD hS hAm hTh hAs hl
  obtain ⟨⟨hx, hb, hml, hown, hts⟩, hret, hlk, hnm, hemp⟩ := id B
  have hl : lv_has ls 1 [(0, .ref di)] := hl
  refine lv_aload_n hx hb d_Di_init_0 rfl (lv_at hl 0 rfl) ?_
  refine W.objInit hx hb hown (hts _ (List.mem_cons_of_mem _ tw_30)) (hts _ (List.mem_cons_of_mem _ tw_23)) (hts _ (List.mem_cons_of_mem _ tw_24)) rfl (by rw [hml]; exact hl.1) rfl d_Di_init_1 (Nat.le_of_ble_eq_true rfl) (Nat.le_of_ble_eq_true rfl) ?_
  refine W.eq (g2 := F0 m 4 ls []) rfl ?_
  refine lv_aload_n hx hb d_Di_init_4 rfl (lv_at hl 0 rfl) ?_
  refine lv_bipush (v := 24) hx hb d_Di_init_5 (by decide) ?_
  refine va_newa (atype := .int) (a0 := (24, .inl (fun _ => 0))) (N' := 24) (ty := .int) hx hb (hts _ (List.mem_cons_of_mem _ tw_47)) rfl hK hP hD hS hA (fun _ => rfl) (by decide) (by decide) (by decide) (Nat.le_of_ble_eq_true rfl) (Nat.le_of_ble_eq_true rfl) d_Di_init_7 (fun q1 cA2 H hK hP hD hS => ?_)
  obtain rfl : cI = cA2 := xsame (by intro C h; cases h) hK 0 1 rfl rfl
  have hK : va_K D cl [(cI, .int)] s := hK.sub [0] rfl
  have hP : va_P D cl [(di, .inr (1, [.null, .null, .int 0, .int 0])), (q1, .inl (cI, 24, .inl (fun _ => 0)))] H := hP
  have hD : va_D A [(di, .inr (1, [.null, .null, .int 0, .int 0])), (q1, .inl (cI, 24, .inl (fun _ => 0)))] := hD
  refine va_putF (D := D) (ci := 1) (v := .ref q1) (ty := .array .int) (C := R_Di) (T := F_Di) (N := 4) hx hb hts (fun w h => List.mem_cons_of_mem _ (u_Di w h)) t_Di o_Di n_Di hown hK hP hD hS 0 rfl rfl 0 (by decide) (hts _ (List.mem_cons_of_mem _ tw_31)) (fun _ h9 => h9) rfl hnm rfl (by decide +kernel) rfl rfl (Nat.le_of_ble_eq_true rfl) d_Di_init_9 (fun H locs hP hD hS => ?_)
  have hP : va_P D cl [(di, .inr (1, [.ref q1, .null, .int 0, .int 0])), (q1, .inl (cI, 24, .inl (fun _ => 0)))] H := hP
  have hD : va_D A [(di, .inr (1, [.ref q1, .null, .int 0, .int 0])), (q1, .inl (cI, 24, .inl (fun _ => 0)))] := hD
  refine lv_aload_n hx hb d_Di_init_12 rfl (lv_at hl 0 rfl) ?_
  refine lv_bipush (v := 24) hx hb d_Di_init_13 (by decide) ?_
  refine va_newa (atype := .int) (a0 := (24, .inl (fun _ => 0))) (N' := 24) (ty := .int) hx hb (hts _ (List.mem_cons_of_mem _ tw_47)) rfl hK hP hD hS hA (fun _ => rfl) (by decide) (by decide) (by decide) (Nat.le_of_ble_eq_true rfl) (Nat.le_of_ble_eq_true rfl) d_Di_init_15 (fun q3 cA4 H hK hP hD hS => ?_)
  obtain rfl : cI = cA4 := xsame (by intro C h; cases h) hK 0 1 rfl rfl
  have hK : va_K D cl [(cI, .int)] s := hK.sub [0] rfl
  have hP : va_P D cl [(di, .inr (1, [.ref q1, .null, .int 0, .int 0])), (q1, .inl (cI, 24, .inl (fun _ => 0))), (q3, .inl (cI, 24, .inl (fun _ => 0)))] H := hP
  have hD : va_D A [(di, .inr (1, [.ref q1, .null, .int 0, .int 0])), (q1, .inl (cI, 24, .inl (fun _ => 0))), (q3, .inl (cI, 24, .inl (fun _ => 0)))] := hD
  refine va_putF (D := D) (ci := 1) (v := .ref q3) (ty := .array .int) (C := R_Di) (T := F_Di) (N := 4) hx hb hts (fun w h => List.mem_cons_of_mem _ (u_Di w h)) t_Di o_Di n_Di hown hK hP hD hS 0 rfl rfl 1 (by decide) (hts _ (List.mem_cons_of_mem _ tw_33)) (fun _ h9 => h9) rfl hnm rfl (by decide +kernel) rfl rfl (Nat.le_of_ble_eq_true rfl) d_Di_init_17 (fun H locs hP hD hS => ?_)
  have hP : va_P D cl [(di, .inr (1, [.ref q1, .ref q3, .int 0, .int 0])), (q1, .inl (cI, 24, .inl (fun _ => 0))), (q3, .inl (cI, 24, .inl (fun _ => 0)))] H := hP
  have hD : va_D A [(di, .inr (1, [.ref q1, .ref q3, .int 0, .int 0])), (q1, .inl (cI, 24, .inl (fun _ => 0))), (q3, .inl (cI, 24, .inl (fun _ => 0)))] := hD
  exact xrv (q1, q3) B d_Di_init_20 (trivial) (hP.sub (ws' := [(di, .inr (1, [.ref q1, .ref q3, .int 0, .int 0])), (q1, .inl (cI, 24, .inl (fun _ => 0))), (q3, .inl (cI, 24, .inl (fun _ => 0)))]) [0, 1, 2] rfl) (hK.sub (tys' := []) [] rfl) (hD.sub (ws' := [(di, .inr (1, [.ref q1, .ref q3, .int 0, .int 0])), (q1, .inl (cI, 24, .inl (fun _ => 0))), (q3, .inl (cI, 24, .inl (fun _ => 0)))]) [0, 1, 2] (by decide) rfl) hS (Nat.le_of_ble_eq_true rfl) (Nat.le_of_ble_eq_true rfl)
theorem d_Gr_init_0 : decode b_Gr_init 0 = .ok (.aload_n 0, 1) := by decide +kernel
theorem d_Gr_init_1 : decode b_Gr_init 1 = .ok (.invokespecial 3, 3) := by decide +kernel
theorem d_Gr_init_4 : decode b_Gr_init 4 = .ok (.aload_n 0, 1) := by decide +kernel
theorem d_Gr_init_5 : decode b_Gr_init 5 = .ok (.bipush (12), 2) := by decide +kernel
theorem d_Gr_init_7 : decode b_Gr_init 7 = .ok (.newarray .int, 2) := by decide +kernel
theorem d_Gr_init_9 : decode b_Gr_init 9 = .ok (.putfield 9, 3) := by decide +kernel
theorem d_Gr_init_12 : decode b_Gr_init 12 = .ok (.aload_n 0, 1) := by decide +kernel
theorem d_Gr_init_13 : decode b_Gr_init 13 = .ok (.bipush (12), 2) := by decide +kernel
theorem d_Gr_init_15 : decode b_Gr_init 15 = .ok (.newarray .int, 2) := by decide +kernel
theorem d_Gr_init_17 : decode b_Gr_init 17 = .ok (.putfield 15, 3) := by decide +kernel
theorem d_Gr_init_20 : decode b_Gr_init 20 = .ok (.aload_n 0, 1) := by decide +kernel
theorem d_Gr_init_21 : decode b_Gr_init 21 = .ok (.bipush (12), 2) := by decide +kernel
theorem d_Gr_init_23 : decode b_Gr_init 23 = .ok (.newarray .int, 2) := by decide +kernel
theorem d_Gr_init_25 : decode b_Gr_init 25 = .ok (.putfield 18, 3) := by decide +kernel
theorem d_Gr_init_28 : decode b_Gr_init 28 = .ok (.aload_n 0, 1) := by decide +kernel
theorem d_Gr_init_29 : decode b_Gr_init 29 = .ok (.bipush (12), 2) := by decide +kernel
theorem d_Gr_init_31 : decode b_Gr_init 31 = .ok (.newarray .int, 2) := by decide +kernel
theorem d_Gr_init_33 : decode b_Gr_init 33 = .ok (.putfield 21, 3) := by decide +kernel
theorem d_Gr_init_36 : decode b_Gr_init 36 = .ok (.aload_n 0, 1) := by decide +kernel
theorem d_Gr_init_37 : decode b_Gr_init 37 = .ok (.iconst (4), 1) := by decide +kernel
theorem d_Gr_init_38 : decode b_Gr_init 38 = .ok (.bipush (12), 2) := by decide +kernel
theorem d_Gr_init_40 : decode b_Gr_init 40 = .ok (.multianewarray 24 2, 4) := by decide +kernel
theorem d_Gr_init_44 : decode b_Gr_init 44 = .ok (.putfield 26, 3) := by decide +kernel
theorem d_Gr_init_47 : decode b_Gr_init 47 = .ok (.return_, 1) := by decide +kernel
set_option maxRecDepth 20000 in
set_option maxHeartbeats 4000000 in
theorem c_Gr_init (l : Launch) (D : va_G) (gr : Nat) (cI : ClassId) (sz : Nat)  : xMv l y_Gr_init w_Gr_init { frames := 1, cells := 9, slots := 100, locals := 13 } D cl [.ref gr] sz [(cI, .int)] [(gr, .inr (2, [.null, .null, .null, .null, .null, .int 0]))] (fun (u : Nat × Nat × Nat × Nat × Nat) => True) (fun u => [(gr, .inr (2, [.ref u.1, .ref u.2.1, .ref u.2.2.1, .ref u.2.2.2.1, .ref u.2.2.2.2, .int 0])), (u.1, .inl (cI, 12, .inl (fun _ => 0))), (u.2.1, .inl (cI, 12, .inl (fun _ => 0))), (u.2.2.1, .inl (cI, 12, .inl (fun _ => 0)))]) (fun _ => []) := by
  refine xMv_of (by decide +kernel) rfl (Nat.le_of_ble_eq_true rfl) ?_
  intro p e s m args below meth c ls A B hAe hA hsz hP hK hD hS hAm hTh hAs hl
  obtain ⟨⟨hx, hb, hml, hown, hts⟩, hret, hlk, hnm, hemp⟩ := id B
  have hl : lv_has ls 1 [(0, .ref gr)] := hl
  refine lv_aload_n hx hb d_Gr_init_0 rfl (lv_at hl 0 rfl) ?_
  refine W.objInit hx hb hown (hts _ (List.mem_cons_of_mem _ tw_53)) (hts _ (List.mem_cons_of_mem _ tw_23)) (hts _ (List.mem_cons_of_mem _ tw_24)) rfl (by rw [hml]; exact hl.1) rfl d_Gr_init_1 (Nat.le_of_ble_eq_true rfl) (Nat.le_of_ble_eq_true rfl) ?_
  refine W.eq (g2 := F0 m 4 ls []) rfl ?_
  refine lv_aload_n hx hb d_Gr_init_4 rfl (lv_at hl 0 rfl) ?_
  refine lv_bipush (v := 12) hx hb d_Gr_init_5 (by decide) ?_
  refine va_newa (atype := .int) (a0 := (12, .inl (fun _ => 0))) (N' := 12) (ty := .int) hx hb (hts _ (List.mem_cons_of_mem _ tw_47)) rfl hK hP hD hS hA (fun _ => rfl) (by decide) (by decide) (by decide) (Nat.le_of_ble_eq_true rfl) (Nat.le_of_ble_eq_true rfl) d_Gr_init_7 (fun q1 cA2 H hK hP hD hS => ?_)
  obtain rfl : cI = cA2 := xsame (by intro C h; cases h) hK 0 1 rfl rfl
  have hK : va_K D cl [(cI, .int)] s := hK.sub [0] rfl
  have hP : va_P D cl [(gr, .inr (2, [.null, .null, .null, .null, .null, .int 0])), (q1, .inl (cI, 12, .inl (fun _ => 0)))] H := hP
  have hD : va_D A [(gr, .inr (2, [.null, .null, .null, .null, .null, .int 0])), (q1, .inl (cI, 12, .inl (fun _ => 0)))] := hD
  refine va_putF (D := D) (ci := 2) (v := .ref q1) (ty := .array .int) (C := R_Gr) (T := F_Gr) (N := 6) hx hb hts (fun w h => List.mem_cons_of_mem _ (u_Gr w h)) t_Gr o_Gr n_Gr hown hK hP hD hS 0 rfl rfl 0 (by decide) (hts _ (List.mem_cons_of_mem _ tw_56)) (fun _ h9 => h9) rfl hnm rfl (by decide +kernel) rfl rfl (Nat.le_of_ble_eq_true rfl) d_Gr_init_9 (fun H locs hP hD hS => ?_)
  have hP : va_P D cl [(gr, .inr (2, [.ref q1, .null, .null, .null, .null, .int 0])), (q1, .inl (cI, 12, .inl (fun _ => 0)))] H := hP
  have hD : va_D A [(gr, .inr (2, [.ref q1, .null, .null, .null, .null, .int 0])), (q1, .inl (cI, 12, .inl (fun _ => 0)))] := hD
  refine lv_aload_n hx hb d_Gr_init_12 rfl (lv_at hl 0 rfl) ?_
  refine lv_bipush (v := 12) hx hb d_Gr_init_13 (by decide) ?_
  refine va_newa (atype := .int) (a0 := (12, .inl (fun _ => 0))) (N' := 12) (ty := .int) hx hb (hts _ (List.mem_cons_of_mem _ tw_47)) rfl hK hP hD hS hA (fun _ => rfl) (by decide) (by decide) (by decide) (Nat.le_of_ble_eq_true rfl) (Nat.le_of_ble_eq_true rfl) d_Gr_init_15 (fun q3 cA4 H hK hP hD hS => ?_)
  obtain rfl : cI = cA4 := xsame (by intro C h; cases h) hK 0 1 rfl rfl
  have hK : va_K D cl [(cI, .int)] s := hK.sub [0] rfl
  have hP : va_P D cl [(gr, .inr (2, [.ref q1, .null, .null, .null, .null, .int 0])), (q1, .inl (cI, 12, .inl (fun _ => 0))), (q3, .inl (cI, 12, .inl (fun _ => 0)))] H := hP
  have hD : va_D A [(gr, .inr (2, [.ref q1, .null, .null, .null, .null, .int 0])), (q1, .inl (cI, 12, .inl (fun _ => 0))), (q3, .inl (cI, 12, .inl (fun _ => 0)))] := hD
  refine va_putF (D := D) (ci := 2) (v := .ref q3) (ty := .array .int) (C := R_Gr) (T := F_Gr) (N := 6) hx hb hts (fun w h => List.mem_cons_of_mem _ (u_Gr w h)) t_Gr o_Gr n_Gr hown hK hP hD hS 0 rfl rfl 1 (by decide) (hts _ (List.mem_cons_of_mem _ tw_58)) (fun _ h9 => h9) rfl hnm rfl (by decide +kernel) rfl rfl (Nat.le_of_ble_eq_true rfl) d_Gr_init_17 (fun H locs hP hD hS => ?_)
  have hP : va_P D cl [(gr, .inr (2, [.ref q1, .ref q3, .null, .null, .null, .int 0])), (q1, .inl (cI, 12, .inl (fun _ => 0))), (q3, .inl (cI, 12, .inl (fun _ => 0)))] H := hP
  have hD : va_D A [(gr, .inr (2, [.ref q1, .ref q3, .null, .null, .null, .int 0])), (q1, .inl (cI, 12, .inl (fun _ => 0))), (q3, .inl (cI, 12, .inl (fun _ => 0)))] := hD
  refine lv_aload_n hx hb d_Gr_init_20 rfl (lv_at hl 0 rfl) ?_
  refine lv_bipush (v := 12) hx hb d_Gr_init_21 (by decide) ?_
  refine va_newa (atype := .int) (a0 := (12, .inl (fun _ => 0))) (N' := 12) (ty := .int) hx hb (hts _ (List.mem_cons_of_mem _ tw_47)) rfl hK hP hD hS hA (fun _ => rfl) (by decide) (by decide) (by decide) (Nat.le_of_ble_eq_true rfl) (Nat.le_of_ble_eq_true rfl) d_Gr_init_23 (fun q5 cA6 H hK hP hD hS => ?_)
  obtain rfl : cI = cA6 := xsame (by intro C h; cases h) hK 0 1 rfl rfl
  have hK : va_K D cl [(cI, .int)] s := hK.sub [0] rfl
  have hP : va_P D cl [(gr, .inr (2, [.ref q1, .ref q3, .null, .null, .null, .int 0])), (q1, .inl (cI, 12, .inl (fun _ => 0))), (q3, .inl (cI, 12, .inl (fun _ => 0))), (q5, .inl (cI, 12, .inl (fun _ => 0)))] H := hP
  have hD : va_D A [(gr, .inr (2, [.ref q1, .ref q3, .null, .null, .null, .int 0])), (q1, .inl (cI, 12, .inl (fun _ => 0))), (q3, .inl (cI, 12, .inl (fun _ => 0))), (q5, .inl (cI, 12, .inl (fun _ => 0)))] := hD
  refine va_putF (D := D) (ci := 2) (v := .ref q5) (ty := .array .int) (C := R_Gr) (T := F_Gr) (N := 6) hx hb hts (fun w h => List.mem_cons_of_mem _ (u_Gr w h)) t_Gr o_Gr n_Gr hown hK hP hD hS 0 rfl rfl 2 (by decide) (hts _ (List.mem_cons_of_mem _ tw_59)) (fun _ h9 => h9) rfl hnm rfl (by decide +kernel) rfl rfl (Nat.le_of_ble_eq_true rfl) d_Gr_init_25 (fun H locs hP hD hS => ?_)
  have hP : va_P D cl [(gr, .inr (2, [.ref q1, .ref q3, .ref q5, .null, .null, .int 0])), (q1, .inl (cI, 12, .inl (fun _ => 0))), (q3, .inl (cI, 12, .inl (fun _ => 0))), (q5, .inl (cI, 12, .inl (fun _ => 0)))] H := hP
  have hD : va_D A [(gr, .inr (2, [.ref q1, .ref q3, .ref q5, .null, .null, .int 0])), (q1, .inl (cI, 12, .inl (fun _ => 0))), (q3, .inl (cI, 12, .inl (fun _ => 0))), (q5, .inl (cI, 12, .inl (fun _ => 0)))] := hD
  refine lv_aload_n hx hb d_Gr_init_28 rfl (lv_at hl 0 rfl) ?_
  refine lv_bipush (v := 12) hx hb d_Gr_init_29 (by decide) ?_
  refine va_newa (atype := .int) (a0 := (12, .inl (fun _ => 0))) (N' := 12) (ty := .int) hx hb (hts _ (List.mem_cons_of_mem _ tw_47)) rfl hK hP hD hS hA (fun _ => rfl) (by decide) (by decide) (by decide) (Nat.le_of_ble_eq_true rfl) (Nat.le_of_ble_eq_true rfl) d_Gr_init_31 (fun q7 cA8 H hK hP hD hS => ?_)
  obtain rfl : cI = cA8 := xsame (by intro C h; cases h) hK 0 1 rfl rfl
  have hK : va_K D cl [(cI, .int)] s := hK.sub [0] rfl
  have hP : va_P D cl [(gr, .inr (2, [.ref q1, .ref q3, .ref q5, .null, .null, .int 0])), (q1, .inl (cI, 12, .inl (fun _ => 0))), (q3, .inl (cI, 12, .inl (fun _ => 0))), (q5, .inl (cI, 12, .inl (fun _ => 0))), (q7, .inl (cI, 12, .inl (fun _ => 0)))] H := hP
  have hD : va_D A [(gr, .inr (2, [.ref q1, .ref q3, .ref q5, .null, .null, .int 0])), (q1, .inl (cI, 12, .inl (fun _ => 0))), (q3, .inl (cI, 12, .inl (fun _ => 0))), (q5, .inl (cI, 12, .inl (fun _ => 0))), (q7, .inl (cI, 12, .inl (fun _ => 0)))] := hD
  refine va_putF (D := D) (ci := 2) (v := .ref q7) (ty := .array .int) (C := R_Gr) (T := F_Gr) (N := 6) hx hb hts (fun w h => List.mem_cons_of_mem _ (u_Gr w h)) t_Gr o_Gr n_Gr hown hK hP hD hS 0 rfl rfl 3 (by decide) (hts _ (List.mem_cons_of_mem _ tw_61)) (fun _ h9 => h9) rfl hnm rfl (by decide +kernel) rfl rfl (Nat.le_of_ble_eq_true rfl) d_Gr_init_33 (fun H locs hP hD hS => ?_)
  have hP : va_P D cl [(gr, .inr (2, [.ref q1, .ref q3, .ref q5, .ref q7, .null, .int 0])), (q1, .inl (cI, 12, .inl (fun _ => 0))), (q3, .inl (cI, 12, .inl (fun _ => 0))), (q5, .inl (cI, 12, .inl (fun _ => 0))), (q7, .inl (cI, 12, .inl (fun _ => 0)))] H := hP
  have hD : va_D A [(gr, .inr (2, [.ref q1, .ref q3, .ref q5, .ref q7, .null, .int 0])), (q1, .inl (cI, 12, .inl (fun _ => 0))), (q3, .inl (cI, 12, .inl (fun _ => 0))), (q5, .inl (cI, 12, .inl (fun _ => 0))), (q7, .inl (cI, 12, .inl (fun _ => 0)))] := hD
  refine lv_aload_n hx hb d_Gr_init_36 rfl (lv_at hl 0 rfl) ?_
  refine lv_iconst (v := 4) hx hb d_Gr_init_37 (by decide) ?_
  refine lv_bipush (v := 12) hx hb d_Gr_init_38 (by decide) ?_
  refine xmulti hx hb hown (hts _ (List.mem_cons_of_mem _ tw_54)) hAm.2.2.2.2.2 (hts _ (List.mem_cons_of_mem _ tw_47)) hP hS hA (Nat.le_of_ble_eq_true rfl) (Nat.le_of_ble_eq_true rfl) d_Gr_init_40 (fun q9 H hP hS => ?_)
  refine va_putF (D := D) (ci := 2) (v := .ref q9) (ty := .array (.array .int)) (C := R_Gr) (T := F_Gr) (N := 6) hx hb hts (fun w h => List.mem_cons_of_mem _ (u_Gr w h)) t_Gr o_Gr n_Gr hown hK hP hD hS 0 rfl rfl 4 (by decide) (hts _ (List.mem_cons_of_mem _ tw_63)) (fun _ h9 => h9) rfl hnm rfl (by decide +kernel) rfl rfl (Nat.le_of_ble_eq_true rfl) d_Gr_init_44 (fun H locs hP hD hS => ?_)
  have hP : va_P D cl [(gr, .inr (2, [.ref q1, .ref q3, .ref q5, .ref q7, .ref q9, .int 0])), (q1, .inl (cI, 12, .inl (fun _ => 0))), (q3, .inl (cI, 12, .inl (fun _ => 0))), (q5, .inl (cI, 12, .inl (fun _ => 0))), (q7, .inl (cI, 12, .inl (fun _ => 0)))] H := hP
  have hD : va_D A [(gr, .inr (2, [.ref q1, .ref q3, .ref q5, .ref q7, .ref q9, .int 0])), (q1, .inl (cI, 12, .inl (fun _ => 0))), (q3, .inl (cI, 12, .inl (fun _ => 0))), (q5, .inl (cI, 12, .inl (fun _ => 0))), (q7, .inl (cI, 12, .inl (fun _ => 0)))] := hD
  exact xrv (q1, q3, q5, q7, q9) B d_Gr_init_47 (trivial) (hP.sub (ws' := [(gr, .inr (2, [.ref q1, .ref q3, .ref q5, .ref q7, .ref q9, .int 0])), (q1, .inl (cI, 12, .inl (fun _ => 0))), (q3, .inl (cI, 12, .inl (fun _ => 0))), (q5, .inl (cI, 12, .inl (fun _ => 0)))]) [0, 1, 2, 3] rfl) (hK.sub (tys' := []) [] rfl) (hD.sub (ws' := [(gr, .inr (2, [.ref q1, .ref q3, .ref q5, .ref q7, .ref q9, .int 0])), (q1, .inl (cI, 12, .inl (fun _ => 0))), (q3, .inl (cI, 12, .inl (fun _ => 0))), (q5, .inl (cI, 12, .inl (fun _ => 0)))]) [0, 1, 2, 3] (by decide) rfl) hS (Nat.le_of_ble_eq_true rfl) (Nat.le_of_ble_eq_true rfl)
theorem d_Re_init_0 : decode b_Re_init 0 = .ok (.aload_n 0, 1) := by decide +kernel
theorem d_Re_init_1 : decode b_Re_init 1 = .ok (.invokespecial 3, 3) := by decide +kernel
theorem d_Re_init_4 : decode b_Re_init 4 = .ok (.aload_n 0, 1) := by decide +kernel
theorem d_Re_init_5 : decode b_Re_init 5 = .ok (.bipush (12), 2) := by decide +kernel
theorem d_Re_init_7 : decode b_Re_init 7 = .ok (.newarray .int, 2) := by decide +kernel
theorem d_Re_init_9 : decode b_Re_init 9 = .ok (.putfield 9, 3) := by decide +kernel
theorem d_Re_init_12 : decode b_Re_init 12 = .ok (.aload_n 0, 1) := by decide +kernel
theorem d_Re_init_13 : decode b_Re_init 13 = .ok (.bipush (12), 2) := by decide +kernel
theorem d_Re_init_15 : decode b_Re_init 15 = .ok (.newarray .boolean, 2) := by decide +kernel
theorem d_Re_init_17 : decode b_Re_init 17 = .ok (.putfield 15, 3) := by decide +kernel
theorem d_Re_init_20 : decode b_Re_init 20 = .ok (.return_, 1) := by decide +kernel
set_option maxRecDepth 20000 in
set_option maxHeartbeats 4000000 in
theorem c_Re_init (l : Launch) (D : va_G) (re : Nat) (cI : ClassId) (cZ : ClassId) (sz : Nat)  : xMv l y_Re_init w_Re_init { frames := 1, cells := 2, slots := 24, locals := 13 } D cl [.ref re] sz [(cI, .int), (cZ, .boolean)] [(re, .inr (3, [.null, .null]))] (fun (u : Nat × Nat) => True) (fun u => [(re, .inr (3, [.ref u.1, .ref u.2])), (u.1, .inl (cI, 12, .inl (fun _ => 0))), (u.2, .inl (cZ, 12, .inl (fun _ => 0)))]) (fun _ => []) := by
  refine xMv_of (by decide +kernel) rfl (Nat.le_of_ble_eq_true rfl) ?_
  intro p e s m args below meth c ls A B hAe hA hsz hP hK hD hS hAm hTh hAs hl
  obtain ⟨⟨hx, hb, hml, hown, hts⟩, hret, hlk, hnm, hemp⟩ := id B
  have hl : lv_has ls 1 [(0, .ref re)] := hl
  refine lv_aload_n hx hb d_Re_init_0 rfl (lv_at hl 0 rfl) ?_
  refine W.objInit hx hb hown (hts _ (List.mem_cons_of_mem _ tw_85)) (hts _ (List.mem_cons_of_mem _ tw_23)) (hts _ (List.mem_cons_of_mem _ tw_24)) rfl (by rw [hml]; exact hl.1) rfl d_Re_init_1 (Nat.le_of_ble_eq_true rfl) (Nat.le_of_ble_eq_true rfl) ?_
  refine W.eq (g2 := F0 m 4 ls []) rfl ?_
  refine lv_aload_n hx hb d_Re_init_4 rfl (lv_at hl 0 rfl) ?_
  refine lv_bipush (v := 12) hx hb d_Re_init_5 (by decide) ?_
  refine va_newa (atype := .int) (a0 := (12, .inl (fun _ => 0))) (N' := 12) (ty := .int) hx hb (hts _ (List.mem_cons_of_mem _ tw_47)) rfl hK hP hD hS hA (fun _ => rfl) (by decide) (by decide) (by decide) (Nat.le_of_ble_eq_true rfl) (Nat.le_of_ble_eq_true rfl) d_Re_init_7 (fun q1 cA2 H hK hP hD hS => ?_)
  obtain rfl : cI = cA2 := xsame (by intro C h; cases h) hK 0 2 rfl rfl
  have hK : va_K D cl [(cI, .int), (cZ, .boolean)] s := hK.sub [0, 1] rfl
  have hP : va_P D cl [(re, .inr (3, [.null, .null])), (q1, .inl (cI, 12, .inl (fun _ => 0)))] H := hP
  have hD : va_D A [(re, .inr (3, [.null, .null])), (q1, .inl (cI, 12, .inl (fun _ => 0)))] := hD
  refine va_putF (D := D) (ci := 3) (v := .ref q1) (ty := .array .int) (C := R_Re) (T := F_Re) (N := 2) hx hb hts (fun w h => List.mem_cons_of_mem _ (u_Re w h)) t_Re o_Re n_Re hown hK hP hD hS 0 rfl rfl 0 (by decide) (hts _ (List.mem_cons_of_mem _ tw_86)) (fun _ h9 => h9) rfl hnm rfl (by decide +kernel) rfl rfl (Nat.le_of_ble_eq_true rfl) d_Re_init_9 (fun H locs hP hD hS => ?_)
  have hP : va_P D cl [(re, .inr (3, [.ref q1, .null])), (q1, .inl (cI, 12, .inl (fun _ => 0)))] H := hP
  have hD : va_D A [(re, .inr (3, [.ref q1, .null])), (q1, .inl (cI, 12, .inl (fun _ => 0)))] := hD
  refine lv_aload_n hx hb d_Re_init_12 rfl (lv_at hl 0 rfl) ?_
  refine lv_bipush (v := 12) hx hb d_Re_init_13 (by decide) ?_
  refine va_newa (atype := .boolean) (a0 := (12, .inl (fun _ => 0))) (N' := 12) (ty := .boolean) hx hb (hts _ (List.mem_cons_of_mem _ tw_95)) rfl hK hP hD hS hA (fun _ => rfl) (by decide) (by decide) (by decide) (Nat.le_of_ble_eq_true rfl) (Nat.le_of_ble_eq_true rfl) d_Re_init_15 (fun q3 cA4 H hK hP hD hS => ?_)
  obtain rfl : cZ = cA4 := xsame (by intro C h; cases h) hK 1 2 rfl rfl
  have hK : va_K D cl [(cI, .int), (cZ, .boolean)] s := hK.sub [0, 1] rfl
  have hP : va_P D cl [(re, .inr (3, [.ref q1, .null])), (q1, .inl (cI, 12, .inl (fun _ => 0))), (q3, .inl (cZ, 12, .inl (fun _ => 0)))] H := hP
  have hD : va_D A [(re, .inr (3, [.ref q1, .null])), (q1, .inl (cI, 12, .inl (fun _ => 0))), (q3, .inl (cZ, 12, .inl (fun _ => 0)))] := hD
  refine va_putF (D := D) (ci := 3) (v := .ref q3) (ty := .array .boolean) (C := R_Re) (T := F_Re) (N := 2) hx hb hts (fun w h => List.mem_cons_of_mem _ (u_Re w h)) t_Re o_Re n_Re hown hK hP hD hS 0 rfl rfl 1 (by decide) (hts _ (List.mem_cons_of_mem _ tw_88)) (fun _ h9 => h9) rfl hnm rfl (by decide +kernel) rfl rfl (Nat.le_of_ble_eq_true rfl) d_Re_init_17 (fun H locs hP hD hS => ?_)
  have hP : va_P D cl [(re, .inr (3, [.ref q1, .ref q3])), (q1, .inl (cI, 12, .inl (fun _ => 0))), (q3, .inl (cZ, 12, .inl (fun _ => 0)))] H := hP
  have hD : va_D A [(re, .inr (3, [.ref q1, .ref q3])), (q1, .inl (cI, 12, .inl (fun _ => 0))), (q3, .inl (cZ, 12, .inl (fun _ => 0)))] := hD
  exact xrv (q1, q3) B d_Re_init_20 (trivial) (hP.sub (ws' := [(re, .inr (3, [.ref q1, .ref q3])), (q1, .inl (cI, 12, .inl (fun _ => 0))), (q3, .inl (cZ, 12, .inl (fun _ => 0)))]) [0, 1, 2] rfl) (hK.sub (tys' := []) [] rfl) (hD.sub (ws' := [(re, .inr (3, [.ref q1, .ref q3])), (q1, .inl (cI, 12, .inl (fun _ => 0))), (q3, .inl (cZ, 12, .inl (fun _ => 0)))]) [0, 1, 2] (by decide) rfl) hS (Nat.le_of_ble_eq_true rfl) (Nat.le_of_ble_eq_true rfl)
theorem d_RL_init_0 : decode b_RL_init 0 = .ok (.aload_n 0, 1) := by decide +kernel
theorem d_RL_init_1 : decode b_RL_init 1 = .ok (.invokespecial 5, 3) := by decide +kernel
theorem d_RL_init_4 : decode b_RL_init 4 = .ok (.aload_n 0, 1) := by decide +kernel
theorem d_RL_init_5 : decode b_RL_init 5 = .ok (.sipush (400), 3) := by decide +kernel
theorem d_RL_init_8 : decode b_RL_init 8 = .ok (.newarray .int, 2) := by decide +kernel
theorem d_RL_init_10 : decode b_RL_init 10 = .ok (.putfield 11, 3) := by decide +kernel
theorem d_RL_init_13 : decode b_RL_init 13 = .ok (.aload_n 0, 1) := by decide +kernel
theorem d_RL_init_14 : decode b_RL_init 14 = .ok (.bipush (24), 2) := by decide +kernel
theorem d_RL_init_16 : decode b_RL_init 16 = .ok (.newarray .int, 2) := by decide +kernel
theorem d_RL_init_18 : decode b_RL_init 18 = .ok (.putfield 15, 3) := by decide +kernel
theorem d_RL_init_21 : decode b_RL_init 21 = .ok (.aload_n 0, 1) := by decide +kernel
theorem d_RL_init_22 : decode b_RL_init 22 = .ok (.bipush (24), 2) := by decide +kernel
theorem d_RL_init_24 : decode b_RL_init 24 = .ok (.newarray .int, 2) := by decide +kernel
theorem d_RL_init_26 : decode b_RL_init 26 = .ok (.putfield 18, 3) := by decide +kernel
theorem d_RL_init_29 : decode b_RL_init 29 = .ok (.aload_n 0, 1) := by decide +kernel
theorem d_RL_init_30 : decode b_RL_init 30 = .ok (.getfield 15, 3) := by decide +kernel
theorem d_RL_init_33 : decode b_RL_init 33 = .ok (.iconst (-1), 1) := by decide +kernel
theorem d_RL_init_34 : decode b_RL_init 34 = .ok (.invokestatic 21, 3) := by decide +kernel
theorem d_RL_init_37 : decode b_RL_init 37 = .ok (.return_, 1) := by decide +kernel
set_option maxRecDepth 20000 in
set_option maxHeartbeats 4000000 in
theorem c_RL_init (l : Launch) (D : va_G) (rl : Nat) (cI : ClassId) (sz : Nat)  : xMv l y_RL_init w_RL_init { frames := 1, cells := 3, slots := 448, locals := 30 } D cl [.ref rl] sz [(cI, .int)] [(rl, .inr (4, [.null, .null, .null, .int 0]))] (fun (u : Nat × Nat × Nat) => True) (fun u => [(rl, .inr (4, [.ref u.1, .ref u.2.1, .ref u.2.2, .int 0])), (u.2.1, .inl (cI, 24, .inl (fun _ => (-1))))]) (fun _ => []) := by
  refine xMv_of (by decide +kernel) rfl (Nat.le_of_ble_eq_true rfl) ?_
  intro p e s m args below meth c ls A B hAe hA hsz hP hK hD hS hAm hTh hAs hl
  obtain ⟨⟨hx, hb, hml, hown, hts⟩, hret, hlk, hnm, hemp⟩ := id B
  have hl : lv_has ls 1 [(0, .ref rl)] := hl
  refine lv_aload_n hx hb d_RL_init_0 rfl (lv_at hl 0 rfl) ?_
  refine W.objInit hx hb hown (hts _ (List.mem_cons_of_mem _ tw_101)) (hts _ (List.mem_cons_of_mem _ tw_23)) (hts _ (List.mem_cons_of_mem _ tw_24)) rfl (by rw [hml]; exact hl.1) rfl d_RL_init_1 (Nat.le_of_ble_eq_true rfl) (Nat.le_of_ble_eq_true rfl) ?_
  refine W.eq (g2 := F0 m 4 ls []) rfl ?_
  refine lv_aload_n hx hb d_RL_init_4 rfl (lv_at hl 0 rfl) ?_
  refine lv_sipush (v := 400) hx hb d_RL_init_5 (by decide) ?_
  refine va_newa (atype := .int) (a0 := (400, .inl (fun _ => 0))) (N' := 400) (ty := .int) hx hb (hts _ (List.mem_cons_of_mem _ tw_47)) rfl hK hP hD hS hA (fun _ => rfl) (by decide) (by decide) (by decide) (Nat.le_of_ble_eq_true rfl) (Nat.le_of_ble_eq_true rfl) d_RL_init_8 (fun q1 cA2 H hK hP hD hS => ?_)
  obtain rfl : cI = cA2 := xsame (by intro C h; cases h) hK 0 1 rfl rfl
  have hK : va_K D cl [(cI, .int)] s := hK.sub [0] rfl
  have hP : va_P D cl [(rl, .inr (4, [.null, .null, .null, .int 0])), (q1, .inl (cI, 400, .inl (fun _ => 0)))] H := hP
  have hD : va_D A [(rl, .inr (4, [.null, .null, .null, .int 0])), (q1, .inl (cI, 400, .inl (fun _ => 0)))] := hD
  refine va_putF (D := D) (ci := 4) (v := .ref q1) (ty := .array .int) (C := R_RL) (T := F_RL) (N := 4) hx hb hts (fun w h => List.mem_cons_of_mem _ (u_RL w h)) t_RL o_RL n_RL hown hK hP hD hS 0 rfl rfl 0 (by decide) (hts _ (List.mem_cons_of_mem _ tw_105)) (fun _ h9 => h9) rfl hnm rfl (by decide +kernel) rfl rfl (Nat.le_of_ble_eq_true rfl) d_RL_init_10 (fun H locs hP hD hS => ?_)
  have hP : va_P D cl [(rl, .inr (4, [.ref q1, .null, .null, .int 0])), (q1, .inl (cI, 400, .inl (fun _ => 0)))] H := hP
  have hD : va_D A [(rl, .inr (4, [.ref q1, .null, .null, .int 0])), (q1, .inl (cI, 400, .inl (fun _ => 0)))] := hD
  refine lv_aload_n hx hb d_RL_init_13 rfl (lv_at hl 0 rfl) ?_
  refine lv_bipush (v := 24) hx hb d_RL_init_14 (by decide) ?_
  refine va_newa (atype := .int) (a0 := (24, .inl (fun _ => 0))) (N' := 24) (ty := .int) hx hb (hts _ (List.mem_cons_of_mem _ tw_47)) rfl hK hP hD hS hA (fun _ => rfl) (by decide) (by decide) (by decide) (Nat.le_of_ble_eq_true rfl) (Nat.le_of_ble_eq_true rfl) d_RL_init_16 (fun q3 cA4 H hK hP hD hS => ?_)
  obtain rfl : cI = cA4 := xsame (by intro C h; cases h) hK 0 1 rfl rfl
  have hK : va_K D cl [(cI, .int)] s := hK.sub [0] rfl
  have hP : va_P D cl [(rl, .inr (4, [.ref q1, .null, .null, .int 0])), (q1, .inl (cI, 400, .inl (fun _ => 0))), (q3, .inl (cI, 24, .inl (fun _ => 0)))] H := hP
  have hD : va_D A [(rl, .inr (4, [.ref q1, .null, .null, .int 0])), (q1, .inl (cI, 400, .inl (fun _ => 0))), (q3, .inl (cI, 24, .inl (fun _ => 0)))] := hD
  refine va_putF (D := D) (ci := 4) (v := .ref q3) (ty := .array .int) (C := R_RL) (T := F_RL) (N := 4) hx hb hts (fun w h => List.mem_cons_of_mem _ (u_RL w h)) t_RL o_RL n_RL hown hK hP hD hS 0 rfl rfl 1 (by decide) (hts _ (List.mem_cons_of_mem _ tw_107)) (fun _ h9 => h9) rfl hnm rfl (by decide +kernel) rfl rfl (Nat.le_of_ble_eq_true rfl) d_RL_init_18 (fun H locs hP hD hS => ?_)
  have hP : va_P D cl [(rl, .inr (4, [.ref q1, .ref q3, .null, .int 0])), (q1, .inl (cI, 400, .inl (fun _ => 0))), (q3, .inl (cI, 24, .inl (fun _ => 0)))] H := hP
  have hD : va_D A [(rl, .inr (4, [.ref q1, .ref q3, .null, .int 0])), (q1, .inl (cI, 400, .inl (fun _ => 0))), (q3, .inl (cI, 24, .inl (fun _ => 0)))] := hD
  refine lv_aload_n hx hb d_RL_init_21 rfl (lv_at hl 0 rfl) ?_
  refine lv_bipush (v := 24) hx hb d_RL_init_22 (by decide) ?_
  refine va_newa (atype := .int) (a0 := (24, .inl (fun _ => 0))) (N' := 24) (ty := .int) hx hb (hts _ (List.mem_cons_of_mem _ tw_47)) rfl hK hP hD hS hA (fun _ => rfl) (by decide) (by decide) (by decide) (Nat.le_of_ble_eq_true rfl) (Nat.le_of_ble_eq_true rfl) d_RL_init_24 (fun q5 cA6 H hK hP hD hS => ?_)
  obtain rfl : cI = cA6 := xsame (by intro C h; cases h) hK 0 1 rfl rfl
  have hK : va_K D cl [(cI, .int)] s := hK.sub [0] rfl
  have hP : va_P D cl [(rl, .inr (4, [.ref q1, .ref q3, .null, .int 0])), (q1, .inl (cI, 400, .inl (fun _ => 0))), (q3, .inl (cI, 24, .inl (fun _ => 0))), (q5, .inl (cI, 24, .inl (fun _ => 0)))] H := hP
  have hD : va_D A [(rl, .inr (4, [.ref q1, .ref q3, .null, .int 0])), (q1, .inl (cI, 400, .inl (fun _ => 0))), (q3, .inl (cI, 24, .inl (fun _ => 0))), (q5, .inl (cI, 24, .inl (fun _ => 0)))] := hD
  refine va_putF (D := D) (ci := 4) (v := .ref q5) (ty := .array .int) (C := R_RL) (T := F_RL) (N := 4) hx hb hts (fun w h => List.mem_cons_of_mem _ (u_RL w h)) t_RL o_RL n_RL hown hK hP hD hS 0 rfl rfl 2 (by decide) (hts _ (List.mem_cons_of_mem _ tw_109)) (fun _ h9 => h9) rfl hnm rfl (by decide +kernel) rfl rfl (Nat.le_of_ble_eq_true rfl) d_RL_init_26 (fun H locs hP hD hS => ?_)
  have hP : va_P D cl [(rl, .inr (4, [.ref q1, .ref q3, .ref q5, .int 0])), (q1, .inl (cI, 400, .inl (fun _ => 0))), (q3, .inl (cI, 24, .inl (fun _ => 0))), (q5, .inl (cI, 24, .inl (fun _ => 0)))] H := hP
  have hD : va_D A [(rl, .inr (4, [.ref q1, .ref q3, .ref q5, .int 0])), (q1, .inl (cI, 400, .inl (fun _ => 0))), (q3, .inl (cI, 24, .inl (fun _ => 0))), (q5, .inl (cI, 24, .inl (fun _ => 0)))] := hD
  refine lv_aload_n hx hb d_RL_init_29 rfl (lv_at hl 0 rfl) ?_
  refine va_get (D := D) (ci := 4) (v := .ref q3) (C := R_RL) (T := F_RL) (N := 4) hx hb hts (fun w h => List.mem_cons_of_mem _ (u_RL w h)) hown hK hP 0 rfl rfl 1 (by decide) (hts _ (List.mem_cons_of_mem _ tw_107)) (fun _ h9 => h9) rfl d_RL_init_30 ?_
  refine lv_iconst (v := (-1)) hx hb d_RL_init_33 (by decide) ?_
  have hPc := hP.sub (ws' := [(q3, .inl (cI, 24, .inl (fun _ => 0)))]) [2] rfl
  have hDc := hD.sub (ws' := [(q3, .inl (cI, 24, .inl (fun _ => 0)))]) [2] (by decide) rfl
  have hKc := hK.sub (tys' := [(cI, .int)]) [0] rfl
  refine xgv (wsC := [(q3, .inl (cI, 24, .inl (fun _ => 0)))]) (wr := [(rl, .inr (4, [.ref q1, .ref q3, .ref q5, .int 0])), (q1, .inl (cI, 400, .inl (fun _ => 0))), (q5, .inl (cI, 24, .inl (fun _ => 0)))]) (va_runS (As := [.ref q3, .int (-1)]) (rest := []) ⟨hx, hb, hml, hown, hts⟩ (c_Ar_fill l D q3 cI 24 (fun _ => 0) (-1) _ (by decide)) ⟨(callB_of 2 hts (x_good k_Ar_fill) rfl rfl rfl (hts _ (List.mem_cons_of_mem _ tw_6)) (hts _ (List.mem_cons_of_mem _ tw_102)) (by decide +kernel) ⟨Nat.le_of_ble_eq_true rfl, Nat.le_of_ble_eq_true rfl⟩), (hts _ (List.mem_cons_of_mem _ tw_103))⟩ (xP_S hPc hKc hDc hAm hTh hAs hS) rfl rfl hl.1 rfl (lv_room (Nat.le_of_ble_eq_true rfl)) d_RL_init_34 ⟨Nat.le_of_ble_eq_true rfl, Nat.le_of_ble_eq_true rfl⟩) hP hD hK hS hA [2] [0, 1, 3] rfl rfl (by decide) (by decide) (fun _ H locs _ hP hD hK hS => ?_)
  have hK : va_K D cl [(cI, .int)] s := hK
  have hP : va_P D cl [(rl, .inr (4, [.ref q1, .ref q3, .ref q5, .int 0])), (q1, .inl (cI, 400, .inl (fun _ => 0))), (q5, .inl (cI, 24, .inl (fun _ => 0))), (q3, .inl (cI, 24, .inl (fun _ => (-1))))] H := hP
  have hD : va_D A [(rl, .inr (4, [.ref q1, .ref q3, .ref q5, .int 0])), (q1, .inl (cI, 400, .inl (fun _ => 0))), (q5, .inl (cI, 24, .inl (fun _ => 0))), (q3, .inl (cI, 24, .inl (fun _ => (-1))))] := hD
  exact xrv (q1, q3, q5) B d_RL_init_37 (trivial) (hP.sub (ws' := [(rl, .inr (4, [.ref q1, .ref q3, .ref q5, .int 0])), (q3, .inl (cI, 24, .inl (fun _ => (-1))))]) [0, 3] rfl) (hK.sub (tys' := []) [] rfl) (hD.sub (ws' := [(rl, .inr (4, [.ref q1, .ref q3, .ref q5, .int 0])), (q3, .inl (cI, 24, .inl (fun _ => (-1))))]) [0, 3] (by decide) rfl) hS (Nat.le_of_ble_eq_true rfl) (Nat.le_of_ble_eq_true rfl)
theorem d_FB_init_0 : decode b_FB_init 0 = .ok (.aload_n 0, 1) := by decide +kernel
theorem d_FB_init_1 : decode b_FB_init 1 = .ok (.invokespecial 3, 3) := by decide +kernel
theorem d_FB_init_4 : decode b_FB_init 4 = .ok (.aload_n 0, 1) := by decide +kernel
theorem d_FB_init_5 : decode b_FB_init 5 = .ok (.new 9, 3) := by decide +kernel
theorem d_FB_init_8 : decode b_FB_init 8 = .ok (.dup, 1) := by decide +kernel
theorem d_FB_init_9 : decode b_FB_init 9 = .ok (.invokespecial 11, 3) := by decide +kernel
theorem d_FB_init_12 : decode b_FB_init 12 = .ok (.putfield 12, 3) := by decide +kernel
theorem d_FB_init_15 : decode b_FB_init 15 = .ok (.aload_n 0, 1) := by decide +kernel
theorem d_FB_init_16 : decode b_FB_init 16 = .ok (.new 16, 3) := by decide +kernel
theorem d_FB_init_19 : decode b_FB_init 19 = .ok (.dup, 1) := by decide +kernel
theorem d_FB_init_20 : decode b_FB_init 20 = .ok (.invokespecial 18, 3) := by decide +kernel
theorem d_FB_init_23 : decode b_FB_init 23 = .ok (.putfield 19, 3) := by decide +kernel
theorem d_FB_init_26 : decode b_FB_init 26 = .ok (.aload_n 0, 1) := by decide +kernel
theorem d_FB_init_27 : decode b_FB_init 27 = .ok (.new 23, 3) := by decide +kernel
theorem d_FB_init_30 : decode b_FB_init 30 = .ok (.dup, 1) := by decide +kernel
theorem d_FB_init_31 : decode b_FB_init 31 = .ok (.invokespecial 25, 3) := by decide +kernel
theorem d_FB_init_34 : decode b_FB_init 34 = .ok (.putfield 26, 3) := by decide +kernel
theorem d_FB_init_37 : decode b_FB_init 37 = .ok (.aload_n 0, 1) := by decide +kernel
theorem d_FB_init_38 : decode b_FB_init 38 = .ok (.new 30, 3) := by decide +kernel
theorem d_FB_init_41 : decode b_FB_init 41 = .ok (.dup, 1) := by decide +kernel
theorem d_FB_init_42 : decode b_FB_init 42 = .ok (.invokespecial 32, 3) := by decide +kernel
theorem d_FB_init_45 : decode b_FB_init 45 = .ok (.putfield 33, 3) := by decide +kernel
theorem d_FB_init_48 : decode b_FB_init 48 = .ok (.aload_n 0, 1) := by decide +kernel
theorem d_FB_init_49 : decode b_FB_init 49 = .ok (.new 37, 3) := by decide +kernel
theorem d_FB_init_52 : decode b_FB_init 52 = .ok (.dup, 1) := by decide +kernel
theorem d_FB_init_53 : decode b_FB_init 53 = .ok (.invokespecial 39, 3) := by decide +kernel
theorem d_FB_init_56 : decode b_FB_init 56 = .ok (.putfield 40, 3) := by decide +kernel
theorem d_FB_init_59 : decode b_FB_init 59 = .ok (.aload_n 0, 1) := by decide +kernel
theorem d_FB_init_60 : decode b_FB_init 60 = .ok (.iconst (3), 1) := by decide +kernel
theorem d_FB_init_61 : decode b_FB_init 61 = .ok (.newarray .int, 2) := by decide +kernel
theorem d_FB_init_63 : decode b_FB_init 63 = .ok (.putfield 44, 3) := by decide +kernel
theorem d_FB_init_66 : decode b_FB_init 66 = .ok (.aload_n 0, 1) := by decide +kernel
theorem d_FB_init_67 : decode b_FB_init 67 = .ok (.getfield 44, 3) := by decide +kernel
theorem d_FB_init_70 : decode b_FB_init 70 = .ok (.iconst (1), 1) := by decide +kernel
theorem d_FB_init_71 : decode b_FB_init 71 = .ok (.invokestatic 48, 3) := by decide +kernel
theorem d_FB_init_74 : decode b_FB_init 74 = .ok (.return_, 1) := by decide +kernel
set_option maxRecDepth 20000 in
set_option maxHeartbeats 4000000 in
theorem c_FB_init (l : Launch) (D : va_G) (fb : Nat) (cI : ClassId) (cZ : ClassId) (sz : Nat)  : xMv l y_FB_init w_FB_init { frames := 2, cells := 23, slots := 655, locals := 60 } D cl [.ref fb] sz [(cI, .int), (cZ, .boolean)] [(fb, .inr (5, [.null, .null, .null, .null, .null, .null]))] (fun (u : Nat × Nat × Nat × Nat × Nat × Nat × Nat × Nat × Nat × Nat × Nat × Nat × Nat × Nat × Nat × Nat × Nat × Nat × Nat) => True) (fun u => [(fb, .inr (5, [.ref u.1, .ref u.2.1, .ref u.2.2.1, .ref u.2.2.2.1, .ref u.2.2.2.2.1, .ref u.2.2.2.2.2.1])), (u.1, .inr (1, [.ref u.2.2.2.2.2.2.1, .ref u.2.2.2.2.2.2.2.1, .int 0, .int 0])), (u.2.1, .inr (2, [.ref u.2.2.2.2.2.2.2.2.1, .ref u.2.2.2.2.2.2.2.2.2.1, .ref u.2.2.2.2.2.2.2.2.2.2.1, .ref u.2.2.2.2.2.2.2.2.2.2.2.2.2.2.2.1, .ref u.2.2.2.2.2.2.2.2.2.2.2.2.2.2.2.2.1, .int 0])), (u.2.2.1, .inr (3, [.ref u.2.2.2.2.2.2.2.2.2.2.2.1, .ref u.2.2.2.2.2.2.2.2.2.2.2.2.1])), (u.2.2.2.1, .inr (4, [.ref u.2.2.2.2.2.2.2.2.2.2.2.2.2.2.2.2.2.1, .ref u.2.2.2.2.2.2.2.2.2.2.2.2.2.1, .ref u.2.2.2.2.2.2.2.2.2.2.2.2.2.2.2.2.2.2, .int 0])), (u.2.2.2.2.1, .inr (0, [.ref u.2.2.2.2.2.2.2.2.2.2.2.2.2.2.1, .int 0, .int 0, .int 0])), (u.2.2.2.2.2.1, .inl (cI, 3, .inl (fun _ => 1))), (u.2.2.2.2.2.2.1, .inl (cI, 24, .inl (fun _ => 0))), (u.2.2.2.2.2.2.2.1, .inl (cI, 24, .inl (fun _ => 0))), (u.2.2.2.2.2.2.2.2.1, .inl (cI, 12, .inl (fun _ => 0))), (u.2.2.2.2.2.2.2.2.2.1, .inl (cI, 12, .inl (fun _ => 0))), (u.2.2.2.2.2.2.2.2.2.2.1, .inl (cI, 12, .inl (fun _ => 0))), (u.2.2.2.2.2.2.2.2.2.2.2.1, .inl (cI, 12, .inl (fun _ => 0))), (u.2.2.2.2.2.2.2.2.2.2.2.2.1, .inl (cZ, 12, .inl (fun _ => 0))), (u.2.2.2.2.2.2.2.2.2.2.2.2.2.1, .inl (cI, 24, .inl (fun _ => (-1)))), (u.2.2.2.2.2.2.2.2.2.2.2.2.2.2.1, .inl (cI, 12, .inl (fun _ => 0)))]) (fun _ => []) := by
  refine xMv_of (by decide +kernel) rfl (Nat.le_of_ble_eq_true rfl) ?_
  intro p e s m args below meth c ls A B hAe hA hsz hP hK hD hS hAm hTh hAs hl
  obtain ⟨⟨hx, hb, hml, hown, hts⟩, hret, hlk, hnm, hemp⟩ := id B
  have hl : lv_has ls 1 [(0, .ref fb)] := hl
  refine lv_aload_n hx hb d_FB_init_0 rfl (lv_at hl 0 rfl) ?_
  refine W.objInit hx hb hown (hts _ (List.mem_cons_of_mem _ tw_22)) (hts _ (List.mem_cons_of_mem _ tw_23)) (hts _ (List.mem_cons_of_mem _ tw_24)) rfl (by rw [hml]; exact hl.1) rfl d_FB_init_1 (Nat.le_of_ble_eq_true rfl) (Nat.le_of_ble_eq_true rfl) ?_
  refine W.eq (g2 := F0 m 4 ls []) rfl ?_
  refine lv_aload_n hx hb d_FB_init_4 rfl (lv_at hl 0 rfl) ?_
  refine va_new (ci := 1) (fs := [.null, .null, .int 0, .int 0]) (C := R_Di) (T := F_Di) (N := 4) hx hb hts (fun w h => List.mem_cons_of_mem _ (u_Di w h)) t_Di o_Di hown (hts _ (List.mem_cons_of_mem _ tw_25)) (hts _ (List.mem_cons_of_mem _ tw_26)) (hts _ (List.mem_cons_of_mem _ tw_2)) hK hP hD hS hA rfl (fun j hj => by rcases (show j = 0 ∨ j = 1 ∨ j = 2 ∨ j = 3 by omega) with rfl | rfl | rfl | rfl <;> rfl) (Nat.le_of_ble_eq_true rfl) (Nat.le_of_ble_eq_true rfl) d_FB_init_5 (fun q1 H hP hD hS => ?_)
  have hP : va_P D cl [(fb, .inr (5, [.null, .null, .null, .null, .null, .null])), (q1, .inr (1, [.null, .null, .int 0, .int 0]))] H := hP
  have hD : va_D A [(fb, .inr (5, [.null, .null, .null, .null, .null, .null])), (q1, .inr (1, [.null, .null, .int 0, .int 0]))] := hD
  refine lv_dup hx hb d_FB_init_8 rfl ?_
  have hPc := hP.sub (ws' := [(q1, .inr (1, [.null, .null, .int 0, .int 0]))]) [1] rfl
  have hDc := hD.sub (ws' := [(q1, .inr (1, [.null, .null, .int 0, .int 0]))]) [1] (by decide) rfl
  have hKc := hK.sub (tys' := [(cI, .int)]) [0] rfl
  refine xgv (wsC := [(q1, .inr (1, [.null, .null, .int 0, .int 0]))]) (wr := [(fb, .inr (5, [.null, .null, .null, .null, .null, .null]))]) (va_runIN (As := []) (rest := [.ref q1, .ref fb]) ⟨hx, hb, hml, hown, hts⟩ (c_Di_init l  D q1 cI _ ) ⟨(va_cnB 0 hts (x_good k_Di_init) rfl rfl rfl (hAm.1 _ (List.mem_of_getElem? (i := 0) rfl)) (hts _ (List.mem_cons_of_mem _ tw_2)) (by decide +kernel) ⟨Nat.le_of_ble_eq_true rfl, Nat.le_of_ble_eq_true rfl⟩), rfl, (hts _ (List.mem_cons_of_mem _ tw_28))⟩ (xP_S hPc hKc hDc hAm hTh hAs hS) rfl rfl hl.1 rfl (lv_room (Nat.le_of_ble_eq_true rfl)) d_FB_init_9 ⟨Nat.le_of_ble_eq_true rfl, Nat.le_of_ble_eq_true rfl⟩) hP hD hK hS hA [1] [0] rfl rfl (by decide) (by decide) (fun ⟨q2, q3⟩ H locs _ hP hD hK hS => ?_)
  have hK : va_K D cl [(cI, .int), (cZ, .boolean)] s := hK
  have hP : va_P D cl [(fb, .inr (5, [.null, .null, .null, .null, .null, .null])), (q1, .inr (1, [.ref q2, .ref q3, .int 0, .int 0])), (q2, .inl (cI, 24, .inl (fun _ => 0))), (q3, .inl (cI, 24, .inl (fun _ => 0)))] H := hP
  have hD : va_D A [(fb, .inr (5, [.null, .null, .null, .null, .null, .null])), (q1, .inr (1, [.ref q2, .ref q3, .int 0, .int 0])), (q2, .inl (cI, 24, .inl (fun _ => 0))), (q3, .inl (cI, 24, .inl (fun _ => 0)))] := hD
  refine va_putF (D := D) (ci := 5) (v := .ref q1) (ty := .object "FileBuilder$Disk") (C := R_FB) (T := F_FB) (N := 6) hx hb hts (fun w h => List.mem_cons_of_mem _ (u_FB w h)) t_FB o_FB n_FB hown hK hP hD hS 0 rfl rfl 0 (by decide) (hts _ (List.mem_cons_of_mem _ tw_146)) (fun _ h9 => h9) rfl hnm rfl (by decide +kernel) rfl rfl (Nat.le_of_ble_eq_true rfl) d_FB_init_12 (fun H locs hP hD hS => ?_)
  have hP : va_P D cl [(fb, .inr (5, [.ref q1, .null, .null, .null, .null, .null])), (q1, .inr (1, [.ref q2, .ref q3, .int 0, .int 0])), (q2, .inl (cI, 24, .inl (fun _ => 0))), (q3, .inl (cI, 24, .inl (fun _ => 0)))] H := hP
  have hD : va_D A [(fb, .inr (5, [.ref q1, .null, .null, .null, .null, .null])), (q1, .inr (1, [.ref q2, .ref q3, .int 0, .int 0])), (q2, .inl (cI, 24, .inl (fun _ => 0))), (q3, .inl (cI, 24, .inl (fun _ => 0)))] := hD
  refine lv_aload_n hx hb d_FB_init_15 rfl (lv_at hl 0 rfl) ?_
  refine va_new (ci := 2) (fs := [.null, .null, .null, .null, .null, .int 0]) (C := R_Gr) (T := F_Gr) (N := 6) hx hb hts (fun w h => List.mem_cons_of_mem _ (u_Gr w h)) t_Gr o_Gr hown (hts _ (List.mem_cons_of_mem _ tw_48)) (hts _ (List.mem_cons_of_mem _ tw_49)) (hts _ (List.mem_cons_of_mem _ tw_3)) hK hP hD hS hA rfl (fun j hj => by rcases (show j = 0 ∨ j = 1 ∨ j = 2 ∨ j = 3 ∨ j = 4 ∨ j = 5 by omega) with rfl | rfl | rfl | rfl | rfl | rfl <;> rfl) (Nat.le_of_ble_eq_true rfl) (Nat.le_of_ble_eq_true rfl) d_FB_init_16 (fun q4 H hP hD hS => ?_)
  have hP : va_P D cl [(fb, .inr (5, [.ref q1, .null, .null, .null, .null, .null])), (q1, .inr (1, [.ref q2, .ref q3, .int 0, .int 0])), (q2, .inl (cI, 24, .inl (fun _ => 0))), (q3, .inl (cI, 24, .inl (fun _ => 0))), (q4, .inr (2, [.null, .null, .null, .null, .null, .int 0]))] H := hP
  have hD : va_D A [(fb, .inr (5, [.ref q1, .null, .null, .null, .null, .null])), (q1, .inr (1, [.ref q2, .ref q3, .int 0, .int 0])), (q2, .inl (cI, 24, .inl (fun _ => 0))), (q3, .inl (cI, 24, .inl (fun _ => 0))), (q4, .inr (2, [.null, .null, .null, .null, .null, .int 0]))] := hD
  refine lv_dup hx hb d_FB_init_19 rfl ?_
  have hPc := hP.sub (ws' := [(q4, .inr (2, [.null, .null, .null, .null, .null, .int 0]))]) [4] rfl
  have hDc := hD.sub (ws' := [(q4, .inr (2, [.null, .null, .null, .null, .null, .int 0]))]) [4] (by decide) rfl
  have hKc := hK.sub (tys' := [(cI, .int)]) [0] rfl
  refine xgv (wsC := [(q4, .inr (2, [.null, .null, .null, .null, .null, .int 0]))]) (wr := [(fb, .inr (5, [.ref q1, .null, .null, .null, .null, .null])), (q1, .inr (1, [.ref q2, .ref q3, .int 0, .int 0])), (q2, .inl (cI, 24, .inl (fun _ => 0))), (q3, .inl (cI, 24, .inl (fun _ => 0)))]) (va_runIN (As := []) (rest := [.ref q4, .ref fb]) ⟨hx, hb, hml, hown, hts⟩ (c_Gr_init l  D q4 cI _ ) ⟨(va_cnB 0 hts (x_good k_Gr_init) rfl rfl rfl (hAm.1 _ (List.mem_of_getElem? (i := 4) rfl)) (hts _ (List.mem_cons_of_mem _ tw_3)) (by decide +kernel) ⟨Nat.le_of_ble_eq_true rfl, Nat.le_of_ble_eq_true rfl⟩), rfl, (hts _ (List.mem_cons_of_mem _ tw_51))⟩ (xP_S hPc hKc hDc hAm hTh hAs hS) rfl rfl hl.1 rfl (lv_room (Nat.le_of_ble_eq_true rfl)) d_FB_init_20 ⟨Nat.le_of_ble_eq_true rfl, Nat.le_of_ble_eq_true rfl⟩) hP hD hK hS hA [4] [0, 1, 2, 3] rfl rfl (by decide) (by decide) (fun ⟨q5, q6, q7, q8, q9⟩ H locs _ hP hD hK hS => ?_)
  have hK : va_K D cl [(cI, .int), (cZ, .boolean)] s := hK
  have hP : va_P D cl [(fb, .inr (5, [.ref q1, .null, .null, .null, .null, .null])), (q1, .inr (1, [.ref q2, .ref q3, .int 0, .int 0])), (q2, .inl (cI, 24, .inl (fun _ => 0))), (q3, .inl (cI, 24, .inl (fun _ => 0))), (q4, .inr (2, [.ref q5, .ref q6, .ref q7, .ref q8, .ref q9, .int 0])), (q5, .inl (cI, 12, .inl (fun _ => 0))), (q6, .inl (cI, 12, .inl (fun _ => 0))), (q7, .inl (cI, 12, .inl (fun _ => 0)))] H := hP
  have hD : va_D A [(fb, .inr (5, [.ref q1, .null, .null, .null, .null, .null])), (q1, .inr (1, [.ref q2, .ref q3, .int 0, .int 0])), (q2, .inl (cI, 24, .inl (fun _ => 0))), (q3, .inl (cI, 24, .inl (fun _ => 0))), (q4, .inr (2, [.ref q5, .ref q6, .ref q7, .ref q8, .ref q9, .int 0])), (q5, .inl (cI, 12, .inl (fun _ => 0))), (q6, .inl (cI, 12, .inl (fun _ => 0))), (q7, .inl (cI, 12, .inl (fun _ => 0)))] := hD
  refine va_putF (D := D) (ci := 5) (v := .ref q4) (ty := .object "FileBuilder$Graph") (C := R_FB) (T := F_FB) (N := 6) hx hb hts (fun w h => List.mem_cons_of_mem _ (u_FB w h)) t_FB o_FB n_FB hown hK hP hD hS 0 rfl rfl 1 (by decide) (hts _ (List.mem_cons_of_mem _ tw_147)) (fun _ h9 => h9) rfl hnm rfl (by decide +kernel) rfl rfl (Nat.le_of_ble_eq_true rfl) d_FB_init_23 (fun H locs hP hD hS => ?_)
  have hP : va_P D cl [(fb, .inr (5, [.ref q1, .ref q4, .null, .null, .null, .null])), (q1, .inr (1, [.ref q2, .ref q3, .int 0, .int 0])), (q2, .inl (cI, 24, .inl (fun _ => 0))), (q3, .inl (cI, 24, .inl (fun _ => 0))), (q4, .inr (2, [.ref q5, .ref q6, .ref q7, .ref q8, .ref q9, .int 0])), (q5, .inl (cI, 12, .inl (fun _ => 0))), (q6, .inl (cI, 12, .inl (fun _ => 0))), (q7, .inl (cI, 12, .inl (fun _ => 0)))] H := hP
  have hD : va_D A [(fb, .inr (5, [.ref q1, .ref q4, .null, .null, .null, .null])), (q1, .inr (1, [.ref q2, .ref q3, .int 0, .int 0])), (q2, .inl (cI, 24, .inl (fun _ => 0))), (q3, .inl (cI, 24, .inl (fun _ => 0))), (q4, .inr (2, [.ref q5, .ref q6, .ref q7, .ref q8, .ref q9, .int 0])), (q5, .inl (cI, 12, .inl (fun _ => 0))), (q6, .inl (cI, 12, .inl (fun _ => 0))), (q7, .inl (cI, 12, .inl (fun _ => 0)))] := hD
  refine lv_aload_n hx hb d_FB_init_26 rfl (lv_at hl 0 rfl) ?_
  refine va_new (ci := 3) (fs := [.null, .null]) (C := R_Re) (T := F_Re) (N := 2) hx hb hts (fun w h => List.mem_cons_of_mem _ (u_Re w h)) t_Re o_Re hown (hts _ (List.mem_cons_of_mem _ tw_80)) (hts _ (List.mem_cons_of_mem _ tw_81)) (hts _ (List.mem_cons_of_mem _ tw_4)) hK hP hD hS hA rfl (fun j hj => by rcases (show j = 0 ∨ j = 1 by omega) with rfl | rfl <;> rfl) (Nat.le_of_ble_eq_true rfl) (Nat.le_of_ble_eq_true rfl) d_FB_init_27 (fun q10 H hP hD hS => ?_)
  have hP : va_P D cl [(fb, .inr (5, [.ref q1, .ref q4, .null, .null, .null, .null])), (q1, .inr (1, [.ref q2, .ref q3, .int 0, .int 0])), (q2, .inl (cI, 24, .inl (fun _ => 0))), (q3, .inl (cI, 24, .inl (fun _ => 0))), (q4, .inr (2, [.ref q5, .ref q6, .ref q7, .ref q8, .ref q9, .int 0])), (q5, .inl (cI, 12, .inl (fun _ => 0))), (q6, .inl (cI, 12, .inl (fun _ => 0))), (q7, .inl (cI, 12, .inl (fun _ => 0))), (q10, .inr (3, [.null, .null]))] H := hP
  have hD : va_D A [(fb, .inr (5, [.ref q1, .ref q4, .null, .null, .null, .null])), (q1, .inr (1, [.ref q2, .ref q3, .int 0, .int 0])), (q2, .inl (cI, 24, .inl (fun _ => 0))), (q3, .inl (cI, 24, .inl (fun _ => 0))), (q4, .inr (2, [.ref q5, .ref q6, .ref q7, .ref q8, .ref q9, .int 0])), (q5, .inl (cI, 12, .inl (fun _ => 0))), (q6, .inl (cI, 12, .inl (fun _ => 0))), (q7, .inl (cI, 12, .inl (fun _ => 0))), (q10, .inr (3, [.null, .null]))] := hD
  refine lv_dup hx hb d_FB_init_30 rfl ?_
  have hPc := hP.sub (ws' := [(q10, .inr (3, [.null, .null]))]) [8] rfl
  have hDc := hD.sub (ws' := [(q10, .inr (3, [.null, .null]))]) [8] (by decide) rfl
  have hKc := hK.sub (tys' := [(cI, .int), (cZ, .boolean)]) [0, 1] rfl
  refine xgv (wsC := [(q10, .inr (3, [.null, .null]))]) (wr := [(fb, .inr (5, [.ref q1, .ref q4, .null, .null, .null, .null])), (q1, .inr (1, [.ref q2, .ref q3, .int 0, .int 0])), (q2, .inl (cI, 24, .inl (fun _ => 0))), (q3, .inl (cI, 24, .inl (fun _ => 0))), (q4, .inr (2, [.ref q5, .ref q6, .ref q7, .ref q8, .ref q9, .int 0])), (q5, .inl (cI, 12, .inl (fun _ => 0))), (q6, .inl (cI, 12, .inl (fun _ => 0))), (q7, .inl (cI, 12, .inl (fun _ => 0)))]) (va_runIN (As := []) (rest := [.ref q10, .ref fb]) ⟨hx, hb, hml, hown, hts⟩ (c_Re_init l  D q10 cI cZ _ ) ⟨(va_cnB 0 hts (x_good k_Re_init) rfl rfl rfl (hAm.1 _ (List.mem_of_getElem? (i := 10) rfl)) (hts _ (List.mem_cons_of_mem _ tw_4)) (by decide +kernel) ⟨Nat.le_of_ble_eq_true rfl, Nat.le_of_ble_eq_true rfl⟩), rfl, (hts _ (List.mem_cons_of_mem _ tw_83))⟩ (xP_S hPc hKc hDc hAm hTh hAs hS) rfl rfl hl.1 rfl (lv_room (Nat.le_of_ble_eq_true rfl)) d_FB_init_31 ⟨Nat.le_of_ble_eq_true rfl, Nat.le_of_ble_eq_true rfl⟩) hP hD hK hS hA [8] [0, 1, 2, 3, 4, 5, 6, 7] rfl rfl (by decide) (by decide) (fun ⟨q11, q12⟩ H locs _ hP hD hK hS => ?_)
  have hK : va_K D cl [(cI, .int), (cZ, .boolean)] s := hK
  have hP : va_P D cl [(fb, .inr (5, [.ref q1, .ref q4, .null, .null, .null, .null])), (q1, .inr (1, [.ref q2, .ref q3, .int 0, .int 0])), (q2, .inl (cI, 24, .inl (fun _ => 0))), (q3, .inl (cI, 24, .inl (fun _ => 0))), (q4, .inr (2, [.ref q5, .ref q6, .ref q7, .ref q8, .ref q9, .int 0])), (q5, .inl (cI, 12, .inl (fun _ => 0))), (q6, .inl (cI, 12, .inl (fun _ => 0))), (q7, .inl (cI, 12, .inl (fun _ => 0))), (q10, .inr (3, [.ref q11, .ref q12])), (q11, .inl (cI, 12, .inl (fun _ => 0))), (q12, .inl (cZ, 12, .inl (fun _ => 0)))] H := hP
  have hD : va_D A [(fb, .inr (5, [.ref q1, .ref q4, .null, .null, .null, .null])), (q1, .inr (1, [.ref q2, .ref q3, .int 0, .int 0])), (q2, .inl (cI, 24, .inl (fun _ => 0))), (q3, .inl (cI, 24, .inl (fun _ => 0))), (q4, .inr (2, [.ref q5, .ref q6, .ref q7, .ref q8, .ref q9, .int 0])), (q5, .inl (cI, 12, .inl (fun _ => 0))), (q6, .inl (cI, 12, .inl (fun _ => 0))), (q7, .inl (cI, 12, .inl (fun _ => 0))), (q10, .inr (3, [.ref q11, .ref q12])), (q11, .inl (cI, 12, .inl (fun _ => 0))), (q12, .inl (cZ, 12, .inl (fun _ => 0)))] := hD
  refine va_putF (D := D) (ci := 5) (v := .ref q10) (ty := .object "FileBuilder$Readings") (C := R_FB) (T := F_FB) (N := 6) hx hb hts (fun w h => List.mem_cons_of_mem _ (u_FB w h)) t_FB o_FB n_FB hown hK hP hD hS 0 rfl rfl 2 (by decide) (hts _ (List.mem_cons_of_mem _ tw_148)) (fun _ h9 => h9) rfl hnm rfl (by decide +kernel) rfl rfl (Nat.le_of_ble_eq_true rfl) d_FB_init_34 (fun H locs hP hD hS => ?_)
  have hP : va_P D cl [(fb, .inr (5, [.ref q1, .ref q4, .ref q10, .null, .null, .null])), (q1, .inr (1, [.ref q2, .ref q3, .int 0, .int 0])), (q2, .inl (cI, 24, .inl (fun _ => 0))), (q3, .inl (cI, 24, .inl (fun _ => 0))), (q4, .inr (2, [.ref q5, .ref q6, .ref q7, .ref q8, .ref q9, .int 0])), (q5, .inl (cI, 12, .inl (fun _ => 0))), (q6, .inl (cI, 12, .inl (fun _ => 0))), (q7, .inl (cI, 12, .inl (fun _ => 0))), (q10, .inr (3, [.ref q11, .ref q12])), (q11, .inl (cI, 12, .inl (fun _ => 0))), (q12, .inl (cZ, 12, .inl (fun _ => 0)))] H := hP
  have hD : va_D A [(fb, .inr (5, [.ref q1, .ref q4, .ref q10, .null, .null, .null])), (q1, .inr (1, [.ref q2, .ref q3, .int 0, .int 0])), (q2, .inl (cI, 24, .inl (fun _ => 0))), (q3, .inl (cI, 24, .inl (fun _ => 0))), (q4, .inr (2, [.ref q5, .ref q6, .ref q7, .ref q8, .ref q9, .int 0])), (q5, .inl (cI, 12, .inl (fun _ => 0))), (q6, .inl (cI, 12, .inl (fun _ => 0))), (q7, .inl (cI, 12, .inl (fun _ => 0))), (q10, .inr (3, [.ref q11, .ref q12])), (q11, .inl (cI, 12, .inl (fun _ => 0))), (q12, .inl (cZ, 12, .inl (fun _ => 0)))] := hD
  refine lv_aload_n hx hb d_FB_init_37 rfl (lv_at hl 0 rfl) ?_
  refine va_new (ci := 4) (fs := [.null, .null, .null, .int 0]) (C := R_RL) (T := F_RL) (N := 4) hx hb hts (fun w h => List.mem_cons_of_mem _ (u_RL w h)) t_RL o_RL hown (hts _ (List.mem_cons_of_mem _ tw_96)) (hts _ (List.mem_cons_of_mem _ tw_97)) (hts _ (List.mem_cons_of_mem _ tw_5)) hK hP hD hS hA rfl (fun j hj => by rcases (show j = 0 ∨ j = 1 ∨ j = 2 ∨ j = 3 by omega) with rfl | rfl | rfl | rfl <;> rfl) (Nat.le_of_ble_eq_true rfl) (Nat.le_of_ble_eq_true rfl) d_FB_init_38 (fun q13 H hP hD hS => ?_)
  have hP : va_P D cl [(fb, .inr (5, [.ref q1, .ref q4, .ref q10, .null, .null, .null])), (q1, .inr (1, [.ref q2, .ref q3, .int 0, .int 0])), (q2, .inl (cI, 24, .inl (fun _ => 0))), (q3, .inl (cI, 24, .inl (fun _ => 0))), (q4, .inr (2, [.ref q5, .ref q6, .ref q7, .ref q8, .ref q9, .int 0])), (q5, .inl (cI, 12, .inl (fun _ => 0))), (q6, .inl (cI, 12, .inl (fun _ => 0))), (q7, .inl (cI, 12, .inl (fun _ => 0))), (q10, .inr (3, [.ref q11, .ref q12])), (q11, .inl (cI, 12, .inl (fun _ => 0))), (q12, .inl (cZ, 12, .inl (fun _ => 0))), (q13, .inr (4, [.null, .null, .null, .int 0]))] H := hP
  have hD : va_D A [(fb, .inr (5, [.ref q1, .ref q4, .ref q10, .null, .null, .null])), (q1, .inr (1, [.ref q2, .ref q3, .int 0, .int 0])), (q2, .inl (cI, 24, .inl (fun _ => 0))), (q3, .inl (cI, 24, .inl (fun _ => 0))), (q4, .inr (2, [.ref q5, .ref q6, .ref q7, .ref q8, .ref q9, .int 0])), (q5, .inl (cI, 12, .inl (fun _ => 0))), (q6, .inl (cI, 12, .inl (fun _ => 0))), (q7, .inl (cI, 12, .inl (fun _ => 0))), (q10, .inr (3, [.ref q11, .ref q12])), (q11, .inl (cI, 12, .inl (fun _ => 0))), (q12, .inl (cZ, 12, .inl (fun _ => 0))), (q13, .inr (4, [.null, .null, .null, .int 0]))] := hD
  refine lv_dup hx hb d_FB_init_41 rfl ?_
  have hPc := hP.sub (ws' := [(q13, .inr (4, [.null, .null, .null, .int 0]))]) [11] rfl
  have hDc := hD.sub (ws' := [(q13, .inr (4, [.null, .null, .null, .int 0]))]) [11] (by decide) rfl
  have hKc := hK.sub (tys' := [(cI, .int)]) [0] rfl
  refine xgv (wsC := [(q13, .inr (4, [.null, .null, .null, .int 0]))]) (wr := [(fb, .inr (5, [.ref q1, .ref q4, .ref q10, .null, .null, .null])), (q1, .inr (1, [.ref q2, .ref q3, .int 0, .int 0])), (q2, .inl (cI, 24, .inl (fun _ => 0))), (q3, .inl (cI, 24, .inl (fun _ => 0))), (q4, .inr (2, [.ref q5, .ref q6, .ref q7, .ref q8, .ref q9, .int 0])), (q5, .inl (cI, 12, .inl (fun _ => 0))), (q6, .inl (cI, 12, .inl (fun _ => 0))), (q7, .inl (cI, 12, .inl (fun _ => 0))), (q10, .inr (3, [.ref q11, .ref q12])), (q11, .inl (cI, 12, .inl (fun _ => 0))), (q12, .inl (cZ, 12, .inl (fun _ => 0)))]) (va_runIN (As := []) (rest := [.ref q13, .ref fb]) ⟨hx, hb, hml, hown, hts⟩ (c_RL_init l  D q13 cI _ ) ⟨(va_cnB 0 hts (x_good k_RL_init) rfl rfl rfl (hAm.1 _ (List.mem_of_getElem? (i := 13) rfl)) (hts _ (List.mem_cons_of_mem _ tw_5)) (by decide +kernel) ⟨Nat.le_of_ble_eq_true rfl, Nat.le_of_ble_eq_true rfl⟩), rfl, (hts _ (List.mem_cons_of_mem _ tw_99))⟩ (xP_S hPc hKc hDc hAm hTh hAs hS) rfl rfl hl.1 rfl (lv_room (Nat.le_of_ble_eq_true rfl)) d_FB_init_42 ⟨Nat.le_of_ble_eq_true rfl, Nat.le_of_ble_eq_true rfl⟩) hP hD hK hS hA [11] [0, 1, 2, 3, 4, 5, 6, 7, 8, 9, 10] rfl rfl (by decide) (by decide) (fun ⟨q14, q15, q16⟩ H locs _ hP hD hK hS => ?_)
  have hK : va_K D cl [(cI, .int), (cZ, .boolean)] s := hK
  have hP : va_P D cl [(fb, .inr (5, [.ref q1, .ref q4, .ref q10, .null, .null, .null])), (q1, .inr (1, [.ref q2, .ref q3, .int 0, .int 0])), (q2, .inl (cI, 24, .inl (fun _ => 0))), (q3, .inl (cI, 24, .inl (fun _ => 0))), (q4, .inr (2, [.ref q5, .ref q6, .ref q7, .ref q8, .ref q9, .int 0])), (q5, .inl (cI, 12, .inl (fun _ => 0))), (q6, .inl (cI, 12, .inl (fun _ => 0))), (q7, .inl (cI, 12, .inl (fun _ => 0))), (q10, .inr (3, [.ref q11, .ref q12])), (q11, .inl (cI, 12, .inl (fun _ => 0))), (q12, .inl (cZ, 12, .inl (fun _ => 0))), (q13, .inr (4, [.ref q14, .ref q15, .ref q16, .int 0])), (q15, .inl (cI, 24, .inl (fun _ => (-1))))] H := hP
  have hD : va_D A [(fb, .inr (5, [.ref q1, .ref q4, .ref q10, .null, .null, .null])), (q1, .inr (1, [.ref q2, .ref q3, .int 0, .int 0])), (q2, .inl (cI, 24, .inl (fun _ => 0))), (q3, .inl (cI, 24, .inl (fun _ => 0))), (q4, .inr (2, [.ref q5, .ref q6, .ref q7, .ref q8, .ref q9, .int 0])), (q5, .inl (cI, 12, .inl (fun _ => 0))), (q6, .inl (cI, 12, .inl (fun _ => 0))), (q7, .inl (cI, 12, .inl (fun _ => 0))), (q10, .inr (3, [.ref q11, .ref q12])), (q11, .inl (cI, 12, .inl (fun _ => 0))), (q12, .inl (cZ, 12, .inl (fun _ => 0))), (q13, .inr (4, [.ref q14, .ref q15, .ref q16, .int 0])), (q15, .inl (cI, 24, .inl (fun _ => (-1))))] := hD
  refine va_putF (D := D) (ci := 5) (v := .ref q13) (ty := .object "FileBuilder$RecordLog") (C := R_FB) (T := F_FB) (N := 6) hx hb hts (fun w h => List.mem_cons_of_mem _ (u_FB w h)) t_FB o_FB n_FB hown hK hP hD hS 0 rfl rfl 3 (by decide) (hts _ (List.mem_cons_of_mem _ tw_149)) (fun _ h9 => h9) rfl hnm rfl (by decide +kernel) rfl rfl (Nat.le_of_ble_eq_true rfl) d_FB_init_45 (fun H locs hP hD hS => ?_)
  have hP : va_P D cl [(fb, .inr (5, [.ref q1, .ref q4, .ref q10, .ref q13, .null, .null])), (q1, .inr (1, [.ref q2, .ref q3, .int 0, .int 0])), (q2, .inl (cI, 24, .inl (fun _ => 0))), (q3, .inl (cI, 24, .inl (fun _ => 0))), (q4, .inr (2, [.ref q5, .ref q6, .ref q7, .ref q8, .ref q9, .int 0])), (q5, .inl (cI, 12, .inl (fun _ => 0))), (q6, .inl (cI, 12, .inl (fun _ => 0))), (q7, .inl (cI, 12, .inl (fun _ => 0))), (q10, .inr (3, [.ref q11, .ref q12])), (q11, .inl (cI, 12, .inl (fun _ => 0))), (q12, .inl (cZ, 12, .inl (fun _ => 0))), (q13, .inr (4, [.ref q14, .ref q15, .ref q16, .int 0])), (q15, .inl (cI, 24, .inl (fun _ => (-1))))] H := hP
  have hD : va_D A [(fb, .inr (5, [.ref q1, .ref q4, .ref q10, .ref q13, .null, .null])), (q1, .inr (1, [.ref q2, .ref q3, .int 0, .int 0])), (q2, .inl (cI, 24, .inl (fun _ => 0))), (q3, .inl (cI, 24, .inl (fun _ => 0))), (q4, .inr (2, [.ref q5, .ref q6, .ref q7, .ref q8, .ref q9, .int 0])), (q5, .inl (cI, 12, .inl (fun _ => 0))), (q6, .inl (cI, 12, .inl (fun _ => 0))), (q7, .inl (cI, 12, .inl (fun _ => 0))), (q10, .inr (3, [.ref q11, .ref q12])), (q11, .inl (cI, 12, .inl (fun _ => 0))), (q12, .inl (cZ, 12, .inl (fun _ => 0))), (q13, .inr (4, [.ref q14, .ref q15, .ref q16, .int 0])), (q15, .inl (cI, 24, .inl (fun _ => (-1))))] := hD
  refine lv_aload_n hx hb d_FB_init_48 rfl (lv_at hl 0 rfl) ?_
  refine va_new (ci := 0) (fs := [.null, .int 0, .int 0, .int 0]) (C := R_Bu) (T := F_Bu) (N := 4) hx hb hts (fun w h => List.mem_cons_of_mem _ (u_Bu w h)) t_Bu o_Bu hown (hts _ (List.mem_cons_of_mem _ tw_122)) (hts _ (List.mem_cons_of_mem _ tw_123)) (hts _ (List.mem_cons_of_mem _ tw_7)) hK hP hD hS hA rfl (fun j hj => by rcases (show j = 0 ∨ j = 1 ∨ j = 2 ∨ j = 3 by omega) with rfl | rfl | rfl | rfl <;> rfl) (Nat.le_of_ble_eq_true rfl) (Nat.le_of_ble_eq_true rfl) d_FB_init_49 (fun q17 H hP hD hS => ?_)
  have hP : va_P D cl [(fb, .inr (5, [.ref q1, .ref q4, .ref q10, .ref q13, .null, .null])), (q1, .inr (1, [.ref q2, .ref q3, .int 0, .int 0])), (q2, .inl (cI, 24, .inl (fun _ => 0))), (q3, .inl (cI, 24, .inl (fun _ => 0))), (q4, .inr (2, [.ref q5, .ref q6, .ref q7, .ref q8, .ref q9, .int 0])), (q5, .inl (cI, 12, .inl (fun _ => 0))), (q6, .inl (cI, 12, .inl (fun _ => 0))), (q7, .inl (cI, 12, .inl (fun _ => 0))), (q10, .inr (3, [.ref q11, .ref q12])), (q11, .inl (cI, 12, .inl (fun _ => 0))), (q12, .inl (cZ, 12, .inl (fun _ => 0))), (q13, .inr (4, [.ref q14, .ref q15, .ref q16, .int 0])), (q15, .inl (cI, 24, .inl (fun _ => (-1)))), (q17, .inr (0, [.null, .int 0, .int 0, .int 0]))] H := hP
  have hD : va_D A [(fb, .inr (5, [.ref q1, .ref q4, .ref q10, .ref q13, .null, .null])), (q1, .inr (1, [.ref q2, .ref q3, .int 0, .int 0])), (q2, .inl (cI, 24, .inl (fun _ => 0))), (q3, .inl (cI, 24, .inl (fun _ => 0))), (q4, .inr (2, [.ref q5, .ref q6, .ref q7, .ref q8, .ref q9, .int 0])), (q5, .inl (cI, 12, .inl (fun _ => 0))), (q6, .inl (cI, 12, .inl (fun _ => 0))), (q7, .inl (cI, 12, .inl (fun _ => 0))), (q10, .inr (3, [.ref q11, .ref q12])), (q11, .inl (cI, 12, .inl (fun _ => 0))), (q12, .inl (cZ, 12, .inl (fun _ => 0))), (q13, .inr (4, [.ref q14, .ref q15, .ref q16, .int 0])), (q15, .inl (cI, 24, .inl (fun _ => (-1)))), (q17, .inr (0, [.null, .int 0, .int 0, .int 0]))] := hD
  refine lv_dup hx hb d_FB_init_52 rfl ?_
  have hPc := hP.sub (ws' := [(q17, .inr (0, [.null, .int 0, .int 0, .int 0]))]) [13] rfl
  have hDc := hD.sub (ws' := [(q17, .inr (0, [.null, .int 0, .int 0, .int 0]))]) [13] (by decide) rfl
  have hKc := hK.sub (tys' := [(cI, .int)]) [0] rfl
  refine xgv (wsC := [(q17, .inr (0, [.null, .int 0, .int 0, .int 0]))]) (wr := [(fb, .inr (5, [.ref q1, .ref q4, .ref q10, .ref q13, .null, .null])), (q1, .inr (1, [.ref q2, .ref q3, .int 0, .int 0])), (q2, .inl (cI, 24, .inl (fun _ => 0))), (q3, .inl (cI, 24, .inl (fun _ => 0))), (q4, .inr (2, [.ref q5, .ref q6, .ref q7, .ref q8, .ref q9, .int 0])), (q5, .inl (cI, 12, .inl (fun _ => 0))), (q6, .inl (cI, 12, .inl (fun _ => 0))), (q7, .inl (cI, 12, .inl (fun _ => 0))), (q10, .inr (3, [.ref q11, .ref q12])), (q11, .inl (cI, 12, .inl (fun _ => 0))), (q12, .inl (cZ, 12, .inl (fun _ => 0))), (q13, .inr (4, [.ref q14, .ref q15, .ref q16, .int 0])), (q15, .inl (cI, 24, .inl (fun _ => (-1))))]) (va_runIN (As := []) (rest := [.ref q17, .ref fb]) ⟨hx, hb, hml, hown, hts⟩ (c_Bu_init l  D q17 cI _ ) ⟨(va_cnB 0 hts (x_good k_Bu_init) rfl rfl rfl (hAm.1 _ (List.mem_of_getElem? (i := 18) rfl)) (hts _ (List.mem_cons_of_mem _ tw_7)) (by decide +kernel) ⟨Nat.le_of_ble_eq_true rfl, Nat.le_of_ble_eq_true rfl⟩), rfl, (hts _ (List.mem_cons_of_mem _ tw_125))⟩ (xP_S hPc hKc hDc hAm hTh hAs hS) rfl rfl hl.1 rfl (lv_room (Nat.le_of_ble_eq_true rfl)) d_FB_init_53 ⟨Nat.le_of_ble_eq_true rfl, Nat.le_of_ble_eq_true rfl⟩) hP hD hK hS hA [13] [0, 1, 2, 3, 4, 5, 6, 7, 8, 9, 10, 11, 12] rfl rfl (by decide) (by decide) (fun q18 H locs _ hP hD hK hS => ?_)
  have hK : va_K D cl [(cI, .int), (cZ, .boolean)] s := hK
  have hP : va_P D cl [(fb, .inr (5, [.ref q1, .ref q4, .ref q10, .ref q13, .null, .null])), (q1, .inr (1, [.ref q2, .ref q3, .int 0, .int 0])), (q2, .inl (cI, 24, .inl (fun _ => 0))), (q3, .inl (cI, 24, .inl (fun _ => 0))), (q4, .inr (2, [.ref q5, .ref q6, .ref q7, .ref q8, .ref q9, .int 0])), (q5, .inl (cI, 12, .inl (fun _ => 0))), (q6, .inl (cI, 12, .inl (fun _ => 0))), (q7, .inl (cI, 12, .inl (fun _ => 0))), (q10, .inr (3, [.ref q11, .ref q12])), (q11, .inl (cI, 12, .inl (fun _ => 0))), (q12, .inl (cZ, 12, .inl (fun _ => 0))), (q13, .inr (4, [.ref q14, .ref q15, .ref q16, .int 0])), (q15, .inl (cI, 24, .inl (fun _ => (-1)))), (q17, .inr (0, [.ref q18, .int 0, .int 0, .int 0])), (q18, .inl (cI, 12, .inl (fun _ => 0)))] H := hP
  have hD : va_D A [(fb, .inr (5, [.ref q1, .ref q4, .ref q10, .ref q13, .null, .null])), (q1, .inr (1, [.ref q2, .ref q3, .int 0, .int 0])), (q2, .inl (cI, 24, .inl (fun _ => 0))), (q3, .inl (cI, 24, .inl (fun _ => 0))), (q4, .inr (2, [.ref q5, .ref q6, .ref q7, .ref q8, .ref q9, .int 0])), (q5, .inl (cI, 12, .inl (fun _ => 0))), (q6, .inl (cI, 12, .inl (fun _ => 0))), (q7, .inl (cI, 12, .inl (fun _ => 0))), (q10, .inr (3, [.ref q11, .ref q12])), (q11, .inl (cI, 12, .inl (fun _ => 0))), (q12, .inl (cZ, 12, .inl (fun _ => 0))), (q13, .inr (4, [.ref q14, .ref q15, .ref q16, .int 0])), (q15, .inl (cI, 24, .inl (fun _ => (-1)))), (q17, .inr (0, [.ref q18, .int 0, .int 0, .int 0])), (q18, .inl (cI, 12, .inl (fun _ => 0)))] := hD
  refine va_putF (D := D) (ci := 5) (v := .ref q17) (ty := .object "FileBuilder$Build") (C := R_FB) (T := F_FB) (N := 6) hx hb hts (fun w h => List.mem_cons_of_mem _ (u_FB w h)) t_FB o_FB n_FB hown hK hP hD hS 0 rfl rfl 4 (by decide) (hts _ (List.mem_cons_of_mem _ tw_150)) (fun _ h9 => h9) rfl hnm rfl (by decide +kernel) rfl rfl (Nat.le_of_ble_eq_true rfl) d_FB_init_56 (fun H locs hP hD hS => ?_)
  have hP : va_P D cl [(fb, .inr (5, [.ref q1, .ref q4, .ref q10, .ref q13, .ref q17, .null])), (q1, .inr (1, [.ref q2, .ref q3, .int 0, .int 0])), (q2, .inl (cI, 24, .inl (fun _ => 0))), (q3, .inl (cI, 24, .inl (fun _ => 0))), (q4, .inr (2, [.ref q5, .ref q6, .ref q7, .ref q8, .ref q9, .int 0])), (q5, .inl (cI, 12, .inl (fun _ => 0))), (q6, .inl (cI, 12, .inl (fun _ => 0))), (q7, .inl (cI, 12, .inl (fun _ => 0))), (q10, .inr (3, [.ref q11, .ref q12])), (q11, .inl (cI, 12, .inl (fun _ => 0))), (q12, .inl (cZ, 12, .inl (fun _ => 0))), (q13, .inr (4, [.ref q14, .ref q15, .ref q16, .int 0])), (q15, .inl (cI, 24, .inl (fun _ => (-1)))), (q17, .inr (0, [.ref q18, .int 0, .int 0, .int 0])), (q18, .inl (cI, 12, .inl (fun _ => 0)))] H := hP
  have hD : va_D A [(fb, .inr (5, [.ref q1, .ref q4, .ref q10, .ref q13, .ref q17, .null])), (q1, .inr (1, [.ref q2, .ref q3, .int 0, .int 0])), (q2, .inl (cI, 24, .inl (fun _ => 0))), (q3, .inl (cI, 24, .inl (fun _ => 0))), (q4, .inr (2, [.ref q5, .ref q6, .ref q7, .ref q8, .ref q9, .int 0])), (q5, .inl (cI, 12, .inl (fun _ => 0))), (q6, .inl (cI, 12, .inl (fun _ => 0))), (q7, .inl (cI, 12, .inl (fun _ => 0))), (q10, .inr (3, [.ref q11, .ref q12])), (q11, .inl (cI, 12, .inl (fun _ => 0))), (q12, .inl (cZ, 12, .inl (fun _ => 0))), (q13, .inr (4, [.ref q14, .ref q15, .ref q16, .int 0])), (q15, .inl (cI, 24, .inl (fun _ => (-1)))), (q17, .inr (0, [.ref q18, .int 0, .int 0, .int 0])), (q18, .inl (cI, 12, .inl (fun _ => 0)))] := hD
  refine lv_aload_n hx hb d_FB_init_59 rfl (lv_at hl 0 rfl) ?_
  refine lv_iconst (v := 3) hx hb d_FB_init_60 (by decide) ?_
  refine va_newa (atype := .int) (a0 := (3, .inl (fun _ => 0))) (N' := 3) (ty := .int) hx hb (hts _ (List.mem_cons_of_mem _ tw_47)) rfl hK hP hD hS hA (fun _ => rfl) (by decide) (by decide) (by decide) (Nat.le_of_ble_eq_true rfl) (Nat.le_of_ble_eq_true rfl) d_FB_init_61 (fun q19 cA20 H hK hP hD hS => ?_)
  obtain rfl : cI = cA20 := xsame (by intro C h; cases h) hK 0 2 rfl rfl
  have hK : va_K D cl [(cI, .int), (cZ, .boolean)] s := hK.sub [0, 1] rfl
  have hP : va_P D cl [(fb, .inr (5, [.ref q1, .ref q4, .ref q10, .ref q13, .ref q17, .null])), (q1, .inr (1, [.ref q2, .ref q3, .int 0, .int 0])), (q2, .inl (cI, 24, .inl (fun _ => 0))), (q3, .inl (cI, 24, .inl (fun _ => 0))), (q4, .inr (2, [.ref q5, .ref q6, .ref q7, .ref q8, .ref q9, .int 0])), (q5, .inl (cI, 12, .inl (fun _ => 0))), (q6, .inl (cI, 12, .inl (fun _ => 0))), (q7, .inl (cI, 12, .inl (fun _ => 0))), (q10, .inr (3, [.ref q11, .ref q12])), (q11, .inl (cI, 12, .inl (fun _ => 0))), (q12, .inl (cZ, 12, .inl (fun _ => 0))), (q13, .inr (4, [.ref q14, .ref q15, .ref q16, .int 0])), (q15, .inl (cI, 24, .inl (fun _ => (-1)))), (q17, .inr (0, [.ref q18, .int 0, .int 0, .int 0])), (q18, .inl (cI, 12, .inl (fun _ => 0))), (q19, .inl (cI, 3, .inl (fun _ => 0)))] H := hP
  have hD : va_D A [(fb, .inr (5, [.ref q1, .ref q4, .ref q10, .ref q13, .ref q17, .null])), (q1, .inr (1, [.ref q2, .ref q3, .int 0, .int 0])), (q2, .inl (cI, 24, .inl (fun _ => 0))), (q3, .inl (cI, 24, .inl (fun _ => 0))), (q4, .inr (2, [.ref q5, .ref q6, .ref q7, .ref q8, .ref q9, .int 0])), (q5, .inl (cI, 12, .inl (fun _ => 0))), (q6, .inl (cI, 12, .inl (fun _ => 0))), (q7, .inl (cI, 12, .inl (fun _ => 0))), (q10, .inr (3, [.ref q11, .ref q12])), (q11, .inl (cI, 12, .inl (fun _ => 0))), (q12, .inl (cZ, 12, .inl (fun _ => 0))), (q13, .inr (4, [.ref q14, .ref q15, .ref q16, .int 0])), (q15, .inl (cI, 24, .inl (fun _ => (-1)))), (q17, .inr (0, [.ref q18, .int 0, .int 0, .int 0])), (q18, .inl (cI, 12, .inl (fun _ => 0))), (q19, .inl (cI, 3, .inl (fun _ => 0)))] := hD
  refine va_putF (D := D) (ci := 5) (v := .ref q19) (ty := .array .int) (C := R_FB) (T := F_FB) (N := 6) hx hb hts (fun w h => List.mem_cons_of_mem _ (u_FB w h)) t_FB o_FB n_FB hown hK hP hD hS 0 rfl rfl 5 (by decide) (hts _ (List.mem_cons_of_mem _ tw_151)) (fun _ h9 => h9) rfl hnm rfl (by decide +kernel) rfl rfl (Nat.le_of_ble_eq_true rfl) d_FB_init_63 (fun H locs hP hD hS => ?_)
  have hP : va_P D cl [(fb, .inr (5, [.ref q1, .ref q4, .ref q10, .ref q13, .ref q17, .ref q19])), (q1, .inr (1, [.ref q2, .ref q3, .int 0, .int 0])), (q2, .inl (cI, 24, .inl (fun _ => 0))), (q3, .inl (cI, 24, .inl (fun _ => 0))), (q4, .inr (2, [.ref q5, .ref q6, .ref q7, .ref q8, .ref q9, .int 0])), (q5, .inl (cI, 12, .inl (fun _ => 0))), (q6, .inl (cI, 12, .inl (fun _ => 0))), (q7, .inl (cI, 12, .inl (fun _ => 0))), (q10, .inr (3, [.ref q11, .ref q12])), (q11, .inl (cI, 12, .inl (fun _ => 0))), (q12, .inl (cZ, 12, .inl (fun _ => 0))), (q13, .inr (4, [.ref q14, .ref q15, .ref q16, .int 0])), (q15, .inl (cI, 24, .inl (fun _ => (-1)))), (q17, .inr (0, [.ref q18, .int 0, .int 0, .int 0])), (q18, .inl (cI, 12, .inl (fun _ => 0))), (q19, .inl (cI, 3, .inl (fun _ => 0)))] H := hP
  have hD : va_D A [(fb, .inr (5, [.ref q1, .ref q4, .ref q10, .ref q13, .ref q17, .ref q19])), (q1, .inr (1, [.ref q2, .ref q3, .int 0, .int 0])), (q2, .inl (cI, 24, .inl (fun _ => 0))), (q3, .inl (cI, 24, .inl (fun _ => 0))), (q4, .inr (2, [.ref q5, .ref q6, .ref q7, .ref q8, .ref q9, .int 0])), (q5, .inl (cI, 12, .inl (fun _ => 0))), (q6, .inl (cI, 12, .inl (fun _ => 0))), (q7, .inl (cI, 12, .inl (fun _ => 0))), (q10, .inr (3, [.ref q11, .ref q12])), (q11, .inl (cI, 12, .inl (fun _ => 0))), (q12, .inl (cZ, 12, .inl (fun _ => 0))), (q13, .inr (4, [.ref q14, .ref q15, .ref q16, .int 0])), (q15, .inl (cI, 24, .inl (fun _ => (-1)))), (q17, .inr (0, [.ref q18, .int 0, .int 0, .int 0])), (q18, .inl (cI, 12, .inl (fun _ => 0))), (q19, .inl (cI, 3, .inl (fun _ => 0)))] := hD
  refine lv_aload_n hx hb d_FB_init_66 rfl (lv_at hl 0 rfl) ?_
  refine va_get (D := D) (ci := 5) (v := .ref q19) (C := R_FB) (T := F_FB) (N := 6) hx hb hts (fun w h => List.mem_cons_of_mem _ (u_FB w h)) hown hK hP 0 rfl rfl 5 (by decide) (hts _ (List.mem_cons_of_mem _ tw_151)) (fun _ h9 => h9) rfl d_FB_init_67 ?_
  refine lv_iconst (v := 1) hx hb d_FB_init_70 (by decide) ?_
  have hPc := hP.sub (ws' := [(q19, .inl (cI, 3, .inl (fun _ => 0)))]) [15] rfl
  have hDc := hD.sub (ws' := [(q19, .inl (cI, 3, .inl (fun _ => 0)))]) [15] (by decide) rfl
  have hKc := hK.sub (tys' := [(cI, .int)]) [0] rfl
  refine xgv (wsC := [(q19, .inl (cI, 3, .inl (fun _ => 0)))]) (wr := [(fb, .inr (5, [.ref q1, .ref q4, .ref q10, .ref q13, .ref q17, .ref q19])), (q1, .inr (1, [.ref q2, .ref q3, .int 0, .int 0])), (q2, .inl (cI, 24, .inl (fun _ => 0))), (q3, .inl (cI, 24, .inl (fun _ => 0))), (q4, .inr (2, [.ref q5, .ref q6, .ref q7, .ref q8, .ref q9, .int 0])), (q5, .inl (cI, 12, .inl (fun _ => 0))), (q6, .inl (cI, 12, .inl (fun _ => 0))), (q7, .inl (cI, 12, .inl (fun _ => 0))), (q10, .inr (3, [.ref q11, .ref q12])), (q11, .inl (cI, 12, .inl (fun _ => 0))), (q12, .inl (cZ, 12, .inl (fun _ => 0))), (q13, .inr (4, [.ref q14, .ref q15, .ref q16, .int 0])), (q15, .inl (cI, 24, .inl (fun _ => (-1)))), (q17, .inr (0, [.ref q18, .int 0, .int 0, .int 0])), (q18, .inl (cI, 12, .inl (fun _ => 0)))]) (va_runS (As := [.ref q19, .int 1]) (rest := []) ⟨hx, hb, hml, hown, hts⟩ (c_Ar_fill l D q19 cI 3 (fun _ => 0) 1 _ (by decide)) ⟨(callB_of 2 hts (x_good k_Ar_fill) rfl rfl rfl (hts _ (List.mem_cons_of_mem _ tw_6)) (hts _ (List.mem_cons_of_mem _ tw_145)) (by decide +kernel) ⟨Nat.le_of_ble_eq_true rfl, Nat.le_of_ble_eq_true rfl⟩), (hts _ (List.mem_cons_of_mem _ tw_103))⟩ (xP_S hPc hKc hDc hAm hTh hAs hS) rfl rfl hl.1 rfl (lv_room (Nat.le_of_ble_eq_true rfl)) d_FB_init_71 ⟨Nat.le_of_ble_eq_true rfl, Nat.le_of_ble_eq_true rfl⟩) hP hD hK hS hA [15] [0, 1, 2, 3, 4, 5, 6, 7, 8, 9, 10, 11, 12, 13, 14] rfl rfl (by decide) (by decide) (fun _ H locs _ hP hD hK hS => ?_)
  have hK : va_K D cl [(cI, .int), (cZ, .boolean)] s := hK
  have hP : va_P D cl [(fb, .inr (5, [.ref q1, .ref q4, .ref q10, .ref q13, .ref q17, .ref q19])), (q1, .inr (1, [.ref q2, .ref q3, .int 0, .int 0])), (q2, .inl (cI, 24, .inl (fun _ => 0))), (q3, .inl (cI, 24, .inl (fun _ => 0))), (q4, .inr (2, [.ref q5, .ref q6, .ref q7, .ref q8, .ref q9, .int 0])), (q5, .inl (cI, 12, .inl (fun _ => 0))), (q6, .inl (cI, 12, .inl (fun _ => 0))), (q7, .inl (cI, 12, .inl (fun _ => 0))), (q10, .inr (3, [.ref q11, .ref q12])), (q11, .inl (cI, 12, .inl (fun _ => 0))), (q12, .inl (cZ, 12, .inl (fun _ => 0))), (q13, .inr (4, [.ref q14, .ref q15, .ref q16, .int 0])), (q15, .inl (cI, 24, .inl (fun _ => (-1)))), (q17, .inr (0, [.ref q18, .int 0, .int 0, .int 0])), (q18, .inl (cI, 12, .inl (fun _ => 0))), (q19, .inl (cI, 3, .inl (fun _ => 1)))] H := hP
  have hD : va_D A [(fb, .inr (5, [.ref q1, .ref q4, .ref q10, .ref q13, .ref q17, .ref q19])), (q1, .inr (1, [.ref q2, .ref q3, .int 0, .int 0])), (q2, .inl (cI, 24, .inl (fun _ => 0))), (q3, .inl (cI, 24, .inl (fun _ => 0))), (q4, .inr (2, [.ref q5, .ref q6, .ref q7, .ref q8, .ref q9, .int 0])), (q5, .inl (cI, 12, .inl (fun _ => 0))), (q6, .inl (cI, 12, .inl (fun _ => 0))), (q7, .inl (cI, 12, .inl (fun _ => 0))), (q10, .inr (3, [.ref q11, .ref q12])), (q11, .inl (cI, 12, .inl (fun _ => 0))), (q12, .inl (cZ, 12, .inl (fun _ => 0))), (q13, .inr (4, [.ref q14, .ref q15, .ref q16, .int 0])), (q15, .inl (cI, 24, .inl (fun _ => (-1)))), (q17, .inr (0, [.ref q18, .int 0, .int 0, .int 0])), (q18, .inl (cI, 12, .inl (fun _ => 0))), (q19, .inl (cI, 3, .inl (fun _ => 1)))] := hD
  exact xrv (q1, q4, q10, q13, q17, q19, q2, q3, q5, q6, q7, q11, q12, q15, q18, q8, q9, q14, q16) B d_FB_init_74 (trivial) (hP.sub (ws' := [(fb, .inr (5, [.ref q1, .ref q4, .ref q10, .ref q13, .ref q17, .ref q19])), (q1, .inr (1, [.ref q2, .ref q3, .int 0, .int 0])), (q4, .inr (2, [.ref q5, .ref q6, .ref q7, .ref q8, .ref q9, .int 0])), (q10, .inr (3, [.ref q11, .ref q12])), (q13, .inr (4, [.ref q14, .ref q15, .ref q16, .int 0])), (q17, .inr (0, [.ref q18, .int 0, .int 0, .int 0])), (q19, .inl (cI, 3, .inl (fun _ => 1))), (q2, .inl (cI, 24, .inl (fun _ => 0))), (q3, .inl (cI, 24, .inl (fun _ => 0))), (q5, .inl (cI, 12, .inl (fun _ => 0))), (q6, .inl (cI, 12, .inl (fun _ => 0))), (q7, .inl (cI, 12, .inl (fun _ => 0))), (q11, .inl (cI, 12, .inl (fun _ => 0))), (q12, .inl (cZ, 12, .inl (fun _ => 0))), (q15, .inl (cI, 24, .inl (fun _ => (-1)))), (q18, .inl (cI, 12, .inl (fun _ => 0)))]) [0, 1, 4, 8, 11, 13, 15, 2, 3, 5, 6, 7, 9, 10, 12, 14] rfl) (hK.sub (tys' := []) [] rfl) (hD.sub (ws' := [(fb, .inr (5, [.ref q1, .ref q4, .ref q10, .ref q13, .ref q17, .ref q19])), (q1, .inr (1, [.ref q2, .ref q3, .int 0, .int 0])), (q4, .inr (2, [.ref q5, .ref q6, .ref q7, .ref q8, .ref q9, .int 0])), (q10, .inr (3, [.ref q11, .ref q12])), (q13, .inr (4, [.ref q14, .ref q15, .ref q16, .int 0])), (q17, .inr (0, [.ref q18, .int 0, .int 0, .int 0])), (q19, .inl (cI, 3, .inl (fun _ => 1))), (q2, .inl (cI, 24, .inl (fun _ => 0))), (q3, .inl (cI, 24, .inl (fun _ => 0))), (q5, .inl (cI, 12, .inl (fun _ => 0))), (q6, .inl (cI, 12, .inl (fun _ => 0))), (q7, .inl (cI, 12, .inl (fun _ => 0))), (q11, .inl (cI, 12, .inl (fun _ => 0))), (q12, .inl (cZ, 12, .inl (fun _ => 0))), (q15, .inl (cI, 24, .inl (fun _ => (-1)))), (q18, .inl (cI, 12, .inl (fun _ => 0)))]) [0, 1, 4, 8, 11, 13, 15, 2, 3, 5, 6, 7, 9, 10, 12, 14] (by decide) rfl) hS (Nat.le_of_ble_eq_true rfl) (Nat.le_of_ble_eq_true rfl)
