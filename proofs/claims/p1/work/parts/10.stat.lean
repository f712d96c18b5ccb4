theorem d_FB_isIn_0 : decode b_FB_isIn 0 = .ok (.iload_n 0, 1) := by decide +kernel
theorem d_FB_isIn_1 : decode b_FB_isIn 1 = .ok (.iload_n 1, 1) := by decide +kernel
theorem d_FB_isIn_2 : decode b_FB_isIn 2 = .ok (.if_icmp .lt (12), 3) := by decide +kernel
theorem d_FB_isIn_5 : decode b_FB_isIn 5 = .ok (.iload_n 0, 1) := by decide +kernel
theorem d_FB_isIn_6 : decode b_FB_isIn 6 = .ok (.iload_n 2, 1) := by decide +kernel
theorem d_FB_isIn_7 : decode b_FB_isIn 7 = .ok (.if_icmp .gt (7), 3) := by decide +kernel
theorem d_FB_isIn_10 : decode b_FB_isIn 10 = .ok (.iconst (1), 1) := by decide +kernel
theorem d_FB_isIn_11 : decode b_FB_isIn 11 = .ok (.goto (4), 3) := by decide +kernel
theorem d_FB_isIn_14 : decode b_FB_isIn 14 = .ok (.iconst (0), 1) := by decide +kernel
theorem d_FB_isIn_15 : decode b_FB_isIn 15 = .ok (.ireturn, 1) := by decide +kernel
set_option maxRecDepth 20000 in
set_option maxHeartbeats 4000000 in
theorem c_FB_isIn (l : Launch) (D : va_G) (x : Int32) (lo : Int32) (hi : Int32) (sz : Nat)  : xMi l y_FB_isIn w_FB_isIn { frames := 0, cells := 0, slots := 0, locals := 0 } D cl [.int x, .int lo, .int hi] sz [] [] (fun (r : Int32) (_ : Unit) => r = xIn x lo hi) (fun _ => []) (fun _ => []) := by
  refine xMi_of (by decide +kernel) rfl (Nat.le_of_ble_eq_true rfl) ?_
  intro p e s m args below meth c ls A B hAe hA hsz hP hK hD hS hAm hTh hAs hl
  obtain ⟨⟨hx, hb, hml, hown, hts⟩, hret, hlk, hnm, hemp⟩ := id B
  have hl : lv_has ls 3 [(0, .int x), (1, .int lo), (2, .int hi)] := hl
  refine lv_iload_n hx hb d_FB_isIn_0 rfl (lv_at hl 0 rfl) ?_
  refine lv_iload_n hx hb d_FB_isIn_1 rfl (lv_at hl 1 rfl) ?_
  refine lv_icmp_lt (tgt := 14) hx hb d_FB_isIn_2 (by decide) (fun b2 => ?_) (fun b2 => ?_)
  · refine lv_iconst (v := 0) hx hb d_FB_isIn_14 (by decide) ?_
    exact xrz () B d_FB_isIn_15 (rfl) ((by first | exact xIn_0a b2 | exact xIn_0b b7)) (hP.sub (ws' := []) [] rfl) (hK.sub (tys' := []) [] rfl) (hD.sub (ws' := []) [] (by decide) rfl) hS (Nat.le_of_ble_eq_true rfl) (Nat.le_of_ble_eq_true rfl)
  · refine lv_iload_n hx hb d_FB_isIn_5 rfl (lv_at hl 0 rfl) ?_
    refine lv_iload_n hx hb d_FB_isIn_6 rfl (lv_at hl 2 rfl) ?_
    refine lv_icmp_gt (tgt := 14) hx hb d_FB_isIn_7 (by decide) (fun b7 => ?_) (fun b7 => ?_)
    · refine lv_iconst (v := 0) hx hb d_FB_isIn_14 (by decide) ?_
      exact xrz () B d_FB_isIn_15 (rfl) ((by first | exact xIn_0a b2 | exact xIn_0b b7)) (hP.sub (ws' := []) [] rfl) (hK.sub (tys' := []) [] rfl) (hD.sub (ws' := []) [] (by decide) rfl) hS (Nat.le_of_ble_eq_true rfl) (Nat.le_of_ble_eq_true rfl)
    · refine lv_iconst (v := 1) hx hb d_FB_isIn_10 (by decide) ?_
      refine lv_goto (tgt := 15) hx hb d_FB_isIn_11 (by decide) ?_
      exact xrz () B d_FB_isIn_15 (rfl) (xIn_1 b2 b7) (hP.sub (ws' := []) [] rfl) (hK.sub (tys' := []) [] rfl) (hD.sub (ws' := []) [] (by decide) rfl) hS (Nat.le_of_ble_eq_true rfl) (Nat.le_of_ble_eq_true rfl)
theorem d_FB_isFile_0 : decode b_FB_isFile 0 = .ok (.iload_n 0, 1) := by decide +kernel
theorem d_FB_isFile_1 : decode b_FB_isFile 1 = .ok (.iconst (0), 1) := by decide +kernel
theorem d_FB_isFile_2 : decode b_FB_isFile 2 = .ok (.bipush (23), 2) := by decide +kernel
theorem d_FB_isFile_4 : decode b_FB_isFile 4 = .ok (.invokestatic 61, 3) := by decide +kernel
theorem d_FB_isFile_7 : decode b_FB_isFile 7 = .ok (.ireturn, 1) := by decide +kernel
set_option maxRecDepth 20000 in
set_option maxHeartbeats 4000000 in
theorem c_FB_isFile (l : Launch) (D : va_G) (x : Int32) (sz : Nat)  : xMi l y_FB_isFile w_FB_isFile { frames := 1, cells := 0, slots := 0, locals := 22 } D cl [.int x] sz [] [] (fun (r : Int32) (_ : Unit) => r = xIn x 0 23) (fun _ => []) (fun _ => []) := by
  refine xMi_of (by decide +kernel) rfl (Nat.le_of_ble_eq_true rfl) ?_
  intro p e s m args below meth c ls A B hAe hA hsz hP hK hD hS hAm hTh hAs hl
  obtain ⟨⟨hx, hb, hml, hown, hts⟩, hret, hlk, hnm, hemp⟩ := id B
  have hl : lv_has ls 1 [(0, .int x)] := hl
  refine lv_iload_n hx hb d_FB_isFile_0 rfl (lv_at hl 0 rfl) ?_
  refine lv_iconst (v := 0) hx hb d_FB_isFile_1 (by decide) ?_
  refine lv_bipush (v := 23) hx hb d_FB_isFile_2 (by decide) ?_
  have hPc := hP.sub (ws' := []) [] rfl
  have hDc := hD.sub (ws' := []) [] (by decide) rfl
  have hKc := hK.sub (tys' := []) [] rfl
  refine xgi (wsC := []) (wr := []) (va_runS (As := [.int x, .int 0, .int 23]) (rest := []) ⟨hx, hb, hml, hown, hts⟩ (c_FB_isIn l  D x 0 23 _ ) ⟨(callB_of 3 hts (x_good k_FB_isIn) rfl rfl rfl (hts _ (List.mem_cons_of_mem _ tw_1)) (hts _ (List.mem_cons_of_mem _ tw_245)) (by decide +kernel) ⟨Nat.le_of_ble_eq_true rfl, Nat.le_of_ble_eq_true rfl⟩), (hts _ (List.mem_cons_of_mem _ tw_226))⟩ (xP_S hPc hKc hDc hAm hTh hAs hS) rfl rfl hl.1 rfl (lv_room (Nat.le_of_ble_eq_true rfl)) d_FB_isFile_4 ⟨Nat.le_of_ble_eq_true rfl, Nat.le_of_ble_eq_true rfl⟩) hP hD hK hS hA [] [] rfl rfl (by decide) (by decide) (fun r1 _ H locs er1 hP hD hK hS => ?_)
  have er1 : r1 = xIn x 0 23 := er1
  subst er1
  have hK : va_K D cl [] s := hK
  have hP : va_P D cl [] H := hP
  have hD : va_D A [] := hD
  exact xrz () B d_FB_isFile_7 (xIn_nar _ _ _) (rfl) (hP.sub (ws' := []) [] rfl) (hK.sub (tys' := []) [] rfl) (hD.sub (ws' := []) [] (by decide) rfl) hS (Nat.le_of_ble_eq_true rfl) (Nat.le_of_ble_eq_true rfl)
theorem d_FB_isCommand_0 : decode b_FB_isCommand 0 = .ok (.iload_n 0, 1) := by decide +kernel
theorem d_FB_isCommand_1 : decode b_FB_isCommand 1 = .ok (.iconst (0), 1) := by decide +kernel
theorem d_FB_isCommand_2 : decode b_FB_isCommand 2 = .ok (.ldc 127, 2) := by decide +kernel
theorem d_FB_isCommand_4 : decode b_FB_isCommand 4 = .ok (.invokestatic 61, 3) := by decide +kernel
theorem d_FB_isCommand_7 : decode b_FB_isCommand 7 = .ok (.ireturn, 1) := by decide +kernel
set_option maxRecDepth 20000 in
set_option maxHeartbeats 4000000 in
theorem c_FB_isCommand (l : Launch) (D : va_G) (x : Int32) (sz : Nat)  : xMi l y_FB_isCommand w_FB_isCommand { frames := 1, cells := 0, slots := 0, locals := 22 } D cl [.int x] sz [] [] (fun (r : Int32) (_ : Unit) => r = xIn x 0 65535) (fun _ => []) (fun _ => []) := by
  refine xMi_of (by decide +kernel) rfl (Nat.le_of_ble_eq_true rfl) ?_
  intro p e s m args below meth c ls A B hAe hA hsz hP hK hD hS hAm hTh hAs hl
  obtain ⟨⟨hx, hb, hml, hown, hts⟩, hret, hlk, hnm, hemp⟩ := id B
  have hl : lv_has ls 1 [(0, .int x)] := hl
  refine lv_iload_n hx hb d_FB_isCommand_0 rfl (lv_at hl 0 rfl) ?_
  refine lv_iconst (v := 0) hx hb d_FB_isCommand_1 (by decide) ?_
  refine lv_ldc (v := 65535) hx hb hown (hts _ (List.mem_cons_of_mem _ tw_244)) d_FB_isCommand_2 ?_
  have hPc := hP.sub (ws' := []) [] rfl
  have hDc := hD.sub (ws' := []) [] (by decide) rfl
  have hKc := hK.sub (tys' := []) [] rfl
  refine xgi (wsC := []) (wr := []) (va_runS (As := [.int x, .int 0, .int 65535]) (rest := []) ⟨hx, hb, hml, hown, hts⟩ (c_FB_isIn l  D x 0 65535 _ ) ⟨(callB_of 3 hts (x_good k_FB_isIn) rfl rfl rfl (hts _ (List.mem_cons_of_mem _ tw_1)) (hts _ (List.mem_cons_of_mem _ tw_245)) (by decide +kernel) ⟨Nat.le_of_ble_eq_true rfl, Nat.le_of_ble_eq_true rfl⟩), (hts _ (List.mem_cons_of_mem _ tw_226))⟩ (xP_S hPc hKc hDc hAm hTh hAs hS) rfl rfl hl.1 rfl (lv_room (Nat.le_of_ble_eq_true rfl)) d_FB_isCommand_4 ⟨Nat.le_of_ble_eq_true rfl, Nat.le_of_ble_eq_true rfl⟩) hP hD hK hS hA [] [] rfl rfl (by decide) (by decide) (fun r1 _ H locs er1 hP hD hK hS => ?_)
  have er1 : r1 = xIn x 0 65535 := er1
  subst er1
  have hK : va_K D cl [] s := hK
  have hP : va_P D cl [] H := hP
  have hD : va_D A [] := hD
  exact xrz () B d_FB_isCommand_7 (xIn_nar _ _ _) (rfl) (hP.sub (ws' := []) [] rfl) (hK.sub (tys' := []) [] rfl) (hD.sub (ws' := []) [] (by decide) rfl) hS (Nat.le_of_ble_eq_true rfl) (Nat.le_of_ble_eq_true rfl)
