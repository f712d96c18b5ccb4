theorem xlt_ge {x : Int32} (h : x < 0) : ¬ 0 ≤ x := by
  simp only [Int32.le_iff_toInt_le, Int32.lt_iff_toInt_lt] at *
  omega
theorem xge_lt {x : Int32} (h : ¬ 0 ≤ x) : x < 0 := by
  simp only [Int32.le_iff_toInt_le, Int32.lt_iff_toInt_lt] at *
  omega
theorem d_FB_about_0 : decode b_FB_about 0 = .ok (.aload_n 0, 1) := by decide +kernel
theorem d_FB_about_1 : decode b_FB_about 1 = .ok (.iload_n 1, 1) := by decide +kernel
theorem d_FB_about_2 : decode b_FB_about 2 = .ok (.invokevirtual 210, 3) := by decide +kernel
set_option maxRecDepth 20000 in
set_option maxHeartbeats 4000000 in
theorem c_FB_about_t (l : Launch) (hfl : l.flags = pinnedFlags ++ [noTraceFlag]) (D : va_G) (fb : Nat) (gr : Nat) (di : Nat) (re : Nat) (rl : Nat) (bu : Nat) (de : Nat) (gc : Nat) (gf : Nat) (gp : Nat) (gb : Nat) (gl : Nat) (x : Int32) (sz : Nat)  : xMt l y_FB_about w_FB_about { frames := 7, cells := 1, slots := 6, locals := 120 } D cl [.ref fb, .int x] sz [] [(fb, .inr (5, [.ref di, .ref gr, .ref re, .ref rl, .ref bu, .ref de])), (gr, .inr (2, [.ref gc, .ref gf, .ref gp, .ref gb, .ref gl, .int 0]))] "java/lang/IllegalArgumentException" := by
  refine xMt_of (by decide +kernel) rfl (Nat.le_of_ble_eq_true rfl) ?_
  intro p e s m args below meth c ls A B hAe hA hsz hP hK hD hS hAm hTh hAs hl
  obtain ⟨⟨hx, hb, hml, hown, hts⟩, hret, hlk, hnm, hemp⟩ := id B
  have hl : lv_has ls 2 [(0, .ref fb), (1, .int x)] := hl
  refine lv_aload_n hx hb d_FB_about_0 rfl (lv_at hl 0 rfl) ?_
  refine lv_iload_n hx hb d_FB_about_1 rfl (lv_at hl 1 rfl) ?_
  have hPc := hP.sub (ws' := [(fb, .inr (5, [.ref di, .ref gr, .ref re, .ref rl, .ref bu, .ref de])), (gr, .inr (2, [.ref gc, .ref gf, .ref gp, .ref gb, .ref gl, .int 0]))]) [0, 1] rfl
  have hDc := hD.sub (ws' := [(fb, .inr (5, [.ref di, .ref gr, .ref re, .ref rl, .ref bu, .ref de])), (gr, .inr (2, [.ref gc, .ref gf, .ref gp, .ref gb, .ref gl, .int 0]))]) [0, 1] (by decide) rfl
  have hKc := hK.sub (tys' := []) [] rfl
  have hFc := va_free (wc := [(fb, .inr (5, [.ref di, .ref gr, .ref re, .ref rl, .ref bu, .ref de])), (gr, .inr (2, [.ref gc, .ref gf, .ref gp, .ref gb, .ref gl, .int 0]))]) hD hS hA [0, 1] rfl
  have hS00 := hS.1
  refine xt_callV (As := [.int x]) (rest := []) ⟨hx, hb, hml, hown, hts⟩ (c_FB_refuseUnknownEdge l hfl  D fb gr di re rl bu de gc gf gp gb gl x _ ) ⟨(callB_of 1 hts (x_good k_FB_refuseUnknownEdge) rfl rfl rfl (hts _ (List.mem_cons_of_mem _ tw_1)) (hts _ (List.mem_cons_of_mem _ tw_606)) (by decide +kernel) ⟨Nat.le_of_ble_eq_true rfl, Nat.le_of_ble_eq_true rfl⟩), (hts _ (List.mem_cons_of_mem _ tw_608)), (hts _ (List.mem_cons_of_mem _ (x_sel 48 rfl)))⟩ (xP_V (va_recv (ci := 5) (q0 := 0) hK hP rfl rfl) hPc hKc hDc hAm hTh hAs hS) rfl hl.1 rfl (Nat.le_of_ble_eq_true rfl) d_FB_about_2 ⟨Nat.le_of_ble_eq_true rfl, Nat.le_of_ble_eq_true rfl⟩ hS (fun q _ h => hFc q h) hFc (fun x9 cell H locs hx1 hx2 hx3 hx4 hz9 hk9 hS => ?_)
  exact xt_leave hlk hemp hS (Nat.le_trans hS00 hx1) hx2 hx3 hx4 (Nat.le_of_ble_eq_true rfl) (Nat.le_of_ble_eq_true rfl)
theorem d_FB_commandOf_0 : decode b_FB_commandOf 0 = .ok (.aload_n 0, 1) := by decide +kernel
theorem d_FB_commandOf_1 : decode b_FB_commandOf 1 = .ok (.iload_n 1, 1) := by decide +kernel
theorem d_FB_commandOf_2 : decode b_FB_commandOf 2 = .ok (.invokevirtual 210, 3) := by decide +kernel
set_option maxRecDepth 20000 in
set_option maxHeartbeats 4000000 in
theorem c_FB_commandOf_t (l : Launch) (hfl : l.flags = pinnedFlags ++ [noTraceFlag]) (D : va_G) (fb : Nat) (gr : Nat) (di : Nat) (re : Nat) (rl : Nat) (bu : Nat) (de : Nat) (gc : Nat) (gf : Nat) (gp : Nat) (gb : Nat) (gl : Nat) (x : Int32) (sz : Nat)  : xMt l y_FB_commandOf w_FB_commandOf { frames := 7, cells := 1, slots := 6, locals := 120 } D cl [.ref fb, .int x] sz [] [(fb, .inr (5, [.ref di, .ref gr, .ref re, .ref rl, .ref bu, .ref de])), (gr, .inr (2, [.ref gc, .ref gf, .ref gp, .ref gb, .ref gl, .int 0]))] "java/lang/IllegalArgumentException" := by
  refine xMt_of (by decide +kernel) rfl (Nat.le_of_ble_eq_true rfl) ?_
  intro p e s m args below meth c ls A B hAe hA hsz hP hK hD hS hAm hTh hAs hl
  obtain ⟨⟨hx, hb, hml, hown, hts⟩, hret, hlk, hnm, hemp⟩ := id B
  have hl : lv_has ls 2 [(0, .ref fb), (1, .int x)] := hl
  refine lv_aload_n hx hb d_FB_commandOf_0 rfl (lv_at hl 0 rfl) ?_
  refine lv_iload_n hx hb d_FB_commandOf_1 rfl (lv_at hl 1 rfl) ?_
  have hPc := hP.sub (ws' := [(fb, .inr (5, [.ref di, .ref gr, .ref re, .ref rl, .ref bu, .ref de])), (gr, .inr (2, [.ref gc, .ref gf, .ref gp, .ref gb, .ref gl, .int 0]))]) [0, 1] rfl
  have hDc := hD.sub (ws' := [(fb, .inr (5, [.ref di, .ref gr, .ref re, .ref rl, .ref bu, .ref de])), (gr, .inr (2, [.ref gc, .ref gf, .ref gp, .ref gb, .ref gl, .int 0]))]) [0, 1] (by decide) rfl
  have hKc := hK.sub (tys' := []) [] rfl
  have hFc := va_free (wc := [(fb, .inr (5, [.ref di, .ref gr, .ref re, .ref rl, .ref bu, .ref de])), (gr, .inr (2, [.ref gc, .ref gf, .ref gp, .ref gb, .ref gl, .int 0]))]) hD hS hA [0, 1] rfl
  have hS00 := hS.1
  refine xt_callV (As := [.int x]) (rest := []) ⟨hx, hb, hml, hown, hts⟩ (c_FB_refuseUnknownEdge l hfl  D fb gr di re rl bu de gc gf gp gb gl x _ ) ⟨(callB_of 1 hts (x_good k_FB_refuseUnknownEdge) rfl rfl rfl (hts _ (List.mem_cons_of_mem _ tw_1)) (hts _ (List.mem_cons_of_mem _ tw_606)) (by decide +kernel) ⟨Nat.le_of_ble_eq_true rfl, Nat.le_of_ble_eq_true rfl⟩), (hts _ (List.mem_cons_of_mem _ tw_608)), (hts _ (List.mem_cons_of_mem _ (x_sel 48 rfl)))⟩ (xP_V (va_recv (ci := 5) (q0 := 0) hK hP rfl rfl) hPc hKc hDc hAm hTh hAs hS) rfl hl.1 rfl (Nat.le_of_ble_eq_true rfl) d_FB_commandOf_2 ⟨Nat.le_of_ble_eq_true rfl, Nat.le_of_ble_eq_true rfl⟩ hS (fun q _ h => hFc q h) hFc (fun x9 cell H locs hx1 hx2 hx3 hx4 hz9 hk9 hS => ?_)
  exact xt_leave hlk hemp hS (Nat.le_trans hS00 hx1) hx2 hx3 hx4 (Nat.le_of_ble_eq_true rfl) (Nat.le_of_ble_eq_true rfl)
theorem d_RL_readAgain_0 : decode b_RL_readAgain 0 = .ok (.aload_n 0, 1) := by decide +kernel
theorem d_RL_readAgain_1 : decode b_RL_readAgain 1 = .ok (.getfield 27, 3) := by decide +kernel
theorem d_RL_readAgain_4 : decode b_RL_readAgain 4 = .ok (.iload_n 1, 1) := by decide +kernel
theorem d_RL_readAgain_5 : decode b_RL_readAgain 5 = .ok (.invokestatic 53, 3) := by decide +kernel
theorem d_RL_readAgain_8 : decode b_RL_readAgain 8 = .ok (.istore_n 2, 1) := by decide +kernel
theorem d_RL_readAgain_9 : decode b_RL_readAgain 9 = .ok (.aload_n 0, 1) := by decide +kernel
theorem d_RL_readAgain_10 : decode b_RL_readAgain 10 = .ok (.getfield 15, 3) := by decide +kernel
theorem d_RL_readAgain_13 : decode b_RL_readAgain 13 = .ok (.iconst (-1), 1) := by decide +kernel
theorem d_RL_readAgain_14 : decode b_RL_readAgain 14 = .ok (.invokestatic 21, 3) := by decide +kernel
theorem d_RL_readAgain_17 : decode b_RL_readAgain 17 = .ok (.aload_n 0, 1) := by decide +kernel
theorem d_RL_readAgain_18 : decode b_RL_readAgain 18 = .ok (.iconst (0), 1) := by decide +kernel
theorem d_RL_readAgain_19 : decode b_RL_readAgain 19 = .ok (.putfield 27, 3) := by decide +kernel
theorem d_RL_readAgain_22 : decode b_RL_readAgain 22 = .ok (.iconst (0), 1) := by decide +kernel
theorem d_RL_readAgain_23 : decode b_RL_readAgain 23 = .ok (.istore_n 3, 1) := by decide +kernel
theorem d_RL_readAgain_24 : decode b_RL_readAgain 24 = .ok (.iload_n 3, 1) := by decide +kernel
theorem d_RL_readAgain_25 : decode b_RL_readAgain 25 = .ok (.bipush (8), 2) := by decide +kernel
theorem d_RL_readAgain_27 : decode b_RL_readAgain 27 = .ok (.iadd, 1) := by decide +kernel
theorem d_RL_readAgain_28 : decode b_RL_readAgain 28 = .ok (.iload_n 2, 1) := by decide +kernel
theorem d_RL_readAgain_29 : decode b_RL_readAgain 29 = .ok (.if_icmp .gt (30), 3) := by decide +kernel
theorem d_RL_readAgain_59 : decode b_RL_readAgain 59 = .ok (.return_, 1) := by decide +kernel
set_option maxRecDepth 20000 in
set_option maxHeartbeats 4000000 in
theorem c_RL_readAgain (l : Launch) (D : va_G) (rl : Nat) (rc : Nat) (rb : Nat) (rt : Nat) (cI : ClassId) (x : Int32) (sz : Nat) (h : ¬ x < 0) : xMv l y_RL_readAgain w_RL_readAgain { frames := 1, cells := 0, slots := 0, locals := 40 } D cl [.ref rl, .int x] sz [(cI, .int)] [(rl, .inr (4, [.ref rb, .ref rc, .ref rt, .int 0])), (rc, .inl (cI, 24, .inl (fun _ => (-1))))] (fun (_ : Unit) => True) (fun _ => [(rl, .inr (4, [.ref rb, .ref rc, .ref rt, .int 0]))]) (fun _ => []) := by
  refine xMv_of (by decide +kernel) rfl (Nat.le_of_ble_eq_true rfl) ?_
  intro p e s m args below meth c ls A B hAe hA hsz hP hK hD hS hAm hTh hAs hl
  obtain ⟨⟨hx, hb, hml, hown, hts⟩, hret, hlk, hnm, hemp⟩ := id B
  have hl : lv_has ls 4 [(0, .ref rl), (1, .int x)] := hl
  refine lv_aload_n hx hb d_RL_readAgain_0 rfl (lv_at hl 0 rfl) ?_
  refine va_get (D := D) (ci := 4) (v := .int 0) (C := R_RL) (T := F_RL) (N := 4) hx hb hts (fun w h => List.mem_cons_of_mem _ (u_RL w h)) hown hK hP 0 rfl rfl 3 (by decide) (hts _ (List.mem_cons_of_mem _ tw_111)) (fun _ h9 => h9) rfl d_RL_readAgain_1 ?_
  refine lv_iload_n hx hb d_RL_readAgain_4 rfl (lv_at hl 1 rfl) ?_
  refine va_mmin hx hb (hml.trans hl.1.symm) hown (hts _ (List.mem_cons_of_mem _ tw_639)) (hts _ (List.mem_cons_of_mem _ tw_640)) (hts _ (List.mem_cons_of_mem _ tw_16)) (hts _ (List.mem_cons_of_mem _ tw_641)) (Nat.le_of_ble_eq_true rfl) (Nat.le_of_ble_eq_true rfl) (Nat.le_of_ble_eq_true rfl) (Nat.le_of_ble_eq_true rfl) d_RL_readAgain_5 ?_
  refine xnum (v := 0) (if_neg h) ?_
  refine lv_istore_n hx hb d_RL_readAgain_8 rfl hl (by decide) rfl (fun ls hl => ?_)
  have hl : lv_has ls 4 [(2, .int 0), (0, .ref rl), (1, .int x)] := hl
  refine lv_aload_n hx hb d_RL_readAgain_9 rfl (lv_at hl 1 rfl) ?_
  refine va_get (D := D) (ci := 4) (v := .ref rc) (C := R_RL) (T := F_RL) (N := 4) hx hb hts (fun w h => List.mem_cons_of_mem _ (u_RL w h)) hown hK hP 0 rfl rfl 1 (by decide) (hts _ (List.mem_cons_of_mem _ tw_107)) (fun _ h9 => h9) rfl d_RL_readAgain_10 ?_
  refine lv_iconst (v := (-1)) hx hb d_RL_readAgain_13 (by decide) ?_
  have hPc := hP.sub (ws' := [(rc, .inl (cI, 24, .inl (fun _ => (-1))))]) [1] rfl
  have hDc := hD.sub (ws' := [(rc, .inl (cI, 24, .inl (fun _ => (-1))))]) [1] (by decide) rfl
  have hKc := hK.sub (tys' := [(cI, .int)]) [0] rfl
  refine xgv (wsC := [(rc, .inl (cI, 24, .inl (fun _ => (-1))))]) (wr := [(rl, .inr (4, [.ref rb, .ref rc, .ref rt, .int 0]))]) (va_runS (As := [.ref rc, .int (-1)]) (rest := []) ⟨hx, hb, hml, hown, hts⟩ (c_Ar_fill l D rc cI 24 (fun _ => (-1)) (-1) _ (by decide)) ⟨(callB_of 2 hts (x_good k_Ar_fill) rfl rfl rfl (hts _ (List.mem_cons_of_mem _ tw_6)) (hts _ (List.mem_cons_of_mem _ tw_102)) (by decide +kernel) ⟨Nat.le_of_ble_eq_true rfl, Nat.le_of_ble_eq_true rfl⟩), (hts _ (List.mem_cons_of_mem _ tw_103))⟩ (xP_S hPc hKc hDc hAm hTh hAs hS) rfl rfl hl.1 rfl (lv_room (Nat.le_of_ble_eq_true rfl)) d_RL_readAgain_14 ⟨Nat.le_of_ble_eq_true rfl, Nat.le_of_ble_eq_true rfl⟩) hP hD hK hS hA [1] [0] rfl rfl (by decide) (by decide) (fun _ H locs _ hP hD hK hS => ?_)
  have hK : va_K D cl [(cI, .int)] s := hK
  have hP : va_P D cl [(rl, .inr (4, [.ref rb, .ref rc, .ref rt, .int 0])), (rc, .inl (cI, 24, .inl (fun _ => (-1))))] H := hP
  have hD : va_D A [(rl, .inr (4, [.ref rb, .ref rc, .ref rt, .int 0])), (rc, .inl (cI, 24, .inl (fun _ => (-1))))] := hD
  refine lv_aload_n hx hb d_RL_readAgain_17 rfl (lv_at hl 1 rfl) ?_
  refine lv_iconst (v := 0) hx hb d_RL_readAgain_18 (by decide) ?_
  refine va_put (D := D) (ci := 4) (v := .int 0) (ty := .int) (C := R_RL) (T := F_RL) (N := 4) hx hb hts (fun w h => List.mem_cons_of_mem _ (u_RL w h)) t_RL o_RL n_RL hown hK hP hD hS 0 rfl rfl 3 (by decide) (hts _ (List.mem_cons_of_mem _ tw_111)) (fun _ h9 => h9) rfl (by decide +kernel) rfl rfl (Nat.le_of_ble_eq_true rfl) d_RL_readAgain_19 (fun H locs hP hD hS => ?_)
  have hP : va_P D cl [(rl, .inr (4, [.ref rb, .ref rc, .ref rt, .int 0])), (rc, .inl (cI, 24, .inl (fun _ => (-1))))] H := hP
  have hD : va_D A [(rl, .inr (4, [.ref rb, .ref rc, .ref rt, .int 0])), (rc, .inl (cI, 24, .inl (fun _ => (-1))))] := hD
  refine lv_iconst (v := 0) hx hb d_RL_readAgain_22 (by decide) ?_
  refine lv_istore_n hx hb d_RL_readAgain_23 rfl hl (by decide) rfl (fun ls hl => ?_)
  have hl : lv_has ls 4 [(3, .int 0), (2, .int 0), (0, .ref rl), (1, .int x)] := hl
  refine lv_iload_n hx hb d_RL_readAgain_24 rfl (lv_at hl 0 rfl) ?_
  refine lv_bipush (v := 8) hx hb d_RL_readAgain_25 (by decide) ?_
  refine lv_iadd hx hb d_RL_readAgain_27 ?_
  refine xnum (v := 8) (by decide) ?_
  refine lv_iload_n hx hb d_RL_readAgain_28 rfl (lv_at hl 1 rfl) ?_
  refine lv_icmp_gt (tgt := 59) hx hb d_RL_readAgain_29 (by decide) (fun b29 => ?_) (fun b29 => absurd b29 (by decide))
  exact xrv () B d_RL_readAgain_59 (trivial) (hP.sub (ws' := [(rl, .inr (4, [.ref rb, .ref rc, .ref rt, .int 0]))]) [0] rfl) (hK.sub (tys' := []) [] rfl) (hD.sub (ws' := [(rl, .inr (4, [.ref rb, .ref rc, .ref rt, .int 0]))]) [0] (by decide) rfl) hS (Nat.le_of_ble_eq_true rfl) (Nat.le_of_ble_eq_true rfl)
theorem d_Re_forget_0 : decode b_Re_forget 0 = .ok (.iconst (0), 1) := by decide +kernel
theorem d_Re_forget_1 : decode b_Re_forget 1 = .ok (.istore_n 1, 1) := by decide +kernel
theorem d_Re_forget_2 : decode b_Re_forget 2 = .ok (.iload_n 1, 1) := by decide +kernel
theorem d_Re_forget_3 : decode b_Re_forget 3 = .ok (.bipush (12), 2) := by decide +kernel
theorem d_Re_forget_5 : decode b_Re_forget 5 = .ok (.if_icmp .ge (23), 3) := by decide +kernel
theorem d_Re_forget_8 : decode b_Re_forget 8 = .ok (.aload_n 0, 1) := by decide +kernel
theorem d_Re_forget_9 : decode b_Re_forget 9 = .ok (.getfield 9, 3) := by decide +kernel
theorem d_Re_forget_12 : decode b_Re_forget 12 = .ok (.iload_n 1, 1) := by decide +kernel
theorem d_Re_forget_13 : decode b_Re_forget 13 = .ok (.iconst (0), 1) := by decide +kernel
theorem d_Re_forget_14 : decode b_Re_forget 14 = .ok (.iastore, 1) := by decide +kernel
theorem d_Re_forget_15 : decode b_Re_forget 15 = .ok (.aload_n 0, 1) := by decide +kernel
theorem d_Re_forget_16 : decode b_Re_forget 16 = .ok (.getfield 15, 3) := by decide +kernel
theorem d_Re_forget_19 : decode b_Re_forget 19 = .ok (.iload_n 1, 1) := by decide +kernel
theorem d_Re_forget_20 : decode b_Re_forget 20 = .ok (.iconst (0), 1) := by decide +kernel
theorem d_Re_forget_21 : decode b_Re_forget 21 = .ok (.bastore, 1) := by decide +kernel
theorem d_Re_forget_22 : decode b_Re_forget 22 = .ok (.iinc 1 (1), 3) := by decide +kernel
theorem d_Re_forget_25 : decode b_Re_forget 25 = .ok (.goto (-23), 3) := by decide +kernel
theorem d_Re_forget_28 : decode b_Re_forget 28 = .ok (.return_, 1) := by decide +kernel
set_option maxRecDepth 20000 in
set_option maxHeartbeats 4000000 in
theorem c_Re_forget (l : Launch) (D : va_G) (re : Nat) (rr : Nat) (rk : Nat) (cI : ClassId) (cZ : ClassId) (sz : Nat)  : xMv l y_Re_forget w_Re_forget { frames := 0, cells := 0, slots := 0, locals := 0 } D cl [.ref re] sz [(cI, .int), (cZ, .boolean)] [(re, .inr (3, [.ref rr, .ref rk])), (rr, .inl (cI, 12, .inl (fun _ => 0))), (rk, .inl (cZ, 12, .inl (fun _ => 0)))] (fun (_ : Unit) => True) (fun _ => []) (fun _ => []) := by
  refine xMv_of (by decide +kernel) rfl (Nat.le_of_ble_eq_true rfl) ?_
  intro p e s m args below meth c ls A B hAe hA hsz hP hK hD hS hAm hTh hAs hl
  obtain ⟨⟨hx, hb, hml, hown, hts⟩, hret, hlk, hnm, hemp⟩ := id B
  have hl : lv_has ls 2 [(0, .ref re)] := hl
  refine lv_iconst (v := 0) hx hb d_Re_forget_0 (by decide) ?_
  refine lv_istore_n hx hb d_Re_forget_1 rfl hl (by decide) rfl (fun ls hl => ?_)
  have hl : lv_has ls 2 [(1, .int 0), (0, .ref re)] := hl
  refine lv_iload_n hx hb d_Re_forget_2 rfl (lv_at hl 0 rfl) ?_
  refine lv_bipush (v := 12) hx hb d_Re_forget_3 (by decide) ?_
  refine lv_icmp_ge (tgt := 28) hx hb d_Re_forget_5 (by decide) (fun b5 => absurd b5 (by decide)) (fun b5 => ?_)
  refine lv_aload_n hx hb d_Re_forget_8 rfl (lv_at hl 1 rfl) ?_
  refine va_get (D := D) (ci := 3) (v := .ref rr) (C := R_Re) (T := F_Re) (N := 2) hx hb hts (fun w h => List.mem_cons_of_mem _ (u_Re w h)) hown hK hP 0 rfl rfl 0 (by decide) (hts _ (List.mem_cons_of_mem _ tw_86)) (fun _ h9 => h9) rfl d_Re_forget_9 ?_
  refine lv_iload_n hx hb d_Re_forget_12 rfl (lv_at hl 0 rfl) ?_
  refine lv_iconst (v := 0) hx hb d_Re_forget_13 (by decide) ?_
  refine va_iast hx hb hK hP hD hS 1 0 rfl rfl (by unfold vp_in; decide) d_Re_forget_14 (fun H locs hP hD hS => ?_)
  have hP : va_P D cl [(re, .inr (3, [.ref rr, .ref rk])), (rr, .inl (cI, 12, .inl (upd (fun _ => 0) (0 : Int32).toNatClampNeg 0))), (rk, .inl (cZ, 12, .inl (fun _ => 0)))] H := hP
  have hD : va_D A [(re, .inr (3, [.ref rr, .ref rk])), (rr, .inl (cI, 12, .inl (upd (fun _ => 0) (0 : Int32).toNatClampNeg 0))), (rk, .inl (cZ, 12, .inl (fun _ => 0)))] := hD
  refine lv_aload_n hx hb d_Re_forget_15 rfl (lv_at hl 1 rfl) ?_
  refine va_get (D := D) (ci := 3) (v := .ref rk) (C := R_Re) (T := F_Re) (N := 2) hx hb hts (fun w h => List.mem_cons_of_mem _ (u_Re w h)) hown hK hP 0 rfl rfl 1 (by decide) (hts _ (List.mem_cons_of_mem _ tw_88)) (fun _ h9 => h9) rfl d_Re_forget_16 ?_
  refine lv_iload_n hx hb d_Re_forget_19 rfl (lv_at hl 0 rfl) ?_
  refine lv_iconst (v := 0) hx hb d_Re_forget_20 (by decide) ?_
  refine va_zast hx hb hK hP hD hS 2 1 rfl rfl (by unfold vp_in; decide) d_Re_forget_21 (fun H locs hP hD hS => ?_)
  have hP : va_P D cl [(re, .inr (3, [.ref rr, .ref rk])), (rr, .inl (cI, 12, .inl (upd (fun _ => 0) (0 : Int32).toNatClampNeg 0))), (rk, .inl (cZ, 12, .inl (upd (fun _ => 0) (0 : Int32).toNatClampNeg (vp_nar .boolean 0))))] H := hP
  have hD : va_D A [(re, .inr (3, [.ref rr, .ref rk])), (rr, .inl (cI, 12, .inl (upd (fun _ => 0) (0 : Int32).toNatClampNeg 0))), (rk, .inl (cZ, 12, .inl (upd (fun _ => 0) (0 : Int32).toNatClampNeg (vp_nar .boolean 0))))] := hD
  refine lv_iinc (k := 0) (v := 1) hx hb d_Re_forget_22 hl rfl (by decide) (by decide) rfl (fun ls hl => ?_)
  have hl : lv_has ls 2 [(1, .int 1), (0, .ref re)] := hl
  refine lv_goto (tgt := 2) hx hb d_Re_forget_25 (by decide) ?_
  refine lv_iload_n hx hb d_Re_forget_2 rfl (lv_at hl 0 rfl) ?_
  refine lv_bipush (v := 12) hx hb d_Re_forget_3 (by decide) ?_
  refine lv_icmp_ge (tgt := 28) hx hb d_Re_forget_5 (by decide) (fun b5 => absurd b5 (by decide)) (fun b5 => ?_)
  refine lv_aload_n hx hb d_Re_forget_8 rfl (lv_at hl 1 rfl) ?_
  refine va_get (D := D) (ci := 3) (v := .ref rr) (C := R_Re) (T := F_Re) (N := 2) hx hb hts (fun w h => List.mem_cons_of_mem _ (u_Re w h)) hown hK hP 0 rfl rfl 0 (by decide) (hts _ (List.mem_cons_of_mem _ tw_86)) (fun _ h9 => h9) rfl d_Re_forget_9 ?_
  refine lv_iload_n hx hb d_Re_forget_12 rfl (lv_at hl 0 rfl) ?_
  refine lv_iconst (v := 0) hx hb d_Re_forget_13 (by decide) ?_
  refine va_iast hx hb hK hP hD hS 1 0 rfl rfl (by unfold vp_in; decide) d_Re_forget_14 (fun H locs hP hD hS => ?_)
  have hP : va_P D cl [(re, .inr (3, [.ref rr, .ref rk])), (rr, .inl (cI, 12, .inl (upd (upd (fun _ => 0) (0 : Int32).toNatClampNeg 0) (1 : Int32).toNatClampNeg 0))), (rk, .inl (cZ, 12, .inl (upd (fun _ => 0) (0 : Int32).toNatClampNeg (vp_nar .boolean 0))))] H := hP
  have hD : va_D A [(re, .inr (3, [.ref rr, .ref rk])), (rr, .inl (cI, 12, .inl (upd (upd (fun _ => 0) (0 : Int32).toNatClampNeg 0) (1 : Int32).toNatClampNeg 0))), (rk, .inl (cZ, 12, .inl (upd (fun _ => 0) (0 : Int32).toNatClampNeg (vp_nar .boolean 0))))] := hD
  refine lv_aload_n hx hb d_Re_forget_15 rfl (lv_at hl 1 rfl) ?_
  refine va_get (D := D) (ci := 3) (v := .ref rk) (C := R_Re) (T := F_Re) (N := 2) hx hb hts (fun w h => List.mem_cons_of_mem _ (u_Re w h)) hown hK hP 0 rfl rfl 1 (by decide) (hts _ (List.mem_cons_of_mem _ tw_88)) (fun _ h9 => h9) rfl d_Re_forget_16 ?_
  refine lv_iload_n hx hb d_Re_forget_19 rfl (lv_at hl 0 rfl) ?_
  refine lv_iconst (v := 0) hx hb d_Re_forget_20 (by decide) ?_
  refine va_zast hx hb hK hP hD hS 2 1 rfl rfl (by unfold vp_in; decide) d_Re_forget_21 (fun H locs hP hD hS => ?_)
  have hP : va_P D cl [(re, .inr (3, [.ref rr, .ref rk])), (rr, .inl (cI, 12, .inl (upd (upd (fun _ => 0) (0 : Int32).toNatClampNeg 0) (1 : Int32).toNatClampNeg 0))), (rk, .inl (cZ, 12, .inl (upd (upd (fun _ => 0) (0 : Int32).toNatClampNeg (vp_nar .boolean 0)) (1 : Int32).toNatClampNeg (vp_nar .boolean 0))))] H := hP
  have hD : va_D A [(re, .inr (3, [.ref rr, .ref rk])), (rr, .inl (cI, 12, .inl (upd (upd (fun _ => 0) (0 : Int32).toNatClampNeg 0) (1 : Int32).toNatClampNeg 0))), (rk, .inl (cZ, 12, .inl (upd (upd (fun _ => 0) (0 : Int32).toNatClampNeg (vp_nar .boolean 0)) (1 : Int32).toNatClampNeg (vp_nar .boolean 0))))] := hD
  refine lv_iinc (k := 0) (v := 2) hx hb d_Re_forget_22 hl rfl (by decide) (by decide) rfl (fun ls hl => ?_)
  have hl : lv_has ls 2 [(1, .int 2), (0, .ref re)] := hl
  refine lv_goto (tgt := 2) hx hb d_Re_forget_25 (by decide) ?_
  refine lv_iload_n hx hb d_Re_forget_2 rfl (lv_at hl 0 rfl) ?_
  refine lv_bipush (v := 12) hx hb d_Re_forget_3 (by decide) ?_
  refine lv_icmp_ge (tgt := 28) hx hb d_Re_forget_5 (by decide) (fun b5 => absurd b5 (by decide)) (fun b5 => ?_)
  refine lv_aload_n hx hb d_Re_forget_8 rfl (lv_at hl 1 rfl) ?_
  refine va_get (D := D) (ci := 3) (v := .ref rr) (C := R_Re) (T := F_Re) (N := 2) hx hb hts (fun w h => List.mem_cons_of_mem _ (u_Re w h)) hown hK hP 0 rfl rfl 0 (by decide) (hts _ (List.mem_cons_of_mem _ tw_86)) (fun _ h9 => h9) rfl d_Re_forget_9 ?_
  refine lv_iload_n hx hb d_Re_forget_12 rfl (lv_at hl 0 rfl) ?_
  refine lv_iconst (v := 0) hx hb d_Re_forget_13 (by decide) ?_
  refine va_iast hx hb hK hP hD hS 1 0 rfl rfl (by unfold vp_in; decide) d_Re_forget_14 (fun H locs hP hD hS => ?_)
  have hP : va_P D cl [(re, .inr (3, [.ref rr, .ref rk])), (rr, .inl (cI, 12, .inl (upd (upd (upd (fun _ => 0) (0 : Int32).toNatClampNeg 0) (1 : Int32).toNatClampNeg 0) (2 : Int32).toNatClampNeg 0))), (rk, .inl (cZ, 12, .inl (upd (upd (fun _ => 0) (0 : Int32).toNatClampNeg (vp_nar .boolean 0)) (1 : Int32).toNatClampNeg (vp_nar .boolean 0))))] H := hP
  have hD : va_D A [(re, .inr (3, [.ref rr, .ref rk])), (rr, .inl (cI, 12, .inl (upd (upd (upd (fun _ => 0) (0 : Int32).toNatClampNeg 0) (1 : Int32).toNatClampNeg 0) (2 : Int32).toNatClampNeg 0))), (rk, .inl (cZ, 12, .inl (upd (upd (fun _ => 0) (0 : Int32).toNatClampNeg (vp_nar .boolean 0)) (1 : Int32).toNatClampNeg (vp_nar .boolean 0))))] := hD
  refine lv_aload_n hx hb d_Re_forget_15 rfl (lv_at hl 1 rfl) ?_
  refine va_get (D := D) (ci := 3) (v := .ref rk) (C := R_Re) (T := F_Re) (N := 2) hx hb hts (fun w h => List.mem_cons_of_mem _ (u_Re w h)) hown hK hP 0 rfl rfl 1 (by decide) (hts _ (List.mem_cons_of_mem _ tw_88)) (fun _ h9 => h9) rfl d_Re_forget_16 ?_
  refine lv_iload_n hx hb d_Re_forget_19 rfl (lv_at hl 0 rfl) ?_
  refine lv_iconst (v := 0) hx hb d_Re_forget_20 (by decide) ?_
  refine va_zast hx hb hK hP hD hS 2 1 rfl rfl (by unfold vp_in; decide) d_Re_forget_21 (fun H locs hP hD hS => ?_)
  have hP : va_P D cl [(re, .inr (3, [.ref rr, .ref rk])), (rr, .inl (cI, 12, .inl (upd (upd (upd (fun _ => 0) (0 : Int32).toNatClampNeg 0) (1 : Int32).toNatClampNeg 0) (2 : Int32).toNatClampNeg 0))), (rk, .inl (cZ, 12, .inl (upd (upd (upd (fun _ => 0) (0 : Int32).toNatClampNeg (vp_nar .boolean 0)) (1 : Int32).toNatClampNeg (vp_nar .boolean 0)) (2 : Int32).toNatClampNeg (vp_nar .boolean 0))))] H := hP
  have hD : va_D A [(re, .inr (3, [.ref rr, .ref rk])), (rr, .inl (cI, 12, .inl (upd (upd (upd (fun _ => 0) (0 : Int32).toNatClampNeg 0) (1 : Int32).toNatClampNeg 0) (2 : Int32).toNatClampNeg 0))), (rk, .inl (cZ, 12, .inl (upd (upd (upd (fun _ => 0) (0 : Int32).toNatClampNeg (vp_nar .boolean 0)) (1 : Int32).toNatClampNeg (vp_nar .boolean 0)) (2 : Int32).toNatClampNeg (vp_nar .boolean 0))))] := hD
  refine lv_iinc (k := 0) (v := 3) hx hb d_Re_forget_22 hl rfl (by decide) (by decide) rfl (fun ls hl => ?_)
  have hl : lv_has ls 2 [(1, .int 3), (0, .ref re)] := hl
  refine lv_goto (tgt := 2) hx hb d_Re_forget_25 (by decide) ?_
  refine lv_iload_n hx hb d_Re_forget_2 rfl (lv_at hl 0 rfl) ?_
  refine lv_bipush (v := 12) hx hb d_Re_forget_3 (by decide) ?_
  refine lv_icmp_ge (tgt := 28) hx hb d_Re_forget_5 (by decide) (fun b5 => absurd b5 (by decide)) (fun b5 => ?_)
  refine lv_aload_n hx hb d_Re_forget_8 rfl (lv_at hl 1 rfl) ?_
  refine va_get (D := D) (ci := 3) (v := .ref rr) (C := R_Re) (T := F_Re) (N := 2) hx hb hts (fun w h => List.mem_cons_of_mem _ (u_Re w h)) hown hK hP 0 rfl rfl 0 (by decide) (hts _ (List.mem_cons_of_mem _ tw_86)) (fun _ h9 => h9) rfl d_Re_forget_9 ?_
  refine lv_iload_n hx hb d_Re_forget_12 rfl (lv_at hl 0 rfl) ?_
  refine lv_iconst (v := 0) hx hb d_Re_forget_13 (by decide) ?_
  refine va_iast hx hb hK hP hD hS 1 0 rfl rfl (by unfold vp_in; decide) d_Re_forget_14 (fun H locs hP hD hS => ?_)
  have hP : va_P D cl [(re, .inr (3, [.ref rr, .ref rk])), (rr, .inl (cI, 12, .inl (upd (upd (upd (upd (fun _ => 0) (0 : Int32).toNatClampNeg 0) (1 : Int32).toNatClampNeg 0) (2 : Int32).toNatClampNeg 0) (3 : Int32).toNatClampNeg 0))), (rk, .inl (cZ, 12, .inl (upd (upd (upd (fun _ => 0) (0 : Int32).toNatClampNeg (vp_nar .boolean 0)) (1 : Int32).toNatClampNeg (vp_nar .boolean 0)) (2 : Int32).toNatClampNeg (vp_nar .boolean 0))))] H := hP
  have hD : va_D A [(re, .inr (3, [.ref rr, .ref rk])), (rr, .inl (cI, 12, .inl (upd (upd (upd (upd (fun _ => 0) (0 : Int32).toNatClampNeg 0) (1 : Int32).toNatClampNeg 0) (2 : Int32).toNatClampNeg 0) (3 : Int32).toNatClampNeg 0))), (rk, .inl (cZ, 12, .inl (upd (upd (upd (fun _ => 0) (0 : Int32).toNatClampNeg (vp_nar .boolean 0)) (1 : Int32).toNatClampNeg (vp_nar .boolean 0)) (2 : Int32).toNatClampNeg (vp_nar .boolean 0))))] := hD
  refine lv_aload_n hx hb d_Re_forget_15 rfl (lv_at hl 1 rfl) ?_
  refine va_get (D := D) (ci := 3) (v := .ref rk) (C := R_Re) (T := F_Re) (N := 2) hx hb hts (fun w h => List.mem_cons_of_mem _ (u_Re w h)) hown hK hP 0 rfl rfl 1 (by decide) (hts _ (List.mem_cons_of_mem _ tw_88)) (fun _ h9 => h9) rfl d_Re_forget_16 ?_
  refine lv_iload_n hx hb d_Re_forget_19 rfl (lv_at hl 0 rfl) ?_
  refine lv_iconst (v := 0) hx hb d_Re_forget_20 (by decide) ?_
  refine va_zast hx hb hK hP hD hS 2 1 rfl rfl (by unfold vp_in; decide) d_Re_forget_21 (fun H locs hP hD hS => ?_)
  have hP : va_P D cl [(re, .inr (3, [.ref rr, .ref rk])), (rr, .inl (cI, 12, .inl (upd (upd (upd (upd (fun _ => 0) (0 : Int32).toNatClampNeg 0) (1 : Int32).toNatClampNeg 0) (2 : Int32).toNatClampNeg 0) (3 : Int32).toNatClampNeg 0))), (rk, .inl (cZ, 12, .inl (upd (upd (upd (upd (fun _ => 0) (0 : Int32).toNatClampNeg (vp_nar .boolean 0)) (1 : Int32).toNatClampNeg (vp_nar .boolean 0)) (2 : Int32).toNatClampNeg (vp_nar .boolean 0)) (3 : Int32).toNatClampNeg (vp_nar .boolean 0))))] H := hP
  have hD : va_D A [(re, .inr (3, [.ref rr, .ref rk])), (rr, .inl (cI, 12, .inl (upd (upd (upd (upd (fun _ => 0) (0 : Int32).toNatClampNeg 0) (1 : Int32).toNatClampNeg 0) (2 : Int32).toNatClampNeg 0) (3 : Int32).toNatClampNeg 0))), (rk, .inl (cZ, 12, .inl (upd (upd (upd (upd (fun _ => 0) (0 : Int32).toNatClampNeg (vp_nar .boolean 0)) (1 : Int32).toNatClampNeg (vp_nar .boolean 0)) (2 : Int32).toNatClampNeg (vp_nar .boolean 0)) (3 : Int32).toNatClampNeg (vp_nar .boolean 0))))] := hD
  refine lv_iinc (k := 0) (v := 4) hx hb d_Re_forget_22 hl rfl (by decide) (by decide) rfl (fun ls hl => ?_)
  have hl : lv_has ls 2 [(1, .int 4), (0, .ref re)] := hl
  refine lv_goto (tgt := 2) hx hb d_Re_forget_25 (by decide) ?_
  refine lv_iload_n hx hb d_Re_forget_2 rfl (lv_at hl 0 rfl) ?_
  refine lv_bipush (v := 12) hx hb d_Re_forget_3 (by decide) ?_
  refine lv_icmp_ge (tgt := 28) hx hb d_Re_forget_5 (by decide) (fun b5 => absurd b5 (by decide)) (fun b5 => ?_)
  refine lv_aload_n hx hb d_Re_forget_8 rfl (lv_at hl 1 rfl) ?_
  refine va_get (D := D) (ci := 3) (v := .ref rr) (C := R_Re) (T := F_Re) (N := 2) hx hb hts (fun w h => List.mem_cons_of_mem _ (u_Re w h)) hown hK hP 0 rfl rfl 0 (by decide) (hts _ (List.mem_cons_of_mem _ tw_86)) (fun _ h9 => h9) rfl d_Re_forget_9 ?_
  refine lv_iload_n hx hb d_Re_forget_12 rfl (lv_at hl 0 rfl) ?_
  refine lv_iconst (v := 0) hx hb d_Re_forget_13 (by decide) ?_
  refine va_iast hx hb hK hP hD hS 1 0 rfl rfl (by unfold vp_in; decide) d_Re_forget_14 (fun H locs hP hD hS => ?_)
  have hP : va_P D cl [(re, .inr (3, [.ref rr, .ref rk])), (rr, .inl (cI, 12, .inl (upd (upd (upd (upd (upd (fun _ => 0) (0 : Int32).toNatClampNeg 0) (1 : Int32).toNatClampNeg 0) (2 : Int32).toNatClampNeg 0) (3 : Int32).toNatClampNeg 0) (4 : Int32).toNatClampNeg 0))), (rk, .inl (cZ, 12, .inl (upd (upd (upd (upd (fun _ => 0) (0 : Int32).toNatClampNeg (vp_nar .boolean 0)) (1 : Int32).toNatClampNeg (vp_nar .boolean 0)) (2 : Int32).toNatClampNeg (vp_nar .boolean 0)) (3 : Int32).toNatClampNeg (vp_nar .boolean 0))))] H := hP
  have hD : va_D A [(re, .inr (3, [.ref rr, .ref rk])), (rr, .inl (cI, 12, .inl (upd (upd (upd (upd (upd (fun _ => 0) (0 : Int32).toNatClampNeg 0) (1 : Int32).toNatClampNeg 0) (2 : Int32).toNatClampNeg 0) (3 : Int32).toNatClampNeg 0) (4 : Int32).toNatClampNeg 0))), (rk, .inl (cZ, 12, .inl (upd (upd (upd (upd (fun _ => 0) (0 : Int32).toNatClampNeg (vp_nar .boolean 0)) (1 : Int32).toNatClampNeg (vp_nar .boolean 0)) (2 : Int32).toNatClampNeg (vp_nar .boolean 0)) (3 : Int32).toNatClampNeg (vp_nar .boolean 0))))] := hD
  refine lv_aload_n hx hb d_Re_forget_15 rfl (lv_at hl 1 rfl) ?_
  refine va_get (D := D) (ci := 3) (v := .ref rk) (C := R_Re) (T := F_Re) (N := 2) hx hb hts (fun w h => List.mem_cons_of_mem _ (u_Re w h)) hown hK hP 0 rfl rfl 1 (by decide) (hts _ (List.mem_cons_of_mem _ tw_88)) (fun _ h9 => h9) rfl d_Re_forget_16 ?_
  refine lv_iload_n hx hb d_Re_forget_19 rfl (lv_at hl 0 rfl) ?_
  refine lv_iconst (v := 0) hx hb d_Re_forget_20 (by decide) ?_
  refine va_zast hx hb hK hP hD hS 2 1 rfl rfl (by unfold vp_in; decide) d_Re_forget_21 (fun H locs hP hD hS => ?_)
  have hP : va_P D cl [(re, .inr (3, [.ref rr, .ref rk])), (rr, .inl (cI, 12, .inl (upd (upd (upd (upd (upd (fun _ => 0) (0 : Int32).toNatClampNeg 0) (1 : Int32).toNatClampNeg 0) (2 : Int32).toNatClampNeg 0) (3 : Int32).toNatClampNeg 0) (4 : Int32).toNatClampNeg 0))), (rk, .inl (cZ, 12, .inl (upd (upd (upd (upd (upd (fun _ => 0) (0 : Int32).toNatClampNeg (vp_nar .boolean 0)) (1 : Int32).toNatClampNeg (vp_nar .boolean 0)) (2 : Int32).toNatClampNeg (vp_nar .boolean 0)) (3 : Int32).toNatClampNeg (vp_nar .boolean 0)) (4 : Int32).toNatClampNeg (vp_nar .boolean 0))))] H := hP
  have hD : va_D A [(re, .inr (3, [.ref rr, .ref rk])), (rr, .inl (cI, 12, .inl (upd (upd (upd (upd (upd (fun _ => 0) (0 : Int32).toNatClampNeg 0) (1 : Int32).toNatClampNeg 0) (2 : Int32).toNatClampNeg 0) (3 : Int32).toNatClampNeg 0) (4 : Int32).toNatClampNeg 0))), (rk, .inl (cZ, 12, .inl (upd (upd (upd (upd (upd (fun _ => 0) (0 : Int32).toNatClampNeg (vp_nar .boolean 0)) (1 : Int32).toNatClampNeg (vp_nar .boolean 0)) (2 : Int32).toNatClampNeg (vp_nar .boolean 0)) (3 : Int32).toNatClampNeg (vp_nar .boolean 0)) (4 : Int32).toNatClampNeg (vp_nar .boolean 0))))] := hD
  refine lv_iinc (k := 0) (v := 5) hx hb d_Re_forget_22 hl rfl (by decide) (by decide) rfl (fun ls hl => ?_)
  have hl : lv_has ls 2 [(1, .int 5), (0, .ref re)] := hl
  refine lv_goto (tgt := 2) hx hb d_Re_forget_25 (by decide) ?_
  refine lv_iload_n hx hb d_Re_forget_2 rfl (lv_at hl 0 rfl) ?_
  refine lv_bipush (v := 12) hx hb d_Re_forget_3 (by decide) ?_
  refine lv_icmp_ge (tgt := 28) hx hb d_Re_forget_5 (by decide) (fun b5 => absurd b5 (by decide)) (fun b5 => ?_)
  refine lv_aload_n hx hb d_Re_forget_8 rfl (lv_at hl 1 rfl) ?_
  refine va_get (D := D) (ci := 3) (v := .ref rr) (C := R_Re) (T := F_Re) (N := 2) hx hb hts (fun w h => List.mem_cons_of_mem _ (u_Re w h)) hown hK hP 0 rfl rfl 0 (by decide) (hts _ (List.mem_cons_of_mem _ tw_86)) (fun _ h9 => h9) rfl d_Re_forget_9 ?_
  refine lv_iload_n hx hb d_Re_forget_12 rfl (lv_at hl 0 rfl) ?_
  refine lv_iconst (v := 0) hx hb d_Re_forget_13 (by decide) ?_
  refine va_iast hx hb hK hP hD hS 1 0 rfl rfl (by unfold vp_in; decide) d_Re_forget_14 (fun H locs hP hD hS => ?_)
  have hP : va_P D cl [(re, .inr (3, [.ref rr, .ref rk])), (rr, .inl (cI, 12, .inl (upd (upd (upd (upd (upd (upd (fun _ => 0) (0 : Int32).toNatClampNeg 0) (1 : Int32).toNatClampNeg 0) (2 : Int32).toNatClampNeg 0) (3 : Int32).toNatClampNeg 0) (4 : Int32).toNatClampNeg 0) (5 : Int32).toNatClampNeg 0))), (rk, .inl (cZ, 12, .inl (upd (upd (upd (upd (upd (fun _ => 0) (0 : Int32).toNatClampNeg (vp_nar .boolean 0)) (1 : Int32).toNatClampNeg (vp_nar .boolean 0)) (2 : Int32).toNatClampNeg (vp_nar .boolean 0)) (3 : Int32).toNatClampNeg (vp_nar .boolean 0)) (4 : Int32).toNatClampNeg (vp_nar .boolean 0))))] H := hP
  have hD : va_D A [(re, .inr (3, [.ref rr, .ref rk])), (rr, .inl (cI, 12, .inl (upd (upd (upd (upd (upd (upd (fun _ => 0) (0 : Int32).toNatClampNeg 0) (1 : Int32).toNatClampNeg 0) (2 : Int32).toNatClampNeg 0) (3 : Int32).toNatClampNeg 0) (4 : Int32).toNatClampNeg 0) (5 : Int32).toNatClampNeg 0))), (rk, .inl (cZ, 12, .inl (upd (upd (upd (upd (upd (fun _ => 0) (0 : Int32).toNatClampNeg (vp_nar .boolean 0)) (1 : Int32).toNatClampNeg (vp_nar .boolean 0)) (2 : Int32).toNatClampNeg (vp_nar .boolean 0)) (3 : Int32).toNatClampNeg (vp_nar .boolean 0)) (4 : Int32).toNatClampNeg (vp_nar .boolean 0))))] := hD
  refine lv_aload_n hx hb d_Re_forget_15 rfl (lv_at hl 1 rfl) ?_
  refine va_get (D := D) (ci := 3) (v := .ref rk) (C := R_Re) (T := F_Re) (N := 2) hx hb hts (fun w h => List.mem_cons_of_mem _ (u_Re w h)) hown hK hP 0 rfl rfl 1 (by decide) (hts _ (List.mem_cons_of_mem _ tw_88)) (fun _ h9 => h9) rfl d_Re_forget_16 ?_
  refine lv_iload_n hx hb d_Re_forget_19 rfl (lv_at hl 0 rfl) ?_
  refine lv_iconst (v := 0) hx hb d_Re_forget_20 (by decide) ?_
  refine va_zast hx hb hK hP hD hS 2 1 rfl rfl (by unfold vp_in; decide) d_Re_forget_21 (fun H locs hP hD hS => ?_)
  have hP : va_P D cl [(re, .inr (3, [.ref rr, .ref rk])), (rr, .inl (cI, 12, .inl (upd (upd (upd (upd (upd (upd (fun _ => 0) (0 : Int32).toNatClampNeg 0) (1 : Int32).toNatClampNeg 0) (2 : Int32).toNatClampNeg 0) (3 : Int32).toNatClampNeg 0) (4 : Int32).toNatClampNeg 0) (5 : Int32).toNatClampNeg 0))), (rk, .inl (cZ, 12, .inl (upd (upd (upd (upd (upd (upd (fun _ => 0) (0 : Int32).toNatClampNeg (vp_nar .boolean 0)) (1 : Int32).toNatClampNeg (vp_nar .boolean 0)) (2 : Int32).toNatClampNeg (vp_nar .boolean 0)) (3 : Int32).toNatClampNeg (vp_nar .boolean 0)) (4 : Int32).toNatClampNeg (vp_nar .boolean 0)) (5 : Int32).toNatClampNeg (vp_nar .boolean 0))))] H := hP
  have hD : va_D A [(re, .inr (3, [.ref rr, .ref rk])), (rr, .inl (cI, 12, .inl (upd (upd (upd (upd (upd (upd (fun _ => 0) (0 : Int32).toNatClampNeg 0) (1 : Int32).toNatClampNeg 0) (2 : Int32).toNatClampNeg 0) (3 : Int32).toNatClampNeg 0) (4 : Int32).toNatClampNeg 0) (5 : Int32).toNatClampNeg 0))), (rk, .inl (cZ, 12, .inl (upd (upd (upd (upd (upd (upd (fun _ => 0) (0 : Int32).toNatClampNeg (vp_nar .boolean 0)) (1 : Int32).toNatClampNeg (vp_nar .boolean 0)) (2 : Int32).toNatClampNeg (vp_nar .boolean 0)) (3 : Int32).toNatClampNeg (vp_nar .boolean 0)) (4 : Int32).toNatClampNeg (vp_nar .boolean 0)) (5 : Int32).toNatClampNeg (vp_nar .boolean 0))))] := hD
  refine lv_iinc (k := 0) (v := 6) hx hb d_Re_forget_22 hl rfl (by decide) (by decide) rfl (fun ls hl => ?_)
  have hl : lv_has ls 2 [(1, .int 6), (0, .ref re)] := hl
  refine lv_goto (tgt := 2) hx hb d_Re_forget_25 (by decide) ?_
  refine lv_iload_n hx hb d_Re_forget_2 rfl (lv_at hl 0 rfl) ?_
  refine lv_bipush (v := 12) hx hb d_Re_forget_3 (by decide) ?_
  refine lv_icmp_ge (tgt := 28) hx hb d_Re_forget_5 (by decide) (fun b5 => absurd b5 (by decide)) (fun b5 => ?_)
  refine lv_aload_n hx hb d_Re_forget_8 rfl (lv_at hl 1 rfl) ?_
  refine va_get (D := D) (ci := 3) (v := .ref rr) (C := R_Re) (T := F_Re) (N := 2) hx hb hts (fun w h => List.mem_cons_of_mem _ (u_Re w h)) hown hK hP 0 rfl rfl 0 (by decide) (hts _ (List.mem_cons_of_mem _ tw_86)) (fun _ h9 => h9) rfl d_Re_forget_9 ?_
  refine lv_iload_n hx hb d_Re_forget_12 rfl (lv_at hl 0 rfl) ?_
  refine lv_iconst (v := 0) hx hb d_Re_forget_13 (by decide) ?_
  refine va_iast hx hb hK hP hD hS 1 0 rfl rfl (by unfold vp_in; decide) d_Re_forget_14 (fun H locs hP hD hS => ?_)
  have hP : va_P D cl [(re, .inr (3, [.ref rr, .ref rk])), (rr, .inl (cI, 12, .inl (upd (upd (upd (upd (upd (upd (upd (fun _ => 0) (0 : Int32).toNatClampNeg 0) (1 : Int32).toNatClampNeg 0) (2 : Int32).toNatClampNeg 0) (3 : Int32).toNatClampNeg 0) (4 : Int32).toNatClampNeg 0) (5 : Int32).toNatClampNeg 0) (6 : Int32).toNatClampNeg 0))), (rk, .inl (cZ, 12, .inl (upd (upd (upd (upd (upd (upd (fun _ => 0) (0 : Int32).toNatClampNeg (vp_nar .boolean 0)) (1 : Int32).toNatClampNeg (vp_nar .boolean 0)) (2 : Int32).toNatClampNeg (vp_nar .boolean 0)) (3 : Int32).toNatClampNeg (vp_nar .boolean 0)) (4 : Int32).toNatClampNeg (vp_nar .boolean 0)) (5 : Int32).toNatClampNeg (vp_nar .boolean 0))))] H := hP
  have hD : va_D A [(re, .inr (3, [.ref rr, .ref rk])), (rr, .inl (cI, 12, .inl (upd (upd (upd (upd (upd (upd (upd (fun _ => 0) (0 : Int32).toNatClampNeg 0) (1 : Int32).toNatClampNeg 0) (2 : Int32).toNatClampNeg 0) (3 : Int32).toNatClampNeg 0) (4 : Int32).toNatClampNeg 0) (5 : Int32).toNatClampNeg 0) (6 : Int32).toNatClampNeg 0))), (rk, .inl (cZ, 12, .inl (upd (upd (upd (upd (upd (upd (fun _ => 0) (0 : Int32).toNatClampNeg (vp_nar .boolean 0)) (1 : Int32).toNatClampNeg (vp_nar .boolean 0)) (2 : Int32).toNatClampNeg (vp_nar .boolean 0)) (3 : Int32).toNatClampNeg (vp_nar .boolean 0)) (4 : Int32).toNatClampNeg (vp_nar .boolean 0)) (5 : Int32).toNatClampNeg (vp_nar .boolean 0))))] := hD
  refine lv_aload_n hx hb d_Re_forget_15 rfl (lv_at hl 1 rfl) ?_
  refine va_get (D := D) (ci := 3) (v := .ref rk) (C := R_Re) (T := F_Re) (N := 2) hx hb hts (fun w h => List.mem_cons_of_mem _ (u_Re w h)) hown hK hP 0 rfl rfl 1 (by decide) (hts _ (List.mem_cons_of_mem _ tw_88)) (fun _ h9 => h9) rfl d_Re_forget_16 ?_
  refine lv_iload_n hx hb d_Re_forget_19 rfl (lv_at hl 0 rfl) ?_
  refine lv_iconst (v := 0) hx hb d_Re_forget_20 (by decide) ?_
  refine va_zast hx hb hK hP hD hS 2 1 rfl rfl (by unfold vp_in; decide) d_Re_forget_21 (fun H locs hP hD hS => ?_)
  have hP : va_P D cl [(re, .inr (3, [.ref rr, .ref rk])), (rr, .inl (cI, 12, .inl (upd (upd (upd (upd (upd (upd (upd (fun _ => 0) (0 : Int32).toNatClampNeg 0) (1 : Int32).toNatClampNeg 0) (2 : Int32).toNatClampNeg 0) (3 : Int32).toNatClampNeg 0) (4 : Int32).toNatClampNeg 0) (5 : Int32).toNatClampNeg 0) (6 : Int32).toNatClampNeg 0))), (rk, .inl (cZ, 12, .inl (upd (upd (upd (upd (upd (upd (upd (fun _ => 0) (0 : Int32).toNatClampNeg (vp_nar .boolean 0)) (1 : Int32).toNatClampNeg (vp_nar .boolean 0)) (2 : Int32).toNatClampNeg (vp_nar .boolean 0)) (3 : Int32).toNatClampNeg (vp_nar .boolean 0)) (4 : Int32).toNatClampNeg (vp_nar .boolean 0)) (5 : Int32).toNatClampNeg (vp_nar .boolean 0)) (6 : Int32).toNatClampNeg (vp_nar .boolean 0))))] H := hP
  have hD : va_D A [(re, .inr (3, [.ref rr, .ref rk])), (rr, .inl (cI, 12, .inl (upd (upd (upd (upd (upd (upd (upd (fun _ => 0) (0 : Int32).toNatClampNeg 0) (1 : Int32).toNatClampNeg 0) (2 : Int32).toNatClampNeg 0) (3 : Int32).toNatClampNeg 0) (4 : Int32).toNatClampNeg 0) (5 : Int32).toNatClampNeg 0) (6 : Int32).toNatClampNeg 0))), (rk, .inl (cZ, 12, .inl (upd (upd (upd (upd (upd (upd (upd (fun _ => 0) (0 : Int32).toNatClampNeg (vp_nar .boolean 0)) (1 : Int32).toNatClampNeg (vp_nar .boolean 0)) (2 : Int32).toNatClampNeg (vp_nar .boolean 0)) (3 : Int32).toNatClampNeg (vp_nar .boolean 0)) (4 : Int32).toNatClampNeg (vp_nar .boolean 0)) (5 : Int32).toNatClampNeg (vp_nar .boolean 0)) (6 : Int32).toNatClampNeg (vp_nar .boolean 0))))] := hD
  refine lv_iinc (k := 0) (v := 7) hx hb d_Re_forget_22 hl rfl (by decide) (by decide) rfl (fun ls hl => ?_)
  have hl : lv_has ls 2 [(1, .int 7), (0, .ref re)] := hl
  refine lv_goto (tgt := 2) hx hb d_Re_forget_25 (by decide) ?_
  refine lv_iload_n hx hb d_Re_forget_2 rfl (lv_at hl 0 rfl) ?_
  refine lv_bipush (v := 12) hx hb d_Re_forget_3 (by decide) ?_
  refine lv_icmp_ge (tgt := 28) hx hb d_Re_forget_5 (by decide) (fun b5 => absurd b5 (by decide)) (fun b5 => ?_)
  refine lv_aload_n hx hb d_Re_forget_8 rfl (lv_at hl 1 rfl) ?_
  refine va_get (D := D) (ci := 3) (v := .ref rr) (C := R_Re) (T := F_Re) (N := 2) hx hb hts (fun w h => List.mem_cons_of_mem _ (u_Re w h)) hown hK hP 0 rfl rfl 0 (by decide) (hts _ (List.mem_cons_of_mem _ tw_86)) (fun _ h9 => h9) rfl d_Re_forget_9 ?_
  refine lv_iload_n hx hb d_Re_forget_12 rfl (lv_at hl 0 rfl) ?_
  refine lv_iconst (v := 0) hx hb d_Re_forget_13 (by decide) ?_
  refine va_iast hx hb hK hP hD hS 1 0 rfl rfl (by unfold vp_in; decide) d_Re_forget_14 (fun H locs hP hD hS => ?_)
  have hP : va_P D cl [(re, .inr (3, [.ref rr, .ref rk])), (rr, .inl (cI, 12, .inl (upd (upd (upd (upd (upd (upd (upd (upd (fun _ => 0) (0 : Int32).toNatClampNeg 0) (1 : Int32).toNatClampNeg 0) (2 : Int32).toNatClampNeg 0) (3 : Int32).toNatClampNeg 0) (4 : Int32).toNatClampNeg 0) (5 : Int32).toNatClampNeg 0) (6 : Int32).toNatClampNeg 0) (7 : Int32).toNatClampNeg 0))), (rk, .inl (cZ, 12, .inl (upd (upd (upd (upd (upd (upd (upd (fun _ => 0) (0 : Int32).toNatClampNeg (vp_nar .boolean 0)) (1 : Int32).toNatClampNeg (vp_nar .boolean 0)) (2 : Int32).toNatClampNeg (vp_nar .boolean 0)) (3 : Int32).toNatClampNeg (vp_nar .boolean 0)) (4 : Int32).toNatClampNeg (vp_nar .boolean 0)) (5 : Int32).toNatClampNeg (vp_nar .boolean 0)) (6 : Int32).toNatClampNeg (vp_nar .boolean 0))))] H := hP
  have hD : va_D A [(re, .inr (3, [.ref rr, .ref rk])), (rr, .inl (cI, 12, .inl (upd (upd (upd (upd (upd (upd (upd (upd (fun _ => 0) (0 : Int32).toNatClampNeg 0) (1 : Int32).toNatClampNeg 0) (2 : Int32).toNatClampNeg 0) (3 : Int32).toNatClampNeg 0) (4 : Int32).toNatClampNeg 0) (5 : Int32).toNatClampNeg 0) (6 : Int32).toNatClampNeg 0) (7 : Int32).toNatClampNeg 0))), (rk, .inl (cZ, 12, .inl (upd (upd (upd (upd (upd (upd (upd (fun _ => 0) (0 : Int32).toNatClampNeg (vp_nar .boolean 0)) (1 : Int32).toNatClampNeg (vp_nar .boolean 0)) (2 : Int32).toNatClampNeg (vp_nar .boolean 0)) (3 : Int32).toNatClampNeg (vp_nar .boolean 0)) (4 : Int32).toNatClampNeg (vp_nar .boolean 0)) (5 : Int32).toNatClampNeg (vp_nar .boolean 0)) (6 : Int32).toNatClampNeg (vp_nar .boolean 0))))] := hD
  refine lv_aload_n hx hb d_Re_forget_15 rfl (lv_at hl 1 rfl) ?_
  refine va_get (D := D) (ci := 3) (v := .ref rk) (C := R_Re) (T := F_Re) (N := 2) hx hb hts (fun w h => List.mem_cons_of_mem _ (u_Re w h)) hown hK hP 0 rfl rfl 1 (by decide) (hts _ (List.mem_cons_of_mem _ tw_88)) (fun _ h9 => h9) rfl d_Re_forget_16 ?_
  refine lv_iload_n hx hb d_Re_forget_19 rfl (lv_at hl 0 rfl) ?_
  refine lv_iconst (v := 0) hx hb d_Re_forget_20 (by decide) ?_
  refine va_zast hx hb hK hP hD hS 2 1 rfl rfl (by unfold vp_in; decide) d_Re_forget_21 (fun H locs hP hD hS => ?_)
  have hP : va_P D cl [(re, .inr (3, [.ref rr, .ref rk])), (rr, .inl (cI, 12, .inl (upd (upd (upd (upd (upd (upd (upd (upd (fun _ => 0) (0 : Int32).toNatClampNeg 0) (1 : Int32).toNatClampNeg 0) (2 : Int32).toNatClampNeg 0) (3 : Int32).toNatClampNeg 0) (4 : Int32).toNatClampNeg 0) (5 : Int32).toNatClampNeg 0) (6 : Int32).toNatClampNeg 0) (7 : Int32).toNatClampNeg 0))), (rk, .inl (cZ, 12, .inl (upd (upd (upd (upd (upd (upd (upd (upd (fun _ => 0) (0 : Int32).toNatClampNeg (vp_nar .boolean 0)) (1 : Int32).toNatClampNeg (vp_nar .boolean 0)) (2 : Int32).toNatClampNeg (vp_nar .boolean 0)) (3 : Int32).toNatClampNeg (vp_nar .boolean 0)) (4 : Int32).toNatClampNeg (vp_nar .boolean 0)) (5 : Int32).toNatClampNeg (vp_nar .boolean 0)) (6 : Int32).toNatClampNeg (vp_nar .boolean 0)) (7 : Int32).toNatClampNeg (vp_nar .boolean 0))))] H := hP
  have hD : va_D A [(re, .inr (3, [.ref rr, .ref rk])), (rr, .inl (cI, 12, .inl (upd (upd (upd (upd (upd (upd (upd (upd (fun _ => 0) (0 : Int32).toNatClampNeg 0) (1 : Int32).toNatClampNeg 0) (2 : Int32).toNatClampNeg 0) (3 : Int32).toNatClampNeg 0) (4 : Int32).toNatClampNeg 0) (5 : Int32).toNatClampNeg 0) (6 : Int32).toNatClampNeg 0) (7 : Int32).toNatClampNeg 0))), (rk, .inl (cZ, 12, .inl (upd (upd (upd (upd (upd (upd (upd (upd (fun _ => 0) (0 : Int32).toNatClampNeg (vp_nar .boolean 0)) (1 : Int32).toNatClampNeg (vp_nar .boolean 0)) (2 : Int32).toNatClampNeg (vp_nar .boolean 0)) (3 : Int32).toNatClampNeg (vp_nar .boolean 0)) (4 : Int32).toNatClampNeg (vp_nar .boolean 0)) (5 : Int32).toNatClampNeg (vp_nar .boolean 0)) (6 : Int32).toNatClampNeg (vp_nar .boolean 0)) (7 : Int32).toNatClampNeg (vp_nar .boolean 0))))] := hD
  refine lv_iinc (k := 0) (v := 8) hx hb d_Re_forget_22 hl rfl (by decide) (by decide) rfl (fun ls hl => ?_)
  have hl : lv_has ls 2 [(1, .int 8), (0, .ref re)] := hl
  refine lv_goto (tgt := 2) hx hb d_Re_forget_25 (by decide) ?_
  refine lv_iload_n hx hb d_Re_forget_2 rfl (lv_at hl 0 rfl) ?_
  refine lv_bipush (v := 12) hx hb d_Re_forget_3 (by decide) ?_
  refine lv_icmp_ge (tgt := 28) hx hb d_Re_forget_5 (by decide) (fun b5 => absurd b5 (by decide)) (fun b5 => ?_)
  refine lv_aload_n hx hb d_Re_forget_8 rfl (lv_at hl 1 rfl) ?_
  refine va_get (D := D) (ci := 3) (v := .ref rr) (C := R_Re) (T := F_Re) (N := 2) hx hb hts (fun w h => List.mem_cons_of_mem _ (u_Re w h)) hown hK hP 0 rfl rfl 0 (by decide) (hts _ (List.mem_cons_of_mem _ tw_86)) (fun _ h9 => h9) rfl d_Re_forget_9 ?_
  refine lv_iload_n hx hb d_Re_forget_12 rfl (lv_at hl 0 rfl) ?_
  refine lv_iconst (v := 0) hx hb d_Re_forget_13 (by decide) ?_
  refine va_iast hx hb hK hP hD hS 1 0 rfl rfl (by unfold vp_in; decide) d_Re_forget_14 (fun H locs hP hD hS => ?_)
  have hP : va_P D cl [(re, .inr (3, [.ref rr, .ref rk])), (rr, .inl (cI, 12, .inl (upd (upd (upd (upd (upd (upd (upd (upd (upd (fun _ => 0) (0 : Int32).toNatClampNeg 0) (1 : Int32).toNatClampNeg 0) (2 : Int32).toNatClampNeg 0) (3 : Int32).toNatClampNeg 0) (4 : Int32).toNatClampNeg 0) (5 : Int32).toNatClampNeg 0) (6 : Int32).toNatClampNeg 0) (7 : Int32).toNatClampNeg 0) (8 : Int32).toNatClampNeg 0))), (rk, .inl (cZ, 12, .inl (upd (upd (upd (upd (upd (upd (upd (upd (fun _ => 0) (0 : Int32).toNatClampNeg (vp_nar .boolean 0)) (1 : Int32).toNatClampNeg (vp_nar .boolean 0)) (2 : Int32).toNatClampNeg (vp_nar .boolean 0)) (3 : Int32).toNatClampNeg (vp_nar .boolean 0)) (4 : Int32).toNatClampNeg (vp_nar .boolean 0)) (5 : Int32).toNatClampNeg (vp_nar .boolean 0)) (6 : Int32).toNatClampNeg (vp_nar .boolean 0)) (7 : Int32).toNatClampNeg (vp_nar .boolean 0))))] H := hP
  have hD : va_D A [(re, .inr (3, [.ref rr, .ref rk])), (rr, .inl (cI, 12, .inl (upd (upd (upd (upd (upd (upd (upd (upd (upd (fun _ => 0) (0 : Int32).toNatClampNeg 0) (1 : Int32).toNatClampNeg 0) (2 : Int32).toNatClampNeg 0) (3 : Int32).toNatClampNeg 0) (4 : Int32).toNatClampNeg 0) (5 : Int32).toNatClampNeg 0) (6 : Int32).toNatClampNeg 0) (7 : Int32).toNatClampNeg 0) (8 : Int32).toNatClampNeg 0))), (rk, .inl (cZ, 12, .inl (upd (upd (upd (upd (upd (upd (upd (upd (fun _ => 0) (0 : Int32).toNatClampNeg (vp_nar .boolean 0)) (1 : Int32).toNatClampNeg (vp_nar .boolean 0)) (2 : Int32).toNatClampNeg (vp_nar .boolean 0)) (3 : Int32).toNatClampNeg (vp_nar .boolean 0)) (4 : Int32).toNatClampNeg (vp_nar .boolean 0)) (5 : Int32).toNatClampNeg (vp_nar .boolean 0)) (6 : Int32).toNatClampNeg (vp_nar .boolean 0)) (7 : Int32).toNatClampNeg (vp_nar .boolean 0))))] := hD
  refine lv_aload_n hx hb d_Re_forget_15 rfl (lv_at hl 1 rfl) ?_
  refine va_get (D := D) (ci := 3) (v := .ref rk) (C := R_Re) (T := F_Re) (N := 2) hx hb hts (fun w h => List.mem_cons_of_mem _ (u_Re w h)) hown hK hP 0 rfl rfl 1 (by decide) (hts _ (List.mem_cons_of_mem _ tw_88)) (fun _ h9 => h9) rfl d_Re_forget_16 ?_
  refine lv_iload_n hx hb d_Re_forget_19 rfl (lv_at hl 0 rfl) ?_
  refine lv_iconst (v := 0) hx hb d_Re_forget_20 (by decide) ?_
  refine va_zast hx hb hK hP hD hS 2 1 rfl rfl (by unfold vp_in; decide) d_Re_forget_21 (fun H locs hP hD hS => ?_)
  have hP : va_P D cl [(re, .inr (3, [.ref rr, .ref rk])), (rr, .inl (cI, 12, .inl (upd (upd (upd (upd (upd (upd (upd (upd (upd (fun _ => 0) (0 : Int32).toNatClampNeg 0) (1 : Int32).toNatClampNeg 0) (2 : Int32).toNatClampNeg 0) (3 : Int32).toNatClampNeg 0) (4 : Int32).toNatClampNeg 0) (5 : Int32).toNatClampNeg 0) (6 : Int32).toNatClampNeg 0) (7 : Int32).toNatClampNeg 0) (8 : Int32).toNatClampNeg 0))), (rk, .inl (cZ, 12, .inl (upd (upd (upd (upd (upd (upd (upd (upd (upd (fun _ => 0) (0 : Int32).toNatClampNeg (vp_nar .boolean 0)) (1 : Int32).toNatClampNeg (vp_nar .boolean 0)) (2 : Int32).toNatClampNeg (vp_nar .boolean 0)) (3 : Int32).toNatClampNeg (vp_nar .boolean 0)) (4 : Int32).toNatClampNeg (vp_nar .boolean 0)) (5 : Int32).toNatClampNeg (vp_nar .boolean 0)) (6 : Int32).toNatClampNeg (vp_nar .boolean 0)) (7 : Int32).toNatClampNeg (vp_nar .boolean 0)) (8 : Int32).toNatClampNeg (vp_nar .boolean 0))))] H := hP
  have hD : va_D A [(re, .inr (3, [.ref rr, .ref rk])), (rr, .inl (cI, 12, .inl (upd (upd (upd (upd (upd (upd (upd (upd (upd (fun _ => 0) (0 : Int32).toNatClampNeg 0) (1 : Int32).toNatClampNeg 0) (2 : Int32).toNatClampNeg 0) (3 : Int32).toNatClampNeg 0) (4 : Int32).toNatClampNeg 0) (5 : Int32).toNatClampNeg 0) (6 : Int32).toNatClampNeg 0) (7 : Int32).toNatClampNeg 0) (8 : Int32).toNatClampNeg 0))), (rk, .inl (cZ, 12, .inl (upd (upd (upd (upd (upd (upd (upd (upd (upd (fun _ => 0) (0 : Int32).toNatClampNeg (vp_nar .boolean 0)) (1 : Int32).toNatClampNeg (vp_nar .boolean 0)) (2 : Int32).toNatClampNeg (vp_nar .boolean 0)) (3 : Int32).toNatClampNeg (vp_nar .boolean 0)) (4 : Int32).toNatClampNeg (vp_nar .boolean 0)) (5 : Int32).toNatClampNeg (vp_nar .boolean 0)) (6 : Int32).toNatClampNeg (vp_nar .boolean 0)) (7 : Int32).toNatClampNeg (vp_nar .boolean 0)) (8 : Int32).toNatClampNeg (vp_nar .boolean 0))))] := hD
  refine lv_iinc (k := 0) (v := 9) hx hb d_Re_forget_22 hl rfl (by decide) (by decide) rfl (fun ls hl => ?_)
  have hl : lv_has ls 2 [(1, .int 9), (0, .ref re)] := hl
  refine lv_goto (tgt := 2) hx hb d_Re_forget_25 (by decide) ?_
  refine lv_iload_n hx hb d_Re_forget_2 rfl (lv_at hl 0 rfl) ?_
  refine lv_bipush (v := 12) hx hb d_Re_forget_3 (by decide) ?_
  refine lv_icmp_ge (tgt := 28) hx hb d_Re_forget_5 (by decide) (fun b5 => absurd b5 (by decide)) (fun b5 => ?_)
  refine lv_aload_n hx hb d_Re_forget_8 rfl (lv_at hl 1 rfl) ?_
  refine va_get (D := D) (ci := 3) (v := .ref rr) (C := R_Re) (T := F_Re) (N := 2) hx hb hts (fun w h => List.mem_cons_of_mem _ (u_Re w h)) hown hK hP 0 rfl rfl 0 (by decide) (hts _ (List.mem_cons_of_mem _ tw_86)) (fun _ h9 => h9) rfl d_Re_forget_9 ?_
  refine lv_iload_n hx hb d_Re_forget_12 rfl (lv_at hl 0 rfl) ?_
  refine lv_iconst (v := 0) hx hb d_Re_forget_13 (by decide) ?_
  refine va_iast hx hb hK hP hD hS 1 0 rfl rfl (by unfold vp_in; decide) d_Re_forget_14 (fun H locs hP hD hS => ?_)
  have hP : va_P D cl [(re, .inr (3, [.ref rr, .ref rk])), (rr, .inl (cI, 12, .inl (upd (upd (upd (upd (upd (upd (upd (upd (upd (upd (fun _ => 0) (0 : Int32).toNatClampNeg 0) (1 : Int32).toNatClampNeg 0) (2 : Int32).toNatClampNeg 0) (3 : Int32).toNatClampNeg 0) (4 : Int32).toNatClampNeg 0) (5 : Int32).toNatClampNeg 0) (6 : Int32).toNatClampNeg 0) (7 : Int32).toNatClampNeg 0) (8 : Int32).toNatClampNeg 0) (9 : Int32).toNatClampNeg 0))), (rk, .inl (cZ, 12, .inl (upd (upd (upd (upd (upd (upd (upd (upd (upd (fun _ => 0) (0 : Int32).toNatClampNeg (vp_nar .boolean 0)) (1 : Int32).toNatClampNeg (vp_nar .boolean 0)) (2 : Int32).toNatClampNeg (vp_nar .boolean 0)) (3 : Int32).toNatClampNeg (vp_nar .boolean 0)) (4 : Int32).toNatClampNeg (vp_nar .boolean 0)) (5 : Int32).toNatClampNeg (vp_nar .boolean 0)) (6 : Int32).toNatClampNeg (vp_nar .boolean 0)) (7 : Int32).toNatClampNeg (vp_nar .boolean 0)) (8 : Int32).toNatClampNeg (vp_nar .boolean 0))))] H := hP
  have hD : va_D A [(re, .inr (3, [.ref rr, .ref rk])), (rr, .inl (cI, 12, .inl (upd (upd (upd (upd (upd (upd (upd (upd (upd (upd (fun _ => 0) (0 : Int32).toNatClampNeg 0) (1 : Int32).toNatClampNeg 0) (2 : Int32).toNatClampNeg 0) (3 : Int32).toNatClampNeg 0) (4 : Int32).toNatClampNeg 0) (5 : Int32).toNatClampNeg 0) (6 : Int32).toNatClampNeg 0) (7 : Int32).toNatClampNeg 0) (8 : Int32).toNatClampNeg 0) (9 : Int32).toNatClampNeg 0))), (rk, .inl (cZ, 12, .inl (upd (upd (upd (upd (upd (upd (upd (upd (upd (fun _ => 0) (0 : Int32).toNatClampNeg (vp_nar .boolean 0)) (1 : Int32).toNatClampNeg (vp_nar .boolean 0)) (2 : Int32).toNatClampNeg (vp_nar .boolean 0)) (3 : Int32).toNatClampNeg (vp_nar .boolean 0)) (4 : Int32).toNatClampNeg (vp_nar .boolean 0)) (5 : Int32).toNatClampNeg (vp_nar .boolean 0)) (6 : Int32).toNatClampNeg (vp_nar .boolean 0)) (7 : Int32).toNatClampNeg (vp_nar .boolean 0)) (8 : Int32).toNatClampNeg (vp_nar .boolean 0))))] := hD
  refine lv_aload_n hx hb d_Re_forget_15 rfl (lv_at hl 1 rfl) ?_
  refine va_get (D := D) (ci := 3) (v := .ref rk) (C := R_Re) (T := F_Re) (N := 2) hx hb hts (fun w h => List.mem_cons_of_mem _ (u_Re w h)) hown hK hP 0 rfl rfl 1 (by decide) (hts _ (List.mem_cons_of_mem _ tw_88)) (fun _ h9 => h9) rfl d_Re_forget_16 ?_
  refine lv_iload_n hx hb d_Re_forget_19 rfl (lv_at hl 0 rfl) ?_
  refine lv_iconst (v := 0) hx hb d_Re_forget_20 (by decide) ?_
  refine va_zast hx hb hK hP hD hS 2 1 rfl rfl (by unfold vp_in; decide) d_Re_forget_21 (fun H locs hP hD hS => ?_)
  have hP : va_P D cl [(re, .inr (3, [.ref rr, .ref rk])), (rr, .inl (cI, 12, .inl (upd (upd (upd (upd (upd (upd (upd (upd (upd (upd (fun _ => 0) (0 : Int32).toNatClampNeg 0) (1 : Int32).toNatClampNeg 0) (2 : Int32).toNatClampNeg 0) (3 : Int32).toNatClampNeg 0) (4 : Int32).toNatClampNeg 0) (5 : Int32).toNatClampNeg 0) (6 : Int32).toNatClampNeg 0) (7 : Int32).toNatClampNeg 0) (8 : Int32).toNatClampNeg 0) (9 : Int32).toNatClampNeg 0))), (rk, .inl (cZ, 12, .inl (upd (upd (upd (upd (upd (upd (upd (upd (upd (upd (fun _ => 0) (0 : Int32).toNatClampNeg (vp_nar .boolean 0)) (1 : Int32).toNatClampNeg (vp_nar .boolean 0)) (2 : Int32).toNatClampNeg (vp_nar .boolean 0)) (3 : Int32).toNatClampNeg (vp_nar .boolean 0)) (4 : Int32).toNatClampNeg (vp_nar .boolean 0)) (5 : Int32).toNatClampNeg (vp_nar .boolean 0)) (6 : Int32).toNatClampNeg (vp_nar .boolean 0)) (7 : Int32).toNatClampNeg (vp_nar .boolean 0)) (8 : Int32).toNatClampNeg (vp_nar .boolean 0)) (9 : Int32).toNatClampNeg (vp_nar .boolean 0))))] H := hP
  have hD : va_D A [(re, .inr (3, [.ref rr, .ref rk])), (rr, .inl (cI, 12, .inl (upd (upd (upd (upd (upd (upd (upd (upd (upd (upd (fun _ => 0) (0 : Int32).toNatClampNeg 0) (1 : Int32).toNatClampNeg 0) (2 : Int32).toNatClampNeg 0) (3 : Int32).toNatClampNeg 0) (4 : Int32).toNatClampNeg 0) (5 : Int32).toNatClampNeg 0) (6 : Int32).toNatClampNeg 0) (7 : Int32).toNatClampNeg 0) (8 : Int32).toNatClampNeg 0) (9 : Int32).toNatClampNeg 0))), (rk, .inl (cZ, 12, .inl (upd (upd (upd (upd (upd (upd (upd (upd (upd (upd (fun _ => 0) (0 : Int32).toNatClampNeg (vp_nar .boolean 0)) (1 : Int32).toNatClampNeg (vp_nar .boolean 0)) (2 : Int32).toNatClampNeg (vp_nar .boolean 0)) (3 : Int32).toNatClampNeg (vp_nar .boolean 0)) (4 : Int32).toNatClampNeg (vp_nar .boolean 0)) (5 : Int32).toNatClampNeg (vp_nar .boolean 0)) (6 : Int32).toNatClampNeg (vp_nar .boolean 0)) (7 : Int32).toNatClampNeg (vp_nar .boolean 0)) (8 : Int32).toNatClampNeg (vp_nar .boolean 0)) (9 : Int32).toNatClampNeg (vp_nar .boolean 0))))] := hD
  refine lv_iinc (k := 0) (v := 10) hx hb d_Re_forget_22 hl rfl (by decide) (by decide) rfl (fun ls hl => ?_)
  have hl : lv_has ls 2 [(1, .int 10), (0, .ref re)] := hl
  refine lv_goto (tgt := 2) hx hb d_Re_forget_25 (by decide) ?_
  refine lv_iload_n hx hb d_Re_forget_2 rfl (lv_at hl 0 rfl) ?_
  refine lv_bipush (v := 12) hx hb d_Re_forget_3 (by decide) ?_
  refine lv_icmp_ge (tgt := 28) hx hb d_Re_forget_5 (by decide) (fun b5 => absurd b5 (by decide)) (fun b5 => ?_)
  refine lv_aload_n hx hb d_Re_forget_8 rfl (lv_at hl 1 rfl) ?_
  refine va_get (D := D) (ci := 3) (v := .ref rr) (C := R_Re) (T := F_Re) (N := 2) hx hb hts (fun w h => List.mem_cons_of_mem _ (u_Re w h)) hown hK hP 0 rfl rfl 0 (by decide) (hts _ (List.mem_cons_of_mem _ tw_86)) (fun _ h9 => h9) rfl d_Re_forget_9 ?_
  refine lv_iload_n hx hb d_Re_forget_12 rfl (lv_at hl 0 rfl) ?_
  refine lv_iconst (v := 0) hx hb d_Re_forget_13 (by decide) ?_
  refine va_iast hx hb hK hP hD hS 1 0 rfl rfl (by unfold vp_in; decide) d_Re_forget_14 (fun H locs hP hD hS => ?_)
  have hP : va_P D cl [(re, .inr (3, [.ref rr, .ref rk])), (rr, .inl (cI, 12, .inl (upd (upd (upd (upd (upd (upd (upd (upd (upd (upd (upd (fun _ => 0) (0 : Int32).toNatClampNeg 0) (1 : Int32).toNatClampNeg 0) (2 : Int32).toNatClampNeg 0) (3 : Int32).toNatClampNeg 0) (4 : Int32).toNatClampNeg 0) (5 : Int32).toNatClampNeg 0) (6 : Int32).toNatClampNeg 0) (7 : Int32).toNatClampNeg 0) (8 : Int32).toNatClampNeg 0) (9 : Int32).toNatClampNeg 0) (10 : Int32).toNatClampNeg 0))), (rk, .inl (cZ, 12, .inl (upd (upd (upd (upd (upd (upd (upd (upd (upd (upd (fun _ => 0) (0 : Int32).toNatClampNeg (vp_nar .boolean 0)) (1 : Int32).toNatClampNeg (vp_nar .boolean 0)) (2 : Int32).toNatClampNeg (vp_nar .boolean 0)) (3 : Int32).toNatClampNeg (vp_nar .boolean 0)) (4 : Int32).toNatClampNeg (vp_nar .boolean 0)) (5 : Int32).toNatClampNeg (vp_nar .boolean 0)) (6 : Int32).toNatClampNeg (vp_nar .boolean 0)) (7 : Int32).toNatClampNeg (vp_nar .boolean 0)) (8 : Int32).toNatClampNeg (vp_nar .boolean 0)) (9 : Int32).toNatClampNeg (vp_nar .boolean 0))))] H := hP
  have hD : va_D A [(re, .inr (3, [.ref rr, .ref rk])), (rr, .inl (cI, 12, .inl (upd (upd (upd (upd (upd (upd (upd (upd (upd (upd (upd (fun _ => 0) (0 : Int32).toNatClampNeg 0) (1 : Int32).toNatClampNeg 0) (2 : Int32).toNatClampNeg 0) (3 : Int32).toNatClampNeg 0) (4 : Int32).toNatClampNeg 0) (5 : Int32).toNatClampNeg 0) (6 : Int32).toNatClampNeg 0) (7 : Int32).toNatClampNeg 0) (8 : Int32).toNatClampNeg 0) (9 : Int32).toNatClampNeg 0) (10 : Int32).toNatClampNeg 0))), (rk, .inl (cZ, 12, .inl (upd (upd (upd (upd (upd (upd (upd (upd (upd (upd (fun _ => 0) (0 : Int32).toNatClampNeg (vp_nar .boolean 0)) (1 : Int32).toNatClampNeg (vp_nar .boolean 0)) (2 : Int32).toNatClampNeg (vp_nar .boolean 0)) (3 : Int32).toNatClampNeg (vp_nar .boolean 0)) (4 : Int32).toNatClampNeg (vp_nar .boolean 0)) (5 : Int32).toNatClampNeg (vp_nar .boolean 0)) (6 : Int32).toNatClampNeg (vp_nar .boolean 0)) (7 : Int32).toNatClampNeg (vp_nar .boolean 0)) (8 : Int32).toNatClampNeg (vp_nar .boolean 0)) (9 : Int32).toNatClampNeg (vp_nar .boolean 0))))] := hD
  refine lv_aload_n hx hb d_Re_forget_15 rfl (lv_at hl 1 rfl) ?_
  refine va_get (D := D) (ci := 3) (v := .ref rk) (C := R_Re) (T := F_Re) (N := 2) hx hb hts (fun w h => List.mem_cons_of_mem _ (u_Re w h)) hown hK hP 0 rfl rfl 1 (by decide) (hts _ (List.mem_cons_of_mem _ tw_88)) (fun _ h9 => h9) rfl d_Re_forget_16 ?_
  refine lv_iload_n hx hb d_Re_forget_19 rfl (lv_at hl 0 rfl) ?_
  refine lv_iconst (v := 0) hx hb d_Re_forget_20 (by decide) ?_
  refine va_zast hx hb hK hP hD hS 2 1 rfl rfl (by unfold vp_in; decide) d_Re_forget_21 (fun H locs hP hD hS => ?_)
  have hP : va_P D cl [(re, .inr (3, [.ref rr, .ref rk])), (rr, .inl (cI, 12, .inl (upd (upd (upd (upd (upd (upd (upd (upd (upd (upd (upd (fun _ => 0) (0 : Int32).toNatClampNeg 0) (1 : Int32).toNatClampNeg 0) (2 : Int32).toNatClampNeg 0) (3 : Int32).toNatClampNeg 0) (4 : Int32).toNatClampNeg 0) (5 : Int32).toNatClampNeg 0) (6 : Int32).toNatClampNeg 0) (7 : Int32).toNatClampNeg 0) (8 : Int32).toNatClampNeg 0) (9 : Int32).toNatClampNeg 0) (10 : Int32).toNatClampNeg 0))), (rk, .inl (cZ, 12, .inl (upd (upd (upd (upd (upd (upd (upd (upd (upd (upd (upd (fun _ => 0) (0 : Int32).toNatClampNeg (vp_nar .boolean 0)) (1 : Int32).toNatClampNeg (vp_nar .boolean 0)) (2 : Int32).toNatClampNeg (vp_nar .boolean 0)) (3 : Int32).toNatClampNeg (vp_nar .boolean 0)) (4 : Int32).toNatClampNeg (vp_nar .boolean 0)) (5 : Int32).toNatClampNeg (vp_nar .boolean 0)) (6 : Int32).toNatClampNeg (vp_nar .boolean 0)) (7 : Int32).toNatClampNeg (vp_nar .boolean 0)) (8 : Int32).toNatClampNeg (vp_nar .boolean 0)) (9 : Int32).toNatClampNeg (vp_nar .boolean 0)) (10 : Int32).toNatClampNeg (vp_nar .boolean 0))))] H := hP
  have hD : va_D A [(re, .inr (3, [.ref rr, .ref rk])), (rr, .inl (cI, 12, .inl (upd (upd (upd (upd (upd (upd (upd (upd (upd (upd (upd (fun _ => 0) (0 : Int32).toNatClampNeg 0) (1 : Int32).toNatClampNeg 0) (2 : Int32).toNatClampNeg 0) (3 : Int32).toNatClampNeg 0) (4 : Int32).toNatClampNeg 0) (5 : Int32).toNatClampNeg 0) (6 : Int32).toNatClampNeg 0) (7 : Int32).toNatClampNeg 0) (8 : Int32).toNatClampNeg 0) (9 : Int32).toNatClampNeg 0) (10 : Int32).toNatClampNeg 0))), (rk, .inl (cZ, 12, .inl (upd (upd (upd (upd (upd (upd (upd (upd (upd (upd (upd (fun _ => 0) (0 : Int32).toNatClampNeg (vp_nar .boolean 0)) (1 : Int32).toNatClampNeg (vp_nar .boolean 0)) (2 : Int32).toNatClampNeg (vp_nar .boolean 0)) (3 : Int32).toNatClampNeg (vp_nar .boolean 0)) (4 : Int32).toNatClampNeg (vp_nar .boolean 0)) (5 : Int32).toNatClampNeg (vp_nar .boolean 0)) (6 : Int32).toNatClampNeg (vp_nar .boolean 0)) (7 : Int32).toNatClampNeg (vp_nar .boolean 0)) (8 : Int32).toNatClampNeg (vp_nar .boolean 0)) (9 : Int32).toNatClampNeg (vp_nar .boolean 0)) (10 : Int32).toNatClampNeg (vp_nar .boolean 0))))] := hD
  refine lv_iinc (k := 0) (v := 11) hx hb d_Re_forget_22 hl rfl (by decide) (by decide) rfl (fun ls hl => ?_)
  have hl : lv_has ls 2 [(1, .int 11), (0, .ref re)] := hl
  refine lv_goto (tgt := 2) hx hb d_Re_forget_25 (by decide) ?_
  refine lv_iload_n hx hb d_Re_forget_2 rfl (lv_at hl 0 rfl) ?_
  refine lv_bipush (v := 12) hx hb d_Re_forget_3 (by decide) ?_
  refine lv_icmp_ge (tgt := 28) hx hb d_Re_forget_5 (by decide) (fun b5 => absurd b5 (by decide)) (fun b5 => ?_)
  refine lv_aload_n hx hb d_Re_forget_8 rfl (lv_at hl 1 rfl) ?_
  refine va_get (D := D) (ci := 3) (v := .ref rr) (C := R_Re) (T := F_Re) (N := 2) hx hb hts (fun w h => List.mem_cons_of_mem _ (u_Re w h)) hown hK hP 0 rfl rfl 0 (by decide) (hts _ (List.mem_cons_of_mem _ tw_86)) (fun _ h9 => h9) rfl d_Re_forget_9 ?_
  refine lv_iload_n hx hb d_Re_forget_12 rfl (lv_at hl 0 rfl) ?_
  refine lv_iconst (v := 0) hx hb d_Re_forget_13 (by decide) ?_
  refine va_iast hx hb hK hP hD hS 1 0 rfl rfl (by unfold vp_in; decide) d_Re_forget_14 (fun H locs hP hD hS => ?_)
  have hP : va_P D cl [(re, .inr (3, [.ref rr, .ref rk])), (rr, .inl (cI, 12, .inl (upd (upd (upd (upd (upd (upd (upd (upd (upd (upd (upd (upd (fun _ => 0) (0 : Int32).toNatClampNeg 0) (1 : Int32).toNatClampNeg 0) (2 : Int32).toNatClampNeg 0) (3 : Int32).toNatClampNeg 0) (4 : Int32).toNatClampNeg 0) (5 : Int32).toNatClampNeg 0) (6 : Int32).toNatClampNeg 0) (7 : Int32).toNatClampNeg 0) (8 : Int32).toNatClampNeg 0) (9 : Int32).toNatClampNeg 0) (10 : Int32).toNatClampNeg 0) (11 : Int32).toNatClampNeg 0))), (rk, .inl (cZ, 12, .inl (upd (upd (upd (upd (upd (upd (upd (upd (upd (upd (upd (fun _ => 0) (0 : Int32).toNatClampNeg (vp_nar .boolean 0)) (1 : Int32).toNatClampNeg (vp_nar .boolean 0)) (2 : Int32).toNatClampNeg (vp_nar .boolean 0)) (3 : Int32).toNatClampNeg (vp_nar .boolean 0)) (4 : Int32).toNatClampNeg (vp_nar .boolean 0)) (5 : Int32).toNatClampNeg (vp_nar .boolean 0)) (6 : Int32).toNatClampNeg (vp_nar .boolean 0)) (7 : Int32).toNatClampNeg (vp_nar .boolean 0)) (8 : Int32).toNatClampNeg (vp_nar .boolean 0)) (9 : Int32).toNatClampNeg (vp_nar .boolean 0)) (10 : Int32).toNatClampNeg (vp_nar .boolean 0))))] H := hP
  have hD : va_D A [(re, .inr (3, [.ref rr, .ref rk])), (rr, .inl (cI, 12, .inl (upd (upd (upd (upd (upd (upd (upd (upd (upd (upd (upd (upd (fun _ => 0) (0 : Int32).toNatClampNeg 0) (1 : Int32).toNatClampNeg 0) (2 : Int32).toNatClampNeg 0) (3 : Int32).toNatClampNeg 0) (4 : Int32).toNatClampNeg 0) (5 : Int32).toNatClampNeg 0) (6 : Int32).toNatClampNeg 0) (7 : Int32).toNatClampNeg 0) (8 : Int32).toNatClampNeg 0) (9 : Int32).toNatClampNeg 0) (10 : Int32).toNatClampNeg 0) (11 : Int32).toNatClampNeg 0))), (rk, .inl (cZ, 12, .inl (upd (upd (upd (upd (upd (upd (upd (upd (upd (upd (upd (fun _ => 0) (0 : Int32).toNatClampNeg (vp_nar .boolean 0)) (1 : Int32).toNatClampNeg (vp_nar .boolean 0)) (2 : Int32).toNatClampNeg (vp_nar .boolean 0)) (3 : Int32).toNatClampNeg (vp_nar .boolean 0)) (4 : Int32).toNatClampNeg (vp_nar .boolean 0)) (5 : Int32).toNatClampNeg (vp_nar .boolean 0)) (6 : Int32).toNatClampNeg (vp_nar .boolean 0)) (7 : Int32).toNatClampNeg (vp_nar .boolean 0)) (8 : Int32).toNatClampNeg (vp_nar .boolean 0)) (9 : Int32).toNatClampNeg (vp_nar .boolean 0)) (10 : Int32).toNatClampNeg (vp_nar .boolean 0))))] := hD
  refine lv_aload_n hx hb d_Re_forget_15 rfl (lv_at hl 1 rfl) ?_
  refine va_get (D := D) (ci := 3) (v := .ref rk) (C := R_Re) (T := F_Re) (N := 2) hx hb hts (fun w h => List.mem_cons_of_mem _ (u_Re w h)) hown hK hP 0 rfl rfl 1 (by decide) (hts _ (List.mem_cons_of_mem _ tw_88)) (fun _ h9 => h9) rfl d_Re_forget_16 ?_
  refine lv_iload_n hx hb d_Re_forget_19 rfl (lv_at hl 0 rfl) ?_
  refine lv_iconst (v := 0) hx hb d_Re_forget_20 (by decide) ?_
  refine va_zast hx hb hK hP hD hS 2 1 rfl rfl (by unfold vp_in; decide) d_Re_forget_21 (fun H locs hP hD hS => ?_)
  have hP : va_P D cl [(re, .inr (3, [.ref rr, .ref rk])), (rr, .inl (cI, 12, .inl (upd (upd (upd (upd (upd (upd (upd (upd (upd (upd (upd (upd (fun _ => 0) (0 : Int32).toNatClampNeg 0) (1 : Int32).toNatClampNeg 0) (2 : Int32).toNatClampNeg 0) (3 : Int32).toNatClampNeg 0) (4 : Int32).toNatClampNeg 0) (5 : Int32).toNatClampNeg 0) (6 : Int32).toNatClampNeg 0) (7 : Int32).toNatClampNeg 0) (8 : Int32).toNatClampNeg 0) (9 : Int32).toNatClampNeg 0) (10 : Int32).toNatClampNeg 0) (11 : Int32).toNatClampNeg 0))), (rk, .inl (cZ, 12, .inl (upd (upd (upd (upd (upd (upd (upd (upd (upd (upd (upd (upd (fun _ => 0) (0 : Int32).toNatClampNeg (vp_nar .boolean 0)) (1 : Int32).toNatClampNeg (vp_nar .boolean 0)) (2 : Int32).toNatClampNeg (vp_nar .boolean 0)) (3 : Int32).toNatClampNeg (vp_nar .boolean 0)) (4 : Int32).toNatClampNeg (vp_nar .boolean 0)) (5 : Int32).toNatClampNeg (vp_nar .boolean 0)) (6 : Int32).toNatClampNeg (vp_nar .boolean 0)) (7 : Int32).toNatClampNeg (vp_nar .boolean 0)) (8 : Int32).toNatClampNeg (vp_nar .boolean 0)) (9 : Int32).toNatClampNeg (vp_nar .boolean 0)) (10 : Int32).toNatClampNeg (vp_nar .boolean 0)) (11 : Int32).toNatClampNeg (vp_nar .boolean 0))))] H := hP
  have hD : va_D A [(re, .inr (3, [.ref rr, .ref rk])), (rr, .inl (cI, 12, .inl (upd (upd (upd (upd (upd (upd (upd (upd (upd (upd (upd (upd (fun _ => 0) (0 : Int32).toNatClampNeg 0) (1 : Int32).toNatClampNeg 0) (2 : Int32).toNatClampNeg 0) (3 : Int32).toNatClampNeg 0) (4 : Int32).toNatClampNeg 0) (5 : Int32).toNatClampNeg 0) (6 : Int32).toNatClampNeg 0) (7 : Int32).toNatClampNeg 0) (8 : Int32).toNatClampNeg 0) (9 : Int32).toNatClampNeg 0) (10 : Int32).toNatClampNeg 0) (11 : Int32).toNatClampNeg 0))), (rk, .inl (cZ, 12, .inl (upd (upd (upd (upd (upd (upd (upd (upd (upd (upd (upd (upd (fun _ => 0) (0 : Int32).toNatClampNeg (vp_nar .boolean 0)) (1 : Int32).toNatClampNeg (vp_nar .boolean 0)) (2 : Int32).toNatClampNeg (vp_nar .boolean 0)) (3 : Int32).toNatClampNeg (vp_nar .boolean 0)) (4 : Int32).toNatClampNeg (vp_nar .boolean 0)) (5 : Int32).toNatClampNeg (vp_nar .boolean 0)) (6 : Int32).toNatClampNeg (vp_nar .boolean 0)) (7 : Int32).toNatClampNeg (vp_nar .boolean 0)) (8 : Int32).toNatClampNeg (vp_nar .boolean 0)) (9 : Int32).toNatClampNeg (vp_nar .boolean 0)) (10 : Int32).toNatClampNeg (vp_nar .boolean 0)) (11 : Int32).toNatClampNeg (vp_nar .boolean 0))))] := hD
  refine lv_iinc (k := 0) (v := 12) hx hb d_Re_forget_22 hl rfl (by decide) (by decide) rfl (fun ls hl => ?_)
  have hl : lv_has ls 2 [(1, .int 12), (0, .ref re)] := hl
  refine lv_goto (tgt := 2) hx hb d_Re_forget_25 (by decide) ?_
  refine lv_iload_n hx hb d_Re_forget_2 rfl (lv_at hl 0 rfl) ?_
  refine lv_bipush (v := 12) hx hb d_Re_forget_3 (by decide) ?_
  refine lv_icmp_ge (tgt := 28) hx hb d_Re_forget_5 (by decide) (fun b5 => ?_) (fun b5 => absurd b5 (by decide))
  exact xrv () B d_Re_forget_28 (trivial) (hP.sub (ws' := []) [] rfl) (hK.sub (tys' := []) [] rfl) (hD.sub (ws' := []) [] (by decide) rfl) hS (Nat.le_of_ble_eq_true rfl) (Nat.le_of_ble_eq_true rfl)
theorem d_Bu_forget_0 : decode b_Bu_forget 0 = .ok (.aload_n 0, 1) := by decide +kernel
theorem d_Bu_forget_1 : decode b_Bu_forget 1 = .ok (.getfield 9, 3) := by decide +kernel
theorem d_Bu_forget_4 : decode b_Bu_forget 4 = .ok (.iconst (0), 1) := by decide +kernel
theorem d_Bu_forget_5 : decode b_Bu_forget 5 = .ok (.invokestatic 19, 3) := by decide +kernel
theorem d_Bu_forget_8 : decode b_Bu_forget 8 = .ok (.aload_n 0, 1) := by decide +kernel
theorem d_Bu_forget_9 : decode b_Bu_forget 9 = .ok (.iconst (0), 1) := by decide +kernel
theorem d_Bu_forget_10 : decode b_Bu_forget 10 = .ok (.putfield 15, 3) := by decide +kernel
theorem d_Bu_forget_13 : decode b_Bu_forget 13 = .ok (.return_, 1) := by decide +kernel
set_option maxRecDepth 20000 in
set_option maxHeartbeats 4000000 in
theorem c_Bu_forget (l : Launch) (D : va_G) (bu : Nat) (bs : Nat) (cI : ClassId) (sz : Nat)  : xMv l y_Bu_forget w_Bu_forget { frames := 1, cells := 0, slots := 0, locals := 40 } D cl [.ref bu] sz [(cI, .int)] [(bu, .inr (0, [.ref bs, .int 0, .int 0, .int 0])), (bs, .inl (cI, 12, .inl (fun _ => 0)))] (fun (_ : Unit) => True) (fun _ => []) (fun _ => []) := by
  refine xMv_of (by decide +kernel) rfl (Nat.le_of_ble_eq_true rfl) ?_
  intro p e s m args below meth c ls A B hAe hA hsz hP hK hD hS hAm hTh hAs hl
  obtain ⟨⟨hx, hb, hml, hown, hts⟩, hret, hlk, hnm, hemp⟩ := id B
  have hl : lv_has ls 1 [(0, .ref bu)] := hl
  refine lv_aload_n hx hb d_Bu_forget_0 rfl (lv_at hl 0 rfl) ?_
  refine va_get (D := D) (ci := 0) (v := .ref bs) (C := R_Bu) (T := F_Bu) (N := 4) hx hb hts (fun w h => List.mem_cons_of_mem _ (u_Bu w h)) hown hK hP 0 rfl rfl 0 (by decide) (hts _ (List.mem_cons_of_mem _ tw_128)) (fun _ h9 => h9) rfl d_Bu_forget_1 ?_
  refine lv_iconst (v := 0) hx hb d_Bu_forget_4 (by decide) ?_
  have hPc := hP.sub (ws' := [(bs, .inl (cI, 12, .inl (fun _ => 0)))]) [1] rfl
  have hDc := hD.sub (ws' := [(bs, .inl (cI, 12, .inl (fun _ => 0)))]) [1] (by decide) rfl
  have hKc := hK.sub (tys' := [(cI, .int)]) [0] rfl
  refine xgv (wsC := [(bs, .inl (cI, 12, .inl (fun _ => 0)))]) (wr := [(bu, .inr (0, [.ref bs, .int 0, .int 0, .int 0]))]) (va_runS (As := [.ref bs, .int 0]) (rest := []) ⟨hx, hb, hml, hown, hts⟩ (c_Ar_fill l D bs cI 12 (fun _ => 0) 0 _ (by decide)) ⟨(callB_of 2 hts (x_good k_Ar_fill) rfl rfl rfl (hts _ (List.mem_cons_of_mem _ tw_6)) (hts _ (List.mem_cons_of_mem _ tw_507)) (by decide +kernel) ⟨Nat.le_of_ble_eq_true rfl, Nat.le_of_ble_eq_true rfl⟩), (hts _ (List.mem_cons_of_mem _ tw_103))⟩ (xP_S hPc hKc hDc hAm hTh hAs hS) rfl rfl hl.1 rfl (lv_room (Nat.le_of_ble_eq_true rfl)) d_Bu_forget_5 ⟨Nat.le_of_ble_eq_true rfl, Nat.le_of_ble_eq_true rfl⟩) hP hD hK hS hA [1] [0] rfl rfl (by decide) (by decide) (fun _ H locs _ hP hD hK hS => ?_)
  have hK : va_K D cl [(cI, .int)] s := hK
  have hP : va_P D cl [(bu, .inr (0, [.ref bs, .int 0, .int 0, .int 0])), (bs, .inl (cI, 12, .inl (fun _ => 0)))] H := hP
  have hD : va_D A [(bu, .inr (0, [.ref bs, .int 0, .int 0, .int 0])), (bs, .inl (cI, 12, .inl (fun _ => 0)))] := hD
  refine lv_aload_n hx hb d_Bu_forget_8 rfl (lv_at hl 0 rfl) ?_
  refine lv_iconst (v := 0) hx hb d_Bu_forget_9 (by decide) ?_
  refine va_put (D := D) (ci := 0) (v := .int 0) (ty := .int) (C := R_Bu) (T := F_Bu) (N := 4) hx hb hts (fun w h => List.mem_cons_of_mem _ (u_Bu w h)) t_Bu o_Bu n_Bu hown hK hP hD hS 0 rfl rfl 3 (by decide) (hts _ (List.mem_cons_of_mem _ tw_134)) (fun _ h9 => h9) rfl (by decide +kernel) rfl rfl (Nat.le_of_ble_eq_true rfl) d_Bu_forget_10 (fun H locs hP hD hS => ?_)
  have hP : va_P D cl [(bu, .inr (0, [.ref bs, .int 0, .int 0, .int 0])), (bs, .inl (cI, 12, .inl (fun _ => 0)))] H := hP
  have hD : va_D A [(bu, .inr (0, [.ref bs, .int 0, .int 0, .int 0])), (bs, .inl (cI, 12, .inl (fun _ => 0)))] := hD
  exact xrv () B d_Bu_forget_13 (trivial) (hP.sub (ws' := []) [] rfl) (hK.sub (tys' := []) [] rfl) (hD.sub (ws' := []) [] (by decide) rfl) hS (Nat.le_of_ble_eq_true rfl) (Nat.le_of_ble_eq_true rfl)
theorem d_FB_cut_0 : decode b_FB_cut 0 = .ok (.iload_n 1, 1) := by decide +kernel
theorem d_FB_cut_1 : decode b_FB_cut 1 = .ok (.ifCond .ge (13), 3) := by decide +kernel
theorem d_FB_cut_14 : decode b_FB_cut 14 = .ok (.aload_n 0, 1) := by decide +kernel
theorem d_FB_cut_15 : decode b_FB_cut 15 = .ok (.invokevirtual 130, 3) := by decide +kernel
theorem d_FB_cut_18 : decode b_FB_cut 18 = .ok (.aload_n 0, 1) := by decide +kernel
theorem d_FB_cut_19 : decode b_FB_cut 19 = .ok (.getfield 33, 3) := by decide +kernel
theorem d_FB_cut_22 : decode b_FB_cut 22 = .ok (.iload_n 1, 1) := by decide +kernel
theorem d_FB_cut_23 : decode b_FB_cut 23 = .ok (.invokevirtual 234, 3) := by decide +kernel
theorem d_FB_cut_26 : decode b_FB_cut 26 = .ok (.aload_n 0, 1) := by decide +kernel
theorem d_FB_cut_27 : decode b_FB_cut 27 = .ok (.getfield 26, 3) := by decide +kernel
theorem d_FB_cut_30 : decode b_FB_cut 30 = .ok (.invokevirtual 237, 3) := by decide +kernel
theorem d_FB_cut_33 : decode b_FB_cut 33 = .ok (.aload_n 0, 1) := by decide +kernel
theorem d_FB_cut_34 : decode b_FB_cut 34 = .ok (.getfield 40, 3) := by decide +kernel
theorem d_FB_cut_37 : decode b_FB_cut 37 = .ok (.invokevirtual 240, 3) := by decide +kernel
theorem d_FB_cut_40 : decode b_FB_cut 40 = .ok (.aload_n 0, 1) := by decide +kernel
theorem d_FB_cut_41 : decode b_FB_cut 41 = .ok (.getfield 33, 3) := by decide +kernel
theorem d_FB_cut_44 : decode b_FB_cut 44 = .ok (.getfield 241, 3) := by decide +kernel
theorem d_FB_cut_47 : decode b_FB_cut 47 = .ok (.ireturn, 1) := by decide +kernel
set_option maxRecDepth 20000 in
set_option maxHeartbeats 4000000 in
theorem c_FB_cut (l : Launch) (D : va_G) (fb : Nat) (bu : Nat) (bs : Nat) (re : Nat) (rr : Nat) (rk : Nat) (rl : Nat) (rc : Nat) (di : Nat) (gr : Nat) (de : Nat) (rb : Nat) (rt : Nat) (cI : ClassId) (cZ : ClassId) (x : Int32) (sz : Nat) (h : ¬ x < 0) : xMi l y_FB_cut w_FB_cut { frames := 3, cells := 0, slots := 0, locals := 90 } D cl [.ref fb, .int x] sz [(cI, .int), (cZ, .boolean)] [(fb, .inr (5, [.ref di, .ref gr, .ref re, .ref rl, .ref bu, .ref de])), (bu, .inr (0, [.ref bs, .int 0, .int 0, .int 0])), (bs, .inl (cI, 12, .inl (fun _ => 0))), (re, .inr (3, [.ref rr, .ref rk])), (rr, .inl (cI, 12, .inl (fun _ => 0))), (rk, .inl (cZ, 12, .inl (fun _ => 0))), (rl, .inr (4, [.ref rb, .ref rc, .ref rt, .int 0])), (rc, .inl (cI, 24, .inl (fun _ => (-1))))] (fun (r : Int32) (_ : Unit) => r = 0) (fun _ => []) (fun _ => []) := by
  refine xMi_of (by decide +kernel) rfl (Nat.le_of_ble_eq_true rfl) ?_
  intro p e s m args below meth c ls A B hAe hA hsz hP hK hD hS hAm hTh hAs hl
  obtain ⟨⟨hx, hb, hml, hown, hts⟩, hret, hlk, hnm, hemp⟩ := id B
  have hl : lv_has ls 2 [(0, .ref fb), (1, .int x)] := hl
  refine lv_iload_n hx hb d_FB_cut_0 rfl (lv_at hl 1 rfl) ?_
  refine lv_if_ge (tgt := 14) hx hb d_FB_cut_1 (by decide) (fun b1 => ?_) (fun b1 => ?_)
  · refine lv_aload_n hx hb d_FB_cut_14 rfl (lv_at hl 0 rfl) ?_
    have hPc := hP.sub (ws' := [(fb, .inr (5, [.ref di, .ref gr, .ref re, .ref rl, .ref bu, .ref de])), (bu, .inr (0, [.ref bs, .int 0, .int 0, .int 0]))]) [0, 1] rfl
    have hDc := hD.sub (ws' := [(fb, .inr (5, [.ref di, .ref gr, .ref re, .ref rl, .ref bu, .ref de])), (bu, .inr (0, [.ref bs, .int 0, .int 0, .int 0]))]) [0, 1] (by decide) rfl
    have hKc := hK.sub (tys' := []) [] rfl
    refine xgv (wsC := [(fb, .inr (5, [.ref di, .ref gr, .ref re, .ref rl, .ref bu, .ref de])), (bu, .inr (0, [.ref bs, .int 0, .int 0, .int 0]))]) (wr := [(bs, .inl (cI, 12, .inl (fun _ => 0))), (re, .inr (3, [.ref rr, .ref rk])), (rr, .inl (cI, 12, .inl (fun _ => 0))), (rk, .inl (cZ, 12, .inl (fun _ => 0))), (rl, .inr (4, [.ref rb, .ref rc, .ref rt, .int 0])), (rc, .inl (cI, 24, .inl (fun _ => (-1))))]) (va_runV (As := []) (rest := []) ⟨hx, hb, hml, hown, hts⟩ (c_FB_refuseUnderWay l  D fb bu di gr re rl de bs _ ) ⟨(callB_of 0 hts (x_good k_FB_refuseUnderWay) rfl rfl rfl (hts _ (List.mem_cons_of_mem _ tw_1)) (hts _ (List.mem_cons_of_mem _ tw_392)) (by decide +kernel) ⟨Nat.le_of_ble_eq_true rfl, Nat.le_of_ble_eq_true rfl⟩), (hts _ (List.mem_cons_of_mem _ tw_394)), (hts _ (List.mem_cons_of_mem _ (x_sel 19 rfl)))⟩ (xP_V (va_recv (ci := 5) (q0 := 0) hK hP rfl rfl) hPc hKc hDc hAm hTh hAs hS) rfl rfl hl.1 rfl (lv_room (Nat.le_of_ble_eq_true rfl)) d_FB_cut_15 ⟨Nat.le_of_ble_eq_true rfl, Nat.le_of_ble_eq_true rfl⟩) hP hD hK hS hA [0, 1] [2, 3, 4, 5, 6, 7] rfl rfl (by decide) (by decide) (fun _ H locs _ hP hD hK hS => ?_)
    have hK : va_K D cl [(cI, .int), (cZ, .boolean)] s := hK
    have hP : va_P D cl [(bs, .inl (cI, 12, .inl (fun _ => 0))), (re, .inr (3, [.ref rr, .ref rk])), (rr, .inl (cI, 12, .inl (fun _ => 0))), (rk, .inl (cZ, 12, .inl (fun _ => 0))), (rl, .inr (4, [.ref rb, .ref rc, .ref rt, .int 0])), (rc, .inl (cI, 24, .inl (fun _ => (-1)))), (fb, .inr (5, [.ref di, .ref gr, .ref re, .ref rl, .ref bu, .ref de])), (bu, .inr (0, [.ref bs, .int 0, .int 0, .int 0]))] H := hP
    have hD : va_D A [(bs, .inl (cI, 12, .inl (fun _ => 0))), (re, .inr (3, [.ref rr, .ref rk])), (rr, .inl (cI, 12, .inl (fun _ => 0))), (rk, .inl (cZ, 12, .inl (fun _ => 0))), (rl, .inr (4, [.ref rb, .ref rc, .ref rt, .int 0])), (rc, .inl (cI, 24, .inl (fun _ => (-1)))), (fb, .inr (5, [.ref di, .ref gr, .ref re, .ref rl, .ref bu, .ref de])), (bu, .inr (0, [.ref bs, .int 0, .int 0, .int 0]))] := hD
    refine lv_aload_n hx hb d_FB_cut_18 rfl (lv_at hl 0 rfl) ?_
    refine va_get (D := D) (ci := 5) (v := .ref rl) (C := R_FB) (T := F_FB) (N := 6) hx hb hts (fun w h => List.mem_cons_of_mem _ (u_FB w h)) hown hK hP 6 rfl rfl 3 (by decide) (hts _ (List.mem_cons_of_mem _ tw_149)) (fun _ h9 => h9) rfl d_FB_cut_19 ?_
    refine lv_iload_n hx hb d_FB_cut_22 rfl (lv_at hl 1 rfl) ?_
    have hPc := hP.sub (ws' := [(rl, .inr (4, [.ref rb, .ref rc, .ref rt, .int 0])), (rc, .inl (cI, 24, .inl (fun _ => (-1))))]) [4, 5] rfl
    have hDc := hD.sub (ws' := [(rl, .inr (4, [.ref rb, .ref rc, .ref rt, .int 0])), (rc, .inl (cI, 24, .inl (fun _ => (-1))))]) [4, 5] (by decide) rfl
    have hKc := hK.sub (tys' := [(cI, .int)]) [0] rfl
    refine xgv (wsC := [(rl, .inr (4, [.ref rb, .ref rc, .ref rt, .int 0])), (rc, .inl (cI, 24, .inl (fun _ => (-1))))]) (wr := [(bs, .inl (cI, 12, .inl (fun _ => 0))), (re, .inr (3, [.ref rr, .ref rk])), (rr, .inl (cI, 12, .inl (fun _ => 0))), (rk, .inl (cZ, 12, .inl (fun _ => 0))), (fb, .inr (5, [.ref di, .ref gr, .ref re, .ref rl, .ref bu, .ref de])), (bu, .inr (0, [.ref bs, .int 0, .int 0, .int 0]))]) (va_runVN (As := [.int x]) (rest := []) ⟨hx, hb, hml, hown, hts⟩ (c_RL_readAgain l  D rl rc rb rt cI x _ h) ⟨(va_cnB 1 hts (x_good k_RL_readAgain) rfl rfl rfl (hAm.1 _ (List.mem_of_getElem? (i := 63) rfl)) (hts _ (List.mem_cons_of_mem _ tw_5)) (by decide +kernel) ⟨Nat.le_of_ble_eq_true rfl, Nat.le_of_ble_eq_true rfl⟩), (hts _ (List.mem_cons_of_mem _ tw_637)), (hts _ (List.mem_cons_of_mem _ (x_sel 49 rfl)))⟩ (xP_V (va_recv (ci := 4) (q0 := 4) hK hP rfl rfl) hPc hKc hDc hAm hTh hAs hS) rfl rfl hl.1 rfl (lv_room (Nat.le_of_ble_eq_true rfl)) d_FB_cut_23 ⟨Nat.le_of_ble_eq_true rfl, Nat.le_of_ble_eq_true rfl⟩) hP hD hK hS hA [4, 5] [0, 1, 2, 3, 6, 7] rfl rfl (by decide) (by decide) (fun _ H locs _ hP hD hK hS => ?_)
    have hK : va_K D cl [(cI, .int), (cZ, .boolean)] s := hK
    have hP : va_P D cl [(bs, .inl (cI, 12, .inl (fun _ => 0))), (re, .inr (3, [.ref rr, .ref rk])), (rr, .inl (cI, 12, .inl (fun _ => 0))), (rk, .inl (cZ, 12, .inl (fun _ => 0))), (fb, .inr (5, [.ref di, .ref gr, .ref re, .ref rl, .ref bu, .ref de])), (bu, .inr (0, [.ref bs, .int 0, .int 0, .int 0])), (rl, .inr (4, [.ref rb, .ref rc, .ref rt, .int 0]))] H := hP
    have hD : va_D A [(bs, .inl (cI, 12, .inl (fun _ => 0))), (re, .inr (3, [.ref rr, .ref rk])), (rr, .inl (cI, 12, .inl (fun _ => 0))), (rk, .inl (cZ, 12, .inl (fun _ => 0))), (fb, .inr (5, [.ref di, .ref gr, .ref re, .ref rl, .ref bu, .ref de])), (bu, .inr (0, [.ref bs, .int 0, .int 0, .int 0])), (rl, .inr (4, [.ref rb, .ref rc, .ref rt, .int 0]))] := hD
    refine lv_aload_n hx hb d_FB_cut_26 rfl (lv_at hl 0 rfl) ?_
    refine va_get (D := D) (ci := 5) (v := .ref re) (C := R_FB) (T := F_FB) (N := 6) hx hb hts (fun w h => List.mem_cons_of_mem _ (u_FB w h)) hown hK hP 4 rfl rfl 2 (by decide) (hts _ (List.mem_cons_of_mem _ tw_148)) (fun _ h9 => h9) rfl d_FB_cut_27 ?_
    have hPc := hP.sub (ws' := [(re, .inr (3, [.ref rr, .ref rk])), (rr, .inl (cI, 12, .inl (fun _ => 0))), (rk, .inl (cZ, 12, .inl (fun _ => 0)))]) [1, 2, 3] rfl
    have hDc := hD.sub (ws' := [(re, .inr (3, [.ref rr, .ref rk])), (rr, .inl (cI, 12, .inl (fun _ => 0))), (rk, .inl (cZ, 12, .inl (fun _ => 0)))]) [1, 2, 3] (by decide) rfl
    have hKc := hK.sub (tys' := [(cI, .int), (cZ, .boolean)]) [0, 1] rfl
    refine xgv (wsC := [(re, .inr (3, [.ref rr, .ref rk])), (rr, .inl (cI, 12, .inl (fun _ => 0))), (rk, .inl (cZ, 12, .inl (fun _ => 0)))]) (wr := [(bs, .inl (cI, 12, .inl (fun _ => 0))), (fb, .inr (5, [.ref di, .ref gr, .ref re, .ref rl, .ref bu, .ref de])), (bu, .inr (0, [.ref bs, .int 0, .int 0, .int 0])), (rl, .inr (4, [.ref rb, .ref rc, .ref rt, .int 0]))]) (va_runVN (As := []) (rest := []) ⟨hx, hb, hml, hown, hts⟩ (c_Re_forget l  D re rr rk cI cZ _ ) ⟨(va_cnB 0 hts (x_good k_Re_forget) rfl rfl rfl (hAm.1 _ (List.mem_of_getElem? (i := 65) rfl)) (hts _ (List.mem_cons_of_mem _ tw_4)) (by decide +kernel) ⟨Nat.le_of_ble_eq_true rfl, Nat.le_of_ble_eq_true rfl⟩), (hts _ (List.mem_cons_of_mem _ tw_653)), (hts _ (List.mem_cons_of_mem _ (x_sel 52 rfl)))⟩ (xP_V (va_recv (ci := 3) (q0 := 1) hK hP rfl rfl) hPc hKc hDc hAm hTh hAs hS) rfl rfl hl.1 rfl (lv_room (Nat.le_of_ble_eq_true rfl)) d_FB_cut_30 ⟨Nat.le_of_ble_eq_true rfl, Nat.le_of_ble_eq_true rfl⟩) hP hD hK hS hA [1, 2, 3] [0, 4, 5, 6] rfl rfl (by decide) (by decide) (fun _ H locs _ hP hD hK hS => ?_)
    have hK : va_K D cl [(cI, .int), (cZ, .boolean)] s := hK
    have hP : va_P D cl [(bs, .inl (cI, 12, .inl (fun _ => 0))), (fb, .inr (5, [.ref di, .ref gr, .ref re, .ref rl, .ref bu, .ref de])), (bu, .inr (0, [.ref bs, .int 0, .int 0, .int 0])), (rl, .inr (4, [.ref rb, .ref rc, .ref rt, .int 0]))] H := hP
    have hD : va_D A [(bs, .inl (cI, 12, .inl (fun _ => 0))), (fb, .inr (5, [.ref di, .ref gr, .ref re, .ref rl, .ref bu, .ref de])), (bu, .inr (0, [.ref bs, .int 0, .int 0, .int 0])), (rl, .inr (4, [.ref rb, .ref rc, .ref rt, .int 0]))] := hD
    refine lv_aload_n hx hb d_FB_cut_33 rfl (lv_at hl 0 rfl) ?_
    refine va_get (D := D) (ci := 5) (v := .ref bu) (C := R_FB) (T := F_FB) (N := 6) hx hb hts (fun w h => List.mem_cons_of_mem _ (u_FB w h)) hown hK hP 1 rfl rfl 4 (by decide) (hts _ (List.mem_cons_of_mem _ tw_150)) (fun _ h9 => h9) rfl d_FB_cut_34 ?_
    have hPc := hP.sub (ws' := [(bu, .inr (0, [.ref bs, .int 0, .int 0, .int 0])), (bs, .inl (cI, 12, .inl (fun _ => 0)))]) [2, 0] rfl
    have hDc := hD.sub (ws' := [(bu, .inr (0, [.ref bs, .int 0, .int 0, .int 0])), (bs, .inl (cI, 12, .inl (fun _ => 0)))]) [2, 0] (by decide) rfl
    have hKc := hK.sub (tys' := [(cI, .int)]) [0] rfl
    refine xgv (wsC := [(bu, .inr (0, [.ref bs, .int 0, .int 0, .int 0])), (bs, .inl (cI, 12, .inl (fun _ => 0)))]) (wr := [(fb, .inr (5, [.ref di, .ref gr, .ref re, .ref rl, .ref bu, .ref de])), (rl, .inr (4, [.ref rb, .ref rc, .ref rt, .int 0]))]) (va_runVN (As := []) (rest := []) ⟨hx, hb, hml, hown, hts⟩ (c_Bu_forget l  D bu bs cI _ ) ⟨(va_cnB 0 hts (x_good k_Bu_forget) rfl rfl rfl (hAm.1 _ (List.mem_of_getElem? (i := 66) rfl)) (hts _ (List.mem_cons_of_mem _ tw_7)) (by decide +kernel) ⟨Nat.le_of_ble_eq_true rfl, Nat.le_of_ble_eq_true rfl⟩), (hts _ (List.mem_cons_of_mem _ tw_657)), (hts _ (List.mem_cons_of_mem _ (x_sel 53 rfl)))⟩ (xP_V (va_recv (ci := 0) (q0 := 2) hK hP rfl rfl) hPc hKc hDc hAm hTh hAs hS) rfl rfl hl.1 rfl (lv_room (Nat.le_of_ble_eq_true rfl)) d_FB_cut_37 ⟨Nat.le_of_ble_eq_true rfl, Nat.le_of_ble_eq_true rfl⟩) hP hD hK hS hA [2, 0] [1, 3] rfl rfl (by decide) (by decide) (fun _ H locs _ hP hD hK hS => ?_)
    have hK : va_K D cl [(cI, .int), (cZ, .boolean)] s := hK
    have hP : va_P D cl [(fb, .inr (5, [.ref di, .ref gr, .ref re, .ref rl, .ref bu, .ref de])), (rl, .inr (4, [.ref rb, .ref rc, .ref rt, .int 0]))] H := hP
    have hD : va_D A [(fb, .inr (5, [.ref di, .ref gr, .ref re, .ref rl, .ref bu, .ref de])), (rl, .inr (4, [.ref rb, .ref rc, .ref rt, .int 0]))] := hD
    refine lv_aload_n hx hb d_FB_cut_40 rfl (lv_at hl 0 rfl) ?_
    refine va_get (D := D) (ci := 5) (v := .ref rl) (C := R_FB) (T := F_FB) (N := 6) hx hb hts (fun w h => List.mem_cons_of_mem _ (u_FB w h)) hown hK hP 0 rfl rfl 3 (by decide) (hts _ (List.mem_cons_of_mem _ tw_149)) (fun _ h9 => h9) rfl d_FB_cut_41 ?_
    refine va_getN (D := D) (ci := 4) (v := .int 0) (C := R_RL) (T := F_RL) (N := 4) hx hb hts (fun w h => List.mem_cons_of_mem _ (u_RL w h)) hown hK hP 1 rfl rfl 3 (by decide) (va_Nw.use rfl (hAm.1 _ (List.mem_of_getElem? (i := 17) rfl))) (fun _ h9 => h9) rfl d_FB_cut_44 ?_
    exact xri () B d_FB_cut_47 (rfl) (hP.sub (ws' := []) [] rfl) (hK.sub (tys' := []) [] rfl) (hD.sub (ws' := []) [] (by decide) rfl) hS (Nat.le_of_ble_eq_true rfl) (Nat.le_of_ble_eq_true rfl)
  · exact absurd (xge_lt b1) h
theorem d_FB_cut_4 : decode b_FB_cut 4 = .ok (.new 65, 3) := by decide +kernel
theorem d_FB_cut_7 : decode b_FB_cut 7 = .ok (.dup, 1) := by decide +kernel
theorem d_FB_cut_8 : decode b_FB_cut 8 = .ok (.ldc 232, 2) := by decide +kernel
theorem d_FB_cut_10 : decode b_FB_cut 10 = .ok (.invokespecial 69, 3) := by decide +kernel
theorem d_FB_cut_13 : decode b_FB_cut 13 = .ok (.athrow, 1) := by decide +kernel
set_option maxRecDepth 20000 in
set_option maxHeartbeats 4000000 in
theorem c_FB_cut_t (l : Launch) (hfl : l.flags = pinnedFlags ++ [noTraceFlag]) (D : va_G) (fb : Nat) (bu : Nat) (di : Nat) (gr : Nat) (re : Nat) (rl : Nat) (de : Nat) (bs : Nat) (x : Int32) (sz : Nat) (h : x < 0) : xMt l y_FB_cut w_FB_cut { frames := 7, cells := 1, slots := 6, locals := 110 } D cl [.ref fb, .int x] sz [] [(fb, .inr (5, [.ref di, .ref gr, .ref re, .ref rl, .ref bu, .ref de])), (bu, .inr (0, [.ref bs, .int 0, .int 0, .int 0]))] "java/lang/IllegalArgumentException" := by
  refine xMt_of (by decide +kernel) rfl (Nat.le_of_ble_eq_true rfl) ?_
  intro p e s m args below meth c ls A B hAe hA hsz hP hK hD hS hAm hTh hAs hl
  obtain ⟨⟨hx, hb, hml, hown, hts⟩, hret, hlk, hnm, hemp⟩ := id B
  have hl : lv_has ls 2 [(0, .ref fb), (1, .int x)] := hl
  refine lv_iload_n hx hb d_FB_cut_0 rfl (lv_at hl 1 rfl) ?_
  refine lv_if_ge (tgt := 14) hx hb d_FB_cut_1 (by decide) (fun b1 => ?_) (fun b1 => ?_)
  · exact absurd b1 (xlt_ge h)
  · obtain ⟨qz, hZ⟩ := hAm.2.1 _ (List.mem_of_getElem? (i := 18) rfl)
    exact xt_throw hx hb (hml.trans hl.1.symm) hfl hlk hemp (names := ["java/lang/RuntimeException", "java/lang/Exception"]) hown (hts _ (List.mem_cons_of_mem _ tw_249)) (hts _ (List.mem_cons_of_mem _ tw_250)) (hts _ (List.mem_cons_of_mem _ tw_12)) (by decide +kernel) (by decide +kernel) (xOwn own_IAE hts hAm hTh) hZ hS hAs (Nat.le_of_ble_eq_true rfl) (Nat.le_of_ble_eq_true rfl) (Nat.le_of_ble_eq_true rfl) (Nat.le_of_ble_eq_true rfl) (by decide) (Nat.le_of_ble_eq_true rfl) d_FB_cut_4 d_FB_cut_7 d_FB_cut_8 d_FB_cut_10 d_FB_cut_13
