theorem xIn_out {x : Int32} (h : ¬ xIn x 0 3 = 1) : x.toInt < 0 ∨ 3 < x.toInt := by
  by_cases g : 0 ≤ x ∧ x ≤ 3
  · exact absurd (if_pos g) h
  · simp only [Int32.le_iff_toInt_le] at g
    have h0 : (0 : Int32).toInt = 0 := by decide
    have h3 : (3 : Int32).toInt = 3 := by decide
    omega
theorem d_FB_edge_0 : decode b_FB_edge 0 = .ok (.iload_n 1, 1) := by decide +kernel
theorem d_FB_edge_1 : decode b_FB_edge 1 = .ok (.invokestatic 54, 3) := by decide +kernel
theorem d_FB_edge_4 : decode b_FB_edge 4 = .ok (.ifCond .eq (19), 3) := by decide +kernel
theorem d_FB_edge_7 : decode b_FB_edge 7 = .ok (.iload_n 2, 1) := by decide +kernel
theorem d_FB_edge_8 : decode b_FB_edge 8 = .ok (.invokestatic 58, 3) := by decide +kernel
theorem d_FB_edge_11 : decode b_FB_edge 11 = .ok (.ifCond .eq (12), 3) := by decide +kernel
theorem d_FB_edge_14 : decode b_FB_edge 14 = .ok (.iload_n 3, 1) := by decide +kernel
theorem d_FB_edge_15 : decode b_FB_edge 15 = .ok (.iconst (0), 1) := by decide +kernel
theorem d_FB_edge_16 : decode b_FB_edge 16 = .ok (.iconst (2), 1) := by decide +kernel
theorem d_FB_edge_17 : decode b_FB_edge 17 = .ok (.invokestatic 61, 3) := by decide +kernel
theorem d_FB_edge_20 : decode b_FB_edge 20 = .ok (.ifCond .ne (13), 3) := by decide +kernel
theorem d_FB_edge_33 : decode b_FB_edge 33 = .ok (.aload_n 0, 1) := by decide +kernel
theorem d_FB_edge_34 : decode b_FB_edge 34 = .ok (.getfield 19, 3) := by decide +kernel
theorem d_FB_edge_37 : decode b_FB_edge 37 = .ok (.getfield 72, 3) := by decide +kernel
theorem d_FB_edge_40 : decode b_FB_edge 40 = .ok (.bipush (12), 2) := by decide +kernel
theorem d_FB_edge_42 : decode b_FB_edge 42 = .ok (.if_icmp .ge (13), 3) := by decide +kernel
theorem d_FB_edge_45 : decode b_FB_edge 45 = .ok (.aload_n 0, 1) := by decide +kernel
theorem d_FB_edge_46 : decode b_FB_edge 46 = .ok (.getfield 40, 3) := by decide +kernel
theorem d_FB_edge_49 : decode b_FB_edge 49 = .ok (.invokevirtual 76, 3) := by decide +kernel
theorem d_FB_edge_52 : decode b_FB_edge 52 = .ok (.ifCond .eq (13), 3) := by decide +kernel
theorem d_FB_edge_65 : decode b_FB_edge 65 = .ok (.aload_n 0, 1) := by decide +kernel
theorem d_FB_edge_66 : decode b_FB_edge 66 = .ok (.getfield 19, 3) := by decide +kernel
theorem d_FB_edge_69 : decode b_FB_edge 69 = .ok (.iload_n 1, 1) := by decide +kernel
theorem d_FB_edge_70 : decode b_FB_edge 70 = .ok (.iload_n 2, 1) := by decide +kernel
theorem d_FB_edge_71 : decode b_FB_edge 71 = .ok (.iload_n 3, 1) := by decide +kernel
theorem d_FB_edge_72 : decode b_FB_edge 72 = .ok (.invokevirtual 85, 3) := by decide +kernel
theorem d_FB_edge_75 : decode b_FB_edge 75 = .ok (.ireturn, 1) := by decide +kernel
set_option maxRecDepth 20000 in
set_option maxHeartbeats 4000000 in
theorem c_FB_edge (l : Launch) (D : va_G) (fb : Nat) (gr : Nat) (bu : Nat) (gc : Nat) (gf : Nat) (gp : Nat) (di : Nat) (re : Nat) (rl : Nat) (de : Nat) (gb : Nat) (gl : Nat) (bs : Nat) (cI : ClassId) (x : Int32) (y : Int32) (z : Int32) (sz : Nat) (h : xokE x y z) : xMi l y_FB_edge w_FB_edge { frames := 2, cells := 0, slots := 0, locals := 60 } D cl [.ref fb, .int x, .int y, .int z] sz [(cI, .int)] [(fb, .inr (5, [.ref di, .ref gr, .ref re, .ref rl, .ref bu, .ref de])), (gr, .inr (2, [.ref gc, .ref gf, .ref gp, .ref gb, .ref gl, .int 0])), (bu, .inr (0, [.ref bs, .int 0, .int 0, .int 0])), (gc, .inl (cI, 12, .inl (fun _ => 0))), (gf, .inl (cI, 12, .inl (fun _ => 0))), (gp, .inl (cI, 12, .inl (fun _ => 0)))] (fun (r : Int32) (_ : Unit) => r = 0) (fun _ => []) (fun _ => []) := by
  refine xMi_of (by decide +kernel) rfl (Nat.le_of_ble_eq_true rfl) ?_
  intro p e s m args below meth c ls A B hAe hA hsz hP hK hD hS hAm hTh hAs hl
  obtain ⟨⟨hx, hb, hml, hown, hts⟩, hret, hlk, hnm, hemp⟩ := id B
  have hl : lv_has ls 4 [(0, .ref fb), (1, .int x), (2, .int y), (3, .int z)] := hl
  refine lv_iload_n hx hb d_FB_edge_0 rfl (lv_at hl 1 rfl) ?_
  have hPc := hP.sub (ws' := []) [] rfl
  have hDc := hD.sub (ws' := []) [] (by decide) rfl
  have hKc := hK.sub (tys' := []) [] rfl
  refine xgi (wsC := []) (wr := [(fb, .inr (5, [.ref di, .ref gr, .ref re, .ref rl, .ref bu, .ref de])), (gr, .inr (2, [.ref gc, .ref gf, .ref gp, .ref gb, .ref gl, .int 0])), (bu, .inr (0, [.ref bs, .int 0, .int 0, .int 0])), (gc, .inl (cI, 12, .inl (fun _ => 0))), (gf, .inl (cI, 12, .inl (fun _ => 0))), (gp, .inl (cI, 12, .inl (fun _ => 0)))]) (va_runS (As := [.int x]) (rest := []) ⟨hx, hb, hml, hown, hts⟩ (c_FB_isCommand l  D x _ ) ⟨(callB_of 1 hts (x_good k_FB_isCommand) rfl rfl rfl (hts _ (List.mem_cons_of_mem _ tw_1)) (hts _ (List.mem_cons_of_mem _ tw_241)) (by decide +kernel) ⟨Nat.le_of_ble_eq_true rfl, Nat.le_of_ble_eq_true rfl⟩), (hts _ (List.mem_cons_of_mem _ tw_242))⟩ (xP_S hPc hKc hDc hAm hTh hAs hS) rfl rfl hl.1 rfl (lv_room (Nat.le_of_ble_eq_true rfl)) d_FB_edge_1 ⟨Nat.le_of_ble_eq_true rfl, Nat.le_of_ble_eq_true rfl⟩) hP hD hK hS hA [] [0, 1, 2, 3, 4, 5] rfl rfl (by decide) (by decide) (fun r1 _ H locs er1 hP hD hK hS => ?_)
  have er1 : r1 = xIn x 0 65535 := er1
  subst er1
  have hK : va_K D cl [(cI, .int)] s := hK
  have hP : va_P D cl [(fb, .inr (5, [.ref di, .ref gr, .ref re, .ref rl, .ref bu, .ref de])), (gr, .inr (2, [.ref gc, .ref gf, .ref gp, .ref gb, .ref gl, .int 0])), (bu, .inr (0, [.ref bs, .int 0, .int 0, .int 0])), (gc, .inl (cI, 12, .inl (fun _ => 0))), (gf, .inl (cI, 12, .inl (fun _ => 0))), (gp, .inl (cI, 12, .inl (fun _ => 0)))] H := hP
  have hD : va_D A [(fb, .inr (5, [.ref di, .ref gr, .ref re, .ref rl, .ref bu, .ref de])), (gr, .inr (2, [.ref gc, .ref gf, .ref gp, .ref gb, .ref gl, .int 0])), (bu, .inr (0, [.ref bs, .int 0, .int 0, .int 0])), (gc, .inl (cI, 12, .inl (fun _ => 0))), (gf, .inl (cI, 12, .inl (fun _ => 0))), (gp, .inl (cI, 12, .inl (fun _ => 0)))] := hD
  refine lv_if_eq (tgt := 23) hx hb d_FB_edge_4 (by decide) (fun b4 => ?_) (fun b4 => ?_)
  · first | exact absurd b4 (xne1 h.1) | exact absurd b11 (xne1 h.2.1) | exact absurd b20 (xne1 h.2.2)
  · refine lv_iload_n hx hb d_FB_edge_7 rfl (lv_at hl 2 rfl) ?_
    have hPc := hP.sub (ws' := []) [] rfl
    have hDc := hD.sub (ws' := []) [] (by decide) rfl
    have hKc := hK.sub (tys' := []) [] rfl
    refine xgi (wsC := []) (wr := [(fb, .inr (5, [.ref di, .ref gr, .ref re, .ref rl, .ref bu, .ref de])), (gr, .inr (2, [.ref gc, .ref gf, .ref gp, .ref gb, .ref gl, .int 0])), (bu, .inr (0, [.ref bs, .int 0, .int 0, .int 0])), (gc, .inl (cI, 12, .inl (fun _ => 0))), (gf, .inl (cI, 12, .inl (fun _ => 0))), (gp, .inl (cI, 12, .inl (fun _ => 0)))]) (va_runS (As := [.int y]) (rest := []) ⟨hx, hb, hml, hown, hts⟩ (c_FB_areFlags l  D y _ ) ⟨(callB_of 1 hts (x_good k_FB_areFlags) rfl rfl rfl (hts _ (List.mem_cons_of_mem _ tw_1)) (hts _ (List.mem_cons_of_mem _ tw_246)) (by decide +kernel) ⟨Nat.le_of_ble_eq_true rfl, Nat.le_of_ble_eq_true rfl⟩), (hts _ (List.mem_cons_of_mem _ tw_247))⟩ (xP_S hPc hKc hDc hAm hTh hAs hS) rfl rfl hl.1 rfl (lv_room (Nat.le_of_ble_eq_true rfl)) d_FB_edge_8 ⟨Nat.le_of_ble_eq_true rfl, Nat.le_of_ble_eq_true rfl⟩) hP hD hK hS hA [] [0, 1, 2, 3, 4, 5] rfl rfl (by decide) (by decide) (fun r2 _ H locs er2 hP hD hK hS => ?_)
    have er2 : r2 = xFl y := er2
    subst er2
    have hK : va_K D cl [(cI, .int)] s := hK
    have hP : va_P D cl [(fb, .inr (5, [.ref di, .ref gr, .ref re, .ref rl, .ref bu, .ref de])), (gr, .inr (2, [.ref gc, .ref gf, .ref gp, .ref gb, .ref gl, .int 0])), (bu, .inr (0, [.ref bs, .int 0, .int 0, .int 0])), (gc, .inl (cI, 12, .inl (fun _ => 0))), (gf, .inl (cI, 12, .inl (fun _ => 0))), (gp, .inl (cI, 12, .inl (fun _ => 0)))] H := hP
    have hD : va_D A [(fb, .inr (5, [.ref di, .ref gr, .ref re, .ref rl, .ref bu, .ref de])), (gr, .inr (2, [.ref gc, .ref gf, .ref gp, .ref gb, .ref gl, .int 0])), (bu, .inr (0, [.ref bs, .int 0, .int 0, .int 0])), (gc, .inl (cI, 12, .inl (fun _ => 0))), (gf, .inl (cI, 12, .inl (fun _ => 0))), (gp, .inl (cI, 12, .inl (fun _ => 0)))] := hD
    refine lv_if_eq (tgt := 23) hx hb d_FB_edge_11 (by decide) (fun b11 => ?_) (fun b11 => ?_)
    · first | exact absurd b4 (xne1 h.1) | exact absurd b11 (xne1 h.2.1) | exact absurd b20 (xne1 h.2.2)
    · refine lv_iload_n hx hb d_FB_edge_14 rfl (lv_at hl 3 rfl) ?_
      refine lv_iconst (v := 0) hx hb d_FB_edge_15 (by decide) ?_
      refine lv_iconst (v := 2) hx hb d_FB_edge_16 (by decide) ?_
      have hPc := hP.sub (ws' := []) [] rfl
      have hDc := hD.sub (ws' := []) [] (by decide) rfl
      have hKc := hK.sub (tys' := []) [] rfl
      refine xgi (wsC := []) (wr := [(fb, .inr (5, [.ref di, .ref gr, .ref re, .ref rl, .ref bu, .ref de])), (gr, .inr (2, [.ref gc, .ref gf, .ref gp, .ref gb, .ref gl, .int 0])), (bu, .inr (0, [.ref bs, .int 0, .int 0, .int 0])), (gc, .inl (cI, 12, .inl (fun _ => 0))), (gf, .inl (cI, 12, .inl (fun _ => 0))), (gp, .inl (cI, 12, .inl (fun _ => 0)))]) (va_runS (As := [.int z, .int 0, .int 2]) (rest := []) ⟨hx, hb, hml, hown, hts⟩ (c_FB_isIn l  D z 0 2 _ ) ⟨(callB_of 3 hts (x_good k_FB_isIn) rfl rfl rfl (hts _ (List.mem_cons_of_mem _ tw_1)) (hts _ (List.mem_cons_of_mem _ tw_245)) (by decide +kernel) ⟨Nat.le_of_ble_eq_true rfl, Nat.le_of_ble_eq_true rfl⟩), (hts _ (List.mem_cons_of_mem _ tw_226))⟩ (xP_S hPc hKc hDc hAm hTh hAs hS) rfl rfl hl.1 rfl (lv_room (Nat.le_of_ble_eq_true rfl)) d_FB_edge_17 ⟨Nat.le_of_ble_eq_true rfl, Nat.le_of_ble_eq_true rfl⟩) hP hD hK hS hA [] [0, 1, 2, 3, 4, 5] rfl rfl (by decide) (by decide) (fun r3 _ H locs er3 hP hD hK hS => ?_)
      have er3 : r3 = xIn z 0 2 := er3
      subst er3
      have hK : va_K D cl [(cI, .int)] s := hK
      have hP : va_P D cl [(fb, .inr (5, [.ref di, .ref gr, .ref re, .ref rl, .ref bu, .ref de])), (gr, .inr (2, [.ref gc, .ref gf, .ref gp, .ref gb, .ref gl, .int 0])), (bu, .inr (0, [.ref bs, .int 0, .int 0, .int 0])), (gc, .inl (cI, 12, .inl (fun _ => 0))), (gf, .inl (cI, 12, .inl (fun _ => 0))), (gp, .inl (cI, 12, .inl (fun _ => 0)))] H := hP
      have hD : va_D A [(fb, .inr (5, [.ref di, .ref gr, .ref re, .ref rl, .ref bu, .ref de])), (gr, .inr (2, [.ref gc, .ref gf, .ref gp, .ref gb, .ref gl, .int 0])), (bu, .inr (0, [.ref bs, .int 0, .int 0, .int 0])), (gc, .inl (cI, 12, .inl (fun _ => 0))), (gf, .inl (cI, 12, .inl (fun _ => 0))), (gp, .inl (cI, 12, .inl (fun _ => 0)))] := hD
      refine lv_if_ne (tgt := 33) hx hb d_FB_edge_20 (by decide) (fun b20 => ?_) (fun b20 => ?_)
      · refine lv_aload_n hx hb d_FB_edge_33 rfl (lv_at hl 0 rfl) ?_
        refine va_get (D := D) (ci := 5) (v := .ref gr) (C := R_FB) (T := F_FB) (N := 6) hx hb hts (fun w h => List.mem_cons_of_mem _ (u_FB w h)) hown hK hP 0 rfl rfl 1 (by decide) (hts _ (List.mem_cons_of_mem _ tw_147)) (fun _ h9 => h9) rfl d_FB_edge_34 ?_
        refine va_getN (D := D) (ci := 2) (v := .int 0) (C := R_Gr) (T := F_Gr) (N := 6) hx hb hts (fun w h => List.mem_cons_of_mem _ (u_Gr w h)) hown hK hP 1 rfl rfl 5 (by decide) (va_Nw.use rfl (hAm.1 _ (List.mem_of_getElem? (i := 9) rfl))) (fun _ h9 => h9) rfl d_FB_edge_37 ?_
        refine lv_bipush (v := 12) hx hb d_FB_edge_40 (by decide) ?_
        refine lv_icmp_ge (tgt := 55) hx hb d_FB_edge_42 (by decide) (fun b42 => absurd b42 (by decide)) (fun b42 => ?_)
        refine lv_aload_n hx hb d_FB_edge_45 rfl (lv_at hl 0 rfl) ?_
        refine va_get (D := D) (ci := 5) (v := .ref bu) (C := R_FB) (T := F_FB) (N := 6) hx hb hts (fun w h => List.mem_cons_of_mem _ (u_FB w h)) hown hK hP 0 rfl rfl 4 (by decide) (hts _ (List.mem_cons_of_mem _ tw_150)) (fun _ h9 => h9) rfl d_FB_edge_46 ?_
        have hPc := hP.sub (ws' := [(bu, .inr (0, [.ref bs, .int 0, .int 0, .int 0]))]) [2] rfl
        have hDc := hD.sub (ws' := [(bu, .inr (0, [.ref bs, .int 0, .int 0, .int 0]))]) [2] (by decide) rfl
        have hKc := hK.sub (tys' := []) [] rfl
        refine xgi (wsC := [(bu, .inr (0, [.ref bs, .int 0, .int 0, .int 0]))]) (wr := [(fb, .inr (5, [.ref di, .ref gr, .ref re, .ref rl, .ref bu, .ref de])), (gr, .inr (2, [.ref gc, .ref gf, .ref gp, .ref gb, .ref gl, .int 0])), (gc, .inl (cI, 12, .inl (fun _ => 0))), (gf, .inl (cI, 12, .inl (fun _ => 0))), (gp, .inl (cI, 12, .inl (fun _ => 0)))]) (va_runVN (As := []) (rest := []) ⟨hx, hb, hml, hown, hts⟩ (c_Bu_isUnderWay l  D bu bs _ ) ⟨(va_cnB 0 hts (x_good k_Bu_isUnderWay) rfl rfl rfl (hAm.1 _ (List.mem_of_getElem? (i := 23) rfl)) (hts _ (List.mem_cons_of_mem _ tw_7)) (by decide +kernel) ⟨Nat.le_of_ble_eq_true rfl, Nat.le_of_ble_eq_true rfl⟩), (hts _ (List.mem_cons_of_mem _ tw_171)), (hts _ (List.mem_cons_of_mem _ (x_sel 0 rfl)))⟩ (xP_V (va_recv (ci := 0) (q0 := 2) hK hP rfl rfl) hPc hKc hDc hAm hTh hAs hS) rfl rfl hl.1 rfl (lv_room (Nat.le_of_ble_eq_true rfl)) d_FB_edge_49 ⟨Nat.le_of_ble_eq_true rfl, Nat.le_of_ble_eq_true rfl⟩) hP hD hK hS hA [2] [0, 1, 3, 4, 5] rfl rfl (by decide) (by decide) (fun r4 _ H locs er4 hP hD hK hS => ?_)
        have er4 : r4 = 0 := er4
        subst er4
        have hK : va_K D cl [(cI, .int)] s := hK
        have hP : va_P D cl [(fb, .inr (5, [.ref di, .ref gr, .ref re, .ref rl, .ref bu, .ref de])), (gr, .inr (2, [.ref gc, .ref gf, .ref gp, .ref gb, .ref gl, .int 0])), (gc, .inl (cI, 12, .inl (fun _ => 0))), (gf, .inl (cI, 12, .inl (fun _ => 0))), (gp, .inl (cI, 12, .inl (fun _ => 0))), (bu, .inr (0, [.ref bs, .int 0, .int 0, .int 0]))] H := hP
        have hD : va_D A [(fb, .inr (5, [.ref di, .ref gr, .ref re, .ref rl, .ref bu, .ref de])), (gr, .inr (2, [.ref gc, .ref gf, .ref gp, .ref gb, .ref gl, .int 0])), (gc, .inl (cI, 12, .inl (fun _ => 0))), (gf, .inl (cI, 12, .inl (fun _ => 0))), (gp, .inl (cI, 12, .inl (fun _ => 0))), (bu, .inr (0, [.ref bs, .int 0, .int 0, .int 0]))] := hD
        refine lv_if_eq (tgt := 65) hx hb d_FB_edge_52 (by decide) (fun b52 => ?_) (fun b52 => absurd b52 (by decide))
        refine lv_aload_n hx hb d_FB_edge_65 rfl (lv_at hl 0 rfl) ?_
        refine va_get (D := D) (ci := 5) (v := .ref gr) (C := R_FB) (T := F_FB) (N := 6) hx hb hts (fun w h => List.mem_cons_of_mem _ (u_FB w h)) hown hK hP 0 rfl rfl 1 (by decide) (hts _ (List.mem_cons_of_mem _ tw_147)) (fun _ h9 => h9) rfl d_FB_edge_66 ?_
        refine lv_iload_n hx hb d_FB_edge_69 rfl (lv_at hl 1 rfl) ?_
        refine lv_iload_n hx hb d_FB_edge_70 rfl (lv_at hl 2 rfl) ?_
        refine lv_iload_n hx hb d_FB_edge_71 rfl (lv_at hl 3 rfl) ?_
        have hPc := hP.sub (ws' := [(gr, .inr (2, [.ref gc, .ref gf, .ref gp, .ref gb, .ref gl, .int 0])), (gc, .inl (cI, 12, .inl (fun _ => 0))), (gf, .inl (cI, 12, .inl (fun _ => 0))), (gp, .inl (cI, 12, .inl (fun _ => 0)))]) [1, 2, 3, 4] rfl
        have hDc := hD.sub (ws' := [(gr, .inr (2, [.ref gc, .ref gf, .ref gp, .ref gb, .ref gl, .int 0])), (gc, .inl (cI, 12, .inl (fun _ => 0))), (gf, .inl (cI, 12, .inl (fun _ => 0))), (gp, .inl (cI, 12, .inl (fun _ => 0)))]) [1, 2, 3, 4] (by decide) rfl
        have hKc := hK.sub (tys' := [(cI, .int)]) [0] rfl
        refine xgi (wsC := [(gr, .inr (2, [.ref gc, .ref gf, .ref gp, .ref gb, .ref gl, .int 0])), (gc, .inl (cI, 12, .inl (fun _ => 0))), (gf, .inl (cI, 12, .inl (fun _ => 0))), (gp, .inl (cI, 12, .inl (fun _ => 0)))]) (wr := [(fb, .inr (5, [.ref di, .ref gr, .ref re, .ref rl, .ref bu, .ref de])), (bu, .inr (0, [.ref bs, .int 0, .int 0, .int 0]))]) (va_runVN (As := [.int x, .int y, .int z]) (rest := []) ⟨hx, hb, hml, hown, hts⟩ (c_Gr_addEdge l  D gr gc gf gp gb gl cI x y z _ ) ⟨(va_cnB 3 hts (x_good k_Gr_addEdge) rfl rfl rfl (hAm.1 _ (List.mem_of_getElem? (i := 37) rfl)) (hts _ (List.mem_cons_of_mem _ tw_3)) (by decide +kernel) ⟨Nat.le_of_ble_eq_true rfl, Nat.le_of_ble_eq_true rfl⟩), (hts _ (List.mem_cons_of_mem _ tw_336)), (hts _ (List.mem_cons_of_mem _ (x_sel 13 rfl)))⟩ (xP_V (va_recv (ci := 2) (q0 := 1) hK hP rfl rfl) hPc hKc hDc hAm hTh hAs hS) rfl rfl hl.1 rfl (lv_room (Nat.le_of_ble_eq_true rfl)) d_FB_edge_72 ⟨Nat.le_of_ble_eq_true rfl, Nat.le_of_ble_eq_true rfl⟩) hP hD hK hS hA [1, 2, 3, 4] [0, 5] rfl rfl (by decide) (by decide) (fun r5 _ H locs er5 hP hD hK hS => ?_)
        have er5 : r5 = 0 := er5
        subst er5
        have hK : va_K D cl [(cI, .int)] s := hK
        have hP : va_P D cl [(fb, .inr (5, [.ref di, .ref gr, .ref re, .ref rl, .ref bu, .ref de])), (bu, .inr (0, [.ref bs, .int 0, .int 0, .int 0]))] H := hP
        have hD : va_D A [(fb, .inr (5, [.ref di, .ref gr, .ref re, .ref rl, .ref bu, .ref de])), (bu, .inr (0, [.ref bs, .int 0, .int 0, .int 0]))] := hD
        exact xri () B d_FB_edge_75 (rfl) (hP.sub (ws' := []) [] rfl) (hK.sub (tys' := []) [] rfl) (hD.sub (ws' := []) [] (by decide) rfl) hS (Nat.le_of_ble_eq_true rfl) (Nat.le_of_ble_eq_true rfl)
      · first | exact absurd b4 (xne1 h.1) | exact absurd b11 (xne1 h.2.1) | exact absurd b20 (xne1 h.2.2)
theorem d_FB_edge_23 : decode b_FB_edge 23 = .ok (.new 65, 3) := by decide +kernel
theorem d_FB_edge_26 : decode b_FB_edge 26 = .ok (.dup, 1) := by decide +kernel
theorem d_FB_edge_27 : decode b_FB_edge 27 = .ok (.ldc 67, 2) := by decide +kernel
theorem d_FB_edge_29 : decode b_FB_edge 29 = .ok (.invokespecial 69, 3) := by decide +kernel
theorem d_FB_edge_32 : decode b_FB_edge 32 = .ok (.athrow, 1) := by decide +kernel
set_option maxRecDepth 20000 in
set_option maxHeartbeats 4000000 in
theorem c_FB_edge_t (l : Launch) (hfl : l.flags = pinnedFlags ++ [noTraceFlag]) (D : va_G) (fb : Nat) (gr : Nat) (bu : Nat) (gc : Nat) (gf : Nat) (gp : Nat) (di : Nat) (re : Nat) (rl : Nat) (de : Nat) (gb : Nat) (gl : Nat) (bs : Nat) (cI : ClassId) (x : Int32) (y : Int32) (z : Int32) (sz : Nat) (h : ¬ xokE x y z) : xMt l y_FB_edge w_FB_edge { frames := 7, cells := 1, slots := 6, locals := 110 } D cl [.ref fb, .int x, .int y, .int z] sz [(cI, .int)] [(fb, .inr (5, [.ref di, .ref gr, .ref re, .ref rl, .ref bu, .ref de])), (gr, .inr (2, [.ref gc, .ref gf, .ref gp, .ref gb, .ref gl, .int 0])), (bu, .inr (0, [.ref bs, .int 0, .int 0, .int 0])), (gc, .inl (cI, 12, .inl (fun _ => 0))), (gf, .inl (cI, 12, .inl (fun _ => 0))), (gp, .inl (cI, 12, .inl (fun _ => 0)))] "java/lang/IllegalArgumentException" := by
  refine xMt_of (by decide +kernel) rfl (Nat.le_of_ble_eq_true rfl) ?_
  intro p e s m args below meth c ls A B hAe hA hsz hP hK hD hS hAm hTh hAs hl
  obtain ⟨⟨hx, hb, hml, hown, hts⟩, hret, hlk, hnm, hemp⟩ := id B
  have hl : lv_has ls 4 [(0, .ref fb), (1, .int x), (2, .int y), (3, .int z)] := hl
  refine lv_iload_n hx hb d_FB_edge_0 rfl (lv_at hl 1 rfl) ?_
  have hPc := hP.sub (ws' := []) [] rfl
  have hDc := hD.sub (ws' := []) [] (by decide) rfl
  have hKc := hK.sub (tys' := []) [] rfl
  refine xgi (wsC := []) (wr := [(fb, .inr (5, [.ref di, .ref gr, .ref re, .ref rl, .ref bu, .ref de])), (gr, .inr (2, [.ref gc, .ref gf, .ref gp, .ref gb, .ref gl, .int 0])), (bu, .inr (0, [.ref bs, .int 0, .int 0, .int 0])), (gc, .inl (cI, 12, .inl (fun _ => 0))), (gf, .inl (cI, 12, .inl (fun _ => 0))), (gp, .inl (cI, 12, .inl (fun _ => 0)))]) (va_runS (As := [.int x]) (rest := []) ⟨hx, hb, hml, hown, hts⟩ (c_FB_isCommand l  D x _ ) ⟨(callB_of 1 hts (x_good k_FB_isCommand) rfl rfl rfl (hts _ (List.mem_cons_of_mem _ tw_1)) (hts _ (List.mem_cons_of_mem _ tw_241)) (by decide +kernel) ⟨Nat.le_of_ble_eq_true rfl, Nat.le_of_ble_eq_true rfl⟩), (hts _ (List.mem_cons_of_mem _ tw_242))⟩ (xP_S hPc hKc hDc hAm hTh hAs hS) rfl rfl hl.1 rfl (lv_room (Nat.le_of_ble_eq_true rfl)) d_FB_edge_1 ⟨Nat.le_of_ble_eq_true rfl, Nat.le_of_ble_eq_true rfl⟩) hP hD hK hS hA [] [0, 1, 2, 3, 4, 5] rfl rfl (by decide) (by decide) (fun r1 _ H locs er1 hP hD hK hS => ?_)
  have er1 : r1 = xIn x 0 65535 := er1
  subst er1
  have hK : va_K D cl [(cI, .int)] s := hK
  have hP : va_P D cl [(fb, .inr (5, [.ref di, .ref gr, .ref re, .ref rl, .ref bu, .ref de])), (gr, .inr (2, [.ref gc, .ref gf, .ref gp, .ref gb, .ref gl, .int 0])), (bu, .inr (0, [.ref bs, .int 0, .int 0, .int 0])), (gc, .inl (cI, 12, .inl (fun _ => 0))), (gf, .inl (cI, 12, .inl (fun _ => 0))), (gp, .inl (cI, 12, .inl (fun _ => 0)))] H := hP
  have hD : va_D A [(fb, .inr (5, [.ref di, .ref gr, .ref re, .ref rl, .ref bu, .ref de])), (gr, .inr (2, [.ref gc, .ref gf, .ref gp, .ref gb, .ref gl, .int 0])), (bu, .inr (0, [.ref bs, .int 0, .int 0, .int 0])), (gc, .inl (cI, 12, .inl (fun _ => 0))), (gf, .inl (cI, 12, .inl (fun _ => 0))), (gp, .inl (cI, 12, .inl (fun _ => 0)))] := hD
  refine lv_if_eq (tgt := 23) hx hb d_FB_edge_4 (by decide) (fun b4 => ?_) (fun b4 => ?_)
  · obtain ⟨qz, hZ⟩ := hAm.2.1 _ (List.mem_of_getElem? (i := 0) rfl)
    exact xt_throw hx hb (hml.trans hl.1.symm) hfl hlk hemp (names := ["java/lang/RuntimeException", "java/lang/Exception"]) hown (hts _ (List.mem_cons_of_mem _ tw_249)) (hts _ (List.mem_cons_of_mem _ tw_250)) (hts _ (List.mem_cons_of_mem _ tw_12)) (by decide +kernel) (by decide +kernel) (xOwn own_IAE hts hAm hTh) hZ hS hAs (Nat.le_of_ble_eq_true rfl) (Nat.le_of_ble_eq_true rfl) (Nat.le_of_ble_eq_true rfl) (Nat.le_of_ble_eq_true rfl) (by decide) (Nat.le_of_ble_eq_true rfl) d_FB_edge_23 d_FB_edge_26 d_FB_edge_27 d_FB_edge_29 d_FB_edge_32
  · refine lv_iload_n hx hb d_FB_edge_7 rfl (lv_at hl 2 rfl) ?_
    have hPc := hP.sub (ws' := []) [] rfl
    have hDc := hD.sub (ws' := []) [] (by decide) rfl
    have hKc := hK.sub (tys' := []) [] rfl
    refine xgi (wsC := []) (wr := [(fb, .inr (5, [.ref di, .ref gr, .ref re, .ref rl, .ref bu, .ref de])), (gr, .inr (2, [.ref gc, .ref gf, .ref gp, .ref gb, .ref gl, .int 0])), (bu, .inr (0, [.ref bs, .int 0, .int 0, .int 0])), (gc, .inl (cI, 12, .inl (fun _ => 0))), (gf, .inl (cI, 12, .inl (fun _ => 0))), (gp, .inl (cI, 12, .inl (fun _ => 0)))]) (va_runS (As := [.int y]) (rest := []) ⟨hx, hb, hml, hown, hts⟩ (c_FB_areFlags l  D y _ ) ⟨(callB_of 1 hts (x_good k_FB_areFlags) rfl rfl rfl (hts _ (List.mem_cons_of_mem _ tw_1)) (hts _ (List.mem_cons_of_mem _ tw_246)) (by decide +kernel) ⟨Nat.le_of_ble_eq_true rfl, Nat.le_of_ble_eq_true rfl⟩), (hts _ (List.mem_cons_of_mem _ tw_247))⟩ (xP_S hPc hKc hDc hAm hTh hAs hS) rfl rfl hl.1 rfl (lv_room (Nat.le_of_ble_eq_true rfl)) d_FB_edge_8 ⟨Nat.le_of_ble_eq_true rfl, Nat.le_of_ble_eq_true rfl⟩) hP hD hK hS hA [] [0, 1, 2, 3, 4, 5] rfl rfl (by decide) (by decide) (fun r2 _ H locs er2 hP hD hK hS => ?_)
    have er2 : r2 = xFl y := er2
    subst er2
    have hK : va_K D cl [(cI, .int)] s := hK
    have hP : va_P D cl [(fb, .inr (5, [.ref di, .ref gr, .ref re, .ref rl, .ref bu, .ref de])), (gr, .inr (2, [.ref gc, .ref gf, .ref gp, .ref gb, .ref gl, .int 0])), (bu, .inr (0, [.ref bs, .int 0, .int 0, .int 0])), (gc, .inl (cI, 12, .inl (fun _ => 0))), (gf, .inl (cI, 12, .inl (fun _ => 0))), (gp, .inl (cI, 12, .inl (fun _ => 0)))] H := hP
    have hD : va_D A [(fb, .inr (5, [.ref di, .ref gr, .ref re, .ref rl, .ref bu, .ref de])), (gr, .inr (2, [.ref gc, .ref gf, .ref gp, .ref gb, .ref gl, .int 0])), (bu, .inr (0, [.ref bs, .int 0, .int 0, .int 0])), (gc, .inl (cI, 12, .inl (fun _ => 0))), (gf, .inl (cI, 12, .inl (fun _ => 0))), (gp, .inl (cI, 12, .inl (fun _ => 0)))] := hD
    refine lv_if_eq (tgt := 23) hx hb d_FB_edge_11 (by decide) (fun b11 => ?_) (fun b11 => ?_)
    · obtain ⟨qz, hZ⟩ := hAm.2.1 _ (List.mem_of_getElem? (i := 0) rfl)
      exact xt_throw hx hb (hml.trans hl.1.symm) hfl hlk hemp (names := ["java/lang/RuntimeException", "java/lang/Exception"]) hown (hts _ (List.mem_cons_of_mem _ tw_249)) (hts _ (List.mem_cons_of_mem _ tw_250)) (hts _ (List.mem_cons_of_mem _ tw_12)) (by decide +kernel) (by decide +kernel) (xOwn own_IAE hts hAm hTh) hZ hS hAs (Nat.le_of_ble_eq_true rfl) (Nat.le_of_ble_eq_true rfl) (Nat.le_of_ble_eq_true rfl) (Nat.le_of_ble_eq_true rfl) (by decide) (Nat.le_of_ble_eq_true rfl) d_FB_edge_23 d_FB_edge_26 d_FB_edge_27 d_FB_edge_29 d_FB_edge_32
    · refine lv_iload_n hx hb d_FB_edge_14 rfl (lv_at hl 3 rfl) ?_
      refine lv_iconst (v := 0) hx hb d_FB_edge_15 (by decide) ?_
      refine lv_iconst (v := 2) hx hb d_FB_edge_16 (by decide) ?_
      have hPc := hP.sub (ws' := []) [] rfl
      have hDc := hD.sub (ws' := []) [] (by decide) rfl
      have hKc := hK.sub (tys' := []) [] rfl
      refine xgi (wsC := []) (wr := [(fb, .inr (5, [.ref di, .ref gr, .ref re, .ref rl, .ref bu, .ref de])), (gr, .inr (2, [.ref gc, .ref gf, .ref gp, .ref gb, .ref gl, .int 0])), (bu, .inr (0, [.ref bs, .int 0, .int 0, .int 0])), (gc, .inl (cI, 12, .inl (fun _ => 0))), (gf, .inl (cI, 12, .inl (fun _ => 0))), (gp, .inl (cI, 12, .inl (fun _ => 0)))]) (va_runS (As := [.int z, .int 0, .int 2]) (rest := []) ⟨hx, hb, hml, hown, hts⟩ (c_FB_isIn l  D z 0 2 _ ) ⟨(callB_of 3 hts (x_good k_FB_isIn) rfl rfl rfl (hts _ (List.mem_cons_of_mem _ tw_1)) (hts _ (List.mem_cons_of_mem _ tw_245)) (by decide +kernel) ⟨Nat.le_of_ble_eq_true rfl, Nat.le_of_ble_eq_true rfl⟩), (hts _ (List.mem_cons_of_mem _ tw_226))⟩ (xP_S hPc hKc hDc hAm hTh hAs hS) rfl rfl hl.1 rfl (lv_room (Nat.le_of_ble_eq_true rfl)) d_FB_edge_17 ⟨Nat.le_of_ble_eq_true rfl, Nat.le_of_ble_eq_true rfl⟩) hP hD hK hS hA [] [0, 1, 2, 3, 4, 5] rfl rfl (by decide) (by decide) (fun r3 _ H locs er3 hP hD hK hS => ?_)
      have er3 : r3 = xIn z 0 2 := er3
      subst er3
      have hK : va_K D cl [(cI, .int)] s := hK
      have hP : va_P D cl [(fb, .inr (5, [.ref di, .ref gr, .ref re, .ref rl, .ref bu, .ref de])), (gr, .inr (2, [.ref gc, .ref gf, .ref gp, .ref gb, .ref gl, .int 0])), (bu, .inr (0, [.ref bs, .int 0, .int 0, .int 0])), (gc, .inl (cI, 12, .inl (fun _ => 0))), (gf, .inl (cI, 12, .inl (fun _ => 0))), (gp, .inl (cI, 12, .inl (fun _ => 0)))] H := hP
      have hD : va_D A [(fb, .inr (5, [.ref di, .ref gr, .ref re, .ref rl, .ref bu, .ref de])), (gr, .inr (2, [.ref gc, .ref gf, .ref gp, .ref gb, .ref gl, .int 0])), (bu, .inr (0, [.ref bs, .int 0, .int 0, .int 0])), (gc, .inl (cI, 12, .inl (fun _ => 0))), (gf, .inl (cI, 12, .inl (fun _ => 0))), (gp, .inl (cI, 12, .inl (fun _ => 0)))] := hD
      refine lv_if_ne (tgt := 33) hx hb d_FB_edge_20 (by decide) (fun b20 => ?_) (fun b20 => ?_)
      · exact absurd ⟨xne0 (xIn_bin _ _ _) b4, xne0 (xFl_bin _) b11, xne0 (xIn_bin _ _ _) b20⟩ h
      · obtain ⟨qz, hZ⟩ := hAm.2.1 _ (List.mem_of_getElem? (i := 0) rfl)
        exact xt_throw hx hb (hml.trans hl.1.symm) hfl hlk hemp (names := ["java/lang/RuntimeException", "java/lang/Exception"]) hown (hts _ (List.mem_cons_of_mem _ tw_249)) (hts _ (List.mem_cons_of_mem _ tw_250)) (hts _ (List.mem_cons_of_mem _ tw_12)) (by decide +kernel) (by decide +kernel) (xOwn own_IAE hts hAm hTh) hZ hS hAs (Nat.le_of_ble_eq_true rfl) (Nat.le_of_ble_eq_true rfl) (Nat.le_of_ble_eq_true rfl) (Nat.le_of_ble_eq_true rfl) (by decide) (Nat.le_of_ble_eq_true rfl) d_FB_edge_23 d_FB_edge_26 d_FB_edge_27 d_FB_edge_29 d_FB_edge_32
theorem d_FB_link_0 : decode b_FB_link 0 = .ok (.aload_n 0, 1) := by decide +kernel
theorem d_FB_link_1 : decode b_FB_link 1 = .ok (.getfield 19, 3) := by decide +kernel
theorem d_FB_link_4 : decode b_FB_link 4 = .ok (.iload_n 1, 1) := by decide +kernel
theorem d_FB_link_5 : decode b_FB_link 5 = .ok (.invokevirtual 89, 3) := by decide +kernel
theorem d_FB_link_8 : decode b_FB_link 8 = .ok (.ifCond .eq (19), 3) := by decide +kernel
theorem d_FB_link_27 : decode b_FB_link 27 = .ok (.new 65, 3) := by decide +kernel
theorem d_FB_link_30 : decode b_FB_link 30 = .ok (.dup, 1) := by decide +kernel
theorem d_FB_link_31 : decode b_FB_link 31 = .ok (.ldc 95, 2) := by decide +kernel
theorem d_FB_link_33 : decode b_FB_link 33 = .ok (.invokespecial 69, 3) := by decide +kernel
theorem d_FB_link_36 : decode b_FB_link 36 = .ok (.athrow, 1) := by decide +kernel
set_option maxRecDepth 20000 in
set_option maxHeartbeats 4000000 in
theorem c_FB_link_t (l : Launch) (hfl : l.flags = pinnedFlags ++ [noTraceFlag]) (D : va_G) (fb : Nat) (gr : Nat) (di : Nat) (re : Nat) (rl : Nat) (bu : Nat) (de : Nat) (gc : Nat) (gf : Nat) (gp : Nat) (gb : Nat) (gl : Nat) (x : Int32) (y : Int32) (z : Int32) (sz : Nat)  : xMt l y_FB_link w_FB_link { frames := 7, cells := 1, slots := 6, locals := 110 } D cl [.ref fb, .int x, .int y, .int z] sz [] [(fb, .inr (5, [.ref di, .ref gr, .ref re, .ref rl, .ref bu, .ref de])), (gr, .inr (2, [.ref gc, .ref gf, .ref gp, .ref gb, .ref gl, .int 0]))] "java/lang/IllegalArgumentException" := by
  refine xMt_of (by decide +kernel) rfl (Nat.le_of_ble_eq_true rfl) ?_
  intro p e s m args below meth c ls A B hAe hA hsz hP hK hD hS hAm hTh hAs hl
  obtain ⟨⟨hx, hb, hml, hown, hts⟩, hret, hlk, hnm, hemp⟩ := id B
  have hl : lv_has ls 4 [(0, .ref fb), (1, .int x), (2, .int y), (3, .int z)] := hl
  refine lv_aload_n hx hb d_FB_link_0 rfl (lv_at hl 0 rfl) ?_
  refine va_get (D := D) (ci := 5) (v := .ref gr) (C := R_FB) (T := F_FB) (N := 6) hx hb hts (fun w h => List.mem_cons_of_mem _ (u_FB w h)) hown hK hP 0 rfl rfl 1 (by decide) (hts _ (List.mem_cons_of_mem _ tw_147)) (fun _ h9 => h9) rfl d_FB_link_1 ?_
  refine lv_iload_n hx hb d_FB_link_4 rfl (lv_at hl 1 rfl) ?_
  have hPc := hP.sub (ws' := [(gr, .inr (2, [.ref gc, .ref gf, .ref gp, .ref gb, .ref gl, .int 0]))]) [1] rfl
  have hDc := hD.sub (ws' := [(gr, .inr (2, [.ref gc, .ref gf, .ref gp, .ref gb, .ref gl, .int 0]))]) [1] (by decide) rfl
  have hKc := hK.sub (tys' := []) [] rfl
  refine xgi (wsC := [(gr, .inr (2, [.ref gc, .ref gf, .ref gp, .ref gb, .ref gl, .int 0]))]) (wr := [(fb, .inr (5, [.ref di, .ref gr, .ref re, .ref rl, .ref bu, .ref de]))]) (va_runVN (As := [.int x]) (rest := []) ⟨hx, hb, hml, hown, hts⟩ (c_Gr_hasEdge l  D gr gc gf gp gb gl x _ ) ⟨(va_cnB 1 hts (x_good k_Gr_hasEdge) rfl rfl rfl (hAm.1 _ (List.mem_of_getElem? (i := 38) rfl)) (hts _ (List.mem_cons_of_mem _ tw_3)) (by decide +kernel) ⟨Nat.le_of_ble_eq_true rfl, Nat.le_of_ble_eq_true rfl⟩), (hts _ (List.mem_cons_of_mem _ tw_347)), (hts _ (List.mem_cons_of_mem _ (x_sel 14 rfl)))⟩ (xP_V (va_recv (ci := 2) (q0 := 1) hK hP rfl rfl) hPc hKc hDc hAm hTh hAs hS) rfl rfl hl.1 rfl (lv_room (Nat.le_of_ble_eq_true rfl)) d_FB_link_5 ⟨Nat.le_of_ble_eq_true rfl, Nat.le_of_ble_eq_true rfl⟩) hP hD hK hS hA [1] [0] rfl rfl (by decide) (by decide) (fun r1 _ H locs er1 hP hD hK hS => ?_)
  have er1 : r1 = 0 := er1
  subst er1
  have hK : va_K D cl [] s := hK
  have hP : va_P D cl [(fb, .inr (5, [.ref di, .ref gr, .ref re, .ref rl, .ref bu, .ref de])), (gr, .inr (2, [.ref gc, .ref gf, .ref gp, .ref gb, .ref gl, .int 0]))] H := hP
  have hD : va_D A [(fb, .inr (5, [.ref di, .ref gr, .ref re, .ref rl, .ref bu, .ref de])), (gr, .inr (2, [.ref gc, .ref gf, .ref gp, .ref gb, .ref gl, .int 0]))] := hD
  refine lv_if_eq (tgt := 27) hx hb d_FB_link_8 (by decide) (fun b8 => ?_) (fun b8 => absurd b8 (by decide))
  obtain ⟨qz, hZ⟩ := hAm.2.1 _ (List.mem_of_getElem? (i := 2) rfl)
  exact xt_throw hx hb (hml.trans hl.1.symm) hfl hlk hemp (names := ["java/lang/RuntimeException", "java/lang/Exception"]) hown (hts _ (List.mem_cons_of_mem _ tw_249)) (hts _ (List.mem_cons_of_mem _ tw_250)) (hts _ (List.mem_cons_of_mem _ tw_12)) (by decide +kernel) (by decide +kernel) (xOwn own_IAE hts hAm hTh) hZ hS hAs (Nat.le_of_ble_eq_true rfl) (Nat.le_of_ble_eq_true rfl) (Nat.le_of_ble_eq_true rfl) (Nat.le_of_ble_eq_true rfl) (by decide) (Nat.le_of_ble_eq_true rfl) d_FB_link_27 d_FB_link_30 d_FB_link_31 d_FB_link_33 d_FB_link_36
theorem d_FB_reads_0 : decode b_FB_reads 0 = .ok (.aload_n 0, 1) := by decide +kernel
theorem d_FB_reads_1 : decode b_FB_reads 1 = .ok (.getfield 19, 3) := by decide +kernel
theorem d_FB_reads_4 : decode b_FB_reads 4 = .ok (.iload_n 1, 1) := by decide +kernel
theorem d_FB_reads_5 : decode b_FB_reads 5 = .ok (.invokevirtual 89, 3) := by decide +kernel
theorem d_FB_reads_8 : decode b_FB_reads 8 = .ok (.ifCond .eq (21), 3) := by decide +kernel
theorem d_FB_reads_29 : decode b_FB_reads 29 = .ok (.new 65, 3) := by decide +kernel
theorem d_FB_reads_32 : decode b_FB_reads 32 = .ok (.dup, 1) := by decide +kernel
theorem d_FB_reads_33 : decode b_FB_reads 33 = .ok (.ldc 110, 2) := by decide +kernel
theorem d_FB_reads_35 : decode b_FB_reads 35 = .ok (.invokespecial 69, 3) := by decide +kernel
theorem d_FB_reads_38 : decode b_FB_reads 38 = .ok (.athrow, 1) := by decide +kernel
set_option maxRecDepth 20000 in
set_option maxHeartbeats 4000000 in
theorem c_FB_reads_t (l : Launch) (hfl : l.flags = pinnedFlags ++ [noTraceFlag]) (D : va_G) (fb : Nat) (gr : Nat) (di : Nat) (re : Nat) (rl : Nat) (bu : Nat) (de : Nat) (gc : Nat) (gf : Nat) (gp : Nat) (gb : Nat) (gl : Nat) (x : Int32) (y : Int32) (z : Int32) (sz : Nat)  : xMt l y_FB_reads w_FB_reads { frames := 7, cells := 1, slots := 6, locals := 110 } D cl [.ref fb, .int x, .int y, .int z] sz [] [(fb, .inr (5, [.ref di, .ref gr, .ref re, .ref rl, .ref bu, .ref de])), (gr, .inr (2, [.ref gc, .ref gf, .ref gp, .ref gb, .ref gl, .int 0]))] "java/lang/IllegalArgumentException" := by
  refine xMt_of (by decide +kernel) rfl (Nat.le_of_ble_eq_true rfl) ?_
  intro p e s m args below meth c ls A B hAe hA hsz hP hK hD hS hAm hTh hAs hl
  obtain ⟨⟨hx, hb, hml, hown, hts⟩, hret, hlk, hnm, hemp⟩ := id B
  have hl : lv_has ls 4 [(0, .ref fb), (1, .int x), (2, .int y), (3, .int z)] := hl
  refine lv_aload_n hx hb d_FB_reads_0 rfl (lv_at hl 0 rfl) ?_
  refine va_get (D := D) (ci := 5) (v := .ref gr) (C := R_FB) (T := F_FB) (N := 6) hx hb hts (fun w h => List.mem_cons_of_mem _ (u_FB w h)) hown hK hP 0 rfl rfl 1 (by decide) (hts _ (List.mem_cons_of_mem _ tw_147)) (fun _ h9 => h9) rfl d_FB_reads_1 ?_
  refine lv_iload_n hx hb d_FB_reads_4 rfl (lv_at hl 1 rfl) ?_
  have hPc := hP.sub (ws' := [(gr, .inr (2, [.ref gc, .ref gf, .ref gp, .ref gb, .ref gl, .int 0]))]) [1] rfl
  have hDc := hD.sub (ws' := [(gr, .inr (2, [.ref gc, .ref gf, .ref gp, .ref gb, .ref gl, .int 0]))]) [1] (by decide) rfl
  have hKc := hK.sub (tys' := []) [] rfl
  refine xgi (wsC := [(gr, .inr (2, [.ref gc, .ref gf, .ref gp, .ref gb, .ref gl, .int 0]))]) (wr := [(fb, .inr (5, [.ref di, .ref gr, .ref re, .ref rl, .ref bu, .ref de]))]) (va_runVN (As := [.int x]) (rest := []) ⟨hx, hb, hml, hown, hts⟩ (c_Gr_hasEdge l  D gr gc gf gp gb gl x _ ) ⟨(va_cnB 1 hts (x_good k_Gr_hasEdge) rfl rfl rfl (hAm.1 _ (List.mem_of_getElem? (i := 38) rfl)) (hts _ (List.mem_cons_of_mem _ tw_3)) (by decide +kernel) ⟨Nat.le_of_ble_eq_true rfl, Nat.le_of_ble_eq_true rfl⟩), (hts _ (List.mem_cons_of_mem _ tw_347)), (hts _ (List.mem_cons_of_mem _ (x_sel 14 rfl)))⟩ (xP_V (va_recv (ci := 2) (q0 := 1) hK hP rfl rfl) hPc hKc hDc hAm hTh hAs hS) rfl rfl hl.1 rfl (lv_room (Nat.le_of_ble_eq_true rfl)) d_FB_reads_5 ⟨Nat.le_of_ble_eq_true rfl, Nat.le_of_ble_eq_true rfl⟩) hP hD hK hS hA [1] [0] rfl rfl (by decide) (by decide) (fun r1 _ H locs er1 hP hD hK hS => ?_)
  have er1 : r1 = 0 := er1
  subst er1
  have hK : va_K D cl [] s := hK
  have hP : va_P D cl [(fb, .inr (5, [.ref di, .ref gr, .ref re, .ref rl, .ref bu, .ref de])), (gr, .inr (2, [.ref gc, .ref gf, .ref gp, .ref gb, .ref gl, .int 0]))] H := hP
  have hD : va_D A [(fb, .inr (5, [.ref di, .ref gr, .ref re, .ref rl, .ref bu, .ref de])), (gr, .inr (2, [.ref gc, .ref gf, .ref gp, .ref gb, .ref gl, .int 0]))] := hD
  refine lv_if_eq (tgt := 29) hx hb d_FB_reads_8 (by decide) (fun b8 => ?_) (fun b8 => absurd b8 (by decide))
  obtain ⟨qz, hZ⟩ := hAm.2.1 _ (List.mem_of_getElem? (i := 4) rfl)
  exact xt_throw hx hb (hml.trans hl.1.symm) hfl hlk hemp (names := ["java/lang/RuntimeException", "java/lang/Exception"]) hown (hts _ (List.mem_cons_of_mem _ tw_249)) (hts _ (List.mem_cons_of_mem _ tw_250)) (hts _ (List.mem_cons_of_mem _ tw_12)) (by decide +kernel) (by decide +kernel) (xOwn own_IAE hts hAm hTh) hZ hS hAs (Nat.le_of_ble_eq_true rfl) (Nat.le_of_ble_eq_true rfl) (Nat.le_of_ble_eq_true rfl) (Nat.le_of_ble_eq_true rfl) (by decide) (Nat.le_of_ble_eq_true rfl) d_FB_reads_29 d_FB_reads_32 d_FB_reads_33 d_FB_reads_35 d_FB_reads_38
theorem d_FB_command_0 : decode b_FB_command 0 = .ok (.aload_n 0, 1) := by decide +kernel
theorem d_FB_command_1 : decode b_FB_command 1 = .ok (.getfield 19, 3) := by decide +kernel
theorem d_FB_command_4 : decode b_FB_command 4 = .ok (.iload_n 1, 1) := by decide +kernel
theorem d_FB_command_5 : decode b_FB_command 5 = .ok (.invokevirtual 89, 3) := by decide +kernel
theorem d_FB_command_8 : decode b_FB_command 8 = .ok (.ifCond .eq (10), 3) := by decide +kernel
theorem d_FB_command_18 : decode b_FB_command 18 = .ok (.new 65, 3) := by decide +kernel
theorem d_FB_command_21 : decode b_FB_command 21 = .ok (.dup, 1) := by decide +kernel
theorem d_FB_command_22 : decode b_FB_command 22 = .ok (.ldc 128, 2) := by decide +kernel
theorem d_FB_command_24 : decode b_FB_command 24 = .ok (.invokespecial 69, 3) := by decide +kernel
theorem d_FB_command_27 : decode b_FB_command 27 = .ok (.athrow, 1) := by decide +kernel
set_option maxRecDepth 20000 in
set_option maxHeartbeats 4000000 in
theorem c_FB_command_t (l : Launch) (hfl : l.flags = pinnedFlags ++ [noTraceFlag]) (D : va_G) (fb : Nat) (gr : Nat) (di : Nat) (re : Nat) (rl : Nat) (bu : Nat) (de : Nat) (gc : Nat) (gf : Nat) (gp : Nat) (gb : Nat) (gl : Nat) (x : Int32) (y : Int32) (sz : Nat)  : xMt l y_FB_command w_FB_command { frames := 7, cells := 1, slots := 6, locals := 110 } D cl [.ref fb, .int x, .int y] sz [] [(fb, .inr (5, [.ref di, .ref gr, .ref re, .ref rl, .ref bu, .ref de])), (gr, .inr (2, [.ref gc, .ref gf, .ref gp, .ref gb, .ref gl, .int 0]))] "java/lang/IllegalArgumentException" := by
  refine xMt_of (by decide +kernel) rfl (Nat.le_of_ble_eq_true rfl) ?_
  intro p e s m args below meth c ls A B hAe hA hsz hP hK hD hS hAm hTh hAs hl
  obtain ⟨⟨hx, hb, hml, hown, hts⟩, hret, hlk, hnm, hemp⟩ := id B
  have hl : lv_has ls 3 [(0, .ref fb), (1, .int x), (2, .int y)] := hl
  refine lv_aload_n hx hb d_FB_command_0 rfl (lv_at hl 0 rfl) ?_
  refine va_get (D := D) (ci := 5) (v := .ref gr) (C := R_FB) (T := F_FB) (N := 6) hx hb hts (fun w h => List.mem_cons_of_mem _ (u_FB w h)) hown hK hP 0 rfl rfl 1 (by decide) (hts _ (List.mem_cons_of_mem _ tw_147)) (fun _ h9 => h9) rfl d_FB_command_1 ?_
  refine lv_iload_n hx hb d_FB_command_4 rfl (lv_at hl 1 rfl) ?_
  have hPc := hP.sub (ws' := [(gr, .inr (2, [.ref gc, .ref gf, .ref gp, .ref gb, .ref gl, .int 0]))]) [1] rfl
  have hDc := hD.sub (ws' := [(gr, .inr (2, [.ref gc, .ref gf, .ref gp, .ref gb, .ref gl, .int 0]))]) [1] (by decide) rfl
  have hKc := hK.sub (tys' := []) [] rfl
  refine xgi (wsC := [(gr, .inr (2, [.ref gc, .ref gf, .ref gp, .ref gb, .ref gl, .int 0]))]) (wr := [(fb, .inr (5, [.ref di, .ref gr, .ref re, .ref rl, .ref bu, .ref de]))]) (va_runVN (As := [.int x]) (rest := []) ⟨hx, hb, hml, hown, hts⟩ (c_Gr_hasEdge l  D gr gc gf gp gb gl x _ ) ⟨(va_cnB 1 hts (x_good k_Gr_hasEdge) rfl rfl rfl (hAm.1 _ (List.mem_of_getElem? (i := 38) rfl)) (hts _ (List.mem_cons_of_mem _ tw_3)) (by decide +kernel) ⟨Nat.le_of_ble_eq_true rfl, Nat.le_of_ble_eq_true rfl⟩), (hts _ (List.mem_cons_of_mem _ tw_347)), (hts _ (List.mem_cons_of_mem _ (x_sel 14 rfl)))⟩ (xP_V (va_recv (ci := 2) (q0 := 1) hK hP rfl rfl) hPc hKc hDc hAm hTh hAs hS) rfl rfl hl.1 rfl (lv_room (Nat.le_of_ble_eq_true rfl)) d_FB_command_5 ⟨Nat.le_of_ble_eq_true rfl, Nat.le_of_ble_eq_true rfl⟩) hP hD hK hS hA [1] [0] rfl rfl (by decide) (by decide) (fun r1 _ H locs er1 hP hD hK hS => ?_)
  have er1 : r1 = 0 := er1
  subst er1
  have hK : va_K D cl [] s := hK
  have hP : va_P D cl [(fb, .inr (5, [.ref di, .ref gr, .ref re, .ref rl, .ref bu, .ref de])), (gr, .inr (2, [.ref gc, .ref gf, .ref gp, .ref gb, .ref gl, .int 0]))] H := hP
  have hD : va_D A [(fb, .inr (5, [.ref di, .ref gr, .ref re, .ref rl, .ref bu, .ref de])), (gr, .inr (2, [.ref gc, .ref gf, .ref gp, .ref gb, .ref gl, .int 0]))] := hD
  refine lv_if_eq (tgt := 18) hx hb d_FB_command_8 (by decide) (fun b8 => ?_) (fun b8 => absurd b8 (by decide))
  obtain ⟨qz, hZ⟩ := hAm.2.1 _ (List.mem_of_getElem? (i := 6) rfl)
  exact xt_throw hx hb (hml.trans hl.1.symm) hfl hlk hemp (names := ["java/lang/RuntimeException", "java/lang/Exception"]) hown (hts _ (List.mem_cons_of_mem _ tw_249)) (hts _ (List.mem_cons_of_mem _ tw_250)) (hts _ (List.mem_cons_of_mem _ tw_12)) (by decide +kernel) (by decide +kernel) (xOwn own_IAE hts hAm hTh) hZ hS hAs (Nat.le_of_ble_eq_true rfl) (Nat.le_of_ble_eq_true rfl) (Nat.le_of_ble_eq_true rfl) (Nat.le_of_ble_eq_true rfl) (by decide) (Nat.le_of_ble_eq_true rfl) d_FB_command_18 d_FB_command_21 d_FB_command_22 d_FB_command_24 d_FB_command_27
theorem d_FB_pool_0 : decode b_FB_pool 0 = .ok (.iload_n 1, 1) := by decide +kernel
theorem d_FB_pool_1 : decode b_FB_pool 1 = .ok (.iconst (1), 1) := by decide +kernel
theorem d_FB_pool_2 : decode b_FB_pool 2 = .ok (.iconst (2), 1) := by decide +kernel
theorem d_FB_pool_3 : decode b_FB_pool 3 = .ok (.invokestatic 61, 3) := by decide +kernel
theorem d_FB_pool_6 : decode b_FB_pool 6 = .ok (.ifCond .eq (12), 3) := by decide +kernel
theorem d_FB_pool_9 : decode b_FB_pool 9 = .ok (.iload_n 2, 1) := by decide +kernel
theorem d_FB_pool_10 : decode b_FB_pool 10 = .ok (.iconst (1), 1) := by decide +kernel
theorem d_FB_pool_11 : decode b_FB_pool 11 = .ok (.iconst (4), 1) := by decide +kernel
theorem d_FB_pool_12 : decode b_FB_pool 12 = .ok (.invokestatic 61, 3) := by decide +kernel
theorem d_FB_pool_15 : decode b_FB_pool 15 = .ok (.ifCond .ne (13), 3) := by decide +kernel
theorem d_FB_pool_28 : decode b_FB_pool 28 = .ok (.aload_n 0, 1) := by decide +kernel
theorem d_FB_pool_29 : decode b_FB_pool 29 = .ok (.invokevirtual 130, 3) := by decide +kernel
theorem d_FB_pool_32 : decode b_FB_pool 32 = .ok (.aload_n 0, 1) := by decide +kernel
theorem d_FB_pool_33 : decode b_FB_pool 33 = .ok (.getfield 44, 3) := by decide +kernel
theorem d_FB_pool_36 : decode b_FB_pool 36 = .ok (.iload_n 1, 1) := by decide +kernel
theorem d_FB_pool_37 : decode b_FB_pool 37 = .ok (.iload_n 2, 1) := by decide +kernel
theorem d_FB_pool_38 : decode b_FB_pool 38 = .ok (.iastore, 1) := by decide +kernel
theorem d_FB_pool_39 : decode b_FB_pool 39 = .ok (.return_, 1) := by decide +kernel
set_option maxRecDepth 20000 in
set_option maxHeartbeats 4000000 in
theorem c_FB_pool (l : Launch) (D : va_G) (fb : Nat) (bu : Nat) (de : Nat) (di : Nat) (gr : Nat) (re : Nat) (rl : Nat) (bs : Nat) (cI : ClassId) (x : Int32) (y : Int32) (sz : Nat) (h : xIn x 1 2 = 1 ∧ xIn y 1 4 = 1) : xMv l y_FB_pool w_FB_pool { frames := 2, cells := 0, slots := 0, locals := 60 } D cl [.ref fb, .int x, .int y] sz [(cI, .int)] [(fb, .inr (5, [.ref di, .ref gr, .ref re, .ref rl, .ref bu, .ref de])), (bu, .inr (0, [.ref bs, .int 0, .int 0, .int 0])), (de, .inl (cI, 3, .inl (fun _ => 1)))] (fun (_ : Unit) => True) (fun _ => []) (fun _ => []) := by
  refine xMv_of (by decide +kernel) rfl (Nat.le_of_ble_eq_true rfl) ?_
  intro p e s m args below meth c ls A B hAe hA hsz hP hK hD hS hAm hTh hAs hl
  obtain ⟨⟨hx, hb, hml, hown, hts⟩, hret, hlk, hnm, hemp⟩ := id B
  have hl : lv_has ls 3 [(0, .ref fb), (1, .int x), (2, .int y)] := hl
  refine lv_iload_n hx hb d_FB_pool_0 rfl (lv_at hl 1 rfl) ?_
  refine lv_iconst (v := 1) hx hb d_FB_pool_1 (by decide) ?_
  refine lv_iconst (v := 2) hx hb d_FB_pool_2 (by decide) ?_
  have hPc := hP.sub (ws' := []) [] rfl
  have hDc := hD.sub (ws' := []) [] (by decide) rfl
  have hKc := hK.sub (tys' := []) [] rfl
  refine xgi (wsC := []) (wr := [(fb, .inr (5, [.ref di, .ref gr, .ref re, .ref rl, .ref bu, .ref de])), (bu, .inr (0, [.ref bs, .int 0, .int 0, .int 0])), (de, .inl (cI, 3, .inl (fun _ => 1)))]) (va_runS (As := [.int x, .int 1, .int 2]) (rest := []) ⟨hx, hb, hml, hown, hts⟩ (c_FB_isIn l  D x 1 2 _ ) ⟨(callB_of 3 hts (x_good k_FB_isIn) rfl rfl rfl (hts _ (List.mem_cons_of_mem _ tw_1)) (hts _ (List.mem_cons_of_mem _ tw_245)) (by decide +kernel) ⟨Nat.le_of_ble_eq_true rfl, Nat.le_of_ble_eq_true rfl⟩), (hts _ (List.mem_cons_of_mem _ tw_226))⟩ (xP_S hPc hKc hDc hAm hTh hAs hS) rfl rfl hl.1 rfl (lv_room (Nat.le_of_ble_eq_true rfl)) d_FB_pool_3 ⟨Nat.le_of_ble_eq_true rfl, Nat.le_of_ble_eq_true rfl⟩) hP hD hK hS hA [] [0, 1, 2] rfl rfl (by decide) (by decide) (fun r1 _ H locs er1 hP hD hK hS => ?_)
  have er1 : r1 = xIn x 1 2 := er1
  subst er1
  have hK : va_K D cl [(cI, .int)] s := hK
  have hP : va_P D cl [(fb, .inr (5, [.ref di, .ref gr, .ref re, .ref rl, .ref bu, .ref de])), (bu, .inr (0, [.ref bs, .int 0, .int 0, .int 0])), (de, .inl (cI, 3, .inl (fun _ => 1)))] H := hP
  have hD : va_D A [(fb, .inr (5, [.ref di, .ref gr, .ref re, .ref rl, .ref bu, .ref de])), (bu, .inr (0, [.ref bs, .int 0, .int 0, .int 0])), (de, .inl (cI, 3, .inl (fun _ => 1)))] := hD
  refine lv_if_eq (tgt := 18) hx hb d_FB_pool_6 (by decide) (fun b6 => ?_) (fun b6 => ?_)
  · first | exact absurd b6 (xne1 h.1) | exact absurd b15 (xne1 h.2)
  · refine lv_iload_n hx hb d_FB_pool_9 rfl (lv_at hl 2 rfl) ?_
    refine lv_iconst (v := 1) hx hb d_FB_pool_10 (by decide) ?_
    refine lv_iconst (v := 4) hx hb d_FB_pool_11 (by decide) ?_
    have hPc := hP.sub (ws' := []) [] rfl
    have hDc := hD.sub (ws' := []) [] (by decide) rfl
    have hKc := hK.sub (tys' := []) [] rfl
    refine xgi (wsC := []) (wr := [(fb, .inr (5, [.ref di, .ref gr, .ref re, .ref rl, .ref bu, .ref de])), (bu, .inr (0, [.ref bs, .int 0, .int 0, .int 0])), (de, .inl (cI, 3, .inl (fun _ => 1)))]) (va_runS (As := [.int y, .int 1, .int 4]) (rest := []) ⟨hx, hb, hml, hown, hts⟩ (c_FB_isIn l  D y 1 4 _ ) ⟨(callB_of 3 hts (x_good k_FB_isIn) rfl rfl rfl (hts _ (List.mem_cons_of_mem _ tw_1)) (hts _ (List.mem_cons_of_mem _ tw_245)) (by decide +kernel) ⟨Nat.le_of_ble_eq_true rfl, Nat.le_of_ble_eq_true rfl⟩), (hts _ (List.mem_cons_of_mem _ tw_226))⟩ (xP_S hPc hKc hDc hAm hTh hAs hS) rfl rfl hl.1 rfl (lv_room (Nat.le_of_ble_eq_true rfl)) d_FB_pool_12 ⟨Nat.le_of_ble_eq_true rfl, Nat.le_of_ble_eq_true rfl⟩) hP hD hK hS hA [] [0, 1, 2] rfl rfl (by decide) (by decide) (fun r2 _ H locs er2 hP hD hK hS => ?_)
    have er2 : r2 = xIn y 1 4 := er2
    subst er2
    have hK : va_K D cl [(cI, .int)] s := hK
    have hP : va_P D cl [(fb, .inr (5, [.ref di, .ref gr, .ref re, .ref rl, .ref bu, .ref de])), (bu, .inr (0, [.ref bs, .int 0, .int 0, .int 0])), (de, .inl (cI, 3, .inl (fun _ => 1)))] H := hP
    have hD : va_D A [(fb, .inr (5, [.ref di, .ref gr, .ref re, .ref rl, .ref bu, .ref de])), (bu, .inr (0, [.ref bs, .int 0, .int 0, .int 0])), (de, .inl (cI, 3, .inl (fun _ => 1)))] := hD
    refine lv_if_ne (tgt := 28) hx hb d_FB_pool_15 (by decide) (fun b15 => ?_) (fun b15 => ?_)
    · refine lv_aload_n hx hb d_FB_pool_28 rfl (lv_at hl 0 rfl) ?_
      have hPc := hP.sub (ws' := [(fb, .inr (5, [.ref di, .ref gr, .ref re, .ref rl, .ref bu, .ref de])), (bu, .inr (0, [.ref bs, .int 0, .int 0, .int 0]))]) [0, 1] rfl
      have hDc := hD.sub (ws' := [(fb, .inr (5, [.ref di, .ref gr, .ref re, .ref rl, .ref bu, .ref de])), (bu, .inr (0, [.ref bs, .int 0, .int 0, .int 0]))]) [0, 1] (by decide) rfl
      have hKc := hK.sub (tys' := []) [] rfl
      refine xgv (wsC := [(fb, .inr (5, [.ref di, .ref gr, .ref re, .ref rl, .ref bu, .ref de])), (bu, .inr (0, [.ref bs, .int 0, .int 0, .int 0]))]) (wr := [(de, .inl (cI, 3, .inl (fun _ => 1)))]) (va_runV (As := []) (rest := []) ⟨hx, hb, hml, hown, hts⟩ (c_FB_refuseUnderWay l  D fb bu di gr re rl de bs _ ) ⟨(callB_of 0 hts (x_good k_FB_refuseUnderWay) rfl rfl rfl (hts _ (List.mem_cons_of_mem _ tw_1)) (hts _ (List.mem_cons_of_mem _ tw_392)) (by decide +kernel) ⟨Nat.le_of_ble_eq_true rfl, Nat.le_of_ble_eq_true rfl⟩), (hts _ (List.mem_cons_of_mem _ tw_394)), (hts _ (List.mem_cons_of_mem _ (x_sel 19 rfl)))⟩ (xP_V (va_recv (ci := 5) (q0 := 0) hK hP rfl rfl) hPc hKc hDc hAm hTh hAs hS) rfl rfl hl.1 rfl (lv_room (Nat.le_of_ble_eq_true rfl)) d_FB_pool_29 ⟨Nat.le_of_ble_eq_true rfl, Nat.le_of_ble_eq_true rfl⟩) hP hD hK hS hA [0, 1] [2] rfl rfl (by decide) (by decide) (fun _ H locs _ hP hD hK hS => ?_)
      have hK : va_K D cl [(cI, .int)] s := hK
      have hP : va_P D cl [(de, .inl (cI, 3, .inl (fun _ => 1))), (fb, .inr (5, [.ref di, .ref gr, .ref re, .ref rl, .ref bu, .ref de])), (bu, .inr (0, [.ref bs, .int 0, .int 0, .int 0]))] H := hP
      have hD : va_D A [(de, .inl (cI, 3, .inl (fun _ => 1))), (fb, .inr (5, [.ref di, .ref gr, .ref re, .ref rl, .ref bu, .ref de])), (bu, .inr (0, [.ref bs, .int 0, .int 0, .int 0]))] := hD
      refine lv_aload_n hx hb d_FB_pool_32 rfl (lv_at hl 0 rfl) ?_
      refine va_get (D := D) (ci := 5) (v := .ref de) (C := R_FB) (T := F_FB) (N := 6) hx hb hts (fun w h => List.mem_cons_of_mem _ (u_FB w h)) hown hK hP 1 rfl rfl 5 (by decide) (hts _ (List.mem_cons_of_mem _ tw_151)) (fun _ h9 => h9) rfl d_FB_pool_33 ?_
      refine lv_iload_n hx hb d_FB_pool_36 rfl (lv_at hl 1 rfl) ?_
      refine lv_iload_n hx hb d_FB_pool_37 rfl (lv_at hl 2 rfl) ?_
      refine va_iast hx hb hK hP hD hS 0 0 rfl rfl (xIn_in2 h.1 (by decide) (by decide)) d_FB_pool_38 (fun H locs hP hD hS => ?_)
      have hP : va_P D cl [(de, .inl (cI, 3, .inl (upd (fun _ => 1) x.toNatClampNeg y))), (fb, .inr (5, [.ref di, .ref gr, .ref re, .ref rl, .ref bu, .ref de])), (bu, .inr (0, [.ref bs, .int 0, .int 0, .int 0]))] H := hP
      have hD : va_D A [(de, .inl (cI, 3, .inl (upd (fun _ => 1) x.toNatClampNeg y))), (fb, .inr (5, [.ref di, .ref gr, .ref re, .ref rl, .ref bu, .ref de])), (bu, .inr (0, [.ref bs, .int 0, .int 0, .int 0]))] := hD
      exact xrv () B d_FB_pool_39 (trivial) (hP.sub (ws' := []) [] rfl) (hK.sub (tys' := []) [] rfl) (hD.sub (ws' := []) [] (by decide) rfl) hS (Nat.le_of_ble_eq_true rfl) (Nat.le_of_ble_eq_true rfl)
    · first | exact absurd b6 (xne1 h.1) | exact absurd b15 (xne1 h.2)
theorem d_FB_pool_18 : decode b_FB_pool 18 = .ok (.new 65, 3) := by decide +kernel
theorem d_FB_pool_21 : decode b_FB_pool 21 = .ok (.dup, 1) := by decide +kernel
theorem d_FB_pool_22 : decode b_FB_pool 22 = .ok (.ldc 133, 2) := by decide +kernel
theorem d_FB_pool_24 : decode b_FB_pool 24 = .ok (.invokespecial 69, 3) := by decide +kernel
theorem d_FB_pool_27 : decode b_FB_pool 27 = .ok (.athrow, 1) := by decide +kernel
set_option maxRecDepth 20000 in
set_option maxHeartbeats 4000000 in
theorem c_FB_pool_t (l : Launch) (hfl : l.flags = pinnedFlags ++ [noTraceFlag]) (D : va_G) (fb : Nat) (bu : Nat) (de : Nat) (di : Nat) (gr : Nat) (re : Nat) (rl : Nat) (bs : Nat) (cI : ClassId) (x : Int32) (y : Int32) (sz : Nat) (h : ¬ (xIn x 1 2 = 1 ∧ xIn y 1 4 = 1)) : xMt l y_FB_pool w_FB_pool { frames := 7, cells := 1, slots := 6, locals := 110 } D cl [.ref fb, .int x, .int y] sz [(cI, .int)] [(fb, .inr (5, [.ref di, .ref gr, .ref re, .ref rl, .ref bu, .ref de])), (bu, .inr (0, [.ref bs, .int 0, .int 0, .int 0])), (de, .inl (cI, 3, .inl (fun _ => 1)))] "java/lang/IllegalArgumentException" := by
  refine xMt_of (by decide +kernel) rfl (Nat.le_of_ble_eq_true rfl) ?_
  intro p e s m args below meth c ls A B hAe hA hsz hP hK hD hS hAm hTh hAs hl
  obtain ⟨⟨hx, hb, hml, hown, hts⟩, hret, hlk, hnm, hemp⟩ := id B
  have hl : lv_has ls 3 [(0, .ref fb), (1, .int x), (2, .int y)] := hl
  refine lv_iload_n hx hb d_FB_pool_0 rfl (lv_at hl 1 rfl) ?_
  refine lv_iconst (v := 1) hx hb d_FB_pool_1 (by decide) ?_
  refine lv_iconst (v := 2) hx hb d_FB_pool_2 (by decide) ?_
  have hPc := hP.sub (ws' := []) [] rfl
  have hDc := hD.sub (ws' := []) [] (by decide) rfl
  have hKc := hK.sub (tys' := []) [] rfl
  refine xgi (wsC := []) (wr := [(fb, .inr (5, [.ref di, .ref gr, .ref re, .ref rl, .ref bu, .ref de])), (bu, .inr (0, [.ref bs, .int 0, .int 0, .int 0])), (de, .inl (cI, 3, .inl (fun _ => 1)))]) (va_runS (As := [.int x, .int 1, .int 2]) (rest := []) ⟨hx, hb, hml, hown, hts⟩ (c_FB_isIn l  D x 1 2 _ ) ⟨(callB_of 3 hts (x_good k_FB_isIn) rfl rfl rfl (hts _ (List.mem_cons_of_mem _ tw_1)) (hts _ (List.mem_cons_of_mem _ tw_245)) (by decide +kernel) ⟨Nat.le_of_ble_eq_true rfl, Nat.le_of_ble_eq_true rfl⟩), (hts _ (List.mem_cons_of_mem _ tw_226))⟩ (xP_S hPc hKc hDc hAm hTh hAs hS) rfl rfl hl.1 rfl (lv_room (Nat.le_of_ble_eq_true rfl)) d_FB_pool_3 ⟨Nat.le_of_ble_eq_true rfl, Nat.le_of_ble_eq_true rfl⟩) hP hD hK hS hA [] [0, 1, 2] rfl rfl (by decide) (by decide) (fun r1 _ H locs er1 hP hD hK hS => ?_)
  have er1 : r1 = xIn x 1 2 := er1
  subst er1
  have hK : va_K D cl [(cI, .int)] s := hK
  have hP : va_P D cl [(fb, .inr (5, [.ref di, .ref gr, .ref re, .ref rl, .ref bu, .ref de])), (bu, .inr (0, [.ref bs, .int 0, .int 0, .int 0])), (de, .inl (cI, 3, .inl (fun _ => 1)))] H := hP
  have hD : va_D A [(fb, .inr (5, [.ref di, .ref gr, .ref re, .ref rl, .ref bu, .ref de])), (bu, .inr (0, [.ref bs, .int 0, .int 0, .int 0])), (de, .inl (cI, 3, .inl (fun _ => 1)))] := hD
  refine lv_if_eq (tgt := 18) hx hb d_FB_pool_6 (by decide) (fun b6 => ?_) (fun b6 => ?_)
  · obtain ⟨qz, hZ⟩ := hAm.2.1 _ (List.mem_of_getElem? (i := 8) rfl)
    exact xt_throw hx hb (hml.trans hl.1.symm) hfl hlk hemp (names := ["java/lang/RuntimeException", "java/lang/Exception"]) hown (hts _ (List.mem_cons_of_mem _ tw_249)) (hts _ (List.mem_cons_of_mem _ tw_250)) (hts _ (List.mem_cons_of_mem _ tw_12)) (by decide +kernel) (by decide +kernel) (xOwn own_IAE hts hAm hTh) hZ hS hAs (Nat.le_of_ble_eq_true rfl) (Nat.le_of_ble_eq_true rfl) (Nat.le_of_ble_eq_true rfl) (Nat.le_of_ble_eq_true rfl) (by decide) (Nat.le_of_ble_eq_true rfl) d_FB_pool_18 d_FB_pool_21 d_FB_pool_22 d_FB_pool_24 d_FB_pool_27
  · refine lv_iload_n hx hb d_FB_pool_9 rfl (lv_at hl 2 rfl) ?_
    refine lv_iconst (v := 1) hx hb d_FB_pool_10 (by decide) ?_
    refine lv_iconst (v := 4) hx hb d_FB_pool_11 (by decide) ?_
    have hPc := hP.sub (ws' := []) [] rfl
    have hDc := hD.sub (ws' := []) [] (by decide) rfl
    have hKc := hK.sub (tys' := []) [] rfl
    refine xgi (wsC := []) (wr := [(fb, .inr (5, [.ref di, .ref gr, .ref re, .ref rl, .ref bu, .ref de])), (bu, .inr (0, [.ref bs, .int 0, .int 0, .int 0])), (de, .inl (cI, 3, .inl (fun _ => 1)))]) (va_runS (As := [.int y, .int 1, .int 4]) (rest := []) ⟨hx, hb, hml, hown, hts⟩ (c_FB_isIn l  D y 1 4 _ ) ⟨(callB_of 3 hts (x_good k_FB_isIn) rfl rfl rfl (hts _ (List.mem_cons_of_mem _ tw_1)) (hts _ (List.mem_cons_of_mem _ tw_245)) (by decide +kernel) ⟨Nat.le_of_ble_eq_true rfl, Nat.le_of_ble_eq_true rfl⟩), (hts _ (List.mem_cons_of_mem _ tw_226))⟩ (xP_S hPc hKc hDc hAm hTh hAs hS) rfl rfl hl.1 rfl (lv_room (Nat.le_of_ble_eq_true rfl)) d_FB_pool_12 ⟨Nat.le_of_ble_eq_true rfl, Nat.le_of_ble_eq_true rfl⟩) hP hD hK hS hA [] [0, 1, 2] rfl rfl (by decide) (by decide) (fun r2 _ H locs er2 hP hD hK hS => ?_)
    have er2 : r2 = xIn y 1 4 := er2
    subst er2
    have hK : va_K D cl [(cI, .int)] s := hK
    have hP : va_P D cl [(fb, .inr (5, [.ref di, .ref gr, .ref re, .ref rl, .ref bu, .ref de])), (bu, .inr (0, [.ref bs, .int 0, .int 0, .int 0])), (de, .inl (cI, 3, .inl (fun _ => 1)))] H := hP
    have hD : va_D A [(fb, .inr (5, [.ref di, .ref gr, .ref re, .ref rl, .ref bu, .ref de])), (bu, .inr (0, [.ref bs, .int 0, .int 0, .int 0])), (de, .inl (cI, 3, .inl (fun _ => 1)))] := hD
    refine lv_if_ne (tgt := 28) hx hb d_FB_pool_15 (by decide) (fun b15 => ?_) (fun b15 => ?_)
    · exact absurd ⟨xne0 (xIn_bin _ _ _) b6, xne0 (xIn_bin _ _ _) b15⟩ h
    · obtain ⟨qz, hZ⟩ := hAm.2.1 _ (List.mem_of_getElem? (i := 8) rfl)
      exact xt_throw hx hb (hml.trans hl.1.symm) hfl hlk hemp (names := ["java/lang/RuntimeException", "java/lang/Exception"]) hown (hts _ (List.mem_cons_of_mem _ tw_249)) (hts _ (List.mem_cons_of_mem _ tw_250)) (hts _ (List.mem_cons_of_mem _ tw_12)) (by decide +kernel) (by decide +kernel) (xOwn own_IAE hts hAm hTh) hZ hS hAs (Nat.le_of_ble_eq_true rfl) (Nat.le_of_ble_eq_true rfl) (Nat.le_of_ble_eq_true rfl) (Nat.le_of_ble_eq_true rfl) (by decide) (Nat.le_of_ble_eq_true rfl) d_FB_pool_18 d_FB_pool_21 d_FB_pool_22 d_FB_pool_24 d_FB_pool_27
theorem d_FB_write_0 : decode b_FB_write 0 = .ok (.iload_n 1, 1) := by decide +kernel
theorem d_FB_write_1 : decode b_FB_write 1 = .ok (.invokestatic 92, 3) := by decide +kernel
theorem d_FB_write_4 : decode b_FB_write 4 = .ok (.ifCond .eq (17), 3) := by decide +kernel
theorem d_FB_write_7 : decode b_FB_write 7 = .ok (.aload_n 0, 1) := by decide +kernel
theorem d_FB_write_8 : decode b_FB_write 8 = .ok (.getfield 19, 3) := by decide +kernel
theorem d_FB_write_11 : decode b_FB_write 11 = .ok (.invokevirtual 135, 3) := by decide +kernel
theorem d_FB_write_14 : decode b_FB_write 14 = .ok (.iload_n 1, 1) := by decide +kernel
theorem d_FB_write_15 : decode b_FB_write 15 = .ok (.invokestatic 116, 3) := by decide +kernel
theorem d_FB_write_18 : decode b_FB_write 18 = .ok (.ifCond .eq (13), 3) := by decide +kernel
theorem d_FB_write_31 : decode b_FB_write 31 = .ok (.aload_n 0, 1) := by decide +kernel
theorem d_FB_write_32 : decode b_FB_write 32 = .ok (.invokevirtual 130, 3) := by decide +kernel
theorem d_FB_write_35 : decode b_FB_write 35 = .ok (.aload_n 0, 1) := by decide +kernel
theorem d_FB_write_36 : decode b_FB_write 36 = .ok (.getfield 12, 3) := by decide +kernel
theorem d_FB_write_39 : decode b_FB_write 39 = .ok (.iload_n 1, 1) := by decide +kernel
theorem d_FB_write_40 : decode b_FB_write 40 = .ok (.iload_n 2, 1) := by decide +kernel
theorem d_FB_write_41 : decode b_FB_write 41 = .ok (.invokevirtual 140, 3) := by decide +kernel
theorem d_FB_write_44 : decode b_FB_write 44 = .ok (.return_, 1) := by decide +kernel
set_option maxRecDepth 20000 in
set_option maxHeartbeats 4000000 in
theorem c_FB_write (l : Launch) (D : va_G) (fb : Nat) (gr : Nat) (bu : Nat) (di : Nat) (ct : Nat) (ti : Nat) (re : Nat) (rl : Nat) (de : Nat) (gc : Nat) (gf : Nat) (gp : Nat) (gb : Nat) (gl : Nat) (bs : Nat) (cI : ClassId) (x : Int32) (y : Int32) (sz : Nat) (h : xIn x 0 23 = 1) : xMv l y_FB_write w_FB_write { frames := 2, cells := 0, slots := 0, locals := 60 } D cl [.ref fb, .int x, .int y] sz [(cI, .int)] [(fb, .inr (5, [.ref di, .ref gr, .ref re, .ref rl, .ref bu, .ref de])), (gr, .inr (2, [.ref gc, .ref gf, .ref gp, .ref gb, .ref gl, .int 0])), (bu, .inr (0, [.ref bs, .int 0, .int 0, .int 0])), (di, .inr (1, [.ref ct, .ref ti, .int 0, .int 0])), (ct, .inl (cI, 24, .inl (fun _ => 0))), (ti, .inl (cI, 24, .inl (fun _ => 0)))] (fun (_ : Unit) => True) (fun _ => []) (fun _ => []) := by
  refine xMv_of (by decide +kernel) rfl (Nat.le_of_ble_eq_true rfl) ?_
  intro p e s m args below meth c ls A B hAe hA hsz hP hK hD hS hAm hTh hAs hl
  obtain ⟨⟨hx, hb, hml, hown, hts⟩, hret, hlk, hnm, hemp⟩ := id B
  have hl : lv_has ls 3 [(0, .ref fb), (1, .int x), (2, .int y)] := hl
  refine lv_iload_n hx hb d_FB_write_0 rfl (lv_at hl 1 rfl) ?_
  have hPc := hP.sub (ws' := []) [] rfl
  have hDc := hD.sub (ws' := []) [] (by decide) rfl
  have hKc := hK.sub (tys' := []) [] rfl
  refine xgi (wsC := []) (wr := [(fb, .inr (5, [.ref di, .ref gr, .ref re, .ref rl, .ref bu, .ref de])), (gr, .inr (2, [.ref gc, .ref gf, .ref gp, .ref gb, .ref gl, .int 0])), (bu, .inr (0, [.ref bs, .int 0, .int 0, .int 0])), (di, .inr (1, [.ref ct, .ref ti, .int 0, .int 0])), (ct, .inl (cI, 24, .inl (fun _ => 0))), (ti, .inl (cI, 24, .inl (fun _ => 0)))]) (va_runS (As := [.int x]) (rest := []) ⟨hx, hb, hml, hown, hts⟩ (c_FB_isFile l  D x _ ) ⟨(callB_of 1 hts (x_good k_FB_isFile) rfl rfl rfl (hts _ (List.mem_cons_of_mem _ tw_1)) (hts _ (List.mem_cons_of_mem _ tw_350)) (by decide +kernel) ⟨Nat.le_of_ble_eq_true rfl, Nat.le_of_ble_eq_true rfl⟩), (hts _ (List.mem_cons_of_mem _ tw_351))⟩ (xP_S hPc hKc hDc hAm hTh hAs hS) rfl rfl hl.1 rfl (lv_room (Nat.le_of_ble_eq_true rfl)) d_FB_write_1 ⟨Nat.le_of_ble_eq_true rfl, Nat.le_of_ble_eq_true rfl⟩) hP hD hK hS hA [] [0, 1, 2, 3, 4, 5] rfl rfl (by decide) (by decide) (fun r1 _ H locs er1 hP hD hK hS => ?_)
  have er1 : r1 = xIn x 0 23 := er1
  subst er1
  have hK : va_K D cl [(cI, .int)] s := hK
  have hP : va_P D cl [(fb, .inr (5, [.ref di, .ref gr, .ref re, .ref rl, .ref bu, .ref de])), (gr, .inr (2, [.ref gc, .ref gf, .ref gp, .ref gb, .ref gl, .int 0])), (bu, .inr (0, [.ref bs, .int 0, .int 0, .int 0])), (di, .inr (1, [.ref ct, .ref ti, .int 0, .int 0])), (ct, .inl (cI, 24, .inl (fun _ => 0))), (ti, .inl (cI, 24, .inl (fun _ => 0)))] H := hP
  have hD : va_D A [(fb, .inr (5, [.ref di, .ref gr, .ref re, .ref rl, .ref bu, .ref de])), (gr, .inr (2, [.ref gc, .ref gf, .ref gp, .ref gb, .ref gl, .int 0])), (bu, .inr (0, [.ref bs, .int 0, .int 0, .int 0])), (di, .inr (1, [.ref ct, .ref ti, .int 0, .int 0])), (ct, .inl (cI, 24, .inl (fun _ => 0))), (ti, .inl (cI, 24, .inl (fun _ => 0)))] := hD
  refine lv_if_eq (tgt := 21) hx hb d_FB_write_4 (by decide) (fun b4 => ?_) (fun b4 => ?_)
  · first | exact absurd b4 (xne1 h)
  · refine lv_aload_n hx hb d_FB_write_7 rfl (lv_at hl 0 rfl) ?_
    refine va_get (D := D) (ci := 5) (v := .ref gr) (C := R_FB) (T := F_FB) (N := 6) hx hb hts (fun w h => List.mem_cons_of_mem _ (u_FB w h)) hown hK hP 0 rfl rfl 1 (by decide) (hts _ (List.mem_cons_of_mem _ tw_147)) (fun _ h9 => h9) rfl d_FB_write_8 ?_
    have hPc := hP.sub (ws' := [(gr, .inr (2, [.ref gc, .ref gf, .ref gp, .ref gb, .ref gl, .int 0]))]) [1] rfl
    have hDc := hD.sub (ws' := [(gr, .inr (2, [.ref gc, .ref gf, .ref gp, .ref gb, .ref gl, .int 0]))]) [1] (by decide) rfl
    have hKc := hK.sub (tys' := []) [] rfl
    refine xgi (wsC := [(gr, .inr (2, [.ref gc, .ref gf, .ref gp, .ref gb, .ref gl, .int 0]))]) (wr := [(fb, .inr (5, [.ref di, .ref gr, .ref re, .ref rl, .ref bu, .ref de])), (bu, .inr (0, [.ref bs, .int 0, .int 0, .int 0])), (di, .inr (1, [.ref ct, .ref ti, .int 0, .int 0])), (ct, .inl (cI, 24, .inl (fun _ => 0))), (ti, .inl (cI, 24, .inl (fun _ => 0)))]) (va_runVN (As := []) (rest := []) ⟨hx, hb, hml, hown, hts⟩ (c_Gr_madeByPhonies l  D gr gc gf gp gb gl _ ) ⟨(va_cnB 0 hts (x_good k_Gr_madeByPhonies) rfl rfl rfl (hAm.1 _ (List.mem_of_getElem? (i := 44) rfl)) (hts _ (List.mem_cons_of_mem _ tw_3)) (by decide +kernel) ⟨Nat.le_of_ble_eq_true rfl, Nat.le_of_ble_eq_true rfl⟩), (hts _ (List.mem_cons_of_mem _ tw_414)), (hts _ (List.mem_cons_of_mem _ (x_sel 20 rfl)))⟩ (xP_V (va_recv (ci := 2) (q0 := 1) hK hP rfl rfl) hPc hKc hDc hAm hTh hAs hS) rfl rfl hl.1 rfl (lv_room (Nat.le_of_ble_eq_true rfl)) d_FB_write_11 ⟨Nat.le_of_ble_eq_true rfl, Nat.le_of_ble_eq_true rfl⟩) hP hD hK hS hA [1] [0, 2, 3, 4, 5] rfl rfl (by decide) (by decide) (fun r2 _ H locs er2 hP hD hK hS => ?_)
    have er2 : r2 = 0 := er2
    subst er2
    have hK : va_K D cl [(cI, .int)] s := hK
    have hP : va_P D cl [(fb, .inr (5, [.ref di, .ref gr, .ref re, .ref rl, .ref bu, .ref de])), (bu, .inr (0, [.ref bs, .int 0, .int 0, .int 0])), (di, .inr (1, [.ref ct, .ref ti, .int 0, .int 0])), (ct, .inl (cI, 24, .inl (fun _ => 0))), (ti, .inl (cI, 24, .inl (fun _ => 0))), (gr, .inr (2, [.ref gc, .ref gf, .ref gp, .ref gb, .ref gl, .int 0]))] H := hP
    have hD : va_D A [(fb, .inr (5, [.ref di, .ref gr, .ref re, .ref rl, .ref bu, .ref de])), (bu, .inr (0, [.ref bs, .int 0, .int 0, .int 0])), (di, .inr (1, [.ref ct, .ref ti, .int 0, .int 0])), (ct, .inl (cI, 24, .inl (fun _ => 0))), (ti, .inl (cI, 24, .inl (fun _ => 0))), (gr, .inr (2, [.ref gc, .ref gf, .ref gp, .ref gb, .ref gl, .int 0]))] := hD
    refine lv_iload_n hx hb d_FB_write_14 rfl (lv_at hl 1 rfl) ?_
    have hPc := hP.sub (ws' := []) [] rfl
    have hDc := hD.sub (ws' := []) [] (by decide) rfl
    have hKc := hK.sub (tys' := []) [] rfl
    refine xgi (wsC := []) (wr := [(fb, .inr (5, [.ref di, .ref gr, .ref re, .ref rl, .ref bu, .ref de])), (bu, .inr (0, [.ref bs, .int 0, .int 0, .int 0])), (di, .inr (1, [.ref ct, .ref ti, .int 0, .int 0])), (ct, .inl (cI, 24, .inl (fun _ => 0))), (ti, .inl (cI, 24, .inl (fun _ => 0))), (gr, .inr (2, [.ref gc, .ref gf, .ref gp, .ref gb, .ref gl, .int 0]))]) (va_runS (As := [.int 0, .int x]) (rest := []) ⟨hx, hb, hml, hown, hts⟩ (c_FB_has l  D x _ ) ⟨(callB_of 2 hts (x_good k_FB_has) rfl rfl rfl (hts _ (List.mem_cons_of_mem _ tw_1)) (hts _ (List.mem_cons_of_mem _ tw_362)) (by decide +kernel) ⟨Nat.le_of_ble_eq_true rfl, Nat.le_of_ble_eq_true rfl⟩), (hts _ (List.mem_cons_of_mem _ tw_363))⟩ (xP_S hPc hKc hDc hAm hTh hAs hS) rfl rfl hl.1 rfl (lv_room (Nat.le_of_ble_eq_true rfl)) d_FB_write_15 ⟨Nat.le_of_ble_eq_true rfl, Nat.le_of_ble_eq_true rfl⟩) hP hD hK hS hA [] [0, 1, 2, 3, 4, 5] rfl rfl (by decide) (by decide) (fun r3 _ H locs er3 hP hD hK hS => ?_)
    have er3 : r3 = 0 := er3
    subst er3
    have hK : va_K D cl [(cI, .int)] s := hK
    have hP : va_P D cl [(fb, .inr (5, [.ref di, .ref gr, .ref re, .ref rl, .ref bu, .ref de])), (bu, .inr (0, [.ref bs, .int 0, .int 0, .int 0])), (di, .inr (1, [.ref ct, .ref ti, .int 0, .int 0])), (ct, .inl (cI, 24, .inl (fun _ => 0))), (ti, .inl (cI, 24, .inl (fun _ => 0))), (gr, .inr (2, [.ref gc, .ref gf, .ref gp, .ref gb, .ref gl, .int 0]))] H := hP
    have hD : va_D A [(fb, .inr (5, [.ref di, .ref gr, .ref re, .ref rl, .ref bu, .ref de])), (bu, .inr (0, [.ref bs, .int 0, .int 0, .int 0])), (di, .inr (1, [.ref ct, .ref ti, .int 0, .int 0])), (ct, .inl (cI, 24, .inl (fun _ => 0))), (ti, .inl (cI, 24, .inl (fun _ => 0))), (gr, .inr (2, [.ref gc, .ref gf, .ref gp, .ref gb, .ref gl, .int 0]))] := hD
    refine lv_if_eq (tgt := 31) hx hb d_FB_write_18 (by decide) (fun b18 => ?_) (fun b18 => absurd b18 (by decide))
    refine lv_aload_n hx hb d_FB_write_31 rfl (lv_at hl 0 rfl) ?_
    have hPc := hP.sub (ws' := [(fb, .inr (5, [.ref di, .ref gr, .ref re, .ref rl, .ref bu, .ref de])), (bu, .inr (0, [.ref bs, .int 0, .int 0, .int 0]))]) [0, 1] rfl
    have hDc := hD.sub (ws' := [(fb, .inr (5, [.ref di, .ref gr, .ref re, .ref rl, .ref bu, .ref de])), (bu, .inr (0, [.ref bs, .int 0, .int 0, .int 0]))]) [0, 1] (by decide) rfl
    have hKc := hK.sub (tys' := []) [] rfl
    refine xgv (wsC := [(fb, .inr (5, [.ref di, .ref gr, .ref re, .ref rl, .ref bu, .ref de])), (bu, .inr (0, [.ref bs, .int 0, .int 0, .int 0]))]) (wr := [(di, .inr (1, [.ref ct, .ref ti, .int 0, .int 0])), (ct, .inl (cI, 24, .inl (fun _ => 0))), (ti, .inl (cI, 24, .inl (fun _ => 0))), (gr, .inr (2, [.ref gc, .ref gf, .ref gp, .ref gb, .ref gl, .int 0]))]) (va_runV (As := []) (rest := []) ⟨hx, hb, hml, hown, hts⟩ (c_FB_refuseUnderWay l  D fb bu di gr re rl de bs _ ) ⟨(callB_of 0 hts (x_good k_FB_refuseUnderWay) rfl rfl rfl (hts _ (List.mem_cons_of_mem _ tw_1)) (hts _ (List.mem_cons_of_mem _ tw_392)) (by decide +kernel) ⟨Nat.le_of_ble_eq_true rfl, Nat.le_of_ble_eq_true rfl⟩), (hts _ (List.mem_cons_of_mem _ tw_394)), (hts _ (List.mem_cons_of_mem _ (x_sel 19 rfl)))⟩ (xP_V (va_recv (ci := 5) (q0 := 0) hK hP rfl rfl) hPc hKc hDc hAm hTh hAs hS) rfl rfl hl.1 rfl (lv_room (Nat.le_of_ble_eq_true rfl)) d_FB_write_32 ⟨Nat.le_of_ble_eq_true rfl, Nat.le_of_ble_eq_true rfl⟩) hP hD hK hS hA [0, 1] [2, 3, 4, 5] rfl rfl (by decide) (by decide) (fun _ H locs _ hP hD hK hS => ?_)
    have hK : va_K D cl [(cI, .int)] s := hK
    have hP : va_P D cl [(di, .inr (1, [.ref ct, .ref ti, .int 0, .int 0])), (ct, .inl (cI, 24, .inl (fun _ => 0))), (ti, .inl (cI, 24, .inl (fun _ => 0))), (gr, .inr (2, [.ref gc, .ref gf, .ref gp, .ref gb, .ref gl, .int 0])), (fb, .inr (5, [.ref di, .ref gr, .ref re, .ref rl, .ref bu, .ref de])), (bu, .inr (0, [.ref bs, .int 0, .int 0, .int 0]))] H := hP
    have hD : va_D A [(di, .inr (1, [.ref ct, .ref ti, .int 0, .int 0])), (ct, .inl (cI, 24, .inl (fun _ => 0))), (ti, .inl (cI, 24, .inl (fun _ => 0))), (gr, .inr (2, [.ref gc, .ref gf, .ref gp, .ref gb, .ref gl, .int 0])), (fb, .inr (5, [.ref di, .ref gr, .ref re, .ref rl, .ref bu, .ref de])), (bu, .inr (0, [.ref bs, .int 0, .int 0, .int 0]))] := hD
    refine lv_aload_n hx hb d_FB_write_35 rfl (lv_at hl 0 rfl) ?_
    refine va_get (D := D) (ci := 5) (v := .ref di) (C := R_FB) (T := F_FB) (N := 6) hx hb hts (fun w h => List.mem_cons_of_mem _ (u_FB w h)) hown hK hP 4 rfl rfl 0 (by decide) (hts _ (List.mem_cons_of_mem _ tw_146)) (fun _ h9 => h9) rfl d_FB_write_36 ?_
    refine lv_iload_n hx hb d_FB_write_39 rfl (lv_at hl 1 rfl) ?_
    refine lv_iload_n hx hb d_FB_write_40 rfl (lv_at hl 2 rfl) ?_
    have hPc := hP.sub (ws' := [(di, .inr (1, [.ref ct, .ref ti, .int 0, .int 0])), (ct, .inl (cI, 24, .inl (fun _ => 0))), (ti, .inl (cI, 24, .inl (fun _ => 0)))]) [0, 1, 2] rfl
    have hDc := hD.sub (ws' := [(di, .inr (1, [.ref ct, .ref ti, .int 0, .int 0])), (ct, .inl (cI, 24, .inl (fun _ => 0))), (ti, .inl (cI, 24, .inl (fun _ => 0)))]) [0, 1, 2] (by decide) rfl
    have hKc := hK.sub (tys' := [(cI, .int)]) [0] rfl
    refine xgv (wsC := [(di, .inr (1, [.ref ct, .ref ti, .int 0, .int 0])), (ct, .inl (cI, 24, .inl (fun _ => 0))), (ti, .inl (cI, 24, .inl (fun _ => 0)))]) (wr := [(gr, .inr (2, [.ref gc, .ref gf, .ref gp, .ref gb, .ref gl, .int 0])), (fb, .inr (5, [.ref di, .ref gr, .ref re, .ref rl, .ref bu, .ref de])), (bu, .inr (0, [.ref bs, .int 0, .int 0, .int 0]))]) (va_runVN (As := [.int x, .int y]) (rest := []) ⟨hx, hb, hml, hown, hts⟩ (c_Di_put l  D di ct ti cI x y _ h) ⟨(va_cnB 2 hts (x_good k_Di_put) rfl rfl rfl (hAm.1 _ (List.mem_of_getElem? (i := 45) rfl)) (hts _ (List.mem_cons_of_mem _ tw_2)) (by decide +kernel) ⟨Nat.le_of_ble_eq_true rfl, Nat.le_of_ble_eq_true rfl⟩), (hts _ (List.mem_cons_of_mem _ tw_419)), (hts _ (List.mem_cons_of_mem _ (x_sel 21 rfl)))⟩ (xP_V (va_recv (ci := 1) (q0 := 0) hK hP rfl rfl) hPc hKc hDc hAm hTh hAs hS) rfl rfl hl.1 rfl (lv_room (Nat.le_of_ble_eq_true rfl)) d_FB_write_41 ⟨Nat.le_of_ble_eq_true rfl, Nat.le_of_ble_eq_true rfl⟩) hP hD hK hS hA [0, 1, 2] [3, 4, 5] rfl rfl (by decide) (by decide) (fun _ H locs _ hP hD hK hS => ?_)
    have hK : va_K D cl [(cI, .int)] s := hK
    have hP : va_P D cl [(gr, .inr (2, [.ref gc, .ref gf, .ref gp, .ref gb, .ref gl, .int 0])), (fb, .inr (5, [.ref di, .ref gr, .ref re, .ref rl, .ref bu, .ref de])), (bu, .inr (0, [.ref bs, .int 0, .int 0, .int 0]))] H := hP
    have hD : va_D A [(gr, .inr (2, [.ref gc, .ref gf, .ref gp, .ref gb, .ref gl, .int 0])), (fb, .inr (5, [.ref di, .ref gr, .ref re, .ref rl, .ref bu, .ref de])), (bu, .inr (0, [.ref bs, .int 0, .int 0, .int 0]))] := hD
    exact xrv () B d_FB_write_44 (trivial) (hP.sub (ws' := []) [] rfl) (hK.sub (tys' := []) [] rfl) (hD.sub (ws' := []) [] (by decide) rfl) hS (Nat.le_of_ble_eq_true rfl) (Nat.le_of_ble_eq_true rfl)
theorem d_FB_write_21 : decode b_FB_write 21 = .ok (.new 65, 3) := by decide +kernel
theorem d_FB_write_24 : decode b_FB_write 24 = .ok (.dup, 1) := by decide +kernel
theorem d_FB_write_25 : decode b_FB_write 25 = .ok (.ldc 138, 2) := by decide +kernel
theorem d_FB_write_27 : decode b_FB_write 27 = .ok (.invokespecial 69, 3) := by decide +kernel
theorem d_FB_write_30 : decode b_FB_write 30 = .ok (.athrow, 1) := by decide +kernel
set_option maxRecDepth 20000 in
set_option maxHeartbeats 4000000 in
theorem c_FB_write_t (l : Launch) (hfl : l.flags = pinnedFlags ++ [noTraceFlag]) (D : va_G) (fb : Nat) (gr : Nat) (bu : Nat) (di : Nat) (ct : Nat) (ti : Nat) (re : Nat) (rl : Nat) (de : Nat) (gc : Nat) (gf : Nat) (gp : Nat) (gb : Nat) (gl : Nat) (bs : Nat) (cI : ClassId) (x : Int32) (y : Int32) (sz : Nat) (h : ¬ xIn x 0 23 = 1) : xMt l y_FB_write w_FB_write { frames := 7, cells := 1, slots := 6, locals := 110 } D cl [.ref fb, .int x, .int y] sz [(cI, .int)] [(fb, .inr (5, [.ref di, .ref gr, .ref re, .ref rl, .ref bu, .ref de])), (gr, .inr (2, [.ref gc, .ref gf, .ref gp, .ref gb, .ref gl, .int 0])), (bu, .inr (0, [.ref bs, .int 0, .int 0, .int 0])), (di, .inr (1, [.ref ct, .ref ti, .int 0, .int 0])), (ct, .inl (cI, 24, .inl (fun _ => 0))), (ti, .inl (cI, 24, .inl (fun _ => 0)))] "java/lang/IllegalArgumentException" := by
  refine xMt_of (by decide +kernel) rfl (Nat.le_of_ble_eq_true rfl) ?_
  intro p e s m args below meth c ls A B hAe hA hsz hP hK hD hS hAm hTh hAs hl
  obtain ⟨⟨hx, hb, hml, hown, hts⟩, hret, hlk, hnm, hemp⟩ := id B
  have hl : lv_has ls 3 [(0, .ref fb), (1, .int x), (2, .int y)] := hl
  refine lv_iload_n hx hb d_FB_write_0 rfl (lv_at hl 1 rfl) ?_
  have hPc := hP.sub (ws' := []) [] rfl
  have hDc := hD.sub (ws' := []) [] (by decide) rfl
  have hKc := hK.sub (tys' := []) [] rfl
  refine xgi (wsC := []) (wr := [(fb, .inr (5, [.ref di, .ref gr, .ref re, .ref rl, .ref bu, .ref de])), (gr, .inr (2, [.ref gc, .ref gf, .ref gp, .ref gb, .ref gl, .int 0])), (bu, .inr (0, [.ref bs, .int 0, .int 0, .int 0])), (di, .inr (1, [.ref ct, .ref ti, .int 0, .int 0])), (ct, .inl (cI, 24, .inl (fun _ => 0))), (ti, .inl (cI, 24, .inl (fun _ => 0)))]) (va_runS (As := [.int x]) (rest := []) ⟨hx, hb, hml, hown, hts⟩ (c_FB_isFile l  D x _ ) ⟨(callB_of 1 hts (x_good k_FB_isFile) rfl rfl rfl (hts _ (List.mem_cons_of_mem _ tw_1)) (hts _ (List.mem_cons_of_mem _ tw_350)) (by decide +kernel) ⟨Nat.le_of_ble_eq_true rfl, Nat.le_of_ble_eq_true rfl⟩), (hts _ (List.mem_cons_of_mem _ tw_351))⟩ (xP_S hPc hKc hDc hAm hTh hAs hS) rfl rfl hl.1 rfl (lv_room (Nat.le_of_ble_eq_true rfl)) d_FB_write_1 ⟨Nat.le_of_ble_eq_true rfl, Nat.le_of_ble_eq_true rfl⟩) hP hD hK hS hA [] [0, 1, 2, 3, 4, 5] rfl rfl (by decide) (by decide) (fun r1 _ H locs er1 hP hD hK hS => ?_)
  have er1 : r1 = xIn x 0 23 := er1
  subst er1
  have hK : va_K D cl [(cI, .int)] s := hK
  have hP : va_P D cl [(fb, .inr (5, [.ref di, .ref gr, .ref re, .ref rl, .ref bu, .ref de])), (gr, .inr (2, [.ref gc, .ref gf, .ref gp, .ref gb, .ref gl, .int 0])), (bu, .inr (0, [.ref bs, .int 0, .int 0, .int 0])), (di, .inr (1, [.ref ct, .ref ti, .int 0, .int 0])), (ct, .inl (cI, 24, .inl (fun _ => 0))), (ti, .inl (cI, 24, .inl (fun _ => 0)))] H := hP
  have hD : va_D A [(fb, .inr (5, [.ref di, .ref gr, .ref re, .ref rl, .ref bu, .ref de])), (gr, .inr (2, [.ref gc, .ref gf, .ref gp, .ref gb, .ref gl, .int 0])), (bu, .inr (0, [.ref bs, .int 0, .int 0, .int 0])), (di, .inr (1, [.ref ct, .ref ti, .int 0, .int 0])), (ct, .inl (cI, 24, .inl (fun _ => 0))), (ti, .inl (cI, 24, .inl (fun _ => 0)))] := hD
  refine lv_if_eq (tgt := 21) hx hb d_FB_write_4 (by decide) (fun b4 => ?_) (fun b4 => ?_)
  · obtain ⟨qz, hZ⟩ := hAm.2.1 _ (List.mem_of_getElem? (i := 9) rfl)
    exact xt_throw hx hb (hml.trans hl.1.symm) hfl hlk hemp (names := ["java/lang/RuntimeException", "java/lang/Exception"]) hown (hts _ (List.mem_cons_of_mem _ tw_249)) (hts _ (List.mem_cons_of_mem _ tw_250)) (hts _ (List.mem_cons_of_mem _ tw_12)) (by decide +kernel) (by decide +kernel) (xOwn own_IAE hts hAm hTh) hZ hS hAs (Nat.le_of_ble_eq_true rfl) (Nat.le_of_ble_eq_true rfl) (Nat.le_of_ble_eq_true rfl) (Nat.le_of_ble_eq_true rfl) (by decide) (Nat.le_of_ble_eq_true rfl) d_FB_write_21 d_FB_write_24 d_FB_write_25 d_FB_write_27 d_FB_write_30
  · exact absurd (xne0 (xIn_bin _ _ _) b4) h
theorem d_FB_remove_0 : decode b_FB_remove 0 = .ok (.iload_n 1, 1) := by decide +kernel
theorem d_FB_remove_1 : decode b_FB_remove 1 = .ok (.invokestatic 92, 3) := by decide +kernel
theorem d_FB_remove_4 : decode b_FB_remove 4 = .ok (.ifCond .ne (13), 3) := by decide +kernel
theorem d_FB_remove_7 : decode b_FB_remove 7 = .ok (.new 65, 3) := by decide +kernel
theorem d_FB_remove_10 : decode b_FB_remove 10 = .ok (.dup, 1) := by decide +kernel
theorem d_FB_remove_11 : decode b_FB_remove 11 = .ok (.ldc 144, 2) := by decide +kernel
theorem d_FB_remove_13 : decode b_FB_remove 13 = .ok (.invokespecial 69, 3) := by decide +kernel
theorem d_FB_remove_16 : decode b_FB_remove 16 = .ok (.athrow, 1) := by decide +kernel
set_option maxRecDepth 20000 in
set_option maxHeartbeats 4000000 in
theorem c_FB_remove_i (l : Launch) (hfl : l.flags = pinnedFlags ++ [noTraceFlag]) (D : va_G) (fb : Nat) (di : Nat) (gr : Nat) (re : Nat) (rl : Nat) (bu : Nat) (de : Nat) (ct : Nat) (ti : Nat) (x : Int32) (sz : Nat) (h : ¬ xIn x 0 23 = 1) : xMt l y_FB_remove w_FB_remove { frames := 7, cells := 1, slots := 6, locals := 110 } D cl [.ref fb, .int x] sz [] [(fb, .inr (5, [.ref di, .ref gr, .ref re, .ref rl, .ref bu, .ref de])), (di, .inr (1, [.ref ct, .ref ti, .int 0, .int 0]))] "java/lang/IllegalArgumentException" := by
  refine xMt_of (by decide +kernel) rfl (Nat.le_of_ble_eq_true rfl) ?_
  intro p e s m args below meth c ls A B hAe hA hsz hP hK hD hS hAm hTh hAs hl
  obtain ⟨⟨hx, hb, hml, hown, hts⟩, hret, hlk, hnm, hemp⟩ := id B
  have hl : lv_has ls 2 [(0, .ref fb), (1, .int x)] := hl
  refine lv_iload_n hx hb d_FB_remove_0 rfl (lv_at hl 1 rfl) ?_
  have hPc := hP.sub (ws' := []) [] rfl
  have hDc := hD.sub (ws' := []) [] (by decide) rfl
  have hKc := hK.sub (tys' := []) [] rfl
  refine xgi (wsC := []) (wr := [(fb, .inr (5, [.ref di, .ref gr, .ref re, .ref rl, .ref bu, .ref de])), (di, .inr (1, [.ref ct, .ref ti, .int 0, .int 0]))]) (va_runS (As := [.int x]) (rest := []) ⟨hx, hb, hml, hown, hts⟩ (c_FB_isFile l  D x _ ) ⟨(callB_of 1 hts (x_good k_FB_isFile) rfl rfl rfl (hts _ (List.mem_cons_of_mem _ tw_1)) (hts _ (List.mem_cons_of_mem _ tw_350)) (by decide +kernel) ⟨Nat.le_of_ble_eq_true rfl, Nat.le_of_ble_eq_true rfl⟩), (hts _ (List.mem_cons_of_mem _ tw_351))⟩ (xP_S hPc hKc hDc hAm hTh hAs hS) rfl rfl hl.1 rfl (lv_room (Nat.le_of_ble_eq_true rfl)) d_FB_remove_1 ⟨Nat.le_of_ble_eq_true rfl, Nat.le_of_ble_eq_true rfl⟩) hP hD hK hS hA [] [0, 1] rfl rfl (by decide) (by decide) (fun r1 _ H locs er1 hP hD hK hS => ?_)
  have er1 : r1 = xIn x 0 23 := er1
  subst er1
  have hK : va_K D cl [] s := hK
  have hP : va_P D cl [(fb, .inr (5, [.ref di, .ref gr, .ref re, .ref rl, .ref bu, .ref de])), (di, .inr (1, [.ref ct, .ref ti, .int 0, .int 0]))] H := hP
  have hD : va_D A [(fb, .inr (5, [.ref di, .ref gr, .ref re, .ref rl, .ref bu, .ref de])), (di, .inr (1, [.ref ct, .ref ti, .int 0, .int 0]))] := hD
  refine lv_if_ne (tgt := 17) hx hb d_FB_remove_4 (by decide) (fun b4 => ?_) (fun b4 => ?_)
  · exact absurd (xne0 (xIn_bin _ _ _) b4) h
  · obtain ⟨qz, hZ⟩ := hAm.2.1 _ (List.mem_of_getElem? (i := 10) rfl)
    exact xt_throw hx hb (hml.trans hl.1.symm) hfl hlk hemp (names := ["java/lang/RuntimeException", "java/lang/Exception"]) hown (hts _ (List.mem_cons_of_mem _ tw_249)) (hts _ (List.mem_cons_of_mem _ tw_250)) (hts _ (List.mem_cons_of_mem _ tw_12)) (by decide +kernel) (by decide +kernel) (xOwn own_IAE hts hAm hTh) hZ hS hAs (Nat.le_of_ble_eq_true rfl) (Nat.le_of_ble_eq_true rfl) (Nat.le_of_ble_eq_true rfl) (Nat.le_of_ble_eq_true rfl) (by decide) (Nat.le_of_ble_eq_true rfl) d_FB_remove_7 d_FB_remove_10 d_FB_remove_11 d_FB_remove_13 d_FB_remove_16
theorem d_FB_remove_17 : decode b_FB_remove 17 = .ok (.aload_n 0, 1) := by decide +kernel
theorem d_FB_remove_18 : decode b_FB_remove 18 = .ok (.getfield 12, 3) := by decide +kernel
theorem d_FB_remove_21 : decode b_FB_remove 21 = .ok (.getfield 146, 3) := by decide +kernel
theorem d_FB_remove_24 : decode b_FB_remove 24 = .ok (.iload_n 1, 1) := by decide +kernel
theorem d_FB_remove_25 : decode b_FB_remove 25 = .ok (.invokestatic 116, 3) := by decide +kernel
theorem d_FB_remove_28 : decode b_FB_remove 28 = .ok (.ifCond .ne (13), 3) := by decide +kernel
theorem d_FB_remove_31 : decode b_FB_remove 31 = .ok (.new 149, 3) := by decide +kernel
theorem d_FB_remove_34 : decode b_FB_remove 34 = .ok (.dup, 1) := by decide +kernel
theorem d_FB_remove_35 : decode b_FB_remove 35 = .ok (.ldc 151, 2) := by decide +kernel
theorem d_FB_remove_37 : decode b_FB_remove 37 = .ok (.invokespecial 153, 3) := by decide +kernel
theorem d_FB_remove_40 : decode b_FB_remove 40 = .ok (.athrow, 1) := by decide +kernel
set_option maxRecDepth 20000 in
set_option maxHeartbeats 4000000 in
theorem c_FB_remove_n (l : Launch) (hfl : l.flags = pinnedFlags ++ [noTraceFlag]) (D : va_G) (fb : Nat) (di : Nat) (gr : Nat) (re : Nat) (rl : Nat) (bu : Nat) (de : Nat) (ct : Nat) (ti : Nat) (x : Int32) (sz : Nat) (h : xIn x 0 23 = 1) : xMt l y_FB_remove w_FB_remove { frames := 7, cells := 1, slots := 6, locals := 110 } D cl [.ref fb, .int x] sz [] [(fb, .inr (5, [.ref di, .ref gr, .ref re, .ref rl, .ref bu, .ref de])), (di, .inr (1, [.ref ct, .ref ti, .int 0, .int 0]))] "java/util/NoSuchElementException" := by
  refine xMt_of (by decide +kernel) rfl (Nat.le_of_ble_eq_true rfl) ?_
  intro p e s m args below meth c ls A B hAe hA hsz hP hK hD hS hAm hTh hAs hl
  obtain ⟨⟨hx, hb, hml, hown, hts⟩, hret, hlk, hnm, hemp⟩ := id B
  have hl : lv_has ls 2 [(0, .ref fb), (1, .int x)] := hl
  refine lv_iload_n hx hb d_FB_remove_0 rfl (lv_at hl 1 rfl) ?_
  have hPc := hP.sub (ws' := []) [] rfl
  have hDc := hD.sub (ws' := []) [] (by decide) rfl
  have hKc := hK.sub (tys' := []) [] rfl
  refine xgi (wsC := []) (wr := [(fb, .inr (5, [.ref di, .ref gr, .ref re, .ref rl, .ref bu, .ref de])), (di, .inr (1, [.ref ct, .ref ti, .int 0, .int 0]))]) (va_runS (As := [.int x]) (rest := []) ⟨hx, hb, hml, hown, hts⟩ (c_FB_isFile l  D x _ ) ⟨(callB_of 1 hts (x_good k_FB_isFile) rfl rfl rfl (hts _ (List.mem_cons_of_mem _ tw_1)) (hts _ (List.mem_cons_of_mem _ tw_350)) (by decide +kernel) ⟨Nat.le_of_ble_eq_true rfl, Nat.le_of_ble_eq_true rfl⟩), (hts _ (List.mem_cons_of_mem _ tw_351))⟩ (xP_S hPc hKc hDc hAm hTh hAs hS) rfl rfl hl.1 rfl (lv_room (Nat.le_of_ble_eq_true rfl)) d_FB_remove_1 ⟨Nat.le_of_ble_eq_true rfl, Nat.le_of_ble_eq_true rfl⟩) hP hD hK hS hA [] [0, 1] rfl rfl (by decide) (by decide) (fun r1 _ H locs er1 hP hD hK hS => ?_)
  have er1 : r1 = xIn x 0 23 := er1
  subst er1
  have hK : va_K D cl [] s := hK
  have hP : va_P D cl [(fb, .inr (5, [.ref di, .ref gr, .ref re, .ref rl, .ref bu, .ref de])), (di, .inr (1, [.ref ct, .ref ti, .int 0, .int 0]))] H := hP
  have hD : va_D A [(fb, .inr (5, [.ref di, .ref gr, .ref re, .ref rl, .ref bu, .ref de])), (di, .inr (1, [.ref ct, .ref ti, .int 0, .int 0]))] := hD
  refine lv_if_ne (tgt := 17) hx hb d_FB_remove_4 (by decide) (fun b4 => ?_) (fun b4 => ?_)
  · refine lv_aload_n hx hb d_FB_remove_17 rfl (lv_at hl 0 rfl) ?_
    refine va_get (D := D) (ci := 5) (v := .ref di) (C := R_FB) (T := F_FB) (N := 6) hx hb hts (fun w h => List.mem_cons_of_mem _ (u_FB w h)) hown hK hP 0 rfl rfl 0 (by decide) (hts _ (List.mem_cons_of_mem _ tw_146)) (fun _ h9 => h9) rfl d_FB_remove_18 ?_
    refine va_getN (D := D) (ci := 1) (v := .int 0) (C := R_Di) (T := F_Di) (N := 4) hx hb hts (fun w h => List.mem_cons_of_mem _ (u_Di w h)) hown hK hP 1 rfl rfl 3 (by decide) (va_Nw.use rfl (hAm.1 _ (List.mem_of_getElem? (i := 3) rfl))) (fun _ h9 => h9) rfl d_FB_remove_21 ?_
    refine lv_iload_n hx hb d_FB_remove_24 rfl (lv_at hl 1 rfl) ?_
    have hPc := hP.sub (ws' := []) [] rfl
    have hDc := hD.sub (ws' := []) [] (by decide) rfl
    have hKc := hK.sub (tys' := []) [] rfl
    refine xgi (wsC := []) (wr := [(fb, .inr (5, [.ref di, .ref gr, .ref re, .ref rl, .ref bu, .ref de])), (di, .inr (1, [.ref ct, .ref ti, .int 0, .int 0]))]) (va_runS (As := [.int 0, .int x]) (rest := []) ⟨hx, hb, hml, hown, hts⟩ (c_FB_has l  D x _ ) ⟨(callB_of 2 hts (x_good k_FB_has) rfl rfl rfl (hts _ (List.mem_cons_of_mem _ tw_1)) (hts _ (List.mem_cons_of_mem _ tw_362)) (by decide +kernel) ⟨Nat.le_of_ble_eq_true rfl, Nat.le_of_ble_eq_true rfl⟩), (hts _ (List.mem_cons_of_mem _ tw_363))⟩ (xP_S hPc hKc hDc hAm hTh hAs hS) rfl rfl hl.1 rfl (lv_room (Nat.le_of_ble_eq_true rfl)) d_FB_remove_25 ⟨Nat.le_of_ble_eq_true rfl, Nat.le_of_ble_eq_true rfl⟩) hP hD hK hS hA [] [0, 1] rfl rfl (by decide) (by decide) (fun r2 _ H locs er2 hP hD hK hS => ?_)
    have er2 : r2 = 0 := er2
    subst er2
    have hK : va_K D cl [] s := hK
    have hP : va_P D cl [(fb, .inr (5, [.ref di, .ref gr, .ref re, .ref rl, .ref bu, .ref de])), (di, .inr (1, [.ref ct, .ref ti, .int 0, .int 0]))] H := hP
    have hD : va_D A [(fb, .inr (5, [.ref di, .ref gr, .ref re, .ref rl, .ref bu, .ref de])), (di, .inr (1, [.ref ct, .ref ti, .int 0, .int 0]))] := hD
    refine lv_if_ne (tgt := 41) hx hb d_FB_remove_28 (by decide) (fun b28 => absurd b28 (by decide)) (fun b28 => ?_)
    obtain ⟨qz, hZ⟩ := hAm.2.1 _ (List.mem_of_getElem? (i := 11) rfl)
    exact xt_throwN hx hb (hml.trans hl.1.symm) hfl hlk hemp (Y := "java/lang/RuntimeException") (names := ["java/lang/Exception"]) hown (hts _ (List.mem_cons_of_mem _ tw_430)) (hts _ (List.mem_cons_of_mem _ tw_431)) (hts _ (List.mem_cons_of_mem _ tw_14)) (by decide +kernel) (by decide +kernel) (by decide +kernel) dNSE_0 dNSE_1 dNSE_2 dNSE_5 (xOwn own_NSE hts hAm hTh) hZ hS hAs (Nat.le_of_ble_eq_true rfl) (Nat.le_of_ble_eq_true rfl) (Nat.le_of_ble_eq_true rfl) (Nat.le_of_ble_eq_true rfl) (by decide) (Nat.le_of_ble_eq_true rfl) d_FB_remove_31 d_FB_remove_34 d_FB_remove_35 d_FB_remove_37 d_FB_remove_40
  · exact absurd b4 (xne1 h)
theorem d_FB_begin_0 : decode b_FB_begin 0 = .ok (.iload_n 1, 1) := by decide +kernel
theorem d_FB_begin_1 : decode b_FB_begin 1 = .ok (.ifCond .eq (28), 3) := by decide +kernel
theorem d_FB_begin_4 : decode b_FB_begin 4 = .ok (.iload_n 1, 1) := by decide +kernel
theorem d_FB_begin_5 : decode b_FB_begin 5 = .ok (.ldc 158, 2) := by decide +kernel
theorem d_FB_begin_7 : decode b_FB_begin 7 = .ok (.iand, 1) := by decide +kernel
theorem d_FB_begin_8 : decode b_FB_begin 8 = .ok (.ifCond .ne (21), 3) := by decide +kernel
theorem d_FB_begin_11 : decode b_FB_begin 11 = .ok (.iload_n 2, 1) := by decide +kernel
theorem d_FB_begin_12 : decode b_FB_begin 12 = .ok (.iconst (1), 1) := by decide +kernel
theorem d_FB_begin_13 : decode b_FB_begin 13 = .ok (.iconst (4), 1) := by decide +kernel
theorem d_FB_begin_14 : decode b_FB_begin 14 = .ok (.invokestatic 61, 3) := by decide +kernel
theorem d_FB_begin_17 : decode b_FB_begin 17 = .ok (.ifCond .eq (12), 3) := by decide +kernel
theorem d_FB_begin_20 : decode b_FB_begin 20 = .ok (.iload_n 3, 1) := by decide +kernel
theorem d_FB_begin_21 : decode b_FB_begin 21 = .ok (.iconst (1), 1) := by decide +kernel
theorem d_FB_begin_22 : decode b_FB_begin 22 = .ok (.iconst (4), 1) := by decide +kernel
theorem d_FB_begin_23 : decode b_FB_begin 23 = .ok (.invokestatic 61, 3) := by decide +kernel
theorem d_FB_begin_26 : decode b_FB_begin 26 = .ok (.ifCond .ne (13), 3) := by decide +kernel
theorem d_FB_begin_29 : decode b_FB_begin 29 = .ok (.new 65, 3) := by decide +kernel
theorem d_FB_begin_32 : decode b_FB_begin 32 = .ok (.dup, 1) := by decide +kernel
theorem d_FB_begin_33 : decode b_FB_begin 33 = .ok (.ldc 159, 2) := by decide +kernel
theorem d_FB_begin_35 : decode b_FB_begin 35 = .ok (.invokespecial 69, 3) := by decide +kernel
theorem d_FB_begin_38 : decode b_FB_begin 38 = .ok (.athrow, 1) := by decide +kernel
set_option maxRecDepth 20000 in
set_option maxHeartbeats 4000000 in
theorem c_FB_begin_i (l : Launch) (hfl : l.flags = pinnedFlags ++ [noTraceFlag]) (D : va_G) (fb : Nat) (gr : Nat) (bu : Nat) (di : Nat) (re : Nat) (rl : Nat) (de : Nat) (gc : Nat) (gf : Nat) (gp : Nat) (gb : Nat) (gl : Nat) (bs : Nat) (ct : Nat) (ti : Nat) (x : Int32) (y : Int32) (z : Int32) (sz : Nat) (h : ¬ xokB x y z) : xMt l y_FB_begin w_FB_begin { frames := 7, cells := 1, slots := 6, locals := 110 } D cl [.ref fb, .int x, .int y, .int z] sz [] [(fb, .inr (5, [.ref di, .ref gr, .ref re, .ref rl, .ref bu, .ref de])), (gr, .inr (2, [.ref gc, .ref gf, .ref gp, .ref gb, .ref gl, .int 0])), (bu, .inr (0, [.ref bs, .int 0, .int 0, .int 0])), (di, .inr (1, [.ref ct, .ref ti, .int 0, .int 0]))] "java/lang/IllegalArgumentException" := by
  refine xMt_of (by decide +kernel) rfl (Nat.le_of_ble_eq_true rfl) ?_
  intro p e s m args below meth c ls A B hAe hA hsz hP hK hD hS hAm hTh hAs hl
  obtain ⟨⟨hx, hb, hml, hown, hts⟩, hret, hlk, hnm, hemp⟩ := id B
  have hl : lv_has ls 5 [(0, .ref fb), (1, .int x), (2, .int y), (3, .int z)] := hl
  refine lv_iload_n hx hb d_FB_begin_0 rfl (lv_at hl 1 rfl) ?_
  refine lv_if_eq (tgt := 29) hx hb d_FB_begin_1 (by decide) (fun b1 => ?_) (fun b1 => ?_)
  · obtain ⟨qz, hZ⟩ := hAm.2.1 _ (List.mem_of_getElem? (i := 12) rfl)
    exact xt_throw hx hb (hml.trans hl.1.symm) hfl hlk hemp (names := ["java/lang/RuntimeException", "java/lang/Exception"]) hown (hts _ (List.mem_cons_of_mem _ tw_249)) (hts _ (List.mem_cons_of_mem _ tw_250)) (hts _ (List.mem_cons_of_mem _ tw_12)) (by decide +kernel) (by decide +kernel) (xOwn own_IAE hts hAm hTh) hZ hS hAs (Nat.le_of_ble_eq_true rfl) (Nat.le_of_ble_eq_true rfl) (Nat.le_of_ble_eq_true rfl) (Nat.le_of_ble_eq_true rfl) (by decide) (Nat.le_of_ble_eq_true rfl) d_FB_begin_29 d_FB_begin_32 d_FB_begin_33 d_FB_begin_35 d_FB_begin_38
  · refine lv_iload_n hx hb d_FB_begin_4 rfl (lv_at hl 1 rfl) ?_
    refine lv_ldc (v := (-16777216)) hx hb hown (hts _ (List.mem_cons_of_mem _ tw_458)) d_FB_begin_5 ?_
    refine lv_iand hx hb d_FB_begin_7 ?_
    refine lv_if_ne (tgt := 29) hx hb d_FB_begin_8 (by decide) (fun b8 => ?_) (fun b8 => ?_)
    · obtain ⟨qz, hZ⟩ := hAm.2.1 _ (List.mem_of_getElem? (i := 12) rfl)
      exact xt_throw hx hb (hml.trans hl.1.symm) hfl hlk hemp (names := ["java/lang/RuntimeException", "java/lang/Exception"]) hown (hts _ (List.mem_cons_of_mem _ tw_249)) (hts _ (List.mem_cons_of_mem _ tw_250)) (hts _ (List.mem_cons_of_mem _ tw_12)) (by decide +kernel) (by decide +kernel) (xOwn own_IAE hts hAm hTh) hZ hS hAs (Nat.le_of_ble_eq_true rfl) (Nat.le_of_ble_eq_true rfl) (Nat.le_of_ble_eq_true rfl) (Nat.le_of_ble_eq_true rfl) (by decide) (Nat.le_of_ble_eq_true rfl) d_FB_begin_29 d_FB_begin_32 d_FB_begin_33 d_FB_begin_35 d_FB_begin_38
    · refine lv_iload_n hx hb d_FB_begin_11 rfl (lv_at hl 2 rfl) ?_
      refine lv_iconst (v := 1) hx hb d_FB_begin_12 (by decide) ?_
      refine lv_iconst (v := 4) hx hb d_FB_begin_13 (by decide) ?_
      have hPc := hP.sub (ws' := []) [] rfl
      have hDc := hD.sub (ws' := []) [] (by decide) rfl
      have hKc := hK.sub (tys' := []) [] rfl
      refine xgi (wsC := []) (wr := [(fb, .inr (5, [.ref di, .ref gr, .ref re, .ref rl, .ref bu, .ref de])), (gr, .inr (2, [.ref gc, .ref gf, .ref gp, .ref gb, .ref gl, .int 0])), (bu, .inr (0, [.ref bs, .int 0, .int 0, .int 0])), (di, .inr (1, [.ref ct, .ref ti, .int 0, .int 0]))]) (va_runS (As := [.int y, .int 1, .int 4]) (rest := []) ⟨hx, hb, hml, hown, hts⟩ (c_FB_isIn l  D y 1 4 _ ) ⟨(callB_of 3 hts (x_good k_FB_isIn) rfl rfl rfl (hts _ (List.mem_cons_of_mem _ tw_1)) (hts _ (List.mem_cons_of_mem _ tw_245)) (by decide +kernel) ⟨Nat.le_of_ble_eq_true rfl, Nat.le_of_ble_eq_true rfl⟩), (hts _ (List.mem_cons_of_mem _ tw_226))⟩ (xP_S hPc hKc hDc hAm hTh hAs hS) rfl rfl hl.1 rfl (lv_room (Nat.le_of_ble_eq_true rfl)) d_FB_begin_14 ⟨Nat.le_of_ble_eq_true rfl, Nat.le_of_ble_eq_true rfl⟩) hP hD hK hS hA [] [0, 1, 2, 3] rfl rfl (by decide) (by decide) (fun r1 _ H locs er1 hP hD hK hS => ?_)
      have er1 : r1 = xIn y 1 4 := er1
      subst er1
      have hK : va_K D cl [] s := hK
      have hP : va_P D cl [(fb, .inr (5, [.ref di, .ref gr, .ref re, .ref rl, .ref bu, .ref de])), (gr, .inr (2, [.ref gc, .ref gf, .ref gp, .ref gb, .ref gl, .int 0])), (bu, .inr (0, [.ref bs, .int 0, .int 0, .int 0])), (di, .inr (1, [.ref ct, .ref ti, .int 0, .int 0]))] H := hP
      have hD : va_D A [(fb, .inr (5, [.ref di, .ref gr, .ref re, .ref rl, .ref bu, .ref de])), (gr, .inr (2, [.ref gc, .ref gf, .ref gp, .ref gb, .ref gl, .int 0])), (bu, .inr (0, [.ref bs, .int 0, .int 0, .int 0])), (di, .inr (1, [.ref ct, .ref ti, .int 0, .int 0]))] := hD
      refine lv_if_eq (tgt := 29) hx hb d_FB_begin_17 (by decide) (fun b17 => ?_) (fun b17 => ?_)
      · obtain ⟨qz, hZ⟩ := hAm.2.1 _ (List.mem_of_getElem? (i := 12) rfl)
        exact xt_throw hx hb (hml.trans hl.1.symm) hfl hlk hemp (names := ["java/lang/RuntimeException", "java/lang/Exception"]) hown (hts _ (List.mem_cons_of_mem _ tw_249)) (hts _ (List.mem_cons_of_mem _ tw_250)) (hts _ (List.mem_cons_of_mem _ tw_12)) (by decide +kernel) (by decide +kernel) (xOwn own_IAE hts hAm hTh) hZ hS hAs (Nat.le_of_ble_eq_true rfl) (Nat.le_of_ble_eq_true rfl) (Nat.le_of_ble_eq_true rfl) (Nat.le_of_ble_eq_true rfl) (by decide) (Nat.le_of_ble_eq_true rfl) d_FB_begin_29 d_FB_begin_32 d_FB_begin_33 d_FB_begin_35 d_FB_begin_38
      · refine lv_iload_n hx hb d_FB_begin_20 rfl (lv_at hl 3 rfl) ?_
        refine lv_iconst (v := 1) hx hb d_FB_begin_21 (by decide) ?_
        refine lv_iconst (v := 4) hx hb d_FB_begin_22 (by decide) ?_
        have hPc := hP.sub (ws' := []) [] rfl
        have hDc := hD.sub (ws' := []) [] (by decide) rfl
        have hKc := hK.sub (tys' := []) [] rfl
        refine xgi (wsC := []) (wr := [(fb, .inr (5, [.ref di, .ref gr, .ref re, .ref rl, .ref bu, .ref de])), (gr, .inr (2, [.ref gc, .ref gf, .ref gp, .ref gb, .ref gl, .int 0])), (bu, .inr (0, [.ref bs, .int 0, .int 0, .int 0])), (di, .inr (1, [.ref ct, .ref ti, .int 0, .int 0]))]) (va_runS (As := [.int z, .int 1, .int 4]) (rest := []) ⟨hx, hb, hml, hown, hts⟩ (c_FB_isIn l  D z 1 4 _ ) ⟨(callB_of 3 hts (x_good k_FB_isIn) rfl rfl rfl (hts _ (List.mem_cons_of_mem _ tw_1)) (hts _ (List.mem_cons_of_mem _ tw_245)) (by decide +kernel) ⟨Nat.le_of_ble_eq_true rfl, Nat.le_of_ble_eq_true rfl⟩), (hts _ (List.mem_cons_of_mem _ tw_226))⟩ (xP_S hPc hKc hDc hAm hTh hAs hS) rfl rfl hl.1 rfl (lv_room (Nat.le_of_ble_eq_true rfl)) d_FB_begin_23 ⟨Nat.le_of_ble_eq_true rfl, Nat.le_of_ble_eq_true rfl⟩) hP hD hK hS hA [] [0, 1, 2, 3] rfl rfl (by decide) (by decide) (fun r2 _ H locs er2 hP hD hK hS => ?_)
        have er2 : r2 = xIn z 1 4 := er2
        subst er2
        have hK : va_K D cl [] s := hK
        have hP : va_P D cl [(fb, .inr (5, [.ref di, .ref gr, .ref re, .ref rl, .ref bu, .ref de])), (gr, .inr (2, [.ref gc, .ref gf, .ref gp, .ref gb, .ref gl, .int 0])), (bu, .inr (0, [.ref bs, .int 0, .int 0, .int 0])), (di, .inr (1, [.ref ct, .ref ti, .int 0, .int 0]))] H := hP
        have hD : va_D A [(fb, .inr (5, [.ref di, .ref gr, .ref re, .ref rl, .ref bu, .ref de])), (gr, .inr (2, [.ref gc, .ref gf, .ref gp, .ref gb, .ref gl, .int 0])), (bu, .inr (0, [.ref bs, .int 0, .int 0, .int 0])), (di, .inr (1, [.ref ct, .ref ti, .int 0, .int 0]))] := hD
        refine lv_if_ne (tgt := 39) hx hb d_FB_begin_26 (by decide) (fun b26 => ?_) (fun b26 => ?_)
        · exact absurd ⟨b1, b8, xne0 (xIn_bin _ _ _) b17, xne0 (xIn_bin _ _ _) b26⟩ h
        · obtain ⟨qz, hZ⟩ := hAm.2.1 _ (List.mem_of_getElem? (i := 12) rfl)
          exact xt_throw hx hb (hml.trans hl.1.symm) hfl hlk hemp (names := ["java/lang/RuntimeException", "java/lang/Exception"]) hown (hts _ (List.mem_cons_of_mem _ tw_249)) (hts _ (List.mem_cons_of_mem _ tw_250)) (hts _ (List.mem_cons_of_mem _ tw_12)) (by decide +kernel) (by decide +kernel) (xOwn own_IAE hts hAm hTh) hZ hS hAs (Nat.le_of_ble_eq_true rfl) (Nat.le_of_ble_eq_true rfl) (Nat.le_of_ble_eq_true rfl) (Nat.le_of_ble_eq_true rfl) (by decide) (Nat.le_of_ble_eq_true rfl) d_FB_begin_29 d_FB_begin_32 d_FB_begin_33 d_FB_begin_35 d_FB_begin_38
theorem d_FB_begin_39 : decode b_FB_begin 39 = .ok (.aload_n 0, 1) := by decide +kernel
theorem d_FB_begin_40 : decode b_FB_begin 40 = .ok (.invokevirtual 130, 3) := by decide +kernel
theorem d_FB_begin_43 : decode b_FB_begin 43 = .ok (.aload_n 0, 1) := by decide +kernel
theorem d_FB_begin_44 : decode b_FB_begin 44 = .ok (.getfield 19, 3) := by decide +kernel
theorem d_FB_begin_47 : decode b_FB_begin 47 = .ok (.iload_n 1, 1) := by decide +kernel
theorem d_FB_begin_48 : decode b_FB_begin 48 = .ok (.invokevirtual 161, 3) := by decide +kernel
theorem d_FB_begin_51 : decode b_FB_begin 51 = .ok (.istore 4, 2) := by decide +kernel
theorem d_FB_begin_53 : decode b_FB_begin 53 = .ok (.aload_n 0, 1) := by decide +kernel
theorem d_FB_begin_54 : decode b_FB_begin 54 = .ok (.getfield 19, 3) := by decide +kernel
theorem d_FB_begin_57 : decode b_FB_begin 57 = .ok (.iload 4, 2) := by decide +kernel
theorem d_FB_begin_59 : decode b_FB_begin 59 = .ok (.invokevirtual 165, 3) := by decide +kernel
theorem d_FB_begin_62 : decode b_FB_begin 62 = .ok (.ifCond .eq (13), 3) := by decide +kernel
theorem d_FB_begin_75 : decode b_FB_begin 75 = .ok (.aload_n 0, 1) := by decide +kernel
theorem d_FB_begin_76 : decode b_FB_begin 76 = .ok (.iload_n 1, 1) := by decide +kernel
theorem d_FB_begin_77 : decode b_FB_begin 77 = .ok (.aload_n 0, 1) := by decide +kernel
theorem d_FB_begin_78 : decode b_FB_begin 78 = .ok (.getfield 19, 3) := by decide +kernel
theorem d_FB_begin_81 : decode b_FB_begin 81 = .ok (.iload 4, 2) := by decide +kernel
theorem d_FB_begin_83 : decode b_FB_begin 83 = .ok (.invokevirtual 173, 3) := by decide +kernel
theorem d_FB_begin_86 : decode b_FB_begin 86 = .ok (.ior, 1) := by decide +kernel
theorem d_FB_begin_87 : decode b_FB_begin 87 = .ok (.invokevirtual 176, 3) := by decide +kernel
theorem d_FB_begin_90 : decode b_FB_begin 90 = .ok (.ifCond .eq (13), 3) := by decide +kernel
theorem d_FB_begin_93 : decode b_FB_begin 93 = .ok (.new 149, 3) := by decide +kernel
theorem d_FB_begin_96 : decode b_FB_begin 96 = .ok (.dup, 1) := by decide +kernel
theorem d_FB_begin_97 : decode b_FB_begin 97 = .ok (.ldc 179, 2) := by decide +kernel
theorem d_FB_begin_99 : decode b_FB_begin 99 = .ok (.invokespecial 153, 3) := by decide +kernel
theorem d_FB_begin_102 : decode b_FB_begin 102 = .ok (.athrow, 1) := by decide +kernel
set_option maxRecDepth 20000 in
set_option maxHeartbeats 4000000 in
theorem c_FB_begin_n (l : Launch) (hfl : l.flags = pinnedFlags ++ [noTraceFlag]) (D : va_G) (fb : Nat) (gr : Nat) (bu : Nat) (di : Nat) (re : Nat) (rl : Nat) (de : Nat) (gc : Nat) (gf : Nat) (gp : Nat) (gb : Nat) (gl : Nat) (bs : Nat) (ct : Nat) (ti : Nat) (x : Int32) (y : Int32) (z : Int32) (sz : Nat) (h : xokB x y z) : xMt l y_FB_begin w_FB_begin { frames := 7, cells := 1, slots := 6, locals := 110 } D cl [.ref fb, .int x, .int y, .int z] sz [] [(fb, .inr (5, [.ref di, .ref gr, .ref re, .ref rl, .ref bu, .ref de])), (gr, .inr (2, [.ref gc, .ref gf, .ref gp, .ref gb, .ref gl, .int 0])), (bu, .inr (0, [.ref bs, .int 0, .int 0, .int 0])), (di, .inr (1, [.ref ct, .ref ti, .int 0, .int 0]))] "java/util/NoSuchElementException" := by
  refine xMt_of (by decide +kernel) rfl (Nat.le_of_ble_eq_true rfl) ?_
  intro p e s m args below meth c ls A B hAe hA hsz hP hK hD hS hAm hTh hAs hl
  obtain ⟨⟨hx, hb, hml, hown, hts⟩, hret, hlk, hnm, hemp⟩ := id B
  have hl : lv_has ls 5 [(0, .ref fb), (1, .int x), (2, .int y), (3, .int z)] := hl
  refine lv_iload_n hx hb d_FB_begin_0 rfl (lv_at hl 1 rfl) ?_
  refine lv_if_eq (tgt := 29) hx hb d_FB_begin_1 (by decide) (fun b1 => ?_) (fun b1 => ?_)
  · first | exact absurd b1 h.1 | exact absurd h.2.1 b8 | exact absurd b17 (xne1 h.2.2.1) | exact absurd b26 (xne1 h.2.2.2)
  · refine lv_iload_n hx hb d_FB_begin_4 rfl (lv_at hl 1 rfl) ?_
    refine lv_ldc (v := (-16777216)) hx hb hown (hts _ (List.mem_cons_of_mem _ tw_458)) d_FB_begin_5 ?_
    refine lv_iand hx hb d_FB_begin_7 ?_
    refine lv_if_ne (tgt := 29) hx hb d_FB_begin_8 (by decide) (fun b8 => ?_) (fun b8 => ?_)
    · first | exact absurd b1 h.1 | exact absurd h.2.1 b8 | exact absurd b17 (xne1 h.2.2.1) | exact absurd b26 (xne1 h.2.2.2)
    · refine lv_iload_n hx hb d_FB_begin_11 rfl (lv_at hl 2 rfl) ?_
      refine lv_iconst (v := 1) hx hb d_FB_begin_12 (by decide) ?_
      refine lv_iconst (v := 4) hx hb d_FB_begin_13 (by decide) ?_
      have hPc := hP.sub (ws' := []) [] rfl
      have hDc := hD.sub (ws' := []) [] (by decide) rfl
      have hKc := hK.sub (tys' := []) [] rfl
      refine xgi (wsC := []) (wr := [(fb, .inr (5, [.ref di, .ref gr, .ref re, .ref rl, .ref bu, .ref de])), (gr, .inr (2, [.ref gc, .ref gf, .ref gp, .ref gb, .ref gl, .int 0])), (bu, .inr (0, [.ref bs, .int 0, .int 0, .int 0])), (di, .inr (1, [.ref ct, .ref ti, .int 0, .int 0]))]) (va_runS (As := [.int y, .int 1, .int 4]) (rest := []) ⟨hx, hb, hml, hown, hts⟩ (c_FB_isIn l  D y 1 4 _ ) ⟨(callB_of 3 hts (x_good k_FB_isIn) rfl rfl rfl (hts _ (List.mem_cons_of_mem _ tw_1)) (hts _ (List.mem_cons_of_mem _ tw_245)) (by decide +kernel) ⟨Nat.le_of_ble_eq_true rfl, Nat.le_of_ble_eq_true rfl⟩), (hts _ (List.mem_cons_of_mem _ tw_226))⟩ (xP_S hPc hKc hDc hAm hTh hAs hS) rfl rfl hl.1 rfl (lv_room (Nat.le_of_ble_eq_true rfl)) d_FB_begin_14 ⟨Nat.le_of_ble_eq_true rfl, Nat.le_of_ble_eq_true rfl⟩) hP hD hK hS hA [] [0, 1, 2, 3] rfl rfl (by decide) (by decide) (fun r1 _ H locs er1 hP hD hK hS => ?_)
      have er1 : r1 = xIn y 1 4 := er1
      subst er1
      have hK : va_K D cl [] s := hK
      have hP : va_P D cl [(fb, .inr (5, [.ref di, .ref gr, .ref re, .ref rl, .ref bu, .ref de])), (gr, .inr (2, [.ref gc, .ref gf, .ref gp, .ref gb, .ref gl, .int 0])), (bu, .inr (0, [.ref bs, .int 0, .int 0, .int 0])), (di, .inr (1, [.ref ct, .ref ti, .int 0, .int 0]))] H := hP
      have hD : va_D A [(fb, .inr (5, [.ref di, .ref gr, .ref re, .ref rl, .ref bu, .ref de])), (gr, .inr (2, [.ref gc, .ref gf, .ref gp, .ref gb, .ref gl, .int 0])), (bu, .inr (0, [.ref bs, .int 0, .int 0, .int 0])), (di, .inr (1, [.ref ct, .ref ti, .int 0, .int 0]))] := hD
      refine lv_if_eq (tgt := 29) hx hb d_FB_begin_17 (by decide) (fun b17 => ?_) (fun b17 => ?_)
      · first | exact absurd b1 h.1 | exact absurd h.2.1 b8 | exact absurd b17 (xne1 h.2.2.1) | exact absurd b26 (xne1 h.2.2.2)
      · refine lv_iload_n hx hb d_FB_begin_20 rfl (lv_at hl 3 rfl) ?_
        refine lv_iconst (v := 1) hx hb d_FB_begin_21 (by decide) ?_
        refine lv_iconst (v := 4) hx hb d_FB_begin_22 (by decide) ?_
        have hPc := hP.sub (ws' := []) [] rfl
        have hDc := hD.sub (ws' := []) [] (by decide) rfl
        have hKc := hK.sub (tys' := []) [] rfl
        refine xgi (wsC := []) (wr := [(fb, .inr (5, [.ref di, .ref gr, .ref re, .ref rl, .ref bu, .ref de])), (gr, .inr (2, [.ref gc, .ref gf, .ref gp, .ref gb, .ref gl, .int 0])), (bu, .inr (0, [.ref bs, .int 0, .int 0, .int 0])), (di, .inr (1, [.ref ct, .ref ti, .int 0, .int 0]))]) (va_runS (As := [.int z, .int 1, .int 4]) (rest := []) ⟨hx, hb, hml, hown, hts⟩ (c_FB_isIn l  D z 1 4 _ ) ⟨(callB_of 3 hts (x_good k_FB_isIn) rfl rfl rfl (hts _ (List.mem_cons_of_mem _ tw_1)) (hts _ (List.mem_cons_of_mem _ tw_245)) (by decide +kernel) ⟨Nat.le_of_ble_eq_true rfl, Nat.le_of_ble_eq_true rfl⟩), (hts _ (List.mem_cons_of_mem _ tw_226))⟩ (xP_S hPc hKc hDc hAm hTh hAs hS) rfl rfl hl.1 rfl (lv_room (Nat.le_of_ble_eq_true rfl)) d_FB_begin_23 ⟨Nat.le_of_ble_eq_true rfl, Nat.le_of_ble_eq_true rfl⟩) hP hD hK hS hA [] [0, 1, 2, 3] rfl rfl (by decide) (by decide) (fun r2 _ H locs er2 hP hD hK hS => ?_)
        have er2 : r2 = xIn z 1 4 := er2
        subst er2
        have hK : va_K D cl [] s := hK
        have hP : va_P D cl [(fb, .inr (5, [.ref di, .ref gr, .ref re, .ref rl, .ref bu, .ref de])), (gr, .inr (2, [.ref gc, .ref gf, .ref gp, .ref gb, .ref gl, .int 0])), (bu, .inr (0, [.ref bs, .int 0, .int 0, .int 0])), (di, .inr (1, [.ref ct, .ref ti, .int 0, .int 0]))] H := hP
        have hD : va_D A [(fb, .inr (5, [.ref di, .ref gr, .ref re, .ref rl, .ref bu, .ref de])), (gr, .inr (2, [.ref gc, .ref gf, .ref gp, .ref gb, .ref gl, .int 0])), (bu, .inr (0, [.ref bs, .int 0, .int 0, .int 0])), (di, .inr (1, [.ref ct, .ref ti, .int 0, .int 0]))] := hD
        refine lv_if_ne (tgt := 39) hx hb d_FB_begin_26 (by decide) (fun b26 => ?_) (fun b26 => ?_)
        · refine lv_aload_n hx hb d_FB_begin_39 rfl (lv_at hl 0 rfl) ?_
          have hPc := hP.sub (ws' := [(fb, .inr (5, [.ref di, .ref gr, .ref re, .ref rl, .ref bu, .ref de])), (bu, .inr (0, [.ref bs, .int 0, .int 0, .int 0]))]) [0, 2] rfl
          have hDc := hD.sub (ws' := [(fb, .inr (5, [.ref di, .ref gr, .ref re, .ref rl, .ref bu, .ref de])), (bu, .inr (0, [.ref bs, .int 0, .int 0, .int 0]))]) [0, 2] (by decide) rfl
          have hKc := hK.sub (tys' := []) [] rfl
          refine xgv (wsC := [(fb, .inr (5, [.ref di, .ref gr, .ref re, .ref rl, .ref bu, .ref de])), (bu, .inr (0, [.ref bs, .int 0, .int 0, .int 0]))]) (wr := [(gr, .inr (2, [.ref gc, .ref gf, .ref gp, .ref gb, .ref gl, .int 0])), (di, .inr (1, [.ref ct, .ref ti, .int 0, .int 0]))]) (va_runV (As := []) (rest := []) ⟨hx, hb, hml, hown, hts⟩ (c_FB_refuseUnderWay l  D fb bu di gr re rl de bs _ ) ⟨(callB_of 0 hts (x_good k_FB_refuseUnderWay) rfl rfl rfl (hts _ (List.mem_cons_of_mem _ tw_1)) (hts _ (List.mem_cons_of_mem _ tw_392)) (by decide +kernel) ⟨Nat.le_of_ble_eq_true rfl, Nat.le_of_ble_eq_true rfl⟩), (hts _ (List.mem_cons_of_mem _ tw_394)), (hts _ (List.mem_cons_of_mem _ (x_sel 19 rfl)))⟩ (xP_V (va_recv (ci := 5) (q0 := 0) hK hP rfl rfl) hPc hKc hDc hAm hTh hAs hS) rfl rfl hl.1 rfl (lv_room (Nat.le_of_ble_eq_true rfl)) d_FB_begin_40 ⟨Nat.le_of_ble_eq_true rfl, Nat.le_of_ble_eq_true rfl⟩) hP hD hK hS hA [0, 2] [1, 3] rfl rfl (by decide) (by decide) (fun _ H locs _ hP hD hK hS => ?_)
          have hK : va_K D cl [] s := hK
          have hP : va_P D cl [(gr, .inr (2, [.ref gc, .ref gf, .ref gp, .ref gb, .ref gl, .int 0])), (di, .inr (1, [.ref ct, .ref ti, .int 0, .int 0])), (fb, .inr (5, [.ref di, .ref gr, .ref re, .ref rl, .ref bu, .ref de])), (bu, .inr (0, [.ref bs, .int 0, .int 0, .int 0]))] H := hP
          have hD : va_D A [(gr, .inr (2, [.ref gc, .ref gf, .ref gp, .ref gb, .ref gl, .int 0])), (di, .inr (1, [.ref ct, .ref ti, .int 0, .int 0])), (fb, .inr (5, [.ref di, .ref gr, .ref re, .ref rl, .ref bu, .ref de])), (bu, .inr (0, [.ref bs, .int 0, .int 0, .int 0]))] := hD
          refine lv_aload_n hx hb d_FB_begin_43 rfl (lv_at hl 0 rfl) ?_
          refine va_get (D := D) (ci := 5) (v := .ref gr) (C := R_FB) (T := F_FB) (N := 6) hx hb hts (fun w h => List.mem_cons_of_mem _ (u_FB w h)) hown hK hP 2 rfl rfl 1 (by decide) (hts _ (List.mem_cons_of_mem _ tw_147)) (fun _ h9 => h9) rfl d_FB_begin_44 ?_
          refine lv_iload_n hx hb d_FB_begin_47 rfl (lv_at hl 1 rfl) ?_
          have hPc := hP.sub (ws' := [(gr, .inr (2, [.ref gc, .ref gf, .ref gp, .ref gb, .ref gl, .int 0]))]) [0] rfl
          have hDc := hD.sub (ws' := [(gr, .inr (2, [.ref gc, .ref gf, .ref gp, .ref gb, .ref gl, .int 0]))]) [0] (by decide) rfl
          have hKc := hK.sub (tys' := []) [] rfl
          refine xgi (wsC := [(gr, .inr (2, [.ref gc, .ref gf, .ref gp, .ref gb, .ref gl, .int 0]))]) (wr := [(di, .inr (1, [.ref ct, .ref ti, .int 0, .int 0])), (fb, .inr (5, [.ref di, .ref gr, .ref re, .ref rl, .ref bu, .ref de])), (bu, .inr (0, [.ref bs, .int 0, .int 0, .int 0]))]) (va_runVN (As := [.int x]) (rest := []) ⟨hx, hb, hml, hown, hts⟩ (c_Gr_reachedFrom l  D gr gc gf gp gb gl x _ ) ⟨(va_cnB 1 hts (x_good k_Gr_reachedFrom) rfl rfl rfl (hAm.1 _ (List.mem_of_getElem? (i := 48) rfl)) (hts _ (List.mem_cons_of_mem _ tw_3)) (by decide +kernel) ⟨Nat.le_of_ble_eq_true rfl, Nat.le_of_ble_eq_true rfl⟩), (hts _ (List.mem_cons_of_mem _ tw_462)), (hts _ (List.mem_cons_of_mem _ (x_sel 23 rfl)))⟩ (xP_V (va_recv (ci := 2) (q0 := 0) hK hP rfl rfl) hPc hKc hDc hAm hTh hAs hS) rfl rfl hl.1 rfl (lv_room (Nat.le_of_ble_eq_true rfl)) d_FB_begin_48 ⟨Nat.le_of_ble_eq_true rfl, Nat.le_of_ble_eq_true rfl⟩) hP hD hK hS hA [0] [1, 2, 3] rfl rfl (by decide) (by decide) (fun r3 _ H locs er3 hP hD hK hS => ?_)
          have er3 : r3 = 0 := er3
          subst er3
          have hK : va_K D cl [] s := hK
          have hP : va_P D cl [(di, .inr (1, [.ref ct, .ref ti, .int 0, .int 0])), (fb, .inr (5, [.ref di, .ref gr, .ref re, .ref rl, .ref bu, .ref de])), (bu, .inr (0, [.ref bs, .int 0, .int 0, .int 0])), (gr, .inr (2, [.ref gc, .ref gf, .ref gp, .ref gb, .ref gl, .int 0]))] H := hP
          have hD : va_D A [(di, .inr (1, [.ref ct, .ref ti, .int 0, .int 0])), (fb, .inr (5, [.ref di, .ref gr, .ref re, .ref rl, .ref bu, .ref de])), (bu, .inr (0, [.ref bs, .int 0, .int 0, .int 0])), (gr, .inr (2, [.ref gc, .ref gf, .ref gp, .ref gb, .ref gl, .int 0]))] := hD
          refine lv_istore hx hb d_FB_begin_51 hl (by decide) rfl (fun ls hl => ?_)
          have hl : lv_has ls 5 [(4, .int 0), (0, .ref fb), (1, .int x), (2, .int y), (3, .int z)] := hl
          refine lv_aload_n hx hb d_FB_begin_53 rfl (lv_at hl 1 rfl) ?_
          refine va_get (D := D) (ci := 5) (v := .ref gr) (C := R_FB) (T := F_FB) (N := 6) hx hb hts (fun w h => List.mem_cons_of_mem _ (u_FB w h)) hown hK hP 1 rfl rfl 1 (by decide) (hts _ (List.mem_cons_of_mem _ tw_147)) (fun _ h9 => h9) rfl d_FB_begin_54 ?_
          refine lv_iload hx hb d_FB_begin_57 (lv_at hl 0 rfl) ?_
          have hPc := hP.sub (ws' := [(gr, .inr (2, [.ref gc, .ref gf, .ref gp, .ref gb, .ref gl, .int 0]))]) [3] rfl
          have hDc := hD.sub (ws' := [(gr, .inr (2, [.ref gc, .ref gf, .ref gp, .ref gb, .ref gl, .int 0]))]) [3] (by decide) rfl
          have hKc := hK.sub (tys' := []) [] rfl
          refine xgi (wsC := [(gr, .inr (2, [.ref gc, .ref gf, .ref gp, .ref gb, .ref gl, .int 0]))]) (wr := [(di, .inr (1, [.ref ct, .ref ti, .int 0, .int 0])), (fb, .inr (5, [.ref di, .ref gr, .ref re, .ref rl, .ref bu, .ref de])), (bu, .inr (0, [.ref bs, .int 0, .int 0, .int 0]))]) (va_runVN (As := [.int 0]) (rest := []) ⟨hx, hb, hml, hown, hts⟩ (c_Gr_hasCycle l  D gr gc gf gp gb gl _ ) ⟨(va_cnB 1 hts (x_good k_Gr_hasCycle) rfl rfl rfl (hAm.1 _ (List.mem_of_getElem? (i := 50) rfl)) (hts _ (List.mem_cons_of_mem _ tw_3)) (by decide +kernel) ⟨Nat.le_of_ble_eq_true rfl, Nat.le_of_ble_eq_true rfl⟩), (hts _ (List.mem_cons_of_mem _ tw_475)), (hts _ (List.mem_cons_of_mem _ (x_sel 26 rfl)))⟩ (xP_V (va_recv (ci := 2) (q0 := 3) hK hP rfl rfl) hPc hKc hDc hAm hTh hAs hS) rfl rfl hl.1 rfl (lv_room (Nat.le_of_ble_eq_true rfl)) d_FB_begin_59 ⟨Nat.le_of_ble_eq_true rfl, Nat.le_of_ble_eq_true rfl⟩) hP hD hK hS hA [3] [0, 1, 2] rfl rfl (by decide) (by decide) (fun r4 _ H locs er4 hP hD hK hS => ?_)
          have er4 : r4 = 0 := er4
          subst er4
          have hK : va_K D cl [] s := hK
          have hP : va_P D cl [(di, .inr (1, [.ref ct, .ref ti, .int 0, .int 0])), (fb, .inr (5, [.ref di, .ref gr, .ref re, .ref rl, .ref bu, .ref de])), (bu, .inr (0, [.ref bs, .int 0, .int 0, .int 0])), (gr, .inr (2, [.ref gc, .ref gf, .ref gp, .ref gb, .ref gl, .int 0]))] H := hP
          have hD : va_D A [(di, .inr (1, [.ref ct, .ref ti, .int 0, .int 0])), (fb, .inr (5, [.ref di, .ref gr, .ref re, .ref rl, .ref bu, .ref de])), (bu, .inr (0, [.ref bs, .int 0, .int 0, .int 0])), (gr, .inr (2, [.ref gc, .ref gf, .ref gp, .ref gb, .ref gl, .int 0]))] := hD
          refine lv_if_eq (tgt := 75) hx hb d_FB_begin_62 (by decide) (fun b62 => ?_) (fun b62 => absurd b62 (by decide))
          refine lv_aload_n hx hb d_FB_begin_75 rfl (lv_at hl 1 rfl) ?_
          refine lv_iload_n hx hb d_FB_begin_76 rfl (lv_at hl 2 rfl) ?_
          refine lv_aload_n hx hb d_FB_begin_77 rfl (lv_at hl 1 rfl) ?_
          refine va_get (D := D) (ci := 5) (v := .ref gr) (C := R_FB) (T := F_FB) (N := 6) hx hb hts (fun w h => List.mem_cons_of_mem _ (u_FB w h)) hown hK hP 1 rfl rfl 1 (by decide) (hts _ (List.mem_cons_of_mem _ tw_147)) (fun _ h9 => h9) rfl d_FB_begin_78 ?_
          refine lv_iload hx hb d_FB_begin_81 (lv_at hl 0 rfl) ?_
          have hPc := hP.sub (ws' := [(gr, .inr (2, [.ref gc, .ref gf, .ref gp, .ref gb, .ref gl, .int 0]))]) [3] rfl
          have hDc := hD.sub (ws' := [(gr, .inr (2, [.ref gc, .ref gf, .ref gp, .ref gb, .ref gl, .int 0]))]) [3] (by decide) rfl
          have hKc := hK.sub (tys' := []) [] rfl
          refine xgi (wsC := [(gr, .inr (2, [.ref gc, .ref gf, .ref gp, .ref gb, .ref gl, .int 0]))]) (wr := [(di, .inr (1, [.ref ct, .ref ti, .int 0, .int 0])), (fb, .inr (5, [.ref di, .ref gr, .ref re, .ref rl, .ref bu, .ref de])), (bu, .inr (0, [.ref bs, .int 0, .int 0, .int 0]))]) (va_runVN (As := [.int 0]) (rest := [.int x, .ref fb]) ⟨hx, hb, hml, hown, hts⟩ (c_Gr_waitedForBy l  D gr gc gf gp gb gl 0 _ ) ⟨(va_cnB 1 hts (x_good k_Gr_waitedForBy) rfl rfl rfl (hAm.1 _ (List.mem_of_getElem? (i := 52) rfl)) (hts _ (List.mem_cons_of_mem _ tw_3)) (by decide +kernel) ⟨Nat.le_of_ble_eq_true rfl, Nat.le_of_ble_eq_true rfl⟩), (hts _ (List.mem_cons_of_mem _ tw_470)), (hts _ (List.mem_cons_of_mem _ (x_sel 25 rfl)))⟩ (xP_V (va_recv (ci := 2) (q0 := 3) hK hP rfl rfl) hPc hKc hDc hAm hTh hAs hS) rfl rfl hl.1 rfl (lv_room (Nat.le_of_ble_eq_true rfl)) d_FB_begin_83 ⟨Nat.le_of_ble_eq_true rfl, Nat.le_of_ble_eq_true rfl⟩) hP hD hK hS hA [3] [0, 1, 2] rfl rfl (by decide) (by decide) (fun r5 _ H locs er5 hP hD hK hS => ?_)
          have er5 : r5 = 0 := er5
          subst er5
          have hK : va_K D cl [] s := hK
          have hP : va_P D cl [(di, .inr (1, [.ref ct, .ref ti, .int 0, .int 0])), (fb, .inr (5, [.ref di, .ref gr, .ref re, .ref rl, .ref bu, .ref de])), (bu, .inr (0, [.ref bs, .int 0, .int 0, .int 0])), (gr, .inr (2, [.ref gc, .ref gf, .ref gp, .ref gb, .ref gl, .int 0]))] H := hP
          have hD : va_D A [(di, .inr (1, [.ref ct, .ref ti, .int 0, .int 0])), (fb, .inr (5, [.ref di, .ref gr, .ref re, .ref rl, .ref bu, .ref de])), (bu, .inr (0, [.ref bs, .int 0, .int 0, .int 0])), (gr, .inr (2, [.ref gc, .ref gf, .ref gp, .ref gb, .ref gl, .int 0]))] := hD
          refine lv_ior hx hb d_FB_begin_86 ?_
          have hPc := hP.sub (ws' := [(fb, .inr (5, [.ref di, .ref gr, .ref re, .ref rl, .ref bu, .ref de])), (gr, .inr (2, [.ref gc, .ref gf, .ref gp, .ref gb, .ref gl, .int 0])), (di, .inr (1, [.ref ct, .ref ti, .int 0, .int 0]))]) [1, 3, 0] rfl
          have hDc := hD.sub (ws' := [(fb, .inr (5, [.ref di, .ref gr, .ref re, .ref rl, .ref bu, .ref de])), (gr, .inr (2, [.ref gc, .ref gf, .ref gp, .ref gb, .ref gl, .int 0])), (di, .inr (1, [.ref ct, .ref ti, .int 0, .int 0]))]) [1, 3, 0] (by decide) rfl
          have hKc := hK.sub (tys' := []) [] rfl
          refine xgi (wsC := [(fb, .inr (5, [.ref di, .ref gr, .ref re, .ref rl, .ref bu, .ref de])), (gr, .inr (2, [.ref gc, .ref gf, .ref gp, .ref gb, .ref gl, .int 0])), (di, .inr (1, [.ref ct, .ref ti, .int 0, .int 0]))]) (wr := [(bu, .inr (0, [.ref bs, .int 0, .int 0, .int 0]))]) (va_runV (As := [.int (x ||| (0 : Int32))]) (rest := []) ⟨hx, hb, hml, hown, hts⟩ (c_FB_isMissing l  D fb gr di re rl bu de gc gf gp gb gl ct ti (x ||| (0 : Int32)) _ (by rw [xor0]; exact h.1)) ⟨(callB_of 1 hts (x_good k_FB_isMissing) rfl rfl rfl (hts _ (List.mem_cons_of_mem _ tw_1)) (hts _ (List.mem_cons_of_mem _ tw_498)) (by decide +kernel) ⟨Nat.le_of_ble_eq_true rfl, Nat.le_of_ble_eq_true rfl⟩), (hts _ (List.mem_cons_of_mem _ tw_500)), (hts _ (List.mem_cons_of_mem _ (x_sel 28 rfl)))⟩ (xP_V (va_recv (ci := 5) (q0 := 1) hK hP rfl rfl) hPc hKc hDc hAm hTh hAs hS) rfl rfl hl.1 rfl (lv_room (Nat.le_of_ble_eq_true rfl)) d_FB_begin_87 ⟨Nat.le_of_ble_eq_true rfl, Nat.le_of_ble_eq_true rfl⟩) hP hD hK hS hA [1, 3, 0] [2] rfl rfl (by decide) (by decide) (fun r6 _ H locs er6 hP hD hK hS => ?_)
          have er6 : r6 = 1 := er6
          subst er6
          have hK : va_K D cl [] s := hK
          have hP : va_P D cl [(bu, .inr (0, [.ref bs, .int 0, .int 0, .int 0])), (fb, .inr (5, [.ref di, .ref gr, .ref re, .ref rl, .ref bu, .ref de])), (gr, .inr (2, [.ref gc, .ref gf, .ref gp, .ref gb, .ref gl, .int 0])), (di, .inr (1, [.ref ct, .ref ti, .int 0, .int 0]))] H := hP
          have hD : va_D A [(bu, .inr (0, [.ref bs, .int 0, .int 0, .int 0])), (fb, .inr (5, [.ref di, .ref gr, .ref re, .ref rl, .ref bu, .ref de])), (gr, .inr (2, [.ref gc, .ref gf, .ref gp, .ref gb, .ref gl, .int 0])), (di, .inr (1, [.ref ct, .ref ti, .int 0, .int 0]))] := hD
          refine lv_if_eq (tgt := 103) hx hb d_FB_begin_90 (by decide) (fun b90 => absurd b90 (by decide)) (fun b90 => ?_)
          obtain ⟨qz, hZ⟩ := hAm.2.1 _ (List.mem_of_getElem? (i := 14) rfl)
          exact xt_throwN hx hb (hml.trans hl.1.symm) hfl hlk hemp (Y := "java/lang/RuntimeException") (names := ["java/lang/Exception"]) hown (hts _ (List.mem_cons_of_mem _ tw_430)) (hts _ (List.mem_cons_of_mem _ tw_431)) (hts _ (List.mem_cons_of_mem _ tw_14)) (by decide +kernel) (by decide +kernel) (by decide +kernel) dNSE_0 dNSE_1 dNSE_2 dNSE_5 (xOwn own_NSE hts hAm hTh) hZ hS hAs (Nat.le_of_ble_eq_true rfl) (Nat.le_of_ble_eq_true rfl) (Nat.le_of_ble_eq_true rfl) (Nat.le_of_ble_eq_true rfl) (by decide) (Nat.le_of_ble_eq_true rfl) d_FB_begin_93 d_FB_begin_96 d_FB_begin_97 d_FB_begin_99 d_FB_begin_102
        · first | exact absurd b1 h.1 | exact absurd h.2.1 b8 | exact absurd b17 (xne1 h.2.2.1) | exact absurd b26 (xne1 h.2.2.2)
theorem d_FB_start_0 : decode b_FB_start 0 = .ok (.aload_n 0, 1) := by decide +kernel
theorem d_FB_start_1 : decode b_FB_start 1 = .ok (.getfield 40, 3) := by decide +kernel
theorem d_FB_start_4 : decode b_FB_start 4 = .ok (.invokevirtual 76, 3) := by decide +kernel
theorem d_FB_start_7 : decode b_FB_start 7 = .ok (.ifCond .eq (10), 3) := by decide +kernel
theorem d_FB_start_17 : decode b_FB_start 17 = .ok (.iconst (-1), 1) := by decide +kernel
theorem d_FB_start_18 : decode b_FB_start 18 = .ok (.istore_n 1, 1) := by decide +kernel
theorem d_FB_start_19 : decode b_FB_start 19 = .ok (.iload_n 1, 1) := by decide +kernel
theorem d_FB_start_20 : decode b_FB_start 20 = .ok (.iconst (-1), 1) := by decide +kernel
theorem d_FB_start_21 : decode b_FB_start 21 = .ok (.if_icmp .eq (13), 3) := by decide +kernel
theorem d_FB_start_34 : decode b_FB_start 34 = .ok (.iload_n 1, 1) := by decide +kernel
theorem d_FB_start_35 : decode b_FB_start 35 = .ok (.ireturn, 1) := by decide +kernel
set_option maxRecDepth 20000 in
set_option maxHeartbeats 4000000 in
theorem c_FB_start (l : Launch) (D : va_G) (fb : Nat) (bu : Nat) (di : Nat) (gr : Nat) (re : Nat) (rl : Nat) (de : Nat) (bs : Nat) (sz : Nat)  : xMi l y_FB_start w_FB_start { frames := 2, cells := 0, slots := 0, locals := 60 } D cl [.ref fb] sz [] [(fb, .inr (5, [.ref di, .ref gr, .ref re, .ref rl, .ref bu, .ref de])), (bu, .inr (0, [.ref bs, .int 0, .int 0, .int 0]))] (fun (r : Int32) (_ : Unit) => r = (-1)) (fun _ => []) (fun _ => []) := by
  refine xMi_of (by decide +kernel) rfl (Nat.le_of_ble_eq_true rfl) ?_
  intro p e s m args below meth c ls A B hAe hA hsz hP hK hD hS hAm hTh hAs hl
  obtain ⟨⟨hx, hb, hml, hown, hts⟩, hret, hlk, hnm, hemp⟩ := id B
  have hl : lv_has ls 2 [(0, .ref fb)] := hl
  refine lv_aload_n hx hb d_FB_start_0 rfl (lv_at hl 0 rfl) ?_
  refine va_get (D := D) (ci := 5) (v := .ref bu) (C := R_FB) (T := F_FB) (N := 6) hx hb hts (fun w h => List.mem_cons_of_mem _ (u_FB w h)) hown hK hP 0 rfl rfl 4 (by decide) (hts _ (List.mem_cons_of_mem _ tw_150)) (fun _ h9 => h9) rfl d_FB_start_1 ?_
  have hPc := hP.sub (ws' := [(bu, .inr (0, [.ref bs, .int 0, .int 0, .int 0]))]) [1] rfl
  have hDc := hD.sub (ws' := [(bu, .inr (0, [.ref bs, .int 0, .int 0, .int 0]))]) [1] (by decide) rfl
  have hKc := hK.sub (tys' := []) [] rfl
  refine xgi (wsC := [(bu, .inr (0, [.ref bs, .int 0, .int 0, .int 0]))]) (wr := [(fb, .inr (5, [.ref di, .ref gr, .ref re, .ref rl, .ref bu, .ref de]))]) (va_runVN (As := []) (rest := []) ⟨hx, hb, hml, hown, hts⟩ (c_Bu_isUnderWay l  D bu bs _ ) ⟨(va_cnB 0 hts (x_good k_Bu_isUnderWay) rfl rfl rfl (hAm.1 _ (List.mem_of_getElem? (i := 23) rfl)) (hts _ (List.mem_cons_of_mem _ tw_7)) (by decide +kernel) ⟨Nat.le_of_ble_eq_true rfl, Nat.le_of_ble_eq_true rfl⟩), (hts _ (List.mem_cons_of_mem _ tw_171)), (hts _ (List.mem_cons_of_mem _ (x_sel 0 rfl)))⟩ (xP_V (va_recv (ci := 0) (q0 := 1) hK hP rfl rfl) hPc hKc hDc hAm hTh hAs hS) rfl rfl hl.1 rfl (lv_room (Nat.le_of_ble_eq_true rfl)) d_FB_start_4 ⟨Nat.le_of_ble_eq_true rfl, Nat.le_of_ble_eq_true rfl⟩) hP hD hK hS hA [1] [0] rfl rfl (by decide) (by decide) (fun r1 _ H locs er1 hP hD hK hS => ?_)
  have er1 : r1 = 0 := er1
  subst er1
  have hK : va_K D cl [] s := hK
  have hP : va_P D cl [(fb, .inr (5, [.ref di, .ref gr, .ref re, .ref rl, .ref bu, .ref de])), (bu, .inr (0, [.ref bs, .int 0, .int 0, .int 0]))] H := hP
  have hD : va_D A [(fb, .inr (5, [.ref di, .ref gr, .ref re, .ref rl, .ref bu, .ref de])), (bu, .inr (0, [.ref bs, .int 0, .int 0, .int 0]))] := hD
  refine lv_if_eq (tgt := 17) hx hb d_FB_start_7 (by decide) (fun b7 => ?_) (fun b7 => absurd b7 (by decide))
  refine lv_iconst (v := (-1)) hx hb d_FB_start_17 (by decide) ?_
  refine lv_istore_n hx hb d_FB_start_18 rfl hl (by decide) rfl (fun ls hl => ?_)
  have hl : lv_has ls 2 [(1, .int (-1)), (0, .ref fb)] := hl
  refine lv_iload_n hx hb d_FB_start_19 rfl (lv_at hl 0 rfl) ?_
  refine lv_iconst (v := (-1)) hx hb d_FB_start_20 (by decide) ?_
  refine lv_icmp_eq (tgt := 34) hx hb d_FB_start_21 (by decide) (fun b21 => ?_) (fun b21 => absurd b21 (by decide))
  refine lv_iload_n hx hb d_FB_start_34 rfl (lv_at hl 0 rfl) ?_
  exact xri () B d_FB_start_35 (rfl) (hP.sub (ws' := []) [] rfl) (hK.sub (tys' := []) [] rfl) (hD.sub (ws' := []) [] (by decide) rfl) hS (Nat.le_of_ble_eq_true rfl) (Nat.le_of_ble_eq_true rfl)
theorem d_FB_finish_0 : decode b_FB_finish 0 = .ok (.aload_n 0, 1) := by decide +kernel
theorem d_FB_finish_1 : decode b_FB_finish 1 = .ok (.getfield 19, 3) := by decide +kernel
theorem d_FB_finish_4 : decode b_FB_finish 4 = .ok (.iload_n 1, 1) := by decide +kernel
theorem d_FB_finish_5 : decode b_FB_finish 5 = .ok (.invokevirtual 89, 3) := by decide +kernel
theorem d_FB_finish_8 : decode b_FB_finish 8 = .ok (.ifCond .eq (16), 3) := by decide +kernel
theorem d_FB_finish_24 : decode b_FB_finish 24 = .ok (.new 149, 3) := by decide +kernel
theorem d_FB_finish_27 : decode b_FB_finish 27 = .ok (.dup, 1) := by decide +kernel
theorem d_FB_finish_28 : decode b_FB_finish 28 = .ok (.ldc 199, 2) := by decide +kernel
theorem d_FB_finish_30 : decode b_FB_finish 30 = .ok (.invokespecial 153, 3) := by decide +kernel
theorem d_FB_finish_33 : decode b_FB_finish 33 = .ok (.athrow, 1) := by decide +kernel
set_option maxRecDepth 20000 in
set_option maxHeartbeats 4000000 in
theorem c_FB_finish_n (l : Launch) (hfl : l.flags = pinnedFlags ++ [noTraceFlag]) (D : va_G) (fb : Nat) (gr : Nat) (di : Nat) (re : Nat) (rl : Nat) (bu : Nat) (de : Nat) (gc : Nat) (gf : Nat) (gp : Nat) (gb : Nat) (gl : Nat) (x : Int32) (y : Int32) (sz : Nat)  : xMt l y_FB_finish w_FB_finish { frames := 7, cells := 1, slots := 6, locals := 110 } D cl [.ref fb, .int x, .int y] sz [] [(fb, .inr (5, [.ref di, .ref gr, .ref re, .ref rl, .ref bu, .ref de])), (gr, .inr (2, [.ref gc, .ref gf, .ref gp, .ref gb, .ref gl, .int 0]))] "java/util/NoSuchElementException" := by
  refine xMt_of (by decide +kernel) rfl (Nat.le_of_ble_eq_true rfl) ?_
  intro p e s m args below meth c ls A B hAe hA hsz hP hK hD hS hAm hTh hAs hl
  obtain ⟨⟨hx, hb, hml, hown, hts⟩, hret, hlk, hnm, hemp⟩ := id B
  have hl : lv_has ls 4 [(0, .ref fb), (1, .int x), (2, .int y)] := hl
  refine lv_aload_n hx hb d_FB_finish_0 rfl (lv_at hl 0 rfl) ?_
  refine va_get (D := D) (ci := 5) (v := .ref gr) (C := R_FB) (T := F_FB) (N := 6) hx hb hts (fun w h => List.mem_cons_of_mem _ (u_FB w h)) hown hK hP 0 rfl rfl 1 (by decide) (hts _ (List.mem_cons_of_mem _ tw_147)) (fun _ h9 => h9) rfl d_FB_finish_1 ?_
  refine lv_iload_n hx hb d_FB_finish_4 rfl (lv_at hl 1 rfl) ?_
  have hPc := hP.sub (ws' := [(gr, .inr (2, [.ref gc, .ref gf, .ref gp, .ref gb, .ref gl, .int 0]))]) [1] rfl
  have hDc := hD.sub (ws' := [(gr, .inr (2, [.ref gc, .ref gf, .ref gp, .ref gb, .ref gl, .int 0]))]) [1] (by decide) rfl
  have hKc := hK.sub (tys' := []) [] rfl
  refine xgi (wsC := [(gr, .inr (2, [.ref gc, .ref gf, .ref gp, .ref gb, .ref gl, .int 0]))]) (wr := [(fb, .inr (5, [.ref di, .ref gr, .ref re, .ref rl, .ref bu, .ref de]))]) (va_runVN (As := [.int x]) (rest := []) ⟨hx, hb, hml, hown, hts⟩ (c_Gr_hasEdge l  D gr gc gf gp gb gl x _ ) ⟨(va_cnB 1 hts (x_good k_Gr_hasEdge) rfl rfl rfl (hAm.1 _ (List.mem_of_getElem? (i := 38) rfl)) (hts _ (List.mem_cons_of_mem _ tw_3)) (by decide +kernel) ⟨Nat.le_of_ble_eq_true rfl, Nat.le_of_ble_eq_true rfl⟩), (hts _ (List.mem_cons_of_mem _ tw_347)), (hts _ (List.mem_cons_of_mem _ (x_sel 14 rfl)))⟩ (xP_V (va_recv (ci := 2) (q0 := 1) hK hP rfl rfl) hPc hKc hDc hAm hTh hAs hS) rfl rfl hl.1 rfl (lv_room (Nat.le_of_ble_eq_true rfl)) d_FB_finish_5 ⟨Nat.le_of_ble_eq_true rfl, Nat.le_of_ble_eq_true rfl⟩) hP hD hK hS hA [1] [0] rfl rfl (by decide) (by decide) (fun r1 _ H locs er1 hP hD hK hS => ?_)
  have er1 : r1 = 0 := er1
  subst er1
  have hK : va_K D cl [] s := hK
  have hP : va_P D cl [(fb, .inr (5, [.ref di, .ref gr, .ref re, .ref rl, .ref bu, .ref de])), (gr, .inr (2, [.ref gc, .ref gf, .ref gp, .ref gb, .ref gl, .int 0]))] H := hP
  have hD : va_D A [(fb, .inr (5, [.ref di, .ref gr, .ref re, .ref rl, .ref bu, .ref de])), (gr, .inr (2, [.ref gc, .ref gf, .ref gp, .ref gb, .ref gl, .int 0]))] := hD
  refine lv_if_eq (tgt := 24) hx hb d_FB_finish_8 (by decide) (fun b8 => ?_) (fun b8 => absurd b8 (by decide))
  obtain ⟨qz, hZ⟩ := hAm.2.1 _ (List.mem_of_getElem? (i := 15) rfl)
  exact xt_throwN hx hb (hml.trans hl.1.symm) hfl hlk hemp (Y := "java/lang/RuntimeException") (names := ["java/lang/Exception"]) hown (hts _ (List.mem_cons_of_mem _ tw_430)) (hts _ (List.mem_cons_of_mem _ tw_431)) (hts _ (List.mem_cons_of_mem _ tw_14)) (by decide +kernel) (by decide +kernel) (by decide +kernel) dNSE_0 dNSE_1 dNSE_2 dNSE_5 (xOwn own_NSE hts hAm hTh) hZ hS hAs (Nat.le_of_ble_eq_true rfl) (Nat.le_of_ble_eq_true rfl) (Nat.le_of_ble_eq_true rfl) (Nat.le_of_ble_eq_true rfl) (by decide) (Nat.le_of_ble_eq_true rfl) d_FB_finish_24 d_FB_finish_27 d_FB_finish_28 d_FB_finish_30 d_FB_finish_33
theorem d_FB_state_0 : decode b_FB_state 0 = .ok (.aload_n 0, 1) := by decide +kernel
theorem d_FB_state_1 : decode b_FB_state 1 = .ok (.getfield 40, 3) := by decide +kernel
theorem d_FB_state_4 : decode b_FB_state 4 = .ok (.getfield 207, 3) := by decide +kernel
theorem d_FB_state_7 : decode b_FB_state 7 = .ok (.ireturn, 1) := by decide +kernel
set_option maxRecDepth 20000 in
set_option maxHeartbeats 4000000 in
theorem c_FB_state (l : Launch) (D : va_G) (fb : Nat) (bu : Nat) (di : Nat) (gr : Nat) (re : Nat) (rl : Nat) (de : Nat) (bs : Nat) (sz : Nat)  : xMi l y_FB_state w_FB_state { frames := 2, cells := 0, slots := 0, locals := 60 } D cl [.ref fb] sz [] [(fb, .inr (5, [.ref di, .ref gr, .ref re, .ref rl, .ref bu, .ref de])), (bu, .inr (0, [.ref bs, .int 0, .int 0, .int 0]))] (fun (r : Int32) (_ : Unit) => r = 0) (fun _ => []) (fun _ => []) := by
  refine xMi_of (by decide +kernel) rfl (Nat.le_of_ble_eq_true rfl) ?_
  intro p e s m args below meth c ls A B hAe hA hsz hP hK hD hS hAm hTh hAs hl
  obtain ⟨⟨hx, hb, hml, hown, hts⟩, hret, hlk, hnm, hemp⟩ := id B
  have hl : lv_has ls 1 [(0, .ref fb)] := hl
  refine lv_aload_n hx hb d_FB_state_0 rfl (lv_at hl 0 rfl) ?_
  refine va_get (D := D) (ci := 5) (v := .ref bu) (C := R_FB) (T := F_FB) (N := 6) hx hb hts (fun w h => List.mem_cons_of_mem _ (u_FB w h)) hown hK hP 0 rfl rfl 4 (by decide) (hts _ (List.mem_cons_of_mem _ tw_150)) (fun _ h9 => h9) rfl d_FB_state_1 ?_
  refine va_getN (D := D) (ci := 0) (v := .int 0) (C := R_Bu) (T := F_Bu) (N := 4) hx hb hts (fun w h => List.mem_cons_of_mem _ (u_Bu w h)) hown hK hP 1 rfl rfl 3 (by decide) (va_Nw.use rfl (hAm.1 _ (List.mem_of_getElem? (i := 22) rfl))) (fun _ h9 => h9) rfl d_FB_state_4 ?_
  exact xri () B d_FB_state_7 (rfl) (hP.sub (ws' := []) [] rfl) (hK.sub (tys' := []) [] rfl) (hD.sub (ws' := []) [] (by decide) rfl) hS (Nat.le_of_ble_eq_true rfl) (Nat.le_of_ble_eq_true rfl)
theorem d_FB_file_0 : decode b_FB_file 0 = .ok (.iload_n 1, 1) := by decide +kernel
theorem d_FB_file_1 : decode b_FB_file 1 = .ok (.invokestatic 92, 3) := by decide +kernel
theorem d_FB_file_4 : decode b_FB_file 4 = .ok (.ifCond .ne (13), 3) := by decide +kernel
theorem d_FB_file_17 : decode b_FB_file 17 = .ok (.iload_n 2, 1) := by decide +kernel
theorem d_FB_file_18 : decode b_FB_file 18 = .ok (.tableswitch (85) (0) (3) #[(30), (40), (50), (75)], 30) := by decide +kernel
theorem d_FB_file_48 : decode b_FB_file 48 = .ok (.aload_n 0, 1) := by decide +kernel
theorem d_FB_file_49 : decode b_FB_file 49 = .ok (.getfield 12, 3) := by decide +kernel
theorem d_FB_file_52 : decode b_FB_file 52 = .ok (.getfield 213, 3) := by decide +kernel
theorem d_FB_file_55 : decode b_FB_file 55 = .ok (.iload_n 1, 1) := by decide +kernel
theorem d_FB_file_56 : decode b_FB_file 56 = .ok (.iaload, 1) := by decide +kernel
theorem d_FB_file_57 : decode b_FB_file 57 = .ok (.ireturn, 1) := by decide +kernel
set_option maxRecDepth 20000 in
set_option maxHeartbeats 4000000 in
theorem c_FB_file_0 (l : Launch) (D : va_G) (fb : Nat) (di : Nat) (ct : Nat) (gr : Nat) (re : Nat) (rl : Nat) (bu : Nat) (de : Nat) (ti : Nat) (cI : ClassId) (x : Int32) (sz : Nat) (h : xIn x 0 23 = 1) : xMi l y_FB_file w_FB_file { frames := 2, cells := 0, slots := 0, locals := 60 } D cl [.ref fb, .int x, .int 0] sz [(cI, .int)] [(fb, .inr (5, [.ref di, .ref gr, .ref re, .ref rl, .ref bu, .ref de])), (di, .inr (1, [.ref ct, .ref ti, .int 0, .int 0])), (ct, .inl (cI, 24, .inl (fun _ => 0)))] (fun (r : Int32) (_ : Unit) => r = 0) (fun _ => []) (fun _ => []) := by
  refine xMi_of (by decide +kernel) rfl (Nat.le_of_ble_eq_true rfl) ?_
  intro p e s m args below meth c ls A B hAe hA hsz hP hK hD hS hAm hTh hAs hl
  obtain ⟨⟨hx, hb, hml, hown, hts⟩, hret, hlk, hnm, hemp⟩ := id B
  have hl : lv_has ls 3 [(0, .ref fb), (1, .int x), (2, .int 0)] := hl
  refine lv_iload_n hx hb d_FB_file_0 rfl (lv_at hl 1 rfl) ?_
  have hPc := hP.sub (ws' := []) [] rfl
  have hDc := hD.sub (ws' := []) [] (by decide) rfl
  have hKc := hK.sub (tys' := []) [] rfl
  refine xgi (wsC := []) (wr := [(fb, .inr (5, [.ref di, .ref gr, .ref re, .ref rl, .ref bu, .ref de])), (di, .inr (1, [.ref ct, .ref ti, .int 0, .int 0])), (ct, .inl (cI, 24, .inl (fun _ => 0)))]) (va_runS (As := [.int x]) (rest := []) ⟨hx, hb, hml, hown, hts⟩ (c_FB_isFile l  D x _ ) ⟨(callB_of 1 hts (x_good k_FB_isFile) rfl rfl rfl (hts _ (List.mem_cons_of_mem _ tw_1)) (hts _ (List.mem_cons_of_mem _ tw_350)) (by decide +kernel) ⟨Nat.le_of_ble_eq_true rfl, Nat.le_of_ble_eq_true rfl⟩), (hts _ (List.mem_cons_of_mem _ tw_351))⟩ (xP_S hPc hKc hDc hAm hTh hAs hS) rfl rfl hl.1 rfl (lv_room (Nat.le_of_ble_eq_true rfl)) d_FB_file_1 ⟨Nat.le_of_ble_eq_true rfl, Nat.le_of_ble_eq_true rfl⟩) hP hD hK hS hA [] [0, 1, 2] rfl rfl (by decide) (by decide) (fun r1 _ H locs er1 hP hD hK hS => ?_)
  have er1 : r1 = xIn x 0 23 := er1
  subst er1
  have hK : va_K D cl [(cI, .int)] s := hK
  have hP : va_P D cl [(fb, .inr (5, [.ref di, .ref gr, .ref re, .ref rl, .ref bu, .ref de])), (di, .inr (1, [.ref ct, .ref ti, .int 0, .int 0])), (ct, .inl (cI, 24, .inl (fun _ => 0)))] H := hP
  have hD : va_D A [(fb, .inr (5, [.ref di, .ref gr, .ref re, .ref rl, .ref bu, .ref de])), (di, .inr (1, [.ref ct, .ref ti, .int 0, .int 0])), (ct, .inl (cI, 24, .inl (fun _ => 0)))] := hD
  refine lv_if_ne (tgt := 17) hx hb d_FB_file_4 (by decide) (fun b4 => ?_) (fun b4 => ?_)
  · refine lv_iload_n hx hb d_FB_file_17 rfl (lv_at hl 2 rfl) ?_
    refine lv_tableIn (off := 30) (tgt := 48) hx hb d_FB_file_18 (by decide) (by decide) rfl (by decide) ?_
    refine lv_aload_n hx hb d_FB_file_48 rfl (lv_at hl 0 rfl) ?_
    refine va_get (D := D) (ci := 5) (v := .ref di) (C := R_FB) (T := F_FB) (N := 6) hx hb hts (fun w h => List.mem_cons_of_mem _ (u_FB w h)) hown hK hP 0 rfl rfl 0 (by decide) (hts _ (List.mem_cons_of_mem _ tw_146)) (fun _ h9 => h9) rfl d_FB_file_49 ?_
    refine va_getN (D := D) (ci := 1) (v := .ref ct) (C := R_Di) (T := F_Di) (N := 4) hx hb hts (fun w h => List.mem_cons_of_mem _ (u_Di w h)) hown hK hP 1 rfl rfl 0 (by decide) (va_Nw.use rfl (hAm.1 _ (List.mem_of_getElem? (i := 1) rfl))) (fun _ h9 => h9) rfl d_FB_file_52 ?_
    refine lv_iload_n hx hb d_FB_file_55 rfl (lv_at hl 1 rfl) ?_
    refine va_iald hx hb hK hP 2 0 rfl rfl (xIn_in2 h (by decide) (by decide)) d_FB_file_56 ?_
    refine xnum (v := 0) rfl ?_
    exact xri () B d_FB_file_57 (rfl) (hP.sub (ws' := []) [] rfl) (hK.sub (tys' := []) [] rfl) (hD.sub (ws' := []) [] (by decide) rfl) hS (Nat.le_of_ble_eq_true rfl) (Nat.le_of_ble_eq_true rfl)
  · exact absurd b4 (xne1 h)
theorem d_FB_file_58 : decode b_FB_file 58 = .ok (.aload_n 0, 1) := by decide +kernel
theorem d_FB_file_59 : decode b_FB_file 59 = .ok (.getfield 12, 3) := by decide +kernel
theorem d_FB_file_62 : decode b_FB_file 62 = .ok (.getfield 216, 3) := by decide +kernel
theorem d_FB_file_65 : decode b_FB_file 65 = .ok (.iload_n 1, 1) := by decide +kernel
theorem d_FB_file_66 : decode b_FB_file 66 = .ok (.iaload, 1) := by decide +kernel
theorem d_FB_file_67 : decode b_FB_file 67 = .ok (.ireturn, 1) := by decide +kernel
set_option maxRecDepth 20000 in
set_option maxHeartbeats 4000000 in
theorem c_FB_file_1 (l : Launch) (D : va_G) (fb : Nat) (di : Nat) (ti : Nat) (gr : Nat) (re : Nat) (rl : Nat) (bu : Nat) (de : Nat) (ct : Nat) (cI : ClassId) (x : Int32) (sz : Nat) (h : xIn x 0 23 = 1) : xMi l y_FB_file w_FB_file { frames := 2, cells := 0, slots := 0, locals := 60 } D cl [.ref fb, .int x, .int 1] sz [(cI, .int)] [(fb, .inr (5, [.ref di, .ref gr, .ref re, .ref rl, .ref bu, .ref de])), (di, .inr (1, [.ref ct, .ref ti, .int 0, .int 0])), (ti, .inl (cI, 24, .inl (fun _ => 0)))] (fun (r : Int32) (_ : Unit) => r = 0) (fun _ => []) (fun _ => []) := by
  refine xMi_of (by decide +kernel) rfl (Nat.le_of_ble_eq_true rfl) ?_
  intro p e s m args below meth c ls A B hAe hA hsz hP hK hD hS hAm hTh hAs hl
  obtain ⟨⟨hx, hb, hml, hown, hts⟩, hret, hlk, hnm, hemp⟩ := id B
  have hl : lv_has ls 3 [(0, .ref fb), (1, .int x), (2, .int 1)] := hl
  refine lv_iload_n hx hb d_FB_file_0 rfl (lv_at hl 1 rfl) ?_
  have hPc := hP.sub (ws' := []) [] rfl
  have hDc := hD.sub (ws' := []) [] (by decide) rfl
  have hKc := hK.sub (tys' := []) [] rfl
  refine xgi (wsC := []) (wr := [(fb, .inr (5, [.ref di, .ref gr, .ref re, .ref rl, .ref bu, .ref de])), (di, .inr (1, [.ref ct, .ref ti, .int 0, .int 0])), (ti, .inl (cI, 24, .inl (fun _ => 0)))]) (va_runS (As := [.int x]) (rest := []) ⟨hx, hb, hml, hown, hts⟩ (c_FB_isFile l  D x _ ) ⟨(callB_of 1 hts (x_good k_FB_isFile) rfl rfl rfl (hts _ (List.mem_cons_of_mem _ tw_1)) (hts _ (List.mem_cons_of_mem _ tw_350)) (by decide +kernel) ⟨Nat.le_of_ble_eq_true rfl, Nat.le_of_ble_eq_true rfl⟩), (hts _ (List.mem_cons_of_mem _ tw_351))⟩ (xP_S hPc hKc hDc hAm hTh hAs hS) rfl rfl hl.1 rfl (lv_room (Nat.le_of_ble_eq_true rfl)) d_FB_file_1 ⟨Nat.le_of_ble_eq_true rfl, Nat.le_of_ble_eq_true rfl⟩) hP hD hK hS hA [] [0, 1, 2] rfl rfl (by decide) (by decide) (fun r1 _ H locs er1 hP hD hK hS => ?_)
  have er1 : r1 = xIn x 0 23 := er1
  subst er1
  have hK : va_K D cl [(cI, .int)] s := hK
  have hP : va_P D cl [(fb, .inr (5, [.ref di, .ref gr, .ref re, .ref rl, .ref bu, .ref de])), (di, .inr (1, [.ref ct, .ref ti, .int 0, .int 0])), (ti, .inl (cI, 24, .inl (fun _ => 0)))] H := hP
  have hD : va_D A [(fb, .inr (5, [.ref di, .ref gr, .ref re, .ref rl, .ref bu, .ref de])), (di, .inr (1, [.ref ct, .ref ti, .int 0, .int 0])), (ti, .inl (cI, 24, .inl (fun _ => 0)))] := hD
  refine lv_if_ne (tgt := 17) hx hb d_FB_file_4 (by decide) (fun b4 => ?_) (fun b4 => ?_)
  · refine lv_iload_n hx hb d_FB_file_17 rfl (lv_at hl 2 rfl) ?_
    refine lv_tableIn (off := 40) (tgt := 58) hx hb d_FB_file_18 (by decide) (by decide) rfl (by decide) ?_
    refine lv_aload_n hx hb d_FB_file_58 rfl (lv_at hl 0 rfl) ?_
    refine va_get (D := D) (ci := 5) (v := .ref di) (C := R_FB) (T := F_FB) (N := 6) hx hb hts (fun w h => List.mem_cons_of_mem _ (u_FB w h)) hown hK hP 0 rfl rfl 0 (by decide) (hts _ (List.mem_cons_of_mem _ tw_146)) (fun _ h9 => h9) rfl d_FB_file_59 ?_
    refine va_getN (D := D) (ci := 1) (v := .ref ti) (C := R_Di) (T := F_Di) (N := 4) hx hb hts (fun w h => List.mem_cons_of_mem _ (u_Di w h)) hown hK hP 1 rfl rfl 1 (by decide) (va_Nw.use rfl (hAm.1 _ (List.mem_of_getElem? (i := 2) rfl))) (fun _ h9 => h9) rfl d_FB_file_62 ?_
    refine lv_iload_n hx hb d_FB_file_65 rfl (lv_at hl 1 rfl) ?_
    refine va_iald hx hb hK hP 2 0 rfl rfl (xIn_in2 h (by decide) (by decide)) d_FB_file_66 ?_
    refine xnum (v := 0) rfl ?_
    exact xri () B d_FB_file_67 (rfl) (hP.sub (ws' := []) [] rfl) (hK.sub (tys' := []) [] rfl) (hD.sub (ws' := []) [] (by decide) rfl) hS (Nat.le_of_ble_eq_true rfl) (Nat.le_of_ble_eq_true rfl)
  · exact absurd b4 (xne1 h)
theorem d_FB_file_68 : decode b_FB_file 68 = .ok (.aload_n 0, 1) := by decide +kernel
theorem d_FB_file_69 : decode b_FB_file 69 = .ok (.getfield 33, 3) := by decide +kernel
theorem d_FB_file_72 : decode b_FB_file 72 = .ok (.iload_n 1, 1) := by decide +kernel
theorem d_FB_file_73 : decode b_FB_file 73 = .ok (.invokevirtual 219, 3) := by decide +kernel
theorem d_FB_file_76 : decode b_FB_file 76 = .ok (.ifCond .eq (15), 3) := by decide +kernel
theorem d_FB_file_91 : decode b_FB_file 91 = .ok (.iconst (-1), 1) := by decide +kernel
theorem d_FB_file_92 : decode b_FB_file 92 = .ok (.ireturn, 1) := by decide +kernel
set_option maxRecDepth 20000 in
set_option maxHeartbeats 4000000 in
theorem c_FB_file_2 (l : Launch) (D : va_G) (fb : Nat) (rl : Nat) (rc : Nat) (di : Nat) (gr : Nat) (re : Nat) (bu : Nat) (de : Nat) (rb : Nat) (rt : Nat) (cI : ClassId) (x : Int32) (sz : Nat) (h : xIn x 0 23 = 1) : xMi l y_FB_file w_FB_file { frames := 2, cells := 0, slots := 0, locals := 60 } D cl [.ref fb, .int x, .int 2] sz [(cI, .int)] [(fb, .inr (5, [.ref di, .ref gr, .ref re, .ref rl, .ref bu, .ref de])), (rl, .inr (4, [.ref rb, .ref rc, .ref rt, .int 0])), (rc, .inl (cI, 24, .inl (fun _ => (-1))))] (fun (r : Int32) (_ : Unit) => r = (-1)) (fun _ => []) (fun _ => []) := by
  refine xMi_of (by decide +kernel) rfl (Nat.le_of_ble_eq_true rfl) ?_
  intro p e s m args below meth c ls A B hAe hA hsz hP hK hD hS hAm hTh hAs hl
  obtain ⟨⟨hx, hb, hml, hown, hts⟩, hret, hlk, hnm, hemp⟩ := id B
  have hl : lv_has ls 3 [(0, .ref fb), (1, .int x), (2, .int 2)] := hl
  refine lv_iload_n hx hb d_FB_file_0 rfl (lv_at hl 1 rfl) ?_
  have hPc := hP.sub (ws' := []) [] rfl
  have hDc := hD.sub (ws' := []) [] (by decide) rfl
  have hKc := hK.sub (tys' := []) [] rfl
  refine xgi (wsC := []) (wr := [(fb, .inr (5, [.ref di, .ref gr, .ref re, .ref rl, .ref bu, .ref de])), (rl, .inr (4, [.ref rb, .ref rc, .ref rt, .int 0])), (rc, .inl (cI, 24, .inl (fun _ => (-1))))]) (va_runS (As := [.int x]) (rest := []) ⟨hx, hb, hml, hown, hts⟩ (c_FB_isFile l  D x _ ) ⟨(callB_of 1 hts (x_good k_FB_isFile) rfl rfl rfl (hts _ (List.mem_cons_of_mem _ tw_1)) (hts _ (List.mem_cons_of_mem _ tw_350)) (by decide +kernel) ⟨Nat.le_of_ble_eq_true rfl, Nat.le_of_ble_eq_true rfl⟩), (hts _ (List.mem_cons_of_mem _ tw_351))⟩ (xP_S hPc hKc hDc hAm hTh hAs hS) rfl rfl hl.1 rfl (lv_room (Nat.le_of_ble_eq_true rfl)) d_FB_file_1 ⟨Nat.le_of_ble_eq_true rfl, Nat.le_of_ble_eq_true rfl⟩) hP hD hK hS hA [] [0, 1, 2] rfl rfl (by decide) (by decide) (fun r1 _ H locs er1 hP hD hK hS => ?_)
  have er1 : r1 = xIn x 0 23 := er1
  subst er1
  have hK : va_K D cl [(cI, .int)] s := hK
  have hP : va_P D cl [(fb, .inr (5, [.ref di, .ref gr, .ref re, .ref rl, .ref bu, .ref de])), (rl, .inr (4, [.ref rb, .ref rc, .ref rt, .int 0])), (rc, .inl (cI, 24, .inl (fun _ => (-1))))] H := hP
  have hD : va_D A [(fb, .inr (5, [.ref di, .ref gr, .ref re, .ref rl, .ref bu, .ref de])), (rl, .inr (4, [.ref rb, .ref rc, .ref rt, .int 0])), (rc, .inl (cI, 24, .inl (fun _ => (-1))))] := hD
  refine lv_if_ne (tgt := 17) hx hb d_FB_file_4 (by decide) (fun b4 => ?_) (fun b4 => ?_)
  · refine lv_iload_n hx hb d_FB_file_17 rfl (lv_at hl 2 rfl) ?_
    refine lv_tableIn (off := 50) (tgt := 68) hx hb d_FB_file_18 (by decide) (by decide) rfl (by decide) ?_
    refine lv_aload_n hx hb d_FB_file_68 rfl (lv_at hl 0 rfl) ?_
    refine va_get (D := D) (ci := 5) (v := .ref rl) (C := R_FB) (T := F_FB) (N := 6) hx hb hts (fun w h => List.mem_cons_of_mem _ (u_FB w h)) hown hK hP 0 rfl rfl 3 (by decide) (hts _ (List.mem_cons_of_mem _ tw_149)) (fun _ h9 => h9) rfl d_FB_file_69 ?_
    refine lv_iload_n hx hb d_FB_file_72 rfl (lv_at hl 1 rfl) ?_
    have hPc := hP.sub (ws' := [(rl, .inr (4, [.ref rb, .ref rc, .ref rt, .int 0])), (rc, .inl (cI, 24, .inl (fun _ => (-1))))]) [1, 2] rfl
    have hDc := hD.sub (ws' := [(rl, .inr (4, [.ref rb, .ref rc, .ref rt, .int 0])), (rc, .inl (cI, 24, .inl (fun _ => (-1))))]) [1, 2] (by decide) rfl
    have hKc := hK.sub (tys' := [(cI, .int)]) [0] rfl
    refine xgi (wsC := [(rl, .inr (4, [.ref rb, .ref rc, .ref rt, .int 0])), (rc, .inl (cI, 24, .inl (fun _ => (-1))))]) (wr := [(fb, .inr (5, [.ref di, .ref gr, .ref re, .ref rl, .ref bu, .ref de]))]) (va_runVN (As := [.int x]) (rest := []) ⟨hx, hb, hml, hown, hts⟩ (c_RL_hasRecord l  D rl rc rb rt cI x _ h) ⟨(va_cnB 1 hts (x_good k_RL_hasRecord) rfl rfl rfl (hAm.1 _ (List.mem_of_getElem? (i := 62) rfl)) (hts _ (List.mem_cons_of_mem _ tw_5)) (by decide +kernel) ⟨Nat.le_of_ble_eq_true rfl, Nat.le_of_ble_eq_true rfl⟩), (hts _ (List.mem_cons_of_mem _ tw_544)), (hts _ (List.mem_cons_of_mem _ (x_sel 37 rfl)))⟩ (xP_V (va_recv (ci := 4) (q0 := 1) hK hP rfl rfl) hPc hKc hDc hAm hTh hAs hS) rfl rfl hl.1 rfl (lv_room (Nat.le_of_ble_eq_true rfl)) d_FB_file_73 ⟨Nat.le_of_ble_eq_true rfl, Nat.le_of_ble_eq_true rfl⟩) hP hD hK hS hA [1, 2] [0] rfl rfl (by decide) (by decide) (fun r2 _ H locs er2 hP hD hK hS => ?_)
    have er2 : r2 = 0 := er2
    subst er2
    have hK : va_K D cl [(cI, .int)] s := hK
    have hP : va_P D cl [(fb, .inr (5, [.ref di, .ref gr, .ref re, .ref rl, .ref bu, .ref de])), (rl, .inr (4, [.ref rb, .ref rc, .ref rt, .int 0])), (rc, .inl (cI, 24, .inl (fun _ => (-1))))] H := hP
    have hD : va_D A [(fb, .inr (5, [.ref di, .ref gr, .ref re, .ref rl, .ref bu, .ref de])), (rl, .inr (4, [.ref rb, .ref rc, .ref rt, .int 0])), (rc, .inl (cI, 24, .inl (fun _ => (-1))))] := hD
    refine lv_if_eq (tgt := 91) hx hb d_FB_file_76 (by decide) (fun b76 => ?_) (fun b76 => absurd b76 (by decide))
    refine lv_iconst (v := (-1)) hx hb d_FB_file_91 (by decide) ?_
    exact xri () B d_FB_file_92 (rfl) (hP.sub (ws' := []) [] rfl) (hK.sub (tys' := []) [] rfl) (hD.sub (ws' := []) [] (by decide) rfl) hS (Nat.le_of_ble_eq_true rfl) (Nat.le_of_ble_eq_true rfl)
  · exact absurd b4 (xne1 h)
theorem d_FB_file_93 : decode b_FB_file 93 = .ok (.aload_n 0, 1) := by decide +kernel
theorem d_FB_file_94 : decode b_FB_file 94 = .ok (.getfield 33, 3) := by decide +kernel
theorem d_FB_file_97 : decode b_FB_file 97 = .ok (.getfield 223, 3) := by decide +kernel
theorem d_FB_file_100 : decode b_FB_file 100 = .ok (.iload_n 1, 1) := by decide +kernel
theorem d_FB_file_101 : decode b_FB_file 101 = .ok (.iaload, 1) := by decide +kernel
theorem d_FB_file_102 : decode b_FB_file 102 = .ok (.ireturn, 1) := by decide +kernel
set_option maxRecDepth 20000 in
set_option maxHeartbeats 4000000 in
theorem c_FB_file_3 (l : Launch) (D : va_G) (fb : Nat) (rl : Nat) (rc : Nat) (di : Nat) (gr : Nat) (re : Nat) (bu : Nat) (de : Nat) (rb : Nat) (rt : Nat) (cI : ClassId) (x : Int32) (sz : Nat) (h : xIn x 0 23 = 1) : xMi l y_FB_file w_FB_file { frames := 2, cells := 0, slots := 0, locals := 60 } D cl [.ref fb, .int x, .int 3] sz [(cI, .int)] [(fb, .inr (5, [.ref di, .ref gr, .ref re, .ref rl, .ref bu, .ref de])), (rl, .inr (4, [.ref rb, .ref rc, .ref rt, .int 0])), (rc, .inl (cI, 24, .inl (fun _ => (-1))))] (fun (r : Int32) (_ : Unit) => r = (-1)) (fun _ => []) (fun _ => []) := by
  refine xMi_of (by decide +kernel) rfl (Nat.le_of_ble_eq_true rfl) ?_
  intro p e s m args below meth c ls A B hAe hA hsz hP hK hD hS hAm hTh hAs hl
  obtain ⟨⟨hx, hb, hml, hown, hts⟩, hret, hlk, hnm, hemp⟩ := id B
  have hl : lv_has ls 3 [(0, .ref fb), (1, .int x), (2, .int 3)] := hl
  refine lv_iload_n hx hb d_FB_file_0 rfl (lv_at hl 1 rfl) ?_
  have hPc := hP.sub (ws' := []) [] rfl
  have hDc := hD.sub (ws' := []) [] (by decide) rfl
  have hKc := hK.sub (tys' := []) [] rfl
  refine xgi (wsC := []) (wr := [(fb, .inr (5, [.ref di, .ref gr, .ref re, .ref rl, .ref bu, .ref de])), (rl, .inr (4, [.ref rb, .ref rc, .ref rt, .int 0])), (rc, .inl (cI, 24, .inl (fun _ => (-1))))]) (va_runS (As := [.int x]) (rest := []) ⟨hx, hb, hml, hown, hts⟩ (c_FB_isFile l  D x _ ) ⟨(callB_of 1 hts (x_good k_FB_isFile) rfl rfl rfl (hts _ (List.mem_cons_of_mem _ tw_1)) (hts _ (List.mem_cons_of_mem _ tw_350)) (by decide +kernel) ⟨Nat.le_of_ble_eq_true rfl, Nat.le_of_ble_eq_true rfl⟩), (hts _ (List.mem_cons_of_mem _ tw_351))⟩ (xP_S hPc hKc hDc hAm hTh hAs hS) rfl rfl hl.1 rfl (lv_room (Nat.le_of_ble_eq_true rfl)) d_FB_file_1 ⟨Nat.le_of_ble_eq_true rfl, Nat.le_of_ble_eq_true rfl⟩) hP hD hK hS hA [] [0, 1, 2] rfl rfl (by decide) (by decide) (fun r1 _ H locs er1 hP hD hK hS => ?_)
  have er1 : r1 = xIn x 0 23 := er1
  subst er1
  have hK : va_K D cl [(cI, .int)] s := hK
  have hP : va_P D cl [(fb, .inr (5, [.ref di, .ref gr, .ref re, .ref rl, .ref bu, .ref de])), (rl, .inr (4, [.ref rb, .ref rc, .ref rt, .int 0])), (rc, .inl (cI, 24, .inl (fun _ => (-1))))] H := hP
  have hD : va_D A [(fb, .inr (5, [.ref di, .ref gr, .ref re, .ref rl, .ref bu, .ref de])), (rl, .inr (4, [.ref rb, .ref rc, .ref rt, .int 0])), (rc, .inl (cI, 24, .inl (fun _ => (-1))))] := hD
  refine lv_if_ne (tgt := 17) hx hb d_FB_file_4 (by decide) (fun b4 => ?_) (fun b4 => ?_)
  · refine lv_iload_n hx hb d_FB_file_17 rfl (lv_at hl 2 rfl) ?_
    refine lv_tableIn (off := 75) (tgt := 93) hx hb d_FB_file_18 (by decide) (by decide) rfl (by decide) ?_
    refine lv_aload_n hx hb d_FB_file_93 rfl (lv_at hl 0 rfl) ?_
    refine va_get (D := D) (ci := 5) (v := .ref rl) (C := R_FB) (T := F_FB) (N := 6) hx hb hts (fun w h => List.mem_cons_of_mem _ (u_FB w h)) hown hK hP 0 rfl rfl 3 (by decide) (hts _ (List.mem_cons_of_mem _ tw_149)) (fun _ h9 => h9) rfl d_FB_file_94 ?_
    refine va_getN (D := D) (ci := 4) (v := .ref rc) (C := R_RL) (T := F_RL) (N := 4) hx hb hts (fun w h => List.mem_cons_of_mem _ (u_RL w h)) hown hK hP 1 rfl rfl 1 (by decide) (va_Nw.use rfl (hAm.1 _ (List.mem_of_getElem? (i := 15) rfl))) (fun _ h9 => h9) rfl d_FB_file_97 ?_
    refine lv_iload_n hx hb d_FB_file_100 rfl (lv_at hl 1 rfl) ?_
    refine va_iald hx hb hK hP 2 0 rfl rfl (xIn_in2 h (by decide) (by decide)) d_FB_file_101 ?_
    refine xnum (v := (-1)) rfl ?_
    exact xri () B d_FB_file_102 (rfl) (hP.sub (ws' := []) [] rfl) (hK.sub (tys' := []) [] rfl) (hD.sub (ws' := []) [] (by decide) rfl) hS (Nat.le_of_ble_eq_true rfl) (Nat.le_of_ble_eq_true rfl)
  · exact absurd b4 (xne1 h)
theorem d_FB_file_103 : decode b_FB_file 103 = .ok (.new 65, 3) := by decide +kernel
theorem d_FB_file_106 : decode b_FB_file 106 = .ok (.dup, 1) := by decide +kernel
theorem d_FB_file_107 : decode b_FB_file 107 = .ok (.ldc 224, 2) := by decide +kernel
theorem d_FB_file_109 : decode b_FB_file 109 = .ok (.invokespecial 69, 3) := by decide +kernel
theorem d_FB_file_112 : decode b_FB_file 112 = .ok (.athrow, 1) := by decide +kernel
set_option maxRecDepth 20000 in
set_option maxHeartbeats 4000000 in
theorem c_FB_file_w (l : Launch) (hfl : l.flags = pinnedFlags ++ [noTraceFlag]) (D : va_G) (fb : Nat) (di : Nat) (gr : Nat) (re : Nat) (rl : Nat) (bu : Nat) (de : Nat) (ct : Nat) (ti : Nat) (x : Int32) (y : Int32) (sz : Nat) (h : xIn x 0 23 = 1) (h2 : ¬ xIn y 0 3 = 1) : xMt l y_FB_file w_FB_file { frames := 7, cells := 1, slots := 6, locals := 110 } D cl [.ref fb, .int x, .int y] sz [] [(fb, .inr (5, [.ref di, .ref gr, .ref re, .ref rl, .ref bu, .ref de])), (di, .inr (1, [.ref ct, .ref ti, .int 0, .int 0]))] "java/lang/IllegalArgumentException" := by
  refine xMt_of (by decide +kernel) rfl (Nat.le_of_ble_eq_true rfl) ?_
  intro p e s m args below meth c ls A B hAe hA hsz hP hK hD hS hAm hTh hAs hl
  obtain ⟨⟨hx, hb, hml, hown, hts⟩, hret, hlk, hnm, hemp⟩ := id B
  have hl : lv_has ls 3 [(0, .ref fb), (1, .int x), (2, .int y)] := hl
  refine lv_iload_n hx hb d_FB_file_0 rfl (lv_at hl 1 rfl) ?_
  have hPc := hP.sub (ws' := []) [] rfl
  have hDc := hD.sub (ws' := []) [] (by decide) rfl
  have hKc := hK.sub (tys' := []) [] rfl
  refine xgi (wsC := []) (wr := [(fb, .inr (5, [.ref di, .ref gr, .ref re, .ref rl, .ref bu, .ref de])), (di, .inr (1, [.ref ct, .ref ti, .int 0, .int 0]))]) (va_runS (As := [.int x]) (rest := []) ⟨hx, hb, hml, hown, hts⟩ (c_FB_isFile l  D x _ ) ⟨(callB_of 1 hts (x_good k_FB_isFile) rfl rfl rfl (hts _ (List.mem_cons_of_mem _ tw_1)) (hts _ (List.mem_cons_of_mem _ tw_350)) (by decide +kernel) ⟨Nat.le_of_ble_eq_true rfl, Nat.le_of_ble_eq_true rfl⟩), (hts _ (List.mem_cons_of_mem _ tw_351))⟩ (xP_S hPc hKc hDc hAm hTh hAs hS) rfl rfl hl.1 rfl (lv_room (Nat.le_of_ble_eq_true rfl)) d_FB_file_1 ⟨Nat.le_of_ble_eq_true rfl, Nat.le_of_ble_eq_true rfl⟩) hP hD hK hS hA [] [0, 1] rfl rfl (by decide) (by decide) (fun r1 _ H locs er1 hP hD hK hS => ?_)
  have er1 : r1 = xIn x 0 23 := er1
  subst er1
  have hK : va_K D cl [] s := hK
  have hP : va_P D cl [(fb, .inr (5, [.ref di, .ref gr, .ref re, .ref rl, .ref bu, .ref de])), (di, .inr (1, [.ref ct, .ref ti, .int 0, .int 0]))] H := hP
  have hD : va_D A [(fb, .inr (5, [.ref di, .ref gr, .ref re, .ref rl, .ref bu, .ref de])), (di, .inr (1, [.ref ct, .ref ti, .int 0, .int 0]))] := hD
  refine lv_if_ne (tgt := 17) hx hb d_FB_file_4 (by decide) (fun b4 => ?_) (fun b4 => ?_)
  · refine lv_iload_n hx hb d_FB_file_17 rfl (lv_at hl 2 rfl) ?_
    refine lv_tableOut (tgt := 103) hx hb d_FB_file_18 (xIn_out h2) (by decide) ?_
    obtain ⟨qz, hZ⟩ := hAm.2.1 _ (List.mem_of_getElem? (i := 17) rfl)
    exact xt_throw hx hb (hml.trans hl.1.symm) hfl hlk hemp (names := ["java/lang/RuntimeException", "java/lang/Exception"]) hown (hts _ (List.mem_cons_of_mem _ tw_249)) (hts _ (List.mem_cons_of_mem _ tw_250)) (hts _ (List.mem_cons_of_mem _ tw_12)) (by decide +kernel) (by decide +kernel) (xOwn own_IAE hts hAm hTh) hZ hS hAs (Nat.le_of_ble_eq_true rfl) (Nat.le_of_ble_eq_true rfl) (Nat.le_of_ble_eq_true rfl) (Nat.le_of_ble_eq_true rfl) (by decide) (Nat.le_of_ble_eq_true rfl) d_FB_file_103 d_FB_file_106 d_FB_file_107 d_FB_file_109 d_FB_file_112
  · exact absurd b4 (xne1 h)
theorem d_FB_file_7 : decode b_FB_file 7 = .ok (.new 65, 3) := by decide +kernel
theorem d_FB_file_10 : decode b_FB_file 10 = .ok (.dup, 1) := by decide +kernel
theorem d_FB_file_11 : decode b_FB_file 11 = .ok (.ldc 144, 2) := by decide +kernel
theorem d_FB_file_13 : decode b_FB_file 13 = .ok (.invokespecial 69, 3) := by decide +kernel
theorem d_FB_file_16 : decode b_FB_file 16 = .ok (.athrow, 1) := by decide +kernel
set_option maxRecDepth 20000 in
set_option maxHeartbeats 4000000 in
theorem c_FB_file_i (l : Launch) (hfl : l.flags = pinnedFlags ++ [noTraceFlag]) (D : va_G) (fb : Nat) (di : Nat) (gr : Nat) (re : Nat) (rl : Nat) (bu : Nat) (de : Nat) (ct : Nat) (ti : Nat) (x : Int32) (y : Int32) (sz : Nat) (h : ¬ xIn x 0 23 = 1) : xMt l y_FB_file w_FB_file { frames := 7, cells := 1, slots := 6, locals := 110 } D cl [.ref fb, .int x, .int y] sz [] [(fb, .inr (5, [.ref di, .ref gr, .ref re, .ref rl, .ref bu, .ref de])), (di, .inr (1, [.ref ct, .ref ti, .int 0, .int 0]))] "java/lang/IllegalArgumentException" := by
  refine xMt_of (by decide +kernel) rfl (Nat.le_of_ble_eq_true rfl) ?_
  intro p e s m args below meth c ls A B hAe hA hsz hP hK hD hS hAm hTh hAs hl
  obtain ⟨⟨hx, hb, hml, hown, hts⟩, hret, hlk, hnm, hemp⟩ := id B
  have hl : lv_has ls 3 [(0, .ref fb), (1, .int x), (2, .int y)] := hl
  refine lv_iload_n hx hb d_FB_file_0 rfl (lv_at hl 1 rfl) ?_
  have hPc := hP.sub (ws' := []) [] rfl
  have hDc := hD.sub (ws' := []) [] (by decide) rfl
  have hKc := hK.sub (tys' := []) [] rfl
  refine xgi (wsC := []) (wr := [(fb, .inr (5, [.ref di, .ref gr, .ref re, .ref rl, .ref bu, .ref de])), (di, .inr (1, [.ref ct, .ref ti, .int 0, .int 0]))]) (va_runS (As := [.int x]) (rest := []) ⟨hx, hb, hml, hown, hts⟩ (c_FB_isFile l  D x _ ) ⟨(callB_of 1 hts (x_good k_FB_isFile) rfl rfl rfl (hts _ (List.mem_cons_of_mem _ tw_1)) (hts _ (List.mem_cons_of_mem _ tw_350)) (by decide +kernel) ⟨Nat.le_of_ble_eq_true rfl, Nat.le_of_ble_eq_true rfl⟩), (hts _ (List.mem_cons_of_mem _ tw_351))⟩ (xP_S hPc hKc hDc hAm hTh hAs hS) rfl rfl hl.1 rfl (lv_room (Nat.le_of_ble_eq_true rfl)) d_FB_file_1 ⟨Nat.le_of_ble_eq_true rfl, Nat.le_of_ble_eq_true rfl⟩) hP hD hK hS hA [] [0, 1] rfl rfl (by decide) (by decide) (fun r1 _ H locs er1 hP hD hK hS => ?_)
  have er1 : r1 = xIn x 0 23 := er1
  subst er1
  have hK : va_K D cl [] s := hK
  have hP : va_P D cl [(fb, .inr (5, [.ref di, .ref gr, .ref re, .ref rl, .ref bu, .ref de])), (di, .inr (1, [.ref ct, .ref ti, .int 0, .int 0]))] H := hP
  have hD : va_D A [(fb, .inr (5, [.ref di, .ref gr, .ref re, .ref rl, .ref bu, .ref de])), (di, .inr (1, [.ref ct, .ref ti, .int 0, .int 0]))] := hD
  refine lv_if_ne (tgt := 17) hx hb d_FB_file_4 (by decide) (fun b4 => ?_) (fun b4 => ?_)
  · exact absurd (xne0 (xIn_bin _ _ _) b4) h
  · obtain ⟨qz, hZ⟩ := hAm.2.1 _ (List.mem_of_getElem? (i := 10) rfl)
    exact xt_throw hx hb (hml.trans hl.1.symm) hfl hlk hemp (names := ["java/lang/RuntimeException", "java/lang/Exception"]) hown (hts _ (List.mem_cons_of_mem _ tw_249)) (hts _ (List.mem_cons_of_mem _ tw_250)) (hts _ (List.mem_cons_of_mem _ tw_12)) (by decide +kernel) (by decide +kernel) (xOwn own_IAE hts hAm hTh) hZ hS hAs (Nat.le_of_ble_eq_true rfl) (Nat.le_of_ble_eq_true rfl) (Nat.le_of_ble_eq_true rfl) (Nat.le_of_ble_eq_true rfl) (by decide) (Nat.le_of_ble_eq_true rfl) d_FB_file_7 d_FB_file_10 d_FB_file_11 d_FB_file_13 d_FB_file_16
theorem d_FB_log_0 : decode b_FB_log 0 = .ok (.aload_n 0, 1) := by decide +kernel
theorem d_FB_log_1 : decode b_FB_log 1 = .ok (.getfield 33, 3) := by decide +kernel
theorem d_FB_log_4 : decode b_FB_log 4 = .ok (.iload_n 1, 1) := by decide +kernel
theorem d_FB_log_5 : decode b_FB_log 5 = .ok (.invokevirtual 226, 3) := by decide +kernel
theorem d_FB_log_8 : decode b_FB_log 8 = .ok (.ifCond .eq (15), 3) := by decide +kernel
theorem d_FB_log_23 : decode b_FB_log 23 = .ok (.iconst (-1), 1) := by decide +kernel
theorem d_FB_log_24 : decode b_FB_log 24 = .ok (.ireturn, 1) := by decide +kernel
set_option maxRecDepth 20000 in
set_option maxHeartbeats 4000000 in
theorem c_FB_log (l : Launch) (D : va_G) (fb : Nat) (rl : Nat) (di : Nat) (gr : Nat) (re : Nat) (bu : Nat) (de : Nat) (rb : Nat) (rc : Nat) (rt : Nat) (x : Int32) (sz : Nat)  : xMi l y_FB_log w_FB_log { frames := 2, cells := 0, slots := 0, locals := 60 } D cl [.ref fb, .int x] sz [] [(fb, .inr (5, [.ref di, .ref gr, .ref re, .ref rl, .ref bu, .ref de])), (rl, .inr (4, [.ref rb, .ref rc, .ref rt, .int 0]))] (fun (r : Int32) (_ : Unit) => r = (-1)) (fun _ => []) (fun _ => []) := by
  refine xMi_of (by decide +kernel) rfl (Nat.le_of_ble_eq_true rfl) ?_
  intro p e s m args below meth c ls A B hAe hA hsz hP hK hD hS hAm hTh hAs hl
  obtain ⟨⟨hx, hb, hml, hown, hts⟩, hret, hlk, hnm, hemp⟩ := id B
  have hl : lv_has ls 2 [(0, .ref fb), (1, .int x)] := hl
  refine lv_aload_n hx hb d_FB_log_0 rfl (lv_at hl 0 rfl) ?_
  refine va_get (D := D) (ci := 5) (v := .ref rl) (C := R_FB) (T := F_FB) (N := 6) hx hb hts (fun w h => List.mem_cons_of_mem _ (u_FB w h)) hown hK hP 0 rfl rfl 3 (by decide) (hts _ (List.mem_cons_of_mem _ tw_149)) (fun _ h9 => h9) rfl d_FB_log_1 ?_
  refine lv_iload_n hx hb d_FB_log_4 rfl (lv_at hl 1 rfl) ?_
  have hPc := hP.sub (ws' := [(rl, .inr (4, [.ref rb, .ref rc, .ref rt, .int 0]))]) [1] rfl
  have hDc := hD.sub (ws' := [(rl, .inr (4, [.ref rb, .ref rc, .ref rt, .int 0]))]) [1] (by decide) rfl
  have hKc := hK.sub (tys' := []) [] rfl
  refine xgi (wsC := [(rl, .inr (4, [.ref rb, .ref rc, .ref rt, .int 0]))]) (wr := [(fb, .inr (5, [.ref di, .ref gr, .ref re, .ref rl, .ref bu, .ref de]))]) (va_runVN (As := [.int x]) (rest := []) ⟨hx, hb, hml, hown, hts⟩ (c_RL_hasByte l  D rl rb rc rt x _ ) ⟨(va_cnB 1 hts (x_good k_RL_hasByte) rfl rfl rfl (hAm.1 _ (List.mem_of_getElem? (i := 27) rfl)) (hts _ (List.mem_cons_of_mem _ tw_5)) (by decide +kernel) ⟨Nat.le_of_ble_eq_true rfl, Nat.le_of_ble_eq_true rfl⟩), (hts _ (List.mem_cons_of_mem _ tw_223)), (hts _ (List.mem_cons_of_mem _ (x_sel 11 rfl)))⟩ (xP_V (va_recv (ci := 4) (q0 := 1) hK hP rfl rfl) hPc hKc hDc hAm hTh hAs hS) rfl rfl hl.1 rfl (lv_room (Nat.le_of_ble_eq_true rfl)) d_FB_log_5 ⟨Nat.le_of_ble_eq_true rfl, Nat.le_of_ble_eq_true rfl⟩) hP hD hK hS hA [1] [0] rfl rfl (by decide) (by decide) (fun r1 _ H locs er1 hP hD hK hS => ?_)
  have er1 : r1 = 0 := er1
  subst er1
  have hK : va_K D cl [] s := hK
  have hP : va_P D cl [(fb, .inr (5, [.ref di, .ref gr, .ref re, .ref rl, .ref bu, .ref de])), (rl, .inr (4, [.ref rb, .ref rc, .ref rt, .int 0]))] H := hP
  have hD : va_D A [(fb, .inr (5, [.ref di, .ref gr, .ref re, .ref rl, .ref bu, .ref de])), (rl, .inr (4, [.ref rb, .ref rc, .ref rt, .int 0]))] := hD
  refine lv_if_eq (tgt := 23) hx hb d_FB_log_8 (by decide) (fun b8 => ?_) (fun b8 => absurd b8 (by decide))
  refine lv_iconst (v := (-1)) hx hb d_FB_log_23 (by decide) ?_
  exact xri () B d_FB_log_24 (rfl) (hP.sub (ws' := []) [] rfl) (hK.sub (tys' := []) [] rfl) (hD.sub (ws' := []) [] (by decide) rfl) hS (Nat.le_of_ble_eq_true rfl) (Nat.le_of_ble_eq_true rfl)
theorem d_FB_spoil_0 : decode b_FB_spoil 0 = .ok (.aload_n 0, 1) := by decide +kernel
theorem d_FB_spoil_1 : decode b_FB_spoil 1 = .ok (.getfield 33, 3) := by decide +kernel
theorem d_FB_spoil_4 : decode b_FB_spoil 4 = .ok (.iload_n 1, 1) := by decide +kernel
theorem d_FB_spoil_5 : decode b_FB_spoil 5 = .ok (.invokevirtual 226, 3) := by decide +kernel
theorem d_FB_spoil_8 : decode b_FB_spoil 8 = .ok (.ifCond .ne (5), 3) := by decide +kernel
theorem d_FB_spoil_11 : decode b_FB_spoil 11 = .ok (.iconst (0), 1) := by decide +kernel
theorem d_FB_spoil_12 : decode b_FB_spoil 12 = .ok (.ireturn, 1) := by decide +kernel
set_option maxRecDepth 20000 in
set_option maxHeartbeats 4000000 in
theorem c_FB_spoil (l : Launch) (D : va_G) (fb : Nat) (rl : Nat) (di : Nat) (gr : Nat) (re : Nat) (bu : Nat) (de : Nat) (rb : Nat) (rc : Nat) (rt : Nat) (x : Int32) (y : Int32) (sz : Nat)  : xMi l y_FB_spoil w_FB_spoil { frames := 2, cells := 0, slots := 0, locals := 60 } D cl [.ref fb, .int x, .int y] sz [] [(fb, .inr (5, [.ref di, .ref gr, .ref re, .ref rl, .ref bu, .ref de])), (rl, .inr (4, [.ref rb, .ref rc, .ref rt, .int 0]))] (fun (r : Int32) (_ : Unit) => r = 0) (fun _ => []) (fun _ => []) := by
  refine xMi_of (by decide +kernel) rfl (Nat.le_of_ble_eq_true rfl) ?_
  intro p e s m args below meth c ls A B hAe hA hsz hP hK hD hS hAm hTh hAs hl
  obtain ⟨⟨hx, hb, hml, hown, hts⟩, hret, hlk, hnm, hemp⟩ := id B
  have hl : lv_has ls 3 [(0, .ref fb), (1, .int x), (2, .int y)] := hl
  refine lv_aload_n hx hb d_FB_spoil_0 rfl (lv_at hl 0 rfl) ?_
  refine va_get (D := D) (ci := 5) (v := .ref rl) (C := R_FB) (T := F_FB) (N := 6) hx hb hts (fun w h => List.mem_cons_of_mem _ (u_FB w h)) hown hK hP 0 rfl rfl 3 (by decide) (hts _ (List.mem_cons_of_mem _ tw_149)) (fun _ h9 => h9) rfl d_FB_spoil_1 ?_
  refine lv_iload_n hx hb d_FB_spoil_4 rfl (lv_at hl 1 rfl) ?_
  have hPc := hP.sub (ws' := [(rl, .inr (4, [.ref rb, .ref rc, .ref rt, .int 0]))]) [1] rfl
  have hDc := hD.sub (ws' := [(rl, .inr (4, [.ref rb, .ref rc, .ref rt, .int 0]))]) [1] (by decide) rfl
  have hKc := hK.sub (tys' := []) [] rfl
  refine xgi (wsC := [(rl, .inr (4, [.ref rb, .ref rc, .ref rt, .int 0]))]) (wr := [(fb, .inr (5, [.ref di, .ref gr, .ref re, .ref rl, .ref bu, .ref de]))]) (va_runVN (As := [.int x]) (rest := []) ⟨hx, hb, hml, hown, hts⟩ (c_RL_hasByte l  D rl rb rc rt x _ ) ⟨(va_cnB 1 hts (x_good k_RL_hasByte) rfl rfl rfl (hAm.1 _ (List.mem_of_getElem? (i := 27) rfl)) (hts _ (List.mem_cons_of_mem _ tw_5)) (by decide +kernel) ⟨Nat.le_of_ble_eq_true rfl, Nat.le_of_ble_eq_true rfl⟩), (hts _ (List.mem_cons_of_mem _ tw_223)), (hts _ (List.mem_cons_of_mem _ (x_sel 11 rfl)))⟩ (xP_V (va_recv (ci := 4) (q0 := 1) hK hP rfl rfl) hPc hKc hDc hAm hTh hAs hS) rfl rfl hl.1 rfl (lv_room (Nat.le_of_ble_eq_true rfl)) d_FB_spoil_5 ⟨Nat.le_of_ble_eq_true rfl, Nat.le_of_ble_eq_true rfl⟩) hP hD hK hS hA [1] [0] rfl rfl (by decide) (by decide) (fun r1 _ H locs er1 hP hD hK hS => ?_)
  have er1 : r1 = 0 := er1
  subst er1
  have hK : va_K D cl [] s := hK
  have hP : va_P D cl [(fb, .inr (5, [.ref di, .ref gr, .ref re, .ref rl, .ref bu, .ref de])), (rl, .inr (4, [.ref rb, .ref rc, .ref rt, .int 0]))] H := hP
  have hD : va_D A [(fb, .inr (5, [.ref di, .ref gr, .ref re, .ref rl, .ref bu, .ref de])), (rl, .inr (4, [.ref rb, .ref rc, .ref rt, .int 0]))] := hD
  refine lv_if_ne (tgt := 13) hx hb d_FB_spoil_8 (by decide) (fun b8 => absurd b8 (by decide)) (fun b8 => ?_)
  refine lv_iconst (v := 0) hx hb d_FB_spoil_11 (by decide) ?_
  exact xrz () B d_FB_spoil_12 (rfl) (rfl) (hP.sub (ws' := []) [] rfl) (hK.sub (tys' := []) [] rfl) (hD.sub (ws' := []) [] (by decide) rfl) hS (Nat.le_of_ble_eq_true rfl) (Nat.le_of_ble_eq_true rfl)
