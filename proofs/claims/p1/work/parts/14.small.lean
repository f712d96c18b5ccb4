theorem tw_271 : (Jvm.Cond.superclass "java/lang/Throwable" "java/lang/Object") ∈ xTB := x_t2 31 rfl rfl
theorem own_NSE : ∀ w ∈ xAtoms "FileBuilder" 153 "java/util/NoSuchElementException" "java/lang/RuntimeException" 13 prog_18_method_4_code ["java/lang/Exception"], w ∈ xTB ∨ w ∈ xNT ∨ w ∈ xHW := List.forall_mem_cons.mpr ⟨Or.inl tw_9, List.forall_mem_cons.mpr ⟨Or.inl tw_271, List.forall_mem_cons.mpr ⟨Or.inl tw_280, List.forall_mem_cons.mpr ⟨Or.inl tw_285, List.forall_mem_cons.mpr ⟨Or.inl tw_288, List.forall_mem_cons.mpr ⟨Or.inl tw_290, List.forall_mem_cons.mpr ⟨Or.inl tw_272, List.forall_mem_cons.mpr ⟨Or.inl tw_273, List.forall_mem_cons.mpr ⟨Or.inl tw_23, List.forall_mem_cons.mpr ⟨Or.inl tw_24, List.forall_mem_cons.mpr ⟨Or.inl tw_274, List.forall_mem_cons.mpr ⟨Or.inl tw_279, List.forall_mem_cons.mpr ⟨Or.inl tw_286, List.forall_mem_cons.mpr ⟨Or.inl tw_306, List.forall_mem_cons.mpr ⟨Or.inl tw_261, List.forall_mem_cons.mpr ⟨Or.inl tw_307, List.forall_mem_cons.mpr ⟨Or.inl tw_263, List.forall_mem_cons.mpr ⟨Or.inl tw_308, List.forall_mem_cons.mpr ⟨Or.inl tw_265, List.forall_mem_cons.mpr ⟨Or.inl tw_275, List.forall_mem_cons.mpr ⟨Or.inr (Or.inr (List.mem_of_getElem? (i := 2) rfl)), List.forall_mem_cons.mpr ⟨Or.inl tw_277, List.forall_mem_cons.mpr ⟨Or.inr (Or.inr (List.mem_of_getElem? (i := 3) rfl)), List.forall_mem_cons.mpr ⟨Or.inl tw_267, List.forall_mem_cons.mpr ⟨Or.inl tw_302, List.forall_mem_cons.mpr ⟨Or.inl tw_303, List.forall_mem_cons.mpr ⟨Or.inl tw_305, List.forall_mem_cons.mpr ⟨Or.inl tw_267, List.forall_mem_cons.mpr ⟨Or.inl tw_441, List.forall_mem_cons.mpr ⟨Or.inl tw_442, List.forall_mem_cons.mpr ⟨Or.inl tw_443, List.forall_mem_cons.mpr ⟨Or.inl tw_296, List.forall_mem_cons.mpr ⟨Or.inr (Or.inl (List.mem_of_getElem? (i := 31) rfl)), List.forall_mem_cons.mpr ⟨Or.inl tw_296, List.forall_mem_cons.mpr ⟨Or.inl tw_297, List.forall_mem_cons.mpr ⟨Or.inl tw_298, List.forall_mem_cons.mpr ⟨Or.inl tw_299, List.forall_mem_cons.mpr ⟨Or.inr (Or.inl (List.mem_of_getElem? (i := 33) rfl)), List.forall_mem_cons.mpr ⟨Or.inl tw_299, List.forall_mem_cons.mpr ⟨Or.inl tw_300, List.forall_mem_cons.mpr ⟨Or.inl tw_301, List.forall_mem_cons.mpr ⟨Or.inl tw_302, List.forall_mem_cons.mpr ⟨Or.inr (Or.inl (List.mem_of_getElem? (i := 35) rfl)), List.forall_mem_cons.mpr ⟨Or.inl tw_440, List.forall_mem_cons.mpr ⟨Or.inl tw_431, List.forall_mem_cons.mpr ⟨Or.inl tw_433, List.forall_mem_cons.mpr ⟨Or.inl tw_284, List.forall_mem_cons.mpr ⟨Or.inl tw_434, List.forall_mem_cons.mpr ⟨Or.inl tw_435, List.forall_mem_cons.mpr ⟨Or.inl tw_436, List.forall_mem_cons.mpr ⟨Or.inl tw_437, List.forall_mem_cons.mpr ⟨Or.inr (Or.inr (List.mem_of_getElem? (i := 0) rfl)), List.forall_mem_cons.mpr ⟨Or.inr (Or.inr (List.mem_of_getElem? (i := 1) rfl)), List.forall_mem_cons.mpr ⟨Or.inl tw_270, List.forall_mem_cons.mpr ⟨Or.inl tw_269, List.forall_mem_cons.mpr ⟨Or.inl tw_438, fun _ h => absurd h List.not_mem_nil⟩⟩⟩⟩⟩⟩⟩⟩⟩⟩⟩⟩⟩⟩⟩⟩⟩⟩⟩⟩⟩⟩⟩⟩⟩⟩⟩⟩⟩⟩⟩⟩⟩⟩⟩⟩⟩⟩⟩⟩⟩⟩⟩⟩⟩⟩⟩⟩⟩⟩⟩⟩⟩⟩⟩⟩
theorem dNSE_0 : decode prog_18_method_4_code 0 = .ok (.aload_n 0, 1) := by decide +kernel
theorem dNSE_1 : decode prog_18_method_4_code 1 = .ok (.aload_n 1, 1) := by decide +kernel
theorem dNSE_2 : decode prog_18_method_4_code 2 = .ok (.invokespecial 13, 3) := by decide +kernel
theorem dNSE_5 : decode prog_18_method_4_code 5 = .ok (.return_, 1) := by decide +kernel
theorem own_IAE : ∀ w ∈ Bundle.ownAtoms "FileBuilder" 69 "java/lang/IllegalArgumentException" ["java/lang/RuntimeException", "java/lang/Exception"], w ∈ xTB ∨ w ∈ xNT ∨ w ∈ xHW := List.forall_mem_cons.mpr ⟨Or.inl tw_9, List.forall_mem_cons.mpr ⟨Or.inl tw_271, List.forall_mem_cons.mpr ⟨Or.inl tw_280, List.forall_mem_cons.mpr ⟨Or.inl tw_285, List.forall_mem_cons.mpr ⟨Or.inl tw_288, List.forall_mem_cons.mpr ⟨Or.inl tw_290, List.forall_mem_cons.mpr ⟨Or.inl tw_272, List.forall_mem_cons.mpr ⟨Or.inl tw_273, List.forall_mem_cons.mpr ⟨Or.inl tw_23, List.forall_mem_cons.mpr ⟨Or.inl tw_24, List.forall_mem_cons.mpr ⟨Or.inl tw_274, List.forall_mem_cons.mpr ⟨Or.inl tw_279, List.forall_mem_cons.mpr ⟨Or.inl tw_286, List.forall_mem_cons.mpr ⟨Or.inl tw_306, List.forall_mem_cons.mpr ⟨Or.inl tw_261, List.forall_mem_cons.mpr ⟨Or.inl tw_307, List.forall_mem_cons.mpr ⟨Or.inl tw_263, List.forall_mem_cons.mpr ⟨Or.inl tw_308, List.forall_mem_cons.mpr ⟨Or.inl tw_265, List.forall_mem_cons.mpr ⟨Or.inl tw_275, List.forall_mem_cons.mpr ⟨Or.inr (Or.inr (List.mem_of_getElem? (i := 2) rfl)), List.forall_mem_cons.mpr ⟨Or.inl tw_277, List.forall_mem_cons.mpr ⟨Or.inr (Or.inr (List.mem_of_getElem? (i := 3) rfl)), List.forall_mem_cons.mpr ⟨Or.inl tw_267, List.forall_mem_cons.mpr ⟨Or.inl tw_302, List.forall_mem_cons.mpr ⟨Or.inl tw_303, List.forall_mem_cons.mpr ⟨Or.inl tw_305, List.forall_mem_cons.mpr ⟨Or.inl tw_267, List.forall_mem_cons.mpr ⟨Or.inl tw_293, List.forall_mem_cons.mpr ⟨Or.inl tw_294, List.forall_mem_cons.mpr ⟨Or.inl tw_295, List.forall_mem_cons.mpr ⟨Or.inl tw_296, List.forall_mem_cons.mpr ⟨Or.inr (Or.inl (List.mem_of_getElem? (i := 31) rfl)), List.forall_mem_cons.mpr ⟨Or.inl tw_296, List.forall_mem_cons.mpr ⟨Or.inl tw_297, List.forall_mem_cons.mpr ⟨Or.inl tw_298, List.forall_mem_cons.mpr ⟨Or.inl tw_299, List.forall_mem_cons.mpr ⟨Or.inr (Or.inl (List.mem_of_getElem? (i := 33) rfl)), List.forall_mem_cons.mpr ⟨Or.inl tw_299, List.forall_mem_cons.mpr ⟨Or.inl tw_300, List.forall_mem_cons.mpr ⟨Or.inl tw_301, List.forall_mem_cons.mpr ⟨Or.inl tw_302, List.forall_mem_cons.mpr ⟨Or.inr (Or.inl (List.mem_of_getElem? (i := 35) rfl)), List.forall_mem_cons.mpr ⟨Or.inl tw_292, List.forall_mem_cons.mpr ⟨Or.inl tw_250, List.forall_mem_cons.mpr ⟨Or.inr (Or.inl (List.mem_of_getElem? (i := 29) rfl)), List.forall_mem_cons.mpr ⟨Or.inl tw_258, List.forall_mem_cons.mpr ⟨Or.inl tw_259, List.forall_mem_cons.mpr ⟨Or.inl tw_260, List.forall_mem_cons.mpr ⟨Or.inl tw_262, List.forall_mem_cons.mpr ⟨Or.inl tw_264, List.forall_mem_cons.mpr ⟨Or.inl tw_266, List.forall_mem_cons.mpr ⟨Or.inr (Or.inr (List.mem_of_getElem? (i := 0) rfl)), List.forall_mem_cons.mpr ⟨Or.inr (Or.inr (List.mem_of_getElem? (i := 1) rfl)), List.forall_mem_cons.mpr ⟨Or.inl tw_270, List.forall_mem_cons.mpr ⟨Or.inl tw_269, List.forall_mem_cons.mpr ⟨Or.inl tw_268, fun _ h => absurd h List.not_mem_nil⟩⟩⟩⟩⟩⟩⟩⟩⟩⟩⟩⟩⟩⟩⟩⟩⟩⟩⟩⟩⟩⟩⟩⟩⟩⟩⟩⟩⟩⟩⟩⟩⟩⟩⟩⟩⟩⟩⟩⟩⟩⟩⟩⟩⟩⟩⟩⟩⟩⟩⟩⟩⟩⟩⟩⟩⟩
theorem xNT_ot : ∀ w ∈ xNT, w.onTables = true := by
  have h : xNT.all (fun w => w.onTables) = true := by decide +kernel
  exact List.all_eq_true.mp h
theorem xOwn {args : Array Value} {s : State} {L : List Cond} {a : Cond} (h : ∀ w ∈ L, w ∈ xTB ∨ w ∈ xNT ∨ w ∈ xHW) (hts : ∀ w ∈ a :: xTB, w.before args s = true) (hAm : xAmb s) (hTh : xTh s s.heap) : ∀ w ∈ L, w.before args s = true := by
  intro w hw
  rcases h w hw with h1 | h1 | h1
  · exact hts w (List.mem_cons_of_mem _ h1)
  · exact va_Nw.use (xNT_ot w h1) (hAm.1 w h1)
  · exact hTh.words w h1
theorem d_Bu_isUnderWay_0 : decode b_Bu_isUnderWay 0 = .ok (.aload_n 0, 1) := by decide +kernel
theorem d_Bu_isUnderWay_1 : decode b_Bu_isUnderWay 1 = .ok (.getfield 15, 3) := by decide +kernel
theorem d_Bu_isUnderWay_4 : decode b_Bu_isUnderWay 4 = .ok (.iconst (1), 1) := by decide +kernel
theorem d_Bu_isUnderWay_5 : decode b_Bu_isUnderWay 5 = .ok (.if_icmp .ne (7), 3) := by decide +kernel
theorem d_Bu_isUnderWay_12 : decode b_Bu_isUnderWay 12 = .ok (.iconst (0), 1) := by decide +kernel
theorem d_Bu_isUnderWay_13 : decode b_Bu_isUnderWay 13 = .ok (.ireturn, 1) := by decide +kernel
set_option maxRecDepth 20000 in
set_option maxHeartbeats 4000000 in
theorem c_Bu_isUnderWay (l : Launch) (D : va_G) (bu : Nat) (bs : Nat) (sz : Nat)  : xMi l y_Bu_isUnderWay w_Bu_isUnderWay { frames := 0, cells := 0, slots := 0, locals := 0 } D cl [.ref bu] sz [] [(bu, .inr (0, [.ref bs, .int 0, .int 0, .int 0]))] (fun (r : Int32) (_ : Unit) => r = 0) (fun _ => [(bu, .inr (0, [.ref bs, .int 0, .int 0, .int 0]))]) (fun _ => []) := by
  refine xMi_of (by decide +kernel) rfl (Nat.le_of_ble_eq_true rfl) ?_
  intro p e s m args below meth c ls A B hAe hA hsz hP hK hD hS hAm hTh hAs hl
  obtain ⟨⟨hx, hb, hml, hown, hts⟩, hret, hlk, hnm, hemp⟩ := id B
  have hl : lv_has ls 1 [(0, .ref bu)] := hl
  refine lv_aload_n hx hb d_Bu_isUnderWay_0 rfl (lv_at hl 0 rfl) ?_
  refine va_get (D := D) (ci := 0) (v := .int 0) (C := R_Bu) (T := F_Bu) (N := 4) hx hb hts (fun w h => List.mem_cons_of_mem _ (u_Bu w h)) hown hK hP 0 rfl rfl 3 (by decide) (hts _ (List.mem_cons_of_mem _ tw_134)) (fun _ h9 => h9) rfl d_Bu_isUnderWay_1 ?_
  refine lv_iconst (v := 1) hx hb d_Bu_isUnderWay_4 (by decide) ?_
  refine lv_icmp_ne (tgt := 12) hx hb d_Bu_isUnderWay_5 (by decide) (fun b5 => ?_) (fun b5 => absurd b5 (by decide))
  refine lv_iconst (v := 0) hx hb d_Bu_isUnderWay_12 (by decide) ?_
  exact xrz () B d_Bu_isUnderWay_13 (rfl) (rfl) (hP.sub (ws' := [(bu, .inr (0, [.ref bs, .int 0, .int 0, .int 0]))]) [0] rfl) (hK.sub (tys' := []) [] rfl) (hD.sub (ws' := [(bu, .inr (0, [.ref bs, .int 0, .int 0, .int 0]))]) [0] (by decide) rfl) hS (Nat.le_of_ble_eq_true rfl) (Nat.le_of_ble_eq_true rfl)
theorem d_Gr_hasEdge_0 : decode b_Gr_hasEdge 0 = .ok (.iload_n 1, 1) := by decide +kernel
theorem d_Gr_hasEdge_1 : decode b_Gr_hasEdge 1 = .ok (.iconst (0), 1) := by decide +kernel
theorem d_Gr_hasEdge_2 : decode b_Gr_hasEdge 2 = .ok (.aload_n 0, 1) := by decide +kernel
theorem d_Gr_hasEdge_3 : decode b_Gr_hasEdge 3 = .ok (.getfield 29, 3) := by decide +kernel
theorem d_Gr_hasEdge_6 : decode b_Gr_hasEdge 6 = .ok (.iconst (1), 1) := by decide +kernel
theorem d_Gr_hasEdge_7 : decode b_Gr_hasEdge 7 = .ok (.isub, 1) := by decide +kernel
theorem d_Gr_hasEdge_8 : decode b_Gr_hasEdge 8 = .ok (.invokestatic 33, 3) := by decide +kernel
theorem d_Gr_hasEdge_11 : decode b_Gr_hasEdge 11 = .ok (.ireturn, 1) := by decide +kernel
set_option maxRecDepth 20000 in
set_option maxHeartbeats 4000000 in
theorem c_Gr_hasEdge (l : Launch) (D : va_G) (gr : Nat) (gc : Nat) (gf : Nat) (gp : Nat) (gb : Nat) (gl : Nat) (x : Int32) (sz : Nat)  : xMi l y_Gr_hasEdge w_Gr_hasEdge { frames := 1, cells := 0, slots := 0, locals := 22 } D cl [.ref gr, .int x] sz [] [(gr, .inr (2, [.ref gc, .ref gf, .ref gp, .ref gb, .ref gl, .int 0]))] (fun (r : Int32) (_ : Unit) => r = 0) (fun _ => [(gr, .inr (2, [.ref gc, .ref gf, .ref gp, .ref gb, .ref gl, .int 0]))]) (fun _ => []) := by
  refine xMi_of (by decide +kernel) rfl (Nat.le_of_ble_eq_true rfl) ?_
  intro p e s m args below meth c ls A B hAe hA hsz hP hK hD hS hAm hTh hAs hl
  obtain ⟨⟨hx, hb, hml, hown, hts⟩, hret, hlk, hnm, hemp⟩ := id B
  have hl : lv_has ls 2 [(0, .ref gr), (1, .int x)] := hl
  refine lv_iload_n hx hb d_Gr_hasEdge_0 rfl (lv_at hl 1 rfl) ?_
  refine lv_iconst (v := 0) hx hb d_Gr_hasEdge_1 (by decide) ?_
  refine lv_aload_n hx hb d_Gr_hasEdge_2 rfl (lv_at hl 0 rfl) ?_
  refine va_get (D := D) (ci := 2) (v := .int 0) (C := R_Gr) (T := F_Gr) (N := 6) hx hb hts (fun w h => List.mem_cons_of_mem _ (u_Gr w h)) hown hK hP 0 rfl rfl 5 (by decide) (hts _ (List.mem_cons_of_mem _ tw_65)) (fun _ h9 => h9) rfl d_Gr_hasEdge_3 ?_
  refine lv_iconst (v := 1) hx hb d_Gr_hasEdge_6 (by decide) ?_
  refine lv_isub hx hb d_Gr_hasEdge_7 ?_
  refine xnum (v := (-1)) (by decide) ?_
  have hPc := hP.sub (ws' := []) [] rfl
  have hDc := hD.sub (ws' := []) [] (by decide) rfl
  have hKc := hK.sub (tys' := []) [] rfl
  refine xgi (wsC := []) (wr := [(gr, .inr (2, [.ref gc, .ref gf, .ref gp, .ref gb, .ref gl, .int 0]))]) (va_runSN (As := [.int x, .int 0, .int (-1)]) (rest := []) ⟨hx, hb, hml, hown, hts⟩ (c_FB_isIn l  D x 0 (-1) _ ) ⟨(va_cnB 3 hts (x_good k_FB_isIn) rfl rfl rfl (hAm.1 _ (List.mem_of_getElem? (i := 39) rfl)) (hts _ (List.mem_cons_of_mem _ tw_1)) (by decide +kernel) ⟨Nat.le_of_ble_eq_true rfl, Nat.le_of_ble_eq_true rfl⟩), (hts _ (List.mem_cons_of_mem _ tw_226)), trivial⟩ (xP_S hPc hKc hDc hAm hTh hAs hS) rfl rfl hl.1 rfl (lv_room (Nat.le_of_ble_eq_true rfl)) d_Gr_hasEdge_8 ⟨Nat.le_of_ble_eq_true rfl, Nat.le_of_ble_eq_true rfl⟩) hP hD hK hS hA [] [0] rfl rfl (by decide) (by decide) (fun r1 _ H locs er1 hP hD hK hS => ?_)
  have er1 : r1 = xIn x 0 (-1) := er1
  subst er1
  have hK : va_K D cl [] s := hK
  have hP : va_P D cl [(gr, .inr (2, [.ref gc, .ref gf, .ref gp, .ref gb, .ref gl, .int 0]))] H := hP
  have hD : va_D A [(gr, .inr (2, [.ref gc, .ref gf, .ref gp, .ref gb, .ref gl, .int 0]))] := hD
  exact xrz () B d_Gr_hasEdge_11 (xIn_nar _ _ _) (xIn_none x) (hP.sub (ws' := [(gr, .inr (2, [.ref gc, .ref gf, .ref gp, .ref gb, .ref gl, .int 0]))]) [0] rfl) (hK.sub (tys' := []) [] rfl) (hD.sub (ws' := [(gr, .inr (2, [.ref gc, .ref gf, .ref gp, .ref gb, .ref gl, .int 0]))]) [0] (by decide) rfl) hS (Nat.le_of_ble_eq_true rfl) (Nat.le_of_ble_eq_true rfl)
theorem d_FB_refuseUnderWay_0 : decode b_FB_refuseUnderWay 0 = .ok (.aload_n 0, 1) := by decide +kernel
theorem d_FB_refuseUnderWay_1 : decode b_FB_refuseUnderWay 1 = .ok (.getfield 40, 3) := by decide +kernel
theorem d_FB_refuseUnderWay_4 : decode b_FB_refuseUnderWay 4 = .ok (.invokevirtual 76, 3) := by decide +kernel
theorem d_FB_refuseUnderWay_7 : decode b_FB_refuseUnderWay 7 = .ok (.ifCond .eq (13), 3) := by decide +kernel
theorem d_FB_refuseUnderWay_20 : decode b_FB_refuseUnderWay 20 = .ok (.return_, 1) := by decide +kernel
set_option maxRecDepth 20000 in
set_option maxHeartbeats 4000000 in
theorem c_FB_refuseUnderWay (l : Launch) (D : va_G) (fb : Nat) (bu : Nat) (di : Nat) (gr : Nat) (re : Nat) (rl : Nat) (de : Nat) (bs : Nat) (sz : Nat)  : xMv l y_FB_refuseUnderWay w_FB_refuseUnderWay { frames := 1, cells := 0, slots := 0, locals := 20 } D cl [.ref fb] sz [] [(fb, .inr (5, [.ref di, .ref gr, .ref re, .ref rl, .ref bu, .ref de])), (bu, .inr (0, [.ref bs, .int 0, .int 0, .int 0]))] (fun (_ : Unit) => True) (fun _ => [(fb, .inr (5, [.ref di, .ref gr, .ref re, .ref rl, .ref bu, .ref de])), (bu, .inr (0, [.ref bs, .int 0, .int 0, .int 0]))]) (fun _ => []) := by
  refine xMv_of (by decide +kernel) rfl (Nat.le_of_ble_eq_true rfl) ?_
  intro p e s m args below meth c ls A B hAe hA hsz hP hK hD hS hAm hTh hAs hl
  obtain ⟨⟨hx, hb, hml, hown, hts⟩, hret, hlk, hnm, hemp⟩ := id B
  have hl : lv_has ls 1 [(0, .ref fb)] := hl
  refine lv_aload_n hx hb d_FB_refuseUnderWay_0 rfl (lv_at hl 0 rfl) ?_
  refine va_get (D := D) (ci := 5) (v := .ref bu) (C := R_FB) (T := F_FB) (N := 6) hx hb hts (fun w h => List.mem_cons_of_mem _ (u_FB w h)) hown hK hP 0 rfl rfl 4 (by decide) (hts _ (List.mem_cons_of_mem _ tw_150)) (fun _ h9 => h9) rfl d_FB_refuseUnderWay_1 ?_
  have hPc := hP.sub (ws' := [(bu, .inr (0, [.ref bs, .int 0, .int 0, .int 0]))]) [1] rfl
  have hDc := hD.sub (ws' := [(bu, .inr (0, [.ref bs, .int 0, .int 0, .int 0]))]) [1] (by decide) rfl
  have hKc := hK.sub (tys' := []) [] rfl
  refine xgi (wsC := [(bu, .inr (0, [.ref bs, .int 0, .int 0, .int 0]))]) (wr := [(fb, .inr (5, [.ref di, .ref gr, .ref re, .ref rl, .ref bu, .ref de]))]) (va_runVN (As := []) (rest := []) ⟨hx, hb, hml, hown, hts⟩ (c_Bu_isUnderWay l  D bu bs _ ) ⟨(va_cnB 0 hts (x_good k_Bu_isUnderWay) rfl rfl rfl (hAm.1 _ (List.mem_of_getElem? (i := 23) rfl)) (hts _ (List.mem_cons_of_mem _ tw_7)) (by decide +kernel) ⟨Nat.le_of_ble_eq_true rfl, Nat.le_of_ble_eq_true rfl⟩), (hts _ (List.mem_cons_of_mem _ tw_171)), (hts _ (List.mem_cons_of_mem _ (x_sel 0 rfl)))⟩ (xP_V (va_recv (ci := 0) (q0 := 1) hK hP rfl rfl) hPc hKc hDc hAm hTh hAs hS) rfl rfl hl.1 rfl (lv_room (Nat.le_of_ble_eq_true rfl)) d_FB_refuseUnderWay_4 ⟨Nat.le_of_ble_eq_true rfl, Nat.le_of_ble_eq_true rfl⟩) hP hD hK hS hA [1] [0] rfl rfl (by decide) (by decide) (fun r1 _ H locs er1 hP hD hK hS => ?_)
  have er1 : r1 = 0 := er1
  subst er1
  have hK : va_K D cl [] s := hK
  have hP : va_P D cl [(fb, .inr (5, [.ref di, .ref gr, .ref re, .ref rl, .ref bu, .ref de])), (bu, .inr (0, [.ref bs, .int 0, .int 0, .int 0]))] H := hP
  have hD : va_D A [(fb, .inr (5, [.ref di, .ref gr, .ref re, .ref rl, .ref bu, .ref de])), (bu, .inr (0, [.ref bs, .int 0, .int 0, .int 0]))] := hD
  refine lv_if_eq (tgt := 20) hx hb d_FB_refuseUnderWay_7 (by decide) (fun b7 => ?_) (fun b7 => absurd b7 (by decide))
  exact xrv () B d_FB_refuseUnderWay_20 (trivial) (hP.sub (ws' := [(fb, .inr (5, [.ref di, .ref gr, .ref re, .ref rl, .ref bu, .ref de])), (bu, .inr (0, [.ref bs, .int 0, .int 0, .int 0]))]) [0, 1] rfl) (hK.sub (tys' := []) [] rfl) (hD.sub (ws' := [(fb, .inr (5, [.ref di, .ref gr, .ref re, .ref rl, .ref bu, .ref de])), (bu, .inr (0, [.ref bs, .int 0, .int 0, .int 0]))]) [0, 1] (by decide) rfl) hS (Nat.le_of_ble_eq_true rfl) (Nat.le_of_ble_eq_true rfl)
theorem d_FB_refuseUnknownEdge_0 : decode b_FB_refuseUnknownEdge 0 = .ok (.aload_n 0, 1) := by decide +kernel
theorem d_FB_refuseUnknownEdge_1 : decode b_FB_refuseUnknownEdge 1 = .ok (.getfield 19, 3) := by decide +kernel
theorem d_FB_refuseUnknownEdge_4 : decode b_FB_refuseUnknownEdge 4 = .ok (.iload_n 1, 1) := by decide +kernel
theorem d_FB_refuseUnknownEdge_5 : decode b_FB_refuseUnknownEdge 5 = .ok (.invokevirtual 89, 3) := by decide +kernel
theorem d_FB_refuseUnknownEdge_8 : decode b_FB_refuseUnknownEdge 8 = .ok (.ifCond .ne (13), 3) := by decide +kernel
theorem d_FB_refuseUnknownEdge_11 : decode b_FB_refuseUnknownEdge 11 = .ok (.new 65, 3) := by decide +kernel
theorem d_FB_refuseUnknownEdge_14 : decode b_FB_refuseUnknownEdge 14 = .ok (.dup, 1) := by decide +kernel
theorem d_FB_refuseUnknownEdge_15 : decode b_FB_refuseUnknownEdge 15 = .ok (.ldc 247, 2) := by decide +kernel
theorem d_FB_refuseUnknownEdge_17 : decode b_FB_refuseUnknownEdge 17 = .ok (.invokespecial 69, 3) := by decide +kernel
theorem d_FB_refuseUnknownEdge_20 : decode b_FB_refuseUnknownEdge 20 = .ok (.athrow, 1) := by decide +kernel
set_option maxRecDepth 20000 in
set_option maxHeartbeats 4000000 in
theorem c_FB_refuseUnknownEdge (l : Launch) (hfl : l.flags = pinnedFlags ++ [noTraceFlag]) (D : va_G) (fb : Nat) (gr : Nat) (di : Nat) (re : Nat) (rl : Nat) (bu : Nat) (de : Nat) (gc : Nat) (gf : Nat) (gp : Nat) (gb : Nat) (gl : Nat) (x : Int32) (sz : Nat)  : xMt l y_FB_refuseUnknownEdge w_FB_refuseUnknownEdge { frames := 6, cells := 1, slots := 6, locals := 90 } D cl [.ref fb, .int x] sz [] [(fb, .inr (5, [.ref di, .ref gr, .ref re, .ref rl, .ref bu, .ref de])), (gr, .inr (2, [.ref gc, .ref gf, .ref gp, .ref gb, .ref gl, .int 0]))] "java/lang/IllegalArgumentException" := by
  refine xMt_of (by decide +kernel) rfl (Nat.le_of_ble_eq_true rfl) ?_
  intro p e s m args below meth c ls A B hAe hA hsz hP hK hD hS hAm hTh hAs hl
  obtain ⟨⟨hx, hb, hml, hown, hts⟩, hret, hlk, hnm, hemp⟩ := id B
  have hl : lv_has ls 2 [(0, .ref fb), (1, .int x)] := hl
  refine lv_aload_n hx hb d_FB_refuseUnknownEdge_0 rfl (lv_at hl 0 rfl) ?_
  refine va_get (D := D) (ci := 5) (v := .ref gr) (C := R_FB) (T := F_FB) (N := 6) hx hb hts (fun w h => List.mem_cons_of_mem _ (u_FB w h)) hown hK hP 0 rfl rfl 1 (by decide) (hts _ (List.mem_cons_of_mem _ tw_147)) (fun _ h9 => h9) rfl d_FB_refuseUnknownEdge_1 ?_
  refine lv_iload_n hx hb d_FB_refuseUnknownEdge_4 rfl (lv_at hl 1 rfl) ?_
  have hPc := hP.sub (ws' := [(gr, .inr (2, [.ref gc, .ref gf, .ref gp, .ref gb, .ref gl, .int 0]))]) [1] rfl
  have hDc := hD.sub (ws' := [(gr, .inr (2, [.ref gc, .ref gf, .ref gp, .ref gb, .ref gl, .int 0]))]) [1] (by decide) rfl
  have hKc := hK.sub (tys' := []) [] rfl
  refine xgi (wsC := [(gr, .inr (2, [.ref gc, .ref gf, .ref gp, .ref gb, .ref gl, .int 0]))]) (wr := [(fb, .inr (5, [.ref di, .ref gr, .ref re, .ref rl, .ref bu, .ref de]))]) (va_runVN (As := [.int x]) (rest := []) ⟨hx, hb, hml, hown, hts⟩ (c_Gr_hasEdge l  D gr gc gf gp gb gl x _ ) ⟨(va_cnB 1 hts (x_good k_Gr_hasEdge) rfl rfl rfl (hAm.1 _ (List.mem_of_getElem? (i := 38) rfl)) (hts _ (List.mem_cons_of_mem _ tw_3)) (by decide +kernel) ⟨Nat.le_of_ble_eq_true rfl, Nat.le_of_ble_eq_true rfl⟩), (hts _ (List.mem_cons_of_mem _ tw_347)), (hts _ (List.mem_cons_of_mem _ (x_sel 14 rfl)))⟩ (xP_V (va_recv (ci := 2) (q0 := 1) hK hP rfl rfl) hPc hKc hDc hAm hTh hAs hS) rfl rfl hl.1 rfl (lv_room (Nat.le_of_ble_eq_true rfl)) d_FB_refuseUnknownEdge_5 ⟨Nat.le_of_ble_eq_true rfl, Nat.le_of_ble_eq_true rfl⟩) hP hD hK hS hA [1] [0] rfl rfl (by decide) (by decide) (fun r1 _ H locs er1 hP hD hK hS => ?_)
  have er1 : r1 = 0 := er1
  subst er1
  have hK : va_K D cl [] s := hK
  have hP : va_P D cl [(fb, .inr (5, [.ref di, .ref gr, .ref re, .ref rl, .ref bu, .ref de])), (gr, .inr (2, [.ref gc, .ref gf, .ref gp, .ref gb, .ref gl, .int 0]))] H := hP
  have hD : va_D A [(fb, .inr (5, [.ref di, .ref gr, .ref re, .ref rl, .ref bu, .ref de])), (gr, .inr (2, [.ref gc, .ref gf, .ref gp, .ref gb, .ref gl, .int 0]))] := hD
  refine lv_if_ne (tgt := 21) hx hb d_FB_refuseUnknownEdge_8 (by decide) (fun b8 => absurd b8 (by decide)) (fun b8 => ?_)
  obtain ⟨qz, hZ⟩ := hAm.2.1 _ (List.mem_of_getElem? (i := 16) rfl)
  exact xt_throw hx hb (hml.trans hl.1.symm) hfl hlk hemp (names := ["java/lang/RuntimeException", "java/lang/Exception"]) hown (hts _ (List.mem_cons_of_mem _ tw_249)) (hts _ (List.mem_cons_of_mem _ tw_250)) (hts _ (List.mem_cons_of_mem _ tw_12)) (by decide +kernel) (by decide +kernel) (xOwn own_IAE hts hAm hTh) hZ hS hAs (Nat.le_of_ble_eq_true rfl) (Nat.le_of_ble_eq_true rfl) (Nat.le_of_ble_eq_true rfl) (Nat.le_of_ble_eq_true rfl) (by decide) (Nat.le_of_ble_eq_true rfl) d_FB_refuseUnknownEdge_11 d_FB_refuseUnknownEdge_14 d_FB_refuseUnknownEdge_15 d_FB_refuseUnknownEdge_17 d_FB_refuseUnknownEdge_20
