def xFl (x : Int32) : Int32 := if xIn x 0 15 = 1 ∧ (x &&& 1 = 0 ∨ x = 1) then 1 else 0
theorem xFl_1a {x : Int32} (h : ¬ xIn x 0 15 = 0) (h2 : x &&& 1 = 0) : (1 : Int32) = xFl x := by
  unfold xFl
  rw [if_pos ⟨xne0 (xIn_bin _ _ _) h, Or.inl h2⟩]
theorem xFl_1b {x : Int32} (h : ¬ xIn x 0 15 = 0) (h2 : x = 1) : (1 : Int32) = xFl x := by
  unfold xFl
  rw [if_pos ⟨xne0 (xIn_bin _ _ _) h, Or.inr h2⟩]
theorem xFl_0a {x : Int32} (h : xIn x 0 15 = 0) : (0 : Int32) = xFl x := by
  unfold xFl
  rw [if_neg (fun q => xne1 q.1 h)]
theorem xFl_0b {x : Int32} (h : ¬ x &&& 1 = 0) (h2 : ¬ x = 1) : (0 : Int32) = xFl x := by
  unfold xFl
  rw [if_neg (fun q => q.2.elim h h2)]
theorem xFl_bin (x : Int32) : xFl x = 0 ∨ xFl x = 1 := by
  unfold xFl
  by_cases h : xIn x 0 15 = 1 ∧ (x &&& 1 = 0 ∨ x = 1)
  · rw [if_pos h]; exact Or.inr rfl
  · rw [if_neg h]; exact Or.inl rfl
theorem xhas0 (f : Int32) : ((0 : Int32).toUInt32 >>> (f.toUInt32 &&& Int32.toUInt32 31)).toInt32 &&& 1 = 0 := by
  have h : (0 : Int32).toUInt32 >>> (f.toUInt32 &&& Int32.toUInt32 31) = 0 := by
    apply UInt32.toBitVec_inj.mp
    simp
  rw [h]
  decide
theorem xand1 (x : Int32) : (x &&& (-1)) &&& (-1) = x := by
  apply Int32.toBitVec_inj.mp
  simp
theorem xor0 (x : Int32) : x ||| 0 = x := by
  apply Int32.toBitVec_inj.mp
  simp
theorem xIn_in2 {x lo hi : Int32} {n : Nat} (h : xIn x lo hi = 1) (h0 : 0 ≤ lo.toInt) (hn : hi.toInt + 1 ≤ n) : vp_in x n := by
  rw [vp_in_iff]
  obtain ⟨h1, h2⟩ := xIn_ge h
  simp only [Int32.le_iff_toInt_le] at h1 h2
  omega
def xokE (c f p : Int32) : Prop := xIn c 0 65535 = 1 ∧ xFl f = 1 ∧ xIn p 0 2 = 1
def xokB (t j k : Int32) : Prop := ¬ t = 0 ∧ t &&& (-16777216) = 0 ∧ xIn j 1 4 = 1 ∧ xIn k 1 4 = 1
theorem d_FB_areFlags_0 : decode b_FB_areFlags 0 = .ok (.iload_n 0, 1) := by decide +kernel
theorem d_FB_areFlags_1 : decode b_FB_areFlags 1 = .ok (.iconst (0), 1) := by decide +kernel
theorem d_FB_areFlags_2 : decode b_FB_areFlags 2 = .ok (.bipush (15), 2) := by decide +kernel
theorem d_FB_areFlags_4 : decode b_FB_areFlags 4 = .ok (.invokestatic 61, 3) := by decide +kernel
theorem d_FB_areFlags_7 : decode b_FB_areFlags 7 = .ok (.ifCond .eq (18), 3) := by decide +kernel
theorem d_FB_areFlags_10 : decode b_FB_areFlags 10 = .ok (.iload_n 0, 1) := by decide +kernel
theorem d_FB_areFlags_11 : decode b_FB_areFlags 11 = .ok (.iconst (1), 1) := by decide +kernel
theorem d_FB_areFlags_12 : decode b_FB_areFlags 12 = .ok (.iand, 1) := by decide +kernel
theorem d_FB_areFlags_13 : decode b_FB_areFlags 13 = .ok (.ifCond .eq (8), 3) := by decide +kernel
theorem d_FB_areFlags_16 : decode b_FB_areFlags 16 = .ok (.iload_n 0, 1) := by decide +kernel
theorem d_FB_areFlags_17 : decode b_FB_areFlags 17 = .ok (.iconst (1), 1) := by decide +kernel
theorem d_FB_areFlags_18 : decode b_FB_areFlags 18 = .ok (.if_icmp .ne (7), 3) := by decide +kernel
theorem d_FB_areFlags_21 : decode b_FB_areFlags 21 = .ok (.iconst (1), 1) := by decide +kernel
theorem d_FB_areFlags_22 : decode b_FB_areFlags 22 = .ok (.goto (4), 3) := by decide +kernel
theorem d_FB_areFlags_25 : decode b_FB_areFlags 25 = .ok (.iconst (0), 1) := by decide +kernel
theorem d_FB_areFlags_26 : decode b_FB_areFlags 26 = .ok (.ireturn, 1) := by decide +kernel
set_option maxRecDepth 20000 in
set_option maxHeartbeats 4000000 in
theorem c_FB_areFlags (l : Launch) (D : va_G) (x : Int32) (sz : Nat)  : xMi l y_FB_areFlags w_FB_areFlags { frames := 1, cells := 0, slots := 0, locals := 22 } D cl [.int x] sz [] [] (fun (r : Int32) (_ : Unit) => r = xFl x) (fun _ => []) (fun _ => []) := by
  refine xMi_of (by decide +kernel) rfl (Nat.le_of_ble_eq_true rfl) ?_
  intro p e s m args below meth c ls A B hAe hA hsz hP hK hD hS hAm hTh hAs hl
  obtain ⟨⟨hx, hb, hml, hown, hts⟩, hret, hlk, hnm, hemp⟩ := id B
  have hl : lv_has ls 1 [(0, .int x)] := hl
  refine lv_iload_n hx hb d_FB_areFlags_0 rfl (lv_at hl 0 rfl) ?_
  refine lv_iconst (v := 0) hx hb d_FB_areFlags_1 (by decide) ?_
  refine lv_bipush (v := 15) hx hb d_FB_areFlags_2 (by decide) ?_
  have hPc := hP.sub (ws' := []) [] rfl
  have hDc := hD.sub (ws' := []) [] (by decide) rfl
  have hKc := hK.sub (tys' := []) [] rfl
  refine xgi (wsC := []) (wr := []) (va_runS (As := [.int x, .int 0, .int 15]) (rest := []) ⟨hx, hb, hml, hown, hts⟩ (c_FB_isIn l  D x 0 15 _ ) ⟨(callB_of 3 hts (x_good k_FB_isIn) rfl rfl rfl (hts _ (List.mem_cons_of_mem _ tw_1)) (hts _ (List.mem_cons_of_mem _ tw_245)) (by decide +kernel) ⟨Nat.le_of_ble_eq_true rfl, Nat.le_of_ble_eq_true rfl⟩), (hts _ (List.mem_cons_of_mem _ tw_226))⟩ (xP_S hPc hKc hDc hAm hTh hAs hS) rfl rfl hl.1 rfl (lv_room (Nat.le_of_ble_eq_true rfl)) d_FB_areFlags_4 ⟨Nat.le_of_ble_eq_true rfl, Nat.le_of_ble_eq_true rfl⟩) hP hD hK hS hA [] [] rfl rfl (by decide) (by decide) (fun r1 _ H locs er1 hP hD hK hS => ?_)
  have er1 : r1 = xIn x 0 15 := er1
  subst er1
  have hK : va_K D cl [] s := hK
  have hP : va_P D cl [] H := hP
  have hD : va_D A [] := hD
  refine lv_if_eq (tgt := 25) hx hb d_FB_areFlags_7 (by decide) (fun b7 => ?_) (fun b7 => ?_)
  · refine lv_iconst (v := 0) hx hb d_FB_areFlags_25 (by decide) ?_
    exact xrz () B d_FB_areFlags_26 (rfl) ((by first | exact xFl_1a b7 b13 | exact xFl_1b b7 b18 | exact xFl_0a b7 | exact xFl_0b b13 b18)) (hP.sub (ws' := []) [] rfl) (hK.sub (tys' := []) [] rfl) (hD.sub (ws' := []) [] (by decide) rfl) hS (Nat.le_of_ble_eq_true rfl) (Nat.le_of_ble_eq_true rfl)
  · refine lv_iload_n hx hb d_FB_areFlags_10 rfl (lv_at hl 0 rfl) ?_
    refine lv_iconst (v := 1) hx hb d_FB_areFlags_11 (by decide) ?_
    refine lv_iand hx hb d_FB_areFlags_12 ?_
    refine lv_if_eq (tgt := 21) hx hb d_FB_areFlags_13 (by decide) (fun b13 => ?_) (fun b13 => ?_)
    · refine lv_iconst (v := 1) hx hb d_FB_areFlags_21 (by decide) ?_
      refine lv_goto (tgt := 26) hx hb d_FB_areFlags_22 (by decide) ?_
      exact xrz () B d_FB_areFlags_26 (rfl) ((by first | exact xFl_1a b7 b13 | exact xFl_1b b7 b18 | exact xFl_0a b7 | exact xFl_0b b13 b18)) (hP.sub (ws' := []) [] rfl) (hK.sub (tys' := []) [] rfl) (hD.sub (ws' := []) [] (by decide) rfl) hS (Nat.le_of_ble_eq_true rfl) (Nat.le_of_ble_eq_true rfl)
    · refine lv_iload_n hx hb d_FB_areFlags_16 rfl (lv_at hl 0 rfl) ?_
      refine lv_iconst (v := 1) hx hb d_FB_areFlags_17 (by decide) ?_
      refine lv_icmp_ne (tgt := 25) hx hb d_FB_areFlags_18 (by decide) (fun b18 => ?_) (fun b18 => ?_)
      · refine lv_iconst (v := 0) hx hb d_FB_areFlags_25 (by decide) ?_
        exact xrz () B d_FB_areFlags_26 (rfl) ((by first | exact xFl_1a b7 b13 | exact xFl_1b b7 b18 | exact xFl_0a b7 | exact xFl_0b b13 b18)) (hP.sub (ws' := []) [] rfl) (hK.sub (tys' := []) [] rfl) (hD.sub (ws' := []) [] (by decide) rfl) hS (Nat.le_of_ble_eq_true rfl) (Nat.le_of_ble_eq_true rfl)
      · refine lv_iconst (v := 1) hx hb d_FB_areFlags_21 (by decide) ?_
        refine lv_goto (tgt := 26) hx hb d_FB_areFlags_22 (by decide) ?_
        exact xrz () B d_FB_areFlags_26 (rfl) ((by first | exact xFl_1a b7 b13 | exact xFl_1b b7 b18 | exact xFl_0a b7 | exact xFl_0b b13 b18)) (hP.sub (ws' := []) [] rfl) (hK.sub (tys' := []) [] rfl) (hD.sub (ws' := []) [] (by decide) rfl) hS (Nat.le_of_ble_eq_true rfl) (Nat.le_of_ble_eq_true rfl)
theorem d_FB_has_0 : decode b_FB_has 0 = .ok (.iload_n 0, 1) := by decide +kernel
theorem d_FB_has_1 : decode b_FB_has 1 = .ok (.iload_n 1, 1) := by decide +kernel
theorem d_FB_has_2 : decode b_FB_has 2 = .ok (.iushr, 1) := by decide +kernel
theorem d_FB_has_3 : decode b_FB_has 3 = .ok (.iconst (1), 1) := by decide +kernel
theorem d_FB_has_4 : decode b_FB_has 4 = .ok (.iand, 1) := by decide +kernel
theorem d_FB_has_5 : decode b_FB_has 5 = .ok (.ifCond .eq (7), 3) := by decide +kernel
theorem d_FB_has_12 : decode b_FB_has 12 = .ok (.iconst (0), 1) := by decide +kernel
theorem d_FB_has_13 : decode b_FB_has 13 = .ok (.ireturn, 1) := by decide +kernel
set_option maxRecDepth 20000 in
set_option maxHeartbeats 4000000 in
theorem c_FB_has (l : Launch) (D : va_G) (f : Int32) (sz : Nat)  : xMi l y_FB_has w_FB_has { frames := 0, cells := 0, slots := 0, locals := 0 } D cl [.int 0, .int f] sz [] [] (fun (r : Int32) (_ : Unit) => r = 0) (fun _ => []) (fun _ => []) := by
  refine xMi_of (by decide +kernel) rfl (Nat.le_of_ble_eq_true rfl) ?_
  intro p e s m args below meth c ls A B hAe hA hsz hP hK hD hS hAm hTh hAs hl
  obtain ⟨⟨hx, hb, hml, hown, hts⟩, hret, hlk, hnm, hemp⟩ := id B
  have hl : lv_has ls 2 [(0, .int 0), (1, .int f)] := hl
  refine lv_iload_n hx hb d_FB_has_0 rfl (lv_at hl 0 rfl) ?_
  refine lv_iload_n hx hb d_FB_has_1 rfl (lv_at hl 1 rfl) ?_
  refine lv_iushr hx hb d_FB_has_2 rfl ?_
  refine lv_iconst (v := 1) hx hb d_FB_has_3 (by decide) ?_
  refine lv_iand hx hb d_FB_has_4 ?_
  refine lv_if_eq (tgt := 12) hx hb d_FB_has_5 (by decide) (fun b5 => ?_) (fun b5 => absurd (xhas0 f) b5)
  refine lv_iconst (v := 0) hx hb d_FB_has_12 (by decide) ?_
  exact xrz () B d_FB_has_13 (rfl) (rfl) (hP.sub (ws' := []) [] rfl) (hK.sub (tys' := []) [] rfl) (hD.sub (ws' := []) [] (by decide) rfl) hS (Nat.le_of_ble_eq_true rfl) (Nat.le_of_ble_eq_true rfl)
theorem d_Gr_addEdge_0 : decode b_Gr_addEdge 0 = .ok (.aload_n 0, 1) := by decide +kernel
theorem d_Gr_addEdge_1 : decode b_Gr_addEdge 1 = .ok (.getfield 29, 3) := by decide +kernel
theorem d_Gr_addEdge_4 : decode b_Gr_addEdge 4 = .ok (.istore 4, 2) := by decide +kernel
theorem d_Gr_addEdge_6 : decode b_Gr_addEdge 6 = .ok (.aload_n 0, 1) := by decide +kernel
theorem d_Gr_addEdge_7 : decode b_Gr_addEdge 7 = .ok (.getfield 9, 3) := by decide +kernel
theorem d_Gr_addEdge_10 : decode b_Gr_addEdge 10 = .ok (.iload 4, 2) := by decide +kernel
theorem d_Gr_addEdge_12 : decode b_Gr_addEdge 12 = .ok (.iload_n 1, 1) := by decide +kernel
theorem d_Gr_addEdge_13 : decode b_Gr_addEdge 13 = .ok (.iastore, 1) := by decide +kernel
theorem d_Gr_addEdge_14 : decode b_Gr_addEdge 14 = .ok (.aload_n 0, 1) := by decide +kernel
theorem d_Gr_addEdge_15 : decode b_Gr_addEdge 15 = .ok (.getfield 15, 3) := by decide +kernel
theorem d_Gr_addEdge_18 : decode b_Gr_addEdge 18 = .ok (.iload 4, 2) := by decide +kernel
theorem d_Gr_addEdge_20 : decode b_Gr_addEdge 20 = .ok (.iload_n 2, 1) := by decide +kernel
theorem d_Gr_addEdge_21 : decode b_Gr_addEdge 21 = .ok (.iastore, 1) := by decide +kernel
theorem d_Gr_addEdge_22 : decode b_Gr_addEdge 22 = .ok (.aload_n 0, 1) := by decide +kernel
theorem d_Gr_addEdge_23 : decode b_Gr_addEdge 23 = .ok (.getfield 18, 3) := by decide +kernel
theorem d_Gr_addEdge_26 : decode b_Gr_addEdge 26 = .ok (.iload 4, 2) := by decide +kernel
theorem d_Gr_addEdge_28 : decode b_Gr_addEdge 28 = .ok (.iload_n 3, 1) := by decide +kernel
theorem d_Gr_addEdge_29 : decode b_Gr_addEdge 29 = .ok (.iastore, 1) := by decide +kernel
theorem d_Gr_addEdge_30 : decode b_Gr_addEdge 30 = .ok (.aload_n 0, 1) := by decide +kernel
theorem d_Gr_addEdge_31 : decode b_Gr_addEdge 31 = .ok (.dup, 1) := by decide +kernel
theorem d_Gr_addEdge_32 : decode b_Gr_addEdge 32 = .ok (.getfield 29, 3) := by decide +kernel
theorem d_Gr_addEdge_35 : decode b_Gr_addEdge 35 = .ok (.iconst (1), 1) := by decide +kernel
theorem d_Gr_addEdge_36 : decode b_Gr_addEdge 36 = .ok (.iadd, 1) := by decide +kernel
theorem d_Gr_addEdge_37 : decode b_Gr_addEdge 37 = .ok (.putfield 29, 3) := by decide +kernel
theorem d_Gr_addEdge_40 : decode b_Gr_addEdge 40 = .ok (.iload 4, 2) := by decide +kernel
theorem d_Gr_addEdge_42 : decode b_Gr_addEdge 42 = .ok (.ireturn, 1) := by decide +kernel
set_option maxRecDepth 20000 in
set_option maxHeartbeats 4000000 in
theorem c_Gr_addEdge (l : Launch) (D : va_G) (gr : Nat) (gc : Nat) (gf : Nat) (gp : Nat) (gb : Nat) (gl : Nat) (cI : ClassId) (x : Int32) (y : Int32) (z : Int32) (sz : Nat)  : xMi l y_Gr_addEdge w_Gr_addEdge { frames := 0, cells := 0, slots := 0, locals := 0 } D cl [.ref gr, .int x, .int y, .int z] sz [(cI, .int)] [(gr, .inr (2, [.ref gc, .ref gf, .ref gp, .ref gb, .ref gl, .int 0])), (gc, .inl (cI, 12, .inl (fun _ => 0))), (gf, .inl (cI, 12, .inl (fun _ => 0))), (gp, .inl (cI, 12, .inl (fun _ => 0)))] (fun (r : Int32) (_ : Unit) => r = 0) (fun _ => []) (fun _ => []) := by
  refine xMi_of (by decide +kernel) rfl (Nat.le_of_ble_eq_true rfl) ?_
  intro p e s m args below meth c ls A B hAe hA hsz hP hK hD hS hAm hTh hAs hl
  obtain ⟨⟨hx, hb, hml, hown, hts⟩, hret, hlk, hnm, hemp⟩ := id B
  have hl : lv_has ls 5 [(0, .ref gr), (1, .int x), (2, .int y), (3, .int z)] := hl
  refine lv_aload_n hx hb d_Gr_addEdge_0 rfl (lv_at hl 0 rfl) ?_
  refine va_get (D := D) (ci := 2) (v := .int 0) (C := R_Gr) (T := F_Gr) (N := 6) hx hb hts (fun w h => List.mem_cons_of_mem _ (u_Gr w h)) hown hK hP 0 rfl rfl 5 (by decide) (hts _ (List.mem_cons_of_mem _ tw_65)) (fun _ h9 => h9) rfl d_Gr_addEdge_1 ?_
  refine lv_istore hx hb d_Gr_addEdge_4 hl (by decide) rfl (fun ls hl => ?_)
  have hl : lv_has ls 5 [(4, .int 0), (0, .ref gr), (1, .int x), (2, .int y), (3, .int z)] := hl
  refine lv_aload_n hx hb d_Gr_addEdge_6 rfl (lv_at hl 1 rfl) ?_
  refine va_get (D := D) (ci := 2) (v := .ref gc) (C := R_Gr) (T := F_Gr) (N := 6) hx hb hts (fun w h => List.mem_cons_of_mem _ (u_Gr w h)) hown hK hP 0 rfl rfl 0 (by decide) (hts _ (List.mem_cons_of_mem _ tw_56)) (fun _ h9 => h9) rfl d_Gr_addEdge_7 ?_
  refine lv_iload hx hb d_Gr_addEdge_10 (lv_at hl 0 rfl) ?_
  refine lv_iload_n hx hb d_Gr_addEdge_12 rfl (lv_at hl 2 rfl) ?_
  refine va_iast hx hb hK hP hD hS 1 0 rfl rfl (by unfold vp_in; decide) d_Gr_addEdge_13 (fun H locs hP hD hS => ?_)
  have hP : va_P D cl [(gr, .inr (2, [.ref gc, .ref gf, .ref gp, .ref gb, .ref gl, .int 0])), (gc, .inl (cI, 12, .inl (upd (fun _ => 0) (0 : Int32).toNatClampNeg x))), (gf, .inl (cI, 12, .inl (fun _ => 0))), (gp, .inl (cI, 12, .inl (fun _ => 0)))] H := hP
  have hD : va_D A [(gr, .inr (2, [.ref gc, .ref gf, .ref gp, .ref gb, .ref gl, .int 0])), (gc, .inl (cI, 12, .inl (upd (fun _ => 0) (0 : Int32).toNatClampNeg x))), (gf, .inl (cI, 12, .inl (fun _ => 0))), (gp, .inl (cI, 12, .inl (fun _ => 0)))] := hD
  refine lv_aload_n hx hb d_Gr_addEdge_14 rfl (lv_at hl 1 rfl) ?_
  refine va_get (D := D) (ci := 2) (v := .ref gf) (C := R_Gr) (T := F_Gr) (N := 6) hx hb hts (fun w h => List.mem_cons_of_mem _ (u_Gr w h)) hown hK hP 0 rfl rfl 1 (by decide) (hts _ (List.mem_cons_of_mem _ tw_58)) (fun _ h9 => h9) rfl d_Gr_addEdge_15 ?_
  refine lv_iload hx hb d_Gr_addEdge_18 (lv_at hl 0 rfl) ?_
  refine lv_iload_n hx hb d_Gr_addEdge_20 rfl (lv_at hl 3 rfl) ?_
  refine va_iast hx hb hK hP hD hS 2 0 rfl rfl (by unfold vp_in; decide) d_Gr_addEdge_21 (fun H locs hP hD hS => ?_)
  have hP : va_P D cl [(gr, .inr (2, [.ref gc, .ref gf, .ref gp, .ref gb, .ref gl, .int 0])), (gc, .inl (cI, 12, .inl (upd (fun _ => 0) (0 : Int32).toNatClampNeg x))), (gf, .inl (cI, 12, .inl (upd (fun _ => 0) (0 : Int32).toNatClampNeg y))), (gp, .inl (cI, 12, .inl (fun _ => 0)))] H := hP
  have hD : va_D A [(gr, .inr (2, [.ref gc, .ref gf, .ref gp, .ref gb, .ref gl, .int 0])), (gc, .inl (cI, 12, .inl (upd (fun _ => 0) (0 : Int32).toNatClampNeg x))), (gf, .inl (cI, 12, .inl (upd (fun _ => 0) (0 : Int32).toNatClampNeg y))), (gp, .inl (cI, 12, .inl (fun _ => 0)))] := hD
  refine lv_aload_n hx hb d_Gr_addEdge_22 rfl (lv_at hl 1 rfl) ?_
  refine va_get (D := D) (ci := 2) (v := .ref gp) (C := R_Gr) (T := F_Gr) (N := 6) hx hb hts (fun w h => List.mem_cons_of_mem _ (u_Gr w h)) hown hK hP 0 rfl rfl 2 (by decide) (hts _ (List.mem_cons_of_mem _ tw_59)) (fun _ h9 => h9) rfl d_Gr_addEdge_23 ?_
  refine lv_iload hx hb d_Gr_addEdge_26 (lv_at hl 0 rfl) ?_
  refine lv_iload_n hx hb d_Gr_addEdge_28 rfl (lv_at hl 4 rfl) ?_
  refine va_iast hx hb hK hP hD hS 3 0 rfl rfl (by unfold vp_in; decide) d_Gr_addEdge_29 (fun H locs hP hD hS => ?_)
  have hP : va_P D cl [(gr, .inr (2, [.ref gc, .ref gf, .ref gp, .ref gb, .ref gl, .int 0])), (gc, .inl (cI, 12, .inl (upd (fun _ => 0) (0 : Int32).toNatClampNeg x))), (gf, .inl (cI, 12, .inl (upd (fun _ => 0) (0 : Int32).toNatClampNeg y))), (gp, .inl (cI, 12, .inl (upd (fun _ => 0) (0 : Int32).toNatClampNeg z)))] H := hP
  have hD : va_D A [(gr, .inr (2, [.ref gc, .ref gf, .ref gp, .ref gb, .ref gl, .int 0])), (gc, .inl (cI, 12, .inl (upd (fun _ => 0) (0 : Int32).toNatClampNeg x))), (gf, .inl (cI, 12, .inl (upd (fun _ => 0) (0 : Int32).toNatClampNeg y))), (gp, .inl (cI, 12, .inl (upd (fun _ => 0) (0 : Int32).toNatClampNeg z)))] := hD
  refine lv_aload_n hx hb d_Gr_addEdge_30 rfl (lv_at hl 1 rfl) ?_
  refine lv_dup hx hb d_Gr_addEdge_31 rfl ?_
  refine va_get (D := D) (ci := 2) (v := .int 0) (C := R_Gr) (T := F_Gr) (N := 6) hx hb hts (fun w h => List.mem_cons_of_mem _ (u_Gr w h)) hown hK hP 0 rfl rfl 5 (by decide) (hts _ (List.mem_cons_of_mem _ tw_65)) (fun _ h9 => h9) rfl d_Gr_addEdge_32 ?_
  refine lv_iconst (v := 1) hx hb d_Gr_addEdge_35 (by decide) ?_
  refine lv_iadd hx hb d_Gr_addEdge_36 ?_
  refine xnum (v := 1) (by decide) ?_
  refine va_put (D := D) (ci := 2) (v := .int 1) (ty := .int) (C := R_Gr) (T := F_Gr) (N := 6) hx hb hts (fun w h => List.mem_cons_of_mem _ (u_Gr w h)) t_Gr o_Gr n_Gr hown hK hP hD hS 0 rfl rfl 5 (by decide) (hts _ (List.mem_cons_of_mem _ tw_65)) (fun _ h9 => h9) rfl (by decide +kernel) rfl rfl (Nat.le_of_ble_eq_true rfl) d_Gr_addEdge_37 (fun H locs hP hD hS => ?_)
  have hP : va_P D cl [(gr, .inr (2, [.ref gc, .ref gf, .ref gp, .ref gb, .ref gl, .int 1])), (gc, .inl (cI, 12, .inl (upd (fun _ => 0) (0 : Int32).toNatClampNeg x))), (gf, .inl (cI, 12, .inl (upd (fun _ => 0) (0 : Int32).toNatClampNeg y))), (gp, .inl (cI, 12, .inl (upd (fun _ => 0) (0 : Int32).toNatClampNeg z)))] H := hP
  have hD : va_D A [(gr, .inr (2, [.ref gc, .ref gf, .ref gp, .ref gb, .ref gl, .int 1])), (gc, .inl (cI, 12, .inl (upd (fun _ => 0) (0 : Int32).toNatClampNeg x))), (gf, .inl (cI, 12, .inl (upd (fun _ => 0) (0 : Int32).toNatClampNeg y))), (gp, .inl (cI, 12, .inl (upd (fun _ => 0) (0 : Int32).toNatClampNeg z)))] := hD
  refine lv_iload hx hb d_Gr_addEdge_40 (lv_at hl 0 rfl) ?_
  exact xri () B d_Gr_addEdge_42 (rfl) (hP.sub (ws' := []) [] rfl) (hK.sub (tys' := []) [] rfl) (hD.sub (ws' := []) [] (by decide) rfl) hS (Nat.le_of_ble_eq_true rfl) (Nat.le_of_ble_eq_true rfl)
theorem d_Gr_made_0 : decode b_Gr_made 0 = .ok (.iconst (0), 1) := by decide +kernel
theorem d_Gr_made_1 : decode b_Gr_made 1 = .ok (.istore_n 1, 1) := by decide +kernel
theorem d_Gr_made_2 : decode b_Gr_made 2 = .ok (.iconst (0), 1) := by decide +kernel
theorem d_Gr_made_3 : decode b_Gr_made 3 = .ok (.istore_n 2, 1) := by decide +kernel
theorem d_Gr_made_4 : decode b_Gr_made 4 = .ok (.iload_n 2, 1) := by decide +kernel
theorem d_Gr_made_5 : decode b_Gr_made 5 = .ok (.aload_n 0, 1) := by decide +kernel
theorem d_Gr_made_6 : decode b_Gr_made 6 = .ok (.getfield 29, 3) := by decide +kernel
theorem d_Gr_made_9 : decode b_Gr_made 9 = .ok (.if_icmp .ge (20), 3) := by decide +kernel
theorem d_Gr_made_29 : decode b_Gr_made 29 = .ok (.iload_n 1, 1) := by decide +kernel
theorem d_Gr_made_30 : decode b_Gr_made 30 = .ok (.ireturn, 1) := by decide +kernel
set_option maxRecDepth 20000 in
set_option maxHeartbeats 4000000 in
theorem c_Gr_made (l : Launch) (D : va_G) (gr : Nat) (gc : Nat) (gf : Nat) (gp : Nat) (gb : Nat) (gl : Nat) (sz : Nat)  : xMi l y_Gr_made w_Gr_made { frames := 0, cells := 0, slots := 0, locals := 0 } D cl [.ref gr] sz [] [(gr, .inr (2, [.ref gc, .ref gf, .ref gp, .ref gb, .ref gl, .int 0]))] (fun (r : Int32) (_ : Unit) => r = 0) (fun _ => [(gr, .inr (2, [.ref gc, .ref gf, .ref gp, .ref gb, .ref gl, .int 0]))]) (fun _ => []) := by
  refine xMi_of (by decide +kernel) rfl (Nat.le_of_ble_eq_true rfl) ?_
  intro p e s m args below meth c ls A B hAe hA hsz hP hK hD hS hAm hTh hAs hl
  obtain ⟨⟨hx, hb, hml, hown, hts⟩, hret, hlk, hnm, hemp⟩ := id B
  have hl : lv_has ls 3 [(0, .ref gr)] := hl
  refine lv_iconst (v := 0) hx hb d_Gr_made_0 (by decide) ?_
  refine lv_istore_n hx hb d_Gr_made_1 rfl hl (by decide) rfl (fun ls hl => ?_)
  have hl : lv_has ls 3 [(1, .int 0), (0, .ref gr)] := hl
  refine lv_iconst (v := 0) hx hb d_Gr_made_2 (by decide) ?_
  refine lv_istore_n hx hb d_Gr_made_3 rfl hl (by decide) rfl (fun ls hl => ?_)
  have hl : lv_has ls 3 [(2, .int 0), (1, .int 0), (0, .ref gr)] := hl
  refine lv_iload_n hx hb d_Gr_made_4 rfl (lv_at hl 0 rfl) ?_
  refine lv_aload_n hx hb d_Gr_made_5 rfl (lv_at hl 2 rfl) ?_
  refine va_get (D := D) (ci := 2) (v := .int 0) (C := R_Gr) (T := F_Gr) (N := 6) hx hb hts (fun w h => List.mem_cons_of_mem _ (u_Gr w h)) hown hK hP 0 rfl rfl 5 (by decide) (hts _ (List.mem_cons_of_mem _ tw_65)) (fun _ h9 => h9) rfl d_Gr_made_6 ?_
  refine lv_icmp_ge (tgt := 29) hx hb d_Gr_made_9 (by decide) (fun b9 => ?_) (fun b9 => absurd b9 (by decide))
  refine lv_iload_n hx hb d_Gr_made_29 rfl (lv_at hl 1 rfl) ?_
  exact xri () B d_Gr_made_30 (rfl) (hP.sub (ws' := [(gr, .inr (2, [.ref gc, .ref gf, .ref gp, .ref gb, .ref gl, .int 0]))]) [0] rfl) (hK.sub (tys' := []) [] rfl) (hD.sub (ws' := [(gr, .inr (2, [.ref gc, .ref gf, .ref gp, .ref gb, .ref gl, .int 0]))]) [0] (by decide) rfl) hS (Nat.le_of_ble_eq_true rfl) (Nat.le_of_ble_eq_true rfl)
theorem d_Gr_madeByPhonies_0 : decode b_Gr_madeByPhonies 0 = .ok (.iconst (0), 1) := by decide +kernel
theorem d_Gr_madeByPhonies_1 : decode b_Gr_madeByPhonies 1 = .ok (.istore_n 1, 1) := by decide +kernel
theorem d_Gr_madeByPhonies_2 : decode b_Gr_madeByPhonies 2 = .ok (.iconst (0), 1) := by decide +kernel
theorem d_Gr_madeByPhonies_3 : decode b_Gr_madeByPhonies 3 = .ok (.istore_n 2, 1) := by decide +kernel
theorem d_Gr_madeByPhonies_4 : decode b_Gr_madeByPhonies 4 = .ok (.iload_n 2, 1) := by decide +kernel
theorem d_Gr_madeByPhonies_5 : decode b_Gr_madeByPhonies 5 = .ok (.aload_n 0, 1) := by decide +kernel
theorem d_Gr_madeByPhonies_6 : decode b_Gr_madeByPhonies 6 = .ok (.getfield 29, 3) := by decide +kernel
theorem d_Gr_madeByPhonies_9 : decode b_Gr_madeByPhonies 9 = .ok (.if_icmp .ge (28), 3) := by decide +kernel
theorem d_Gr_madeByPhonies_37 : decode b_Gr_madeByPhonies 37 = .ok (.iload_n 1, 1) := by decide +kernel
theorem d_Gr_madeByPhonies_38 : decode b_Gr_madeByPhonies 38 = .ok (.ireturn, 1) := by decide +kernel
set_option maxRecDepth 20000 in
set_option maxHeartbeats 4000000 in
theorem c_Gr_madeByPhonies (l : Launch) (D : va_G) (gr : Nat) (gc : Nat) (gf : Nat) (gp : Nat) (gb : Nat) (gl : Nat) (sz : Nat)  : xMi l y_Gr_madeByPhonies w_Gr_madeByPhonies { frames := 0, cells := 0, slots := 0, locals := 0 } D cl [.ref gr] sz [] [(gr, .inr (2, [.ref gc, .ref gf, .ref gp, .ref gb, .ref gl, .int 0]))] (fun (r : Int32) (_ : Unit) => r = 0) (fun _ => [(gr, .inr (2, [.ref gc, .ref gf, .ref gp, .ref gb, .ref gl, .int 0]))]) (fun _ => []) := by
  refine xMi_of (by decide +kernel) rfl (Nat.le_of_ble_eq_true rfl) ?_
  intro p e s m args below meth c ls A B hAe hA hsz hP hK hD hS hAm hTh hAs hl
  obtain ⟨⟨hx, hb, hml, hown, hts⟩, hret, hlk, hnm, hemp⟩ := id B
  have hl : lv_has ls 3 [(0, .ref gr)] := hl
  refine lv_iconst (v := 0) hx hb d_Gr_madeByPhonies_0 (by decide) ?_
  refine lv_istore_n hx hb d_Gr_madeByPhonies_1 rfl hl (by decide) rfl (fun ls hl => ?_)
  have hl : lv_has ls 3 [(1, .int 0), (0, .ref gr)] := hl
  refine lv_iconst (v := 0) hx hb d_Gr_madeByPhonies_2 (by decide) ?_
  refine lv_istore_n hx hb d_Gr_madeByPhonies_3 rfl hl (by decide) rfl (fun ls hl => ?_)
  have hl : lv_has ls 3 [(2, .int 0), (1, .int 0), (0, .ref gr)] := hl
  refine lv_iload_n hx hb d_Gr_madeByPhonies_4 rfl (lv_at hl 0 rfl) ?_
  refine lv_aload_n hx hb d_Gr_madeByPhonies_5 rfl (lv_at hl 2 rfl) ?_
  refine va_get (D := D) (ci := 2) (v := .int 0) (C := R_Gr) (T := F_Gr) (N := 6) hx hb hts (fun w h => List.mem_cons_of_mem _ (u_Gr w h)) hown hK hP 0 rfl rfl 5 (by decide) (hts _ (List.mem_cons_of_mem _ tw_65)) (fun _ h9 => h9) rfl d_Gr_madeByPhonies_6 ?_
  refine lv_icmp_ge (tgt := 37) hx hb d_Gr_madeByPhonies_9 (by decide) (fun b9 => ?_) (fun b9 => absurd b9 (by decide))
  refine lv_iload_n hx hb d_Gr_madeByPhonies_37 rfl (lv_at hl 1 rfl) ?_
  exact xri () B d_Gr_madeByPhonies_38 (rfl) (hP.sub (ws' := [(gr, .inr (2, [.ref gc, .ref gf, .ref gp, .ref gb, .ref gl, .int 0]))]) [0] rfl) (hK.sub (tys' := []) [] rfl) (hD.sub (ws' := [(gr, .inr (2, [.ref gc, .ref gf, .ref gp, .ref gb, .ref gl, .int 0]))]) [0] (by decide) rfl) hS (Nat.le_of_ble_eq_true rfl) (Nat.le_of_ble_eq_true rfl)
theorem d_Gr_makersOf_0 : decode b_Gr_makersOf 0 = .ok (.iconst (0), 1) := by decide +kernel
theorem d_Gr_makersOf_1 : decode b_Gr_makersOf 1 = .ok (.istore_n 2, 1) := by decide +kernel
theorem d_Gr_makersOf_2 : decode b_Gr_makersOf 2 = .ok (.iconst (0), 1) := by decide +kernel
theorem d_Gr_makersOf_3 : decode b_Gr_makersOf 3 = .ok (.istore_n 3, 1) := by decide +kernel
theorem d_Gr_makersOf_4 : decode b_Gr_makersOf 4 = .ok (.iload_n 3, 1) := by decide +kernel
theorem d_Gr_makersOf_5 : decode b_Gr_makersOf 5 = .ok (.aload_n 0, 1) := by decide +kernel
theorem d_Gr_makersOf_6 : decode b_Gr_makersOf 6 = .ok (.getfield 29, 3) := by decide +kernel
theorem d_Gr_makersOf_9 : decode b_Gr_makersOf 9 = .ok (.if_icmp .ge (28), 3) := by decide +kernel
theorem d_Gr_makersOf_37 : decode b_Gr_makersOf 37 = .ok (.iload_n 2, 1) := by decide +kernel
theorem d_Gr_makersOf_38 : decode b_Gr_makersOf 38 = .ok (.ireturn, 1) := by decide +kernel
set_option maxRecDepth 20000 in
set_option maxHeartbeats 4000000 in
theorem c_Gr_makersOf (l : Launch) (D : va_G) (gr : Nat) (gc : Nat) (gf : Nat) (gp : Nat) (gb : Nat) (gl : Nat) (x : Int32) (sz : Nat)  : xMi l y_Gr_makersOf w_Gr_makersOf { frames := 0, cells := 0, slots := 0, locals := 0 } D cl [.ref gr, .int x] sz [] [(gr, .inr (2, [.ref gc, .ref gf, .ref gp, .ref gb, .ref gl, .int 0]))] (fun (r : Int32) (_ : Unit) => r = 0) (fun _ => [(gr, .inr (2, [.ref gc, .ref gf, .ref gp, .ref gb, .ref gl, .int 0]))]) (fun _ => []) := by
  refine xMi_of (by decide +kernel) rfl (Nat.le_of_ble_eq_true rfl) ?_
  intro p e s m args below meth c ls A B hAe hA hsz hP hK hD hS hAm hTh hAs hl
  obtain ⟨⟨hx, hb, hml, hown, hts⟩, hret, hlk, hnm, hemp⟩ := id B
  have hl : lv_has ls 4 [(0, .ref gr), (1, .int x)] := hl
  refine lv_iconst (v := 0) hx hb d_Gr_makersOf_0 (by decide) ?_
  refine lv_istore_n hx hb d_Gr_makersOf_1 rfl hl (by decide) rfl (fun ls hl => ?_)
  have hl : lv_has ls 4 [(2, .int 0), (0, .ref gr), (1, .int x)] := hl
  refine lv_iconst (v := 0) hx hb d_Gr_makersOf_2 (by decide) ?_
  refine lv_istore_n hx hb d_Gr_makersOf_3 rfl hl (by decide) rfl (fun ls hl => ?_)
  have hl : lv_has ls 4 [(3, .int 0), (2, .int 0), (0, .ref gr), (1, .int x)] := hl
  refine lv_iload_n hx hb d_Gr_makersOf_4 rfl (lv_at hl 0 rfl) ?_
  refine lv_aload_n hx hb d_Gr_makersOf_5 rfl (lv_at hl 2 rfl) ?_
  refine va_get (D := D) (ci := 2) (v := .int 0) (C := R_Gr) (T := F_Gr) (N := 6) hx hb hts (fun w h => List.mem_cons_of_mem _ (u_Gr w h)) hown hK hP 0 rfl rfl 5 (by decide) (hts _ (List.mem_cons_of_mem _ tw_65)) (fun _ h9 => h9) rfl d_Gr_makersOf_6 ?_
  refine lv_icmp_ge (tgt := 37) hx hb d_Gr_makersOf_9 (by decide) (fun b9 => ?_) (fun b9 => absurd b9 (by decide))
  refine lv_iload_n hx hb d_Gr_makersOf_37 rfl (lv_at hl 1 rfl) ?_
  exact xri () B d_Gr_makersOf_38 (rfl) (hP.sub (ws' := [(gr, .inr (2, [.ref gc, .ref gf, .ref gp, .ref gb, .ref gl, .int 0]))]) [0] rfl) (hK.sub (tys' := []) [] rfl) (hD.sub (ws' := [(gr, .inr (2, [.ref gc, .ref gf, .ref gp, .ref gb, .ref gl, .int 0]))]) [0] (by decide) rfl) hS (Nat.le_of_ble_eq_true rfl) (Nat.le_of_ble_eq_true rfl)
theorem d_Gr_waitedForBy_0 : decode b_Gr_waitedForBy 0 = .ok (.iconst (0), 1) := by decide +kernel
theorem d_Gr_waitedForBy_1 : decode b_Gr_waitedForBy 1 = .ok (.istore_n 2, 1) := by decide +kernel
theorem d_Gr_waitedForBy_2 : decode b_Gr_waitedForBy 2 = .ok (.iconst (0), 1) := by decide +kernel
theorem d_Gr_waitedForBy_3 : decode b_Gr_waitedForBy 3 = .ok (.istore_n 3, 1) := by decide +kernel
theorem d_Gr_waitedForBy_4 : decode b_Gr_waitedForBy 4 = .ok (.iload_n 3, 1) := by decide +kernel
theorem d_Gr_waitedForBy_5 : decode b_Gr_waitedForBy 5 = .ok (.aload_n 0, 1) := by decide +kernel
theorem d_Gr_waitedForBy_6 : decode b_Gr_waitedForBy 6 = .ok (.getfield 29, 3) := by decide +kernel
theorem d_Gr_waitedForBy_9 : decode b_Gr_waitedForBy 9 = .ok (.if_icmp .ge (25), 3) := by decide +kernel
theorem d_Gr_waitedForBy_34 : decode b_Gr_waitedForBy 34 = .ok (.iload_n 2, 1) := by decide +kernel
theorem d_Gr_waitedForBy_35 : decode b_Gr_waitedForBy 35 = .ok (.ireturn, 1) := by decide +kernel
set_option maxRecDepth 20000 in
set_option maxHeartbeats 4000000 in
theorem c_Gr_waitedForBy (l : Launch) (D : va_G) (gr : Nat) (gc : Nat) (gf : Nat) (gp : Nat) (gb : Nat) (gl : Nat) (x : Int32) (sz : Nat)  : xMi l y_Gr_waitedForBy w_Gr_waitedForBy { frames := 0, cells := 0, slots := 0, locals := 0 } D cl [.ref gr, .int x] sz [] [(gr, .inr (2, [.ref gc, .ref gf, .ref gp, .ref gb, .ref gl, .int 0]))] (fun (r : Int32) (_ : Unit) => r = 0) (fun _ => [(gr, .inr (2, [.ref gc, .ref gf, .ref gp, .ref gb, .ref gl, .int 0]))]) (fun _ => []) := by
  refine xMi_of (by decide +kernel) rfl (Nat.le_of_ble_eq_true rfl) ?_
  intro p e s m args below meth c ls A B hAe hA hsz hP hK hD hS hAm hTh hAs hl
  obtain ⟨⟨hx, hb, hml, hown, hts⟩, hret, hlk, hnm, hemp⟩ := id B
  have hl : lv_has ls 4 [(0, .ref gr), (1, .int x)] := hl
  refine lv_iconst (v := 0) hx hb d_Gr_waitedForBy_0 (by decide) ?_
  refine lv_istore_n hx hb d_Gr_waitedForBy_1 rfl hl (by decide) rfl (fun ls hl => ?_)
  have hl : lv_has ls 4 [(2, .int 0), (0, .ref gr), (1, .int x)] := hl
  refine lv_iconst (v := 0) hx hb d_Gr_waitedForBy_2 (by decide) ?_
  refine lv_istore_n hx hb d_Gr_waitedForBy_3 rfl hl (by decide) rfl (fun ls hl => ?_)
  have hl : lv_has ls 4 [(3, .int 0), (2, .int 0), (0, .ref gr), (1, .int x)] := hl
  refine lv_iload_n hx hb d_Gr_waitedForBy_4 rfl (lv_at hl 0 rfl) ?_
  refine lv_aload_n hx hb d_Gr_waitedForBy_5 rfl (lv_at hl 2 rfl) ?_
  refine va_get (D := D) (ci := 2) (v := .int 0) (C := R_Gr) (T := F_Gr) (N := 6) hx hb hts (fun w h => List.mem_cons_of_mem _ (u_Gr w h)) hown hK hP 0 rfl rfl 5 (by decide) (hts _ (List.mem_cons_of_mem _ tw_65)) (fun _ h9 => h9) rfl d_Gr_waitedForBy_6 ?_
  refine lv_icmp_ge (tgt := 34) hx hb d_Gr_waitedForBy_9 (by decide) (fun b9 => ?_) (fun b9 => absurd b9 (by decide))
  refine lv_iload_n hx hb d_Gr_waitedForBy_34 rfl (lv_at hl 1 rfl) ?_
  exact xri () B d_Gr_waitedForBy_35 (rfl) (hP.sub (ws' := [(gr, .inr (2, [.ref gc, .ref gf, .ref gp, .ref gb, .ref gl, .int 0]))]) [0] rfl) (hK.sub (tys' := []) [] rfl) (hD.sub (ws' := [(gr, .inr (2, [.ref gc, .ref gf, .ref gp, .ref gb, .ref gl, .int 0]))]) [0] (by decide) rfl) hS (Nat.le_of_ble_eq_true rfl) (Nat.le_of_ble_eq_true rfl)
theorem d_Gr_nextToLookAt_0 : decode b_Gr_nextToLookAt 0 = .ok (.iconst (0), 1) := by decide +kernel
theorem d_Gr_nextToLookAt_1 : decode b_Gr_nextToLookAt 1 = .ok (.istore_n 3, 1) := by decide +kernel
theorem d_Gr_nextToLookAt_2 : decode b_Gr_nextToLookAt 2 = .ok (.iload_n 3, 1) := by decide +kernel
theorem d_Gr_nextToLookAt_3 : decode b_Gr_nextToLookAt 3 = .ok (.aload_n 0, 1) := by decide +kernel
theorem d_Gr_nextToLookAt_4 : decode b_Gr_nextToLookAt 4 = .ok (.getfield 29, 3) := by decide +kernel
theorem d_Gr_nextToLookAt_7 : decode b_Gr_nextToLookAt 7 = .ok (.if_icmp .ge (43), 3) := by decide +kernel
theorem d_Gr_nextToLookAt_50 : decode b_Gr_nextToLookAt 50 = .ok (.iconst (-1), 1) := by decide +kernel
theorem d_Gr_nextToLookAt_51 : decode b_Gr_nextToLookAt 51 = .ok (.ireturn, 1) := by decide +kernel
set_option maxRecDepth 20000 in
set_option maxHeartbeats 4000000 in
theorem c_Gr_nextToLookAt (l : Launch) (D : va_G) (gr : Nat) (gc : Nat) (gf : Nat) (gp : Nat) (gb : Nat) (gl : Nat) (x : Int32) (y : Int32) (sz : Nat)  : xMi l y_Gr_nextToLookAt w_Gr_nextToLookAt { frames := 0, cells := 0, slots := 0, locals := 0 } D cl [.ref gr, .int x, .int y] sz [] [(gr, .inr (2, [.ref gc, .ref gf, .ref gp, .ref gb, .ref gl, .int 0]))] (fun (r : Int32) (_ : Unit) => r = (-1)) (fun _ => [(gr, .inr (2, [.ref gc, .ref gf, .ref gp, .ref gb, .ref gl, .int 0]))]) (fun _ => []) := by
  refine xMi_of (by decide +kernel) rfl (Nat.le_of_ble_eq_true rfl) ?_
  intro p e s m args below meth c ls A B hAe hA hsz hP hK hD hS hAm hTh hAs hl
  obtain ⟨⟨hx, hb, hml, hown, hts⟩, hret, hlk, hnm, hemp⟩ := id B
  have hl : lv_has ls 4 [(0, .ref gr), (1, .int x), (2, .int y)] := hl
  refine lv_iconst (v := 0) hx hb d_Gr_nextToLookAt_0 (by decide) ?_
  refine lv_istore_n hx hb d_Gr_nextToLookAt_1 rfl hl (by decide) rfl (fun ls hl => ?_)
  have hl : lv_has ls 4 [(3, .int 0), (0, .ref gr), (1, .int x), (2, .int y)] := hl
  refine lv_iload_n hx hb d_Gr_nextToLookAt_2 rfl (lv_at hl 0 rfl) ?_
  refine lv_aload_n hx hb d_Gr_nextToLookAt_3 rfl (lv_at hl 1 rfl) ?_
  refine va_get (D := D) (ci := 2) (v := .int 0) (C := R_Gr) (T := F_Gr) (N := 6) hx hb hts (fun w h => List.mem_cons_of_mem _ (u_Gr w h)) hown hK hP 0 rfl rfl 5 (by decide) (hts _ (List.mem_cons_of_mem _ tw_65)) (fun _ h9 => h9) rfl d_Gr_nextToLookAt_4 ?_
  refine lv_icmp_ge (tgt := 50) hx hb d_Gr_nextToLookAt_7 (by decide) (fun b7 => ?_) (fun b7 => absurd b7 (by decide))
  refine lv_iconst (v := (-1)) hx hb d_Gr_nextToLookAt_50 (by decide) ?_
  exact xri () B d_Gr_nextToLookAt_51 (rfl) (hP.sub (ws' := [(gr, .inr (2, [.ref gc, .ref gf, .ref gp, .ref gb, .ref gl, .int 0]))]) [0] rfl) (hK.sub (tys' := []) [] rfl) (hD.sub (ws' := [(gr, .inr (2, [.ref gc, .ref gf, .ref gp, .ref gb, .ref gl, .int 0]))]) [0] (by decide) rfl) hS (Nat.le_of_ble_eq_true rfl) (Nat.le_of_ble_eq_true rfl)
theorem d_Gr_reachedFrom_0 : decode b_Gr_reachedFrom 0 = .ok (.aload_n 0, 1) := by decide +kernel
theorem d_Gr_reachedFrom_1 : decode b_Gr_reachedFrom 1 = .ok (.iload_n 1, 1) := by decide +kernel
theorem d_Gr_reachedFrom_2 : decode b_Gr_reachedFrom 2 = .ok (.invokevirtual 55, 3) := by decide +kernel
theorem d_Gr_reachedFrom_5 : decode b_Gr_reachedFrom 5 = .ok (.istore_n 2, 1) := by decide +kernel
theorem d_Gr_reachedFrom_6 : decode b_Gr_reachedFrom 6 = .ok (.iconst (0), 1) := by decide +kernel
theorem d_Gr_reachedFrom_7 : decode b_Gr_reachedFrom 7 = .ok (.istore_n 3, 1) := by decide +kernel
theorem d_Gr_reachedFrom_8 : decode b_Gr_reachedFrom 8 = .ok (.iload_n 3, 1) := by decide +kernel
theorem d_Gr_reachedFrom_9 : decode b_Gr_reachedFrom 9 = .ok (.bipush (12), 2) := by decide +kernel
theorem d_Gr_reachedFrom_11 : decode b_Gr_reachedFrom 11 = .ok (.if_icmp .ge (21), 3) := by decide +kernel
theorem d_Gr_reachedFrom_14 : decode b_Gr_reachedFrom 14 = .ok (.iload_n 2, 1) := by decide +kernel
theorem d_Gr_reachedFrom_15 : decode b_Gr_reachedFrom 15 = .ok (.aload_n 0, 1) := by decide +kernel
theorem d_Gr_reachedFrom_16 : decode b_Gr_reachedFrom 16 = .ok (.aload_n 0, 1) := by decide +kernel
theorem d_Gr_reachedFrom_17 : decode b_Gr_reachedFrom 17 = .ok (.iload_n 2, 1) := by decide +kernel
theorem d_Gr_reachedFrom_18 : decode b_Gr_reachedFrom 18 = .ok (.invokevirtual 58, 3) := by decide +kernel
theorem d_Gr_reachedFrom_21 : decode b_Gr_reachedFrom 21 = .ok (.invokevirtual 55, 3) := by decide +kernel
theorem d_Gr_reachedFrom_24 : decode b_Gr_reachedFrom 24 = .ok (.ior, 1) := by decide +kernel
theorem d_Gr_reachedFrom_25 : decode b_Gr_reachedFrom 25 = .ok (.istore_n 2, 1) := by decide +kernel
theorem d_Gr_reachedFrom_26 : decode b_Gr_reachedFrom 26 = .ok (.iinc 3 (1), 3) := by decide +kernel
theorem d_Gr_reachedFrom_29 : decode b_Gr_reachedFrom 29 = .ok (.goto (-21), 3) := by decide +kernel
theorem d_Gr_reachedFrom_32 : decode b_Gr_reachedFrom 32 = .ok (.iload_n 2, 1) := by decide +kernel
theorem d_Gr_reachedFrom_33 : decode b_Gr_reachedFrom 33 = .ok (.ireturn, 1) := by decide +kernel
set_option maxRecDepth 20000 in
set_option maxHeartbeats 4000000 in
theorem c_Gr_reachedFrom (l : Launch) (D : va_G) (gr : Nat) (gc : Nat) (gf : Nat) (gp : Nat) (gb : Nat) (gl : Nat) (x : Int32) (sz : Nat)  : xMi l y_Gr_reachedFrom w_Gr_reachedFrom { frames := 1, cells := 0, slots := 0, locals := 30 } D cl [.ref gr, .int x] sz [] [(gr, .inr (2, [.ref gc, .ref gf, .ref gp, .ref gb, .ref gl, .int 0]))] (fun (r : Int32) (_ : Unit) => r = 0) (fun _ => [(gr, .inr (2, [.ref gc, .ref gf, .ref gp, .ref gb, .ref gl, .int 0]))]) (fun _ => []) := by
  refine xMi_of (by decide +kernel) rfl (Nat.le_of_ble_eq_true rfl) ?_
  intro p e s m args below meth c ls A B hAe hA hsz hP hK hD hS hAm hTh hAs hl
  obtain ⟨⟨hx, hb, hml, hown, hts⟩, hret, hlk, hnm, hemp⟩ := id B
  have hl : lv_has ls 4 [(0, .ref gr), (1, .int x)] := hl
  refine lv_aload_n hx hb d_Gr_reachedFrom_0 rfl (lv_at hl 0 rfl) ?_
  refine lv_iload_n hx hb d_Gr_reachedFrom_1 rfl (lv_at hl 1 rfl) ?_
  have hPc := hP.sub (ws' := [(gr, .inr (2, [.ref gc, .ref gf, .ref gp, .ref gb, .ref gl, .int 0]))]) [0] rfl
  have hDc := hD.sub (ws' := [(gr, .inr (2, [.ref gc, .ref gf, .ref gp, .ref gb, .ref gl, .int 0]))]) [0] (by decide) rfl
  have hKc := hK.sub (tys' := []) [] rfl
  refine xgi (wsC := [(gr, .inr (2, [.ref gc, .ref gf, .ref gp, .ref gb, .ref gl, .int 0]))]) (wr := []) (va_runV (As := [.int x]) (rest := []) ⟨hx, hb, hml, hown, hts⟩ (c_Gr_makersOf l  D gr gc gf gp gb gl x _ ) ⟨(callB_of 1 hts (x_good k_Gr_makersOf) rfl rfl rfl (hts _ (List.mem_cons_of_mem _ tw_3)) (hts _ (List.mem_cons_of_mem _ tw_464)) (by decide +kernel) ⟨Nat.le_of_ble_eq_true rfl, Nat.le_of_ble_eq_true rfl⟩), (hts _ (List.mem_cons_of_mem _ tw_466)), (hts _ (List.mem_cons_of_mem _ (x_sel 24 rfl)))⟩ (xP_V (va_recv (ci := 2) (q0 := 0) hK hP rfl rfl) hPc hKc hDc hAm hTh hAs hS) rfl rfl hl.1 rfl (lv_room (Nat.le_of_ble_eq_true rfl)) d_Gr_reachedFrom_2 ⟨Nat.le_of_ble_eq_true rfl, Nat.le_of_ble_eq_true rfl⟩) hP hD hK hS hA [0] [] rfl rfl (by decide) (by decide) (fun r1 _ H locs er1 hP hD hK hS => ?_)
  have er1 : r1 = 0 := er1
  subst er1
  have hK : va_K D cl [] s := hK
  have hP : va_P D cl [(gr, .inr (2, [.ref gc, .ref gf, .ref gp, .ref gb, .ref gl, .int 0]))] H := hP
  have hD : va_D A [(gr, .inr (2, [.ref gc, .ref gf, .ref gp, .ref gb, .ref gl, .int 0]))] := hD
  refine lv_istore_n hx hb d_Gr_reachedFrom_5 rfl hl (by decide) rfl (fun ls hl => ?_)
  have hl : lv_has ls 4 [(2, .int 0), (0, .ref gr), (1, .int x)] := hl
  refine lv_iconst (v := 0) hx hb d_Gr_reachedFrom_6 (by decide) ?_
  refine lv_istore_n hx hb d_Gr_reachedFrom_7 rfl hl (by decide) rfl (fun ls hl => ?_)
  have hl : lv_has ls 4 [(3, .int 0), (2, .int 0), (0, .ref gr), (1, .int x)] := hl
  refine lv_iload_n hx hb d_Gr_reachedFrom_8 rfl (lv_at hl 0 rfl) ?_
  refine lv_bipush (v := 12) hx hb d_Gr_reachedFrom_9 (by decide) ?_
  refine lv_icmp_ge (tgt := 32) hx hb d_Gr_reachedFrom_11 (by decide) (fun b11 => absurd b11 (by decide)) (fun b11 => ?_)
  refine lv_iload_n hx hb d_Gr_reachedFrom_14 rfl (lv_at hl 1 rfl) ?_
  refine lv_aload_n hx hb d_Gr_reachedFrom_15 rfl (lv_at hl 2 rfl) ?_
  refine lv_aload_n hx hb d_Gr_reachedFrom_16 rfl (lv_at hl 2 rfl) ?_
  refine lv_iload_n hx hb d_Gr_reachedFrom_17 rfl (lv_at hl 1 rfl) ?_
  have hPc := hP.sub (ws' := [(gr, .inr (2, [.ref gc, .ref gf, .ref gp, .ref gb, .ref gl, .int 0]))]) [0] rfl
  have hDc := hD.sub (ws' := [(gr, .inr (2, [.ref gc, .ref gf, .ref gp, .ref gb, .ref gl, .int 0]))]) [0] (by decide) rfl
  have hKc := hK.sub (tys' := []) [] rfl
  refine xgi (wsC := [(gr, .inr (2, [.ref gc, .ref gf, .ref gp, .ref gb, .ref gl, .int 0]))]) (wr := []) (va_runV (As := [.int 0]) (rest := [.ref gr, .int 0]) ⟨hx, hb, hml, hown, hts⟩ (c_Gr_waitedForBy l  D gr gc gf gp gb gl 0 _ ) ⟨(callB_of 1 hts (x_good k_Gr_waitedForBy) rfl rfl rfl (hts _ (List.mem_cons_of_mem _ tw_3)) (hts _ (List.mem_cons_of_mem _ tw_468)) (by decide +kernel) ⟨Nat.le_of_ble_eq_true rfl, Nat.le_of_ble_eq_true rfl⟩), (hts _ (List.mem_cons_of_mem _ tw_470)), (hts _ (List.mem_cons_of_mem _ (x_sel 25 rfl)))⟩ (xP_V (va_recv (ci := 2) (q0 := 0) hK hP rfl rfl) hPc hKc hDc hAm hTh hAs hS) rfl rfl hl.1 rfl (lv_room (Nat.le_of_ble_eq_true rfl)) d_Gr_reachedFrom_18 ⟨Nat.le_of_ble_eq_true rfl, Nat.le_of_ble_eq_true rfl⟩) hP hD hK hS hA [0] [] rfl rfl (by decide) (by decide) (fun r2 _ H locs er2 hP hD hK hS => ?_)
  have er2 : r2 = 0 := er2
  subst er2
  have hK : va_K D cl [] s := hK
  have hP : va_P D cl [(gr, .inr (2, [.ref gc, .ref gf, .ref gp, .ref gb, .ref gl, .int 0]))] H := hP
  have hD : va_D A [(gr, .inr (2, [.ref gc, .ref gf, .ref gp, .ref gb, .ref gl, .int 0]))] := hD
  have hPc := hP.sub (ws' := [(gr, .inr (2, [.ref gc, .ref gf, .ref gp, .ref gb, .ref gl, .int 0]))]) [0] rfl
  have hDc := hD.sub (ws' := [(gr, .inr (2, [.ref gc, .ref gf, .ref gp, .ref gb, .ref gl, .int 0]))]) [0] (by decide) rfl
  have hKc := hK.sub (tys' := []) [] rfl
  refine xgi (wsC := [(gr, .inr (2, [.ref gc, .ref gf, .ref gp, .ref gb, .ref gl, .int 0]))]) (wr := []) (va_runV (As := [.int 0]) (rest := [.int 0]) ⟨hx, hb, hml, hown, hts⟩ (c_Gr_makersOf l  D gr gc gf gp gb gl 0 _ ) ⟨(callB_of 1 hts (x_good k_Gr_makersOf) rfl rfl rfl (hts _ (List.mem_cons_of_mem _ tw_3)) (hts _ (List.mem_cons_of_mem _ tw_464)) (by decide +kernel) ⟨Nat.le_of_ble_eq_true rfl, Nat.le_of_ble_eq_true rfl⟩), (hts _ (List.mem_cons_of_mem _ tw_466)), (hts _ (List.mem_cons_of_mem _ (x_sel 24 rfl)))⟩ (xP_V (va_recv (ci := 2) (q0 := 0) hK hP rfl rfl) hPc hKc hDc hAm hTh hAs hS) rfl rfl hl.1 rfl (lv_room (Nat.le_of_ble_eq_true rfl)) d_Gr_reachedFrom_21 ⟨Nat.le_of_ble_eq_true rfl, Nat.le_of_ble_eq_true rfl⟩) hP hD hK hS hA [0] [] rfl rfl (by decide) (by decide) (fun r3 _ H locs er3 hP hD hK hS => ?_)
  have er3 : r3 = 0 := er3
  subst er3
  have hK : va_K D cl [] s := hK
  have hP : va_P D cl [(gr, .inr (2, [.ref gc, .ref gf, .ref gp, .ref gb, .ref gl, .int 0]))] H := hP
  have hD : va_D A [(gr, .inr (2, [.ref gc, .ref gf, .ref gp, .ref gb, .ref gl, .int 0]))] := hD
  refine lv_ior hx hb d_Gr_reachedFrom_24 ?_
  refine xnum (v := 0) (by decide) ?_
  refine lv_istore_n hx hb d_Gr_reachedFrom_25 rfl hl (by decide) rfl (fun ls hl => ?_)
  have hl : lv_has ls 4 [(2, .int 0), (3, .int 0), (0, .ref gr), (1, .int x)] := hl
  refine lv_iinc (k := 1) (v := 1) hx hb d_Gr_reachedFrom_26 hl rfl (by decide) (by decide) rfl (fun ls hl => ?_)
  have hl : lv_has ls 4 [(3, .int 1), (2, .int 0), (0, .ref gr), (1, .int x)] := hl
  refine lv_goto (tgt := 8) hx hb d_Gr_reachedFrom_29 (by decide) ?_
  refine lv_iload_n hx hb d_Gr_reachedFrom_8 rfl (lv_at hl 0 rfl) ?_
  refine lv_bipush (v := 12) hx hb d_Gr_reachedFrom_9 (by decide) ?_
  refine lv_icmp_ge (tgt := 32) hx hb d_Gr_reachedFrom_11 (by decide) (fun b11 => absurd b11 (by decide)) (fun b11 => ?_)
  refine lv_iload_n hx hb d_Gr_reachedFrom_14 rfl (lv_at hl 1 rfl) ?_
  refine lv_aload_n hx hb d_Gr_reachedFrom_15 rfl (lv_at hl 2 rfl) ?_
  refine lv_aload_n hx hb d_Gr_reachedFrom_16 rfl (lv_at hl 2 rfl) ?_
  refine lv_iload_n hx hb d_Gr_reachedFrom_17 rfl (lv_at hl 1 rfl) ?_
  have hPc := hP.sub (ws' := [(gr, .inr (2, [.ref gc, .ref gf, .ref gp, .ref gb, .ref gl, .int 0]))]) [0] rfl
  have hDc := hD.sub (ws' := [(gr, .inr (2, [.ref gc, .ref gf, .ref gp, .ref gb, .ref gl, .int 0]))]) [0] (by decide) rfl
  have hKc := hK.sub (tys' := []) [] rfl
  refine xgi (wsC := [(gr, .inr (2, [.ref gc, .ref gf, .ref gp, .ref gb, .ref gl, .int 0]))]) (wr := []) (va_runV (As := [.int 0]) (rest := [.ref gr, .int 0]) ⟨hx, hb, hml, hown, hts⟩ (c_Gr_waitedForBy l  D gr gc gf gp gb gl 0 _ ) ⟨(callB_of 1 hts (x_good k_Gr_waitedForBy) rfl rfl rfl (hts _ (List.mem_cons_of_mem _ tw_3)) (hts _ (List.mem_cons_of_mem _ tw_468)) (by decide +kernel) ⟨Nat.le_of_ble_eq_true rfl, Nat.le_of_ble_eq_true rfl⟩), (hts _ (List.mem_cons_of_mem _ tw_470)), (hts _ (List.mem_cons_of_mem _ (x_sel 25 rfl)))⟩ (xP_V (va_recv (ci := 2) (q0 := 0) hK hP rfl rfl) hPc hKc hDc hAm hTh hAs hS) rfl rfl hl.1 rfl (lv_room (Nat.le_of_ble_eq_true rfl)) d_Gr_reachedFrom_18 ⟨Nat.le_of_ble_eq_true rfl, Nat.le_of_ble_eq_true rfl⟩) hP hD hK hS hA [0] [] rfl rfl (by decide) (by decide) (fun r4 _ H locs er4 hP hD hK hS => ?_)
  have er4 : r4 = 0 := er4
  subst er4
  have hK : va_K D cl [] s := hK
  have hP : va_P D cl [(gr, .inr (2, [.ref gc, .ref gf, .ref gp, .ref gb, .ref gl, .int 0]))] H := hP
  have hD : va_D A [(gr, .inr (2, [.ref gc, .ref gf, .ref gp, .ref gb, .ref gl, .int 0]))] := hD
  have hPc := hP.sub (ws' := [(gr, .inr (2, [.ref gc, .ref gf, .ref gp, .ref gb, .ref gl, .int 0]))]) [0] rfl
  have hDc := hD.sub (ws' := [(gr, .inr (2, [.ref gc, .ref gf, .ref gp, .ref gb, .ref gl, .int 0]))]) [0] (by decide) rfl
  have hKc := hK.sub (tys' := []) [] rfl
  refine xgi (wsC := [(gr, .inr (2, [.ref gc, .ref gf, .ref gp, .ref gb, .ref gl, .int 0]))]) (wr := []) (va_runV (As := [.int 0]) (rest := [.int 0]) ⟨hx, hb, hml, hown, hts⟩ (c_Gr_makersOf l  D gr gc gf gp gb gl 0 _ ) ⟨(callB_of 1 hts (x_good k_Gr_makersOf) rfl rfl rfl (hts _ (List.mem_cons_of_mem _ tw_3)) (hts _ (List.mem_cons_of_mem _ tw_464)) (by decide +kernel) ⟨Nat.le_of_ble_eq_true rfl, Nat.le_of_ble_eq_true rfl⟩), (hts _ (List.mem_cons_of_mem _ tw_466)), (hts _ (List.mem_cons_of_mem _ (x_sel 24 rfl)))⟩ (xP_V (va_recv (ci := 2) (q0 := 0) hK hP rfl rfl) hPc hKc hDc hAm hTh hAs hS) rfl rfl hl.1 rfl (lv_room (Nat.le_of_ble_eq_true rfl)) d_Gr_reachedFrom_21 ⟨Nat.le_of_ble_eq_true rfl, Nat.le_of_ble_eq_true rfl⟩) hP hD hK hS hA [0] [] rfl rfl (by decide) (by decide) (fun r5 _ H locs er5 hP hD hK hS => ?_)
  have er5 : r5 = 0 := er5
  subst er5
  have hK : va_K D cl [] s := hK
  have hP : va_P D cl [(gr, .inr (2, [.ref gc, .ref gf, .ref gp, .ref gb, .ref gl, .int 0]))] H := hP
  have hD : va_D A [(gr, .inr (2, [.ref gc, .ref gf, .ref gp, .ref gb, .ref gl, .int 0]))] := hD
  refine lv_ior hx hb d_Gr_reachedFrom_24 ?_
  refine xnum (v := 0) (by decide) ?_
  refine lv_istore_n hx hb d_Gr_reachedFrom_25 rfl hl (by decide) rfl (fun ls hl => ?_)
  have hl : lv_has ls 4 [(2, .int 0), (3, .int 1), (0, .ref gr), (1, .int x)] := hl
  refine lv_iinc (k := 1) (v := 2) hx hb d_Gr_reachedFrom_26 hl rfl (by decide) (by decide) rfl (fun ls hl => ?_)
  have hl : lv_has ls 4 [(3, .int 2), (2, .int 0), (0, .ref gr), (1, .int x)] := hl
  refine lv_goto (tgt := 8) hx hb d_Gr_reachedFrom_29 (by decide) ?_
  refine lv_iload_n hx hb d_Gr_reachedFrom_8 rfl (lv_at hl 0 rfl) ?_
  refine lv_bipush (v := 12) hx hb d_Gr_reachedFrom_9 (by decide) ?_
  refine lv_icmp_ge (tgt := 32) hx hb d_Gr_reachedFrom_11 (by decide) (fun b11 => absurd b11 (by decide)) (fun b11 => ?_)
  refine lv_iload_n hx hb d_Gr_reachedFrom_14 rfl (lv_at hl 1 rfl) ?_
  refine lv_aload_n hx hb d_Gr_reachedFrom_15 rfl (lv_at hl 2 rfl) ?_
  refine lv_aload_n hx hb d_Gr_reachedFrom_16 rfl (lv_at hl 2 rfl) ?_
  refine lv_iload_n hx hb d_Gr_reachedFrom_17 rfl (lv_at hl 1 rfl) ?_
  have hPc := hP.sub (ws' := [(gr, .inr (2, [.ref gc, .ref gf, .ref gp, .ref gb, .ref gl, .int 0]))]) [0] rfl
  have hDc := hD.sub (ws' := [(gr, .inr (2, [.ref gc, .ref gf, .ref gp, .ref gb, .ref gl, .int 0]))]) [0] (by decide) rfl
  have hKc := hK.sub (tys' := []) [] rfl
  refine xgi (wsC := [(gr, .inr (2, [.ref gc, .ref gf, .ref gp, .ref gb, .ref gl, .int 0]))]) (wr := []) (va_runV (As := [.int 0]) (rest := [.ref gr, .int 0]) ⟨hx, hb, hml, hown, hts⟩ (c_Gr_waitedForBy l  D gr gc gf gp gb gl 0 _ ) ⟨(callB_of 1 hts (x_good k_Gr_waitedForBy) rfl rfl rfl (hts _ (List.mem_cons_of_mem _ tw_3)) (hts _ (List.mem_cons_of_mem _ tw_468)) (by decide +kernel) ⟨Nat.le_of_ble_eq_true rfl, Nat.le_of_ble_eq_true rfl⟩), (hts _ (List.mem_cons_of_mem _ tw_470)), (hts _ (List.mem_cons_of_mem _ (x_sel 25 rfl)))⟩ (xP_V (va_recv (ci := 2) (q0 := 0) hK hP rfl rfl) hPc hKc hDc hAm hTh hAs hS) rfl rfl hl.1 rfl (lv_room (Nat.le_of_ble_eq_true rfl)) d_Gr_reachedFrom_18 ⟨Nat.le_of_ble_eq_true rfl, Nat.le_of_ble_eq_true rfl⟩) hP hD hK hS hA [0] [] rfl rfl (by decide) (by decide) (fun r6 _ H locs er6 hP hD hK hS => ?_)
  have er6 : r6 = 0 := er6
  subst er6
  have hK : va_K D cl [] s := hK
  have hP : va_P D cl [(gr, .inr (2, [.ref gc, .ref gf, .ref gp, .ref gb, .ref gl, .int 0]))] H := hP
  have hD : va_D A [(gr, .inr (2, [.ref gc, .ref gf, .ref gp, .ref gb, .ref gl, .int 0]))] := hD
  have hPc := hP.sub (ws' := [(gr, .inr (2, [.ref gc, .ref gf, .ref gp, .ref gb, .ref gl, .int 0]))]) [0] rfl
  have hDc := hD.sub (ws' := [(gr, .inr (2, [.ref gc, .ref gf, .ref gp, .ref gb, .ref gl, .int 0]))]) [0] (by decide) rfl
  have hKc := hK.sub (tys' := []) [] rfl
  refine xgi (wsC := [(gr, .inr (2, [.ref gc, .ref gf, .ref gp, .ref gb, .ref gl, .int 0]))]) (wr := []) (va_runV (As := [.int 0]) (rest := [.int 0]) ⟨hx, hb, hml, hown, hts⟩ (c_Gr_makersOf l  D gr gc gf gp gb gl 0 _ ) ⟨(callB_of 1 hts (x_good k_Gr_makersOf) rfl rfl rfl (hts _ (List.mem_cons_of_mem _ tw_3)) (hts _ (List.mem_cons_of_mem _ tw_464)) (by decide +kernel) ⟨Nat.le_of_ble_eq_true rfl, Nat.le_of_ble_eq_true rfl⟩), (hts _ (List.mem_cons_of_mem _ tw_466)), (hts _ (List.mem_cons_of_mem _ (x_sel 24 rfl)))⟩ (xP_V (va_recv (ci := 2) (q0 := 0) hK hP rfl rfl) hPc hKc hDc hAm hTh hAs hS) rfl rfl hl.1 rfl (lv_room (Nat.le_of_ble_eq_true rfl)) d_Gr_reachedFrom_21 ⟨Nat.le_of_ble_eq_true rfl, Nat.le_of_ble_eq_true rfl⟩) hP hD hK hS hA [0] [] rfl rfl (by decide) (by decide) (fun r7 _ H locs er7 hP hD hK hS => ?_)
  have er7 : r7 = 0 := er7
  subst er7
  have hK : va_K D cl [] s := hK
  have hP : va_P D cl [(gr, .inr (2, [.ref gc, .ref gf, .ref gp, .ref gb, .ref gl, .int 0]))] H := hP
  have hD : va_D A [(gr, .inr (2, [.ref gc, .ref gf, .ref gp, .ref gb, .ref gl, .int 0]))] := hD
  refine lv_ior hx hb d_Gr_reachedFrom_24 ?_
  refine xnum (v := 0) (by decide) ?_
  refine lv_istore_n hx hb d_Gr_reachedFrom_25 rfl hl (by decide) rfl (fun ls hl => ?_)
  have hl : lv_has ls 4 [(2, .int 0), (3, .int 2), (0, .ref gr), (1, .int x)] := hl
  refine lv_iinc (k := 1) (v := 3) hx hb d_Gr_reachedFrom_26 hl rfl (by decide) (by decide) rfl (fun ls hl => ?_)
  have hl : lv_has ls 4 [(3, .int 3), (2, .int 0), (0, .ref gr), (1, .int x)] := hl
  refine lv_goto (tgt := 8) hx hb d_Gr_reachedFrom_29 (by decide) ?_
  refine lv_iload_n hx hb d_Gr_reachedFrom_8 rfl (lv_at hl 0 rfl) ?_
  refine lv_bipush (v := 12) hx hb d_Gr_reachedFrom_9 (by decide) ?_
  refine lv_icmp_ge (tgt := 32) hx hb d_Gr_reachedFrom_11 (by decide) (fun b11 => absurd b11 (by decide)) (fun b11 => ?_)
  refine lv_iload_n hx hb d_Gr_reachedFrom_14 rfl (lv_at hl 1 rfl) ?_
  refine lv_aload_n hx hb d_Gr_reachedFrom_15 rfl (lv_at hl 2 rfl) ?_
  refine lv_aload_n hx hb d_Gr_reachedFrom_16 rfl (lv_at hl 2 rfl) ?_
  refine lv_iload_n hx hb d_Gr_reachedFrom_17 rfl (lv_at hl 1 rfl) ?_
  have hPc := hP.sub (ws' := [(gr, .inr (2, [.ref gc, .ref gf, .ref gp, .ref gb, .ref gl, .int 0]))]) [0] rfl
  have hDc := hD.sub (ws' := [(gr, .inr (2, [.ref gc, .ref gf, .ref gp, .ref gb, .ref gl, .int 0]))]) [0] (by decide) rfl
  have hKc := hK.sub (tys' := []) [] rfl
  refine xgi (wsC := [(gr, .inr (2, [.ref gc, .ref gf, .ref gp, .ref gb, .ref gl, .int 0]))]) (wr := []) (va_runV (As := [.int 0]) (rest := [.ref gr, .int 0]) ⟨hx, hb, hml, hown, hts⟩ (c_Gr_waitedForBy l  D gr gc gf gp gb gl 0 _ ) ⟨(callB_of 1 hts (x_good k_Gr_waitedForBy) rfl rfl rfl (hts _ (List.mem_cons_of_mem _ tw_3)) (hts _ (List.mem_cons_of_mem _ tw_468)) (by decide +kernel) ⟨Nat.le_of_ble_eq_true rfl, Nat.le_of_ble_eq_true rfl⟩), (hts _ (List.mem_cons_of_mem _ tw_470)), (hts _ (List.mem_cons_of_mem _ (x_sel 25 rfl)))⟩ (xP_V (va_recv (ci := 2) (q0 := 0) hK hP rfl rfl) hPc hKc hDc hAm hTh hAs hS) rfl rfl hl.1 rfl (lv_room (Nat.le_of_ble_eq_true rfl)) d_Gr_reachedFrom_18 ⟨Nat.le_of_ble_eq_true rfl, Nat.le_of_ble_eq_true rfl⟩) hP hD hK hS hA [0] [] rfl rfl (by decide) (by decide) (fun r8 _ H locs er8 hP hD hK hS => ?_)
  have er8 : r8 = 0 := er8
  subst er8
  have hK : va_K D cl [] s := hK
  have hP : va_P D cl [(gr, .inr (2, [.ref gc, .ref gf, .ref gp, .ref gb, .ref gl, .int 0]))] H := hP
  have hD : va_D A [(gr, .inr (2, [.ref gc, .ref gf, .ref gp, .ref gb, .ref gl, .int 0]))] := hD
  have hPc := hP.sub (ws' := [(gr, .inr (2, [.ref gc, .ref gf, .ref gp, .ref gb, .ref gl, .int 0]))]) [0] rfl
  have hDc := hD.sub (ws' := [(gr, .inr (2, [.ref gc, .ref gf, .ref gp, .ref gb, .ref gl, .int 0]))]) [0] (by decide) rfl
  have hKc := hK.sub (tys' := []) [] rfl
  refine xgi (wsC := [(gr, .inr (2, [.ref gc, .ref gf, .ref gp, .ref gb, .ref gl, .int 0]))]) (wr := []) (va_runV (As := [.int 0]) (rest := [.int 0]) ⟨hx, hb, hml, hown, hts⟩ (c_Gr_makersOf l  D gr gc gf gp gb gl 0 _ ) ⟨(callB_of 1 hts (x_good k_Gr_makersOf) rfl rfl rfl (hts _ (List.mem_cons_of_mem _ tw_3)) (hts _ (List.mem_cons_of_mem _ tw_464)) (by decide +kernel) ⟨Nat.le_of_ble_eq_true rfl, Nat.le_of_ble_eq_true rfl⟩), (hts _ (List.mem_cons_of_mem _ tw_466)), (hts _ (List.mem_cons_of_mem _ (x_sel 24 rfl)))⟩ (xP_V (va_recv (ci := 2) (q0 := 0) hK hP rfl rfl) hPc hKc hDc hAm hTh hAs hS) rfl rfl hl.1 rfl (lv_room (Nat.le_of_ble_eq_true rfl)) d_Gr_reachedFrom_21 ⟨Nat.le_of_ble_eq_true rfl, Nat.le_of_ble_eq_true rfl⟩) hP hD hK hS hA [0] [] rfl rfl (by decide) (by decide) (fun r9 _ H locs er9 hP hD hK hS => ?_)
  have er9 : r9 = 0 := er9
  subst er9
  have hK : va_K D cl [] s := hK
  have hP : va_P D cl [(gr, .inr (2, [.ref gc, .ref gf, .ref gp, .ref gb, .ref gl, .int 0]))] H := hP
  have hD : va_D A [(gr, .inr (2, [.ref gc, .ref gf, .ref gp, .ref gb, .ref gl, .int 0]))] := hD
  refine lv_ior hx hb d_Gr_reachedFrom_24 ?_
  refine xnum (v := 0) (by decide) ?_
  refine lv_istore_n hx hb d_Gr_reachedFrom_25 rfl hl (by decide) rfl (fun ls hl => ?_)
  have hl : lv_has ls 4 [(2, .int 0), (3, .int 3), (0, .ref gr), (1, .int x)] := hl
  refine lv_iinc (k := 1) (v := 4) hx hb d_Gr_reachedFrom_26 hl rfl (by decide) (by decide) rfl (fun ls hl => ?_)
  have hl : lv_has ls 4 [(3, .int 4), (2, .int 0), (0, .ref gr), (1, .int x)] := hl
  refine lv_goto (tgt := 8) hx hb d_Gr_reachedFrom_29 (by decide) ?_
  refine lv_iload_n hx hb d_Gr_reachedFrom_8 rfl (lv_at hl 0 rfl) ?_
  refine lv_bipush (v := 12) hx hb d_Gr_reachedFrom_9 (by decide) ?_
  refine lv_icmp_ge (tgt := 32) hx hb d_Gr_reachedFrom_11 (by decide) (fun b11 => absurd b11 (by decide)) (fun b11 => ?_)
  refine lv_iload_n hx hb d_Gr_reachedFrom_14 rfl (lv_at hl 1 rfl) ?_
  refine lv_aload_n hx hb d_Gr_reachedFrom_15 rfl (lv_at hl 2 rfl) ?_
  refine lv_aload_n hx hb d_Gr_reachedFrom_16 rfl (lv_at hl 2 rfl) ?_
  refine lv_iload_n hx hb d_Gr_reachedFrom_17 rfl (lv_at hl 1 rfl) ?_
  have hPc := hP.sub (ws' := [(gr, .inr (2, [.ref gc, .ref gf, .ref gp, .ref gb, .ref gl, .int 0]))]) [0] rfl
  have hDc := hD.sub (ws' := [(gr, .inr (2, [.ref gc, .ref gf, .ref gp, .ref gb, .ref gl, .int 0]))]) [0] (by decide) rfl
  have hKc := hK.sub (tys' := []) [] rfl
  refine xgi (wsC := [(gr, .inr (2, [.ref gc, .ref gf, .ref gp, .ref gb, .ref gl, .int 0]))]) (wr := []) (va_runV (As := [.int 0]) (rest := [.ref gr, .int 0]) ⟨hx, hb, hml, hown, hts⟩ (c_Gr_waitedForBy l  D gr gc gf gp gb gl 0 _ ) ⟨(callB_of 1 hts (x_good k_Gr_waitedForBy) rfl rfl rfl (hts _ (List.mem_cons_of_mem _ tw_3)) (hts _ (List.mem_cons_of_mem _ tw_468)) (by decide +kernel) ⟨Nat.le_of_ble_eq_true rfl, Nat.le_of_ble_eq_true rfl⟩), (hts _ (List.mem_cons_of_mem _ tw_470)), (hts _ (List.mem_cons_of_mem _ (x_sel 25 rfl)))⟩ (xP_V (va_recv (ci := 2) (q0 := 0) hK hP rfl rfl) hPc hKc hDc hAm hTh hAs hS) rfl rfl hl.1 rfl (lv_room (Nat.le_of_ble_eq_true rfl)) d_Gr_reachedFrom_18 ⟨Nat.le_of_ble_eq_true rfl, Nat.le_of_ble_eq_true rfl⟩) hP hD hK hS hA [0] [] rfl rfl (by decide) (by decide) (fun r10 _ H locs er10 hP hD hK hS => ?_)
  have er10 : r10 = 0 := er10
  subst er10
  have hK : va_K D cl [] s := hK
  have hP : va_P D cl [(gr, .inr (2, [.ref gc, .ref gf, .ref gp, .ref gb, .ref gl, .int 0]))] H := hP
  have hD : va_D A [(gr, .inr (2, [.ref gc, .ref gf, .ref gp, .ref gb, .ref gl, .int 0]))] := hD
  have hPc := hP.sub (ws' := [(gr, .inr (2, [.ref gc, .ref gf, .ref gp, .ref gb, .ref gl, .int 0]))]) [0] rfl
  have hDc := hD.sub (ws' := [(gr, .inr (2, [.ref gc, .ref gf, .ref gp, .ref gb, .ref gl, .int 0]))]) [0] (by decide) rfl
  have hKc := hK.sub (tys' := []) [] rfl
  refine xgi (wsC := [(gr, .inr (2, [.ref gc, .ref gf, .ref gp, .ref gb, .ref gl, .int 0]))]) (wr := []) (va_runV (As := [.int 0]) (rest := [.int 0]) ⟨hx, hb, hml, hown, hts⟩ (c_Gr_makersOf l  D gr gc gf gp gb gl 0 _ ) ⟨(callB_of 1 hts (x_good k_Gr_makersOf) rfl rfl rfl (hts _ (List.mem_cons_of_mem _ tw_3)) (hts _ (List.mem_cons_of_mem _ tw_464)) (by decide +kernel) ⟨Nat.le_of_ble_eq_true rfl, Nat.le_of_ble_eq_true rfl⟩), (hts _ (List.mem_cons_of_mem _ tw_466)), (hts _ (List.mem_cons_of_mem _ (x_sel 24 rfl)))⟩ (xP_V (va_recv (ci := 2) (q0 := 0) hK hP rfl rfl) hPc hKc hDc hAm hTh hAs hS) rfl rfl hl.1 rfl (lv_room (Nat.le_of_ble_eq_true rfl)) d_Gr_reachedFrom_21 ⟨Nat.le_of_ble_eq_true rfl, Nat.le_of_ble_eq_true rfl⟩) hP hD hK hS hA [0] [] rfl rfl (by decide) (by decide) (fun r11 _ H locs er11 hP hD hK hS => ?_)
  have er11 : r11 = 0 := er11
  subst er11
  have hK : va_K D cl [] s := hK
  have hP : va_P D cl [(gr, .inr (2, [.ref gc, .ref gf, .ref gp, .ref gb, .ref gl, .int 0]))] H := hP
  have hD : va_D A [(gr, .inr (2, [.ref gc, .ref gf, .ref gp, .ref gb, .ref gl, .int 0]))] := hD
  refine lv_ior hx hb d_Gr_reachedFrom_24 ?_
  refine xnum (v := 0) (by decide) ?_
  refine lv_istore_n hx hb d_Gr_reachedFrom_25 rfl hl (by decide) rfl (fun ls hl => ?_)
  have hl : lv_has ls 4 [(2, .int 0), (3, .int 4), (0, .ref gr), (1, .int x)] := hl
  refine lv_iinc (k := 1) (v := 5) hx hb d_Gr_reachedFrom_26 hl rfl (by decide) (by decide) rfl (fun ls hl => ?_)
  have hl : lv_has ls 4 [(3, .int 5), (2, .int 0), (0, .ref gr), (1, .int x)] := hl
  refine lv_goto (tgt := 8) hx hb d_Gr_reachedFrom_29 (by decide) ?_
  refine lv_iload_n hx hb d_Gr_reachedFrom_8 rfl (lv_at hl 0 rfl) ?_
  refine lv_bipush (v := 12) hx hb d_Gr_reachedFrom_9 (by decide) ?_
  refine lv_icmp_ge (tgt := 32) hx hb d_Gr_reachedFrom_11 (by decide) (fun b11 => absurd b11 (by decide)) (fun b11 => ?_)
  refine lv_iload_n hx hb d_Gr_reachedFrom_14 rfl (lv_at hl 1 rfl) ?_
  refine lv_aload_n hx hb d_Gr_reachedFrom_15 rfl (lv_at hl 2 rfl) ?_
  refine lv_aload_n hx hb d_Gr_reachedFrom_16 rfl (lv_at hl 2 rfl) ?_
  refine lv_iload_n hx hb d_Gr_reachedFrom_17 rfl (lv_at hl 1 rfl) ?_
  have hPc := hP.sub (ws' := [(gr, .inr (2, [.ref gc, .ref gf, .ref gp, .ref gb, .ref gl, .int 0]))]) [0] rfl
  have hDc := hD.sub (ws' := [(gr, .inr (2, [.ref gc, .ref gf, .ref gp, .ref gb, .ref gl, .int 0]))]) [0] (by decide) rfl
  have hKc := hK.sub (tys' := []) [] rfl
  refine xgi (wsC := [(gr, .inr (2, [.ref gc, .ref gf, .ref gp, .ref gb, .ref gl, .int 0]))]) (wr := []) (va_runV (As := [.int 0]) (rest := [.ref gr, .int 0]) ⟨hx, hb, hml, hown, hts⟩ (c_Gr_waitedForBy l  D gr gc gf gp gb gl 0 _ ) ⟨(callB_of 1 hts (x_good k_Gr_waitedForBy) rfl rfl rfl (hts _ (List.mem_cons_of_mem _ tw_3)) (hts _ (List.mem_cons_of_mem _ tw_468)) (by decide +kernel) ⟨Nat.le_of_ble_eq_true rfl, Nat.le_of_ble_eq_true rfl⟩), (hts _ (List.mem_cons_of_mem _ tw_470)), (hts _ (List.mem_cons_of_mem _ (x_sel 25 rfl)))⟩ (xP_V (va_recv (ci := 2) (q0 := 0) hK hP rfl rfl) hPc hKc hDc hAm hTh hAs hS) rfl rfl hl.1 rfl (lv_room (Nat.le_of_ble_eq_true rfl)) d_Gr_reachedFrom_18 ⟨Nat.le_of_ble_eq_true rfl, Nat.le_of_ble_eq_true rfl⟩) hP hD hK hS hA [0] [] rfl rfl (by decide) (by decide) (fun r12 _ H locs er12 hP hD hK hS => ?_)
  have er12 : r12 = 0 := er12
  subst er12
  have hK : va_K D cl [] s := hK
  have hP : va_P D cl [(gr, .inr (2, [.ref gc, .ref gf, .ref gp, .ref gb, .ref gl, .int 0]))] H := hP
  have hD : va_D A [(gr, .inr (2, [.ref gc, .ref gf, .ref gp, .ref gb, .ref gl, .int 0]))] := hD
  have hPc := hP.sub (ws' := [(gr, .inr (2, [.ref gc, .ref gf, .ref gp, .ref gb, .ref gl, .int 0]))]) [0] rfl
  have hDc := hD.sub (ws' := [(gr, .inr (2, [.ref gc, .ref gf, .ref gp, .ref gb, .ref gl, .int 0]))]) [0] (by decide) rfl
  have hKc := hK.sub (tys' := []) [] rfl
  refine xgi (wsC := [(gr, .inr (2, [.ref gc, .ref gf, .ref gp, .ref gb, .ref gl, .int 0]))]) (wr := []) (va_runV (As := [.int 0]) (rest := [.int 0]) ⟨hx, hb, hml, hown, hts⟩ (c_Gr_makersOf l  D gr gc gf gp gb gl 0 _ ) ⟨(callB_of 1 hts (x_good k_Gr_makersOf) rfl rfl rfl (hts _ (List.mem_cons_of_mem _ tw_3)) (hts _ (List.mem_cons_of_mem _ tw_464)) (by decide +kernel) ⟨Nat.le_of_ble_eq_true rfl, Nat.le_of_ble_eq_true rfl⟩), (hts _ (List.mem_cons_of_mem _ tw_466)), (hts _ (List.mem_cons_of_mem _ (x_sel 24 rfl)))⟩ (xP_V (va_recv (ci := 2) (q0 := 0) hK hP rfl rfl) hPc hKc hDc hAm hTh hAs hS) rfl rfl hl.1 rfl (lv_room (Nat.le_of_ble_eq_true rfl)) d_Gr_reachedFrom_21 ⟨Nat.le_of_ble_eq_true rfl, Nat.le_of_ble_eq_true rfl⟩) hP hD hK hS hA [0] [] rfl rfl (by decide) (by decide) (fun r13 _ H locs er13 hP hD hK hS => ?_)
  have er13 : r13 = 0 := er13
  subst er13
  have hK : va_K D cl [] s := hK
  have hP : va_P D cl [(gr, .inr (2, [.ref gc, .ref gf, .ref gp, .ref gb, .ref gl, .int 0]))] H := hP
  have hD : va_D A [(gr, .inr (2, [.ref gc, .ref gf, .ref gp, .ref gb, .ref gl, .int 0]))] := hD
  refine lv_ior hx hb d_Gr_reachedFrom_24 ?_
  refine xnum (v := 0) (by decide) ?_
  refine lv_istore_n hx hb d_Gr_reachedFrom_25 rfl hl (by decide) rfl (fun ls hl => ?_)
  have hl : lv_has ls 4 [(2, .int 0), (3, .int 5), (0, .ref gr), (1, .int x)] := hl
  refine lv_iinc (k := 1) (v := 6) hx hb d_Gr_reachedFrom_26 hl rfl (by decide) (by decide) rfl (fun ls hl => ?_)
  have hl : lv_has ls 4 [(3, .int 6), (2, .int 0), (0, .ref gr), (1, .int x)] := hl
  refine lv_goto (tgt := 8) hx hb d_Gr_reachedFrom_29 (by decide) ?_
  refine lv_iload_n hx hb d_Gr_reachedFrom_8 rfl (lv_at hl 0 rfl) ?_
  refine lv_bipush (v := 12) hx hb d_Gr_reachedFrom_9 (by decide) ?_
  refine lv_icmp_ge (tgt := 32) hx hb d_Gr_reachedFrom_11 (by decide) (fun b11 => absurd b11 (by decide)) (fun b11 => ?_)
  refine lv_iload_n hx hb d_Gr_reachedFrom_14 rfl (lv_at hl 1 rfl) ?_
  refine lv_aload_n hx hb d_Gr_reachedFrom_15 rfl (lv_at hl 2 rfl) ?_
  refine lv_aload_n hx hb d_Gr_reachedFrom_16 rfl (lv_at hl 2 rfl) ?_
  refine lv_iload_n hx hb d_Gr_reachedFrom_17 rfl (lv_at hl 1 rfl) ?_
  have hPc := hP.sub (ws' := [(gr, .inr (2, [.ref gc, .ref gf, .ref gp, .ref gb, .ref gl, .int 0]))]) [0] rfl
  have hDc := hD.sub (ws' := [(gr, .inr (2, [.ref gc, .ref gf, .ref gp, .ref gb, .ref gl, .int 0]))]) [0] (by decide) rfl
  have hKc := hK.sub (tys' := []) [] rfl
  refine xgi (wsC := [(gr, .inr (2, [.ref gc, .ref gf, .ref gp, .ref gb, .ref gl, .int 0]))]) (wr := []) (va_runV (As := [.int 0]) (rest := [.ref gr, .int 0]) ⟨hx, hb, hml, hown, hts⟩ (c_Gr_waitedForBy l  D gr gc gf gp gb gl 0 _ ) ⟨(callB_of 1 hts (x_good k_Gr_waitedForBy) rfl rfl rfl (hts _ (List.mem_cons_of_mem _ tw_3)) (hts _ (List.mem_cons_of_mem _ tw_468)) (by decide +kernel) ⟨Nat.le_of_ble_eq_true rfl, Nat.le_of_ble_eq_true rfl⟩), (hts _ (List.mem_cons_of_mem _ tw_470)), (hts _ (List.mem_cons_of_mem _ (x_sel 25 rfl)))⟩ (xP_V (va_recv (ci := 2) (q0 := 0) hK hP rfl rfl) hPc hKc hDc hAm hTh hAs hS) rfl rfl hl.1 rfl (lv_room (Nat.le_of_ble_eq_true rfl)) d_Gr_reachedFrom_18 ⟨Nat.le_of_ble_eq_true rfl, Nat.le_of_ble_eq_true rfl⟩) hP hD hK hS hA [0] [] rfl rfl (by decide) (by decide) (fun r14 _ H locs er14 hP hD hK hS => ?_)
  have er14 : r14 = 0 := er14
  subst er14
  have hK : va_K D cl [] s := hK
  have hP : va_P D cl [(gr, .inr (2, [.ref gc, .ref gf, .ref gp, .ref gb, .ref gl, .int 0]))] H := hP
  have hD : va_D A [(gr, .inr (2, [.ref gc, .ref gf, .ref gp, .ref gb, .ref gl, .int 0]))] := hD
  have hPc := hP.sub (ws' := [(gr, .inr (2, [.ref gc, .ref gf, .ref gp, .ref gb, .ref gl, .int 0]))]) [0] rfl
  have hDc := hD.sub (ws' := [(gr, .inr (2, [.ref gc, .ref gf, .ref gp, .ref gb, .ref gl, .int 0]))]) [0] (by decide) rfl
  have hKc := hK.sub (tys' := []) [] rfl
  refine xgi (wsC := [(gr, .inr (2, [.ref gc, .ref gf, .ref gp, .ref gb, .ref gl, .int 0]))]) (wr := []) (va_runV (As := [.int 0]) (rest := [.int 0]) ⟨hx, hb, hml, hown, hts⟩ (c_Gr_makersOf l  D gr gc gf gp gb gl 0 _ ) ⟨(callB_of 1 hts (x_good k_Gr_makersOf) rfl rfl rfl (hts _ (List.mem_cons_of_mem _ tw_3)) (hts _ (List.mem_cons_of_mem _ tw_464)) (by decide +kernel) ⟨Nat.le_of_ble_eq_true rfl, Nat.le_of_ble_eq_true rfl⟩), (hts _ (List.mem_cons_of_mem _ tw_466)), (hts _ (List.mem_cons_of_mem _ (x_sel 24 rfl)))⟩ (xP_V (va_recv (ci := 2) (q0 := 0) hK hP rfl rfl) hPc hKc hDc hAm hTh hAs hS) rfl rfl hl.1 rfl (lv_room (Nat.le_of_ble_eq_true rfl)) d_Gr_reachedFrom_21 ⟨Nat.le_of_ble_eq_true rfl, Nat.le_of_ble_eq_true rfl⟩) hP hD hK hS hA [0] [] rfl rfl (by decide) (by decide) (fun r15 _ H locs er15 hP hD hK hS => ?_)
  have er15 : r15 = 0 := er15
  subst er15
  have hK : va_K D cl [] s := hK
  have hP : va_P D cl [(gr, .inr (2, [.ref gc, .ref gf, .ref gp, .ref gb, .ref gl, .int 0]))] H := hP
  have hD : va_D A [(gr, .inr (2, [.ref gc, .ref gf, .ref gp, .ref gb, .ref gl, .int 0]))] := hD
  refine lv_ior hx hb d_Gr_reachedFrom_24 ?_
  refine xnum (v := 0) (by decide) ?_
  refine lv_istore_n hx hb d_Gr_reachedFrom_25 rfl hl (by decide) rfl (fun ls hl => ?_)
  have hl : lv_has ls 4 [(2, .int 0), (3, .int 6), (0, .ref gr), (1, .int x)] := hl
  refine lv_iinc (k := 1) (v := 7) hx hb d_Gr_reachedFrom_26 hl rfl (by decide) (by decide) rfl (fun ls hl => ?_)
  have hl : lv_has ls 4 [(3, .int 7), (2, .int 0), (0, .ref gr), (1, .int x)] := hl
  refine lv_goto (tgt := 8) hx hb d_Gr_reachedFrom_29 (by decide) ?_
  refine lv_iload_n hx hb d_Gr_reachedFrom_8 rfl (lv_at hl 0 rfl) ?_
  refine lv_bipush (v := 12) hx hb d_Gr_reachedFrom_9 (by decide) ?_
  refine lv_icmp_ge (tgt := 32) hx hb d_Gr_reachedFrom_11 (by decide) (fun b11 => absurd b11 (by decide)) (fun b11 => ?_)
  refine lv_iload_n hx hb d_Gr_reachedFrom_14 rfl (lv_at hl 1 rfl) ?_
  refine lv_aload_n hx hb d_Gr_reachedFrom_15 rfl (lv_at hl 2 rfl) ?_
  refine lv_aload_n hx hb d_Gr_reachedFrom_16 rfl (lv_at hl 2 rfl) ?_
  refine lv_iload_n hx hb d_Gr_reachedFrom_17 rfl (lv_at hl 1 rfl) ?_
  have hPc := hP.sub (ws' := [(gr, .inr (2, [.ref gc, .ref gf, .ref gp, .ref gb, .ref gl, .int 0]))]) [0] rfl
  have hDc := hD.sub (ws' := [(gr, .inr (2, [.ref gc, .ref gf, .ref gp, .ref gb, .ref gl, .int 0]))]) [0] (by decide) rfl
  have hKc := hK.sub (tys' := []) [] rfl
  refine xgi (wsC := [(gr, .inr (2, [.ref gc, .ref gf, .ref gp, .ref gb, .ref gl, .int 0]))]) (wr := []) (va_runV (As := [.int 0]) (rest := [.ref gr, .int 0]) ⟨hx, hb, hml, hown, hts⟩ (c_Gr_waitedForBy l  D gr gc gf gp gb gl 0 _ ) ⟨(callB_of 1 hts (x_good k_Gr_waitedForBy) rfl rfl rfl (hts _ (List.mem_cons_of_mem _ tw_3)) (hts _ (List.mem_cons_of_mem _ tw_468)) (by decide +kernel) ⟨Nat.le_of_ble_eq_true rfl, Nat.le_of_ble_eq_true rfl⟩), (hts _ (List.mem_cons_of_mem _ tw_470)), (hts _ (List.mem_cons_of_mem _ (x_sel 25 rfl)))⟩ (xP_V (va_recv (ci := 2) (q0 := 0) hK hP rfl rfl) hPc hKc hDc hAm hTh hAs hS) rfl rfl hl.1 rfl (lv_room (Nat.le_of_ble_eq_true rfl)) d_Gr_reachedFrom_18 ⟨Nat.le_of_ble_eq_true rfl, Nat.le_of_ble_eq_true rfl⟩) hP hD hK hS hA [0] [] rfl rfl (by decide) (by decide) (fun r16 _ H locs er16 hP hD hK hS => ?_)
  have er16 : r16 = 0 := er16
  subst er16
  have hK : va_K D cl [] s := hK
  have hP : va_P D cl [(gr, .inr (2, [.ref gc, .ref gf, .ref gp, .ref gb, .ref gl, .int 0]))] H := hP
  have hD : va_D A [(gr, .inr (2, [.ref gc, .ref gf, .ref gp, .ref gb, .ref gl, .int 0]))] := hD
  have hPc := hP.sub (ws' := [(gr, .inr (2, [.ref gc, .ref gf, .ref gp, .ref gb, .ref gl, .int 0]))]) [0] rfl
  have hDc := hD.sub (ws' := [(gr, .inr (2, [.ref gc, .ref gf, .ref gp, .ref gb, .ref gl, .int 0]))]) [0] (by decide) rfl
  have hKc := hK.sub (tys' := []) [] rfl
  refine xgi (wsC := [(gr, .inr (2, [.ref gc, .ref gf, .ref gp, .ref gb, .ref gl, .int 0]))]) (wr := []) (va_runV (As := [.int 0]) (rest := [.int 0]) ⟨hx, hb, hml, hown, hts⟩ (c_Gr_makersOf l  D gr gc gf gp gb gl 0 _ ) ⟨(callB_of 1 hts (x_good k_Gr_makersOf) rfl rfl rfl (hts _ (List.mem_cons_of_mem _ tw_3)) (hts _ (List.mem_cons_of_mem _ tw_464)) (by decide +kernel) ⟨Nat.le_of_ble_eq_true rfl, Nat.le_of_ble_eq_true rfl⟩), (hts _ (List.mem_cons_of_mem _ tw_466)), (hts _ (List.mem_cons_of_mem _ (x_sel 24 rfl)))⟩ (xP_V (va_recv (ci := 2) (q0 := 0) hK hP rfl rfl) hPc hKc hDc hAm hTh hAs hS) rfl rfl hl.1 rfl (lv_room (Nat.le_of_ble_eq_true rfl)) d_Gr_reachedFrom_21 ⟨Nat.le_of_ble_eq_true rfl, Nat.le_of_ble_eq_true rfl⟩) hP hD hK hS hA [0] [] rfl rfl (by decide) (by decide) (fun r17 _ H locs er17 hP hD hK hS => ?_)
  have er17 : r17 = 0 := er17
  subst er17
  have hK : va_K D cl [] s := hK
  have hP : va_P D cl [(gr, .inr (2, [.ref gc, .ref gf, .ref gp, .ref gb, .ref gl, .int 0]))] H := hP
  have hD : va_D A [(gr, .inr (2, [.ref gc, .ref gf, .ref gp, .ref gb, .ref gl, .int 0]))] := hD
  refine lv_ior hx hb d_Gr_reachedFrom_24 ?_
  refine xnum (v := 0) (by decide) ?_
  refine lv_istore_n hx hb d_Gr_reachedFrom_25 rfl hl (by decide) rfl (fun ls hl => ?_)
  have hl : lv_has ls 4 [(2, .int 0), (3, .int 7), (0, .ref gr), (1, .int x)] := hl
  refine lv_iinc (k := 1) (v := 8) hx hb d_Gr_reachedFrom_26 hl rfl (by decide) (by decide) rfl (fun ls hl => ?_)
  have hl : lv_has ls 4 [(3, .int 8), (2, .int 0), (0, .ref gr), (1, .int x)] := hl
  refine lv_goto (tgt := 8) hx hb d_Gr_reachedFrom_29 (by decide) ?_
  refine lv_iload_n hx hb d_Gr_reachedFrom_8 rfl (lv_at hl 0 rfl) ?_
  refine lv_bipush (v := 12) hx hb d_Gr_reachedFrom_9 (by decide) ?_
  refine lv_icmp_ge (tgt := 32) hx hb d_Gr_reachedFrom_11 (by decide) (fun b11 => absurd b11 (by decide)) (fun b11 => ?_)
  refine lv_iload_n hx hb d_Gr_reachedFrom_14 rfl (lv_at hl 1 rfl) ?_
  refine lv_aload_n hx hb d_Gr_reachedFrom_15 rfl (lv_at hl 2 rfl) ?_
  refine lv_aload_n hx hb d_Gr_reachedFrom_16 rfl (lv_at hl 2 rfl) ?_
  refine lv_iload_n hx hb d_Gr_reachedFrom_17 rfl (lv_at hl 1 rfl) ?_
  have hPc := hP.sub (ws' := [(gr, .inr (2, [.ref gc, .ref gf, .ref gp, .ref gb, .ref gl, .int 0]))]) [0] rfl
  have hDc := hD.sub (ws' := [(gr, .inr (2, [.ref gc, .ref gf, .ref gp, .ref gb, .ref gl, .int 0]))]) [0] (by decide) rfl
  have hKc := hK.sub (tys' := []) [] rfl
  refine xgi (wsC := [(gr, .inr (2, [.ref gc, .ref gf, .ref gp, .ref gb, .ref gl, .int 0]))]) (wr := []) (va_runV (As := [.int 0]) (rest := [.ref gr, .int 0]) ⟨hx, hb, hml, hown, hts⟩ (c_Gr_waitedForBy l  D gr gc gf gp gb gl 0 _ ) ⟨(callB_of 1 hts (x_good k_Gr_waitedForBy) rfl rfl rfl (hts _ (List.mem_cons_of_mem _ tw_3)) (hts _ (List.mem_cons_of_mem _ tw_468)) (by decide +kernel) ⟨Nat.le_of_ble_eq_true rfl, Nat.le_of_ble_eq_true rfl⟩), (hts _ (List.mem_cons_of_mem _ tw_470)), (hts _ (List.mem_cons_of_mem _ (x_sel 25 rfl)))⟩ (xP_V (va_recv (ci := 2) (q0 := 0) hK hP rfl rfl) hPc hKc hDc hAm hTh hAs hS) rfl rfl hl.1 rfl (lv_room (Nat.le_of_ble_eq_true rfl)) d_Gr_reachedFrom_18 ⟨Nat.le_of_ble_eq_true rfl, Nat.le_of_ble_eq_true rfl⟩) hP hD hK hS hA [0] [] rfl rfl (by decide) (by decide) (fun r18 _ H locs er18 hP hD hK hS => ?_)
  have er18 : r18 = 0 := er18
  subst er18
  have hK : va_K D cl [] s := hK
  have hP : va_P D cl [(gr, .inr (2, [.ref gc, .ref gf, .ref gp, .ref gb, .ref gl, .int 0]))] H := hP
  have hD : va_D A [(gr, .inr (2, [.ref gc, .ref gf, .ref gp, .ref gb, .ref gl, .int 0]))] := hD
  have hPc := hP.sub (ws' := [(gr, .inr (2, [.ref gc, .ref gf, .ref gp, .ref gb, .ref gl, .int 0]))]) [0] rfl
  have hDc := hD.sub (ws' := [(gr, .inr (2, [.ref gc, .ref gf, .ref gp, .ref gb, .ref gl, .int 0]))]) [0] (by decide) rfl
  have hKc := hK.sub (tys' := []) [] rfl
  refine xgi (wsC := [(gr, .inr (2, [.ref gc, .ref gf, .ref gp, .ref gb, .ref gl, .int 0]))]) (wr := []) (va_runV (As := [.int 0]) (rest := [.int 0]) ⟨hx, hb, hml, hown, hts⟩ (c_Gr_makersOf l  D gr gc gf gp gb gl 0 _ ) ⟨(callB_of 1 hts (x_good k_Gr_makersOf) rfl rfl rfl (hts _ (List.mem_cons_of_mem _ tw_3)) (hts _ (List.mem_cons_of_mem _ tw_464)) (by decide +kernel) ⟨Nat.le_of_ble_eq_true rfl, Nat.le_of_ble_eq_true rfl⟩), (hts _ (List.mem_cons_of_mem _ tw_466)), (hts _ (List.mem_cons_of_mem _ (x_sel 24 rfl)))⟩ (xP_V (va_recv (ci := 2) (q0 := 0) hK hP rfl rfl) hPc hKc hDc hAm hTh hAs hS) rfl rfl hl.1 rfl (lv_room (Nat.le_of_ble_eq_true rfl)) d_Gr_reachedFrom_21 ⟨Nat.le_of_ble_eq_true rfl, Nat.le_of_ble_eq_true rfl⟩) hP hD hK hS hA [0] [] rfl rfl (by decide) (by decide) (fun r19 _ H locs er19 hP hD hK hS => ?_)
  have er19 : r19 = 0 := er19
  subst er19
  have hK : va_K D cl [] s := hK
  have hP : va_P D cl [(gr, .inr (2, [.ref gc, .ref gf, .ref gp, .ref gb, .ref gl, .int 0]))] H := hP
  have hD : va_D A [(gr, .inr (2, [.ref gc, .ref gf, .ref gp, .ref gb, .ref gl, .int 0]))] := hD
  refine lv_ior hx hb d_Gr_reachedFrom_24 ?_
  refine xnum (v := 0) (by decide) ?_
  refine lv_istore_n hx hb d_Gr_reachedFrom_25 rfl hl (by decide) rfl (fun ls hl => ?_)
  have hl : lv_has ls 4 [(2, .int 0), (3, .int 8), (0, .ref gr), (1, .int x)] := hl
  refine lv_iinc (k := 1) (v := 9) hx hb d_Gr_reachedFrom_26 hl rfl (by decide) (by decide) rfl (fun ls hl => ?_)
  have hl : lv_has ls 4 [(3, .int 9), (2, .int 0), (0, .ref gr), (1, .int x)] := hl
  refine lv_goto (tgt := 8) hx hb d_Gr_reachedFrom_29 (by decide) ?_
  refine lv_iload_n hx hb d_Gr_reachedFrom_8 rfl (lv_at hl 0 rfl) ?_
  refine lv_bipush (v := 12) hx hb d_Gr_reachedFrom_9 (by decide) ?_
  refine lv_icmp_ge (tgt := 32) hx hb d_Gr_reachedFrom_11 (by decide) (fun b11 => absurd b11 (by decide)) (fun b11 => ?_)
  refine lv_iload_n hx hb d_Gr_reachedFrom_14 rfl (lv_at hl 1 rfl) ?_
  refine lv_aload_n hx hb d_Gr_reachedFrom_15 rfl (lv_at hl 2 rfl) ?_
  refine lv_aload_n hx hb d_Gr_reachedFrom_16 rfl (lv_at hl 2 rfl) ?_
  refine lv_iload_n hx hb d_Gr_reachedFrom_17 rfl (lv_at hl 1 rfl) ?_
  have hPc := hP.sub (ws' := [(gr, .inr (2, [.ref gc, .ref gf, .ref gp, .ref gb, .ref gl, .int 0]))]) [0] rfl
  have hDc := hD.sub (ws' := [(gr, .inr (2, [.ref gc, .ref gf, .ref gp, .ref gb, .ref gl, .int 0]))]) [0] (by decide) rfl
  have hKc := hK.sub (tys' := []) [] rfl
  refine xgi (wsC := [(gr, .inr (2, [.ref gc, .ref gf, .ref gp, .ref gb, .ref gl, .int 0]))]) (wr := []) (va_runV (As := [.int 0]) (rest := [.ref gr, .int 0]) ⟨hx, hb, hml, hown, hts⟩ (c_Gr_waitedForBy l  D gr gc gf gp gb gl 0 _ ) ⟨(callB_of 1 hts (x_good k_Gr_waitedForBy) rfl rfl rfl (hts _ (List.mem_cons_of_mem _ tw_3)) (hts _ (List.mem_cons_of_mem _ tw_468)) (by decide +kernel) ⟨Nat.le_of_ble_eq_true rfl, Nat.le_of_ble_eq_true rfl⟩), (hts _ (List.mem_cons_of_mem _ tw_470)), (hts _ (List.mem_cons_of_mem _ (x_sel 25 rfl)))⟩ (xP_V (va_recv (ci := 2) (q0 := 0) hK hP rfl rfl) hPc hKc hDc hAm hTh hAs hS) rfl rfl hl.1 rfl (lv_room (Nat.le_of_ble_eq_true rfl)) d_Gr_reachedFrom_18 ⟨Nat.le_of_ble_eq_true rfl, Nat.le_of_ble_eq_true rfl⟩) hP hD hK hS hA [0] [] rfl rfl (by decide) (by decide) (fun r20 _ H locs er20 hP hD hK hS => ?_)
  have er20 : r20 = 0 := er20
  subst er20
  have hK : va_K D cl [] s := hK
  have hP : va_P D cl [(gr, .inr (2, [.ref gc, .ref gf, .ref gp, .ref gb, .ref gl, .int 0]))] H := hP
  have hD : va_D A [(gr, .inr (2, [.ref gc, .ref gf, .ref gp, .ref gb, .ref gl, .int 0]))] := hD
  have hPc := hP.sub (ws' := [(gr, .inr (2, [.ref gc, .ref gf, .ref gp, .ref gb, .ref gl, .int 0]))]) [0] rfl
  have hDc := hD.sub (ws' := [(gr, .inr (2, [.ref gc, .ref gf, .ref gp, .ref gb, .ref gl, .int 0]))]) [0] (by decide) rfl
  have hKc := hK.sub (tys' := []) [] rfl
  refine xgi (wsC := [(gr, .inr (2, [.ref gc, .ref gf, .ref gp, .ref gb, .ref gl, .int 0]))]) (wr := []) (va_runV (As := [.int 0]) (rest := [.int 0]) ⟨hx, hb, hml, hown, hts⟩ (c_Gr_makersOf l  D gr gc gf gp gb gl 0 _ ) ⟨(callB_of 1 hts (x_good k_Gr_makersOf) rfl rfl rfl (hts _ (List.mem_cons_of_mem _ tw_3)) (hts _ (List.mem_cons_of_mem _ tw_464)) (by decide +kernel) ⟨Nat.le_of_ble_eq_true rfl, Nat.le_of_ble_eq_true rfl⟩), (hts _ (List.mem_cons_of_mem _ tw_466)), (hts _ (List.mem_cons_of_mem _ (x_sel 24 rfl)))⟩ (xP_V (va_recv (ci := 2) (q0 := 0) hK hP rfl rfl) hPc hKc hDc hAm hTh hAs hS) rfl rfl hl.1 rfl (lv_room (Nat.le_of_ble_eq_true rfl)) d_Gr_reachedFrom_21 ⟨Nat.le_of_ble_eq_true rfl, Nat.le_of_ble_eq_true rfl⟩) hP hD hK hS hA [0] [] rfl rfl (by decide) (by decide) (fun r21 _ H locs er21 hP hD hK hS => ?_)
  have er21 : r21 = 0 := er21
  subst er21
  have hK : va_K D cl [] s := hK
  have hP : va_P D cl [(gr, .inr (2, [.ref gc, .ref gf, .ref gp, .ref gb, .ref gl, .int 0]))] H := hP
  have hD : va_D A [(gr, .inr (2, [.ref gc, .ref gf, .ref gp, .ref gb, .ref gl, .int 0]))] := hD
  refine lv_ior hx hb d_Gr_reachedFrom_24 ?_
  refine xnum (v := 0) (by decide) ?_
  refine lv_istore_n hx hb d_Gr_reachedFrom_25 rfl hl (by decide) rfl (fun ls hl => ?_)
  have hl : lv_has ls 4 [(2, .int 0), (3, .int 9), (0, .ref gr), (1, .int x)] := hl
  refine lv_iinc (k := 1) (v := 10) hx hb d_Gr_reachedFrom_26 hl rfl (by decide) (by decide) rfl (fun ls hl => ?_)
  have hl : lv_has ls 4 [(3, .int 10), (2, .int 0), (0, .ref gr), (1, .int x)] := hl
  refine lv_goto (tgt := 8) hx hb d_Gr_reachedFrom_29 (by decide) ?_
  refine lv_iload_n hx hb d_Gr_reachedFrom_8 rfl (lv_at hl 0 rfl) ?_
  refine lv_bipush (v := 12) hx hb d_Gr_reachedFrom_9 (by decide) ?_
  refine lv_icmp_ge (tgt := 32) hx hb d_Gr_reachedFrom_11 (by decide) (fun b11 => absurd b11 (by decide)) (fun b11 => ?_)
  refine lv_iload_n hx hb d_Gr_reachedFrom_14 rfl (lv_at hl 1 rfl) ?_
  refine lv_aload_n hx hb d_Gr_reachedFrom_15 rfl (lv_at hl 2 rfl) ?_
  refine lv_aload_n hx hb d_Gr_reachedFrom_16 rfl (lv_at hl 2 rfl) ?_
  refine lv_iload_n hx hb d_Gr_reachedFrom_17 rfl (lv_at hl 1 rfl) ?_
  have hPc := hP.sub (ws' := [(gr, .inr (2, [.ref gc, .ref gf, .ref gp, .ref gb, .ref gl, .int 0]))]) [0] rfl
  have hDc := hD.sub (ws' := [(gr, .inr (2, [.ref gc, .ref gf, .ref gp, .ref gb, .ref gl, .int 0]))]) [0] (by decide) rfl
  have hKc := hK.sub (tys' := []) [] rfl
  refine xgi (wsC := [(gr, .inr (2, [.ref gc, .ref gf, .ref gp, .ref gb, .ref gl, .int 0]))]) (wr := []) (va_runV (As := [.int 0]) (rest := [.ref gr, .int 0]) ⟨hx, hb, hml, hown, hts⟩ (c_Gr_waitedForBy l  D gr gc gf gp gb gl 0 _ ) ⟨(callB_of 1 hts (x_good k_Gr_waitedForBy) rfl rfl rfl (hts _ (List.mem_cons_of_mem _ tw_3)) (hts _ (List.mem_cons_of_mem _ tw_468)) (by decide +kernel) ⟨Nat.le_of_ble_eq_true rfl, Nat.le_of_ble_eq_true rfl⟩), (hts _ (List.mem_cons_of_mem _ tw_470)), (hts _ (List.mem_cons_of_mem _ (x_sel 25 rfl)))⟩ (xP_V (va_recv (ci := 2) (q0 := 0) hK hP rfl rfl) hPc hKc hDc hAm hTh hAs hS) rfl rfl hl.1 rfl (lv_room (Nat.le_of_ble_eq_true rfl)) d_Gr_reachedFrom_18 ⟨Nat.le_of_ble_eq_true rfl, Nat.le_of_ble_eq_true rfl⟩) hP hD hK hS hA [0] [] rfl rfl (by decide) (by decide) (fun r22 _ H locs er22 hP hD hK hS => ?_)
  have er22 : r22 = 0 := er22
  subst er22
  have hK : va_K D cl [] s := hK
  have hP : va_P D cl [(gr, .inr (2, [.ref gc, .ref gf, .ref gp, .ref gb, .ref gl, .int 0]))] H := hP
  have hD : va_D A [(gr, .inr (2, [.ref gc, .ref gf, .ref gp, .ref gb, .ref gl, .int 0]))] := hD
  have hPc := hP.sub (ws' := [(gr, .inr (2, [.ref gc, .ref gf, .ref gp, .ref gb, .ref gl, .int 0]))]) [0] rfl
  have hDc := hD.sub (ws' := [(gr, .inr (2, [.ref gc, .ref gf, .ref gp, .ref gb, .ref gl, .int 0]))]) [0] (by decide) rfl
  have hKc := hK.sub (tys' := []) [] rfl
  refine xgi (wsC := [(gr, .inr (2, [.ref gc, .ref gf, .ref gp, .ref gb, .ref gl, .int 0]))]) (wr := []) (va_runV (As := [.int 0]) (rest := [.int 0]) ⟨hx, hb, hml, hown, hts⟩ (c_Gr_makersOf l  D gr gc gf gp gb gl 0 _ ) ⟨(callB_of 1 hts (x_good k_Gr_makersOf) rfl rfl rfl (hts _ (List.mem_cons_of_mem _ tw_3)) (hts _ (List.mem_cons_of_mem _ tw_464)) (by decide +kernel) ⟨Nat.le_of_ble_eq_true rfl, Nat.le_of_ble_eq_true rfl⟩), (hts _ (List.mem_cons_of_mem _ tw_466)), (hts _ (List.mem_cons_of_mem _ (x_sel 24 rfl)))⟩ (xP_V (va_recv (ci := 2) (q0 := 0) hK hP rfl rfl) hPc hKc hDc hAm hTh hAs hS) rfl rfl hl.1 rfl (lv_room (Nat.le_of_ble_eq_true rfl)) d_Gr_reachedFrom_21 ⟨Nat.le_of_ble_eq_true rfl, Nat.le_of_ble_eq_true rfl⟩) hP hD hK hS hA [0] [] rfl rfl (by decide) (by decide) (fun r23 _ H locs er23 hP hD hK hS => ?_)
  have er23 : r23 = 0 := er23
  subst er23
  have hK : va_K D cl [] s := hK
  have hP : va_P D cl [(gr, .inr (2, [.ref gc, .ref gf, .ref gp, .ref gb, .ref gl, .int 0]))] H := hP
  have hD : va_D A [(gr, .inr (2, [.ref gc, .ref gf, .ref gp, .ref gb, .ref gl, .int 0]))] := hD
  refine lv_ior hx hb d_Gr_reachedFrom_24 ?_
  refine xnum (v := 0) (by decide) ?_
  refine lv_istore_n hx hb d_Gr_reachedFrom_25 rfl hl (by decide) rfl (fun ls hl => ?_)
  have hl : lv_has ls 4 [(2, .int 0), (3, .int 10), (0, .ref gr), (1, .int x)] := hl
  refine lv_iinc (k := 1) (v := 11) hx hb d_Gr_reachedFrom_26 hl rfl (by decide) (by decide) rfl (fun ls hl => ?_)
  have hl : lv_has ls 4 [(3, .int 11), (2, .int 0), (0, .ref gr), (1, .int x)] := hl
  refine lv_goto (tgt := 8) hx hb d_Gr_reachedFrom_29 (by decide) ?_
  refine lv_iload_n hx hb d_Gr_reachedFrom_8 rfl (lv_at hl 0 rfl) ?_
  refine lv_bipush (v := 12) hx hb d_Gr_reachedFrom_9 (by decide) ?_
  refine lv_icmp_ge (tgt := 32) hx hb d_Gr_reachedFrom_11 (by decide) (fun b11 => absurd b11 (by decide)) (fun b11 => ?_)
  refine lv_iload_n hx hb d_Gr_reachedFrom_14 rfl (lv_at hl 1 rfl) ?_
  refine lv_aload_n hx hb d_Gr_reachedFrom_15 rfl (lv_at hl 2 rfl) ?_
  refine lv_aload_n hx hb d_Gr_reachedFrom_16 rfl (lv_at hl 2 rfl) ?_
  refine lv_iload_n hx hb d_Gr_reachedFrom_17 rfl (lv_at hl 1 rfl) ?_
  have hPc := hP.sub (ws' := [(gr, .inr (2, [.ref gc, .ref gf, .ref gp, .ref gb, .ref gl, .int 0]))]) [0] rfl
  have hDc := hD.sub (ws' := [(gr, .inr (2, [.ref gc, .ref gf, .ref gp, .ref gb, .ref gl, .int 0]))]) [0] (by decide) rfl
  have hKc := hK.sub (tys' := []) [] rfl
  refine xgi (wsC := [(gr, .inr (2, [.ref gc, .ref gf, .ref gp, .ref gb, .ref gl, .int 0]))]) (wr := []) (va_runV (As := [.int 0]) (rest := [.ref gr, .int 0]) ⟨hx, hb, hml, hown, hts⟩ (c_Gr_waitedForBy l  D gr gc gf gp gb gl 0 _ ) ⟨(callB_of 1 hts (x_good k_Gr_waitedForBy) rfl rfl rfl (hts _ (List.mem_cons_of_mem _ tw_3)) (hts _ (List.mem_cons_of_mem _ tw_468)) (by decide +kernel) ⟨Nat.le_of_ble_eq_true rfl, Nat.le_of_ble_eq_true rfl⟩), (hts _ (List.mem_cons_of_mem _ tw_470)), (hts _ (List.mem_cons_of_mem _ (x_sel 25 rfl)))⟩ (xP_V (va_recv (ci := 2) (q0 := 0) hK hP rfl rfl) hPc hKc hDc hAm hTh hAs hS) rfl rfl hl.1 rfl (lv_room (Nat.le_of_ble_eq_true rfl)) d_Gr_reachedFrom_18 ⟨Nat.le_of_ble_eq_true rfl, Nat.le_of_ble_eq_true rfl⟩) hP hD hK hS hA [0] [] rfl rfl (by decide) (by decide) (fun r24 _ H locs er24 hP hD hK hS => ?_)
  have er24 : r24 = 0 := er24
  subst er24
  have hK : va_K D cl [] s := hK
  have hP : va_P D cl [(gr, .inr (2, [.ref gc, .ref gf, .ref gp, .ref gb, .ref gl, .int 0]))] H := hP
  have hD : va_D A [(gr, .inr (2, [.ref gc, .ref gf, .ref gp, .ref gb, .ref gl, .int 0]))] := hD
  have hPc := hP.sub (ws' := [(gr, .inr (2, [.ref gc, .ref gf, .ref gp, .ref gb, .ref gl, .int 0]))]) [0] rfl
  have hDc := hD.sub (ws' := [(gr, .inr (2, [.ref gc, .ref gf, .ref gp, .ref gb, .ref gl, .int 0]))]) [0] (by decide) rfl
  have hKc := hK.sub (tys' := []) [] rfl
  refine xgi (wsC := [(gr, .inr (2, [.ref gc, .ref gf, .ref gp, .ref gb, .ref gl, .int 0]))]) (wr := []) (va_runV (As := [.int 0]) (rest := [.int 0]) ⟨hx, hb, hml, hown, hts⟩ (c_Gr_makersOf l  D gr gc gf gp gb gl 0 _ ) ⟨(callB_of 1 hts (x_good k_Gr_makersOf) rfl rfl rfl (hts _ (List.mem_cons_of_mem _ tw_3)) (hts _ (List.mem_cons_of_mem _ tw_464)) (by decide +kernel) ⟨Nat.le_of_ble_eq_true rfl, Nat.le_of_ble_eq_true rfl⟩), (hts _ (List.mem_cons_of_mem _ tw_466)), (hts _ (List.mem_cons_of_mem _ (x_sel 24 rfl)))⟩ (xP_V (va_recv (ci := 2) (q0 := 0) hK hP rfl rfl) hPc hKc hDc hAm hTh hAs hS) rfl rfl hl.1 rfl (lv_room (Nat.le_of_ble_eq_true rfl)) d_Gr_reachedFrom_21 ⟨Nat.le_of_ble_eq_true rfl, Nat.le_of_ble_eq_true rfl⟩) hP hD hK hS hA [0] [] rfl rfl (by decide) (by decide) (fun r25 _ H locs er25 hP hD hK hS => ?_)
  have er25 : r25 = 0 := er25
  subst er25
  have hK : va_K D cl [] s := hK
  have hP : va_P D cl [(gr, .inr (2, [.ref gc, .ref gf, .ref gp, .ref gb, .ref gl, .int 0]))] H := hP
  have hD : va_D A [(gr, .inr (2, [.ref gc, .ref gf, .ref gp, .ref gb, .ref gl, .int 0]))] := hD
  refine lv_ior hx hb d_Gr_reachedFrom_24 ?_
  refine xnum (v := 0) (by decide) ?_
  refine lv_istore_n hx hb d_Gr_reachedFrom_25 rfl hl (by decide) rfl (fun ls hl => ?_)
  have hl : lv_has ls 4 [(2, .int 0), (3, .int 11), (0, .ref gr), (1, .int x)] := hl
  refine lv_iinc (k := 1) (v := 12) hx hb d_Gr_reachedFrom_26 hl rfl (by decide) (by decide) rfl (fun ls hl => ?_)
  have hl : lv_has ls 4 [(3, .int 12), (2, .int 0), (0, .ref gr), (1, .int x)] := hl
  refine lv_goto (tgt := 8) hx hb d_Gr_reachedFrom_29 (by decide) ?_
  refine lv_iload_n hx hb d_Gr_reachedFrom_8 rfl (lv_at hl 0 rfl) ?_
  refine lv_bipush (v := 12) hx hb d_Gr_reachedFrom_9 (by decide) ?_
  refine lv_icmp_ge (tgt := 32) hx hb d_Gr_reachedFrom_11 (by decide) (fun b11 => ?_) (fun b11 => absurd b11 (by decide))
  refine lv_iload_n hx hb d_Gr_reachedFrom_32 rfl (lv_at hl 1 rfl) ?_
  exact xri () B d_Gr_reachedFrom_33 (rfl) (hP.sub (ws' := [(gr, .inr (2, [.ref gc, .ref gf, .ref gp, .ref gb, .ref gl, .int 0]))]) [0] rfl) (hK.sub (tys' := []) [] rfl) (hD.sub (ws' := [(gr, .inr (2, [.ref gc, .ref gf, .ref gp, .ref gb, .ref gl, .int 0]))]) [0] (by decide) rfl) hS (Nat.le_of_ble_eq_true rfl) (Nat.le_of_ble_eq_true rfl)
theorem d_Gr_hasCycle_0 : decode b_Gr_hasCycle 0 = .ok (.iconst (0), 1) := by decide +kernel
theorem d_Gr_hasCycle_1 : decode b_Gr_hasCycle 1 = .ok (.istore_n 2, 1) := by decide +kernel
theorem d_Gr_hasCycle_2 : decode b_Gr_hasCycle 2 = .ok (.iconst (0), 1) := by decide +kernel
theorem d_Gr_hasCycle_3 : decode b_Gr_hasCycle 3 = .ok (.istore_n 3, 1) := by decide +kernel
theorem d_Gr_hasCycle_4 : decode b_Gr_hasCycle 4 = .ok (.iload_n 3, 1) := by decide +kernel
theorem d_Gr_hasCycle_5 : decode b_Gr_hasCycle 5 = .ok (.bipush (12), 2) := by decide +kernel
theorem d_Gr_hasCycle_7 : decode b_Gr_hasCycle 7 = .ok (.if_icmp .ge (30), 3) := by decide +kernel
theorem d_Gr_hasCycle_10 : decode b_Gr_hasCycle 10 = .ok (.aload_n 0, 1) := by decide +kernel
theorem d_Gr_hasCycle_11 : decode b_Gr_hasCycle 11 = .ok (.iload_n 1, 1) := by decide +kernel
theorem d_Gr_hasCycle_12 : decode b_Gr_hasCycle 12 = .ok (.iload_n 2, 1) := by decide +kernel
theorem d_Gr_hasCycle_13 : decode b_Gr_hasCycle 13 = .ok (.invokevirtual 61, 3) := by decide +kernel
theorem d_Gr_hasCycle_16 : decode b_Gr_hasCycle 16 = .ok (.istore 4, 2) := by decide +kernel
theorem d_Gr_hasCycle_18 : decode b_Gr_hasCycle 18 = .ok (.iload 4, 2) := by decide +kernel
theorem d_Gr_hasCycle_20 : decode b_Gr_hasCycle 20 = .ok (.iconst (-1), 1) := by decide +kernel
theorem d_Gr_hasCycle_21 : decode b_Gr_hasCycle 21 = .ok (.if_icmp .eq (10), 3) := by decide +kernel
theorem d_Gr_hasCycle_31 : decode b_Gr_hasCycle 31 = .ok (.iinc 3 (1), 3) := by decide +kernel
theorem d_Gr_hasCycle_34 : decode b_Gr_hasCycle 34 = .ok (.goto (-30), 3) := by decide +kernel
theorem d_Gr_hasCycle_37 : decode b_Gr_hasCycle 37 = .ok (.iload_n 2, 1) := by decide +kernel
theorem d_Gr_hasCycle_38 : decode b_Gr_hasCycle 38 = .ok (.iload_n 1, 1) := by decide +kernel
theorem d_Gr_hasCycle_39 : decode b_Gr_hasCycle 39 = .ok (.if_icmp .eq (7), 3) := by decide +kernel
theorem d_Gr_hasCycle_46 : decode b_Gr_hasCycle 46 = .ok (.iconst (0), 1) := by decide +kernel
theorem d_Gr_hasCycle_47 : decode b_Gr_hasCycle 47 = .ok (.ireturn, 1) := by decide +kernel
set_option maxRecDepth 20000 in
set_option maxHeartbeats 4000000 in
theorem c_Gr_hasCycle (l : Launch) (D : va_G) (gr : Nat) (gc : Nat) (gf : Nat) (gp : Nat) (gb : Nat) (gl : Nat) (sz : Nat)  : xMi l y_Gr_hasCycle w_Gr_hasCycle { frames := 1, cells := 0, slots := 0, locals := 30 } D cl [.ref gr, .int 0] sz [] [(gr, .inr (2, [.ref gc, .ref gf, .ref gp, .ref gb, .ref gl, .int 0]))] (fun (r : Int32) (_ : Unit) => r = 0) (fun _ => [(gr, .inr (2, [.ref gc, .ref gf, .ref gp, .ref gb, .ref gl, .int 0]))]) (fun _ => []) := by
  refine xMi_of (by decide +kernel) rfl (Nat.le_of_ble_eq_true rfl) ?_
  intro p e s m args below meth c ls A B hAe hA hsz hP hK hD hS hAm hTh hAs hl
  obtain ⟨⟨hx, hb, hml, hown, hts⟩, hret, hlk, hnm, hemp⟩ := id B
  have hl : lv_has ls 5 [(0, .ref gr), (1, .int 0)] := hl
  refine lv_iconst (v := 0) hx hb d_Gr_hasCycle_0 (by decide) ?_
  refine lv_istore_n hx hb d_Gr_hasCycle_1 rfl hl (by decide) rfl (fun ls hl => ?_)
  have hl : lv_has ls 5 [(2, .int 0), (0, .ref gr), (1, .int 0)] := hl
  refine lv_iconst (v := 0) hx hb d_Gr_hasCycle_2 (by decide) ?_
  refine lv_istore_n hx hb d_Gr_hasCycle_3 rfl hl (by decide) rfl (fun ls hl => ?_)
  have hl : lv_has ls 5 [(3, .int 0), (2, .int 0), (0, .ref gr), (1, .int 0)] := hl
  refine lv_iload_n hx hb d_Gr_hasCycle_4 rfl (lv_at hl 0 rfl) ?_
  refine lv_bipush (v := 12) hx hb d_Gr_hasCycle_5 (by decide) ?_
  refine lv_icmp_ge (tgt := 37) hx hb d_Gr_hasCycle_7 (by decide) (fun b7 => absurd b7 (by decide)) (fun b7 => ?_)
  refine lv_aload_n hx hb d_Gr_hasCycle_10 rfl (lv_at hl 2 rfl) ?_
  refine lv_iload_n hx hb d_Gr_hasCycle_11 rfl (lv_at hl 3 rfl) ?_
  refine lv_iload_n hx hb d_Gr_hasCycle_12 rfl (lv_at hl 1 rfl) ?_
  have hPc := hP.sub (ws' := [(gr, .inr (2, [.ref gc, .ref gf, .ref gp, .ref gb, .ref gl, .int 0]))]) [0] rfl
  have hDc := hD.sub (ws' := [(gr, .inr (2, [.ref gc, .ref gf, .ref gp, .ref gb, .ref gl, .int 0]))]) [0] (by decide) rfl
  have hKc := hK.sub (tys' := []) [] rfl
  refine xgi (wsC := [(gr, .inr (2, [.ref gc, .ref gf, .ref gp, .ref gb, .ref gl, .int 0]))]) (wr := []) (va_runV (As := [.int 0, .int 0]) (rest := []) ⟨hx, hb, hml, hown, hts⟩ (c_Gr_nextToLookAt l  D gr gc gf gp gb gl 0 0 _ ) ⟨(callB_of 2 hts (x_good k_Gr_nextToLookAt) rfl rfl rfl (hts _ (List.mem_cons_of_mem _ tw_3)) (hts _ (List.mem_cons_of_mem _ tw_477)) (by decide +kernel) ⟨Nat.le_of_ble_eq_true rfl, Nat.le_of_ble_eq_true rfl⟩), (hts _ (List.mem_cons_of_mem _ tw_479)), (hts _ (List.mem_cons_of_mem _ (x_sel 27 rfl)))⟩ (xP_V (va_recv (ci := 2) (q0 := 0) hK hP rfl rfl) hPc hKc hDc hAm hTh hAs hS) rfl rfl hl.1 rfl (lv_room (Nat.le_of_ble_eq_true rfl)) d_Gr_hasCycle_13 ⟨Nat.le_of_ble_eq_true rfl, Nat.le_of_ble_eq_true rfl⟩) hP hD hK hS hA [0] [] rfl rfl (by decide) (by decide) (fun r1 _ H locs er1 hP hD hK hS => ?_)
  have er1 : r1 = (-1) := er1
  subst er1
  have hK : va_K D cl [] s := hK
  have hP : va_P D cl [(gr, .inr (2, [.ref gc, .ref gf, .ref gp, .ref gb, .ref gl, .int 0]))] H := hP
  have hD : va_D A [(gr, .inr (2, [.ref gc, .ref gf, .ref gp, .ref gb, .ref gl, .int 0]))] := hD
  refine lv_istore hx hb d_Gr_hasCycle_16 hl (by decide) rfl (fun ls hl => ?_)
  have hl : lv_has ls 5 [(4, .int (-1)), (3, .int 0), (2, .int 0), (0, .ref gr), (1, .int 0)] := hl
  refine lv_iload hx hb d_Gr_hasCycle_18 (lv_at hl 0 rfl) ?_
  refine lv_iconst (v := (-1)) hx hb d_Gr_hasCycle_20 (by decide) ?_
  refine lv_icmp_eq (tgt := 31) hx hb d_Gr_hasCycle_21 (by decide) (fun b21 => ?_) (fun b21 => absurd b21 (by decide))
  refine lv_iinc (k := 1) (v := 1) hx hb d_Gr_hasCycle_31 hl rfl (by decide) (by decide) rfl (fun ls hl => ?_)
  have hl : lv_has ls 5 [(3, .int 1), (4, .int (-1)), (2, .int 0), (0, .ref gr), (1, .int 0)] := hl
  refine lv_goto (tgt := 4) hx hb d_Gr_hasCycle_34 (by decide) ?_
  refine lv_iload_n hx hb d_Gr_hasCycle_4 rfl (lv_at hl 0 rfl) ?_
  refine lv_bipush (v := 12) hx hb d_Gr_hasCycle_5 (by decide) ?_
  refine lv_icmp_ge (tgt := 37) hx hb d_Gr_hasCycle_7 (by decide) (fun b7 => absurd b7 (by decide)) (fun b7 => ?_)
  refine lv_aload_n hx hb d_Gr_hasCycle_10 rfl (lv_at hl 3 rfl) ?_
  refine lv_iload_n hx hb d_Gr_hasCycle_11 rfl (lv_at hl 4 rfl) ?_
  refine lv_iload_n hx hb d_Gr_hasCycle_12 rfl (lv_at hl 2 rfl) ?_
  have hPc := hP.sub (ws' := [(gr, .inr (2, [.ref gc, .ref gf, .ref gp, .ref gb, .ref gl, .int 0]))]) [0] rfl
  have hDc := hD.sub (ws' := [(gr, .inr (2, [.ref gc, .ref gf, .ref gp, .ref gb, .ref gl, .int 0]))]) [0] (by decide) rfl
  have hKc := hK.sub (tys' := []) [] rfl
  refine xgi (wsC := [(gr, .inr (2, [.ref gc, .ref gf, .ref gp, .ref gb, .ref gl, .int 0]))]) (wr := []) (va_runV (As := [.int 0, .int 0]) (rest := []) ⟨hx, hb, hml, hown, hts⟩ (c_Gr_nextToLookAt l  D gr gc gf gp gb gl 0 0 _ ) ⟨(callB_of 2 hts (x_good k_Gr_nextToLookAt) rfl rfl rfl (hts _ (List.mem_cons_of_mem _ tw_3)) (hts _ (List.mem_cons_of_mem _ tw_477)) (by decide +kernel) ⟨Nat.le_of_ble_eq_true rfl, Nat.le_of_ble_eq_true rfl⟩), (hts _ (List.mem_cons_of_mem _ tw_479)), (hts _ (List.mem_cons_of_mem _ (x_sel 27 rfl)))⟩ (xP_V (va_recv (ci := 2) (q0 := 0) hK hP rfl rfl) hPc hKc hDc hAm hTh hAs hS) rfl rfl hl.1 rfl (lv_room (Nat.le_of_ble_eq_true rfl)) d_Gr_hasCycle_13 ⟨Nat.le_of_ble_eq_true rfl, Nat.le_of_ble_eq_true rfl⟩) hP hD hK hS hA [0] [] rfl rfl (by decide) (by decide) (fun r2 _ H locs er2 hP hD hK hS => ?_)
  have er2 : r2 = (-1) := er2
  subst er2
  have hK : va_K D cl [] s := hK
  have hP : va_P D cl [(gr, .inr (2, [.ref gc, .ref gf, .ref gp, .ref gb, .ref gl, .int 0]))] H := hP
  have hD : va_D A [(gr, .inr (2, [.ref gc, .ref gf, .ref gp, .ref gb, .ref gl, .int 0]))] := hD
  refine lv_istore hx hb d_Gr_hasCycle_16 hl (by decide) rfl (fun ls hl => ?_)
  have hl : lv_has ls 5 [(4, .int (-1)), (3, .int 1), (2, .int 0), (0, .ref gr), (1, .int 0)] := hl
  refine lv_iload hx hb d_Gr_hasCycle_18 (lv_at hl 0 rfl) ?_
  refine lv_iconst (v := (-1)) hx hb d_Gr_hasCycle_20 (by decide) ?_
  refine lv_icmp_eq (tgt := 31) hx hb d_Gr_hasCycle_21 (by decide) (fun b21 => ?_) (fun b21 => absurd b21 (by decide))
  refine lv_iinc (k := 1) (v := 2) hx hb d_Gr_hasCycle_31 hl rfl (by decide) (by decide) rfl (fun ls hl => ?_)
  have hl : lv_has ls 5 [(3, .int 2), (4, .int (-1)), (2, .int 0), (0, .ref gr), (1, .int 0)] := hl
  refine lv_goto (tgt := 4) hx hb d_Gr_hasCycle_34 (by decide) ?_
  refine lv_iload_n hx hb d_Gr_hasCycle_4 rfl (lv_at hl 0 rfl) ?_
  refine lv_bipush (v := 12) hx hb d_Gr_hasCycle_5 (by decide) ?_
  refine lv_icmp_ge (tgt := 37) hx hb d_Gr_hasCycle_7 (by decide) (fun b7 => absurd b7 (by decide)) (fun b7 => ?_)
  refine lv_aload_n hx hb d_Gr_hasCycle_10 rfl (lv_at hl 3 rfl) ?_
  refine lv_iload_n hx hb d_Gr_hasCycle_11 rfl (lv_at hl 4 rfl) ?_
  refine lv_iload_n hx hb d_Gr_hasCycle_12 rfl (lv_at hl 2 rfl) ?_
  have hPc := hP.sub (ws' := [(gr, .inr (2, [.ref gc, .ref gf, .ref gp, .ref gb, .ref gl, .int 0]))]) [0] rfl
  have hDc := hD.sub (ws' := [(gr, .inr (2, [.ref gc, .ref gf, .ref gp, .ref gb, .ref gl, .int 0]))]) [0] (by decide) rfl
  have hKc := hK.sub (tys' := []) [] rfl
  refine xgi (wsC := [(gr, .inr (2, [.ref gc, .ref gf, .ref gp, .ref gb, .ref gl, .int 0]))]) (wr := []) (va_runV (As := [.int 0, .int 0]) (rest := []) ⟨hx, hb, hml, hown, hts⟩ (c_Gr_nextToLookAt l  D gr gc gf gp gb gl 0 0 _ ) ⟨(callB_of 2 hts (x_good k_Gr_nextToLookAt) rfl rfl rfl (hts _ (List.mem_cons_of_mem _ tw_3)) (hts _ (List.mem_cons_of_mem _ tw_477)) (by decide +kernel) ⟨Nat.le_of_ble_eq_true rfl, Nat.le_of_ble_eq_true rfl⟩), (hts _ (List.mem_cons_of_mem _ tw_479)), (hts _ (List.mem_cons_of_mem _ (x_sel 27 rfl)))⟩ (xP_V (va_recv (ci := 2) (q0 := 0) hK hP rfl rfl) hPc hKc hDc hAm hTh hAs hS) rfl rfl hl.1 rfl (lv_room (Nat.le_of_ble_eq_true rfl)) d_Gr_hasCycle_13 ⟨Nat.le_of_ble_eq_true rfl, Nat.le_of_ble_eq_true rfl⟩) hP hD hK hS hA [0] [] rfl rfl (by decide) (by decide) (fun r3 _ H locs er3 hP hD hK hS => ?_)
  have er3 : r3 = (-1) := er3
  subst er3
  have hK : va_K D cl [] s := hK
  have hP : va_P D cl [(gr, .inr (2, [.ref gc, .ref gf, .ref gp, .ref gb, .ref gl, .int 0]))] H := hP
  have hD : va_D A [(gr, .inr (2, [.ref gc, .ref gf, .ref gp, .ref gb, .ref gl, .int 0]))] := hD
  refine lv_istore hx hb d_Gr_hasCycle_16 hl (by decide) rfl (fun ls hl => ?_)
  have hl : lv_has ls 5 [(4, .int (-1)), (3, .int 2), (2, .int 0), (0, .ref gr), (1, .int 0)] := hl
  refine lv_iload hx hb d_Gr_hasCycle_18 (lv_at hl 0 rfl) ?_
  refine lv_iconst (v := (-1)) hx hb d_Gr_hasCycle_20 (by decide) ?_
  refine lv_icmp_eq (tgt := 31) hx hb d_Gr_hasCycle_21 (by decide) (fun b21 => ?_) (fun b21 => absurd b21 (by decide))
  refine lv_iinc (k := 1) (v := 3) hx hb d_Gr_hasCycle_31 hl rfl (by decide) (by decide) rfl (fun ls hl => ?_)
  have hl : lv_has ls 5 [(3, .int 3), (4, .int (-1)), (2, .int 0), (0, .ref gr), (1, .int 0)] := hl
  refine lv_goto (tgt := 4) hx hb d_Gr_hasCycle_34 (by decide) ?_
  refine lv_iload_n hx hb d_Gr_hasCycle_4 rfl (lv_at hl 0 rfl) ?_
  refine lv_bipush (v := 12) hx hb d_Gr_hasCycle_5 (by decide) ?_
  refine lv_icmp_ge (tgt := 37) hx hb d_Gr_hasCycle_7 (by decide) (fun b7 => absurd b7 (by decide)) (fun b7 => ?_)
  refine lv_aload_n hx hb d_Gr_hasCycle_10 rfl (lv_at hl 3 rfl) ?_
  refine lv_iload_n hx hb d_Gr_hasCycle_11 rfl (lv_at hl 4 rfl) ?_
  refine lv_iload_n hx hb d_Gr_hasCycle_12 rfl (lv_at hl 2 rfl) ?_
  have hPc := hP.sub (ws' := [(gr, .inr (2, [.ref gc, .ref gf, .ref gp, .ref gb, .ref gl, .int 0]))]) [0] rfl
  have hDc := hD.sub (ws' := [(gr, .inr (2, [.ref gc, .ref gf, .ref gp, .ref gb, .ref gl, .int 0]))]) [0] (by decide) rfl
  have hKc := hK.sub (tys' := []) [] rfl
  refine xgi (wsC := [(gr, .inr (2, [.ref gc, .ref gf, .ref gp, .ref gb, .ref gl, .int 0]))]) (wr := []) (va_runV (As := [.int 0, .int 0]) (rest := []) ⟨hx, hb, hml, hown, hts⟩ (c_Gr_nextToLookAt l  D gr gc gf gp gb gl 0 0 _ ) ⟨(callB_of 2 hts (x_good k_Gr_nextToLookAt) rfl rfl rfl (hts _ (List.mem_cons_of_mem _ tw_3)) (hts _ (List.mem_cons_of_mem _ tw_477)) (by decide +kernel) ⟨Nat.le_of_ble_eq_true rfl, Nat.le_of_ble_eq_true rfl⟩), (hts _ (List.mem_cons_of_mem _ tw_479)), (hts _ (List.mem_cons_of_mem _ (x_sel 27 rfl)))⟩ (xP_V (va_recv (ci := 2) (q0 := 0) hK hP rfl rfl) hPc hKc hDc hAm hTh hAs hS) rfl rfl hl.1 rfl (lv_room (Nat.le_of_ble_eq_true rfl)) d_Gr_hasCycle_13 ⟨Nat.le_of_ble_eq_true rfl, Nat.le_of_ble_eq_true rfl⟩) hP hD hK hS hA [0] [] rfl rfl (by decide) (by decide) (fun r4 _ H locs er4 hP hD hK hS => ?_)
  have er4 : r4 = (-1) := er4
  subst er4
  have hK : va_K D cl [] s := hK
  have hP : va_P D cl [(gr, .inr (2, [.ref gc, .ref gf, .ref gp, .ref gb, .ref gl, .int 0]))] H := hP
  have hD : va_D A [(gr, .inr (2, [.ref gc, .ref gf, .ref gp, .ref gb, .ref gl, .int 0]))] := hD
  refine lv_istore hx hb d_Gr_hasCycle_16 hl (by decide) rfl (fun ls hl => ?_)
  have hl : lv_has ls 5 [(4, .int (-1)), (3, .int 3), (2, .int 0), (0, .ref gr), (1, .int 0)] := hl
  refine lv_iload hx hb d_Gr_hasCycle_18 (lv_at hl 0 rfl) ?_
  refine lv_iconst (v := (-1)) hx hb d_Gr_hasCycle_20 (by decide) ?_
  refine lv_icmp_eq (tgt := 31) hx hb d_Gr_hasCycle_21 (by decide) (fun b21 => ?_) (fun b21 => absurd b21 (by decide))
  refine lv_iinc (k := 1) (v := 4) hx hb d_Gr_hasCycle_31 hl rfl (by decide) (by decide) rfl (fun ls hl => ?_)
  have hl : lv_has ls 5 [(3, .int 4), (4, .int (-1)), (2, .int 0), (0, .ref gr), (1, .int 0)] := hl
  refine lv_goto (tgt := 4) hx hb d_Gr_hasCycle_34 (by decide) ?_
  refine lv_iload_n hx hb d_Gr_hasCycle_4 rfl (lv_at hl 0 rfl) ?_
  refine lv_bipush (v := 12) hx hb d_Gr_hasCycle_5 (by decide) ?_
  refine lv_icmp_ge (tgt := 37) hx hb d_Gr_hasCycle_7 (by decide) (fun b7 => absurd b7 (by decide)) (fun b7 => ?_)
  refine lv_aload_n hx hb d_Gr_hasCycle_10 rfl (lv_at hl 3 rfl) ?_
  refine lv_iload_n hx hb d_Gr_hasCycle_11 rfl (lv_at hl 4 rfl) ?_
  refine lv_iload_n hx hb d_Gr_hasCycle_12 rfl (lv_at hl 2 rfl) ?_
  have hPc := hP.sub (ws' := [(gr, .inr (2, [.ref gc, .ref gf, .ref gp, .ref gb, .ref gl, .int 0]))]) [0] rfl
  have hDc := hD.sub (ws' := [(gr, .inr (2, [.ref gc, .ref gf, .ref gp, .ref gb, .ref gl, .int 0]))]) [0] (by decide) rfl
  have hKc := hK.sub (tys' := []) [] rfl
  refine xgi (wsC := [(gr, .inr (2, [.ref gc, .ref gf, .ref gp, .ref gb, .ref gl, .int 0]))]) (wr := []) (va_runV (As := [.int 0, .int 0]) (rest := []) ⟨hx, hb, hml, hown, hts⟩ (c_Gr_nextToLookAt l  D gr gc gf gp gb gl 0 0 _ ) ⟨(callB_of 2 hts (x_good k_Gr_nextToLookAt) rfl rfl rfl (hts _ (List.mem_cons_of_mem _ tw_3)) (hts _ (List.mem_cons_of_mem _ tw_477)) (by decide +kernel) ⟨Nat.le_of_ble_eq_true rfl, Nat.le_of_ble_eq_true rfl⟩), (hts _ (List.mem_cons_of_mem _ tw_479)), (hts _ (List.mem_cons_of_mem _ (x_sel 27 rfl)))⟩ (xP_V (va_recv (ci := 2) (q0 := 0) hK hP rfl rfl) hPc hKc hDc hAm hTh hAs hS) rfl rfl hl.1 rfl (lv_room (Nat.le_of_ble_eq_true rfl)) d_Gr_hasCycle_13 ⟨Nat.le_of_ble_eq_true rfl, Nat.le_of_ble_eq_true rfl⟩) hP hD hK hS hA [0] [] rfl rfl (by decide) (by decide) (fun r5 _ H locs er5 hP hD hK hS => ?_)
  have er5 : r5 = (-1) := er5
  subst er5
  have hK : va_K D cl [] s := hK
  have hP : va_P D cl [(gr, .inr (2, [.ref gc, .ref gf, .ref gp, .ref gb, .ref gl, .int 0]))] H := hP
  have hD : va_D A [(gr, .inr (2, [.ref gc, .ref gf, .ref gp, .ref gb, .ref gl, .int 0]))] := hD
  refine lv_istore hx hb d_Gr_hasCycle_16 hl (by decide) rfl (fun ls hl => ?_)
  have hl : lv_has ls 5 [(4, .int (-1)), (3, .int 4), (2, .int 0), (0, .ref gr), (1, .int 0)] := hl
  refine lv_iload hx hb d_Gr_hasCycle_18 (lv_at hl 0 rfl) ?_
  refine lv_iconst (v := (-1)) hx hb d_Gr_hasCycle_20 (by decide) ?_
  refine lv_icmp_eq (tgt := 31) hx hb d_Gr_hasCycle_21 (by decide) (fun b21 => ?_) (fun b21 => absurd b21 (by decide))
  refine lv_iinc (k := 1) (v := 5) hx hb d_Gr_hasCycle_31 hl rfl (by decide) (by decide) rfl (fun ls hl => ?_)
  have hl : lv_has ls 5 [(3, .int 5), (4, .int (-1)), (2, .int 0), (0, .ref gr), (1, .int 0)] := hl
  refine lv_goto (tgt := 4) hx hb d_Gr_hasCycle_34 (by decide) ?_
  refine lv_iload_n hx hb d_Gr_hasCycle_4 rfl (lv_at hl 0 rfl) ?_
  refine lv_bipush (v := 12) hx hb d_Gr_hasCycle_5 (by decide) ?_
  refine lv_icmp_ge (tgt := 37) hx hb d_Gr_hasCycle_7 (by decide) (fun b7 => absurd b7 (by decide)) (fun b7 => ?_)
  refine lv_aload_n hx hb d_Gr_hasCycle_10 rfl (lv_at hl 3 rfl) ?_
  refine lv_iload_n hx hb d_Gr_hasCycle_11 rfl (lv_at hl 4 rfl) ?_
  refine lv_iload_n hx hb d_Gr_hasCycle_12 rfl (lv_at hl 2 rfl) ?_
  have hPc := hP.sub (ws' := [(gr, .inr (2, [.ref gc, .ref gf, .ref gp, .ref gb, .ref gl, .int 0]))]) [0] rfl
  have hDc := hD.sub (ws' := [(gr, .inr (2, [.ref gc, .ref gf, .ref gp, .ref gb, .ref gl, .int 0]))]) [0] (by decide) rfl
  have hKc := hK.sub (tys' := []) [] rfl
  refine xgi (wsC := [(gr, .inr (2, [.ref gc, .ref gf, .ref gp, .ref gb, .ref gl, .int 0]))]) (wr := []) (va_runV (As := [.int 0, .int 0]) (rest := []) ⟨hx, hb, hml, hown, hts⟩ (c_Gr_nextToLookAt l  D gr gc gf gp gb gl 0 0 _ ) ⟨(callB_of 2 hts (x_good k_Gr_nextToLookAt) rfl rfl rfl (hts _ (List.mem_cons_of_mem _ tw_3)) (hts _ (List.mem_cons_of_mem _ tw_477)) (by decide +kernel) ⟨Nat.le_of_ble_eq_true rfl, Nat.le_of_ble_eq_true rfl⟩), (hts _ (List.mem_cons_of_mem _ tw_479)), (hts _ (List.mem_cons_of_mem _ (x_sel 27 rfl)))⟩ (xP_V (va_recv (ci := 2) (q0 := 0) hK hP rfl rfl) hPc hKc hDc hAm hTh hAs hS) rfl rfl hl.1 rfl (lv_room (Nat.le_of_ble_eq_true rfl)) d_Gr_hasCycle_13 ⟨Nat.le_of_ble_eq_true rfl, Nat.le_of_ble_eq_true rfl⟩) hP hD hK hS hA [0] [] rfl rfl (by decide) (by decide) (fun r6 _ H locs er6 hP hD hK hS => ?_)
  have er6 : r6 = (-1) := er6
  subst er6
  have hK : va_K D cl [] s := hK
  have hP : va_P D cl [(gr, .inr (2, [.ref gc, .ref gf, .ref gp, .ref gb, .ref gl, .int 0]))] H := hP
  have hD : va_D A [(gr, .inr (2, [.ref gc, .ref gf, .ref gp, .ref gb, .ref gl, .int 0]))] := hD
  refine lv_istore hx hb d_Gr_hasCycle_16 hl (by decide) rfl (fun ls hl => ?_)
  have hl : lv_has ls 5 [(4, .int (-1)), (3, .int 5), (2, .int 0), (0, .ref gr), (1, .int 0)] := hl
  refine lv_iload hx hb d_Gr_hasCycle_18 (lv_at hl 0 rfl) ?_
  refine lv_iconst (v := (-1)) hx hb d_Gr_hasCycle_20 (by decide) ?_
  refine lv_icmp_eq (tgt := 31) hx hb d_Gr_hasCycle_21 (by decide) (fun b21 => ?_) (fun b21 => absurd b21 (by decide))
  refine lv_iinc (k := 1) (v := 6) hx hb d_Gr_hasCycle_31 hl rfl (by decide) (by decide) rfl (fun ls hl => ?_)
  have hl : lv_has ls 5 [(3, .int 6), (4, .int (-1)), (2, .int 0), (0, .ref gr), (1, .int 0)] := hl
  refine lv_goto (tgt := 4) hx hb d_Gr_hasCycle_34 (by decide) ?_
  refine lv_iload_n hx hb d_Gr_hasCycle_4 rfl (lv_at hl 0 rfl) ?_
  refine lv_bipush (v := 12) hx hb d_Gr_hasCycle_5 (by decide) ?_
  refine lv_icmp_ge (tgt := 37) hx hb d_Gr_hasCycle_7 (by decide) (fun b7 => absurd b7 (by decide)) (fun b7 => ?_)
  refine lv_aload_n hx hb d_Gr_hasCycle_10 rfl (lv_at hl 3 rfl) ?_
  refine lv_iload_n hx hb d_Gr_hasCycle_11 rfl (lv_at hl 4 rfl) ?_
  refine lv_iload_n hx hb d_Gr_hasCycle_12 rfl (lv_at hl 2 rfl) ?_
  have hPc := hP.sub (ws' := [(gr, .inr (2, [.ref gc, .ref gf, .ref gp, .ref gb, .ref gl, .int 0]))]) [0] rfl
  have hDc := hD.sub (ws' := [(gr, .inr (2, [.ref gc, .ref gf, .ref gp, .ref gb, .ref gl, .int 0]))]) [0] (by decide) rfl
  have hKc := hK.sub (tys' := []) [] rfl
  refine xgi (wsC := [(gr, .inr (2, [.ref gc, .ref gf, .ref gp, .ref gb, .ref gl, .int 0]))]) (wr := []) (va_runV (As := [.int 0, .int 0]) (rest := []) ⟨hx, hb, hml, hown, hts⟩ (c_Gr_nextToLookAt l  D gr gc gf gp gb gl 0 0 _ ) ⟨(callB_of 2 hts (x_good k_Gr_nextToLookAt) rfl rfl rfl (hts _ (List.mem_cons_of_mem _ tw_3)) (hts _ (List.mem_cons_of_mem _ tw_477)) (by decide +kernel) ⟨Nat.le_of_ble_eq_true rfl, Nat.le_of_ble_eq_true rfl⟩), (hts _ (List.mem_cons_of_mem _ tw_479)), (hts _ (List.mem_cons_of_mem _ (x_sel 27 rfl)))⟩ (xP_V (va_recv (ci := 2) (q0 := 0) hK hP rfl rfl) hPc hKc hDc hAm hTh hAs hS) rfl rfl hl.1 rfl (lv_room (Nat.le_of_ble_eq_true rfl)) d_Gr_hasCycle_13 ⟨Nat.le_of_ble_eq_true rfl, Nat.le_of_ble_eq_true rfl⟩) hP hD hK hS hA [0] [] rfl rfl (by decide) (by decide) (fun r7 _ H locs er7 hP hD hK hS => ?_)
  have er7 : r7 = (-1) := er7
  subst er7
  have hK : va_K D cl [] s := hK
  have hP : va_P D cl [(gr, .inr (2, [.ref gc, .ref gf, .ref gp, .ref gb, .ref gl, .int 0]))] H := hP
  have hD : va_D A [(gr, .inr (2, [.ref gc, .ref gf, .ref gp, .ref gb, .ref gl, .int 0]))] := hD
  refine lv_istore hx hb d_Gr_hasCycle_16 hl (by decide) rfl (fun ls hl => ?_)
  have hl : lv_has ls 5 [(4, .int (-1)), (3, .int 6), (2, .int 0), (0, .ref gr), (1, .int 0)] := hl
  refine lv_iload hx hb d_Gr_hasCycle_18 (lv_at hl 0 rfl) ?_
  refine lv_iconst (v := (-1)) hx hb d_Gr_hasCycle_20 (by decide) ?_
  refine lv_icmp_eq (tgt := 31) hx hb d_Gr_hasCycle_21 (by decide) (fun b21 => ?_) (fun b21 => absurd b21 (by decide))
  refine lv_iinc (k := 1) (v := 7) hx hb d_Gr_hasCycle_31 hl rfl (by decide) (by decide) rfl (fun ls hl => ?_)
  have hl : lv_has ls 5 [(3, .int 7), (4, .int (-1)), (2, .int 0), (0, .ref gr), (1, .int 0)] := hl
  refine lv_goto (tgt := 4) hx hb d_Gr_hasCycle_34 (by decide) ?_
  refine lv_iload_n hx hb d_Gr_hasCycle_4 rfl (lv_at hl 0 rfl) ?_
  refine lv_bipush (v := 12) hx hb d_Gr_hasCycle_5 (by decide) ?_
  refine lv_icmp_ge (tgt := 37) hx hb d_Gr_hasCycle_7 (by decide) (fun b7 => absurd b7 (by decide)) (fun b7 => ?_)
  refine lv_aload_n hx hb d_Gr_hasCycle_10 rfl (lv_at hl 3 rfl) ?_
  refine lv_iload_n hx hb d_Gr_hasCycle_11 rfl (lv_at hl 4 rfl) ?_
  refine lv_iload_n hx hb d_Gr_hasCycle_12 rfl (lv_at hl 2 rfl) ?_
  have hPc := hP.sub (ws' := [(gr, .inr (2, [.ref gc, .ref gf, .ref gp, .ref gb, .ref gl, .int 0]))]) [0] rfl
  have hDc := hD.sub (ws' := [(gr, .inr (2, [.ref gc, .ref gf, .ref gp, .ref gb, .ref gl, .int 0]))]) [0] (by decide) rfl
  have hKc := hK.sub (tys' := []) [] rfl
  refine xgi (wsC := [(gr, .inr (2, [.ref gc, .ref gf, .ref gp, .ref gb, .ref gl, .int 0]))]) (wr := []) (va_runV (As := [.int 0, .int 0]) (rest := []) ⟨hx, hb, hml, hown, hts⟩ (c_Gr_nextToLookAt l  D gr gc gf gp gb gl 0 0 _ ) ⟨(callB_of 2 hts (x_good k_Gr_nextToLookAt) rfl rfl rfl (hts _ (List.mem_cons_of_mem _ tw_3)) (hts _ (List.mem_cons_of_mem _ tw_477)) (by decide +kernel) ⟨Nat.le_of_ble_eq_true rfl, Nat.le_of_ble_eq_true rfl⟩), (hts _ (List.mem_cons_of_mem _ tw_479)), (hts _ (List.mem_cons_of_mem _ (x_sel 27 rfl)))⟩ (xP_V (va_recv (ci := 2) (q0 := 0) hK hP rfl rfl) hPc hKc hDc hAm hTh hAs hS) rfl rfl hl.1 rfl (lv_room (Nat.le_of_ble_eq_true rfl)) d_Gr_hasCycle_13 ⟨Nat.le_of_ble_eq_true rfl, Nat.le_of_ble_eq_true rfl⟩) hP hD hK hS hA [0] [] rfl rfl (by decide) (by decide) (fun r8 _ H locs er8 hP hD hK hS => ?_)
  have er8 : r8 = (-1) := er8
  subst er8
  have hK : va_K D cl [] s := hK
  have hP : va_P D cl [(gr, .inr (2, [.ref gc, .ref gf, .ref gp, .ref gb, .ref gl, .int 0]))] H := hP
  have hD : va_D A [(gr, .inr (2, [.ref gc, .ref gf, .ref gp, .ref gb, .ref gl, .int 0]))] := hD
  refine lv_istore hx hb d_Gr_hasCycle_16 hl (by decide) rfl (fun ls hl => ?_)
  have hl : lv_has ls 5 [(4, .int (-1)), (3, .int 7), (2, .int 0), (0, .ref gr), (1, .int 0)] := hl
  refine lv_iload hx hb d_Gr_hasCycle_18 (lv_at hl 0 rfl) ?_
  refine lv_iconst (v := (-1)) hx hb d_Gr_hasCycle_20 (by decide) ?_
  refine lv_icmp_eq (tgt := 31) hx hb d_Gr_hasCycle_21 (by decide) (fun b21 => ?_) (fun b21 => absurd b21 (by decide))
  refine lv_iinc (k := 1) (v := 8) hx hb d_Gr_hasCycle_31 hl rfl (by decide) (by decide) rfl (fun ls hl => ?_)
  have hl : lv_has ls 5 [(3, .int 8), (4, .int (-1)), (2, .int 0), (0, .ref gr), (1, .int 0)] := hl
  refine lv_goto (tgt := 4) hx hb d_Gr_hasCycle_34 (by decide) ?_
  refine lv_iload_n hx hb d_Gr_hasCycle_4 rfl (lv_at hl 0 rfl) ?_
  refine lv_bipush (v := 12) hx hb d_Gr_hasCycle_5 (by decide) ?_
  refine lv_icmp_ge (tgt := 37) hx hb d_Gr_hasCycle_7 (by decide) (fun b7 => absurd b7 (by decide)) (fun b7 => ?_)
  refine lv_aload_n hx hb d_Gr_hasCycle_10 rfl (lv_at hl 3 rfl) ?_
  refine lv_iload_n hx hb d_Gr_hasCycle_11 rfl (lv_at hl 4 rfl) ?_
  refine lv_iload_n hx hb d_Gr_hasCycle_12 rfl (lv_at hl 2 rfl) ?_
  have hPc := hP.sub (ws' := [(gr, .inr (2, [.ref gc, .ref gf, .ref gp, .ref gb, .ref gl, .int 0]))]) [0] rfl
  have hDc := hD.sub (ws' := [(gr, .inr (2, [.ref gc, .ref gf, .ref gp, .ref gb, .ref gl, .int 0]))]) [0] (by decide) rfl
  have hKc := hK.sub (tys' := []) [] rfl
  refine xgi (wsC := [(gr, .inr (2, [.ref gc, .ref gf, .ref gp, .ref gb, .ref gl, .int 0]))]) (wr := []) (va_runV (As := [.int 0, .int 0]) (rest := []) ⟨hx, hb, hml, hown, hts⟩ (c_Gr_nextToLookAt l  D gr gc gf gp gb gl 0 0 _ ) ⟨(callB_of 2 hts (x_good k_Gr_nextToLookAt) rfl rfl rfl (hts _ (List.mem_cons_of_mem _ tw_3)) (hts _ (List.mem_cons_of_mem _ tw_477)) (by decide +kernel) ⟨Nat.le_of_ble_eq_true rfl, Nat.le_of_ble_eq_true rfl⟩), (hts _ (List.mem_cons_of_mem _ tw_479)), (hts _ (List.mem_cons_of_mem _ (x_sel 27 rfl)))⟩ (xP_V (va_recv (ci := 2) (q0 := 0) hK hP rfl rfl) hPc hKc hDc hAm hTh hAs hS) rfl rfl hl.1 rfl (lv_room (Nat.le_of_ble_eq_true rfl)) d_Gr_hasCycle_13 ⟨Nat.le_of_ble_eq_true rfl, Nat.le_of_ble_eq_true rfl⟩) hP hD hK hS hA [0] [] rfl rfl (by decide) (by decide) (fun r9 _ H locs er9 hP hD hK hS => ?_)
  have er9 : r9 = (-1) := er9
  subst er9
  have hK : va_K D cl [] s := hK
  have hP : va_P D cl [(gr, .inr (2, [.ref gc, .ref gf, .ref gp, .ref gb, .ref gl, .int 0]))] H := hP
  have hD : va_D A [(gr, .inr (2, [.ref gc, .ref gf, .ref gp, .ref gb, .ref gl, .int 0]))] := hD
  refine lv_istore hx hb d_Gr_hasCycle_16 hl (by decide) rfl (fun ls hl => ?_)
  have hl : lv_has ls 5 [(4, .int (-1)), (3, .int 8), (2, .int 0), (0, .ref gr), (1, .int 0)] := hl
  refine lv_iload hx hb d_Gr_hasCycle_18 (lv_at hl 0 rfl) ?_
  refine lv_iconst (v := (-1)) hx hb d_Gr_hasCycle_20 (by decide) ?_
  refine lv_icmp_eq (tgt := 31) hx hb d_Gr_hasCycle_21 (by decide) (fun b21 => ?_) (fun b21 => absurd b21 (by decide))
  refine lv_iinc (k := 1) (v := 9) hx hb d_Gr_hasCycle_31 hl rfl (by decide) (by decide) rfl (fun ls hl => ?_)
  have hl : lv_has ls 5 [(3, .int 9), (4, .int (-1)), (2, .int 0), (0, .ref gr), (1, .int 0)] := hl
  refine lv_goto (tgt := 4) hx hb d_Gr_hasCycle_34 (by decide) ?_
  refine lv_iload_n hx hb d_Gr_hasCycle_4 rfl (lv_at hl 0 rfl) ?_
  refine lv_bipush (v := 12) hx hb d_Gr_hasCycle_5 (by decide) ?_
  refine lv_icmp_ge (tgt := 37) hx hb d_Gr_hasCycle_7 (by decide) (fun b7 => absurd b7 (by decide)) (fun b7 => ?_)
  refine lv_aload_n hx hb d_Gr_hasCycle_10 rfl (lv_at hl 3 rfl) ?_
  refine lv_iload_n hx hb d_Gr_hasCycle_11 rfl (lv_at hl 4 rfl) ?_
  refine lv_iload_n hx hb d_Gr_hasCycle_12 rfl (lv_at hl 2 rfl) ?_
  have hPc := hP.sub (ws' := [(gr, .inr (2, [.ref gc, .ref gf, .ref gp, .ref gb, .ref gl, .int 0]))]) [0] rfl
  have hDc := hD.sub (ws' := [(gr, .inr (2, [.ref gc, .ref gf, .ref gp, .ref gb, .ref gl, .int 0]))]) [0] (by decide) rfl
  have hKc := hK.sub (tys' := []) [] rfl
  refine xgi (wsC := [(gr, .inr (2, [.ref gc, .ref gf, .ref gp, .ref gb, .ref gl, .int 0]))]) (wr := []) (va_runV (As := [.int 0, .int 0]) (rest := []) ⟨hx, hb, hml, hown, hts⟩ (c_Gr_nextToLookAt l  D gr gc gf gp gb gl 0 0 _ ) ⟨(callB_of 2 hts (x_good k_Gr_nextToLookAt) rfl rfl rfl (hts _ (List.mem_cons_of_mem _ tw_3)) (hts _ (List.mem_cons_of_mem _ tw_477)) (by decide +kernel) ⟨Nat.le_of_ble_eq_true rfl, Nat.le_of_ble_eq_true rfl⟩), (hts _ (List.mem_cons_of_mem _ tw_479)), (hts _ (List.mem_cons_of_mem _ (x_sel 27 rfl)))⟩ (xP_V (va_recv (ci := 2) (q0 := 0) hK hP rfl rfl) hPc hKc hDc hAm hTh hAs hS) rfl rfl hl.1 rfl (lv_room (Nat.le_of_ble_eq_true rfl)) d_Gr_hasCycle_13 ⟨Nat.le_of_ble_eq_true rfl, Nat.le_of_ble_eq_true rfl⟩) hP hD hK hS hA [0] [] rfl rfl (by decide) (by decide) (fun r10 _ H locs er10 hP hD hK hS => ?_)
  have er10 : r10 = (-1) := er10
  subst er10
  have hK : va_K D cl [] s := hK
  have hP : va_P D cl [(gr, .inr (2, [.ref gc, .ref gf, .ref gp, .ref gb, .ref gl, .int 0]))] H := hP
  have hD : va_D A [(gr, .inr (2, [.ref gc, .ref gf, .ref gp, .ref gb, .ref gl, .int 0]))] := hD
  refine lv_istore hx hb d_Gr_hasCycle_16 hl (by decide) rfl (fun ls hl => ?_)
  have hl : lv_has ls 5 [(4, .int (-1)), (3, .int 9), (2, .int 0), (0, .ref gr), (1, .int 0)] := hl
  refine lv_iload hx hb d_Gr_hasCycle_18 (lv_at hl 0 rfl) ?_
  refine lv_iconst (v := (-1)) hx hb d_Gr_hasCycle_20 (by decide) ?_
  refine lv_icmp_eq (tgt := 31) hx hb d_Gr_hasCycle_21 (by decide) (fun b21 => ?_) (fun b21 => absurd b21 (by decide))
  refine lv_iinc (k := 1) (v := 10) hx hb d_Gr_hasCycle_31 hl rfl (by decide) (by decide) rfl (fun ls hl => ?_)
  have hl : lv_has ls 5 [(3, .int 10), (4, .int (-1)), (2, .int 0), (0, .ref gr), (1, .int 0)] := hl
  refine lv_goto (tgt := 4) hx hb d_Gr_hasCycle_34 (by decide) ?_
  refine lv_iload_n hx hb d_Gr_hasCycle_4 rfl (lv_at hl 0 rfl) ?_
  refine lv_bipush (v := 12) hx hb d_Gr_hasCycle_5 (by decide) ?_
  refine lv_icmp_ge (tgt := 37) hx hb d_Gr_hasCycle_7 (by decide) (fun b7 => absurd b7 (by decide)) (fun b7 => ?_)
  refine lv_aload_n hx hb d_Gr_hasCycle_10 rfl (lv_at hl 3 rfl) ?_
  refine lv_iload_n hx hb d_Gr_hasCycle_11 rfl (lv_at hl 4 rfl) ?_
  refine lv_iload_n hx hb d_Gr_hasCycle_12 rfl (lv_at hl 2 rfl) ?_
  have hPc := hP.sub (ws' := [(gr, .inr (2, [.ref gc, .ref gf, .ref gp, .ref gb, .ref gl, .int 0]))]) [0] rfl
  have hDc := hD.sub (ws' := [(gr, .inr (2, [.ref gc, .ref gf, .ref gp, .ref gb, .ref gl, .int 0]))]) [0] (by decide) rfl
  have hKc := hK.sub (tys' := []) [] rfl
  refine xgi (wsC := [(gr, .inr (2, [.ref gc, .ref gf, .ref gp, .ref gb, .ref gl, .int 0]))]) (wr := []) (va_runV (As := [.int 0, .int 0]) (rest := []) ⟨hx, hb, hml, hown, hts⟩ (c_Gr_nextToLookAt l  D gr gc gf gp gb gl 0 0 _ ) ⟨(callB_of 2 hts (x_good k_Gr_nextToLookAt) rfl rfl rfl (hts _ (List.mem_cons_of_mem _ tw_3)) (hts _ (List.mem_cons_of_mem _ tw_477)) (by decide +kernel) ⟨Nat.le_of_ble_eq_true rfl, Nat.le_of_ble_eq_true rfl⟩), (hts _ (List.mem_cons_of_mem _ tw_479)), (hts _ (List.mem_cons_of_mem _ (x_sel 27 rfl)))⟩ (xP_V (va_recv (ci := 2) (q0 := 0) hK hP rfl rfl) hPc hKc hDc hAm hTh hAs hS) rfl rfl hl.1 rfl (lv_room (Nat.le_of_ble_eq_true rfl)) d_Gr_hasCycle_13 ⟨Nat.le_of_ble_eq_true rfl, Nat.le_of_ble_eq_true rfl⟩) hP hD hK hS hA [0] [] rfl rfl (by decide) (by decide) (fun r11 _ H locs er11 hP hD hK hS => ?_)
  have er11 : r11 = (-1) := er11
  subst er11
  have hK : va_K D cl [] s := hK
  have hP : va_P D cl [(gr, .inr (2, [.ref gc, .ref gf, .ref gp, .ref gb, .ref gl, .int 0]))] H := hP
  have hD : va_D A [(gr, .inr (2, [.ref gc, .ref gf, .ref gp, .ref gb, .ref gl, .int 0]))] := hD
  refine lv_istore hx hb d_Gr_hasCycle_16 hl (by decide) rfl (fun ls hl => ?_)
  have hl : lv_has ls 5 [(4, .int (-1)), (3, .int 10), (2, .int 0), (0, .ref gr), (1, .int 0)] := hl
  refine lv_iload hx hb d_Gr_hasCycle_18 (lv_at hl 0 rfl) ?_
  refine lv_iconst (v := (-1)) hx hb d_Gr_hasCycle_20 (by decide) ?_
  refine lv_icmp_eq (tgt := 31) hx hb d_Gr_hasCycle_21 (by decide) (fun b21 => ?_) (fun b21 => absurd b21 (by decide))
  refine lv_iinc (k := 1) (v := 11) hx hb d_Gr_hasCycle_31 hl rfl (by decide) (by decide) rfl (fun ls hl => ?_)
  have hl : lv_has ls 5 [(3, .int 11), (4, .int (-1)), (2, .int 0), (0, .ref gr), (1, .int 0)] := hl
  refine lv_goto (tgt := 4) hx hb d_Gr_hasCycle_34 (by decide) ?_
  refine lv_iload_n hx hb d_Gr_hasCycle_4 rfl (lv_at hl 0 rfl) ?_
  refine lv_bipush (v := 12) hx hb d_Gr_hasCycle_5 (by decide) ?_
  refine lv_icmp_ge (tgt := 37) hx hb d_Gr_hasCycle_7 (by decide) (fun b7 => absurd b7 (by decide)) (fun b7 => ?_)
  refine lv_aload_n hx hb d_Gr_hasCycle_10 rfl (lv_at hl 3 rfl) ?_
  refine lv_iload_n hx hb d_Gr_hasCycle_11 rfl (lv_at hl 4 rfl) ?_
  refine lv_iload_n hx hb d_Gr_hasCycle_12 rfl (lv_at hl 2 rfl) ?_
  have hPc := hP.sub (ws' := [(gr, .inr (2, [.ref gc, .ref gf, .ref gp, .ref gb, .ref gl, .int 0]))]) [0] rfl
  have hDc := hD.sub (ws' := [(gr, .inr (2, [.ref gc, .ref gf, .ref gp, .ref gb, .ref gl, .int 0]))]) [0] (by decide) rfl
  have hKc := hK.sub (tys' := []) [] rfl
  refine xgi (wsC := [(gr, .inr (2, [.ref gc, .ref gf, .ref gp, .ref gb, .ref gl, .int 0]))]) (wr := []) (va_runV (As := [.int 0, .int 0]) (rest := []) ⟨hx, hb, hml, hown, hts⟩ (c_Gr_nextToLookAt l  D gr gc gf gp gb gl 0 0 _ ) ⟨(callB_of 2 hts (x_good k_Gr_nextToLookAt) rfl rfl rfl (hts _ (List.mem_cons_of_mem _ tw_3)) (hts _ (List.mem_cons_of_mem _ tw_477)) (by decide +kernel) ⟨Nat.le_of_ble_eq_true rfl, Nat.le_of_ble_eq_true rfl⟩), (hts _ (List.mem_cons_of_mem _ tw_479)), (hts _ (List.mem_cons_of_mem _ (x_sel 27 rfl)))⟩ (xP_V (va_recv (ci := 2) (q0 := 0) hK hP rfl rfl) hPc hKc hDc hAm hTh hAs hS) rfl rfl hl.1 rfl (lv_room (Nat.le_of_ble_eq_true rfl)) d_Gr_hasCycle_13 ⟨Nat.le_of_ble_eq_true rfl, Nat.le_of_ble_eq_true rfl⟩) hP hD hK hS hA [0] [] rfl rfl (by decide) (by decide) (fun r12 _ H locs er12 hP hD hK hS => ?_)
  have er12 : r12 = (-1) := er12
  subst er12
  have hK : va_K D cl [] s := hK
  have hP : va_P D cl [(gr, .inr (2, [.ref gc, .ref gf, .ref gp, .ref gb, .ref gl, .int 0]))] H := hP
  have hD : va_D A [(gr, .inr (2, [.ref gc, .ref gf, .ref gp, .ref gb, .ref gl, .int 0]))] := hD
  refine lv_istore hx hb d_Gr_hasCycle_16 hl (by decide) rfl (fun ls hl => ?_)
  have hl : lv_has ls 5 [(4, .int (-1)), (3, .int 11), (2, .int 0), (0, .ref gr), (1, .int 0)] := hl
  refine lv_iload hx hb d_Gr_hasCycle_18 (lv_at hl 0 rfl) ?_
  refine lv_iconst (v := (-1)) hx hb d_Gr_hasCycle_20 (by decide) ?_
  refine lv_icmp_eq (tgt := 31) hx hb d_Gr_hasCycle_21 (by decide) (fun b21 => ?_) (fun b21 => absurd b21 (by decide))
  refine lv_iinc (k := 1) (v := 12) hx hb d_Gr_hasCycle_31 hl rfl (by decide) (by decide) rfl (fun ls hl => ?_)
  have hl : lv_has ls 5 [(3, .int 12), (4, .int (-1)), (2, .int 0), (0, .ref gr), (1, .int 0)] := hl
  refine lv_goto (tgt := 4) hx hb d_Gr_hasCycle_34 (by decide) ?_
  refine lv_iload_n hx hb d_Gr_hasCycle_4 rfl (lv_at hl 0 rfl) ?_
  refine lv_bipush (v := 12) hx hb d_Gr_hasCycle_5 (by decide) ?_
  refine lv_icmp_ge (tgt := 37) hx hb d_Gr_hasCycle_7 (by decide) (fun b7 => ?_) (fun b7 => absurd b7 (by decide))
  refine lv_iload_n hx hb d_Gr_hasCycle_37 rfl (lv_at hl 2 rfl) ?_
  refine lv_iload_n hx hb d_Gr_hasCycle_38 rfl (lv_at hl 4 rfl) ?_
  refine lv_icmp_eq (tgt := 46) hx hb d_Gr_hasCycle_39 (by decide) (fun b39 => ?_) (fun b39 => absurd b39 (by decide))
  refine lv_iconst (v := 0) hx hb d_Gr_hasCycle_46 (by decide) ?_
  exact xrz () B d_Gr_hasCycle_47 (rfl) (rfl) (hP.sub (ws' := [(gr, .inr (2, [.ref gc, .ref gf, .ref gp, .ref gb, .ref gl, .int 0]))]) [0] rfl) (hK.sub (tys' := []) [] rfl) (hD.sub (ws' := [(gr, .inr (2, [.ref gc, .ref gf, .ref gp, .ref gb, .ref gl, .int 0]))]) [0] (by decide) rfl) hS (Nat.le_of_ble_eq_true rfl) (Nat.le_of_ble_eq_true rfl)
theorem d_Di_put_0 : decode b_Di_put 0 = .ok (.aload_n 0, 1) := by decide +kernel
theorem d_Di_put_1 : decode b_Di_put 1 = .ok (.dup, 1) := by decide +kernel
theorem d_Di_put_2 : decode b_Di_put 2 = .ok (.getfield 18, 3) := by decide +kernel
theorem d_Di_put_5 : decode b_Di_put 5 = .ok (.iconst (1), 1) := by decide +kernel
theorem d_Di_put_6 : decode b_Di_put 6 = .ok (.iadd, 1) := by decide +kernel
theorem d_Di_put_7 : decode b_Di_put 7 = .ok (.putfield 18, 3) := by decide +kernel
theorem d_Di_put_10 : decode b_Di_put 10 = .ok (.aload_n 0, 1) := by decide +kernel
theorem d_Di_put_11 : decode b_Di_put 11 = .ok (.getfield 9, 3) := by decide +kernel
theorem d_Di_put_14 : decode b_Di_put 14 = .ok (.iload_n 1, 1) := by decide +kernel
theorem d_Di_put_15 : decode b_Di_put 15 = .ok (.iload_n 2, 1) := by decide +kernel
theorem d_Di_put_16 : decode b_Di_put 16 = .ok (.iastore, 1) := by decide +kernel
theorem d_Di_put_17 : decode b_Di_put 17 = .ok (.aload_n 0, 1) := by decide +kernel
theorem d_Di_put_18 : decode b_Di_put 18 = .ok (.getfield 15, 3) := by decide +kernel
theorem d_Di_put_21 : decode b_Di_put 21 = .ok (.iload_n 1, 1) := by decide +kernel
theorem d_Di_put_22 : decode b_Di_put 22 = .ok (.aload_n 0, 1) := by decide +kernel
theorem d_Di_put_23 : decode b_Di_put 23 = .ok (.getfield 18, 3) := by decide +kernel
theorem d_Di_put_26 : decode b_Di_put 26 = .ok (.iastore, 1) := by decide +kernel
theorem d_Di_put_27 : decode b_Di_put 27 = .ok (.aload_n 0, 1) := by decide +kernel
theorem d_Di_put_28 : decode b_Di_put 28 = .ok (.dup, 1) := by decide +kernel
theorem d_Di_put_29 : decode b_Di_put 29 = .ok (.getfield 22, 3) := by decide +kernel
theorem d_Di_put_32 : decode b_Di_put 32 = .ok (.iconst (1), 1) := by decide +kernel
theorem d_Di_put_33 : decode b_Di_put 33 = .ok (.iload_n 1, 1) := by decide +kernel
theorem d_Di_put_34 : decode b_Di_put 34 = .ok (.ishl, 1) := by decide +kernel
theorem d_Di_put_35 : decode b_Di_put 35 = .ok (.ior, 1) := by decide +kernel
theorem d_Di_put_36 : decode b_Di_put 36 = .ok (.putfield 22, 3) := by decide +kernel
theorem d_Di_put_39 : decode b_Di_put 39 = .ok (.return_, 1) := by decide +kernel
set_option maxRecDepth 20000 in
set_option maxHeartbeats 4000000 in
theorem c_Di_put (l : Launch) (D : va_G) (di : Nat) (ct : Nat) (ti : Nat) (cI : ClassId) (f : Int32) (v : Int32) (sz : Nat) (h : xIn f 0 23 = 1) : xMv l y_Di_put w_Di_put { frames := 0, cells := 0, slots := 0, locals := 0 } D cl [.ref di, .int f, .int v] sz [(cI, .int)] [(di, .inr (1, [.ref ct, .ref ti, .int 0, .int 0])), (ct, .inl (cI, 24, .inl (fun _ => 0))), (ti, .inl (cI, 24, .inl (fun _ => 0)))] (fun (_ : Unit) => True) (fun _ => []) (fun _ => []) := by
  refine xMv_of (by decide +kernel) rfl (Nat.le_of_ble_eq_true rfl) ?_
  intro p e s m args below meth c ls A B hAe hA hsz hP hK hD hS hAm hTh hAs hl
  obtain ⟨⟨hx, hb, hml, hown, hts⟩, hret, hlk, hnm, hemp⟩ := id B
  have hl : lv_has ls 3 [(0, .ref di), (1, .int f), (2, .int v)] := hl
  refine lv_aload_n hx hb d_Di_put_0 rfl (lv_at hl 0 rfl) ?_
  refine lv_dup hx hb d_Di_put_1 rfl ?_
  refine va_get (D := D) (ci := 1) (v := .int 0) (C := R_Di) (T := F_Di) (N := 4) hx hb hts (fun w h => List.mem_cons_of_mem _ (u_Di w h)) hown hK hP 0 rfl rfl 2 (by decide) (hts _ (List.mem_cons_of_mem _ tw_35)) (fun _ h9 => h9) rfl d_Di_put_2 ?_
  refine lv_iconst (v := 1) hx hb d_Di_put_5 (by decide) ?_
  refine lv_iadd hx hb d_Di_put_6 ?_
  refine xnum (v := 1) (by decide) ?_
  refine va_put (D := D) (ci := 1) (v := .int 1) (ty := .int) (C := R_Di) (T := F_Di) (N := 4) hx hb hts (fun w h => List.mem_cons_of_mem _ (u_Di w h)) t_Di o_Di n_Di hown hK hP hD hS 0 rfl rfl 2 (by decide) (hts _ (List.mem_cons_of_mem _ tw_35)) (fun _ h9 => h9) rfl (by decide +kernel) rfl rfl (Nat.le_of_ble_eq_true rfl) d_Di_put_7 (fun H locs hP hD hS => ?_)
  have hP : va_P D cl [(di, .inr (1, [.ref ct, .ref ti, .int 1, .int 0])), (ct, .inl (cI, 24, .inl (fun _ => 0))), (ti, .inl (cI, 24, .inl (fun _ => 0)))] H := hP
  have hD : va_D A [(di, .inr (1, [.ref ct, .ref ti, .int 1, .int 0])), (ct, .inl (cI, 24, .inl (fun _ => 0))), (ti, .inl (cI, 24, .inl (fun _ => 0)))] := hD
  refine lv_aload_n hx hb d_Di_put_10 rfl (lv_at hl 0 rfl) ?_
  refine va_get (D := D) (ci := 1) (v := .ref ct) (C := R_Di) (T := F_Di) (N := 4) hx hb hts (fun w h => List.mem_cons_of_mem _ (u_Di w h)) hown hK hP 0 rfl rfl 0 (by decide) (hts _ (List.mem_cons_of_mem _ tw_31)) (fun _ h9 => h9) rfl d_Di_put_11 ?_
  refine lv_iload_n hx hb d_Di_put_14 rfl (lv_at hl 1 rfl) ?_
  refine lv_iload_n hx hb d_Di_put_15 rfl (lv_at hl 2 rfl) ?_
  refine va_iast hx hb hK hP hD hS 1 0 rfl rfl (xIn_in2 h (by decide) (by decide)) d_Di_put_16 (fun H locs hP hD hS => ?_)
  have hP : va_P D cl [(di, .inr (1, [.ref ct, .ref ti, .int 1, .int 0])), (ct, .inl (cI, 24, .inl (upd (fun _ => 0) f.toNatClampNeg v))), (ti, .inl (cI, 24, .inl (fun _ => 0)))] H := hP
  have hD : va_D A [(di, .inr (1, [.ref ct, .ref ti, .int 1, .int 0])), (ct, .inl (cI, 24, .inl (upd (fun _ => 0) f.toNatClampNeg v))), (ti, .inl (cI, 24, .inl (fun _ => 0)))] := hD
  refine lv_aload_n hx hb d_Di_put_17 rfl (lv_at hl 0 rfl) ?_
  refine va_get (D := D) (ci := 1) (v := .ref ti) (C := R_Di) (T := F_Di) (N := 4) hx hb hts (fun w h => List.mem_cons_of_mem _ (u_Di w h)) hown hK hP 0 rfl rfl 1 (by decide) (hts _ (List.mem_cons_of_mem _ tw_33)) (fun _ h9 => h9) rfl d_Di_put_18 ?_
  refine lv_iload_n hx hb d_Di_put_21 rfl (lv_at hl 1 rfl) ?_
  refine lv_aload_n hx hb d_Di_put_22 rfl (lv_at hl 0 rfl) ?_
  refine va_get (D := D) (ci := 1) (v := .int 1) (C := R_Di) (T := F_Di) (N := 4) hx hb hts (fun w h => List.mem_cons_of_mem _ (u_Di w h)) hown hK hP 0 rfl rfl 2 (by decide) (hts _ (List.mem_cons_of_mem _ tw_35)) (fun _ h9 => h9) rfl d_Di_put_23 ?_
  refine va_iast hx hb hK hP hD hS 2 0 rfl rfl (xIn_in2 h (by decide) (by decide)) d_Di_put_26 (fun H locs hP hD hS => ?_)
  have hP : va_P D cl [(di, .inr (1, [.ref ct, .ref ti, .int 1, .int 0])), (ct, .inl (cI, 24, .inl (upd (fun _ => 0) f.toNatClampNeg v))), (ti, .inl (cI, 24, .inl (upd (fun _ => 0) f.toNatClampNeg 1)))] H := hP
  have hD : va_D A [(di, .inr (1, [.ref ct, .ref ti, .int 1, .int 0])), (ct, .inl (cI, 24, .inl (upd (fun _ => 0) f.toNatClampNeg v))), (ti, .inl (cI, 24, .inl (upd (fun _ => 0) f.toNatClampNeg 1)))] := hD
  refine lv_aload_n hx hb d_Di_put_27 rfl (lv_at hl 0 rfl) ?_
  refine lv_dup hx hb d_Di_put_28 rfl ?_
  refine va_get (D := D) (ci := 1) (v := .int 0) (C := R_Di) (T := F_Di) (N := 4) hx hb hts (fun w h => List.mem_cons_of_mem _ (u_Di w h)) hown hK hP 0 rfl rfl 3 (by decide) (hts _ (List.mem_cons_of_mem _ tw_36)) (fun _ h9 => h9) rfl d_Di_put_29 ?_
  refine lv_iconst (v := 1) hx hb d_Di_put_32 (by decide) ?_
  refine lv_iload_n hx hb d_Di_put_33 rfl (lv_at hl 1 rfl) ?_
  refine lv_ishl hx hb d_Di_put_34 ?_
  refine lv_ior hx hb d_Di_put_35 ?_
  refine va_put (D := D) (ci := 1) (v := .int ((0 : Int32) ||| ((1 : Int32) <<< (f &&& 31)))) (ty := .int) (C := R_Di) (T := F_Di) (N := 4) hx hb hts (fun w h => List.mem_cons_of_mem _ (u_Di w h)) t_Di o_Di n_Di hown hK hP hD hS 0 rfl rfl 3 (by decide) (hts _ (List.mem_cons_of_mem _ tw_36)) (fun _ h9 => h9) rfl (by decide +kernel) rfl rfl (Nat.le_of_ble_eq_true rfl) d_Di_put_36 (fun H locs hP hD hS => ?_)
  have hP : va_P D cl [(di, .inr (1, [.ref ct, .ref ti, .int 1, .int ((0 : Int32) ||| ((1 : Int32) <<< (f &&& 31)))])), (ct, .inl (cI, 24, .inl (upd (fun _ => 0) f.toNatClampNeg v))), (ti, .inl (cI, 24, .inl (upd (fun _ => 0) f.toNatClampNeg 1)))] H := hP
  have hD : va_D A [(di, .inr (1, [.ref ct, .ref ti, .int 1, .int ((0 : Int32) ||| ((1 : Int32) <<< (f &&& 31)))])), (ct, .inl (cI, 24, .inl (upd (fun _ => 0) f.toNatClampNeg v))), (ti, .inl (cI, 24, .inl (upd (fun _ => 0) f.toNatClampNeg 1)))] := hD
  exact xrv () B d_Di_put_39 (trivial) (hP.sub (ws' := []) [] rfl) (hK.sub (tys' := []) [] rfl) (hD.sub (ws' := []) [] (by decide) rfl) hS (Nat.le_of_ble_eq_true rfl) (Nat.le_of_ble_eq_true rfl)
theorem d_RL_hasByte_0 : decode b_RL_hasByte 0 = .ok (.iload_n 1, 1) := by decide +kernel
theorem d_RL_hasByte_1 : decode b_RL_hasByte 1 = .ok (.iconst (0), 1) := by decide +kernel
theorem d_RL_hasByte_2 : decode b_RL_hasByte 2 = .ok (.aload_n 0, 1) := by decide +kernel
theorem d_RL_hasByte_3 : decode b_RL_hasByte 3 = .ok (.getfield 27, 3) := by decide +kernel
theorem d_RL_hasByte_6 : decode b_RL_hasByte 6 = .ok (.iconst (1), 1) := by decide +kernel
theorem d_RL_hasByte_7 : decode b_RL_hasByte 7 = .ok (.isub, 1) := by decide +kernel
theorem d_RL_hasByte_8 : decode b_RL_hasByte 8 = .ok (.invokestatic 31, 3) := by decide +kernel
theorem d_RL_hasByte_11 : decode b_RL_hasByte 11 = .ok (.ireturn, 1) := by decide +kernel
set_option maxRecDepth 20000 in
set_option maxHeartbeats 4000000 in
theorem c_RL_hasByte (l : Launch) (D : va_G) (rl : Nat) (rb : Nat) (rc : Nat) (rt : Nat) (x : Int32) (sz : Nat)  : xMi l y_RL_hasByte w_RL_hasByte { frames := 1, cells := 0, slots := 0, locals := 22 } D cl [.ref rl, .int x] sz [] [(rl, .inr (4, [.ref rb, .ref rc, .ref rt, .int 0]))] (fun (r : Int32) (_ : Unit) => r = 0) (fun _ => [(rl, .inr (4, [.ref rb, .ref rc, .ref rt, .int 0]))]) (fun _ => []) := by
  refine xMi_of (by decide +kernel) rfl (Nat.le_of_ble_eq_true rfl) ?_
  intro p e s m args below meth c ls A B hAe hA hsz hP hK hD hS hAm hTh hAs hl
  obtain ⟨⟨hx, hb, hml, hown, hts⟩, hret, hlk, hnm, hemp⟩ := id B
  have hl : lv_has ls 2 [(0, .ref rl), (1, .int x)] := hl
  refine lv_iload_n hx hb d_RL_hasByte_0 rfl (lv_at hl 1 rfl) ?_
  refine lv_iconst (v := 0) hx hb d_RL_hasByte_1 (by decide) ?_
  refine lv_aload_n hx hb d_RL_hasByte_2 rfl (lv_at hl 0 rfl) ?_
  refine va_get (D := D) (ci := 4) (v := .int 0) (C := R_RL) (T := F_RL) (N := 4) hx hb hts (fun w h => List.mem_cons_of_mem _ (u_RL w h)) hown hK hP 0 rfl rfl 3 (by decide) (hts _ (List.mem_cons_of_mem _ tw_111)) (fun _ h9 => h9) rfl d_RL_hasByte_3 ?_
  refine lv_iconst (v := 1) hx hb d_RL_hasByte_6 (by decide) ?_
  refine lv_isub hx hb d_RL_hasByte_7 ?_
  refine xnum (v := (-1)) (by decide) ?_
  have hPc := hP.sub (ws' := []) [] rfl
  have hDc := hD.sub (ws' := []) [] (by decide) rfl
  have hKc := hK.sub (tys' := []) [] rfl
  refine xgi (wsC := []) (wr := [(rl, .inr (4, [.ref rb, .ref rc, .ref rt, .int 0]))]) (va_runSN (As := [.int x, .int 0, .int (-1)]) (rest := []) ⟨hx, hb, hml, hown, hts⟩ (c_FB_isIn l  D x 0 (-1) _ ) ⟨(va_cnB 3 hts (x_good k_FB_isIn) rfl rfl rfl (hAm.1 _ (List.mem_of_getElem? (i := 28) rfl)) (hts _ (List.mem_cons_of_mem _ tw_1)) (by decide +kernel) ⟨Nat.le_of_ble_eq_true rfl, Nat.le_of_ble_eq_true rfl⟩), (hts _ (List.mem_cons_of_mem _ tw_226)), trivial⟩ (xP_S hPc hKc hDc hAm hTh hAs hS) rfl rfl hl.1 rfl (lv_room (Nat.le_of_ble_eq_true rfl)) d_RL_hasByte_8 ⟨Nat.le_of_ble_eq_true rfl, Nat.le_of_ble_eq_true rfl⟩) hP hD hK hS hA [] [0] rfl rfl (by decide) (by decide) (fun r1 _ H locs er1 hP hD hK hS => ?_)
  have er1 : r1 = xIn x 0 (-1) := er1
  subst er1
  have hK : va_K D cl [] s := hK
  have hP : va_P D cl [(rl, .inr (4, [.ref rb, .ref rc, .ref rt, .int 0]))] H := hP
  have hD : va_D A [(rl, .inr (4, [.ref rb, .ref rc, .ref rt, .int 0]))] := hD
  exact xrz () B d_RL_hasByte_11 (xIn_nar _ _ _) (xIn_none x) (hP.sub (ws' := [(rl, .inr (4, [.ref rb, .ref rc, .ref rt, .int 0]))]) [0] rfl) (hK.sub (tys' := []) [] rfl) (hD.sub (ws' := [(rl, .inr (4, [.ref rb, .ref rc, .ref rt, .int 0]))]) [0] (by decide) rfl) hS (Nat.le_of_ble_eq_true rfl) (Nat.le_of_ble_eq_true rfl)
theorem d_RL_hasRecord_0 : decode b_RL_hasRecord 0 = .ok (.aload_n 0, 1) := by decide +kernel
theorem d_RL_hasRecord_1 : decode b_RL_hasRecord 1 = .ok (.getfield 15, 3) := by decide +kernel
theorem d_RL_hasRecord_4 : decode b_RL_hasRecord 4 = .ok (.iload_n 1, 1) := by decide +kernel
theorem d_RL_hasRecord_5 : decode b_RL_hasRecord 5 = .ok (.iaload, 1) := by decide +kernel
theorem d_RL_hasRecord_6 : decode b_RL_hasRecord 6 = .ok (.iconst (-1), 1) := by decide +kernel
theorem d_RL_hasRecord_7 : decode b_RL_hasRecord 7 = .ok (.if_icmp .eq (7), 3) := by decide +kernel
theorem d_RL_hasRecord_14 : decode b_RL_hasRecord 14 = .ok (.iconst (0), 1) := by decide +kernel
theorem d_RL_hasRecord_15 : decode b_RL_hasRecord 15 = .ok (.ireturn, 1) := by decide +kernel
set_option maxRecDepth 20000 in
set_option maxHeartbeats 4000000 in
theorem c_RL_hasRecord (l : Launch) (D : va_G) (rl : Nat) (rc : Nat) (rb : Nat) (rt : Nat) (cI : ClassId) (f : Int32) (sz : Nat) (h : xIn f 0 23 = 1) : xMi l y_RL_hasRecord w_RL_hasRecord { frames := 0, cells := 0, slots := 0, locals := 0 } D cl [.ref rl, .int f] sz [(cI, .int)] [(rl, .inr (4, [.ref rb, .ref rc, .ref rt, .int 0])), (rc, .inl (cI, 24, .inl (fun _ => (-1))))] (fun (r : Int32) (_ : Unit) => r = 0) (fun _ => [(rl, .inr (4, [.ref rb, .ref rc, .ref rt, .int 0])), (rc, .inl (cI, 24, .inl (fun _ => (-1))))]) (fun _ => []) := by
  refine xMi_of (by decide +kernel) rfl (Nat.le_of_ble_eq_true rfl) ?_
  intro p e s m args below meth c ls A B hAe hA hsz hP hK hD hS hAm hTh hAs hl
  obtain ⟨⟨hx, hb, hml, hown, hts⟩, hret, hlk, hnm, hemp⟩ := id B
  have hl : lv_has ls 2 [(0, .ref rl), (1, .int f)] := hl
  refine lv_aload_n hx hb d_RL_hasRecord_0 rfl (lv_at hl 0 rfl) ?_
  refine va_get (D := D) (ci := 4) (v := .ref rc) (C := R_RL) (T := F_RL) (N := 4) hx hb hts (fun w h => List.mem_cons_of_mem _ (u_RL w h)) hown hK hP 0 rfl rfl 1 (by decide) (hts _ (List.mem_cons_of_mem _ tw_107)) (fun _ h9 => h9) rfl d_RL_hasRecord_1 ?_
  refine lv_iload_n hx hb d_RL_hasRecord_4 rfl (lv_at hl 1 rfl) ?_
  refine va_iald hx hb hK hP 1 0 rfl rfl (xIn_in2 h (by decide) (by decide)) d_RL_hasRecord_5 ?_
  refine xnum (v := (-1)) rfl ?_
  refine lv_iconst (v := (-1)) hx hb d_RL_hasRecord_6 (by decide) ?_
  refine lv_icmp_eq (tgt := 14) hx hb d_RL_hasRecord_7 (by decide) (fun b7 => ?_) (fun b7 => absurd b7 (by decide))
  refine lv_iconst (v := 0) hx hb d_RL_hasRecord_14 (by decide) ?_
  exact xrz () B d_RL_hasRecord_15 (rfl) (rfl) (hP.sub (ws' := [(rl, .inr (4, [.ref rb, .ref rc, .ref rt, .int 0])), (rc, .inl (cI, 24, .inl (fun _ => (-1))))]) [0, 1] rfl) (hK.sub (tys' := []) [] rfl) (hD.sub (ws' := [(rl, .inr (4, [.ref rb, .ref rc, .ref rt, .int 0])), (rc, .inl (cI, 24, .inl (fun _ => (-1))))]) [0, 1] (by decide) rfl) hS (Nat.le_of_ble_eq_true rfl) (Nat.le_of_ble_eq_true rfl)
theorem d_FB_isMissing_0 : decode b_FB_isMissing 0 = .ok (.iload_n 1, 1) := by decide +kernel
theorem d_FB_isMissing_1 : decode b_FB_isMissing 1 = .ok (.aload_n 0, 1) := by decide +kernel
theorem d_FB_isMissing_2 : decode b_FB_isMissing 2 = .ok (.getfield 19, 3) := by decide +kernel
theorem d_FB_isMissing_5 : decode b_FB_isMissing 5 = .ok (.invokevirtual 112, 3) := by decide +kernel
theorem d_FB_isMissing_8 : decode b_FB_isMissing 8 = .ok (.iconst (-1), 1) := by decide +kernel
theorem d_FB_isMissing_9 : decode b_FB_isMissing 9 = .ok (.ixor, 1) := by decide +kernel
theorem d_FB_isMissing_10 : decode b_FB_isMissing 10 = .ok (.iand, 1) := by decide +kernel
theorem d_FB_isMissing_11 : decode b_FB_isMissing 11 = .ok (.aload_n 0, 1) := by decide +kernel
theorem d_FB_isMissing_12 : decode b_FB_isMissing 12 = .ok (.getfield 12, 3) := by decide +kernel
theorem d_FB_isMissing_15 : decode b_FB_isMissing 15 = .ok (.getfield 146, 3) := by decide +kernel
theorem d_FB_isMissing_18 : decode b_FB_isMissing 18 = .ok (.iconst (-1), 1) := by decide +kernel
theorem d_FB_isMissing_19 : decode b_FB_isMissing 19 = .ok (.ixor, 1) := by decide +kernel
theorem d_FB_isMissing_20 : decode b_FB_isMissing 20 = .ok (.iand, 1) := by decide +kernel
theorem d_FB_isMissing_21 : decode b_FB_isMissing 21 = .ok (.ifCond .eq (7), 3) := by decide +kernel
theorem d_FB_isMissing_24 : decode b_FB_isMissing 24 = .ok (.iconst (1), 1) := by decide +kernel
theorem d_FB_isMissing_25 : decode b_FB_isMissing 25 = .ok (.goto (4), 3) := by decide +kernel
theorem d_FB_isMissing_29 : decode b_FB_isMissing 29 = .ok (.ireturn, 1) := by decide +kernel
set_option maxRecDepth 20000 in
set_option maxHeartbeats 4000000 in
theorem c_FB_isMissing (l : Launch) (D : va_G) (fb : Nat) (gr : Nat) (di : Nat) (re : Nat) (rl : Nat) (bu : Nat) (de : Nat) (gc : Nat) (gf : Nat) (gp : Nat) (gb : Nat) (gl : Nat) (ct : Nat) (ti : Nat) (x : Int32) (sz : Nat) (h : ¬ x = 0) : xMi l y_FB_isMissing w_FB_isMissing { frames := 1, cells := 0, slots := 0, locals := 30 } D cl [.ref fb, .int x] sz [] [(fb, .inr (5, [.ref di, .ref gr, .ref re, .ref rl, .ref bu, .ref de])), (gr, .inr (2, [.ref gc, .ref gf, .ref gp, .ref gb, .ref gl, .int 0])), (di, .inr (1, [.ref ct, .ref ti, .int 0, .int 0]))] (fun (r : Int32) (_ : Unit) => r = 1) (fun _ => [(fb, .inr (5, [.ref di, .ref gr, .ref re, .ref rl, .ref bu, .ref de])), (gr, .inr (2, [.ref gc, .ref gf, .ref gp, .ref gb, .ref gl, .int 0])), (di, .inr (1, [.ref ct, .ref ti, .int 0, .int 0]))]) (fun _ => []) := by
  refine xMi_of (by decide +kernel) rfl (Nat.le_of_ble_eq_true rfl) ?_
  intro p e s m args below meth c ls A B hAe hA hsz hP hK hD hS hAm hTh hAs hl
  obtain ⟨⟨hx, hb, hml, hown, hts⟩, hret, hlk, hnm, hemp⟩ := id B
  have hl : lv_has ls 2 [(0, .ref fb), (1, .int x)] := hl
  refine lv_iload_n hx hb d_FB_isMissing_0 rfl (lv_at hl 1 rfl) ?_
  refine lv_aload_n hx hb d_FB_isMissing_1 rfl (lv_at hl 0 rfl) ?_
  refine va_get (D := D) (ci := 5) (v := .ref gr) (C := R_FB) (T := F_FB) (N := 6) hx hb hts (fun w h => List.mem_cons_of_mem _ (u_FB w h)) hown hK hP 0 rfl rfl 1 (by decide) (hts _ (List.mem_cons_of_mem _ tw_147)) (fun _ h9 => h9) rfl d_FB_isMissing_2 ?_
  have hPc := hP.sub (ws' := [(gr, .inr (2, [.ref gc, .ref gf, .ref gp, .ref gb, .ref gl, .int 0]))]) [1] rfl
  have hDc := hD.sub (ws' := [(gr, .inr (2, [.ref gc, .ref gf, .ref gp, .ref gb, .ref gl, .int 0]))]) [1] (by decide) rfl
  have hKc := hK.sub (tys' := []) [] rfl
  refine xgi (wsC := [(gr, .inr (2, [.ref gc, .ref gf, .ref gp, .ref gb, .ref gl, .int 0]))]) (wr := [(fb, .inr (5, [.ref di, .ref gr, .ref re, .ref rl, .ref bu, .ref de])), (di, .inr (1, [.ref ct, .ref ti, .int 0, .int 0]))]) (va_runVN (As := []) (rest := [.int x]) ⟨hx, hb, hml, hown, hts⟩ (c_Gr_made l  D gr gc gf gp gb gl _ ) ⟨(va_cnB 0 hts (x_good k_Gr_made) rfl rfl rfl (hAm.1 _ (List.mem_of_getElem? (i := 40) rfl)) (hts _ (List.mem_cons_of_mem _ tw_3)) (by decide +kernel) ⟨Nat.le_of_ble_eq_true rfl, Nat.le_of_ble_eq_true rfl⟩), (hts _ (List.mem_cons_of_mem _ tw_360)), (hts _ (List.mem_cons_of_mem _ (x_sel 16 rfl)))⟩ (xP_V (va_recv (ci := 2) (q0 := 1) hK hP rfl rfl) hPc hKc hDc hAm hTh hAs hS) rfl rfl hl.1 rfl (lv_room (Nat.le_of_ble_eq_true rfl)) d_FB_isMissing_5 ⟨Nat.le_of_ble_eq_true rfl, Nat.le_of_ble_eq_true rfl⟩) hP hD hK hS hA [1] [0, 2] rfl rfl (by decide) (by decide) (fun r1 _ H locs er1 hP hD hK hS => ?_)
  have er1 : r1 = 0 := er1
  subst er1
  have hK : va_K D cl [] s := hK
  have hP : va_P D cl [(fb, .inr (5, [.ref di, .ref gr, .ref re, .ref rl, .ref bu, .ref de])), (di, .inr (1, [.ref ct, .ref ti, .int 0, .int 0])), (gr, .inr (2, [.ref gc, .ref gf, .ref gp, .ref gb, .ref gl, .int 0]))] H := hP
  have hD : va_D A [(fb, .inr (5, [.ref di, .ref gr, .ref re, .ref rl, .ref bu, .ref de])), (di, .inr (1, [.ref ct, .ref ti, .int 0, .int 0])), (gr, .inr (2, [.ref gc, .ref gf, .ref gp, .ref gb, .ref gl, .int 0]))] := hD
  refine lv_iconst (v := (-1)) hx hb d_FB_isMissing_8 (by decide) ?_
  refine lv_ixor hx hb d_FB_isMissing_9 ?_
  refine xnum (v := (-1)) (by decide) ?_
  refine lv_iand hx hb d_FB_isMissing_10 ?_
  refine lv_aload_n hx hb d_FB_isMissing_11 rfl (lv_at hl 0 rfl) ?_
  refine va_get (D := D) (ci := 5) (v := .ref di) (C := R_FB) (T := F_FB) (N := 6) hx hb hts (fun w h => List.mem_cons_of_mem _ (u_FB w h)) hown hK hP 0 rfl rfl 0 (by decide) (hts _ (List.mem_cons_of_mem _ tw_146)) (fun _ h9 => h9) rfl d_FB_isMissing_12 ?_
  refine va_getN (D := D) (ci := 1) (v := .int 0) (C := R_Di) (T := F_Di) (N := 4) hx hb hts (fun w h => List.mem_cons_of_mem _ (u_Di w h)) hown hK hP 1 rfl rfl 3 (by decide) (va_Nw.use rfl (hAm.1 _ (List.mem_of_getElem? (i := 3) rfl))) (fun _ h9 => h9) rfl d_FB_isMissing_15 ?_
  refine lv_iconst (v := (-1)) hx hb d_FB_isMissing_18 (by decide) ?_
  refine lv_ixor hx hb d_FB_isMissing_19 ?_
  refine xnum (v := (-1)) (by decide) ?_
  refine lv_iand hx hb d_FB_isMissing_20 ?_
  refine lv_if_eq (tgt := 28) hx hb d_FB_isMissing_21 (by decide) (fun b21 => absurd ((xand1 x).symm.trans b21) h) (fun b21 => ?_)
  refine lv_iconst (v := 1) hx hb d_FB_isMissing_24 (by decide) ?_
  refine lv_goto (tgt := 29) hx hb d_FB_isMissing_25 (by decide) ?_
  exact xrz () B d_FB_isMissing_29 (rfl) (rfl) (hP.sub (ws' := [(fb, .inr (5, [.ref di, .ref gr, .ref re, .ref rl, .ref bu, .ref de])), (gr, .inr (2, [.ref gc, .ref gf, .ref gp, .ref gb, .ref gl, .int 0])), (di, .inr (1, [.ref ct, .ref ti, .int 0, .int 0]))]) [0, 2, 1] rfl) (hK.sub (tys' := []) [] rfl) (hD.sub (ws' := [(fb, .inr (5, [.ref di, .ref gr, .ref re, .ref rl, .ref bu, .ref de])), (gr, .inr (2, [.ref gc, .ref gf, .ref gp, .ref gb, .ref gl, .int 0])), (di, .inr (1, [.ref ct, .ref ti, .int 0, .int 0]))]) [0, 2, 1] (by decide) rfl) hS (Nat.le_of_ble_eq_true rfl) (Nat.le_of_ble_eq_true rfl)
