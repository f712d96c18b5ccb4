theorem xnlt_ge {x : Int32} (h : ¬ x < 0) : 0 ≤ x := by
  simp only [Int32.le_iff_toInt_le, Int32.lt_iff_toInt_lt] at *
  omega
theorem xinv {x v : Int32} {k : Nat} (h1 : v = 0) (h2 : xbi x (nI k) = 0) (hv : (v = 0 ∨ v = 1) ∧ (v = 0 → ∀ j, j < k → xbi x (nI j) = 0)) : ((0 : Int32) = 0 ∨ (0 : Int32) = 1) ∧ ((0 : Int32) = 0 → ∀ j, j < k + 1 → xbi x (nI j) = 0) := by
  refine ⟨Or.inl rfl, fun _ j hj => ?_⟩
  by_cases e : j = k
  · subst e; exact h2
  · exact hv.2 h1 j (by omega)
theorem xbit {x : Int32} {j : Nat} (hj : j < 24) (h : xbi x (nI j) = 0) : x.toBitVec.getLsbD j = false := by
  cases hb : x.toBitVec.getLsbD j with
  | false => rfl
  | true =>
    exfalso
    have hs : ∀ j : Fin 24, ((nI j.1 &&& 31).toBitVec.smod 32).toNat = j.1 := by decide
    have q : x >>> (nI j &&& 31) &&& 1 = 1 := by
      apply Int32.toBitVec_inj.mp
      rw [Int32.toBitVec_and, Int32.toBitVec_shiftRight]
      show x.toBitVec.sshiftRight ((nI j &&& 31).toBitVec.smod 32).toNat &&& 1#32 = 1#32
      rw [hs ⟨j, hj⟩]
      apply BitVec.eq_of_getLsbD_eq
      intro i hi
      rw [BitVec.getLsbD_and, BitVec.getLsbD_sshiftRight]
      by_cases e : i = 0
      · subst e
        rw [if_pos (show j + 0 < 32 by omega), Nat.add_zero, hb]
        decide
      · have : (1#32).getLsbD i = false := by
          rw [BitVec.getLsbD_one]
          simp [e]
        rw [this, Bool.and_false]
    unfold xbi at h
    rw [if_pos q] at h
    exact absurd h (by decide)
theorem xmiss {x v : Int32} (hv : (v = 0 ∨ v = 1) ∧ (v = 0 → ∀ j, j < 24 → xbi x (nI j) = 0)) (h : ¬ x = 0 ∧ x &&& (-16777216) = 0) : v = 1 := by
  rcases hv.1 with e | e
  · exfalso
    apply h.1
    apply Int32.toBitVec_inj.mp
    apply BitVec.eq_of_getLsbD_eq
    intro i hi
    have e0 : (0 : Int32).toBitVec.getLsbD i = false := BitVec.getLsbD_zero
    rw [e0]
    by_cases hq : i < 24
    · exact xbit hq (hv.2 e i hq)
    · show x.toBitVec.toNat.testBit i = false
      exact Nat.testBit_lt_two_pow (Nat.lt_of_lt_of_le ((xmask x).mp h.2) (Nat.pow_le_pow_right (by decide) (by omega)))
  · exact e
theorem d_Mo_makersOf_0 : decode b_Mo_makersOf 0 = .ok (.iconst (0), 1) := by decide +kernel
theorem d_Mo_makersOf_1 : decode b_Mo_makersOf 1 = .ok (.istore_n 2, 1) := by decide +kernel
theorem d_Mo_makersOf_2 : decode b_Mo_makersOf 2 = .ok (.iconst (0), 1) := by decide +kernel
theorem d_Mo_makersOf_3 : decode b_Mo_makersOf 3 = .ok (.istore_n 3, 1) := by decide +kernel
theorem d_Mo_makersOf_4 : decode b_Mo_makersOf 4 = .ok (.iload_n 3, 1) := by decide +kernel
theorem d_Mo_makersOf_5 : decode b_Mo_makersOf 5 = .ok (.bipush (24), 2) := by decide +kernel
theorem d_Mo_makersOf_7 : decode b_Mo_makersOf 7 = .ok (.if_icmp .ge (43), 3) := by decide +kernel
theorem d_Mo_makersOf_10 : decode b_Mo_makersOf 10 = .ok (.iload_n 1, 1) := by decide +kernel
theorem d_Mo_makersOf_11 : decode b_Mo_makersOf 11 = .ok (.iload_n 3, 1) := by decide +kernel
theorem d_Mo_makersOf_12 : decode b_Mo_makersOf 12 = .ok (.invokestatic 106, 3) := by decide +kernel
theorem d_Mo_makersOf_15 : decode b_Mo_makersOf 15 = .ok (.ifCond .eq (27), 3) := by decide +kernel
theorem d_Mo_makersOf_18 : decode b_Mo_makersOf 18 = .ok (.aload_n 0, 1) := by decide +kernel
theorem d_Mo_makersOf_19 : decode b_Mo_makersOf 19 = .ok (.getfield 44, 3) := by decide +kernel
theorem d_Mo_makersOf_22 : decode b_Mo_makersOf 22 = .ok (.iload_n 3, 1) := by decide +kernel
theorem d_Mo_makersOf_23 : decode b_Mo_makersOf 23 = .ok (.iaload, 1) := by decide +kernel
theorem d_Mo_makersOf_24 : decode b_Mo_makersOf 24 = .ok (.ifCond .le (18), 3) := by decide +kernel
theorem d_Mo_makersOf_42 : decode b_Mo_makersOf 42 = .ok (.iload_n 2, 1) := by decide +kernel
theorem d_Mo_makersOf_43 : decode b_Mo_makersOf 43 = .ok (.istore_n 2, 1) := by decide +kernel
theorem d_Mo_makersOf_44 : decode b_Mo_makersOf 44 = .ok (.iinc 3 (1), 3) := by decide +kernel
theorem d_Mo_makersOf_47 : decode b_Mo_makersOf 47 = .ok (.goto (-43), 3) := by decide +kernel
theorem d_Mo_makersOf_50 : decode b_Mo_makersOf 50 = .ok (.iload_n 2, 1) := by decide +kernel
theorem d_Mo_makersOf_51 : decode b_Mo_makersOf 51 = .ok (.ireturn, 1) := by decide +kernel
set_option maxRecDepth 20000 in
set_option maxHeartbeats 4000000 in
theorem c_Mo_makersOf (l : Launch) (D : va_G) (mo : Nat) (a12 : Nat) (a1 : Nat) (a2 : Nat) (a3 : Nat) (a4 : Nat) (a5 : Nat) (a6 : Nat) (a7 : Nat) (a8 : Nat) (a9 : Nat) (a10 : Nat) (a11 : Nat) (a13 : Nat) (a14 : Nat) (a15 : Nat) (a16 : Nat) (a17 : Nat) (a18 : Nat) (a19 : Nat) (cI : ClassId) (x : Int32) (sz : Nat)  : xMi l y_Mo_makersOf w_Mo_makersOf { frames := 2, cells := 0, slots := 0, locals := 60 } D cl [.ref mo, .int x] sz [(cI, .int)] [(mo, .inr (6, [.int 0, .int 0, .ref a1, .ref a2, .ref a3, .ref a4, .ref a5, .ref a6, .ref a7, .ref a8, .ref a9, .int 0, .ref a10, .ref a11, .ref a12, .ref a13, .ref a14, .ref a15, .int 0, .ref a16, .int 1, .int 1, .int 0, .ref a17, .ref a18, .ref a19, .int 0, .int 0, .int 0, .int 0])), (a12, .inl (cI, 24, .inl (fun _ => 0)))] (fun (r : Int32) (_ : Unit) => r = 0) (fun _ => [(mo, .inr (6, [.int 0, .int 0, .ref a1, .ref a2, .ref a3, .ref a4, .ref a5, .ref a6, .ref a7, .ref a8, .ref a9, .int 0, .ref a10, .ref a11, .ref a12, .ref a13, .ref a14, .ref a15, .int 0, .ref a16, .int 1, .int 1, .int 0, .ref a17, .ref a18, .ref a19, .int 0, .int 0, .int 0, .int 0])), (a12, .inl (cI, 24, .inl (fun _ => 0)))]) (fun _ => []) := by
  refine xMi_of (by decide +kernel) rfl (Nat.le_of_ble_eq_true rfl) ?_
  intro p e s m args below meth c ls A B hAe hA hsz hP hK hD hS hAm hTh hAs hl
  obtain ⟨⟨hx, hb, hml, hown, hts⟩, hret, hlk, hnm, hemp⟩ := id B
  have hl : lv_has ls 4 [(0, .ref mo), (1, .int x)] := hl
  refine lv_iconst (v := 0) hx hb d_Mo_makersOf_0 (by decide) ?_
  refine lv_istore_n hx hb d_Mo_makersOf_1 rfl hl (by decide) rfl (fun ls hl => ?_)
  have hl : lv_has ls 4 [(2, .int 0), (0, .ref mo), (1, .int x)] := hl
  refine lv_iconst (v := 0) hx hb d_Mo_makersOf_2 (by decide) ?_
  refine lv_istore_n hx hb d_Mo_makersOf_3 rfl hl (by decide) rfl (fun ls hl => ?_)
  have hl : lv_has ls 4 [(3, .int 0), (2, .int 0), (0, .ref mo), (1, .int x)] := hl
  have loop : ∀ (d k : Nat), k + d = 24 → ∀ (ls : Array Slot) (H : Heap) (locs : List Loc), lv_has ls 4 [(3, .int (nI k)), (2, .int 0), (0, .ref mo), (1, .int x)] → va_P D cl [(mo, .inr (6, [.int 0, .int 0, .ref a1, .ref a2, .ref a3, .ref a4, .ref a5, .ref a6, .ref a7, .ref a8, .ref a9, .int 0, .ref a10, .ref a11, .ref a12, .ref a13, .ref a14, .ref a15, .int 0, .ref a16, .int 1, .int 1, .int 0, .ref a17, .ref a18, .ref a19, .int 0, .int 0, .int 0, .int 0])), (a12, .inl (cI, 24, .inl (fun _ => 0)))] H → va_D A [(mo, .inr (6, [.int 0, .int 0, .ref a1, .ref a2, .ref a3, .ref a4, .ref a5, .ref a6, .ref a7, .ref a8, .ref a9, .int 0, .ref a10, .ref a11, .ref a12, .ref a13, .ref a14, .ref a15, .int 0, .ref a16, .int 1, .int 1, .int 0, .ref a17, .ref a18, .ref a19, .int 0, .int 0, .int 0, .int 0])), (a12, .inl (cI, 24, .inl (fun _ => 0)))] → va_S A s.heap H locs → W p l e { frames := 2, cells := 0, slots := 0, locals := 60 } s m args below meth c H locs 0 0 (MQ below (va_Qi (fun (r : Int32) (_ : Unit) => r = 0) (xBh D cl A (fun _ => [(mo, .inr (6, [.int 0, .int 0, .ref a1, .ref a2, .ref a3, .ref a4, .ref a5, .ref a6, .ref a7, .ref a8, .ref a9, .int 0, .ref a10, .ref a11, .ref a12, .ref a13, .ref a14, .ref a15, .int 0, .ref a16, .int 1, .int 1, .int 0, .ref a17, .ref a18, .ref a19, .int 0, .int 0, .int 0, .int 0])), (a12, .inl (cI, 24, .inl (fun _ => 0)))]) (fun _ => [])) A) args s 0 0 A) (F0 m 4 ls []) := by
    intro d
    induction d with
    | zero =>
      intro k hk ls H locs hl hP hD hS
      have hk : k = 24 := hk
      subst hk
      refine lv_iload_n hx hb d_Mo_makersOf_4 rfl (lv_at hl 0 rfl) ?_
      refine lv_bipush (v := 24) hx hb d_Mo_makersOf_5 (by decide) ?_
      refine lv_icmp_ge (tgt := 50) hx hb d_Mo_makersOf_7 (by decide) (fun b7 => ?_) (fun b7 => absurd (by decide) b7)
      refine lv_iload_n hx hb d_Mo_makersOf_50 rfl (lv_at hl 1 rfl) ?_
      exact xri () B d_Mo_makersOf_51 (rfl) (hP.sub (ws' := [(mo, .inr (6, [.int 0, .int 0, .ref a1, .ref a2, .ref a3, .ref a4, .ref a5, .ref a6, .ref a7, .ref a8, .ref a9, .int 0, .ref a10, .ref a11, .ref a12, .ref a13, .ref a14, .ref a15, .int 0, .ref a16, .int 1, .int 1, .int 0, .ref a17, .ref a18, .ref a19, .int 0, .int 0, .int 0, .int 0])), (a12, .inl (cI, 24, .inl (fun _ => 0)))]) [0, 1] rfl) (hK.sub (tys' := []) [] rfl) (hD.sub (ws' := [(mo, .inr (6, [.int 0, .int 0, .ref a1, .ref a2, .ref a3, .ref a4, .ref a5, .ref a6, .ref a7, .ref a8, .ref a9, .int 0, .ref a10, .ref a11, .ref a12, .ref a13, .ref a14, .ref a15, .int 0, .ref a16, .int 1, .int 1, .int 0, .ref a17, .ref a18, .ref a19, .int 0, .int 0, .int 0, .int 0])), (a12, .inl (cI, 24, .inl (fun _ => 0)))]) [0, 1] (by decide) rfl) hS (Nat.le_of_ble_eq_true rfl) (Nat.le_of_ble_eq_true rfl)
    | succ d ih =>
      intro k hk ls H locs hl hP hD hS
      have hkn : k < 24 := by omega
      refine lv_iload_n hx hb d_Mo_makersOf_4 rfl (lv_at hl 0 rfl) ?_
      refine lv_bipush (v := 24) hx hb d_Mo_makersOf_5 (by decide) ?_
      refine lv_icmp_ge (tgt := 50) hx hb d_Mo_makersOf_7 (by decide) (fun b7 => absurd b7 (nI_ge hkn (by decide))) (fun b7 => ?_)
      refine lv_iload_n hx hb d_Mo_makersOf_10 rfl (lv_at hl 3 rfl) ?_
      refine lv_iload_n hx hb d_Mo_makersOf_11 rfl (lv_at hl 0 rfl) ?_
      have hPc := hP.sub (ws' := []) [] rfl
      have hDc := hD.sub (ws' := []) [] (by decide) rfl
      have hKc := hK.sub (tys' := []) [] rfl
      refine xgi (wsC := []) (wr := [(mo, .inr (6, [.int 0, .int 0, .ref a1, .ref a2, .ref a3, .ref a4, .ref a5, .ref a6, .ref a7, .ref a8, .ref a9, .int 0, .ref a10, .ref a11, .ref a12, .ref a13, .ref a14, .ref a15, .int 0, .ref a16, .int 1, .int 1, .int 0, .ref a17, .ref a18, .ref a19, .int 0, .int 0, .int 0, .int 0])), (a12, .inl (cI, 24, .inl (fun _ => 0)))]) (va_runS (As := [.int x, .int (nI k)]) (rest := []) ⟨hx, hb, hml, hown, hts⟩ (c_Mo_in l  D x (nI k) _ ) ⟨(callB_of 2 hts (x_good k_Mo_in) rfl rfl rfl (hts _ (List.mem_cons_of_mem _ tw_8)) (hts _ (List.mem_cons_of_mem _ tw_783)) (by decide +kernel) ⟨Nat.le_of_ble_eq_true rfl, Nat.le_of_ble_eq_true rfl⟩), (hts _ (List.mem_cons_of_mem _ tw_784))⟩ (xP_S hPc hKc hDc hAm hTh hAs hS) rfl rfl hl.1 rfl (lv_room (Nat.le_of_ble_eq_true rfl)) d_Mo_makersOf_12 ⟨Nat.le_of_ble_eq_true rfl, Nat.le_of_ble_eq_true rfl⟩) hP hD hK hS hA [] [0, 1] rfl rfl (by decide) (by decide) (fun r1 _ H locs er1 hP hD hK hS => ?_)
      have er1 : r1 = xbi x (nI k) := er1
      subst er1
      have hK : va_K D cl [(cI, .int)] s := hK
      have hP : va_P D cl [(mo, .inr (6, [.int 0, .int 0, .ref a1, .ref a2, .ref a3, .ref a4, .ref a5, .ref a6, .ref a7, .ref a8, .ref a9, .int 0, .ref a10, .ref a11, .ref a12, .ref a13, .ref a14, .ref a15, .int 0, .ref a16, .int 1, .int 1, .int 0, .ref a17, .ref a18, .ref a19, .int 0, .int 0, .int 0, .int 0])), (a12, .inl (cI, 24, .inl (fun _ => 0)))] H := hP
      have hD : va_D A [(mo, .inr (6, [.int 0, .int 0, .ref a1, .ref a2, .ref a3, .ref a4, .ref a5, .ref a6, .ref a7, .ref a8, .ref a9, .int 0, .ref a10, .ref a11, .ref a12, .ref a13, .ref a14, .ref a15, .int 0, .ref a16, .int 1, .int 1, .int 0, .ref a17, .ref a18, .ref a19, .int 0, .int 0, .int 0, .int 0])), (a12, .inl (cI, 24, .inl (fun _ => 0)))] := hD
      refine lv_if_eq (tgt := 42) hx hb d_Mo_makersOf_15 (by decide) (fun b15 => ?_) (fun b15 => ?_)
      · refine lv_iload_n hx hb d_Mo_makersOf_42 rfl (lv_at hl 1 rfl) ?_
        refine lv_istore_n hx hb d_Mo_makersOf_43 rfl hl (by decide) rfl (fun ls hl => ?_)
        have hl : lv_has ls 4 [(2, .int 0), (3, .int (nI k)), (0, .ref mo), (1, .int x)] := hl
        refine lv_iinc (k := 1) (v := nI (k + 1)) hx hb d_Mo_makersOf_44 hl rfl (nI_1 _) (by decide) rfl (fun ls hl => ?_)
        have hl : lv_has ls 4 [(3, .int (nI (k + 1))), (2, .int 0), (0, .ref mo), (1, .int x)] := hl
        refine lv_goto (tgt := 4) hx hb d_Mo_makersOf_47 (by decide) ?_
        exact ih (k + 1) (by omega) ls _ _   (lv_sub hl [0, 1, 2, 3] rfl) hP hD hS
      · refine lv_aload_n hx hb d_Mo_makersOf_18 rfl (lv_at hl 2 rfl) ?_
        refine va_get (D := D) (ci := 6) (v := .ref a12) (C := R_Mo) (T := F_Mo) (N := 30) hx hb hts (fun w h => List.mem_cons_of_mem _ (u_Mo w h)) hown hK hP 0 rfl rfl 14 (by decide) (hts _ (List.mem_cons_of_mem _ tw_679)) (fun _ h9 => h9) rfl d_Mo_makersOf_19 ?_
        refine lv_iload_n hx hb d_Mo_makersOf_22 rfl (lv_at hl 0 rfl) ?_
        refine va_iald hx hb hK hP 1 0 rfl rfl (vp_in_nI hkn (by decide)) d_Mo_makersOf_23 ?_
        refine xnum (v := 0) rfl ?_
        refine lv_if_le (tgt := 42) hx hb d_Mo_makersOf_24 (by decide) (fun b24 => ?_) (fun b24 => absurd b24 (by decide))
        refine lv_iload_n hx hb d_Mo_makersOf_42 rfl (lv_at hl 1 rfl) ?_
        refine lv_istore_n hx hb d_Mo_makersOf_43 rfl hl (by decide) rfl (fun ls hl => ?_)
        have hl : lv_has ls 4 [(2, .int 0), (3, .int (nI k)), (0, .ref mo), (1, .int x)] := hl
        refine lv_iinc (k := 1) (v := nI (k + 1)) hx hb d_Mo_makersOf_44 hl rfl (nI_1 _) (by decide) rfl (fun ls hl => ?_)
        have hl : lv_has ls 4 [(3, .int (nI (k + 1))), (2, .int 0), (0, .ref mo), (1, .int x)] := hl
        refine lv_goto (tgt := 4) hx hb d_Mo_makersOf_47 (by decide) ?_
        exact ih (k + 1) (by omega) ls _ _   (lv_sub hl [0, 1, 2, 3] rfl) hP hD hS
  exact loop 24 0 (Nat.zero_add 24) ls _ _   (lv_sub hl [0, 1, 2, 3] rfl) hP hD hS
theorem d_Mo_isMissing_0 : decode b_Mo_isMissing 0 = .ok (.iconst (0), 1) := by decide +kernel
theorem d_Mo_isMissing_1 : decode b_Mo_isMissing 1 = .ok (.istore_n 2, 1) := by decide +kernel
theorem d_Mo_isMissing_2 : decode b_Mo_isMissing 2 = .ok (.iconst (0), 1) := by decide +kernel
theorem d_Mo_isMissing_3 : decode b_Mo_isMissing 3 = .ok (.istore_n 3, 1) := by decide +kernel
theorem d_Mo_isMissing_4 : decode b_Mo_isMissing 4 = .ok (.iload_n 3, 1) := by decide +kernel
theorem d_Mo_isMissing_5 : decode b_Mo_isMissing 5 = .ok (.bipush (24), 2) := by decide +kernel
theorem d_Mo_isMissing_7 : decode b_Mo_isMissing 7 = .ok (.if_icmp .ge (45), 3) := by decide +kernel
theorem d_Mo_isMissing_10 : decode b_Mo_isMissing 10 = .ok (.iload_n 2, 1) := by decide +kernel
theorem d_Mo_isMissing_11 : decode b_Mo_isMissing 11 = .ok (.ifCond .ne (29), 3) := by decide +kernel
theorem d_Mo_isMissing_14 : decode b_Mo_isMissing 14 = .ok (.iload_n 1, 1) := by decide +kernel
theorem d_Mo_isMissing_15 : decode b_Mo_isMissing 15 = .ok (.iload_n 3, 1) := by decide +kernel
theorem d_Mo_isMissing_16 : decode b_Mo_isMissing 16 = .ok (.invokestatic 106, 3) := by decide +kernel
theorem d_Mo_isMissing_19 : decode b_Mo_isMissing 19 = .ok (.ifCond .eq (25), 3) := by decide +kernel
theorem d_Mo_isMissing_22 : decode b_Mo_isMissing 22 = .ok (.aload_n 0, 1) := by decide +kernel
theorem d_Mo_isMissing_23 : decode b_Mo_isMissing 23 = .ok (.getfield 44, 3) := by decide +kernel
theorem d_Mo_isMissing_26 : decode b_Mo_isMissing 26 = .ok (.iload_n 3, 1) := by decide +kernel
theorem d_Mo_isMissing_27 : decode b_Mo_isMissing 27 = .ok (.iaload, 1) := by decide +kernel
theorem d_Mo_isMissing_28 : decode b_Mo_isMissing 28 = .ok (.ifCond .ne (16), 3) := by decide +kernel
theorem d_Mo_isMissing_31 : decode b_Mo_isMissing 31 = .ok (.aload_n 0, 1) := by decide +kernel
theorem d_Mo_isMissing_32 : decode b_Mo_isMissing 32 = .ok (.getfield 41, 3) := by decide +kernel
theorem d_Mo_isMissing_35 : decode b_Mo_isMissing 35 = .ok (.iload_n 3, 1) := by decide +kernel
theorem d_Mo_isMissing_36 : decode b_Mo_isMissing 36 = .ok (.iaload, 1) := by decide +kernel
theorem d_Mo_isMissing_37 : decode b_Mo_isMissing 37 = .ok (.ifCond .ne (7), 3) := by decide +kernel
theorem d_Mo_isMissing_40 : decode b_Mo_isMissing 40 = .ok (.iconst (1), 1) := by decide +kernel
theorem d_Mo_isMissing_41 : decode b_Mo_isMissing 41 = .ok (.goto (4), 3) := by decide +kernel
theorem d_Mo_isMissing_44 : decode b_Mo_isMissing 44 = .ok (.iconst (0), 1) := by decide +kernel
theorem d_Mo_isMissing_45 : decode b_Mo_isMissing 45 = .ok (.istore_n 2, 1) := by decide +kernel
theorem d_Mo_isMissing_46 : decode b_Mo_isMissing 46 = .ok (.iinc 3 (1), 3) := by decide +kernel
theorem d_Mo_isMissing_49 : decode b_Mo_isMissing 49 = .ok (.goto (-45), 3) := by decide +kernel
theorem d_Mo_isMissing_52 : decode b_Mo_isMissing 52 = .ok (.iload_n 2, 1) := by decide +kernel
theorem d_Mo_isMissing_53 : decode b_Mo_isMissing 53 = .ok (.ireturn, 1) := by decide +kernel
set_option maxRecDepth 20000 in
set_option maxHeartbeats 4000000 in
theorem c_Mo_isMissing (l : Launch) (D : va_G) (mo : Nat) (a12 : Nat) (a11 : Nat) (a1 : Nat) (a2 : Nat) (a3 : Nat) (a4 : Nat) (a5 : Nat) (a6 : Nat) (a7 : Nat) (a8 : Nat) (a9 : Nat) (a10 : Nat) (a13 : Nat) (a14 : Nat) (a15 : Nat) (a16 : Nat) (a17 : Nat) (a18 : Nat) (a19 : Nat) (cI : ClassId) (x : Int32) (sz : Nat) (h : ¬ x = 0 ∧ x &&& (-16777216) = 0) : xMi l y_Mo_isMissing w_Mo_isMissing { frames := 2, cells := 0, slots := 0, locals := 60 } D cl [.ref mo, .int x] sz [(cI, .int)] [(mo, .inr (6, [.int 0, .int 0, .ref a1, .ref a2, .ref a3, .ref a4, .ref a5, .ref a6, .ref a7, .ref a8, .ref a9, .int 0, .ref a10, .ref a11, .ref a12, .ref a13, .ref a14, .ref a15, .int 0, .ref a16, .int 1, .int 1, .int 0, .ref a17, .ref a18, .ref a19, .int 0, .int 0, .int 0, .int 0])), (a12, .inl (cI, 24, .inl (fun _ => 0))), (a11, .inl (cI, 24, .inl (fun _ => 0)))] (fun (r : Int32) (_ : Unit) => r = 1) (fun _ => [(mo, .inr (6, [.int 0, .int 0, .ref a1, .ref a2, .ref a3, .ref a4, .ref a5, .ref a6, .ref a7, .ref a8, .ref a9, .int 0, .ref a10, .ref a11, .ref a12, .ref a13, .ref a14, .ref a15, .int 0, .ref a16, .int 1, .int 1, .int 0, .ref a17, .ref a18, .ref a19, .int 0, .int 0, .int 0, .int 0])), (a12, .inl (cI, 24, .inl (fun _ => 0))), (a11, .inl (cI, 24, .inl (fun _ => 0)))]) (fun _ => []) := by
  refine xMi_of (by decide +kernel) rfl (Nat.le_of_ble_eq_true rfl) ?_
  intro p e s m args below meth c ls A B hAe hA hsz hP hK hD hS hAm hTh hAs hl
  obtain ⟨⟨hx, hb, hml, hown, hts⟩, hret, hlk, hnm, hemp⟩ := id B
  have hl : lv_has ls 4 [(0, .ref mo), (1, .int x)] := hl
  refine lv_iconst (v := 0) hx hb d_Mo_isMissing_0 (by decide) ?_
  refine lv_istore_n hx hb d_Mo_isMissing_1 rfl hl (by decide) rfl (fun ls hl => ?_)
  have hl : lv_has ls 4 [(2, .int 0), (0, .ref mo), (1, .int x)] := hl
  refine lv_iconst (v := 0) hx hb d_Mo_isMissing_2 (by decide) ?_
  refine lv_istore_n hx hb d_Mo_isMissing_3 rfl hl (by decide) rfl (fun ls hl => ?_)
  have hl : lv_has ls 4 [(3, .int 0), (2, .int 0), (0, .ref mo), (1, .int x)] := hl
  have loop : ∀ (d k : Nat), k + d = 24 → ∀ (ls : Array Slot) (H : Heap) (locs : List Loc) (v : Int32), ((v = 0 ∨ v = 1) ∧ (v = 0 → ∀ j, j < k → xbi x (nI j) = 0)) → lv_has ls 4 [(3, .int (nI k)), (2, .int v), (0, .ref mo), (1, .int x)] → va_P D cl [(mo, .inr (6, [.int 0, .int 0, .ref a1, .ref a2, .ref a3, .ref a4, .ref a5, .ref a6, .ref a7, .ref a8, .ref a9, .int 0, .ref a10, .ref a11, .ref a12, .ref a13, .ref a14, .ref a15, .int 0, .ref a16, .int 1, .int 1, .int 0, .ref a17, .ref a18, .ref a19, .int 0, .int 0, .int 0, .int 0])), (a12, .inl (cI, 24, .inl (fun _ => 0))), (a11, .inl (cI, 24, .inl (fun _ => 0)))] H → va_D A [(mo, .inr (6, [.int 0, .int 0, .ref a1, .ref a2, .ref a3, .ref a4, .ref a5, .ref a6, .ref a7, .ref a8, .ref a9, .int 0, .ref a10, .ref a11, .ref a12, .ref a13, .ref a14, .ref a15, .int 0, .ref a16, .int 1, .int 1, .int 0, .ref a17, .ref a18, .ref a19, .int 0, .int 0, .int 0, .int 0])), (a12, .inl (cI, 24, .inl (fun _ => 0))), (a11, .inl (cI, 24, .inl (fun _ => 0)))] → va_S A s.heap H locs → W p l e { frames := 2, cells := 0, slots := 0, locals := 60 } s m args below meth c H locs 0 0 (MQ below (va_Qi (fun (r : Int32) (_ : Unit) => r = 1) (xBh D cl A (fun _ => [(mo, .inr (6, [.int 0, .int 0, .ref a1, .ref a2, .ref a3, .ref a4, .ref a5, .ref a6, .ref a7, .ref a8, .ref a9, .int 0, .ref a10, .ref a11, .ref a12, .ref a13, .ref a14, .ref a15, .int 0, .ref a16, .int 1, .int 1, .int 0, .ref a17, .ref a18, .ref a19, .int 0, .int 0, .int 0, .int 0])), (a12, .inl (cI, 24, .inl (fun _ => 0))), (a11, .inl (cI, 24, .inl (fun _ => 0)))]) (fun _ => [])) A) args s 0 0 A) (F0 m 4 ls []) := by
    intro d
    induction d with
    | zero =>
      intro k hk ls H locs v hv hl hP hD hS
      have hk : k = 24 := hk
      subst hk
      refine lv_iload_n hx hb d_Mo_isMissing_4 rfl (lv_at hl 0 rfl) ?_
      refine lv_bipush (v := 24) hx hb d_Mo_isMissing_5 (by decide) ?_
      refine lv_icmp_ge (tgt := 52) hx hb d_Mo_isMissing_7 (by decide) (fun b7 => ?_) (fun b7 => absurd (by decide) b7)
      refine lv_iload_n hx hb d_Mo_isMissing_52 rfl (lv_at hl 1 rfl) ?_
      exact xrz () B d_Mo_isMissing_53 ((by rcases hv.1 with e9 | e9 <;> rw [e9] <;> rfl)) (xmiss hv h) (hP.sub (ws' := [(mo, .inr (6, [.int 0, .int 0, .ref a1, .ref a2, .ref a3, .ref a4, .ref a5, .ref a6, .ref a7, .ref a8, .ref a9, .int 0, .ref a10, .ref a11, .ref a12, .ref a13, .ref a14, .ref a15, .int 0, .ref a16, .int 1, .int 1, .int 0, .ref a17, .ref a18, .ref a19, .int 0, .int 0, .int 0, .int 0])), (a12, .inl (cI, 24, .inl (fun _ => 0))), (a11, .inl (cI, 24, .inl (fun _ => 0)))]) [0, 1, 2] rfl) (hK.sub (tys' := []) [] rfl) (hD.sub (ws' := [(mo, .inr (6, [.int 0, .int 0, .ref a1, .ref a2, .ref a3, .ref a4, .ref a5, .ref a6, .ref a7, .ref a8, .ref a9, .int 0, .ref a10, .ref a11, .ref a12, .ref a13, .ref a14, .ref a15, .int 0, .ref a16, .int 1, .int 1, .int 0, .ref a17, .ref a18, .ref a19, .int 0, .int 0, .int 0, .int 0])), (a12, .inl (cI, 24, .inl (fun _ => 0))), (a11, .inl (cI, 24, .inl (fun _ => 0)))]) [0, 1, 2] (by decide) rfl) hS (Nat.le_of_ble_eq_true rfl) (Nat.le_of_ble_eq_true rfl)
    | succ d ih =>
      intro k hk ls H locs v hv hl hP hD hS
      have hkn : k < 24 := by omega
      refine lv_iload_n hx hb d_Mo_isMissing_4 rfl (lv_at hl 0 rfl) ?_
      refine lv_bipush (v := 24) hx hb d_Mo_isMissing_5 (by decide) ?_
      refine lv_icmp_ge (tgt := 52) hx hb d_Mo_isMissing_7 (by decide) (fun b7 => absurd b7 (nI_ge hkn (by decide))) (fun b7 => ?_)
      refine lv_iload_n hx hb d_Mo_isMissing_10 rfl (lv_at hl 1 rfl) ?_
      refine lv_if_ne (tgt := 40) hx hb d_Mo_isMissing_11 (by decide) (fun b11 => ?_) (fun b11 => ?_)
      · refine lv_iconst (v := 1) hx hb d_Mo_isMissing_40 (by decide) ?_
        refine lv_goto (tgt := 45) hx hb d_Mo_isMissing_41 (by decide) ?_
        refine lv_istore_n hx hb d_Mo_isMissing_45 rfl hl (by decide) rfl (fun ls hl => ?_)
        have hl : lv_has ls 4 [(2, .int 1), (3, .int (nI k)), (0, .ref mo), (1, .int x)] := hl
        refine lv_iinc (k := 1) (v := nI (k + 1)) hx hb d_Mo_isMissing_46 hl rfl (nI_1 _) (by decide) rfl (fun ls hl => ?_)
        have hl : lv_has ls 4 [(3, .int (nI (k + 1))), (2, .int 1), (0, .ref mo), (1, .int x)] := hl
        refine lv_goto (tgt := 4) hx hb d_Mo_isMissing_49 (by decide) ?_
        exact ih (k + 1) (by omega) ls _ _ 1 ⟨Or.inr rfl, fun e9 => absurd e9 (by decide)⟩ (lv_sub hl [0, 1, 2, 3] rfl) hP hD hS
      · refine lv_iload_n hx hb d_Mo_isMissing_14 rfl (lv_at hl 3 rfl) ?_
        refine lv_iload_n hx hb d_Mo_isMissing_15 rfl (lv_at hl 0 rfl) ?_
        have hPc := hP.sub (ws' := []) [] rfl
        have hDc := hD.sub (ws' := []) [] (by decide) rfl
        have hKc := hK.sub (tys' := []) [] rfl
        refine xgi (wsC := []) (wr := [(mo, .inr (6, [.int 0, .int 0, .ref a1, .ref a2, .ref a3, .ref a4, .ref a5, .ref a6, .ref a7, .ref a8, .ref a9, .int 0, .ref a10, .ref a11, .ref a12, .ref a13, .ref a14, .ref a15, .int 0, .ref a16, .int 1, .int 1, .int 0, .ref a17, .ref a18, .ref a19, .int 0, .int 0, .int 0, .int 0])), (a12, .inl (cI, 24, .inl (fun _ => 0))), (a11, .inl (cI, 24, .inl (fun _ => 0)))]) (va_runS (As := [.int x, .int (nI k)]) (rest := []) ⟨hx, hb, hml, hown, hts⟩ (c_Mo_in l  D x (nI k) _ ) ⟨(callB_of 2 hts (x_good k_Mo_in) rfl rfl rfl (hts _ (List.mem_cons_of_mem _ tw_8)) (hts _ (List.mem_cons_of_mem _ tw_783)) (by decide +kernel) ⟨Nat.le_of_ble_eq_true rfl, Nat.le_of_ble_eq_true rfl⟩), (hts _ (List.mem_cons_of_mem _ tw_784))⟩ (xP_S hPc hKc hDc hAm hTh hAs hS) rfl rfl hl.1 rfl (lv_room (Nat.le_of_ble_eq_true rfl)) d_Mo_isMissing_16 ⟨Nat.le_of_ble_eq_true rfl, Nat.le_of_ble_eq_true rfl⟩) hP hD hK hS hA [] [0, 1, 2] rfl rfl (by decide) (by decide) (fun r1 _ H locs er1 hP hD hK hS => ?_)
        have er1 : r1 = xbi x (nI k) := er1
        subst er1
        have hK : va_K D cl [(cI, .int)] s := hK
        have hP : va_P D cl [(mo, .inr (6, [.int 0, .int 0, .ref a1, .ref a2, .ref a3, .ref a4, .ref a5, .ref a6, .ref a7, .ref a8, .ref a9, .int 0, .ref a10, .ref a11, .ref a12, .ref a13, .ref a14, .ref a15, .int 0, .ref a16, .int 1, .int 1, .int 0, .ref a17, .ref a18, .ref a19, .int 0, .int 0, .int 0, .int 0])), (a12, .inl (cI, 24, .inl (fun _ => 0))), (a11, .inl (cI, 24, .inl (fun _ => 0)))] H := hP
        have hD : va_D A [(mo, .inr (6, [.int 0, .int 0, .ref a1, .ref a2, .ref a3, .ref a4, .ref a5, .ref a6, .ref a7, .ref a8, .ref a9, .int 0, .ref a10, .ref a11, .ref a12, .ref a13, .ref a14, .ref a15, .int 0, .ref a16, .int 1, .int 1, .int 0, .ref a17, .ref a18, .ref a19, .int 0, .int 0, .int 0, .int 0])), (a12, .inl (cI, 24, .inl (fun _ => 0))), (a11, .inl (cI, 24, .inl (fun _ => 0)))] := hD
        refine lv_if_eq (tgt := 44) hx hb d_Mo_isMissing_19 (by decide) (fun b19 => ?_) (fun b19 => ?_)
        · refine lv_iconst (v := 0) hx hb d_Mo_isMissing_44 (by decide) ?_
          refine lv_istore_n hx hb d_Mo_isMissing_45 rfl hl (by decide) rfl (fun ls hl => ?_)
          have hl : lv_has ls 4 [(2, .int 0), (3, .int (nI k)), (0, .ref mo), (1, .int x)] := hl
          refine lv_iinc (k := 1) (v := nI (k + 1)) hx hb d_Mo_isMissing_46 hl rfl (nI_1 _) (by decide) rfl (fun ls hl => ?_)
          have hl : lv_has ls 4 [(3, .int (nI (k + 1))), (2, .int 0), (0, .ref mo), (1, .int x)] := hl
          refine lv_goto (tgt := 4) hx hb d_Mo_isMissing_49 (by decide) ?_
          exact ih (k + 1) (by omega) ls _ _ 0 (xinv b11 b19 hv) (lv_sub hl [0, 1, 2, 3] rfl) hP hD hS
        · refine lv_aload_n hx hb d_Mo_isMissing_22 rfl (lv_at hl 2 rfl) ?_
          refine va_get (D := D) (ci := 6) (v := .ref a12) (C := R_Mo) (T := F_Mo) (N := 30) hx hb hts (fun w h => List.mem_cons_of_mem _ (u_Mo w h)) hown hK hP 0 rfl rfl 14 (by decide) (hts _ (List.mem_cons_of_mem _ tw_679)) (fun _ h9 => h9) rfl d_Mo_isMissing_23 ?_
          refine lv_iload_n hx hb d_Mo_isMissing_26 rfl (lv_at hl 0 rfl) ?_
          refine va_iald hx hb hK hP 1 0 rfl rfl (vp_in_nI hkn (by decide)) d_Mo_isMissing_27 ?_
          refine xnum (v := 0) rfl ?_
          refine lv_if_ne (tgt := 44) hx hb d_Mo_isMissing_28 (by decide) (fun b28 => absurd b28 (by decide)) (fun b28 => ?_)
          refine lv_aload_n hx hb d_Mo_isMissing_31 rfl (lv_at hl 2 rfl) ?_
          refine va_get (D := D) (ci := 6) (v := .ref a11) (C := R_Mo) (T := F_Mo) (N := 30) hx hb hts (fun w h => List.mem_cons_of_mem _ (u_Mo w h)) hown hK hP 0 rfl rfl 13 (by decide) (hts _ (List.mem_cons_of_mem _ tw_678)) (fun _ h9 => h9) rfl d_Mo_isMissing_32 ?_
          refine lv_iload_n hx hb d_Mo_isMissing_35 rfl (lv_at hl 0 rfl) ?_
          refine va_iald hx hb hK hP 2 0 rfl rfl (vp_in_nI hkn (by decide)) d_Mo_isMissing_36 ?_
          refine xnum (v := 0) rfl ?_
          refine lv_if_ne (tgt := 44) hx hb d_Mo_isMissing_37 (by decide) (fun b37 => absurd b37 (by decide)) (fun b37 => ?_)
          refine lv_iconst (v := 1) hx hb d_Mo_isMissing_40 (by decide) ?_
          refine lv_goto (tgt := 45) hx hb d_Mo_isMissing_41 (by decide) ?_
          refine lv_istore_n hx hb d_Mo_isMissing_45 rfl hl (by decide) rfl (fun ls hl => ?_)
          have hl : lv_has ls 4 [(2, .int 1), (3, .int (nI k)), (0, .ref mo), (1, .int x)] := hl
          refine lv_iinc (k := 1) (v := nI (k + 1)) hx hb d_Mo_isMissing_46 hl rfl (nI_1 _) (by decide) rfl (fun ls hl => ?_)
          have hl : lv_has ls 4 [(3, .int (nI (k + 1))), (2, .int 1), (0, .ref mo), (1, .int x)] := hl
          refine lv_goto (tgt := 4) hx hb d_Mo_isMissing_49 (by decide) ?_
          exact ih (k + 1) (by omega) ls _ _ 1 ⟨Or.inr rfl, fun e9 => absurd e9 (by decide)⟩ (lv_sub hl [0, 1, 2, 3] rfl) hP hD hS
  exact loop 24 0 (Nat.zero_add 24) ls _ _ 0 ⟨Or.inl rfl, fun _ j hj => absurd hj (Nat.not_lt_zero j)⟩ (lv_sub hl [0, 1, 2, 3] rfl) hP hD hS
theorem d_Mo_reach_0 : decode b_Mo_reach 0 = .ok (.aload_n 0, 1) := by decide +kernel
theorem d_Mo_reach_1 : decode b_Mo_reach 1 = .ok (.iload_n 1, 1) := by decide +kernel
theorem d_Mo_reach_2 : decode b_Mo_reach 2 = .ok (.invokevirtual 137, 3) := by decide +kernel
theorem d_Mo_reach_5 : decode b_Mo_reach 5 = .ok (.istore_n 2, 1) := by decide +kernel
theorem d_Mo_reach_6 : decode b_Mo_reach 6 = .ok (.iconst (0), 1) := by decide +kernel
theorem d_Mo_reach_7 : decode b_Mo_reach 7 = .ok (.istore_n 3, 1) := by decide +kernel
theorem d_Mo_reach_8 : decode b_Mo_reach 8 = .ok (.iload_n 2, 1) := by decide +kernel
theorem d_Mo_reach_9 : decode b_Mo_reach 9 = .ok (.iload_n 3, 1) := by decide +kernel
theorem d_Mo_reach_10 : decode b_Mo_reach 10 = .ok (.if_icmp .eq (52), 3) := by decide +kernel
theorem d_Mo_reach_62 : decode b_Mo_reach 62 = .ok (.iload_n 2, 1) := by decide +kernel
theorem d_Mo_reach_63 : decode b_Mo_reach 63 = .ok (.ireturn, 1) := by decide +kernel
set_option maxRecDepth 20000 in
set_option maxHeartbeats 4000000 in
theorem c_Mo_reach (l : Launch) (D : va_G) (mo : Nat) (a12 : Nat) (a1 : Nat) (a2 : Nat) (a3 : Nat) (a4 : Nat) (a5 : Nat) (a6 : Nat) (a7 : Nat) (a8 : Nat) (a9 : Nat) (a10 : Nat) (a11 : Nat) (a13 : Nat) (a14 : Nat) (a15 : Nat) (a16 : Nat) (a17 : Nat) (a18 : Nat) (a19 : Nat) (cI : ClassId) (x : Int32) (sz : Nat)  : xMi l y_Mo_reach w_Mo_reach { frames := 3, cells := 0, slots := 0, locals := 90 } D cl [.ref mo, .int x] sz [(cI, .int)] [(mo, .inr (6, [.int 0, .int 0, .ref a1, .ref a2, .ref a3, .ref a4, .ref a5, .ref a6, .ref a7, .ref a8, .ref a9, .int 0, .ref a10, .ref a11, .ref a12, .ref a13, .ref a14, .ref a15, .int 0, .ref a16, .int 1, .int 1, .int 0, .ref a17, .ref a18, .ref a19, .int 0, .int 0, .int 0, .int 0])), (a12, .inl (cI, 24, .inl (fun _ => 0)))] (fun (r : Int32) (_ : Unit) => r = 0) (fun _ => [(mo, .inr (6, [.int 0, .int 0, .ref a1, .ref a2, .ref a3, .ref a4, .ref a5, .ref a6, .ref a7, .ref a8, .ref a9, .int 0, .ref a10, .ref a11, .ref a12, .ref a13, .ref a14, .ref a15, .int 0, .ref a16, .int 1, .int 1, .int 0, .ref a17, .ref a18, .ref a19, .int 0, .int 0, .int 0, .int 0])), (a12, .inl (cI, 24, .inl (fun _ => 0)))]) (fun _ => []) := by
  refine xMi_of (by decide +kernel) rfl (Nat.le_of_ble_eq_true rfl) ?_
  intro p e s m args below meth c ls A B hAe hA hsz hP hK hD hS hAm hTh hAs hl
  obtain ⟨⟨hx, hb, hml, hown, hts⟩, hret, hlk, hnm, hemp⟩ := id B
  have hl : lv_has ls 5 [(0, .ref mo), (1, .int x)] := hl
  refine lv_aload_n hx hb d_Mo_reach_0 rfl (lv_at hl 0 rfl) ?_
  refine lv_iload_n hx hb d_Mo_reach_1 rfl (lv_at hl 1 rfl) ?_
  have hPc := hP.sub (ws' := [(mo, .inr (6, [.int 0, .int 0, .ref a1, .ref a2, .ref a3, .ref a4, .ref a5, .ref a6, .ref a7, .ref a8, .ref a9, .int 0, .ref a10, .ref a11, .ref a12, .ref a13, .ref a14, .ref a15, .int 0, .ref a16, .int 1, .int 1, .int 0, .ref a17, .ref a18, .ref a19, .int 0, .int 0, .int 0, .int 0])), (a12, .inl (cI, 24, .inl (fun _ => 0)))]) [0, 1] rfl
  have hDc := hD.sub (ws' := [(mo, .inr (6, [.int 0, .int 0, .ref a1, .ref a2, .ref a3, .ref a4, .ref a5, .ref a6, .ref a7, .ref a8, .ref a9, .int 0, .ref a10, .ref a11, .ref a12, .ref a13, .ref a14, .ref a15, .int 0, .ref a16, .int 1, .int 1, .int 0, .ref a17, .ref a18, .ref a19, .int 0, .int 0, .int 0, .int 0])), (a12, .inl (cI, 24, .inl (fun _ => 0)))]) [0, 1] (by decide) rfl
  have hKc := hK.sub (tys' := [(cI, .int)]) [0] rfl
  refine xgi (wsC := [(mo, .inr (6, [.int 0, .int 0, .ref a1, .ref a2, .ref a3, .ref a4, .ref a5, .ref a6, .ref a7, .ref a8, .ref a9, .int 0, .ref a10, .ref a11, .ref a12, .ref a13, .ref a14, .ref a15, .int 0, .ref a16, .int 1, .int 1, .int 0, .ref a17, .ref a18, .ref a19, .int 0, .int 0, .int 0, .int 0])), (a12, .inl (cI, 24, .inl (fun _ => 0)))]) (wr := []) (va_runV (As := [.int x]) (rest := []) ⟨hx, hb, hml, hown, hts⟩ (c_Mo_makersOf l  D mo a12 a1 a2 a3 a4 a5 a6 a7 a8 a9 a10 a11 a13 a14 a15 a16 a17 a18 a19 cI x _ ) ⟨(callB_of 1 hts (x_good k_Mo_makersOf) rfl rfl rfl (hts _ (List.mem_cons_of_mem _ tw_8)) (hts _ (List.mem_cons_of_mem _ tw_823)) (by decide +kernel) ⟨Nat.le_of_ble_eq_true rfl, Nat.le_of_ble_eq_true rfl⟩), (hts _ (List.mem_cons_of_mem _ tw_825)), (hts _ (List.mem_cons_of_mem _ (x_sel 59 rfl)))⟩ (xP_V (va_recv (ci := 6) (q0 := 0) hK hP rfl rfl) hPc hKc hDc hAm hTh hAs hS) rfl rfl hl.1 rfl (lv_room (Nat.le_of_ble_eq_true rfl)) d_Mo_reach_2 ⟨Nat.le_of_ble_eq_true rfl, Nat.le_of_ble_eq_true rfl⟩) hP hD hK hS hA [0, 1] [] rfl rfl (by decide) (by decide) (fun r1 _ H locs er1 hP hD hK hS => ?_)
  have er1 : r1 = 0 := er1
  subst er1
  have hK : va_K D cl [(cI, .int)] s := hK
  have hP : va_P D cl [(mo, .inr (6, [.int 0, .int 0, .ref a1, .ref a2, .ref a3, .ref a4, .ref a5, .ref a6, .ref a7, .ref a8, .ref a9, .int 0, .ref a10, .ref a11, .ref a12, .ref a13, .ref a14, .ref a15, .int 0, .ref a16, .int 1, .int 1, .int 0, .ref a17, .ref a18, .ref a19, .int 0, .int 0, .int 0, .int 0])), (a12, .inl (cI, 24, .inl (fun _ => 0)))] H := hP
  have hD : va_D A [(mo, .inr (6, [.int 0, .int 0, .ref a1, .ref a2, .ref a3, .ref a4, .ref a5, .ref a6, .ref a7, .ref a8, .ref a9, .int 0, .ref a10, .ref a11, .ref a12, .ref a13, .ref a14, .ref a15, .int 0, .ref a16, .int 1, .int 1, .int 0, .ref a17, .ref a18, .ref a19, .int 0, .int 0, .int 0, .int 0])), (a12, .inl (cI, 24, .inl (fun _ => 0)))] := hD
  refine lv_istore_n hx hb d_Mo_reach_5 rfl hl (by decide) rfl (fun ls hl => ?_)
  have hl : lv_has ls 5 [(2, .int 0), (0, .ref mo), (1, .int x)] := hl
  refine lv_iconst (v := 0) hx hb d_Mo_reach_6 (by decide) ?_
  refine lv_istore_n hx hb d_Mo_reach_7 rfl hl (by decide) rfl (fun ls hl => ?_)
  have hl : lv_has ls 5 [(3, .int 0), (2, .int 0), (0, .ref mo), (1, .int x)] := hl
  refine lv_iload_n hx hb d_Mo_reach_8 rfl (lv_at hl 1 rfl) ?_
  refine lv_iload_n hx hb d_Mo_reach_9 rfl (lv_at hl 0 rfl) ?_
  refine lv_icmp_eq (tgt := 62) hx hb d_Mo_reach_10 (by decide) (fun b10 => ?_) (fun b10 => absurd b10 (by decide))
  refine lv_iload_n hx hb d_Mo_reach_62 rfl (lv_at hl 1 rfl) ?_
  exact xri () B d_Mo_reach_63 (rfl) (hP.sub (ws' := [(mo, .inr (6, [.int 0, .int 0, .ref a1, .ref a2, .ref a3, .ref a4, .ref a5, .ref a6, .ref a7, .ref a8, .ref a9, .int 0, .ref a10, .ref a11, .ref a12, .ref a13, .ref a14, .ref a15, .int 0, .ref a16, .int 1, .int 1, .int 0, .ref a17, .ref a18, .ref a19, .int 0, .int 0, .int 0, .int 0])), (a12, .inl (cI, 24, .inl (fun _ => 0)))]) [0, 1] rfl) (hK.sub (tys' := []) [] rfl) (hD.sub (ws' := [(mo, .inr (6, [.int 0, .int 0, .ref a1, .ref a2, .ref a3, .ref a4, .ref a5, .ref a6, .ref a7, .ref a8, .ref a9, .int 0, .ref a10, .ref a11, .ref a12, .ref a13, .ref a14, .ref a15, .int 0, .ref a16, .int 1, .int 1, .int 0, .ref a17, .ref a18, .ref a19, .int 0, .int 0, .int 0, .int 0])), (a12, .inl (cI, 24, .inl (fun _ => 0)))]) [0, 1] (by decide) rfl) hS (Nat.le_of_ble_eq_true rfl) (Nat.le_of_ble_eq_true rfl)
theorem d_Mo_lay_0 : decode b_Mo_lay 0 = .ok (.iload_n 1, 1) := by decide +kernel
theorem d_Mo_lay_1 : decode b_Mo_lay 1 = .ok (.istore_n 2, 1) := by decide +kernel
theorem d_Mo_lay_2 : decode b_Mo_lay 2 = .ok (.aload_n 0, 1) := by decide +kernel
theorem d_Mo_lay_3 : decode b_Mo_lay 3 = .ok (.iconst (0), 1) := by decide +kernel
theorem d_Mo_lay_4 : decode b_Mo_lay 4 = .ok (.putfield 119, 3) := by decide +kernel
theorem d_Mo_lay_7 : decode b_Mo_lay 7 = .ok (.iconst (0), 1) := by decide +kernel
theorem d_Mo_lay_8 : decode b_Mo_lay 8 = .ok (.istore_n 3, 1) := by decide +kernel
theorem d_Mo_lay_9 : decode b_Mo_lay 9 = .ok (.iload_n 3, 1) := by decide +kernel
theorem d_Mo_lay_10 : decode b_Mo_lay 10 = .ok (.bipush (12), 2) := by decide +kernel
theorem d_Mo_lay_12 : decode b_Mo_lay 12 = .ok (.if_icmp .ge (81), 3) := by decide +kernel
theorem d_Mo_lay_15 : decode b_Mo_lay 15 = .ok (.iconst (0), 1) := by decide +kernel
theorem d_Mo_lay_16 : decode b_Mo_lay 16 = .ok (.istore 4, 2) := by decide +kernel
theorem d_Mo_lay_18 : decode b_Mo_lay 18 = .ok (.iload 4, 2) := by decide +kernel
theorem d_Mo_lay_20 : decode b_Mo_lay 20 = .ok (.aload_n 0, 1) := by decide +kernel
theorem d_Mo_lay_21 : decode b_Mo_lay 21 = .ok (.getfield 79, 3) := by decide +kernel
theorem d_Mo_lay_24 : decode b_Mo_lay 24 = .ok (.if_icmp .ge (63), 3) := by decide +kernel
theorem d_Mo_lay_87 : decode b_Mo_lay 87 = .ok (.iinc 3 (1), 3) := by decide +kernel
theorem d_Mo_lay_90 : decode b_Mo_lay 90 = .ok (.goto (-81), 3) := by decide +kernel
theorem d_Mo_lay_93 : decode b_Mo_lay 93 = .ok (.iload_n 2, 1) := by decide +kernel
theorem d_Mo_lay_94 : decode b_Mo_lay 94 = .ok (.ifCond .ne (7), 3) := by decide +kernel
theorem d_Mo_lay_97 : decode b_Mo_lay 97 = .ok (.iconst (1), 1) := by decide +kernel
theorem d_Mo_lay_98 : decode b_Mo_lay 98 = .ok (.goto (4), 3) := by decide +kernel
theorem d_Mo_lay_102 : decode b_Mo_lay 102 = .ok (.ireturn, 1) := by decide +kernel
set_option maxRecDepth 20000 in
set_option maxHeartbeats 4000000 in
theorem c_Mo_lay (l : Launch) (D : va_G) (mo : Nat) (a1 : Nat) (a2 : Nat) (a3 : Nat) (a4 : Nat) (a5 : Nat) (a6 : Nat) (a7 : Nat) (a8 : Nat) (a9 : Nat) (a10 : Nat) (a11 : Nat) (a12 : Nat) (a13 : Nat) (a14 : Nat) (a15 : Nat) (a16 : Nat) (a17 : Nat) (a18 : Nat) (a19 : Nat) (sz : Nat)  : xMi l y_Mo_lay w_Mo_lay { frames := 1, cells := 0, slots := 0, locals := 30 } D cl [.ref mo, .int 0] sz [] [(mo, .inr (6, [.int 0, .int 0, .ref a1, .ref a2, .ref a3, .ref a4, .ref a5, .ref a6, .ref a7, .ref a8, .ref a9, .int 0, .ref a10, .ref a11, .ref a12, .ref a13, .ref a14, .ref a15, .int 0, .ref a16, .int 1, .int 1, .int 0, .ref a17, .ref a18, .ref a19, .int 0, .int 0, .int 0, .int 0]))] (fun (r : Int32) (_ : Unit) => r = 1) (fun _ => [(mo, .inr (6, [.int 0, .int 0, .ref a1, .ref a2, .ref a3, .ref a4, .ref a5, .ref a6, .ref a7, .ref a8, .ref a9, .int 0, .ref a10, .ref a11, .ref a12, .ref a13, .ref a14, .ref a15, .int 0, .ref a16, .int 1, .int 1, .int 0, .ref a17, .ref a18, .ref a19, .int 0, .int 0, .int 0, .int 0]))]) (fun _ => []) := by
  refine xMi_of (by decide +kernel) rfl (Nat.le_of_ble_eq_true rfl) ?_
  intro p e s m args below meth c ls A B hAe hA hsz hP hK hD hS hAm hTh hAs hl
  obtain ⟨⟨hx, hb, hml, hown, hts⟩, hret, hlk, hnm, hemp⟩ := id B
  have hl : lv_has ls 5 [(0, .ref mo), (1, .int 0)] := hl
  refine lv_iload_n hx hb d_Mo_lay_0 rfl (lv_at hl 1 rfl) ?_
  refine lv_istore_n hx hb d_Mo_lay_1 rfl hl (by decide) rfl (fun ls hl => ?_)
  have hl : lv_has ls 5 [(2, .int 0), (0, .ref mo), (1, .int 0)] := hl
  refine lv_aload_n hx hb d_Mo_lay_2 rfl (lv_at hl 1 rfl) ?_
  refine lv_iconst (v := 0) hx hb d_Mo_lay_3 (by decide) ?_
  refine va_put (D := D) (ci := 6) (v := .int 0) (ty := .int) (C := R_Mo) (T := F_Mo) (N := 30) hx hb hts (fun w h => List.mem_cons_of_mem _ (u_Mo w h)) t_Mo o_Mo n_Mo hown hK hP hD hS 0 rfl rfl 22 (by decide) (hts _ (List.mem_cons_of_mem _ tw_687)) (fun _ h9 => h9) rfl (by decide +kernel) rfl rfl (Nat.le_of_ble_eq_true rfl) d_Mo_lay_4 (fun H locs hP hD hS => ?_)
  have hP : va_P D cl [(mo, .inr (6, [.int 0, .int 0, .ref a1, .ref a2, .ref a3, .ref a4, .ref a5, .ref a6, .ref a7, .ref a8, .ref a9, .int 0, .ref a10, .ref a11, .ref a12, .ref a13, .ref a14, .ref a15, .int 0, .ref a16, .int 1, .int 1, .int 0, .ref a17, .ref a18, .ref a19, .int 0, .int 0, .int 0, .int 0]))] H := hP
  have hD : va_D A [(mo, .inr (6, [.int 0, .int 0, .ref a1, .ref a2, .ref a3, .ref a4, .ref a5, .ref a6, .ref a7, .ref a8, .ref a9, .int 0, .ref a10, .ref a11, .ref a12, .ref a13, .ref a14, .ref a15, .int 0, .ref a16, .int 1, .int 1, .int 0, .ref a17, .ref a18, .ref a19, .int 0, .int 0, .int 0, .int 0]))] := hD
  refine lv_iconst (v := 0) hx hb d_Mo_lay_7 (by decide) ?_
  refine lv_istore_n hx hb d_Mo_lay_8 rfl hl (by decide) rfl (fun ls hl => ?_)
  have hl : lv_has ls 5 [(3, .int 0), (2, .int 0), (0, .ref mo), (1, .int 0)] := hl
  refine lv_iload_n hx hb d_Mo_lay_9 rfl (lv_at hl 0 rfl) ?_
  refine lv_bipush (v := 12) hx hb d_Mo_lay_10 (by decide) ?_
  refine lv_icmp_ge (tgt := 93) hx hb d_Mo_lay_12 (by decide) (fun b12 => absurd b12 (by decide)) (fun b12 => ?_)
  refine lv_iconst (v := 0) hx hb d_Mo_lay_15 (by decide) ?_
  refine lv_istore hx hb d_Mo_lay_16 hl (by decide) rfl (fun ls hl => ?_)
  have hl : lv_has ls 5 [(4, .int 0), (3, .int 0), (2, .int 0), (0, .ref mo), (1, .int 0)] := hl
  refine lv_iload hx hb d_Mo_lay_18 (lv_at hl 0 rfl) ?_
  refine lv_aload_n hx hb d_Mo_lay_20 rfl (lv_at hl 3 rfl) ?_
  refine va_get (D := D) (ci := 6) (v := .int 0) (C := R_Mo) (T := F_Mo) (N := 30) hx hb hts (fun w h => List.mem_cons_of_mem _ (u_Mo w h)) hown hK hP 0 rfl rfl 1 (by decide) (hts _ (List.mem_cons_of_mem _ tw_666)) (fun _ h9 => h9) rfl d_Mo_lay_21 ?_
  refine lv_icmp_ge (tgt := 87) hx hb d_Mo_lay_24 (by decide) (fun b24 => ?_) (fun b24 => absurd b24 (by decide))
  refine lv_iinc (k := 1) (v := 1) hx hb d_Mo_lay_87 hl rfl (by decide) (by decide) rfl (fun ls hl => ?_)
  have hl : lv_has ls 5 [(3, .int 1), (4, .int 0), (2, .int 0), (0, .ref mo), (1, .int 0)] := hl
  refine lv_goto (tgt := 9) hx hb d_Mo_lay_90 (by decide) ?_
  refine lv_iload_n hx hb d_Mo_lay_9 rfl (lv_at hl 0 rfl) ?_
  refine lv_bipush (v := 12) hx hb d_Mo_lay_10 (by decide) ?_
  refine lv_icmp_ge (tgt := 93) hx hb d_Mo_lay_12 (by decide) (fun b12 => absurd b12 (by decide)) (fun b12 => ?_)
  refine lv_iconst (v := 0) hx hb d_Mo_lay_15 (by decide) ?_
  refine lv_istore hx hb d_Mo_lay_16 hl (by decide) rfl (fun ls hl => ?_)
  have hl : lv_has ls 5 [(4, .int 0), (3, .int 1), (2, .int 0), (0, .ref mo), (1, .int 0)] := hl
  refine lv_iload hx hb d_Mo_lay_18 (lv_at hl 0 rfl) ?_
  refine lv_aload_n hx hb d_Mo_lay_20 rfl (lv_at hl 3 rfl) ?_
  refine va_get (D := D) (ci := 6) (v := .int 0) (C := R_Mo) (T := F_Mo) (N := 30) hx hb hts (fun w h => List.mem_cons_of_mem _ (u_Mo w h)) hown hK hP 0 rfl rfl 1 (by decide) (hts _ (List.mem_cons_of_mem _ tw_666)) (fun _ h9 => h9) rfl d_Mo_lay_21 ?_
  refine lv_icmp_ge (tgt := 87) hx hb d_Mo_lay_24 (by decide) (fun b24 => ?_) (fun b24 => absurd b24 (by decide))
  refine lv_iinc (k := 1) (v := 2) hx hb d_Mo_lay_87 hl rfl (by decide) (by decide) rfl (fun ls hl => ?_)
  have hl : lv_has ls 5 [(3, .int 2), (4, .int 0), (2, .int 0), (0, .ref mo), (1, .int 0)] := hl
  refine lv_goto (tgt := 9) hx hb d_Mo_lay_90 (by decide) ?_
  refine lv_iload_n hx hb d_Mo_lay_9 rfl (lv_at hl 0 rfl) ?_
  refine lv_bipush (v := 12) hx hb d_Mo_lay_10 (by decide) ?_
  refine lv_icmp_ge (tgt := 93) hx hb d_Mo_lay_12 (by decide) (fun b12 => absurd b12 (by decide)) (fun b12 => ?_)
  refine lv_iconst (v := 0) hx hb d_Mo_lay_15 (by decide) ?_
  refine lv_istore hx hb d_Mo_lay_16 hl (by decide) rfl (fun ls hl => ?_)
  have hl : lv_has ls 5 [(4, .int 0), (3, .int 2), (2, .int 0), (0, .ref mo), (1, .int 0)] := hl
  refine lv_iload hx hb d_Mo_lay_18 (lv_at hl 0 rfl) ?_
  refine lv_aload_n hx hb d_Mo_lay_20 rfl (lv_at hl 3 rfl) ?_
  refine va_get (D := D) (ci := 6) (v := .int 0) (C := R_Mo) (T := F_Mo) (N := 30) hx hb hts (fun w h => List.mem_cons_of_mem _ (u_Mo w h)) hown hK hP 0 rfl rfl 1 (by decide) (hts _ (List.mem_cons_of_mem _ tw_666)) (fun _ h9 => h9) rfl d_Mo_lay_21 ?_
  refine lv_icmp_ge (tgt := 87) hx hb d_Mo_lay_24 (by decide) (fun b24 => ?_) (fun b24 => absurd b24 (by decide))
  refine lv_iinc (k := 1) (v := 3) hx hb d_Mo_lay_87 hl rfl (by decide) (by decide) rfl (fun ls hl => ?_)
  have hl : lv_has ls 5 [(3, .int 3), (4, .int 0), (2, .int 0), (0, .ref mo), (1, .int 0)] := hl
  refine lv_goto (tgt := 9) hx hb d_Mo_lay_90 (by decide) ?_
  refine lv_iload_n hx hb d_Mo_lay_9 rfl (lv_at hl 0 rfl) ?_
  refine lv_bipush (v := 12) hx hb d_Mo_lay_10 (by decide) ?_
  refine lv_icmp_ge (tgt := 93) hx hb d_Mo_lay_12 (by decide) (fun b12 => absurd b12 (by decide)) (fun b12 => ?_)
  refine lv_iconst (v := 0) hx hb d_Mo_lay_15 (by decide) ?_
  refine lv_istore hx hb d_Mo_lay_16 hl (by decide) rfl (fun ls hl => ?_)
  have hl : lv_has ls 5 [(4, .int 0), (3, .int 3), (2, .int 0), (0, .ref mo), (1, .int 0)] := hl
  refine lv_iload hx hb d_Mo_lay_18 (lv_at hl 0 rfl) ?_
  refine lv_aload_n hx hb d_Mo_lay_20 rfl (lv_at hl 3 rfl) ?_
  refine va_get (D := D) (ci := 6) (v := .int 0) (C := R_Mo) (T := F_Mo) (N := 30) hx hb hts (fun w h => List.mem_cons_of_mem _ (u_Mo w h)) hown hK hP 0 rfl rfl 1 (by decide) (hts _ (List.mem_cons_of_mem _ tw_666)) (fun _ h9 => h9) rfl d_Mo_lay_21 ?_
  refine lv_icmp_ge (tgt := 87) hx hb d_Mo_lay_24 (by decide) (fun b24 => ?_) (fun b24 => absurd b24 (by decide))
  refine lv_iinc (k := 1) (v := 4) hx hb d_Mo_lay_87 hl rfl (by decide) (by decide) rfl (fun ls hl => ?_)
  have hl : lv_has ls 5 [(3, .int 4), (4, .int 0), (2, .int 0), (0, .ref mo), (1, .int 0)] := hl
  refine lv_goto (tgt := 9) hx hb d_Mo_lay_90 (by decide) ?_
  refine lv_iload_n hx hb d_Mo_lay_9 rfl (lv_at hl 0 rfl) ?_
  refine lv_bipush (v := 12) hx hb d_Mo_lay_10 (by decide) ?_
  refine lv_icmp_ge (tgt := 93) hx hb d_Mo_lay_12 (by decide) (fun b12 => absurd b12 (by decide)) (fun b12 => ?_)
  refine lv_iconst (v := 0) hx hb d_Mo_lay_15 (by decide) ?_
  refine lv_istore hx hb d_Mo_lay_16 hl (by decide) rfl (fun ls hl => ?_)
  have hl : lv_has ls 5 [(4, .int 0), (3, .int 4), (2, .int 0), (0, .ref mo), (1, .int 0)] := hl
  refine lv_iload hx hb d_Mo_lay_18 (lv_at hl 0 rfl) ?_
  refine lv_aload_n hx hb d_Mo_lay_20 rfl (lv_at hl 3 rfl) ?_
  refine va_get (D := D) (ci := 6) (v := .int 0) (C := R_Mo) (T := F_Mo) (N := 30) hx hb hts (fun w h => List.mem_cons_of_mem _ (u_Mo w h)) hown hK hP 0 rfl rfl 1 (by decide) (hts _ (List.mem_cons_of_mem _ tw_666)) (fun _ h9 => h9) rfl d_Mo_lay_21 ?_
  refine lv_icmp_ge (tgt := 87) hx hb d_Mo_lay_24 (by decide) (fun b24 => ?_) (fun b24 => absurd b24 (by decide))
  refine lv_iinc (k := 1) (v := 5) hx hb d_Mo_lay_87 hl rfl (by decide) (by decide) rfl (fun ls hl => ?_)
  have hl : lv_has ls 5 [(3, .int 5), (4, .int 0), (2, .int 0), (0, .ref mo), (1, .int 0)] := hl
  refine lv_goto (tgt := 9) hx hb d_Mo_lay_90 (by decide) ?_
  refine lv_iload_n hx hb d_Mo_lay_9 rfl (lv_at hl 0 rfl) ?_
  refine lv_bipush (v := 12) hx hb d_Mo_lay_10 (by decide) ?_
  refine lv_icmp_ge (tgt := 93) hx hb d_Mo_lay_12 (by decide) (fun b12 => absurd b12 (by decide)) (fun b12 => ?_)
  refine lv_iconst (v := 0) hx hb d_Mo_lay_15 (by decide) ?_
  refine lv_istore hx hb d_Mo_lay_16 hl (by decide) rfl (fun ls hl => ?_)
  have hl : lv_has ls 5 [(4, .int 0), (3, .int 5), (2, .int 0), (0, .ref mo), (1, .int 0)] := hl
  refine lv_iload hx hb d_Mo_lay_18 (lv_at hl 0 rfl) ?_
  refine lv_aload_n hx hb d_Mo_lay_20 rfl (lv_at hl 3 rfl) ?_
  refine va_get (D := D) (ci := 6) (v := .int 0) (C := R_Mo) (T := F_Mo) (N := 30) hx hb hts (fun w h => List.mem_cons_of_mem _ (u_Mo w h)) hown hK hP 0 rfl rfl 1 (by decide) (hts _ (List.mem_cons_of_mem _ tw_666)) (fun _ h9 => h9) rfl d_Mo_lay_21 ?_
  refine lv_icmp_ge (tgt := 87) hx hb d_Mo_lay_24 (by decide) (fun b24 => ?_) (fun b24 => absurd b24 (by decide))
  refine lv_iinc (k := 1) (v := 6) hx hb d_Mo_lay_87 hl rfl (by decide) (by decide) rfl (fun ls hl => ?_)
  have hl : lv_has ls 5 [(3, .int 6), (4, .int 0), (2, .int 0), (0, .ref mo), (1, .int 0)] := hl
  refine lv_goto (tgt := 9) hx hb d_Mo_lay_90 (by decide) ?_
  refine lv_iload_n hx hb d_Mo_lay_9 rfl (lv_at hl 0 rfl) ?_
  refine lv_bipush (v := 12) hx hb d_Mo_lay_10 (by decide) ?_
  refine lv_icmp_ge (tgt := 93) hx hb d_Mo_lay_12 (by decide) (fun b12 => absurd b12 (by decide)) (fun b12 => ?_)
  refine lv_iconst (v := 0) hx hb d_Mo_lay_15 (by decide) ?_
  refine lv_istore hx hb d_Mo_lay_16 hl (by decide) rfl (fun ls hl => ?_)
  have hl : lv_has ls 5 [(4, .int 0), (3, .int 6), (2, .int 0), (0, .ref mo), (1, .int 0)] := hl
  refine lv_iload hx hb d_Mo_lay_18 (lv_at hl 0 rfl) ?_
  refine lv_aload_n hx hb d_Mo_lay_20 rfl (lv_at hl 3 rfl) ?_
  refine va_get (D := D) (ci := 6) (v := .int 0) (C := R_Mo) (T := F_Mo) (N := 30) hx hb hts (fun w h => List.mem_cons_of_mem _ (u_Mo w h)) hown hK hP 0 rfl rfl 1 (by decide) (hts _ (List.mem_cons_of_mem _ tw_666)) (fun _ h9 => h9) rfl d_Mo_lay_21 ?_
  refine lv_icmp_ge (tgt := 87) hx hb d_Mo_lay_24 (by decide) (fun b24 => ?_) (fun b24 => absurd b24 (by decide))
  refine lv_iinc (k := 1) (v := 7) hx hb d_Mo_lay_87 hl rfl (by decide) (by decide) rfl (fun ls hl => ?_)
  have hl : lv_has ls 5 [(3, .int 7), (4, .int 0), (2, .int 0), (0, .ref mo), (1, .int 0)] := hl
  refine lv_goto (tgt := 9) hx hb d_Mo_lay_90 (by decide) ?_
  refine lv_iload_n hx hb d_Mo_lay_9 rfl (lv_at hl 0 rfl) ?_
  refine lv_bipush (v := 12) hx hb d_Mo_lay_10 (by decide) ?_
  refine lv_icmp_ge (tgt := 93) hx hb d_Mo_lay_12 (by decide) (fun b12 => absurd b12 (by decide)) (fun b12 => ?_)
  refine lv_iconst (v := 0) hx hb d_Mo_lay_15 (by decide) ?_
  refine lv_istore hx hb d_Mo_lay_16 hl (by decide) rfl (fun ls hl => ?_)
  have hl : lv_has ls 5 [(4, .int 0), (3, .int 7), (2, .int 0), (0, .ref mo), (1, .int 0)] := hl
  refine lv_iload hx hb d_Mo_lay_18 (lv_at hl 0 rfl) ?_
  refine lv_aload_n hx hb d_Mo_lay_20 rfl (lv_at hl 3 rfl) ?_
  refine va_get (D := D) (ci := 6) (v := .int 0) (C := R_Mo) (T := F_Mo) (N := 30) hx hb hts (fun w h => List.mem_cons_of_mem _ (u_Mo w h)) hown hK hP 0 rfl rfl 1 (by decide) (hts _ (List.mem_cons_of_mem _ tw_666)) (fun _ h9 => h9) rfl d_Mo_lay_21 ?_
  refine lv_icmp_ge (tgt := 87) hx hb d_Mo_lay_24 (by decide) (fun b24 => ?_) (fun b24 => absurd b24 (by decide))
  refine lv_iinc (k := 1) (v := 8) hx hb d_Mo_lay_87 hl rfl (by decide) (by decide) rfl (fun ls hl => ?_)
  have hl : lv_has ls 5 [(3, .int 8), (4, .int 0), (2, .int 0), (0, .ref mo), (1, .int 0)] := hl
  refine lv_goto (tgt := 9) hx hb d_Mo_lay_90 (by decide) ?_
  refine lv_iload_n hx hb d_Mo_lay_9 rfl (lv_at hl 0 rfl) ?_
  refine lv_bipush (v := 12) hx hb d_Mo_lay_10 (by decide) ?_
  refine lv_icmp_ge (tgt := 93) hx hb d_Mo_lay_12 (by decide) (fun b12 => absurd b12 (by decide)) (fun b12 => ?_)
  refine lv_iconst (v := 0) hx hb d_Mo_lay_15 (by decide) ?_
  refine lv_istore hx hb d_Mo_lay_16 hl (by decide) rfl (fun ls hl => ?_)
  have hl : lv_has ls 5 [(4, .int 0), (3, .int 8), (2, .int 0), (0, .ref mo), (1, .int 0)] := hl
  refine lv_iload hx hb d_Mo_lay_18 (lv_at hl 0 rfl) ?_
  refine lv_aload_n hx hb d_Mo_lay_20 rfl (lv_at hl 3 rfl) ?_
  refine va_get (D := D) (ci := 6) (v := .int 0) (C := R_Mo) (T := F_Mo) (N := 30) hx hb hts (fun w h => List.mem_cons_of_mem _ (u_Mo w h)) hown hK hP 0 rfl rfl 1 (by decide) (hts _ (List.mem_cons_of_mem _ tw_666)) (fun _ h9 => h9) rfl d_Mo_lay_21 ?_
  refine lv_icmp_ge (tgt := 87) hx hb d_Mo_lay_24 (by decide) (fun b24 => ?_) (fun b24 => absurd b24 (by decide))
  refine lv_iinc (k := 1) (v := 9) hx hb d_Mo_lay_87 hl rfl (by decide) (by decide) rfl (fun ls hl => ?_)
  have hl : lv_has ls 5 [(3, .int 9), (4, .int 0), (2, .int 0), (0, .ref mo), (1, .int 0)] := hl
  refine lv_goto (tgt := 9) hx hb d_Mo_lay_90 (by decide) ?_
  refine lv_iload_n hx hb d_Mo_lay_9 rfl (lv_at hl 0 rfl) ?_
  refine lv_bipush (v := 12) hx hb d_Mo_lay_10 (by decide) ?_
  refine lv_icmp_ge (tgt := 93) hx hb d_Mo_lay_12 (by decide) (fun b12 => absurd b12 (by decide)) (fun b12 => ?_)
  refine lv_iconst (v := 0) hx hb d_Mo_lay_15 (by decide) ?_
  refine lv_istore hx hb d_Mo_lay_16 hl (by decide) rfl (fun ls hl => ?_)
  have hl : lv_has ls 5 [(4, .int 0), (3, .int 9), (2, .int 0), (0, .ref mo), (1, .int 0)] := hl
  refine lv_iload hx hb d_Mo_lay_18 (lv_at hl 0 rfl) ?_
  refine lv_aload_n hx hb d_Mo_lay_20 rfl (lv_at hl 3 rfl) ?_
  refine va_get (D := D) (ci := 6) (v := .int 0) (C := R_Mo) (T := F_Mo) (N := 30) hx hb hts (fun w h => List.mem_cons_of_mem _ (u_Mo w h)) hown hK hP 0 rfl rfl 1 (by decide) (hts _ (List.mem_cons_of_mem _ tw_666)) (fun _ h9 => h9) rfl d_Mo_lay_21 ?_
  refine lv_icmp_ge (tgt := 87) hx hb d_Mo_lay_24 (by decide) (fun b24 => ?_) (fun b24 => absurd b24 (by decide))
  refine lv_iinc (k := 1) (v := 10) hx hb d_Mo_lay_87 hl rfl (by decide) (by decide) rfl (fun ls hl => ?_)
  have hl : lv_has ls 5 [(3, .int 10), (4, .int 0), (2, .int 0), (0, .ref mo), (1, .int 0)] := hl
  refine lv_goto (tgt := 9) hx hb d_Mo_lay_90 (by decide) ?_
  refine lv_iload_n hx hb d_Mo_lay_9 rfl (lv_at hl 0 rfl) ?_
  refine lv_bipush (v := 12) hx hb d_Mo_lay_10 (by decide) ?_
  refine lv_icmp_ge (tgt := 93) hx hb d_Mo_lay_12 (by decide) (fun b12 => absurd b12 (by decide)) (fun b12 => ?_)
  refine lv_iconst (v := 0) hx hb d_Mo_lay_15 (by decide) ?_
  refine lv_istore hx hb d_Mo_lay_16 hl (by decide) rfl (fun ls hl => ?_)
  have hl : lv_has ls 5 [(4, .int 0), (3, .int 10), (2, .int 0), (0, .ref mo), (1, .int 0)] := hl
  refine lv_iload hx hb d_Mo_lay_18 (lv_at hl 0 rfl) ?_
  refine lv_aload_n hx hb d_Mo_lay_20 rfl (lv_at hl 3 rfl) ?_
  refine va_get (D := D) (ci := 6) (v := .int 0) (C := R_Mo) (T := F_Mo) (N := 30) hx hb hts (fun w h => List.mem_cons_of_mem _ (u_Mo w h)) hown hK hP 0 rfl rfl 1 (by decide) (hts _ (List.mem_cons_of_mem _ tw_666)) (fun _ h9 => h9) rfl d_Mo_lay_21 ?_
  refine lv_icmp_ge (tgt := 87) hx hb d_Mo_lay_24 (by decide) (fun b24 => ?_) (fun b24 => absurd b24 (by decide))
  refine lv_iinc (k := 1) (v := 11) hx hb d_Mo_lay_87 hl rfl (by decide) (by decide) rfl (fun ls hl => ?_)
  have hl : lv_has ls 5 [(3, .int 11), (4, .int 0), (2, .int 0), (0, .ref mo), (1, .int 0)] := hl
  refine lv_goto (tgt := 9) hx hb d_Mo_lay_90 (by decide) ?_
  refine lv_iload_n hx hb d_Mo_lay_9 rfl (lv_at hl 0 rfl) ?_
  refine lv_bipush (v := 12) hx hb d_Mo_lay_10 (by decide) ?_
  refine lv_icmp_ge (tgt := 93) hx hb d_Mo_lay_12 (by decide) (fun b12 => absurd b12 (by decide)) (fun b12 => ?_)
  refine lv_iconst (v := 0) hx hb d_Mo_lay_15 (by decide) ?_
  refine lv_istore hx hb d_Mo_lay_16 hl (by decide) rfl (fun ls hl => ?_)
  have hl : lv_has ls 5 [(4, .int 0), (3, .int 11), (2, .int 0), (0, .ref mo), (1, .int 0)] := hl
  refine lv_iload hx hb d_Mo_lay_18 (lv_at hl 0 rfl) ?_
  refine lv_aload_n hx hb d_Mo_lay_20 rfl (lv_at hl 3 rfl) ?_
  refine va_get (D := D) (ci := 6) (v := .int 0) (C := R_Mo) (T := F_Mo) (N := 30) hx hb hts (fun w h => List.mem_cons_of_mem _ (u_Mo w h)) hown hK hP 0 rfl rfl 1 (by decide) (hts _ (List.mem_cons_of_mem _ tw_666)) (fun _ h9 => h9) rfl d_Mo_lay_21 ?_
  refine lv_icmp_ge (tgt := 87) hx hb d_Mo_lay_24 (by decide) (fun b24 => ?_) (fun b24 => absurd b24 (by decide))
  refine lv_iinc (k := 1) (v := 12) hx hb d_Mo_lay_87 hl rfl (by decide) (by decide) rfl (fun ls hl => ?_)
  have hl : lv_has ls 5 [(3, .int 12), (4, .int 0), (2, .int 0), (0, .ref mo), (1, .int 0)] := hl
  refine lv_goto (tgt := 9) hx hb d_Mo_lay_90 (by decide) ?_
  refine lv_iload_n hx hb d_Mo_lay_9 rfl (lv_at hl 0 rfl) ?_
  refine lv_bipush (v := 12) hx hb d_Mo_lay_10 (by decide) ?_
  refine lv_icmp_ge (tgt := 93) hx hb d_Mo_lay_12 (by decide) (fun b12 => ?_) (fun b12 => absurd b12 (by decide))
  refine lv_iload_n hx hb d_Mo_lay_93 rfl (lv_at hl 2 rfl) ?_
  refine lv_if_ne (tgt := 101) hx hb d_Mo_lay_94 (by decide) (fun b94 => absurd b94 (by decide)) (fun b94 => ?_)
  refine lv_iconst (v := 1) hx hb d_Mo_lay_97 (by decide) ?_
  refine lv_goto (tgt := 102) hx hb d_Mo_lay_98 (by decide) ?_
  exact xrz () B d_Mo_lay_102 (rfl) (rfl) (hP.sub (ws' := [(mo, .inr (6, [.int 0, .int 0, .ref a1, .ref a2, .ref a3, .ref a4, .ref a5, .ref a6, .ref a7, .ref a8, .ref a9, .int 0, .ref a10, .ref a11, .ref a12, .ref a13, .ref a14, .ref a15, .int 0, .ref a16, .int 1, .int 1, .int 0, .ref a17, .ref a18, .ref a19, .int 0, .int 0, .int 0, .int 0]))]) [0] rfl) (hK.sub (tys' := []) [] rfl) (hD.sub (ws' := [(mo, .inr (6, [.int 0, .int 0, .ref a1, .ref a2, .ref a3, .ref a4, .ref a5, .ref a6, .ref a7, .ref a8, .ref a9, .int 0, .ref a10, .ref a11, .ref a12, .ref a13, .ref a14, .ref a15, .int 0, .ref a16, .int 1, .int 1, .int 0, .ref a17, .ref a18, .ref a19, .int 0, .int 0, .int 0, .int 0]))]) [0] (by decide) rfl) hS (Nat.le_of_ble_eq_true rfl) (Nat.le_of_ble_eq_true rfl)
theorem d_Mo_begin_34 : decode b_Mo_begin 34 = .ok (.aload_n 0, 1) := by decide +kernel
theorem d_Mo_begin_35 : decode b_Mo_begin 35 = .ok (.getfield 91, 3) := by decide +kernel
theorem d_Mo_begin_38 : decode b_Mo_begin 38 = .ok (.ifCond .eq (7), 3) := by decide +kernel
theorem d_Mo_begin_45 : decode b_Mo_begin 45 = .ok (.iconst (0), 1) := by decide +kernel
theorem d_Mo_begin_58 : decode b_Mo_begin 58 = .ok (.aload_n 0, 1) := by decide +kernel
theorem d_Mo_begin_59 : decode b_Mo_begin 59 = .ok (.iload_n 1, 1) := by decide +kernel
theorem d_Mo_begin_60 : decode b_Mo_begin 60 = .ok (.invokevirtual 141, 3) := by decide +kernel
theorem d_Mo_begin_63 : decode b_Mo_begin 63 = .ok (.istore 4, 2) := by decide +kernel
theorem d_Mo_begin_65 : decode b_Mo_begin 65 = .ok (.aload_n 0, 1) := by decide +kernel
theorem d_Mo_begin_66 : decode b_Mo_begin 66 = .ok (.iload 4, 2) := by decide +kernel
theorem d_Mo_begin_68 : decode b_Mo_begin 68 = .ok (.invokevirtual 144, 3) := by decide +kernel
theorem d_Mo_begin_71 : decode b_Mo_begin 71 = .ok (.ifCond .ne (9), 3) := by decide +kernel
theorem d_Mo_begin_80 : decode b_Mo_begin 80 = .ok (.aload_n 0, 1) := by decide +kernel
theorem d_Mo_begin_81 : decode b_Mo_begin 81 = .ok (.iload_n 1, 1) := by decide +kernel
theorem d_Mo_begin_82 : decode b_Mo_begin 82 = .ok (.invokevirtual 150, 3) := by decide +kernel
theorem d_Mo_begin_85 : decode b_Mo_begin 85 = .ok (.istore 5, 2) := by decide +kernel
theorem d_Mo_begin_87 : decode b_Mo_begin 87 = .ok (.iconst (0), 1) := by decide +kernel
theorem d_Mo_begin_88 : decode b_Mo_begin 88 = .ok (.istore 6, 2) := by decide +kernel
theorem d_Mo_begin_90 : decode b_Mo_begin 90 = .ok (.iload 6, 2) := by decide +kernel
theorem d_Mo_begin_92 : decode b_Mo_begin 92 = .ok (.aload_n 0, 1) := by decide +kernel
theorem d_Mo_begin_93 : decode b_Mo_begin 93 = .ok (.getfield 79, 3) := by decide +kernel
theorem d_Mo_begin_96 : decode b_Mo_begin 96 = .ok (.if_icmp .ge (44), 3) := by decide +kernel
theorem d_Mo_begin_140 : decode b_Mo_begin 140 = .ok (.iload 5, 2) := by decide +kernel
theorem d_Mo_begin_142 : decode b_Mo_begin 142 = .ok (.ifCond .eq (9), 3) := by decide +kernel
theorem d_Mo_begin_145 : decode b_Mo_begin 145 = .ok (.aload_n 0, 1) := by decide +kernel
theorem d_Mo_begin_146 : decode b_Mo_begin 146 = .ok (.iconst (4), 1) := by decide +kernel
theorem d_Mo_begin_147 : decode b_Mo_begin 147 = .ok (.invokevirtual 147, 3) := by decide +kernel
theorem d_Mo_begin_150 : decode b_Mo_begin 150 = .ok (.ireturn, 1) := by decide +kernel
set_option maxRecDepth 20000 in
set_option maxHeartbeats 4000000 in
theorem c_Mo_begin_n (l : Launch) (D : va_G) (mo : Nat) (a12 : Nat) (a11 : Nat) (a1 : Nat) (a2 : Nat) (a3 : Nat) (a4 : Nat) (a5 : Nat) (a6 : Nat) (a7 : Nat) (a8 : Nat) (a9 : Nat) (a10 : Nat) (a13 : Nat) (a14 : Nat) (a15 : Nat) (a16 : Nat) (a17 : Nat) (a18 : Nat) (a19 : Nat) (cI : ClassId) (x : Int32) (y : Int32) (z : Int32) (sz : Nat) (h : xokB x y z) : xMi l y_Mo_begin w_Mo_begin { frames := 4, cells := 0, slots := 0, locals := 130 } D cl [.ref mo, .int x, .int y, .int z] sz [(cI, .int)] [(mo, .inr (6, [.int 0, .int 0, .ref a1, .ref a2, .ref a3, .ref a4, .ref a5, .ref a6, .ref a7, .ref a8, .ref a9, .int 0, .ref a10, .ref a11, .ref a12, .ref a13, .ref a14, .ref a15, .int 0, .ref a16, .int 1, .int 1, .int 0, .ref a17, .ref a18, .ref a19, .int 0, .int 0, .int 0, .int 0])), (a12, .inl (cI, 24, .inl (fun _ => 0))), (a11, .inl (cI, 24, .inl (fun _ => 0)))] (fun (r : Int32) (_ : Unit) => r = 0) (fun _ => [(mo, .inr (6, [.int 4, .int 0, .ref a1, .ref a2, .ref a3, .ref a4, .ref a5, .ref a6, .ref a7, .ref a8, .ref a9, .int 0, .ref a10, .ref a11, .ref a12, .ref a13, .ref a14, .ref a15, .int 0, .ref a16, .int 1, .int 1, .int 0, .ref a17, .ref a18, .ref a19, .int 0, .int 0, .int 0, .int 0]))]) (fun _ => []) := by
  refine xMi_of (by decide +kernel) rfl (Nat.le_of_ble_eq_true rfl) ?_
  intro p e s m args below meth c ls A B hAe hA hsz hP hK hD hS hAm hTh hAs hl
  obtain ⟨⟨hx, hb, hml, hown, hts⟩, hret, hlk, hnm, hemp⟩ := id B
  have hl : lv_has ls 9 [(0, .ref mo), (1, .int x), (2, .int y), (3, .int z)] := hl
  refine lv_aload_n hx hb d_Mo_begin_0 rfl (lv_at hl 0 rfl) ?_
  refine lv_iload_n hx hb d_Mo_begin_1 rfl (lv_at hl 1 rfl) ?_
  refine lv_iconst (v := 1) hx hb d_Mo_begin_2 (by decide) ?_
  refine lv_icmp_lt (tgt := 30) hx hb d_Mo_begin_3 (by decide) (fun b3 => ?_) (fun b3 => ?_)
  · first | exact absurd b3 (xtar.mpr ⟨h.1, h.2.1⟩).1 | exact absurd b9 (xtar.mpr ⟨h.1, h.2.1⟩).2 | exact absurd (xO0 h.2.2.1) b18 | exact absurd (xO0 h.2.2.2) b27
  · refine lv_iload_n hx hb d_Mo_begin_6 rfl (lv_at hl 1 rfl) ?_
    refine lv_ldc (v := 16777215) hx hb hown (hts _ (List.mem_cons_of_mem _ tw_818)) d_Mo_begin_7 ?_
    refine lv_icmp_gt (tgt := 30) hx hb d_Mo_begin_9 (by decide) (fun b9 => ?_) (fun b9 => ?_)
    · first | exact absurd b3 (xtar.mpr ⟨h.1, h.2.1⟩).1 | exact absurd b9 (xtar.mpr ⟨h.1, h.2.1⟩).2 | exact absurd (xO0 h.2.2.1) b18 | exact absurd (xO0 h.2.2.2) b27
    · refine lv_iload_n hx hb d_Mo_begin_12 rfl (lv_at hl 2 rfl) ?_
      refine lv_iconst (v := 1) hx hb d_Mo_begin_13 (by decide) ?_
      refine lv_iconst (v := 4) hx hb d_Mo_begin_14 (by decide) ?_
      have hPc := hP.sub (ws' := []) [] rfl
      have hDc := hD.sub (ws' := []) [] (by decide) rfl
      have hKc := hK.sub (tys' := []) [] rfl
      refine xgi (wsC := []) (wr := [(mo, .inr (6, [.int 0, .int 0, .ref a1, .ref a2, .ref a3, .ref a4, .ref a5, .ref a6, .ref a7, .ref a8, .ref a9, .int 0, .ref a10, .ref a11, .ref a12, .ref a13, .ref a14, .ref a15, .int 0, .ref a16, .int 1, .int 1, .int 0, .ref a17, .ref a18, .ref a19, .int 0, .int 0, .int 0, .int 0])), (a12, .inl (cI, 24, .inl (fun _ => 0))), (a11, .inl (cI, 24, .inl (fun _ => 0)))]) (va_runS (As := [.int y, .int 1, .int 4]) (rest := [.ref mo]) ⟨hx, hb, hml, hown, hts⟩ (c_Mo_outside l  D y 1 4 _ ) ⟨(callB_of 3 hts (x_good k_Mo_outside) rfl rfl rfl (hts _ (List.mem_cons_of_mem _ tw_8)) (hts _ (List.mem_cons_of_mem _ tw_765)) (by decide +kernel) ⟨Nat.le_of_ble_eq_true rfl, Nat.le_of_ble_eq_true rfl⟩), (hts _ (List.mem_cons_of_mem _ tw_766))⟩ (xP_S hPc hKc hDc hAm hTh hAs hS) rfl rfl hl.1 rfl (lv_room (Nat.le_of_ble_eq_true rfl)) d_Mo_begin_15 ⟨Nat.le_of_ble_eq_true rfl, Nat.le_of_ble_eq_true rfl⟩) hP hD hK hS hA [] [0, 1, 2] rfl rfl (by decide) (by decide) (fun r1 _ H locs er1 hP hD hK hS => ?_)
      have er1 : r1 = xOut y 1 4 := er1
      subst er1
      have hK : va_K D cl [(cI, .int)] s := hK
      have hP : va_P D cl [(mo, .inr (6, [.int 0, .int 0, .ref a1, .ref a2, .ref a3, .ref a4, .ref a5, .ref a6, .ref a7, .ref a8, .ref a9, .int 0, .ref a10, .ref a11, .ref a12, .ref a13, .ref a14, .ref a15, .int 0, .ref a16, .int 1, .int 1, .int 0, .ref a17, .ref a18, .ref a19, .int 0, .int 0, .int 0, .int 0])), (a12, .inl (cI, 24, .inl (fun _ => 0))), (a11, .inl (cI, 24, .inl (fun _ => 0)))] H := hP
      have hD : va_D A [(mo, .inr (6, [.int 0, .int 0, .ref a1, .ref a2, .ref a3, .ref a4, .ref a5, .ref a6, .ref a7, .ref a8, .ref a9, .int 0, .ref a10, .ref a11, .ref a12, .ref a13, .ref a14, .ref a15, .int 0, .ref a16, .int 1, .int 1, .int 0, .ref a17, .ref a18, .ref a19, .int 0, .int 0, .int 0, .int 0])), (a12, .inl (cI, 24, .inl (fun _ => 0))), (a11, .inl (cI, 24, .inl (fun _ => 0)))] := hD
      refine lv_if_ne (tgt := 30) hx hb d_Mo_begin_18 (by decide) (fun b18 => ?_) (fun b18 => ?_)
      · first | exact absurd b3 (xtar.mpr ⟨h.1, h.2.1⟩).1 | exact absurd b9 (xtar.mpr ⟨h.1, h.2.1⟩).2 | exact absurd (xO0 h.2.2.1) b18 | exact absurd (xO0 h.2.2.2) b27
      · refine lv_iload_n hx hb d_Mo_begin_21 rfl (lv_at hl 3 rfl) ?_
        refine lv_iconst (v := 1) hx hb d_Mo_begin_22 (by decide) ?_
        refine lv_iconst (v := 4) hx hb d_Mo_begin_23 (by decide) ?_
        have hPc := hP.sub (ws' := []) [] rfl
        have hDc := hD.sub (ws' := []) [] (by decide) rfl
        have hKc := hK.sub (tys' := []) [] rfl
        refine xgi (wsC := []) (wr := [(mo, .inr (6, [.int 0, .int 0, .ref a1, .ref a2, .ref a3, .ref a4, .ref a5, .ref a6, .ref a7, .ref a8, .ref a9, .int 0, .ref a10, .ref a11, .ref a12, .ref a13, .ref a14, .ref a15, .int 0, .ref a16, .int 1, .int 1, .int 0, .ref a17, .ref a18, .ref a19, .int 0, .int 0, .int 0, .int 0])), (a12, .inl (cI, 24, .inl (fun _ => 0))), (a11, .inl (cI, 24, .inl (fun _ => 0)))]) (va_runS (As := [.int z, .int 1, .int 4]) (rest := [.ref mo]) ⟨hx, hb, hml, hown, hts⟩ (c_Mo_outside l  D z 1 4 _ ) ⟨(callB_of 3 hts (x_good k_Mo_outside) rfl rfl rfl (hts _ (List.mem_cons_of_mem _ tw_8)) (hts _ (List.mem_cons_of_mem _ tw_765)) (by decide +kernel) ⟨Nat.le_of_ble_eq_true rfl, Nat.le_of_ble_eq_true rfl⟩), (hts _ (List.mem_cons_of_mem _ tw_766))⟩ (xP_S hPc hKc hDc hAm hTh hAs hS) rfl rfl hl.1 rfl (lv_room (Nat.le_of_ble_eq_true rfl)) d_Mo_begin_24 ⟨Nat.le_of_ble_eq_true rfl, Nat.le_of_ble_eq_true rfl⟩) hP hD hK hS hA [] [0, 1, 2] rfl rfl (by decide) (by decide) (fun r2 _ H locs er2 hP hD hK hS => ?_)
        have er2 : r2 = xOut z 1 4 := er2
        subst er2
        have hK : va_K D cl [(cI, .int)] s := hK
        have hP : va_P D cl [(mo, .inr (6, [.int 0, .int 0, .ref a1, .ref a2, .ref a3, .ref a4, .ref a5, .ref a6, .ref a7, .ref a8, .ref a9, .int 0, .ref a10, .ref a11, .ref a12, .ref a13, .ref a14, .ref a15, .int 0, .ref a16, .int 1, .int 1, .int 0, .ref a17, .ref a18, .ref a19, .int 0, .int 0, .int 0, .int 0])), (a12, .inl (cI, 24, .inl (fun _ => 0))), (a11, .inl (cI, 24, .inl (fun _ => 0)))] H := hP
        have hD : va_D A [(mo, .inr (6, [.int 0, .int 0, .ref a1, .ref a2, .ref a3, .ref a4, .ref a5, .ref a6, .ref a7, .ref a8, .ref a9, .int 0, .ref a10, .ref a11, .ref a12, .ref a13, .ref a14, .ref a15, .int 0, .ref a16, .int 1, .int 1, .int 0, .ref a17, .ref a18, .ref a19, .int 0, .int 0, .int 0, .int 0])), (a12, .inl (cI, 24, .inl (fun _ => 0))), (a11, .inl (cI, 24, .inl (fun _ => 0)))] := hD
        refine lv_if_eq (tgt := 34) hx hb d_Mo_begin_27 (by decide) (fun b27 => ?_) (fun b27 => ?_)
        · refine lv_aload_n hx hb d_Mo_begin_34 rfl (lv_at hl 0 rfl) ?_
          refine va_get (D := D) (ci := 6) (v := .int 0) (C := R_Mo) (T := F_Mo) (N := 30) hx hb hts (fun w h => List.mem_cons_of_mem _ (u_Mo w h)) hown hK hP 0 rfl rfl 29 (by decide) (hts _ (List.mem_cons_of_mem _ tw_694)) (fun _ h9 => h9) rfl d_Mo_begin_35 ?_
          refine lv_if_eq (tgt := 45) hx hb d_Mo_begin_38 (by decide) (fun b38 => ?_) (fun b38 => absurd b38 (by decide))
          refine lv_iconst (v := 0) hx hb d_Mo_begin_45 (by decide) ?_
          refine va_put (D := D) (ci := 6) (v := .int 0) (ty := .int) (C := R_Mo) (T := F_Mo) (N := 30) hx hb hts (fun w h => List.mem_cons_of_mem _ (u_Mo w h)) t_Mo o_Mo n_Mo hown hK hP hD hS 0 rfl rfl 0 (by decide) (hts _ (List.mem_cons_of_mem _ tw_665)) (fun _ h9 => h9) rfl (by decide +kernel) rfl rfl (Nat.le_of_ble_eq_true rfl) d_Mo_begin_46 (fun H locs hP hD hS => ?_)
          have hP : va_P D cl [(mo, .inr (6, [.int 0, .int 0, .ref a1, .ref a2, .ref a3, .ref a4, .ref a5, .ref a6, .ref a7, .ref a8, .ref a9, .int 0, .ref a10, .ref a11, .ref a12, .ref a13, .ref a14, .ref a15, .int 0, .ref a16, .int 1, .int 1, .int 0, .ref a17, .ref a18, .ref a19, .int 0, .int 0, .int 0, .int 0])), (a12, .inl (cI, 24, .inl (fun _ => 0))), (a11, .inl (cI, 24, .inl (fun _ => 0)))] H := hP
          have hD : va_D A [(mo, .inr (6, [.int 0, .int 0, .ref a1, .ref a2, .ref a3, .ref a4, .ref a5, .ref a6, .ref a7, .ref a8, .ref a9, .int 0, .ref a10, .ref a11, .ref a12, .ref a13, .ref a14, .ref a15, .int 0, .ref a16, .int 1, .int 1, .int 0, .ref a17, .ref a18, .ref a19, .int 0, .int 0, .int 0, .int 0])), (a12, .inl (cI, 24, .inl (fun _ => 0))), (a11, .inl (cI, 24, .inl (fun _ => 0)))] := hD
          refine lv_aload_n hx hb d_Mo_begin_49 rfl (lv_at hl 0 rfl) ?_
          refine va_get (D := D) (ci := 6) (v := .int 0) (C := R_Mo) (T := F_Mo) (N := 30) hx hb hts (fun w h => List.mem_cons_of_mem _ (u_Mo w h)) hown hK hP 0 rfl rfl 0 (by decide) (hts _ (List.mem_cons_of_mem _ tw_665)) (fun _ h9 => h9) rfl d_Mo_begin_50 ?_
          refine lv_if_le (tgt := 58) hx hb d_Mo_begin_53 (by decide) (fun b53 => ?_) (fun b53 => absurd b53 (by decide))
          refine lv_aload_n hx hb d_Mo_begin_58 rfl (lv_at hl 0 rfl) ?_
          refine lv_iload_n hx hb d_Mo_begin_59 rfl (lv_at hl 1 rfl) ?_
          have hPc := hP.sub (ws' := [(mo, .inr (6, [.int 0, .int 0, .ref a1, .ref a2, .ref a3, .ref a4, .ref a5, .ref a6, .ref a7, .ref a8, .ref a9, .int 0, .ref a10, .ref a11, .ref a12, .ref a13, .ref a14, .ref a15, .int 0, .ref a16, .int 1, .int 1, .int 0, .ref a17, .ref a18, .ref a19, .int 0, .int 0, .int 0, .int 0])), (a12, .inl (cI, 24, .inl (fun _ => 0)))]) [0, 1] rfl
          have hDc := hD.sub (ws' := [(mo, .inr (6, [.int 0, .int 0, .ref a1, .ref a2, .ref a3, .ref a4, .ref a5, .ref a6, .ref a7, .ref a8, .ref a9, .int 0, .ref a10, .ref a11, .ref a12, .ref a13, .ref a14, .ref a15, .int 0, .ref a16, .int 1, .int 1, .int 0, .ref a17, .ref a18, .ref a19, .int 0, .int 0, .int 0, .int 0])), (a12, .inl (cI, 24, .inl (fun _ => 0)))]) [0, 1] (by decide) rfl
          have hKc := hK.sub (tys' := [(cI, .int)]) [0] rfl
          refine xgi (wsC := [(mo, .inr (6, [.int 0, .int 0, .ref a1, .ref a2, .ref a3, .ref a4, .ref a5, .ref a6, .ref a7, .ref a8, .ref a9, .int 0, .ref a10, .ref a11, .ref a12, .ref a13, .ref a14, .ref a15, .int 0, .ref a16, .int 1, .int 1, .int 0, .ref a17, .ref a18, .ref a19, .int 0, .int 0, .int 0, .int 0])), (a12, .inl (cI, 24, .inl (fun _ => 0)))]) (wr := [(a11, .inl (cI, 24, .inl (fun _ => 0)))]) (va_runV (As := [.int x]) (rest := []) ⟨hx, hb, hml, hown, hts⟩ (c_Mo_reach l  D mo a12 a1 a2 a3 a4 a5 a6 a7 a8 a9 a10 a11 a13 a14 a15 a16 a17 a18 a19 cI x _ ) ⟨(callB_of 1 hts (x_good k_Mo_reach) rfl rfl rfl (hts _ (List.mem_cons_of_mem _ tw_8)) (hts _ (List.mem_cons_of_mem _ tw_819)) (by decide +kernel) ⟨Nat.le_of_ble_eq_true rfl, Nat.le_of_ble_eq_true rfl⟩), (hts _ (List.mem_cons_of_mem _ tw_821)), (hts _ (List.mem_cons_of_mem _ (x_sel 58 rfl)))⟩ (xP_V (va_recv (ci := 6) (q0 := 0) hK hP rfl rfl) hPc hKc hDc hAm hTh hAs hS) rfl rfl hl.1 rfl (lv_room (Nat.le_of_ble_eq_true rfl)) d_Mo_begin_60 ⟨Nat.le_of_ble_eq_true rfl, Nat.le_of_ble_eq_true rfl⟩) hP hD hK hS hA [0, 1] [2] rfl rfl (by decide) (by decide) (fun r3 _ H locs er3 hP hD hK hS => ?_)
          have er3 : r3 = 0 := er3
          subst er3
          have hK : va_K D cl [(cI, .int)] s := hK
          have hP : va_P D cl [(a11, .inl (cI, 24, .inl (fun _ => 0))), (mo, .inr (6, [.int 0, .int 0, .ref a1, .ref a2, .ref a3, .ref a4, .ref a5, .ref a6, .ref a7, .ref a8, .ref a9, .int 0, .ref a10, .ref a11, .ref a12, .ref a13, .ref a14, .ref a15, .int 0, .ref a16, .int 1, .int 1, .int 0, .ref a17, .ref a18, .ref a19, .int 0, .int 0, .int 0, .int 0])), (a12, .inl (cI, 24, .inl (fun _ => 0)))] H := hP
          have hD : va_D A [(a11, .inl (cI, 24, .inl (fun _ => 0))), (mo, .inr (6, [.int 0, .int 0, .ref a1, .ref a2, .ref a3, .ref a4, .ref a5, .ref a6, .ref a7, .ref a8, .ref a9, .int 0, .ref a10, .ref a11, .ref a12, .ref a13, .ref a14, .ref a15, .int 0, .ref a16, .int 1, .int 1, .int 0, .ref a17, .ref a18, .ref a19, .int 0, .int 0, .int 0, .int 0])), (a12, .inl (cI, 24, .inl (fun _ => 0)))] := hD
          refine lv_istore hx hb d_Mo_begin_63 hl (by decide) rfl (fun ls hl => ?_)
          have hl : lv_has ls 9 [(4, .int 0), (0, .ref mo), (1, .int x), (2, .int y), (3, .int z)] := hl
          refine lv_aload_n hx hb d_Mo_begin_65 rfl (lv_at hl 1 rfl) ?_
          refine lv_iload hx hb d_Mo_begin_66 (lv_at hl 0 rfl) ?_
          have hPc := hP.sub (ws' := [(mo, .inr (6, [.int 0, .int 0, .ref a1, .ref a2, .ref a3, .ref a4, .ref a5, .ref a6, .ref a7, .ref a8, .ref a9, .int 0, .ref a10, .ref a11, .ref a12, .ref a13, .ref a14, .ref a15, .int 0, .ref a16, .int 1, .int 1, .int 0, .ref a17, .ref a18, .ref a19, .int 0, .int 0, .int 0, .int 0]))]) [1] rfl
          have hDc := hD.sub (ws' := [(mo, .inr (6, [.int 0, .int 0, .ref a1, .ref a2, .ref a3, .ref a4, .ref a5, .ref a6, .ref a7, .ref a8, .ref a9, .int 0, .ref a10, .ref a11, .ref a12, .ref a13, .ref a14, .ref a15, .int 0, .ref a16, .int 1, .int 1, .int 0, .ref a17, .ref a18, .ref a19, .int 0, .int 0, .int 0, .int 0]))]) [1] (by decide) rfl
          have hKc := hK.sub (tys' := []) [] rfl
          refine xgi (wsC := [(mo, .inr (6, [.int 0, .int 0, .ref a1, .ref a2, .ref a3, .ref a4, .ref a5, .ref a6, .ref a7, .ref a8, .ref a9, .int 0, .ref a10, .ref a11, .ref a12, .ref a13, .ref a14, .ref a15, .int 0, .ref a16, .int 1, .int 1, .int 0, .ref a17, .ref a18, .ref a19, .int 0, .int 0, .int 0, .int 0]))]) (wr := [(a11, .inl (cI, 24, .inl (fun _ => 0))), (a12, .inl (cI, 24, .inl (fun _ => 0)))]) (va_runV (As := [.int 0]) (rest := []) ⟨hx, hb, hml, hown, hts⟩ (c_Mo_lay l  D mo a1 a2 a3 a4 a5 a6 a7 a8 a9 a10 a11 a12 a13 a14 a15 a16 a17 a18 a19 _ ) ⟨(callB_of 1 hts (x_good k_Mo_lay) rfl rfl rfl (hts _ (List.mem_cons_of_mem _ tw_8)) (hts _ (List.mem_cons_of_mem _ tw_835)) (by decide +kernel) ⟨Nat.le_of_ble_eq_true rfl, Nat.le_of_ble_eq_true rfl⟩), (hts _ (List.mem_cons_of_mem _ tw_837)), (hts _ (List.mem_cons_of_mem _ (x_sel 62 rfl)))⟩ (xP_V (va_recv (ci := 6) (q0 := 1) hK hP rfl rfl) hPc hKc hDc hAm hTh hAs hS) rfl rfl hl.1 rfl (lv_room (Nat.le_of_ble_eq_true rfl)) d_Mo_begin_68 ⟨Nat.le_of_ble_eq_true rfl, Nat.le_of_ble_eq_true rfl⟩) hP hD hK hS hA [1] [0, 2] rfl rfl (by decide) (by decide) (fun r4 _ H locs er4 hP hD hK hS => ?_)
          have er4 : r4 = 1 := er4
          subst er4
          have hK : va_K D cl [(cI, .int)] s := hK
          have hP : va_P D cl [(a11, .inl (cI, 24, .inl (fun _ => 0))), (a12, .inl (cI, 24, .inl (fun _ => 0))), (mo, .inr (6, [.int 0, .int 0, .ref a1, .ref a2, .ref a3, .ref a4, .ref a5, .ref a6, .ref a7, .ref a8, .ref a9, .int 0, .ref a10, .ref a11, .ref a12, .ref a13, .ref a14, .ref a15, .int 0, .ref a16, .int 1, .int 1, .int 0, .ref a17, .ref a18, .ref a19, .int 0, .int 0, .int 0, .int 0]))] H := hP
          have hD : va_D A [(a11, .inl (cI, 24, .inl (fun _ => 0))), (a12, .inl (cI, 24, .inl (fun _ => 0))), (mo, .inr (6, [.int 0, .int 0, .ref a1, .ref a2, .ref a3, .ref a4, .ref a5, .ref a6, .ref a7, .ref a8, .ref a9, .int 0, .ref a10, .ref a11, .ref a12, .ref a13, .ref a14, .ref a15, .int 0, .ref a16, .int 1, .int 1, .int 0, .ref a17, .ref a18, .ref a19, .int 0, .int 0, .int 0, .int 0]))] := hD
          refine lv_if_ne (tgt := 80) hx hb d_Mo_begin_71 (by decide) (fun b71 => ?_) (fun b71 => absurd b71 (by decide))
          refine lv_aload_n hx hb d_Mo_begin_80 rfl (lv_at hl 1 rfl) ?_
          refine lv_iload_n hx hb d_Mo_begin_81 rfl (lv_at hl 2 rfl) ?_
          have hPc := hP.sub (ws' := [(mo, .inr (6, [.int 0, .int 0, .ref a1, .ref a2, .ref a3, .ref a4, .ref a5, .ref a6, .ref a7, .ref a8, .ref a9, .int 0, .ref a10, .ref a11, .ref a12, .ref a13, .ref a14, .ref a15, .int 0, .ref a16, .int 1, .int 1, .int 0, .ref a17, .ref a18, .ref a19, .int 0, .int 0, .int 0, .int 0])), (a12, .inl (cI, 24, .inl (fun _ => 0))), (a11, .inl (cI, 24, .inl (fun _ => 0)))]) [2, 1, 0] rfl
          have hDc := hD.sub (ws' := [(mo, .inr (6, [.int 0, .int 0, .ref a1, .ref a2, .ref a3, .ref a4, .ref a5, .ref a6, .ref a7, .ref a8, .ref a9, .int 0, .ref a10, .ref a11, .ref a12, .ref a13, .ref a14, .ref a15, .int 0, .ref a16, .int 1, .int 1, .int 0, .ref a17, .ref a18, .ref a19, .int 0, .int 0, .int 0, .int 0])), (a12, .inl (cI, 24, .inl (fun _ => 0))), (a11, .inl (cI, 24, .inl (fun _ => 0)))]) [2, 1, 0] (by decide) rfl
          have hKc := hK.sub (tys' := [(cI, .int)]) [0] rfl
          refine xgi (wsC := [(mo, .inr (6, [.int 0, .int 0, .ref a1, .ref a2, .ref a3, .ref a4, .ref a5, .ref a6, .ref a7, .ref a8, .ref a9, .int 0, .ref a10, .ref a11, .ref a12, .ref a13, .ref a14, .ref a15, .int 0, .ref a16, .int 1, .int 1, .int 0, .ref a17, .ref a18, .ref a19, .int 0, .int 0, .int 0, .int 0])), (a12, .inl (cI, 24, .inl (fun _ => 0))), (a11, .inl (cI, 24, .inl (fun _ => 0)))]) (wr := []) (va_runV (As := [.int x]) (rest := []) ⟨hx, hb, hml, hown, hts⟩ (c_Mo_isMissing l  D mo a12 a11 a1 a2 a3 a4 a5 a6 a7 a8 a9 a10 a13 a14 a15 a16 a17 a18 a19 cI x _ (⟨h.1, h.2.1⟩)) ⟨(callB_of 1 hts (x_good k_Mo_isMissing) rfl rfl rfl (hts _ (List.mem_cons_of_mem _ tw_8)) (hts _ (List.mem_cons_of_mem _ tw_843)) (by decide +kernel) ⟨Nat.le_of_ble_eq_true rfl, Nat.le_of_ble_eq_true rfl⟩), (hts _ (List.mem_cons_of_mem _ tw_845)), (hts _ (List.mem_cons_of_mem _ (x_sel 64 rfl)))⟩ (xP_V (va_recv (ci := 6) (q0 := 2) hK hP rfl rfl) hPc hKc hDc hAm hTh hAs hS) rfl rfl hl.1 rfl (lv_room (Nat.le_of_ble_eq_true rfl)) d_Mo_begin_82 ⟨Nat.le_of_ble_eq_true rfl, Nat.le_of_ble_eq_true rfl⟩) hP hD hK hS hA [2, 1, 0] [] rfl rfl (by decide) (by decide) (fun r5 _ H locs er5 hP hD hK hS => ?_)
          have er5 : r5 = 1 := er5
          subst er5
          have hK : va_K D cl [(cI, .int)] s := hK
          have hP : va_P D cl [(mo, .inr (6, [.int 0, .int 0, .ref a1, .ref a2, .ref a3, .ref a4, .ref a5, .ref a6, .ref a7, .ref a8, .ref a9, .int 0, .ref a10, .ref a11, .ref a12, .ref a13, .ref a14, .ref a15, .int 0, .ref a16, .int 1, .int 1, .int 0, .ref a17, .ref a18, .ref a19, .int 0, .int 0, .int 0, .int 0])), (a12, .inl (cI, 24, .inl (fun _ => 0))), (a11, .inl (cI, 24, .inl (fun _ => 0)))] H := hP
          have hD : va_D A [(mo, .inr (6, [.int 0, .int 0, .ref a1, .ref a2, .ref a3, .ref a4, .ref a5, .ref a6, .ref a7, .ref a8, .ref a9, .int 0, .ref a10, .ref a11, .ref a12, .ref a13, .ref a14, .ref a15, .int 0, .ref a16, .int 1, .int 1, .int 0, .ref a17, .ref a18, .ref a19, .int 0, .int 0, .int 0, .int 0])), (a12, .inl (cI, 24, .inl (fun _ => 0))), (a11, .inl (cI, 24, .inl (fun _ => 0)))] := hD
          refine lv_istore hx hb d_Mo_begin_85 hl (by decide) rfl (fun ls hl => ?_)
          have hl : lv_has ls 9 [(5, .int 1), (4, .int 0), (0, .ref mo), (1, .int x), (2, .int y), (3, .int z)] := hl
          refine lv_iconst (v := 0) hx hb d_Mo_begin_87 (by decide) ?_
          refine lv_istore hx hb d_Mo_begin_88 hl (by decide) rfl (fun ls hl => ?_)
          have hl : lv_has ls 9 [(6, .int 0), (5, .int 1), (4, .int 0), (0, .ref mo), (1, .int x), (2, .int y), (3, .int z)] := hl
          refine lv_iload hx hb d_Mo_begin_90 (lv_at hl 0 rfl) ?_
          refine lv_aload_n hx hb d_Mo_begin_92 rfl (lv_at hl 3 rfl) ?_
          refine va_get (D := D) (ci := 6) (v := .int 0) (C := R_Mo) (T := F_Mo) (N := 30) hx hb hts (fun w h => List.mem_cons_of_mem _ (u_Mo w h)) hown hK hP 0 rfl rfl 1 (by decide) (hts _ (List.mem_cons_of_mem _ tw_666)) (fun _ h9 => h9) rfl d_Mo_begin_93 ?_
          refine lv_icmp_ge (tgt := 140) hx hb d_Mo_begin_96 (by decide) (fun b96 => ?_) (fun b96 => absurd b96 (by decide))
          refine lv_iload hx hb d_Mo_begin_140 (lv_at hl 1 rfl) ?_
          refine lv_if_eq (tgt := 151) hx hb d_Mo_begin_142 (by decide) (fun b142 => absurd b142 (by decide)) (fun b142 => ?_)
          refine lv_aload_n hx hb d_Mo_begin_145 rfl (lv_at hl 3 rfl) ?_
          refine lv_iconst (v := 4) hx hb d_Mo_begin_146 (by decide) ?_
          have hPc := hP.sub (ws' := [(mo, .inr (6, [.int 0, .int 0, .ref a1, .ref a2, .ref a3, .ref a4, .ref a5, .ref a6, .ref a7, .ref a8, .ref a9, .int 0, .ref a10, .ref a11, .ref a12, .ref a13, .ref a14, .ref a15, .int 0, .ref a16, .int 1, .int 1, .int 0, .ref a17, .ref a18, .ref a19, .int 0, .int 0, .int 0, .int 0]))]) [0] rfl
          have hDc := hD.sub (ws' := [(mo, .inr (6, [.int 0, .int 0, .ref a1, .ref a2, .ref a3, .ref a4, .ref a5, .ref a6, .ref a7, .ref a8, .ref a9, .int 0, .ref a10, .ref a11, .ref a12, .ref a13, .ref a14, .ref a15, .int 0, .ref a16, .int 1, .int 1, .int 0, .ref a17, .ref a18, .ref a19, .int 0, .int 0, .int 0, .int 0]))]) [0] (by decide) rfl
          have hKc := hK.sub (tys' := []) [] rfl
          refine xgi (wsC := [(mo, .inr (6, [.int 0, .int 0, .ref a1, .ref a2, .ref a3, .ref a4, .ref a5, .ref a6, .ref a7, .ref a8, .ref a9, .int 0, .ref a10, .ref a11, .ref a12, .ref a13, .ref a14, .ref a15, .int 0, .ref a16, .int 1, .int 1, .int 0, .ref a17, .ref a18, .ref a19, .int 0, .int 0, .int 0, .int 0]))]) (wr := [(a12, .inl (cI, 24, .inl (fun _ => 0))), (a11, .inl (cI, 24, .inl (fun _ => 0)))]) (va_runV (As := [.int 4]) (rest := []) ⟨hx, hb, hml, hown, hts⟩ (c_Mo_refuse l  D mo a1 a2 a3 a4 a5 a6 a7 a8 a9 a10 a11 a12 a13 a14 a15 a16 a17 a18 a19 4 _ ) ⟨(callB_of 1 hts (x_good k_Mo_refuse) rfl rfl rfl (hts _ (List.mem_cons_of_mem _ tw_8)) (hts _ (List.mem_cons_of_mem _ tw_839)) (by decide +kernel) ⟨Nat.le_of_ble_eq_true rfl, Nat.le_of_ble_eq_true rfl⟩), (hts _ (List.mem_cons_of_mem _ tw_841)), (hts _ (List.mem_cons_of_mem _ (x_sel 63 rfl)))⟩ (xP_V (va_recv (ci := 6) (q0 := 0) hK hP rfl rfl) hPc hKc hDc hAm hTh hAs hS) rfl rfl hl.1 rfl (lv_room (Nat.le_of_ble_eq_true rfl)) d_Mo_begin_147 ⟨Nat.le_of_ble_eq_true rfl, Nat.le_of_ble_eq_true rfl⟩) hP hD hK hS hA [0] [1, 2] rfl rfl (by decide) (by decide) (fun r6 _ H locs er6 hP hD hK hS => ?_)
          have er6 : r6 = 0 := er6
          subst er6
          have hK : va_K D cl [(cI, .int)] s := hK
          have hP : va_P D cl [(a12, .inl (cI, 24, .inl (fun _ => 0))), (a11, .inl (cI, 24, .inl (fun _ => 0))), (mo, .inr (6, [.int 4, .int 0, .ref a1, .ref a2, .ref a3, .ref a4, .ref a5, .ref a6, .ref a7, .ref a8, .ref a9, .int 0, .ref a10, .ref a11, .ref a12, .ref a13, .ref a14, .ref a15, .int 0, .ref a16, .int 1, .int 1, .int 0, .ref a17, .ref a18, .ref a19, .int 0, .int 0, .int 0, .int 0]))] H := hP
          have hD : va_D A [(a12, .inl (cI, 24, .inl (fun _ => 0))), (a11, .inl (cI, 24, .inl (fun _ => 0))), (mo, .inr (6, [.int 4, .int 0, .ref a1, .ref a2, .ref a3, .ref a4, .ref a5, .ref a6, .ref a7, .ref a8, .ref a9, .int 0, .ref a10, .ref a11, .ref a12, .ref a13, .ref a14, .ref a15, .int 0, .ref a16, .int 1, .int 1, .int 0, .ref a17, .ref a18, .ref a19, .int 0, .int 0, .int 0, .int 0]))] := hD
          exact xri () B d_Mo_begin_150 (rfl) (hP.sub (ws' := [(mo, .inr (6, [.int 4, .int 0, .ref a1, .ref a2, .ref a3, .ref a4, .ref a5, .ref a6, .ref a7, .ref a8, .ref a9, .int 0, .ref a10, .ref a11, .ref a12, .ref a13, .ref a14, .ref a15, .int 0, .ref a16, .int 1, .int 1, .int 0, .ref a17, .ref a18, .ref a19, .int 0, .int 0, .int 0, .int 0]))]) [2] rfl) (hK.sub (tys' := []) [] rfl) (hD.sub (ws' := [(mo, .inr (6, [.int 4, .int 0, .ref a1, .ref a2, .ref a3, .ref a4, .ref a5, .ref a6, .ref a7, .ref a8, .ref a9, .int 0, .ref a10, .ref a11, .ref a12, .ref a13, .ref a14, .ref a15, .int 0, .ref a16, .int 1, .int 1, .int 0, .ref a17, .ref a18, .ref a19, .int 0, .int 0, .int 0, .int 0]))]) [2] (by decide) rfl) hS (Nat.le_of_ble_eq_true rfl) (Nat.le_of_ble_eq_true rfl)
        · first | exact absurd b3 (xtar.mpr ⟨h.1, h.2.1⟩).1 | exact absurd b9 (xtar.mpr ⟨h.1, h.2.1⟩).2 | exact absurd (xO0 h.2.2.1) b18 | exact absurd (xO0 h.2.2.2) b27
theorem d_Mo_cut_9 : decode b_Mo_cut 9 = .ok (.aload_n 0, 1) := by decide +kernel
theorem d_Mo_cut_10 : decode b_Mo_cut 10 = .ok (.getfield 91, 3) := by decide +kernel
theorem d_Mo_cut_13 : decode b_Mo_cut 13 = .ok (.ifCond .eq (7), 3) := by decide +kernel
theorem d_Mo_cut_20 : decode b_Mo_cut 20 = .ok (.iconst (0), 1) := by decide +kernel
theorem d_Mo_cut_33 : decode b_Mo_cut 33 = .ok (.iload_n 1, 1) := by decide +kernel
theorem d_Mo_cut_34 : decode b_Mo_cut 34 = .ok (.aload_n 0, 1) := by decide +kernel
theorem d_Mo_cut_35 : decode b_Mo_cut 35 = .ok (.getfield 187, 3) := by decide +kernel
theorem d_Mo_cut_38 : decode b_Mo_cut 38 = .ok (.if_icmp .ge (10), 3) := by decide +kernel
theorem d_Mo_cut_48 : decode b_Mo_cut 48 = .ok (.aload_n 0, 1) := by decide +kernel
theorem d_Mo_cut_49 : decode b_Mo_cut 49 = .ok (.getfield 187, 3) := by decide +kernel
theorem d_Mo_cut_52 : decode b_Mo_cut 52 = .ok (.bipush (8), 2) := by decide +kernel
theorem d_Mo_cut_54 : decode b_Mo_cut 54 = .ok (.idiv, 1) := by decide +kernel
theorem d_Mo_cut_55 : decode b_Mo_cut 55 = .ok (.istore_n 2, 1) := by decide +kernel
theorem d_Mo_cut_56 : decode b_Mo_cut 56 = .ok (.aload_n 0, 1) := by decide +kernel
theorem d_Mo_cut_57 : decode b_Mo_cut 57 = .ok (.iconst (0), 1) := by decide +kernel
theorem d_Mo_cut_58 : decode b_Mo_cut 58 = .ok (.putfield 187, 3) := by decide +kernel
theorem d_Mo_cut_61 : decode b_Mo_cut 61 = .ok (.aload_n 0, 1) := by decide +kernel
theorem d_Mo_cut_62 : decode b_Mo_cut 62 = .ok (.getfield 187, 3) := by decide +kernel
theorem d_Mo_cut_65 : decode b_Mo_cut 65 = .ok (.bipush (8), 2) := by decide +kernel
theorem d_Mo_cut_67 : decode b_Mo_cut 67 = .ok (.iload_n 2, 1) := by decide +kernel
theorem d_Mo_cut_68 : decode b_Mo_cut 68 = .ok (.imul, 1) := by decide +kernel
theorem d_Mo_cut_69 : decode b_Mo_cut 69 = .ok (.if_icmp .ge (28), 3) := by decide +kernel
theorem d_Mo_cut_97 : decode b_Mo_cut 97 = .ok (.iconst (0), 1) := by decide +kernel
theorem d_Mo_cut_98 : decode b_Mo_cut 98 = .ok (.istore_n 3, 1) := by decide +kernel
theorem d_Mo_cut_99 : decode b_Mo_cut 99 = .ok (.iload_n 3, 1) := by decide +kernel
theorem d_Mo_cut_100 : decode b_Mo_cut 100 = .ok (.bipush (24), 2) := by decide +kernel
theorem d_Mo_cut_102 : decode b_Mo_cut 102 = .ok (.if_icmp .ge (16), 3) := by decide +kernel
theorem d_Mo_cut_105 : decode b_Mo_cut 105 = .ok (.aload_n 0, 1) := by decide +kernel
theorem d_Mo_cut_106 : decode b_Mo_cut 106 = .ok (.getfield 47, 3) := by decide +kernel
theorem d_Mo_cut_109 : decode b_Mo_cut 109 = .ok (.iload_n 3, 1) := by decide +kernel
theorem d_Mo_cut_110 : decode b_Mo_cut 110 = .ok (.iconst (0), 1) := by decide +kernel
theorem d_Mo_cut_111 : decode b_Mo_cut 111 = .ok (.bastore, 1) := by decide +kernel
theorem d_Mo_cut_112 : decode b_Mo_cut 112 = .ok (.iinc 3 (1), 3) := by decide +kernel
theorem d_Mo_cut_115 : decode b_Mo_cut 115 = .ok (.goto (-16), 3) := by decide +kernel
theorem d_Mo_cut_118 : decode b_Mo_cut 118 = .ok (.iconst (0), 1) := by decide +kernel
theorem d_Mo_cut_119 : decode b_Mo_cut 119 = .ok (.istore_n 3, 1) := by decide +kernel
theorem d_Mo_cut_120 : decode b_Mo_cut 120 = .ok (.iload_n 3, 1) := by decide +kernel
theorem d_Mo_cut_121 : decode b_Mo_cut 121 = .ok (.aload_n 0, 1) := by decide +kernel
theorem d_Mo_cut_122 : decode b_Mo_cut 122 = .ok (.getfield 187, 3) := by decide +kernel
theorem d_Mo_cut_125 : decode b_Mo_cut 125 = .ok (.if_icmp .ge (105), 3) := by decide +kernel
theorem d_Mo_cut_230 : decode b_Mo_cut 230 = .ok (.iconst (0), 1) := by decide +kernel
theorem d_Mo_cut_231 : decode b_Mo_cut 231 = .ok (.istore_n 3, 1) := by decide +kernel
theorem d_Mo_cut_232 : decode b_Mo_cut 232 = .ok (.iload_n 3, 1) := by decide +kernel
theorem d_Mo_cut_233 : decode b_Mo_cut 233 = .ok (.aload_n 0, 1) := by decide +kernel
theorem d_Mo_cut_234 : decode b_Mo_cut 234 = .ok (.getfield 79, 3) := by decide +kernel
theorem d_Mo_cut_237 : decode b_Mo_cut 237 = .ok (.if_icmp .ge (30), 3) := by decide +kernel
theorem d_Mo_cut_267 : decode b_Mo_cut 267 = .ok (.aload_n 0, 1) := by decide +kernel
theorem d_Mo_cut_268 : decode b_Mo_cut 268 = .ok (.iconst (0), 1) := by decide +kernel
theorem d_Mo_cut_269 : decode b_Mo_cut 269 = .ok (.putfield 165, 3) := by decide +kernel
theorem d_Mo_cut_272 : decode b_Mo_cut 272 = .ok (.aload_n 0, 1) := by decide +kernel
theorem d_Mo_cut_273 : decode b_Mo_cut 273 = .ok (.getfield 187, 3) := by decide +kernel
theorem d_Mo_cut_276 : decode b_Mo_cut 276 = .ok (.ireturn, 1) := by decide +kernel
set_option maxRecDepth 20000 in
set_option maxHeartbeats 4000000 in
theorem c_Mo_cut (l : Launch) (D : va_G) (mo : Nat) (a13 : Nat) (a1 : Nat) (a2 : Nat) (a3 : Nat) (a4 : Nat) (a5 : Nat) (a6 : Nat) (a7 : Nat) (a8 : Nat) (a9 : Nat) (a10 : Nat) (a11 : Nat) (a12 : Nat) (a14 : Nat) (a15 : Nat) (a16 : Nat) (a17 : Nat) (a18 : Nat) (a19 : Nat) (cZ : ClassId) (x : Int32) (sz : Nat) (h : ¬ x < 0) : xMi l y_Mo_cut w_Mo_cut { frames := 2, cells := 0, slots := 0, locals := 60 } D cl [.ref mo, .int x] sz [(cZ, .boolean)] [(mo, .inr (6, [.int 0, .int 0, .ref a1, .ref a2, .ref a3, .ref a4, .ref a5, .ref a6, .ref a7, .ref a8, .ref a9, .int 0, .ref a10, .ref a11, .ref a12, .ref a13, .ref a14, .ref a15, .int 0, .ref a16, .int 1, .int 1, .int 0, .ref a17, .ref a18, .ref a19, .int 0, .int 0, .int 0, .int 0])), (a13, .inl (cZ, 24, .inl (fun _ => 0)))] (fun (r : Int32) (_ : Unit) => r = 0) (fun _ => [(mo, .inr (6, [.int 0, .int 0, .ref a1, .ref a2, .ref a3, .ref a4, .ref a5, .ref a6, .ref a7, .ref a8, .ref a9, .int 0, .ref a10, .ref a11, .ref a12, .ref a13, .ref a14, .ref a15, .int 0, .ref a16, .int 1, .int 1, .int 0, .ref a17, .ref a18, .ref a19, .int 0, .int 0, .int 0, .int 0]))]) (fun _ => []) := by
  refine xMi_of (by decide +kernel) rfl (Nat.le_of_ble_eq_true rfl) ?_
  intro p e s m args below meth c ls A B hAe hA hsz hP hK hD hS hAm hTh hAs hl
  obtain ⟨⟨hx, hb, hml, hown, hts⟩, hret, hlk, hnm, hemp⟩ := id B
  have hl : lv_has ls 5 [(0, .ref mo), (1, .int x)] := hl
  refine lv_aload_n hx hb d_Mo_cut_0 rfl (lv_at hl 0 rfl) ?_
  refine lv_iload_n hx hb d_Mo_cut_1 rfl (lv_at hl 1 rfl) ?_
  refine lv_if_ge (tgt := 9) hx hb d_Mo_cut_2 (by decide) (fun b2 => ?_) (fun b2 => absurd (xnlt_ge h) b2)
  refine lv_aload_n hx hb d_Mo_cut_9 rfl (lv_at hl 0 rfl) ?_
  refine va_get (D := D) (ci := 6) (v := .int 0) (C := R_Mo) (T := F_Mo) (N := 30) hx hb hts (fun w h => List.mem_cons_of_mem _ (u_Mo w h)) hown hK hP 0 rfl rfl 29 (by decide) (hts _ (List.mem_cons_of_mem _ tw_694)) (fun _ h9 => h9) rfl d_Mo_cut_10 ?_
  refine lv_if_eq (tgt := 20) hx hb d_Mo_cut_13 (by decide) (fun b13 => ?_) (fun b13 => absurd b13 (by decide))
  refine lv_iconst (v := 0) hx hb d_Mo_cut_20 (by decide) ?_
  refine va_put (D := D) (ci := 6) (v := .int 0) (ty := .int) (C := R_Mo) (T := F_Mo) (N := 30) hx hb hts (fun w h => List.mem_cons_of_mem _ (u_Mo w h)) t_Mo o_Mo n_Mo hown hK hP hD hS 0 rfl rfl 0 (by decide) (hts _ (List.mem_cons_of_mem _ tw_665)) (fun _ h9 => h9) rfl (by decide +kernel) rfl rfl (Nat.le_of_ble_eq_true rfl) d_Mo_cut_21 (fun H locs hP hD hS => ?_)
  have hP : va_P D cl [(mo, .inr (6, [.int 0, .int 0, .ref a1, .ref a2, .ref a3, .ref a4, .ref a5, .ref a6, .ref a7, .ref a8, .ref a9, .int 0, .ref a10, .ref a11, .ref a12, .ref a13, .ref a14, .ref a15, .int 0, .ref a16, .int 1, .int 1, .int 0, .ref a17, .ref a18, .ref a19, .int 0, .int 0, .int 0, .int 0])), (a13, .inl (cZ, 24, .inl (fun _ => 0)))] H := hP
  have hD : va_D A [(mo, .inr (6, [.int 0, .int 0, .ref a1, .ref a2, .ref a3, .ref a4, .ref a5, .ref a6, .ref a7, .ref a8, .ref a9, .int 0, .ref a10, .ref a11, .ref a12, .ref a13, .ref a14, .ref a15, .int 0, .ref a16, .int 1, .int 1, .int 0, .ref a17, .ref a18, .ref a19, .int 0, .int 0, .int 0, .int 0])), (a13, .inl (cZ, 24, .inl (fun _ => 0)))] := hD
  refine lv_aload_n hx hb d_Mo_cut_24 rfl (lv_at hl 0 rfl) ?_
  refine va_get (D := D) (ci := 6) (v := .int 0) (C := R_Mo) (T := F_Mo) (N := 30) hx hb hts (fun w h => List.mem_cons_of_mem _ (u_Mo w h)) hown hK hP 0 rfl rfl 0 (by decide) (hts _ (List.mem_cons_of_mem _ tw_665)) (fun _ h9 => h9) rfl d_Mo_cut_25 ?_
  refine lv_if_le (tgt := 33) hx hb d_Mo_cut_28 (by decide) (fun b28 => ?_) (fun b28 => absurd b28 (by decide))
  refine lv_iload_n hx hb d_Mo_cut_33 rfl (lv_at hl 1 rfl) ?_
  refine lv_aload_n hx hb d_Mo_cut_34 rfl (lv_at hl 0 rfl) ?_
  refine va_get (D := D) (ci := 6) (v := .int 0) (C := R_Mo) (T := F_Mo) (N := 30) hx hb hts (fun w h => List.mem_cons_of_mem _ (u_Mo w h)) hown hK hP 0 rfl rfl 18 (by decide) (hts _ (List.mem_cons_of_mem _ tw_683)) (fun _ h9 => h9) rfl d_Mo_cut_35 ?_
  refine lv_icmp_ge (tgt := 48) hx hb d_Mo_cut_38 (by decide) (fun b38 => ?_) (fun b38 => absurd (xnlt_ge h) b38)
  refine lv_aload_n hx hb d_Mo_cut_48 rfl (lv_at hl 0 rfl) ?_
  refine va_get (D := D) (ci := 6) (v := .int 0) (C := R_Mo) (T := F_Mo) (N := 30) hx hb hts (fun w h => List.mem_cons_of_mem _ (u_Mo w h)) hown hK hP 0 rfl rfl 18 (by decide) (hts _ (List.mem_cons_of_mem _ tw_683)) (fun _ h9 => h9) rfl d_Mo_cut_49 ?_
  refine lv_bipush (v := 8) hx hb d_Mo_cut_52 (by decide) ?_
  refine lv_idiv hx hb d_Mo_cut_54 (by decide) ?_
  refine xnum (v := 0) (by decide) ?_
  refine lv_istore_n hx hb d_Mo_cut_55 rfl hl (by decide) rfl (fun ls hl => ?_)
  have hl : lv_has ls 5 [(2, .int 0), (0, .ref mo), (1, .int x)] := hl
  refine lv_aload_n hx hb d_Mo_cut_56 rfl (lv_at hl 1 rfl) ?_
  refine lv_iconst (v := 0) hx hb d_Mo_cut_57 (by decide) ?_
  refine va_put (D := D) (ci := 6) (v := .int 0) (ty := .int) (C := R_Mo) (T := F_Mo) (N := 30) hx hb hts (fun w h => List.mem_cons_of_mem _ (u_Mo w h)) t_Mo o_Mo n_Mo hown hK hP hD hS 0 rfl rfl 18 (by decide) (hts _ (List.mem_cons_of_mem _ tw_683)) (fun _ h9 => h9) rfl (by decide +kernel) rfl rfl (Nat.le_of_ble_eq_true rfl) d_Mo_cut_58 (fun H locs hP hD hS => ?_)
  have hP : va_P D cl [(mo, .inr (6, [.int 0, .int 0, .ref a1, .ref a2, .ref a3, .ref a4, .ref a5, .ref a6, .ref a7, .ref a8, .ref a9, .int 0, .ref a10, .ref a11, .ref a12, .ref a13, .ref a14, .ref a15, .int 0, .ref a16, .int 1, .int 1, .int 0, .ref a17, .ref a18, .ref a19, .int 0, .int 0, .int 0, .int 0])), (a13, .inl (cZ, 24, .inl (fun _ => 0)))] H := hP
  have hD : va_D A [(mo, .inr (6, [.int 0, .int 0, .ref a1, .ref a2, .ref a3, .ref a4, .ref a5, .ref a6, .ref a7, .ref a8, .ref a9, .int 0, .ref a10, .ref a11, .ref a12, .ref a13, .ref a14, .ref a15, .int 0, .ref a16, .int 1, .int 1, .int 0, .ref a17, .ref a18, .ref a19, .int 0, .int 0, .int 0, .int 0])), (a13, .inl (cZ, 24, .inl (fun _ => 0)))] := hD
  refine lv_aload_n hx hb d_Mo_cut_61 rfl (lv_at hl 1 rfl) ?_
  refine va_get (D := D) (ci := 6) (v := .int 0) (C := R_Mo) (T := F_Mo) (N := 30) hx hb hts (fun w h => List.mem_cons_of_mem _ (u_Mo w h)) hown hK hP 0 rfl rfl 18 (by decide) (hts _ (List.mem_cons_of_mem _ tw_683)) (fun _ h9 => h9) rfl d_Mo_cut_62 ?_
  refine lv_bipush (v := 8) hx hb d_Mo_cut_65 (by decide) ?_
  refine lv_iload_n hx hb d_Mo_cut_67 rfl (lv_at hl 0 rfl) ?_
  refine lv_imul hx hb d_Mo_cut_68 ?_
  refine xnum (v := 0) (by decide) ?_
  refine lv_icmp_ge (tgt := 97) hx hb d_Mo_cut_69 (by decide) (fun b69 => ?_) (fun b69 => absurd b69 (by decide))
  refine lv_iconst (v := 0) hx hb d_Mo_cut_97 (by decide) ?_
  refine lv_istore_n hx hb d_Mo_cut_98 rfl hl (by decide) rfl (fun ls hl => ?_)
  have hl : lv_has ls 5 [(3, .int 0), (2, .int 0), (0, .ref mo), (1, .int x)] := hl
  have loop : ∀ (d k : Nat), k + d = 24 → ∀ (ls : Array Slot) (H : Heap) (locs : List Loc) (g : Nat → Int32), lv_has ls 5 [(3, .int (nI k)), (2, .int 0), (0, .ref mo), (1, .int x)] → va_P D cl [(mo, .inr (6, [.int 0, .int 0, .ref a1, .ref a2, .ref a3, .ref a4, .ref a5, .ref a6, .ref a7, .ref a8, .ref a9, .int 0, .ref a10, .ref a11, .ref a12, .ref a13, .ref a14, .ref a15, .int 0, .ref a16, .int 1, .int 1, .int 0, .ref a17, .ref a18, .ref a19, .int 0, .int 0, .int 0, .int 0])), (a13, .inl (cZ, 24, .inl (g)))] H → va_D A [(mo, .inr (6, [.int 0, .int 0, .ref a1, .ref a2, .ref a3, .ref a4, .ref a5, .ref a6, .ref a7, .ref a8, .ref a9, .int 0, .ref a10, .ref a11, .ref a12, .ref a13, .ref a14, .ref a15, .int 0, .ref a16, .int 1, .int 1, .int 0, .ref a17, .ref a18, .ref a19, .int 0, .int 0, .int 0, .int 0])), (a13, .inl (cZ, 24, .inl (g)))] → va_S A s.heap H locs → W p l e { frames := 2, cells := 0, slots := 0, locals := 60 } s m args below meth c H locs 0 0 (MQ below (va_Qi (fun (r : Int32) (_ : Unit) => r = 0) (xBh D cl A (fun _ => [(mo, .inr (6, [.int 0, .int 0, .ref a1, .ref a2, .ref a3, .ref a4, .ref a5, .ref a6, .ref a7, .ref a8, .ref a9, .int 0, .ref a10, .ref a11, .ref a12, .ref a13, .ref a14, .ref a15, .int 0, .ref a16, .int 1, .int 1, .int 0, .ref a17, .ref a18, .ref a19, .int 0, .int 0, .int 0, .int 0]))]) (fun _ => [])) A) args s 0 0 A) (F0 m 99 ls []) := by
    intro d
    induction d with
    | zero =>
      intro k hk ls H locs g hl hP hD hS
      have hk : k = 24 := hk
      subst hk
      refine lv_iload_n hx hb d_Mo_cut_99 rfl (lv_at hl 0 rfl) ?_
      refine lv_bipush (v := 24) hx hb d_Mo_cut_100 (by decide) ?_
      refine lv_icmp_ge (tgt := 118) hx hb d_Mo_cut_102 (by decide) (fun b102 => ?_) (fun b102 => absurd (by decide) b102)
      refine lv_iconst (v := 0) hx hb d_Mo_cut_118 (by decide) ?_
      refine lv_istore_n hx hb d_Mo_cut_119 rfl hl (by decide) rfl (fun ls hl => ?_)
      have hl : lv_has ls 5 [(3, .int 0), (2, .int 0), (0, .ref mo), (1, .int x)] := hl
      refine lv_iload_n hx hb d_Mo_cut_120 rfl (lv_at hl 0 rfl) ?_
      refine lv_aload_n hx hb d_Mo_cut_121 rfl (lv_at hl 2 rfl) ?_
      refine va_get (D := D) (ci := 6) (v := .int 0) (C := R_Mo) (T := F_Mo) (N := 30) hx hb hts (fun w h => List.mem_cons_of_mem _ (u_Mo w h)) hown hK hP 0 rfl rfl 18 (by decide) (hts _ (List.mem_cons_of_mem _ tw_683)) (fun _ h9 => h9) rfl d_Mo_cut_122 ?_
      refine lv_icmp_ge (tgt := 230) hx hb d_Mo_cut_125 (by decide) (fun b125 => ?_) (fun b125 => absurd b125 (by decide))
      refine lv_iconst (v := 0) hx hb d_Mo_cut_230 (by decide) ?_
      refine lv_istore_n hx hb d_Mo_cut_231 rfl hl (by decide) rfl (fun ls hl => ?_)
      have hl : lv_has ls 5 [(3, .int 0), (2, .int 0), (0, .ref mo), (1, .int x)] := hl
      refine lv_iload_n hx hb d_Mo_cut_232 rfl (lv_at hl 0 rfl) ?_
      refine lv_aload_n hx hb d_Mo_cut_233 rfl (lv_at hl 2 rfl) ?_
      refine va_get (D := D) (ci := 6) (v := .int 0) (C := R_Mo) (T := F_Mo) (N := 30) hx hb hts (fun w h => List.mem_cons_of_mem _ (u_Mo w h)) hown hK hP 0 rfl rfl 1 (by decide) (hts _ (List.mem_cons_of_mem _ tw_666)) (fun _ h9 => h9) rfl d_Mo_cut_234 ?_
      refine lv_icmp_ge (tgt := 267) hx hb d_Mo_cut_237 (by decide) (fun b237 => ?_) (fun b237 => absurd b237 (by decide))
      refine lv_aload_n hx hb d_Mo_cut_267 rfl (lv_at hl 2 rfl) ?_
      refine lv_iconst (v := 0) hx hb d_Mo_cut_268 (by decide) ?_
      refine va_put (D := D) (ci := 6) (v := .int 0) (ty := .boolean) (C := R_Mo) (T := F_Mo) (N := 30) hx hb hts (fun w h => List.mem_cons_of_mem _ (u_Mo w h)) t_Mo o_Mo n_Mo hown hK hP hD hS 0 rfl rfl 28 (by decide) (hts _ (List.mem_cons_of_mem _ tw_693)) (fun _ h9 => h9) rfl (by decide +kernel) rfl rfl (Nat.le_of_ble_eq_true rfl) d_Mo_cut_269 (fun H locs hP hD hS => ?_)
      have hP : va_P D cl [(mo, .inr (6, [.int 0, .int 0, .ref a1, .ref a2, .ref a3, .ref a4, .ref a5, .ref a6, .ref a7, .ref a8, .ref a9, .int 0, .ref a10, .ref a11, .ref a12, .ref a13, .ref a14, .ref a15, .int 0, .ref a16, .int 1, .int 1, .int 0, .ref a17, .ref a18, .ref a19, .int 0, .int 0, .int 0, .int 0])), (a13, .inl (cZ, 24, .inl (g)))] H := hP
      have hD : va_D A [(mo, .inr (6, [.int 0, .int 0, .ref a1, .ref a2, .ref a3, .ref a4, .ref a5, .ref a6, .ref a7, .ref a8, .ref a9, .int 0, .ref a10, .ref a11, .ref a12, .ref a13, .ref a14, .ref a15, .int 0, .ref a16, .int 1, .int 1, .int 0, .ref a17, .ref a18, .ref a19, .int 0, .int 0, .int 0, .int 0])), (a13, .inl (cZ, 24, .inl (g)))] := hD
      refine lv_aload_n hx hb d_Mo_cut_272 rfl (lv_at hl 2 rfl) ?_
      refine va_get (D := D) (ci := 6) (v := .int 0) (C := R_Mo) (T := F_Mo) (N := 30) hx hb hts (fun w h => List.mem_cons_of_mem _ (u_Mo w h)) hown hK hP 0 rfl rfl 18 (by decide) (hts _ (List.mem_cons_of_mem _ tw_683)) (fun _ h9 => h9) rfl d_Mo_cut_273 ?_
      exact xri () B d_Mo_cut_276 (rfl) (hP.sub (ws' := [(mo, .inr (6, [.int 0, .int 0, .ref a1, .ref a2, .ref a3, .ref a4, .ref a5, .ref a6, .ref a7, .ref a8, .ref a9, .int 0, .ref a10, .ref a11, .ref a12, .ref a13, .ref a14, .ref a15, .int 0, .ref a16, .int 1, .int 1, .int 0, .ref a17, .ref a18, .ref a19, .int 0, .int 0, .int 0, .int 0]))]) [0] rfl) (hK.sub (tys' := []) [] rfl) (hD.sub (ws' := [(mo, .inr (6, [.int 0, .int 0, .ref a1, .ref a2, .ref a3, .ref a4, .ref a5, .ref a6, .ref a7, .ref a8, .ref a9, .int 0, .ref a10, .ref a11, .ref a12, .ref a13, .ref a14, .ref a15, .int 0, .ref a16, .int 1, .int 1, .int 0, .ref a17, .ref a18, .ref a19, .int 0, .int 0, .int 0, .int 0]))]) [0] (by decide) rfl) hS (Nat.le_of_ble_eq_true rfl) (Nat.le_of_ble_eq_true rfl)
    | succ d ih =>
      intro k hk ls H locs g hl hP hD hS
      have hkn : k < 24 := by omega
      refine lv_iload_n hx hb d_Mo_cut_99 rfl (lv_at hl 0 rfl) ?_
      refine lv_bipush (v := 24) hx hb d_Mo_cut_100 (by decide) ?_
      refine lv_icmp_ge (tgt := 118) hx hb d_Mo_cut_102 (by decide) (fun b102 => absurd b102 (nI_ge hkn (by decide))) (fun b102 => ?_)
      refine lv_aload_n hx hb d_Mo_cut_105 rfl (lv_at hl 2 rfl) ?_
      refine va_get (D := D) (ci := 6) (v := .ref a13) (C := R_Mo) (T := F_Mo) (N := 30) hx hb hts (fun w h => List.mem_cons_of_mem _ (u_Mo w h)) hown hK hP 0 rfl rfl 15 (by decide) (hts _ (List.mem_cons_of_mem _ tw_680)) (fun _ h9 => h9) rfl d_Mo_cut_106 ?_
      refine lv_iload_n hx hb d_Mo_cut_109 rfl (lv_at hl 0 rfl) ?_
      refine lv_iconst (v := 0) hx hb d_Mo_cut_110 (by decide) ?_
      refine va_zast hx hb hK hP hD hS 1 0 rfl rfl (vp_in_nI hkn (by decide)) d_Mo_cut_111 (fun H locs hP hD hS => ?_)
      have hP : va_P D cl [(mo, .inr (6, [.int 0, .int 0, .ref a1, .ref a2, .ref a3, .ref a4, .ref a5, .ref a6, .ref a7, .ref a8, .ref a9, .int 0, .ref a10, .ref a11, .ref a12, .ref a13, .ref a14, .ref a15, .int 0, .ref a16, .int 1, .int 1, .int 0, .ref a17, .ref a18, .ref a19, .int 0, .int 0, .int 0, .int 0])), (a13, .inl (cZ, 24, .inl (upd (g) (nI k).toNatClampNeg (vp_nar .boolean 0))))] H := hP
      have hD : va_D A [(mo, .inr (6, [.int 0, .int 0, .ref a1, .ref a2, .ref a3, .ref a4, .ref a5, .ref a6, .ref a7, .ref a8, .ref a9, .int 0, .ref a10, .ref a11, .ref a12, .ref a13, .ref a14, .ref a15, .int 0, .ref a16, .int 1, .int 1, .int 0, .ref a17, .ref a18, .ref a19, .int 0, .int 0, .int 0, .int 0])), (a13, .inl (cZ, 24, .inl (upd (g) (nI k).toNatClampNeg (vp_nar .boolean 0))))] := hD
      refine lv_iinc (k := 0) (v := nI (k + 1)) hx hb d_Mo_cut_112 hl rfl (nI_1 _) (by decide) rfl (fun ls hl => ?_)
      have hl : lv_has ls 5 [(3, .int (nI (k + 1))), (2, .int 0), (0, .ref mo), (1, .int x)] := hl
      refine lv_goto (tgt := 99) hx hb d_Mo_cut_115 (by decide) ?_
      exact ih (k + 1) (by omega) ls _ _ (upd (g) (nI k).toNatClampNeg (vp_nar .boolean 0))  (lv_sub hl [0, 1, 2, 3] rfl) hP hD hS
  exact loop 24 0 (Nat.zero_add 24) ls _ _ (fun _ => 0)  (lv_sub hl [0, 1, 2, 3] rfl) hP hD hS
