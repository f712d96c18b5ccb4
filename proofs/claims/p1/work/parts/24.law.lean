set_option maxRecDepth 20000 in
set_option maxHeartbeats 4000000 in
theorem x_law4 (l : Launch) (hfl : l.flags = pinnedFlags ++ [noTraceFlag]) {p : Program} {e : Env} {s : State} {m : MethodId} {below : List Frame} {meth : Method} {c : Code} {b : Nat} {xs : Nat → Int32} (C0 : xLw p s m meth c b 4 xs) (D : va_G) (cI cZ cJ : ClassId) (hK : va_K D cl [(cI, .int), (cZ, .boolean), (cJ, .long)] s) {ls : Array Slot} (hl : lv_has ls 7 [(0, .ref b)]) : W p l e { frames := 11, cells := 600002, slots := 7302232, locals := 388 } s m #[Value.ref b] below meth c s.heap [] 0 0 (lw_Z below #[Value.ref b] s) (F0 m 0 ls []) := by
  obtain ⟨⟨hx, hb, hml, hown, hts⟩, hr, hlk, hX, hbl, hAm, hTh⟩ := id C0
  have hA : ∀ q, s.heap.size ≤ q → xA s q := fun q h => h
  have hbA : ¬ xA s b := fun h => absurd hbl (Nat.not_lt.mpr h)
  have hAs := xA_st s
  have hP : va_P D cl [] s.heap := xP0
  have hD : va_D (xA s) [] := xD0
  have hS : va_S (xA s) s.heap s.heap [] := va_S.rf
  refine va_new (ci := 5) (fs := [.null, .null, .null, .null, .null, .null]) (C := R_FB) (T := F_FB) (N := 6) hx hb hts (fun w h => List.mem_cons_of_mem _ (u_FB w h)) t_FB o_FB hown (hts _ (List.mem_cons_of_mem _ tw_17)) (hts _ (List.mem_cons_of_mem _ tw_18)) (hts _ (List.mem_cons_of_mem _ tw_1)) hK hP hD hS hA rfl (fun j hj => by rcases (show j = 0 ∨ j = 1 ∨ j = 2 ∨ j = 3 ∨ j = 4 ∨ j = 5 by omega) with rfl | rfl | rfl | rfl | rfl | rfl <;> rfl) (Nat.le_of_ble_eq_true rfl) (Nat.le_of_ble_eq_true rfl) d_La_law_0 (fun q1 H hP hD hS => ?_)
  have hP : va_P D cl [(q1, .inr (5, [.null, .null, .null, .null, .null, .null]))] H := hP
  have hD : va_D (xA s) [(q1, .inr (5, [.null, .null, .null, .null, .null, .null]))] := hD
  refine lv_dup hx hb d_La_law_3 rfl ?_
  have hPc := hP.sub (ws' := [(q1, .inr (5, [.null, .null, .null, .null, .null, .null]))]) [0] rfl
  have hDc := hD.sub (ws' := [(q1, .inr (5, [.null, .null, .null, .null, .null, .null]))]) [0] (by decide) rfl
  have hKc := hK.sub (tys' := [(cI, .int), (cZ, .boolean)]) [0, 1] rfl
  refine xgv (wsC := [(q1, .inr (5, [.null, .null, .null, .null, .null, .null]))]) (wr := []) (va_runI (As := []) (rest := [.ref q1]) ⟨hx, hb, hml, hown, hts⟩ (c_FB_init l  D q1 cI cZ _ ) ⟨(callB_of 0 hts (x_good k_FB_init) rfl rfl rfl (hts _ (List.mem_cons_of_mem _ tw_1)) (hts _ (List.mem_cons_of_mem _ tw_19)) (by decide +kernel) ⟨Nat.le_of_ble_eq_true rfl, Nat.le_of_ble_eq_true rfl⟩), rfl, (hts _ (List.mem_cons_of_mem _ tw_20))⟩ (xP_S hPc hKc hDc hAm hTh hAs hS) rfl rfl hl.1 rfl (lv_room (Nat.le_of_ble_eq_true rfl)) d_La_law_4 ⟨Nat.le_of_ble_eq_true rfl, Nat.le_of_ble_eq_true rfl⟩) hP hD hK hS hA [0] [] rfl rfl (by decide) (by decide) (fun ⟨q2, q3, q4, q5, q6, q7, q8, q9, q10, q11, q12, q13, q14, q15, q16, q17, q18, q19, q20⟩ H locs _ hP hD hK hS => ?_)
  have hK : va_K D cl [(cI, .int), (cZ, .boolean), (cJ, .long)] s := hK
  have hP : va_P D cl [(q1, .inr (5, [.ref q2, .ref q3, .ref q4, .ref q5, .ref q6, .ref q7])), (q2, .inr (1, [.ref q8, .ref q9, .int 0, .int 0])), (q3, .inr (2, [.ref q10, .ref q11, .ref q12, .ref q17, .ref q18, .int 0])), (q4, .inr (3, [.ref q13, .ref q14])), (q5, .inr (4, [.ref q19, .ref q15, .ref q20, .int 0])), (q6, .inr (0, [.ref q16, .int 0, .int 0, .int 0])), (q7, .inl (cI, 3, .inl (fun _ => 1))), (q8, .inl (cI, 24, .inl (fun _ => 0))), (q9, .inl (cI, 24, .inl (fun _ => 0))), (q10, .inl (cI, 12, .inl (fun _ => 0))), (q11, .inl (cI, 12, .inl (fun _ => 0))), (q12, .inl (cI, 12, .inl (fun _ => 0))), (q13, .inl (cI, 12, .inl (fun _ => 0))), (q14, .inl (cZ, 12, .inl (fun _ => 0))), (q15, .inl (cI, 24, .inl (fun _ => (-1)))), (q16, .inl (cI, 12, .inl (fun _ => 0)))] H := hP
  have hD : va_D (xA s) [(q1, .inr (5, [.ref q2, .ref q3, .ref q4, .ref q5, .ref q6, .ref q7])), (q2, .inr (1, [.ref q8, .ref q9, .int 0, .int 0])), (q3, .inr (2, [.ref q10, .ref q11, .ref q12, .ref q17, .ref q18, .int 0])), (q4, .inr (3, [.ref q13, .ref q14])), (q5, .inr (4, [.ref q19, .ref q15, .ref q20, .int 0])), (q6, .inr (0, [.ref q16, .int 0, .int 0, .int 0])), (q7, .inl (cI, 3, .inl (fun _ => 1))), (q8, .inl (cI, 24, .inl (fun _ => 0))), (q9, .inl (cI, 24, .inl (fun _ => 0))), (q10, .inl (cI, 12, .inl (fun _ => 0))), (q11, .inl (cI, 12, .inl (fun _ => 0))), (q12, .inl (cI, 12, .inl (fun _ => 0))), (q13, .inl (cI, 12, .inl (fun _ => 0))), (q14, .inl (cZ, 12, .inl (fun _ => 0))), (q15, .inl (cI, 24, .inl (fun _ => (-1)))), (q16, .inl (cI, 12, .inl (fun _ => 0)))] := hD
  refine lv_astore_n hx hb d_La_law_7 rfl hl (by decide) rfl (fun ls hl => ?_)
  have hl : lv_has ls 7 [(1, .ref q1), (0, .ref b)] := hl
  refine va_new (ci := 6) (fs := [.int 0, .int 0, .null, .null, .null, .null, .null, .null, .null, .null, .null, .int 0, .null, .null, .null, .null, .null, .null, .int 0, .null, .int 0, .int 0, .int 0, .null, .null, .null, .int 0, .int 0, .int 0, .int 0]) (C := R_Mo) (T := F_Mo) (N := 30) hx hb hts (fun w h => List.mem_cons_of_mem _ (u_Mo w h)) t_Mo o_Mo hown (hts _ (List.mem_cons_of_mem _ tw_659)) (hts _ (List.mem_cons_of_mem _ tw_660)) (hts _ (List.mem_cons_of_mem _ tw_8)) hK hP hD hS hA rfl (fun j hj => by rcases (show j = 0 ∨ j = 1 ∨ j = 2 ∨ j = 3 ∨ j = 4 ∨ j = 5 ∨ j = 6 ∨ j = 7 ∨ j = 8 ∨ j = 9 ∨ j = 10 ∨ j = 11 ∨ j = 12 ∨ j = 13 ∨ j = 14 ∨ j = 15 ∨ j = 16 ∨ j = 17 ∨ j = 18 ∨ j = 19 ∨ j = 20 ∨ j = 21 ∨ j = 22 ∨ j = 23 ∨ j = 24 ∨ j = 25 ∨ j = 26 ∨ j = 27 ∨ j = 28 ∨ j = 29 by omega) with rfl | rfl | rfl | rfl | rfl | rfl | rfl | rfl | rfl | rfl | rfl | rfl | rfl | rfl | rfl | rfl | rfl | rfl | rfl | rfl | rfl | rfl | rfl | rfl | rfl | rfl | rfl | rfl | rfl | rfl <;> rfl) (Nat.le_of_ble_eq_true rfl) (Nat.le_of_ble_eq_true rfl) d_La_law_8 (fun q21 H hP hD hS => ?_)
  have hP : va_P D cl [(q1, .inr (5, [.ref q2, .ref q3, .ref q4, .ref q5, .ref q6, .ref q7])), (q2, .inr (1, [.ref q8, .ref q9, .int 0, .int 0])), (q3, .inr (2, [.ref q10, .ref q11, .ref q12, .ref q17, .ref q18, .int 0])), (q4, .inr (3, [.ref q13, .ref q14])), (q5, .inr (4, [.ref q19, .ref q15, .ref q20, .int 0])), (q6, .inr (0, [.ref q16, .int 0, .int 0, .int 0])), (q7, .inl (cI, 3, .inl (fun _ => 1))), (q8, .inl (cI, 24, .inl (fun _ => 0))), (q9, .inl (cI, 24, .inl (fun _ => 0))), (q10, .inl (cI, 12, .inl (fun _ => 0))), (q11, .inl (cI, 12, .inl (fun _ => 0))), (q12, .inl (cI, 12, .inl (fun _ => 0))), (q13, .inl (cI, 12, .inl (fun _ => 0))), (q14, .inl (cZ, 12, .inl (fun _ => 0))), (q15, .inl (cI, 24, .inl (fun _ => (-1)))), (q16, .inl (cI, 12, .inl (fun _ => 0))), (q21, .inr (6, [.int 0, .int 0, .null, .null, .null, .null, .null, .null, .null, .null, .null, .int 0, .null, .null, .null, .null, .null, .null, .int 0, .null, .int 0, .int 0, .int 0, .null, .null, .null, .int 0, .int 0, .int 0, .int 0]))] H := hP
  have hD : va_D (xA s) [(q1, .inr (5, [.ref q2, .ref q3, .ref q4, .ref q5, .ref q6, .ref q7])), (q2, .inr (1, [.ref q8, .ref q9, .int 0, .int 0])), (q3, .inr (2, [.ref q10, .ref q11, .ref q12, .ref q17, .ref q18, .int 0])), (q4, .inr (3, [.ref q13, .ref q14])), (q5, .inr (4, [.ref q19, .ref q15, .ref q20, .int 0])), (q6, .inr (0, [.ref q16, .int 0, .int 0, .int 0])), (q7, .inl (cI, 3, .inl (fun _ => 1))), (q8, .inl (cI, 24, .inl (fun _ => 0))), (q9, .inl (cI, 24, .inl (fun _ => 0))), (q10, .inl (cI, 12, .inl (fun _ => 0))), (q11, .inl (cI, 12, .inl (fun _ => 0))), (q12, .inl (cI, 12, .inl (fun _ => 0))), (q13, .inl (cI, 12, .inl (fun _ => 0))), (q14, .inl (cZ, 12, .inl (fun _ => 0))), (q15, .inl (cI, 24, .inl (fun _ => (-1)))), (q16, .inl (cI, 12, .inl (fun _ => 0))), (q21, .inr (6, [.int 0, .int 0, .null, .null, .null, .null, .null, .null, .null, .null, .null, .int 0, .null, .null, .null, .null, .null, .null, .int 0, .null, .int 0, .int 0, .int 0, .null, .null, .null, .int 0, .int 0, .int 0, .int 0]))] := hD
  refine lv_dup hx hb d_La_law_11 rfl ?_
  have hPc := hP.sub (ws' := [(q21, .inr (6, [.int 0, .int 0, .null, .null, .null, .null, .null, .null, .null, .null, .null, .int 0, .null, .null, .null, .null, .null, .null, .int 0, .null, .int 0, .int 0, .int 0, .null, .null, .null, .int 0, .int 0, .int 0, .int 0]))]) [16] rfl
  have hDc := hD.sub (ws' := [(q21, .inr (6, [.int 0, .int 0, .null, .null, .null, .null, .null, .null, .null, .null, .null, .int 0, .null, .null, .null, .null, .null, .null, .int 0, .null, .int 0, .int 0, .int 0, .null, .null, .null, .int 0, .int 0, .int 0, .int 0]))]) [16] (by decide) rfl
  have hKc := hK.sub (tys' := [(cI, .int), (cZ, .boolean)]) [0, 1] rfl
  refine xgv (wsC := [(q21, .inr (6, [.int 0, .int 0, .null, .null, .null, .null, .null, .null, .null, .null, .null, .int 0, .null, .null, .null, .null, .null, .null, .int 0, .null, .int 0, .int 0, .int 0, .null, .null, .null, .int 0, .int 0, .int 0, .int 0]))]) (wr := [(q1, .inr (5, [.ref q2, .ref q3, .ref q4, .ref q5, .ref q6, .ref q7])), (q2, .inr (1, [.ref q8, .ref q9, .int 0, .int 0])), (q3, .inr (2, [.ref q10, .ref q11, .ref q12, .ref q17, .ref q18, .int 0])), (q4, .inr (3, [.ref q13, .ref q14])), (q5, .inr (4, [.ref q19, .ref q15, .ref q20, .int 0])), (q6, .inr (0, [.ref q16, .int 0, .int 0, .int 0])), (q7, .inl (cI, 3, .inl (fun _ => 1))), (q8, .inl (cI, 24, .inl (fun _ => 0))), (q9, .inl (cI, 24, .inl (fun _ => 0))), (q10, .inl (cI, 12, .inl (fun _ => 0))), (q11, .inl (cI, 12, .inl (fun _ => 0))), (q12, .inl (cI, 12, .inl (fun _ => 0))), (q13, .inl (cI, 12, .inl (fun _ => 0))), (q14, .inl (cZ, 12, .inl (fun _ => 0))), (q15, .inl (cI, 24, .inl (fun _ => (-1)))), (q16, .inl (cI, 12, .inl (fun _ => 0)))]) (va_runI (As := []) (rest := [.ref q21]) ⟨hx, hb, hml, hown, hts⟩ (c_Mo_init l  D q21 cI cZ _ ) ⟨(callB_of 0 hts (x_good k_Mo_init) rfl rfl rfl (hts _ (List.mem_cons_of_mem _ tw_8)) (hts _ (List.mem_cons_of_mem _ tw_661)) (by decide +kernel) ⟨Nat.le_of_ble_eq_true rfl, Nat.le_of_ble_eq_true rfl⟩), rfl, (hts _ (List.mem_cons_of_mem _ tw_662))⟩ (xP_S hPc hKc hDc hAm hTh hAs hS) rfl rfl hl.1 rfl (lv_room (Nat.le_of_ble_eq_true rfl)) d_La_law_12 ⟨Nat.le_of_ble_eq_true rfl, Nat.le_of_ble_eq_true rfl⟩) hP hD hK hS hA [16] [0, 1, 2, 3, 4, 5, 6, 7, 8, 9, 10, 11, 12, 13, 14, 15] rfl rfl (by decide) (by decide) (fun ⟨q22, q23, q24, q25, q26, q27, q28, q29, q30, q31, q32, q33, q34, q35, q36, q37, q38, q39, q40⟩ H locs _ hP hD hK hS => ?_)
  have hK : va_K D cl [(cI, .int), (cZ, .boolean), (cJ, .long)] s := hK
  have hP : va_P D cl [(q1, .inr (5, [.ref q2, .ref q3, .ref q4, .ref q5, .ref q6, .ref q7])), (q2, .inr (1, [.ref q8, .ref q9, .int 0, .int 0])), (q3, .inr (2, [.ref q10, .ref q11, .ref q12, .ref q17, .ref q18, .int 0])), (q4, .inr (3, [.ref q13, .ref q14])), (q5, .inr (4, [.ref q19, .ref q15, .ref q20, .int 0])), (q6, .inr (0, [.ref q16, .int 0, .int 0, .int 0])), (q7, .inl (cI, 3, .inl (fun _ => 1))), (q8, .inl (cI, 24, .inl (fun _ => 0))), (q9, .inl (cI, 24, .inl (fun _ => 0))), (q10, .inl (cI, 12, .inl (fun _ => 0))), (q11, .inl (cI, 12, .inl (fun _ => 0))), (q12, .inl (cI, 12, .inl (fun _ => 0))), (q13, .inl (cI, 12, .inl (fun _ => 0))), (q14, .inl (cZ, 12, .inl (fun _ => 0))), (q15, .inl (cI, 24, .inl (fun _ => (-1)))), (q16, .inl (cI, 12, .inl (fun _ => 0))), (q21, .inr (6, [.int 0, .int 0, .ref q22, .ref q23, .ref q24, .ref q25, .ref q26, .ref q27, .ref q28, .ref q29, .ref q30, .int 0, .ref q31, .ref q32, .ref q33, .ref q34, .ref q35, .ref q36, .int 0, .ref q37, .int 1, .int 1, .int 0, .ref q38, .ref q39, .ref q40, .int 0, .int 0, .int 0, .int 0])), (q22, .inl (cI, 12, .inl (fun _ => 0))), (q23, .inl (cI, 12, .inl (fun _ => 0))), (q24, .inl (cI, 12, .inl (fun _ => 0))), (q31, .inl (cI, 24, .inl (fun _ => 0))), (q32, .inl (cI, 24, .inl (fun _ => 0))), (q33, .inl (cI, 24, .inl (fun _ => 0))), (q34, .inl (cZ, 24, .inl (fun _ => 0)))] H := hP
  have hD : va_D (xA s) [(q1, .inr (5, [.ref q2, .ref q3, .ref q4, .ref q5, .ref q6, .ref q7])), (q2, .inr (1, [.ref q8, .ref q9, .int 0, .int 0])), (q3, .inr (2, [.ref q10, .ref q11, .ref q12, .ref q17, .ref q18, .int 0])), (q4, .inr (3, [.ref q13, .ref q14])), (q5, .inr (4, [.ref q19, .ref q15, .ref q20, .int 0])), (q6, .inr (0, [.ref q16, .int 0, .int 0, .int 0])), (q7, .inl (cI, 3, .inl (fun _ => 1))), (q8, .inl (cI, 24, .inl (fun _ => 0))), (q9, .inl (cI, 24, .inl (fun _ => 0))), (q10, .inl (cI, 12, .inl (fun _ => 0))), (q11, .inl (cI, 12, .inl (fun _ => 0))), (q12, .inl (cI, 12, .inl (fun _ => 0))), (q13, .inl (cI, 12, .inl (fun _ => 0))), (q14, .inl (cZ, 12, .inl (fun _ => 0))), (q15, .inl (cI, 24, .inl (fun _ => (-1)))), (q16, .inl (cI, 12, .inl (fun _ => 0))), (q21, .inr (6, [.int 0, .int 0, .ref q22, .ref q23, .ref q24, .ref q25, .ref q26, .ref q27, .ref q28, .ref q29, .ref q30, .int 0, .ref q31, .ref q32, .ref q33, .ref q34, .ref q35, .ref q36, .int 0, .ref q37, .int 1, .int 1, .int 0, .ref q38, .ref q39, .ref q40, .int 0, .int 0, .int 0, .int 0])), (q22, .inl (cI, 12, .inl (fun _ => 0))), (q23, .inl (cI, 12, .inl (fun _ => 0))), (q24, .inl (cI, 12, .inl (fun _ => 0))), (q31, .inl (cI, 24, .inl (fun _ => 0))), (q32, .inl (cI, 24, .inl (fun _ => 0))), (q33, .inl (cI, 24, .inl (fun _ => 0))), (q34, .inl (cZ, 24, .inl (fun _ => 0)))] := hD
  refine lv_astore_n hx hb d_La_law_15 rfl hl (by decide) rfl (fun ls hl => ?_)
  have hl : lv_has ls 7 [(2, .ref q21), (1, .ref q1), (0, .ref b)] := hl
  refine lv_iconst (v := 1) hx hb d_La_law_16 (by decide) ?_
  refine va_newa (atype := .long) (a0 := (1, .inr (.inl (fun _ => 0)))) (N' := 1) (ty := .long) hx hb (hts _ (List.mem_cons_of_mem _ tw_943)) rfl hK hP hD hS hA (fun _ => rfl) (by decide) (by decide) (by decide) (Nat.le_of_ble_eq_true rfl) (Nat.le_of_ble_eq_true rfl) d_La_law_17 (fun q41 cA42 H hK hP hD hS => ?_)
  obtain rfl : cJ = cA42 := xsame (by intro C h; cases h) hK 2 3 rfl rfl
  have hK : va_K D cl [(cI, .int), (cZ, .boolean), (cJ, .long)] s := hK.sub [0, 1, 2] rfl
  have hP : va_P D cl [(q1, .inr (5, [.ref q2, .ref q3, .ref q4, .ref q5, .ref q6, .ref q7])), (q2, .inr (1, [.ref q8, .ref q9, .int 0, .int 0])), (q3, .inr (2, [.ref q10, .ref q11, .ref q12, .ref q17, .ref q18, .int 0])), (q4, .inr (3, [.ref q13, .ref q14])), (q5, .inr (4, [.ref q19, .ref q15, .ref q20, .int 0])), (q6, .inr (0, [.ref q16, .int 0, .int 0, .int 0])), (q7, .inl (cI, 3, .inl (fun _ => 1))), (q8, .inl (cI, 24, .inl (fun _ => 0))), (q9, .inl (cI, 24, .inl (fun _ => 0))), (q10, .inl (cI, 12, .inl (fun _ => 0))), (q11, .inl (cI, 12, .inl (fun _ => 0))), (q12, .inl (cI, 12, .inl (fun _ => 0))), (q13, .inl (cI, 12, .inl (fun _ => 0))), (q14, .inl (cZ, 12, .inl (fun _ => 0))), (q15, .inl (cI, 24, .inl (fun _ => (-1)))), (q16, .inl (cI, 12, .inl (fun _ => 0))), (q21, .inr (6, [.int 0, .int 0, .ref q22, .ref q23, .ref q24, .ref q25, .ref q26, .ref q27, .ref q28, .ref q29, .ref q30, .int 0, .ref q31, .ref q32, .ref q33, .ref q34, .ref q35, .ref q36, .int 0, .ref q37, .int 1, .int 1, .int 0, .ref q38, .ref q39, .ref q40, .int 0, .int 0, .int 0, .int 0])), (q22, .inl (cI, 12, .inl (fun _ => 0))), (q23, .inl (cI, 12, .inl (fun _ => 0))), (q24, .inl (cI, 12, .inl (fun _ => 0))), (q31, .inl (cI, 24, .inl (fun _ => 0))), (q32, .inl (cI, 24, .inl (fun _ => 0))), (q33, .inl (cI, 24, .inl (fun _ => 0))), (q34, .inl (cZ, 24, .inl (fun _ => 0))), (q41, .inl (cJ, 1, .inr (.inl (fun _ => 0))))] H := hP
  have hD : va_D (xA s) [(q1, .inr (5, [.ref q2, .ref q3, .ref q4, .ref q5, .ref q6, .ref q7])), (q2, .inr (1, [.ref q8, .ref q9, .int 0, .int 0])), (q3, .inr (2, [.ref q10, .ref q11, .ref q12, .ref q17, .ref q18, .int 0])), (q4, .inr (3, [.ref q13, .ref q14])), (q5, .inr (4, [.ref q19, .ref q15, .ref q20, .int 0])), (q6, .inr (0, [.ref q16, .int 0, .int 0, .int 0])), (q7, .inl (cI, 3, .inl (fun _ => 1))), (q8, .inl (cI, 24, .inl (fun _ => 0))), (q9, .inl (cI, 24, .inl (fun _ => 0))), (q10, .inl (cI, 12, .inl (fun _ => 0))), (q11, .inl (cI, 12, .inl (fun _ => 0))), (q12, .inl (cI, 12, .inl (fun _ => 0))), (q13, .inl (cI, 12, .inl (fun _ => 0))), (q14, .inl (cZ, 12, .inl (fun _ => 0))), (q15, .inl (cI, 24, .inl (fun _ => (-1)))), (q16, .inl (cI, 12, .inl (fun _ => 0))), (q21, .inr (6, [.int 0, .int 0, .ref q22, .ref q23, .ref q24, .ref q25, .ref q26, .ref q27, .ref q28, .ref q29, .ref q30, .int 0, .ref q31, .ref q32, .ref q33, .ref q34, .ref q35, .ref q36, .int 0, .ref q37, .int 1, .int 1, .int 0, .ref q38, .ref q39, .ref q40, .int 0, .int 0, .int 0, .int 0])), (q22, .inl (cI, 12, .inl (fun _ => 0))), (q23, .inl (cI, 12, .inl (fun _ => 0))), (q24, .inl (cI, 12, .inl (fun _ => 0))), (q31, .inl (cI, 24, .inl (fun _ => 0))), (q32, .inl (cI, 24, .inl (fun _ => 0))), (q33, .inl (cI, 24, .inl (fun _ => 0))), (q34, .inl (cZ, 24, .inl (fun _ => 0))), (q41, .inl (cJ, 1, .inr (.inl (fun _ => 0))))] := hD
  refine lv_astore_n hx hb d_La_law_19 rfl hl (by decide) rfl (fun ls hl => ?_)
  have hl : lv_has ls 7 [(3, .ref q41), (2, .ref q21), (1, .ref q1), (0, .ref b)] := hl
  refine lv_iconst (v := 0) hx hb d_La_law_20 (by decide) ?_
  refine lv_istore hx hb d_La_law_21 hl (by decide) rfl (fun ls hl => ?_)
  have hl : lv_has ls 7 [(4, .int 0), (3, .ref q41), (2, .ref q21), (1, .ref q1), (0, .ref b)] := hl
  refine lv_iload hx hb d_La_law_23 (lv_at hl 0 rfl) ?_
  refine lv_aload_n hx hb d_La_law_25 rfl (lv_at hl 4 rfl) ?_
  refine va_slen hx hb hX hbl hbA hS d_La_law_26 ?_
  refine xnum (v := 4) rfl ?_
  refine lv_iconst (v := 4) hx hb d_La_law_27 (by decide) ?_
  refine lv_isub hx hb d_La_law_28 ?_
  refine xnum (v := 0) (by decide) ?_
  refine lv_icmp_gt (tgt := 1010) hx hb d_La_law_29 (by decide) (fun b29 => absurd b29 (by decide)) (fun b29 => ?_)
  refine lv_aload_n hx hb d_La_law_32 rfl (lv_at hl 4 rfl) ?_
  refine lv_iload hx hb d_La_law_33 (lv_at hl 0 rfl) ?_
  refine va_sld (i := 0) hx hb hX hbl hbA hS (by unfold vp_in; decide) d_La_law_35 ?_
  refine xnum (v := xs 0) rfl ?_
  refine lv_bipush (v := 31) hx hb d_La_law_36 (by decide) ?_
  refine lv_iand hx hb d_La_law_38 ?_
  rcases xsw ((xs 0) &&& (31 : Int32)) with e9 | e9 | e9 | e9 | e9 | e9 | e9 | e9 | e9 | e9 | e9 | e9 | e9 | e9 | e9 | e9 | e9 | e9
  · refine lv_tableOut (tgt := 1004) hx hb d_La_law_39 e9 (by decide) ?_
    exact x_end l C0 (lv_sub hl [0, 4] rfl) hS (Nat.le_of_ble_eq_true rfl) (Nat.le_of_ble_eq_true rfl)
  · refine xnum (v := 0) e9 ?_
    refine lv_tableIn (off := 81) (tgt := 120) hx hb d_La_law_39 (by decide) (by decide) rfl (by decide) ?_
    exact x_case0 l hfl C0 D q1 q2 q3 q4 q5 q6 q7 q8 q9 q10 q11 q12 q13 q14 q15 q16 q21 q22 q23 q24 q31 q32 q33 q34 q41 q17 q18 q19 q20 q25 q26 q27 q28 q29 q30 q35 q36 q37 q38 q39 q40 cI cZ cJ hl hP hD hK hS
  · refine xnum (v := 1) e9 ?_
    refine lv_tableIn (off := 161) (tgt := 200) hx hb d_La_law_39 (by decide) (by decide) rfl (by decide) ?_
    exact x_case1 l hfl C0 D q1 q2 q3 q4 q5 q6 q7 q8 q9 q10 q11 q12 q13 q14 q15 q16 q21 q22 q23 q24 q31 q32 q33 q34 q41 q17 q18 q19 q20 q25 q26 q27 q28 q29 q30 q35 q36 q37 q38 q39 q40 cI cZ cJ hl hP hD hK hS
  · refine xnum (v := 2) e9 ?_
    refine lv_tableIn (off := 221) (tgt := 260) hx hb d_La_law_39 (by decide) (by decide) rfl (by decide) ?_
    exact x_case2 l hfl C0 D q1 q2 q3 q4 q5 q6 q7 q8 q9 q10 q11 q12 q13 q14 q15 q16 q21 q22 q23 q24 q31 q32 q33 q34 q41 q17 q18 q19 q20 q25 q26 q27 q28 q29 q30 q35 q36 q37 q38 q39 q40 cI cZ cJ hl hP hD hK hS
  · refine xnum (v := 3) e9 ?_
    refine lv_tableIn (off := 297) (tgt := 336) hx hb d_La_law_39 (by decide) (by decide) rfl (by decide) ?_
    exact x_case3 l hfl C0 D q1 q2 q3 q4 q5 q6 q7 q8 q9 q10 q11 q12 q13 q14 q15 q16 q21 q22 q23 q24 q31 q32 q33 q34 q41 q17 q18 q19 q20 q25 q26 q27 q28 q29 q30 q35 q36 q37 q38 q39 q40 cI cZ cJ hl hP hD hK hS
  · refine xnum (v := 4) e9 ?_
    refine lv_tableIn (off := 345) (tgt := 384) hx hb d_La_law_39 (by decide) (by decide) rfl (by decide) ?_
    exact x_case4 l hfl C0 D q1 q2 q3 q4 q5 q6 q7 q8 q9 q10 q11 q12 q13 q14 q15 q16 q21 q22 q23 q24 q31 q32 q33 q34 q41 q17 q18 q19 q20 q25 q26 q27 q28 q29 q30 q35 q36 q37 q38 q39 q40 cI cZ cJ hl hP hD hK hS
  · refine xnum (v := 5) e9 ?_
    refine lv_tableIn (off := 393) (tgt := 432) hx hb d_La_law_39 (by decide) (by decide) rfl (by decide) ?_
    exact x_case5 l hfl C0 D q1 q2 q3 q4 q5 q6 q7 q8 q9 q10 q11 q12 q13 q14 q15 q16 q21 q22 q23 q24 q31 q32 q33 q34 q41 q17 q18 q19 q20 q25 q26 q27 q28 q29 q30 q35 q36 q37 q38 q39 q40 cI cZ cJ hl hP hD hK hS
  · refine xnum (v := 6) e9 ?_
    refine lv_tableIn (off := 441) (tgt := 480) hx hb d_La_law_39 (by decide) (by decide) rfl (by decide) ?_
    exact x_case6 l hfl C0 D q1 q2 q3 q4 q5 q6 q7 q8 q9 q10 q11 q12 q13 q14 q15 q16 q21 q22 q23 q24 q31 q32 q33 q34 q41 q17 q18 q19 q20 q25 q26 q27 q28 q29 q30 q35 q36 q37 q38 q39 q40 cI cZ cJ hl hP hD hK hS
  · refine xnum (v := 7) e9 ?_
    refine lv_tableIn (off := 477) (tgt := 516) hx hb d_La_law_39 (by decide) (by decide) rfl (by decide) ?_
    exact x_case7 l hfl C0 D q1 q2 q3 q4 q5 q6 q7 q8 q9 q10 q11 q12 q13 q14 q15 q16 q21 q22 q23 q24 q31 q32 q33 q34 q41 q17 q18 q19 q20 q25 q26 q27 q28 q29 q30 q35 q36 q37 q38 q39 q40 cI cZ cJ hl hP hD hK hS
  · refine xnum (v := 8) e9 ?_
    refine lv_tableIn (off := 557) (tgt := 596) hx hb d_La_law_39 (by decide) (by decide) rfl (by decide) ?_
    exact x_case8 l hfl C0 D q1 q2 q3 q4 q5 q6 q7 q8 q9 q10 q11 q12 q13 q14 q15 q16 q21 q22 q23 q24 q31 q32 q33 q34 q41 q17 q18 q19 q20 q25 q26 q27 q28 q29 q30 q35 q36 q37 q38 q39 q40 cI cZ cJ hl hP hD hK hS
  · refine xnum (v := 9) e9 ?_
    refine lv_tableIn (off := 570) (tgt := 609) hx hb d_La_law_39 (by decide) (by decide) rfl (by decide) ?_
    exact x_case9 l hfl C0 D q1 q2 q3 q4 q5 q6 q7 q8 q9 q10 q11 q12 q13 q14 q15 q16 q21 q22 q23 q24 q31 q32 q33 q34 q41 q17 q18 q19 q20 q25 q26 q27 q28 q29 q30 q35 q36 q37 q38 q39 q40 cI cZ cJ hl hP hD hK hS
  · refine xnum (v := 10) e9 ?_
    refine lv_tableIn (off := 654) (tgt := 693) hx hb d_La_law_39 (by decide) (by decide) rfl (by decide) ?_
    exact x_case10 l hfl C0 D q1 q2 q3 q4 q5 q6 q7 q8 q9 q10 q11 q12 q13 q14 q15 q16 q21 q22 q23 q24 q31 q32 q33 q34 q41 q17 q18 q19 q20 q25 q26 q27 q28 q29 q30 q35 q36 q37 q38 q39 q40 cI cZ cJ hl hP hD hK hS
  · refine xnum (v := 11) e9 ?_
    refine lv_tableIn (off := 667) (tgt := 706) hx hb d_La_law_39 (by decide) (by decide) rfl (by decide) ?_
    exact x_case11 l hfl C0 D q1 q2 q3 q4 q5 q6 q7 q8 q9 q10 q11 q12 q13 q14 q15 q16 q21 q22 q23 q24 q31 q32 q33 q34 q41 q17 q18 q19 q20 q25 q26 q27 q28 q29 q30 q35 q36 q37 q38 q39 q40 cI cZ cJ hl hP hD hK hS
  · refine xnum (v := 12) e9 ?_
    refine lv_tableIn (off := 723) (tgt := 762) hx hb d_La_law_39 (by decide) (by decide) rfl (by decide) ?_
    exact x_case12 l hfl C0 D q1 q2 q3 q4 q5 q6 q7 q8 q9 q10 q11 q12 q13 q14 q15 q16 q21 q22 q23 q24 q31 q32 q33 q34 q41 q17 q18 q19 q20 q25 q26 q27 q28 q29 q30 q35 q36 q37 q38 q39 q40 cI cZ cJ hl hP hD hK hS
  · refine xnum (v := 13) e9 ?_
    refine lv_tableIn (off := 791) (tgt := 830) hx hb d_La_law_39 (by decide) (by decide) rfl (by decide) ?_
    exact x_case13 l hfl C0 D q1 q2 q3 q4 q5 q6 q7 q8 q9 q10 q11 q12 q13 q14 q15 q16 q21 q22 q23 q24 q31 q32 q33 q34 q41 q17 q18 q19 q20 q25 q26 q27 q28 q29 q30 q35 q36 q37 q38 q39 q40 cI cZ cJ hl hP hD hK hS
  · refine xnum (v := 14) e9 ?_
    refine lv_tableIn (off := 847) (tgt := 886) hx hb d_La_law_39 (by decide) (by decide) rfl (by decide) ?_
    exact x_case14 l hfl C0 D q1 q2 q3 q4 q5 q6 q7 q8 q9 q10 q11 q12 q13 q14 q15 q16 q21 q22 q23 q24 q31 q32 q33 q34 q41 q17 q18 q19 q20 q25 q26 q27 q28 q29 q30 q35 q36 q37 q38 q39 q40 cI cZ cJ hl hP hD hK hS
  · refine xnum (v := 15) e9 ?_
    refine lv_tableIn (off := 872) (tgt := 911) hx hb d_La_law_39 (by decide) (by decide) rfl (by decide) ?_
    exact x_case15 l hfl C0 D q1 q2 q3 q4 q5 q6 q7 q8 q9 q10 q11 q12 q13 q14 q15 q16 q21 q22 q23 q24 q31 q32 q33 q34 q41 q17 q18 q19 q20 q25 q26 q27 q28 q29 q30 q35 q36 q37 q38 q39 q40 cI cZ cJ hl hP hD hK hS
  · refine xnum (v := 16) e9 ?_
    refine lv_tableIn (off := 928) (tgt := 967) hx hb d_La_law_39 (by decide) (by decide) rfl (by decide) ?_
    exact x_case16 l hfl C0 D q1 q2 q3 q4 q5 q6 q7 q8 q9 q10 q11 q12 q13 q14 q15 q16 q21 q22 q23 q24 q31 q32 q33 q34 q41 q17 q18 q19 q20 q25 q26 q27 q28 q29 q30 q35 q36 q37 q38 q39 q40 cI cZ cJ hl hP hD hK hS
set_option maxRecDepth 20000 in
set_option maxHeartbeats 4000000 in
theorem x_law3 (l : Launch) (hfl : l.flags = pinnedFlags ++ [noTraceFlag]) {p : Program} {e : Env} {s : State} {m : MethodId} {below : List Frame} {meth : Method} {c : Code} {b L : Nat} {xs : Nat → Int32} (C0 : xLw p s m meth c b L xs) (hL : L < 4) (D : va_G) (cI cZ cJ : ClassId) (hK : va_K D cl [(cI, .int), (cZ, .boolean), (cJ, .long)] s) {ls : Array Slot} (hl : lv_has ls 7 [(0, .ref b)]) : W p l e { frames := 11, cells := 600002, slots := 7302232, locals := 388 } s m #[Value.ref b] below meth c s.heap [] 0 0 (lw_Z below #[Value.ref b] s) (F0 m 0 ls []) := by
  obtain ⟨⟨hx, hb, hml, hown, hts⟩, hr, hlk, hX, hbl, hAm, hTh⟩ := id C0
  have hA : ∀ q, s.heap.size ≤ q → xA s q := fun q h => h
  have hbA : ¬ xA s b := fun h => absurd hbl (Nat.not_lt.mpr h)
  have hAs := xA_st s
  have hP : va_P D cl [] s.heap := xP0
  have hD : va_D (xA s) [] := xD0
  have hS : va_S (xA s) s.heap s.heap [] := va_S.rf
  refine va_new (ci := 5) (fs := [.null, .null, .null, .null, .null, .null]) (C := R_FB) (T := F_FB) (N := 6) hx hb hts (fun w h => List.mem_cons_of_mem _ (u_FB w h)) t_FB o_FB hown (hts _ (List.mem_cons_of_mem _ tw_17)) (hts _ (List.mem_cons_of_mem _ tw_18)) (hts _ (List.mem_cons_of_mem _ tw_1)) hK hP hD hS hA rfl (fun j hj => by rcases (show j = 0 ∨ j = 1 ∨ j = 2 ∨ j = 3 ∨ j = 4 ∨ j = 5 by omega) with rfl | rfl | rfl | rfl | rfl | rfl <;> rfl) (Nat.le_of_ble_eq_true rfl) (Nat.le_of_ble_eq_true rfl) d_La_law_0 (fun q1 H hP hD hS => ?_)
  have hP : va_P D cl [(q1, .inr (5, [.null, .null, .null, .null, .null, .null]))] H := hP
  have hD : va_D (xA s) [(q1, .inr (5, [.null, .null, .null, .null, .null, .null]))] := hD
  refine lv_dup hx hb d_La_law_3 rfl ?_
  have hPc := hP.sub (ws' := [(q1, .inr (5, [.null, .null, .null, .null, .null, .null]))]) [0] rfl
  have hDc := hD.sub (ws' := [(q1, .inr (5, [.null, .null, .null, .null, .null, .null]))]) [0] (by decide) rfl
  have hKc := hK.sub (tys' := [(cI, .int), (cZ, .boolean)]) [0, 1] rfl
  refine xgv (wsC := [(q1, .inr (5, [.null, .null, .null, .null, .null, .null]))]) (wr := []) (va_runI (As := []) (rest := [.ref q1]) ⟨hx, hb, hml, hown, hts⟩ (c_FB_init l  D q1 cI cZ _ ) ⟨(callB_of 0 hts (x_good k_FB_init) rfl rfl rfl (hts _ (List.mem_cons_of_mem _ tw_1)) (hts _ (List.mem_cons_of_mem _ tw_19)) (by decide +kernel) ⟨Nat.le_of_ble_eq_true rfl, Nat.le_of_ble_eq_true rfl⟩), rfl, (hts _ (List.mem_cons_of_mem _ tw_20))⟩ (xP_S hPc hKc hDc hAm hTh hAs hS) rfl rfl hl.1 rfl (lv_room (Nat.le_of_ble_eq_true rfl)) d_La_law_4 ⟨Nat.le_of_ble_eq_true rfl, Nat.le_of_ble_eq_true rfl⟩) hP hD hK hS hA [0] [] rfl rfl (by decide) (by decide) (fun ⟨q2, q3, q4, q5, q6, q7, q8, q9, q10, q11, q12, q13, q14, q15, q16, q17, q18, q19, q20⟩ H locs _ hP hD hK hS => ?_)
  have hK : va_K D cl [(cI, .int), (cZ, .boolean), (cJ, .long)] s := hK
  have hP : va_P D cl [(q1, .inr (5, [.ref q2, .ref q3, .ref q4, .ref q5, .ref q6, .ref q7])), (q2, .inr (1, [.ref q8, .ref q9, .int 0, .int 0])), (q3, .inr (2, [.ref q10, .ref q11, .ref q12, .ref q17, .ref q18, .int 0])), (q4, .inr (3, [.ref q13, .ref q14])), (q5, .inr (4, [.ref q19, .ref q15, .ref q20, .int 0])), (q6, .inr (0, [.ref q16, .int 0, .int 0, .int 0])), (q7, .inl (cI, 3, .inl (fun _ => 1))), (q8, .inl (cI, 24, .inl (fun _ => 0))), (q9, .inl (cI, 24, .inl (fun _ => 0))), (q10, .inl (cI, 12, .inl (fun _ => 0))), (q11, .inl (cI, 12, .inl (fun _ => 0))), (q12, .inl (cI, 12, .inl (fun _ => 0))), (q13, .inl (cI, 12, .inl (fun _ => 0))), (q14, .inl (cZ, 12, .inl (fun _ => 0))), (q15, .inl (cI, 24, .inl (fun _ => (-1)))), (q16, .inl (cI, 12, .inl (fun _ => 0)))] H := hP
  have hD : va_D (xA s) [(q1, .inr (5, [.ref q2, .ref q3, .ref q4, .ref q5, .ref q6, .ref q7])), (q2, .inr (1, [.ref q8, .ref q9, .int 0, .int 0])), (q3, .inr (2, [.ref q10, .ref q11, .ref q12, .ref q17, .ref q18, .int 0])), (q4, .inr (3, [.ref q13, .ref q14])), (q5, .inr (4, [.ref q19, .ref q15, .ref q20, .int 0])), (q6, .inr (0, [.ref q16, .int 0, .int 0, .int 0])), (q7, .inl (cI, 3, .inl (fun _ => 1))), (q8, .inl (cI, 24, .inl (fun _ => 0))), (q9, .inl (cI, 24, .inl (fun _ => 0))), (q10, .inl (cI, 12, .inl (fun _ => 0))), (q11, .inl (cI, 12, .inl (fun _ => 0))), (q12, .inl (cI, 12, .inl (fun _ => 0))), (q13, .inl (cI, 12, .inl (fun _ => 0))), (q14, .inl (cZ, 12, .inl (fun _ => 0))), (q15, .inl (cI, 24, .inl (fun _ => (-1)))), (q16, .inl (cI, 12, .inl (fun _ => 0)))] := hD
  refine lv_astore_n hx hb d_La_law_7 rfl hl (by decide) rfl (fun ls hl => ?_)
  have hl : lv_has ls 7 [(1, .ref q1), (0, .ref b)] := hl
  refine va_new (ci := 6) (fs := [.int 0, .int 0, .null, .null, .null, .null, .null, .null, .null, .null, .null, .int 0, .null, .null, .null, .null, .null, .null, .int 0, .null, .int 0, .int 0, .int 0, .null, .null, .null, .int 0, .int 0, .int 0, .int 0]) (C := R_Mo) (T := F_Mo) (N := 30) hx hb hts (fun w h => List.mem_cons_of_mem _ (u_Mo w h)) t_Mo o_Mo hown (hts _ (List.mem_cons_of_mem _ tw_659)) (hts _ (List.mem_cons_of_mem _ tw_660)) (hts _ (List.mem_cons_of_mem _ tw_8)) hK hP hD hS hA rfl (fun j hj => by rcases (show j = 0 ∨ j = 1 ∨ j = 2 ∨ j = 3 ∨ j = 4 ∨ j = 5 ∨ j = 6 ∨ j = 7 ∨ j = 8 ∨ j = 9 ∨ j = 10 ∨ j = 11 ∨ j = 12 ∨ j = 13 ∨ j = 14 ∨ j = 15 ∨ j = 16 ∨ j = 17 ∨ j = 18 ∨ j = 19 ∨ j = 20 ∨ j = 21 ∨ j = 22 ∨ j = 23 ∨ j = 24 ∨ j = 25 ∨ j = 26 ∨ j = 27 ∨ j = 28 ∨ j = 29 by omega) with rfl | rfl | rfl | rfl | rfl | rfl | rfl | rfl | rfl | rfl | rfl | rfl | rfl | rfl | rfl | rfl | rfl | rfl | rfl | rfl | rfl | rfl | rfl | rfl | rfl | rfl | rfl | rfl | rfl | rfl <;> rfl) (Nat.le_of_ble_eq_true rfl) (Nat.le_of_ble_eq_true rfl) d_La_law_8 (fun q21 H hP hD hS => ?_)
  have hP : va_P D cl [(q1, .inr (5, [.ref q2, .ref q3, .ref q4, .ref q5, .ref q6, .ref q7])), (q2, .inr (1, [.ref q8, .ref q9, .int 0, .int 0])), (q3, .inr (2, [.ref q10, .ref q11, .ref q12, .ref q17, .ref q18, .int 0])), (q4, .inr (3, [.ref q13, .ref q14])), (q5, .inr (4, [.ref q19, .ref q15, .ref q20, .int 0])), (q6, .inr (0, [.ref q16, .int 0, .int 0, .int 0])), (q7, .inl (cI, 3, .inl (fun _ => 1))), (q8, .inl (cI, 24, .inl (fun _ => 0))), (q9, .inl (cI, 24, .inl (fun _ => 0))), (q10, .inl (cI, 12, .inl (fun _ => 0))), (q11, .inl (cI, 12, .inl (fun _ => 0))), (q12, .inl (cI, 12, .inl (fun _ => 0))), (q13, .inl (cI, 12, .inl (fun _ => 0))), (q14, .inl (cZ, 12, .inl (fun _ => 0))), (q15, .inl (cI, 24, .inl (fun _ => (-1)))), (q16, .inl (cI, 12, .inl (fun _ => 0))), (q21, .inr (6, [.int 0, .int 0, .null, .null, .null, .null, .null, .null, .null, .null, .null, .int 0, .null, .null, .null, .null, .null, .null, .int 0, .null, .int 0, .int 0, .int 0, .null, .null, .null, .int 0, .int 0, .int 0, .int 0]))] H := hP
  have hD : va_D (xA s) [(q1, .inr (5, [.ref q2, .ref q3, .ref q4, .ref q5, .ref q6, .ref q7])), (q2, .inr (1, [.ref q8, .ref q9, .int 0, .int 0])), (q3, .inr (2, [.ref q10, .ref q11, .ref q12, .ref q17, .ref q18, .int 0])), (q4, .inr (3, [.ref q13, .ref q14])), (q5, .inr (4, [.ref q19, .ref q15, .ref q20, .int 0])), (q6, .inr (0, [.ref q16, .int 0, .int 0, .int 0])), (q7, .inl (cI, 3, .inl (fun _ => 1))), (q8, .inl (cI, 24, .inl (fun _ => 0))), (q9, .inl (cI, 24, .inl (fun _ => 0))), (q10, .inl (cI, 12, .inl (fun _ => 0))), (q11, .inl (cI, 12, .inl (fun _ => 0))), (q12, .inl (cI, 12, .inl (fun _ => 0))), (q13, .inl (cI, 12, .inl (fun _ => 0))), (q14, .inl (cZ, 12, .inl (fun _ => 0))), (q15, .inl (cI, 24, .inl (fun _ => (-1)))), (q16, .inl (cI, 12, .inl (fun _ => 0))), (q21, .inr (6, [.int 0, .int 0, .null, .null, .null, .null, .null, .null, .null, .null, .null, .int 0, .null, .null, .null, .null, .null, .null, .int 0, .null, .int 0, .int 0, .int 0, .null, .null, .null, .int 0, .int 0, .int 0, .int 0]))] := hD
  refine lv_dup hx hb d_La_law_11 rfl ?_
  have hPc := hP.sub (ws' := [(q21, .inr (6, [.int 0, .int 0, .null, .null, .null, .null, .null, .null, .null, .null, .null, .int 0, .null, .null, .null, .null, .null, .null, .int 0, .null, .int 0, .int 0, .int 0, .null, .null, .null, .int 0, .int 0, .int 0, .int 0]))]) [16] rfl
  have hDc := hD.sub (ws' := [(q21, .inr (6, [.int 0, .int 0, .null, .null, .null, .null, .null, .null, .null, .null, .null, .int 0, .null, .null, .null, .null, .null, .null, .int 0, .null, .int 0, .int 0, .int 0, .null, .null, .null, .int 0, .int 0, .int 0, .int 0]))]) [16] (by decide) rfl
  have hKc := hK.sub (tys' := [(cI, .int), (cZ, .boolean)]) [0, 1] rfl
  refine xgv (wsC := [(q21, .inr (6, [.int 0, .int 0, .null, .null, .null, .null, .null, .null, .null, .null, .null, .int 0, .null, .null, .null, .null, .null, .null, .int 0, .null, .int 0, .int 0, .int 0, .null, .null, .null, .int 0, .int 0, .int 0, .int 0]))]) (wr := [(q1, .inr (5, [.ref q2, .ref q3, .ref q4, .ref q5, .ref q6, .ref q7])), (q2, .inr (1, [.ref q8, .ref q9, .int 0, .int 0])), (q3, .inr (2, [.ref q10, .ref q11, .ref q12, .ref q17, .ref q18, .int 0])), (q4, .inr (3, [.ref q13, .ref q14])), (q5, .inr (4, [.ref q19, .ref q15, .ref q20, .int 0])), (q6, .inr (0, [.ref q16, .int 0, .int 0, .int 0])), (q7, .inl (cI, 3, .inl (fun _ => 1))), (q8, .inl (cI, 24, .inl (fun _ => 0))), (q9, .inl (cI, 24, .inl (fun _ => 0))), (q10, .inl (cI, 12, .inl (fun _ => 0))), (q11, .inl (cI, 12, .inl (fun _ => 0))), (q12, .inl (cI, 12, .inl (fun _ => 0))), (q13, .inl (cI, 12, .inl (fun _ => 0))), (q14, .inl (cZ, 12, .inl (fun _ => 0))), (q15, .inl (cI, 24, .inl (fun _ => (-1)))), (q16, .inl (cI, 12, .inl (fun _ => 0)))]) (va_runI (As := []) (rest := [.ref q21]) ⟨hx, hb, hml, hown, hts⟩ (c_Mo_init l  D q21 cI cZ _ ) ⟨(callB_of 0 hts (x_good k_Mo_init) rfl rfl rfl (hts _ (List.mem_cons_of_mem _ tw_8)) (hts _ (List.mem_cons_of_mem _ tw_661)) (by decide +kernel) ⟨Nat.le_of_ble_eq_true rfl, Nat.le_of_ble_eq_true rfl⟩), rfl, (hts _ (List.mem_cons_of_mem _ tw_662))⟩ (xP_S hPc hKc hDc hAm hTh hAs hS) rfl rfl hl.1 rfl (lv_room (Nat.le_of_ble_eq_true rfl)) d_La_law_12 ⟨Nat.le_of_ble_eq_true rfl, Nat.le_of_ble_eq_true rfl⟩) hP hD hK hS hA [16] [0, 1, 2, 3, 4, 5, 6, 7, 8, 9, 10, 11, 12, 13, 14, 15] rfl rfl (by decide) (by decide) (fun ⟨q22, q23, q24, q25, q26, q27, q28, q29, q30, q31, q32, q33, q34, q35, q36, q37, q38, q39, q40⟩ H locs _ hP hD hK hS => ?_)
  have hK : va_K D cl [(cI, .int), (cZ, .boolean), (cJ, .long)] s := hK
  have hP : va_P D cl [(q1, .inr (5, [.ref q2, .ref q3, .ref q4, .ref q5, .ref q6, .ref q7])), (q2, .inr (1, [.ref q8, .ref q9, .int 0, .int 0])), (q3, .inr (2, [.ref q10, .ref q11, .ref q12, .ref q17, .ref q18, .int 0])), (q4, .inr (3, [.ref q13, .ref q14])), (q5, .inr (4, [.ref q19, .ref q15, .ref q20, .int 0])), (q6, .inr (0, [.ref q16, .int 0, .int 0, .int 0])), (q7, .inl (cI, 3, .inl (fun _ => 1))), (q8, .inl (cI, 24, .inl (fun _ => 0))), (q9, .inl (cI, 24, .inl (fun _ => 0))), (q10, .inl (cI, 12, .inl (fun _ => 0))), (q11, .inl (cI, 12, .inl (fun _ => 0))), (q12, .inl (cI, 12, .inl (fun _ => 0))), (q13, .inl (cI, 12, .inl (fun _ => 0))), (q14, .inl (cZ, 12, .inl (fun _ => 0))), (q15, .inl (cI, 24, .inl (fun _ => (-1)))), (q16, .inl (cI, 12, .inl (fun _ => 0))), (q21, .inr (6, [.int 0, .int 0, .ref q22, .ref q23, .ref q24, .ref q25, .ref q26, .ref q27, .ref q28, .ref q29, .ref q30, .int 0, .ref q31, .ref q32, .ref q33, .ref q34, .ref q35, .ref q36, .int 0, .ref q37, .int 1, .int 1, .int 0, .ref q38, .ref q39, .ref q40, .int 0, .int 0, .int 0, .int 0])), (q22, .inl (cI, 12, .inl (fun _ => 0))), (q23, .inl (cI, 12, .inl (fun _ => 0))), (q24, .inl (cI, 12, .inl (fun _ => 0))), (q31, .inl (cI, 24, .inl (fun _ => 0))), (q32, .inl (cI, 24, .inl (fun _ => 0))), (q33, .inl (cI, 24, .inl (fun _ => 0))), (q34, .inl (cZ, 24, .inl (fun _ => 0)))] H := hP
  have hD : va_D (xA s) [(q1, .inr (5, [.ref q2, .ref q3, .ref q4, .ref q5, .ref q6, .ref q7])), (q2, .inr (1, [.ref q8, .ref q9, .int 0, .int 0])), (q3, .inr (2, [.ref q10, .ref q11, .ref q12, .ref q17, .ref q18, .int 0])), (q4, .inr (3, [.ref q13, .ref q14])), (q5, .inr (4, [.ref q19, .ref q15, .ref q20, .int 0])), (q6, .inr (0, [.ref q16, .int 0, .int 0, .int 0])), (q7, .inl (cI, 3, .inl (fun _ => 1))), (q8, .inl (cI, 24, .inl (fun _ => 0))), (q9, .inl (cI, 24, .inl (fun _ => 0))), (q10, .inl (cI, 12, .inl (fun _ => 0))), (q11, .inl (cI, 12, .inl (fun _ => 0))), (q12, .inl (cI, 12, .inl (fun _ => 0))), (q13, .inl (cI, 12, .inl (fun _ => 0))), (q14, .inl (cZ, 12, .inl (fun _ => 0))), (q15, .inl (cI, 24, .inl (fun _ => (-1)))), (q16, .inl (cI, 12, .inl (fun _ => 0))), (q21, .inr (6, [.int 0, .int 0, .ref q22, .ref q23, .ref q24, .ref q25, .ref q26, .ref q27, .ref q28, .ref q29, .ref q30, .int 0, .ref q31, .ref q32, .ref q33, .ref q34, .ref q35, .ref q36, .int 0, .ref q37, .int 1, .int 1, .int 0, .ref q38, .ref q39, .ref q40, .int 0, .int 0, .int 0, .int 0])), (q22, .inl (cI, 12, .inl (fun _ => 0))), (q23, .inl (cI, 12, .inl (fun _ => 0))), (q24, .inl (cI, 12, .inl (fun _ => 0))), (q31, .inl (cI, 24, .inl (fun _ => 0))), (q32, .inl (cI, 24, .inl (fun _ => 0))), (q33, .inl (cI, 24, .inl (fun _ => 0))), (q34, .inl (cZ, 24, .inl (fun _ => 0)))] := hD
  refine lv_astore_n hx hb d_La_law_15 rfl hl (by decide) rfl (fun ls hl => ?_)
  have hl : lv_has ls 7 [(2, .ref q21), (1, .ref q1), (0, .ref b)] := hl
  refine lv_iconst (v := 1) hx hb d_La_law_16 (by decide) ?_
  refine va_newa (atype := .long) (a0 := (1, .inr (.inl (fun _ => 0)))) (N' := 1) (ty := .long) hx hb (hts _ (List.mem_cons_of_mem _ tw_943)) rfl hK hP hD hS hA (fun _ => rfl) (by decide) (by decide) (by decide) (Nat.le_of_ble_eq_true rfl) (Nat.le_of_ble_eq_true rfl) d_La_law_17 (fun q41 cA42 H hK hP hD hS => ?_)
  obtain rfl : cJ = cA42 := xsame (by intro C h; cases h) hK 2 3 rfl rfl
  have hK : va_K D cl [(cI, .int), (cZ, .boolean), (cJ, .long)] s := hK.sub [0, 1, 2] rfl
  have hP : va_P D cl [(q1, .inr (5, [.ref q2, .ref q3, .ref q4, .ref q5, .ref q6, .ref q7])), (q2, .inr (1, [.ref q8, .ref q9, .int 0, .int 0])), (q3, .inr (2, [.ref q10, .ref q11, .ref q12, .ref q17, .ref q18, .int 0])), (q4, .inr (3, [.ref q13, .ref q14])), (q5, .inr (4, [.ref q19, .ref q15, .ref q20, .int 0])), (q6, .inr (0, [.ref q16, .int 0, .int 0, .int 0])), (q7, .inl (cI, 3, .inl (fun _ => 1))), (q8, .inl (cI, 24, .inl (fun _ => 0))), (q9, .inl (cI, 24, .inl (fun _ => 0))), (q10, .inl (cI, 12, .inl (fun _ => 0))), (q11, .inl (cI, 12, .inl (fun _ => 0))), (q12, .inl (cI, 12, .inl (fun _ => 0))), (q13, .inl (cI, 12, .inl (fun _ => 0))), (q14, .inl (cZ, 12, .inl (fun _ => 0))), (q15, .inl (cI, 24, .inl (fun _ => (-1)))), (q16, .inl (cI, 12, .inl (fun _ => 0))), (q21, .inr (6, [.int 0, .int 0, .ref q22, .ref q23, .ref q24, .ref q25, .ref q26, .ref q27, .ref q28, .ref q29, .ref q30, .int 0, .ref q31, .ref q32, .ref q33, .ref q34, .ref q35, .ref q36, .int 0, .ref q37, .int 1, .int 1, .int 0, .ref q38, .ref q39, .ref q40, .int 0, .int 0, .int 0, .int 0])), (q22, .inl (cI, 12, .inl (fun _ => 0))), (q23, .inl (cI, 12, .inl (fun _ => 0))), (q24, .inl (cI, 12, .inl (fun _ => 0))), (q31, .inl (cI, 24, .inl (fun _ => 0))), (q32, .inl (cI, 24, .inl (fun _ => 0))), (q33, .inl (cI, 24, .inl (fun _ => 0))), (q34, .inl (cZ, 24, .inl (fun _ => 0))), (q41, .inl (cJ, 1, .inr (.inl (fun _ => 0))))] H := hP
  have hD : va_D (xA s) [(q1, .inr (5, [.ref q2, .ref q3, .ref q4, .ref q5, .ref q6, .ref q7])), (q2, .inr (1, [.ref q8, .ref q9, .int 0, .int 0])), (q3, .inr (2, [.ref q10, .ref q11, .ref q12, .ref q17, .ref q18, .int 0])), (q4, .inr (3, [.ref q13, .ref q14])), (q5, .inr (4, [.ref q19, .ref q15, .ref q20, .int 0])), (q6, .inr (0, [.ref q16, .int 0, .int 0, .int 0])), (q7, .inl (cI, 3, .inl (fun _ => 1))), (q8, .inl (cI, 24, .inl (fun _ => 0))), (q9, .inl (cI, 24, .inl (fun _ => 0))), (q10, .inl (cI, 12, .inl (fun _ => 0))), (q11, .inl (cI, 12, .inl (fun _ => 0))), (q12, .inl (cI, 12, .inl (fun _ => 0))), (q13, .inl (cI, 12, .inl (fun _ => 0))), (q14, .inl (cZ, 12, .inl (fun _ => 0))), (q15, .inl (cI, 24, .inl (fun _ => (-1)))), (q16, .inl (cI, 12, .inl (fun _ => 0))), (q21, .inr (6, [.int 0, .int 0, .ref q22, .ref q23, .ref q24, .ref q25, .ref q26, .ref q27, .ref q28, .ref q29, .ref q30, .int 0, .ref q31, .ref q32, .ref q33, .ref q34, .ref q35, .ref q36, .int 0, .ref q37, .int 1, .int 1, .int 0, .ref q38, .ref q39, .ref q40, .int 0, .int 0, .int 0, .int 0])), (q22, .inl (cI, 12, .inl (fun _ => 0))), (q23, .inl (cI, 12, .inl (fun _ => 0))), (q24, .inl (cI, 12, .inl (fun _ => 0))), (q31, .inl (cI, 24, .inl (fun _ => 0))), (q32, .inl (cI, 24, .inl (fun _ => 0))), (q33, .inl (cI, 24, .inl (fun _ => 0))), (q34, .inl (cZ, 24, .inl (fun _ => 0))), (q41, .inl (cJ, 1, .inr (.inl (fun _ => 0))))] := hD
  refine lv_astore_n hx hb d_La_law_19 rfl hl (by decide) rfl (fun ls hl => ?_)
  have hl : lv_has ls 7 [(3, .ref q41), (2, .ref q21), (1, .ref q1), (0, .ref b)] := hl
  refine lv_iconst (v := 0) hx hb d_La_law_20 (by decide) ?_
  refine lv_istore hx hb d_La_law_21 hl (by decide) rfl (fun ls hl => ?_)
  have hl : lv_has ls 7 [(4, .int 0), (3, .ref q41), (2, .ref q21), (1, .ref q1), (0, .ref b)] := hl
  refine lv_iload hx hb d_La_law_23 (lv_at hl 0 rfl) ?_
  refine lv_aload_n hx hb d_La_law_25 rfl (lv_at hl 4 rfl) ?_
  refine va_slen hx hb hX hbl hbA hS d_La_law_26 ?_
  refine lv_iconst (v := 4) hx hb d_La_law_27 (by decide) ?_
  refine lv_isub hx hb d_La_law_28 ?_
  refine lv_icmp_gt (tgt := 1010) hx hb d_La_law_29 (by decide) (fun b29 => ?_) (fun b29 => absurd (xsmall hL) b29)
  refine lv_iconst (v := 1) hx hb d_La_law_1010 (by decide) ?_
  refine va_forget (fun q hq => hS.2.2 q hq) ?_
  refine W.widen (k := 600002) (n := 7302232) (Nat.le_of_ble_eq_true rfl) (Nat.le_of_ble_eq_true rfl) ?_
  exact lw_ret hx hb hr hlk d_La_law_1011
theorem whole_start {p : Program} {e : Env} {s : State} {m : MethodId} {below : List Frame} {meth : Method} {c : Code} (l : Launch) (hfl : l.flags = pinnedFlags ++ [noTraceFlag]) {b L : Nat} {xs : Nat → Int32} (hL : L ≤ 4) (C0 : lw_At p s m meth c b L xs) : W p l e room_1 s m #[Value.ref b] below meth c s.heap [] 0 0 (lw_Z below #[Value.ref b] s) (entryFrame m ([Value.ref b] : List Value).toArray 7) := by
  obtain ⟨hx, hb, hr, hml, hown, hts, hX, hbl, hlk, hgv⟩ := C0
  obtain ⟨hAm, hTh⟩ := x_amb hts hgv
  obtain ⟨D, cI, cZ, cJ, hK⟩ := x_known hts
  have hT : ∀ w ∈ (Cond.arrayClass .int :: xTB), w.before #[Value.ref b] s = true := List.forall_mem_cons.mpr ⟨hts _ (List.mem_filter.mp tw_47).1, fun w hw => hts w (List.mem_filter.mp hw).1⟩
  have hl := lv_entry [Value.ref b] (n := 7) (Nat.le_of_ble_eq_true rfl)
  rw [lg_entry_eq]
  have C1 : xLw p s m meth c b L xs := ⟨⟨hx, hb, hml, hown, hT⟩, hr, hlk, hX, hbl, hAm, hTh⟩
  by_cases h4 : L < 4
  · exact x_law3 l hfl C1 h4 D cI cZ cJ hK hl
  · have e4 : L = 4 := by omega
    subst e4
    exact x_law4 l hfl C1 D cI cZ cJ hK hl
set_option maxHeartbeats 4000000 in
theorem lw_walk (l : Launch) (hfl : l.flags = pinnedFlags ++ [noTraceFlag]) (b : Addr) (xs : List Int32) : MetFree l x (headSpec (Jvm.Cond.code x code maxLocals ret :: tables_1) room_1) (lw_P b xs) (fun _ _ _ _ _ => True) lw_Q := by
  refine MetFree.of_bodyS (code := code) (maxLocals := maxLocals) (ret := ret) (by decide) ?_ ?_
  · intro args s m h hn
    obtain ⟨meth, c, h1, h2, h3, h4, h5, h6, -, -⟩ := Cond.code_spec hn (atoms_spec (ws := Jvm.Cond.code x code maxLocals ret :: tables_1) h _ List.mem_cons_self)
    exact ⟨meth, c, h1, h2, h3, h4, h5, h6⟩
  · intro p e s m args below meth c s₁ B hml0 hP _
    obtain ⟨rfl, hx, hbd, hgv⟩ := hP
    obtain ⟨scr, harrAt, hlist, hof, hsmall⟩ := hx
    obtain ⟨hcb, hkn, -, -⟩ := State.arrayAt?_spec harrAt
    have hown : s.vm.findClass R_law = some m.cls := findClass_of_methodNamed B.named
    have hts0 : ∀ c ∈ (Jvm.Cond.code x code maxLocals ret :: tables_1), c.before #[Value.ref b] s = true := atoms_spec (ws := Jvm.Cond.code x code maxLocals ret :: tables_1) B.pre
    have hts : ∀ w ∈ lw_tbl, w.before #[Value.ref b] s = true := k2_hts_sels lw_privs (fun w hw => hts0 w (List.mem_cons_of_mem _ hw)) lw_privs_ok
    have hml : c.maxLocals = 7 := B.maxLocals_eq (hts0 _ List.mem_cons_self)
    have X₀ : Stand p l e room_1 s m #[Value.ref b] below meth c s₁ [] 0 0 := Stand.of_body B
    have hh0 : s₁.heap = s.heap := by rw [B.state]; rfl
    have hsz : scr.slots.size = xs.length := by rw [← Array.length_toList, hlist, List.length_map]
    have hval : ∀ j : Nat, j < xs.length → scr.slots[j]? = some (.int (xs.getD j 0)) := fun j hj => by
      rw [← Array.getElem?_toList, hlist]
      simp [hj]
    have hbl : b < s.heap.size := (Array.getElem?_eq_some_iff.mp hcb).1
    have hX : va_X b xs.length (fun j => xs.getD j 0) s s.heap := ⟨scr, hcb, hof, hkn, hsz, hval⟩
    have K : W p l e room_1 s m #[Value.ref b] below meth c s₁.heap [] 0 0 (lw_Z below #[Value.ref b] s) (entryFrame m ([Value.ref b] : List Value).toArray 7) := by
      rw [hh0]
      exact whole_start l hfl hbd ⟨B.exec, B.bytes, B.returns, hml, hown, hts, hX, hbl, B.notSynchronized, hgv⟩
    obtain ⟨t, a1, o, b1, b2, b3⟩ := K s₁ rfl X₀
    exact ⟨t, o, a1, b1, b2, b3⟩
theorem lw_pre_spec {args : Array Value} {s : State} (h : (Jvm.Cond.and given_1 narrow_1).before args s = true) (hr : rest_1_c.before args s = true) : ∃ (b : Addr) (xs : List Int32), lw_P b xs args s := by
  have hs := flat_of_before _ h
  have hq := flat_of_before _ hr
  have hc : (Cond.count 1).before args s = true := hs _ (by decide +kernel)
  have harr : (Cond.arrayOf (.arg 0) .int).before args s = true := hs _ (by decide +kernel)
  have hle : (Cond.le (.length (.arg 0)) (.int 4)).before args s = true := hs _ (by decide +kernel)
  have hlen : (Cond.isInt (.length (.arg 0))).before args s = true := hq _ (by decide +kernel)
  have hall : (Cond.all (.arg 0) (.isInt (.elem (.arg 0) (.index 0)))).before args s = true := hq _ (by decide +kernel)
  obtain ⟨b, xs, hb, hx⟩ := State.ints_of_pre rfl harr hlen hall
  have hsm : xs.length < 2 ^ 31 := hx.choose_spec.2.2.2
  have hev : (Term.length (.arg 0)).eval args s none [] s = some (.int xs.length.toInt32) := hx.length_eval hb
  have hv := Cond.le_ints hev (show (Term.int 4).eval args s none [] s = some (.int 4) from rfl)
  have hd : xs.length.toInt32 ≤ 4 := by
    simpa [Cond.before, Cond.holds, hv] using hle
  have hN : xs.length ≤ 4 := (Int32.ofNat_le_ofNat hsm (by decide)).mp (show Int32.ofNat xs.length ≤ Int32.ofNat 4 from hd)
  exact ⟨b, xs, Cond.one_arg hc (show args[0]? = some (.ref b) from hb), hx, hN, h⟩
theorem lw_comes (l : Launch) (hfl : l.flags = pinnedFlags ++ [noTraceFlag]) : Comes l x (Jvm.Cond.code x code maxLocals ret :: tables_1) room_1 (fun tb e args s => Calls_1 tb e args s ∧ rest_1 tb e args s ∧ Pre_1 tb e args s)
    (fun _ _ args s o t => lw_Q args s o t) := by
  intro p e ha hc hk s m args below hf hfit hheap happ hpre
  obtain ⟨b, xs, hP⟩ := lw_pre_spec hpre.2.2 hpre.2.1
  obtain ⟨k, o, h1, h2, h3, hQ⟩ := lw_walk l hfl b xs p e ha hc hk s m args below hf ((Spec.applies_iff_loose hf).mp happ).1 hP trivial
  exact ⟨k, o, h1, h2, h3, hQ⟩
theorem lw_frame {s t : State} {o : Outcome} {args : Array Value} (h : Framed s o t [] 600002 7302232) :
    Framed s o t (fieldLocs frame_1_writes args s ++ arrayLocs frame_1_arrays args s ++ staticLocs frame_1_statics s) 600002 7302232 := h
theorem lw_limb (L : Cond) (hL : ∀ (args : Array Value) (s t : State), L.after args s (.returned (some (.int 1))) t = true) :
    ArmFor flags0 classFile x code maxLocals ret World_1 tables_1 room_1 Calls_1 rest_1 Pre_1
      (fun tb e a s o t => postC L tb e a s o t ∧ Framed s o t (fieldLocs frame_1_writes a s ++ arrayLocs frame_1_arrays a s ++ staticLocs frame_1_statics s) 600002 7302232) := by
  intro l hfl9 _ _ p e ha hc hk s m args below hf hfit hheap happ hpre
  obtain ⟨k, o, h1, h2, h3, rfl, hF⟩ := lw_comes l hfl9 p e ha hc hk s m args below hf hfit hheap happ hpre
  exact ⟨k, _, h1, h2, h3, hL args s _, lw_frame hF⟩
theorem i_vc : Claimed_1_1 ∧ Claimed_1_2 := ⟨lw_limb limb_1_1 (fun args s t => by simp [limb_1_1, Cond.after, Cond.holds, Cond.value]), lw_limb limb_1_2 (fun args s t => Cond.after_iff.mpr (by
  first | (rw [show limb_1_2 = Cond.eq .result (.int 1) from rfl, Cond.eq_ints (x := 1) (y := 1) rfl rfl]; simp; done) | (simp [limb_1_2, Cond.value, Term.eval]; done)))⟩
