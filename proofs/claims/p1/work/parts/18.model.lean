theorem xle_nlt {x y : Int32} (h : x ≤ y) : ¬ y < x := by
  simp only [Int32.le_iff_toInt_le, Int32.lt_iff_toInt_lt] at *
  omega
theorem xnle_lt {x y : Int32} (h : ¬ x ≤ y) : y < x := by
  simp only [Int32.le_iff_toInt_le, Int32.lt_iff_toInt_lt] at *
  omega
def xbi (x y : Int32) : Int32 := if x >>> (y &&& 31) &&& 1 = 1 then 1 else 0
theorem xbi_1 {x y : Int32} (h : x >>> (y &&& 31) &&& 1 = 1) : (1 : Int32) = xbi x y := (if_pos h).symm
theorem xbi_0 {x y : Int32} (h : ¬ x >>> (y &&& 31) &&& 1 = 1) : (0 : Int32) = xbi x y := (if_neg h).symm
theorem xO0 {x lo hi : Int32} (h : xIn x lo hi = 1) : xOut x lo hi = 0 := (xOut_In x lo hi).mpr h
theorem xI1 {x lo hi : Int32} (h : xOut x lo hi = 0) : xIn x lo hi = 1 := (xOut_In x lo hi).mp h
theorem xOI_1 {x lo hi : Int32} (h : xOut x lo hi = 0) : (1 : Int32) = xIn x lo hi := (xI1 h).symm
theorem xOI_0 {x lo hi : Int32} (h : ¬ xOut x lo hi = 0) : (0 : Int32) = xIn x lo hi := by
  rcases xIn_bin x lo hi with h1 | h1
  · exact h1.symm
  · exact absurd (xO0 h1) h
theorem xFl_in {x : Int32} (h : xFl x = 1) : xIn x 0 15 = 1 := by
  by_cases q : xIn x 0 15 = 1 ∧ (x &&& 1 = 0 ∨ x = 1)
  · exact q.1
  · unfold xFl at h
    rw [if_neg q] at h
    exact absurd h (by decide)
theorem xFl_two {x : Int32} (h : xFl x = 1) : x &&& 1 = 0 ∨ x = 1 := by
  by_cases q : xIn x 0 15 = 1 ∧ (x &&& 1 = 0 ∨ x = 1)
  · exact q.2
  · unfold xFl at h
    rw [if_neg q] at h
    exact absurd h (by decide)
theorem xrem {x : Int32} (h : xIn x 0 15 = 1) : x - x / (2 : Int32) * (2 : Int32) = 0 ↔ x &&& 1 = 0 := by
  obtain ⟨h1, h2⟩ := xIn_ge h
  simp only [Int32.le_iff_toInt_le] at h1 h2
  have h0 : (0 : Int32).toInt = 0 := by decide
  have h15 : (15 : Int32).toInt = 15 := by decide
  have key : ∀ n : Fin 16, ((nI n.1) - (nI n.1) / (2 : Int32) * (2 : Int32) = 0 ↔ (nI n.1) &&& 1 = 0) := by decide
  have e : x = nI x.toInt.toNat := by
    apply Int32.toInt_inj.mp
    rw [nI_toInt (by omega)]
    omega
  have := key ⟨x.toInt.toNat, by omega⟩
  rw [← e] at this
  exact this
theorem xFl_alt {x : Int32} (h : xFl x = 1) : x - x / (2 : Int32) * (2 : Int32) = 0 ∨ x = 1 := (xFl_two h).elim (fun q => Or.inl ((xrem (xFl_in h)).mpr q)) Or.inr
theorem xokE_of {x y z : Int32} (h1 : xOut x 0 65535 = 0) (h2 : xOut y 0 15 = 0) (h3 : y - y / (2 : Int32) * (2 : Int32) = 0 ∨ y = 1) (h4 : xOut z 0 2 = 0) : xokE x y z := by
  refine ⟨xI1 h1, ?_, xI1 h4⟩
  unfold xFl
  rw [if_pos ⟨xI1 h2, h3.elim (fun q => Or.inl ((xrem (xI1 h2)).mp q)) Or.inr⟩]
theorem xtoNat (x : Int32) : (1 ≤ x.toInt ∧ x.toInt ≤ 16777215) ↔ (¬ x = 0 ∧ x.toBitVec.toNat < 2 ^ 24) := by
  have e : x.toInt = x.toBitVec.toInt := rfl
  have ez : x = 0 ↔ x.toBitVec.toNat = 0 := by
    constructor
    · intro h; subst h; rfl
    · intro h
      apply Int32.toBitVec_inj.mp
      apply BitVec.eq_of_toNat_eq
      rw [h]; rfl
  rw [ez, e, BitVec.toInt_eq_toNat_cond]
  have := x.toBitVec.isLt
  split <;> omega
theorem xmask (x : Int32) : x &&& (-16777216) = 0 ↔ x.toBitVec.toNat < 2 ^ 24 := by
  have hm1 : ∀ i : Fin 8, (BitVec.ofNat 32 4278190080).getLsbD (24 + i.1) = true := by decide
  have hm2 : ∀ i : Fin 24, (BitVec.ofNat 32 4278190080).getLsbD i.1 = false := by decide
  have hm : ((-16777216 : Int32)).toBitVec = BitVec.ofNat 32 4278190080 := by decide
  constructor
  · intro h
    have h' := congrArg Int32.toBitVec h
    rw [Int32.toBitVec_and, hm] at h'
    have hz : x.toBitVec >>> 24 = 0#32 := by
      apply BitVec.eq_of_getLsbD_eq
      intro i hi
      rw [BitVec.getLsbD_ushiftRight, BitVec.getLsbD_zero]
      by_cases hq : i < 8
      · have := congrArg (fun b => b.getLsbD (24 + i)) h'
        simp only [BitVec.getLsbD_and] at this
        rw [hm1 ⟨i, hq⟩, Bool.and_true] at this
        rw [this]
        exact BitVec.getLsbD_zero
      · exact BitVec.getLsbD_of_ge _ _ (by omega)
    have := congrArg BitVec.toNat hz
    rw [BitVec.toNat_ushiftRight, Nat.shiftRight_eq_div_pow] at this
    have h0 : (0#32).toNat = 0 := rfl
    rw [h0] at this
    omega
  · intro h
    apply Int32.toBitVec_inj.mp
    rw [Int32.toBitVec_and, hm]
    apply BitVec.eq_of_getLsbD_eq
    intro i hi
    rw [BitVec.getLsbD_and]
    have e0 : (0 : Int32).toBitVec.getLsbD i = false := BitVec.getLsbD_zero
    rw [e0]
    by_cases hq : i < 24
    · rw [hm2 ⟨i, hq⟩, Bool.and_false]
    · have : x.toBitVec.getLsbD i = false := by
        show x.toBitVec.toNat.testBit i = false
        exact Nat.testBit_lt_two_pow (Nat.lt_of_lt_of_le h (Nat.pow_le_pow_right (by decide) (by omega)))
      rw [this, Bool.false_and]
theorem xtar {x : Int32} : (¬ x < 1 ∧ ¬ 16777215 < x) ↔ (¬ x = 0 ∧ x &&& (-16777216) = 0) := by
  rw [xmask, ← xtoNat]
  simp only [Int32.lt_iff_toInt_lt]
  have h1 : (1 : Int32).toInt = 1 := by decide
  have h2 : (16777215 : Int32).toInt = 16777215 := by decide
  omega
theorem xokB_of {x y z : Int32} (h1 : ¬ x < 1) (h2 : ¬ 16777215 < x) (h3 : xIn y 1 4 = 1) (h4 : xIn z 1 4 = 1) : xokB x y z := ⟨(xtar.mp ⟨h1, h2⟩).1, (xtar.mp ⟨h1, h2⟩).2, h3, h4⟩
theorem d_Mo_init_0 : decode b_Mo_init 0 = .ok (.aload_n 0, 1) := by decide +kernel
theorem d_Mo_init_1 : decode b_Mo_init 1 = .ok (.invokespecial 1, 3) := by decide +kernel
theorem d_Mo_init_4 : decode b_Mo_init 4 = .ok (.aload_n 0, 1) := by decide +kernel
theorem d_Mo_init_5 : decode b_Mo_init 5 = .ok (.bipush (12), 2) := by decide +kernel
theorem d_Mo_init_7 : decode b_Mo_init 7 = .ok (.newarray .int, 2) := by decide +kernel
theorem d_Mo_init_9 : decode b_Mo_init 9 = .ok (.putfield 7, 3) := by decide +kernel
theorem d_Mo_init_12 : decode b_Mo_init 12 = .ok (.aload_n 0, 1) := by decide +kernel
theorem d_Mo_init_13 : decode b_Mo_init 13 = .ok (.bipush (12), 2) := by decide +kernel
theorem d_Mo_init_15 : decode b_Mo_init 15 = .ok (.newarray .int, 2) := by decide +kernel
theorem d_Mo_init_17 : decode b_Mo_init 17 = .ok (.putfield 13, 3) := by decide +kernel
theorem d_Mo_init_20 : decode b_Mo_init 20 = .ok (.aload_n 0, 1) := by decide +kernel
theorem d_Mo_init_21 : decode b_Mo_init 21 = .ok (.bipush (12), 2) := by decide +kernel
theorem d_Mo_init_23 : decode b_Mo_init 23 = .ok (.newarray .int, 2) := by decide +kernel
theorem d_Mo_init_25 : decode b_Mo_init 25 = .ok (.putfield 16, 3) := by decide +kernel
theorem d_Mo_init_28 : decode b_Mo_init 28 = .ok (.aload_n 0, 1) := by decide +kernel
theorem d_Mo_init_29 : decode b_Mo_init 29 = .ok (.bipush (12), 2) := by decide +kernel
theorem d_Mo_init_31 : decode b_Mo_init 31 = .ok (.newarray .int, 2) := by decide +kernel
theorem d_Mo_init_33 : decode b_Mo_init 33 = .ok (.putfield 19, 3) := by decide +kernel
theorem d_Mo_init_36 : decode b_Mo_init 36 = .ok (.aload_n 0, 1) := by decide +kernel
theorem d_Mo_init_37 : decode b_Mo_init 37 = .ok (.bipush (36), 2) := by decide +kernel
theorem d_Mo_init_39 : decode b_Mo_init 39 = .ok (.newarray .int, 2) := by decide +kernel
theorem d_Mo_init_41 : decode b_Mo_init 41 = .ok (.putfield 22, 3) := by decide +kernel
theorem d_Mo_init_44 : decode b_Mo_init 44 = .ok (.aload_n 0, 1) := by decide +kernel
theorem d_Mo_init_45 : decode b_Mo_init 45 = .ok (.bipush (12), 2) := by decide +kernel
theorem d_Mo_init_47 : decode b_Mo_init 47 = .ok (.newarray .int, 2) := by decide +kernel
theorem d_Mo_init_49 : decode b_Mo_init 49 = .ok (.putfield 25, 3) := by decide +kernel
theorem d_Mo_init_52 : decode b_Mo_init 52 = .ok (.aload_n 0, 1) := by decide +kernel
theorem d_Mo_init_53 : decode b_Mo_init 53 = .ok (.bipush (12), 2) := by decide +kernel
theorem d_Mo_init_55 : decode b_Mo_init 55 = .ok (.newarray .int, 2) := by decide +kernel
theorem d_Mo_init_57 : decode b_Mo_init 57 = .ok (.putfield 28, 3) := by decide +kernel
theorem d_Mo_init_60 : decode b_Mo_init 60 = .ok (.aload_n 0, 1) := by decide +kernel
theorem d_Mo_init_61 : decode b_Mo_init 61 = .ok (.bipush (12), 2) := by decide +kernel
theorem d_Mo_init_63 : decode b_Mo_init 63 = .ok (.newarray .boolean, 2) := by decide +kernel
theorem d_Mo_init_65 : decode b_Mo_init 65 = .ok (.putfield 31, 3) := by decide +kernel
theorem d_Mo_init_68 : decode b_Mo_init 68 = .ok (.aload_n 0, 1) := by decide +kernel
theorem d_Mo_init_69 : decode b_Mo_init 69 = .ok (.bipush (12), 2) := by decide +kernel
theorem d_Mo_init_71 : decode b_Mo_init 71 = .ok (.newarray .int, 2) := by decide +kernel
theorem d_Mo_init_73 : decode b_Mo_init 73 = .ok (.putfield 35, 3) := by decide +kernel
theorem d_Mo_init_76 : decode b_Mo_init 76 = .ok (.aload_n 0, 1) := by decide +kernel
theorem d_Mo_init_77 : decode b_Mo_init 77 = .ok (.bipush (24), 2) := by decide +kernel
theorem d_Mo_init_79 : decode b_Mo_init 79 = .ok (.newarray .int, 2) := by decide +kernel
theorem d_Mo_init_81 : decode b_Mo_init 81 = .ok (.putfield 38, 3) := by decide +kernel
theorem d_Mo_init_84 : decode b_Mo_init 84 = .ok (.aload_n 0, 1) := by decide +kernel
theorem d_Mo_init_85 : decode b_Mo_init 85 = .ok (.bipush (24), 2) := by decide +kernel
theorem d_Mo_init_87 : decode b_Mo_init 87 = .ok (.newarray .int, 2) := by decide +kernel
theorem d_Mo_init_89 : decode b_Mo_init 89 = .ok (.putfield 41, 3) := by decide +kernel
theorem d_Mo_init_92 : decode b_Mo_init 92 = .ok (.aload_n 0, 1) := by decide +kernel
theorem d_Mo_init_93 : decode b_Mo_init 93 = .ok (.bipush (24), 2) := by decide +kernel
theorem d_Mo_init_95 : decode b_Mo_init 95 = .ok (.newarray .int, 2) := by decide +kernel
theorem d_Mo_init_97 : decode b_Mo_init 97 = .ok (.putfield 44, 3) := by decide +kernel
theorem d_Mo_init_100 : decode b_Mo_init 100 = .ok (.aload_n 0, 1) := by decide +kernel
theorem d_Mo_init_101 : decode b_Mo_init 101 = .ok (.bipush (24), 2) := by decide +kernel
theorem d_Mo_init_103 : decode b_Mo_init 103 = .ok (.newarray .boolean, 2) := by decide +kernel
theorem d_Mo_init_105 : decode b_Mo_init 105 = .ok (.putfield 47, 3) := by decide +kernel
theorem d_Mo_init_108 : decode b_Mo_init 108 = .ok (.aload_n 0, 1) := by decide +kernel
theorem d_Mo_init_109 : decode b_Mo_init 109 = .ok (.bipush (24), 2) := by decide +kernel
theorem d_Mo_init_111 : decode b_Mo_init 111 = .ok (.newarray .int, 2) := by decide +kernel
theorem d_Mo_init_113 : decode b_Mo_init 113 = .ok (.putfield 50, 3) := by decide +kernel
theorem d_Mo_init_116 : decode b_Mo_init 116 = .ok (.aload_n 0, 1) := by decide +kernel
theorem d_Mo_init_117 : decode b_Mo_init 117 = .ok (.bipush (24), 2) := by decide +kernel
theorem d_Mo_init_119 : decode b_Mo_init 119 = .ok (.newarray .int, 2) := by decide +kernel
theorem d_Mo_init_121 : decode b_Mo_init 121 = .ok (.putfield 53, 3) := by decide +kernel
theorem d_Mo_init_124 : decode b_Mo_init 124 = .ok (.aload_n 0, 1) := by decide +kernel
theorem d_Mo_init_125 : decode b_Mo_init 125 = .ok (.sipush (400), 3) := by decide +kernel
theorem d_Mo_init_128 : decode b_Mo_init 128 = .ok (.newarray .int, 2) := by decide +kernel
theorem d_Mo_init_130 : decode b_Mo_init 130 = .ok (.putfield 56, 3) := by decide +kernel
theorem d_Mo_init_133 : decode b_Mo_init 133 = .ok (.aload_n 0, 1) := by decide +kernel
theorem d_Mo_init_134 : decode b_Mo_init 134 = .ok (.iconst (1), 1) := by decide +kernel
theorem d_Mo_init_135 : decode b_Mo_init 135 = .ok (.putfield 59, 3) := by decide +kernel
theorem d_Mo_init_138 : decode b_Mo_init 138 = .ok (.aload_n 0, 1) := by decide +kernel
theorem d_Mo_init_139 : decode b_Mo_init 139 = .ok (.iconst (1), 1) := by decide +kernel
theorem d_Mo_init_140 : decode b_Mo_init 140 = .ok (.putfield 63, 3) := by decide +kernel
theorem d_Mo_init_143 : decode b_Mo_init 143 = .ok (.aload_n 0, 1) := by decide +kernel
theorem d_Mo_init_144 : decode b_Mo_init 144 = .ok (.bipush (12), 2) := by decide +kernel
theorem d_Mo_init_146 : decode b_Mo_init 146 = .ok (.newarray .int, 2) := by decide +kernel
theorem d_Mo_init_148 : decode b_Mo_init 148 = .ok (.putfield 66, 3) := by decide +kernel
theorem d_Mo_init_151 : decode b_Mo_init 151 = .ok (.aload_n 0, 1) := by decide +kernel
theorem d_Mo_init_152 : decode b_Mo_init 152 = .ok (.bipush (12), 2) := by decide +kernel
theorem d_Mo_init_154 : decode b_Mo_init 154 = .ok (.newarray .int, 2) := by decide +kernel
theorem d_Mo_init_156 : decode b_Mo_init 156 = .ok (.putfield 69, 3) := by decide +kernel
theorem d_Mo_init_159 : decode b_Mo_init 159 = .ok (.aload_n 0, 1) := by decide +kernel
theorem d_Mo_init_160 : decode b_Mo_init 160 = .ok (.bipush (12), 2) := by decide +kernel
theorem d_Mo_init_162 : decode b_Mo_init 162 = .ok (.newarray .boolean, 2) := by decide +kernel
theorem d_Mo_init_164 : decode b_Mo_init 164 = .ok (.putfield 72, 3) := by decide +kernel
theorem d_Mo_init_167 : decode b_Mo_init 167 = .ok (.return_, 1) := by decide +kernel
set_option maxRecDepth 20000 in
set_option maxHeartbeats 4000000 in
theorem c_Mo_init (l : Launch) (D : va_G) (mo : Nat) (cI : ClassId) (cZ : ClassId) (sz : Nat)  : xMv l y_Mo_init w_Mo_init { frames := 1, cells := 19, slots := 712, locals := 13 } D cl [.ref mo] sz [(cI, .int), (cZ, .boolean)] [(mo, .inr (6, [.int 0, .int 0, .null, .null, .null, .null, .null, .null, .null, .null, .null, .int 0, .null, .null, .null, .null, .null, .null, .int 0, .null, .int 0, .int 0, .int 0, .null, .null, .null, .int 0, .int 0, .int 0, .int 0]))] (fun (u : Nat × Nat × Nat × Nat × Nat × Nat × Nat × Nat × Nat × Nat × Nat × Nat × Nat × Nat × Nat × Nat × Nat × Nat × Nat) => True) (fun u => [(mo, .inr (6, [.int 0, .int 0, .ref u.1, .ref u.2.1, .ref u.2.2.1, .ref u.2.2.2.1, .ref u.2.2.2.2.1, .ref u.2.2.2.2.2.1, .ref u.2.2.2.2.2.2.1, .ref u.2.2.2.2.2.2.2.1, .ref u.2.2.2.2.2.2.2.2.1, .int 0, .ref u.2.2.2.2.2.2.2.2.2.1, .ref u.2.2.2.2.2.2.2.2.2.2.1, .ref u.2.2.2.2.2.2.2.2.2.2.2.1, .ref u.2.2.2.2.2.2.2.2.2.2.2.2.1, .ref u.2.2.2.2.2.2.2.2.2.2.2.2.2.1, .ref u.2.2.2.2.2.2.2.2.2.2.2.2.2.2.1, .int 0, .ref u.2.2.2.2.2.2.2.2.2.2.2.2.2.2.2.1, .int 1, .int 1, .int 0, .ref u.2.2.2.2.2.2.2.2.2.2.2.2.2.2.2.2.1, .ref u.2.2.2.2.2.2.2.2.2.2.2.2.2.2.2.2.2.1, .ref u.2.2.2.2.2.2.2.2.2.2.2.2.2.2.2.2.2.2, .int 0, .int 0, .int 0, .int 0])), (u.1, .inl (cI, 12, .inl (fun _ => 0))), (u.2.1, .inl (cI, 12, .inl (fun _ => 0))), (u.2.2.1, .inl (cI, 12, .inl (fun _ => 0))), (u.2.2.2.2.2.2.2.2.2.1, .inl (cI, 24, .inl (fun _ => 0))), (u.2.2.2.2.2.2.2.2.2.2.1, .inl (cI, 24, .inl (fun _ => 0))), (u.2.2.2.2.2.2.2.2.2.2.2.1, .inl (cI, 24, .inl (fun _ => 0))), (u.2.2.2.2.2.2.2.2.2.2.2.2.1, .inl (cZ, 24, .inl (fun _ => 0)))]) (fun _ => []) := by
  refine xMv_of (by decide +kernel) rfl (Nat.le_of_ble_eq_true rfl) ?_
  intro p e s m args below meth c ls A B hAe hA hsz hP hK hD hS hAm hTh hAs hl
  obtain ⟨⟨hx, hb, hml, hown, hts⟩, hret, hlk, hnm, hemp⟩ := id B
  have hl : lv_has ls 1 [(0, .ref mo)] := hl
  refine lv_aload_n hx hb d_Mo_init_0 rfl (lv_at hl 0 rfl) ?_
  refine W.objInit hx hb hown (hts _ (List.mem_cons_of_mem _ tw_664)) (hts _ (List.mem_cons_of_mem _ tw_23)) (hts _ (List.mem_cons_of_mem _ tw_24)) rfl (by rw [hml]; exact hl.1) rfl d_Mo_init_1 (Nat.le_of_ble_eq_true rfl) (Nat.le_of_ble_eq_true rfl) ?_
  refine W.eq (g2 := F0 m 4 ls []) rfl ?_
  refine lv_aload_n hx hb d_Mo_init_4 rfl (lv_at hl 0 rfl) ?_
  refine lv_bipush (v := 12) hx hb d_Mo_init_5 (by decide) ?_
  refine va_newa (atype := .int) (a0 := (12, .inl (fun _ => 0))) (N' := 12) (ty := .int) hx hb (hts _ (List.mem_cons_of_mem _ tw_47)) rfl hK hP hD hS hA (fun _ => rfl) (by decide) (by decide) (by decide) (Nat.le_of_ble_eq_true rfl) (Nat.le_of_ble_eq_true rfl) d_Mo_init_7 (fun q1 cA2 H hK hP hD hS => ?_)
  obtain rfl : cI = cA2 := xsame (by intro C h; cases h) hK 0 2 rfl rfl
  have hK : va_K D cl [(cI, .int), (cZ, .boolean)] s := hK.sub [0, 1] rfl
  have hP : va_P D cl [(mo, .inr (6, [.int 0, .int 0, .null, .null, .null, .null, .null, .null, .null, .null, .null, .int 0, .null, .null, .null, .null, .null, .null, .int 0, .null, .int 0, .int 0, .int 0, .null, .null, .null, .int 0, .int 0, .int 0, .int 0])), (q1, .inl (cI, 12, .inl (fun _ => 0)))] H := hP
  have hD : va_D A [(mo, .inr (6, [.int 0, .int 0, .null, .null, .null, .null, .null, .null, .null, .null, .null, .int 0, .null, .null, .null, .null, .null, .null, .int 0, .null, .int 0, .int 0, .int 0, .null, .null, .null, .int 0, .int 0, .int 0, .int 0])), (q1, .inl (cI, 12, .inl (fun _ => 0)))] := hD
  refine va_putF (D := D) (ci := 6) (v := .ref q1) (ty := .array .int) (C := R_Mo) (T := F_Mo) (N := 30) hx hb hts (fun w h => List.mem_cons_of_mem _ (u_Mo w h)) t_Mo o_Mo n_Mo hown hK hP hD hS 0 rfl rfl 2 (by decide) (hts _ (List.mem_cons_of_mem _ tw_667)) (fun _ h9 => h9) rfl hnm rfl (by decide +kernel) rfl rfl (Nat.le_of_ble_eq_true rfl) d_Mo_init_9 (fun H locs hP hD hS => ?_)
  have hP : va_P D cl [(mo, .inr (6, [.int 0, .int 0, .ref q1, .null, .null, .null, .null, .null, .null, .null, .null, .int 0, .null, .null, .null, .null, .null, .null, .int 0, .null, .int 0, .int 0, .int 0, .null, .null, .null, .int 0, .int 0, .int 0, .int 0])), (q1, .inl (cI, 12, .inl (fun _ => 0)))] H := hP
  have hD : va_D A [(mo, .inr (6, [.int 0, .int 0, .ref q1, .null, .null, .null, .null, .null, .null, .null, .null, .int 0, .null, .null, .null, .null, .null, .null, .int 0, .null, .int 0, .int 0, .int 0, .null, .null, .null, .int 0, .int 0, .int 0, .int 0])), (q1, .inl (cI, 12, .inl (fun _ => 0)))] := hD
  refine lv_aload_n hx hb d_Mo_init_12 rfl (lv_at hl 0 rfl) ?_
  refine lv_bipush (v := 12) hx hb d_Mo_init_13 (by decide) ?_
  refine va_newa (atype := .int) (a0 := (12, .inl (fun _ => 0))) (N' := 12) (ty := .int) hx hb (hts _ (List.mem_cons_of_mem _ tw_47)) rfl hK hP hD hS hA (fun _ => rfl) (by decide) (by decide) (by decide) (Nat.le_of_ble_eq_true rfl) (Nat.le_of_ble_eq_true rfl) d_Mo_init_15 (fun q3 cA4 H hK hP hD hS => ?_)
  obtain rfl : cI = cA4 := xsame (by intro C h; cases h) hK 0 2 rfl rfl
  have hK : va_K D cl [(cI, .int), (cZ, .boolean)] s := hK.sub [0, 1] rfl
  have hP : va_P D cl [(mo, .inr (6, [.int 0, .int 0, .ref q1, .null, .null, .null, .null, .null, .null, .null, .null, .int 0, .null, .null, .null, .null, .null, .null, .int 0, .null, .int 0, .int 0, .int 0, .null, .null, .null, .int 0, .int 0, .int 0, .int 0])), (q1, .inl (cI, 12, .inl (fun _ => 0))), (q3, .inl (cI, 12, .inl (fun _ => 0)))] H := hP
  have hD : va_D A [(mo, .inr (6, [.int 0, .int 0, .ref q1, .null, .null, .null, .null, .null, .null, .null, .null, .int 0, .null, .null, .null, .null, .null, .null, .int 0, .null, .int 0, .int 0, .int 0, .null, .null, .null, .int 0, .int 0, .int 0, .int 0])), (q1, .inl (cI, 12, .inl (fun _ => 0))), (q3, .inl (cI, 12, .inl (fun _ => 0)))] := hD
  refine va_putF (D := D) (ci := 6) (v := .ref q3) (ty := .array .int) (C := R_Mo) (T := F_Mo) (N := 30) hx hb hts (fun w h => List.mem_cons_of_mem _ (u_Mo w h)) t_Mo o_Mo n_Mo hown hK hP hD hS 0 rfl rfl 3 (by decide) (hts _ (List.mem_cons_of_mem _ tw_668)) (fun _ h9 => h9) rfl hnm rfl (by decide +kernel) rfl rfl (Nat.le_of_ble_eq_true rfl) d_Mo_init_17 (fun H locs hP hD hS => ?_)
  have hP : va_P D cl [(mo, .inr (6, [.int 0, .int 0, .ref q1, .ref q3, .null, .null, .null, .null, .null, .null, .null, .int 0, .null, .null, .null, .null, .null, .null, .int 0, .null, .int 0, .int 0, .int 0, .null, .null, .null, .int 0, .int 0, .int 0, .int 0])), (q1, .inl (cI, 12, .inl (fun _ => 0))), (q3, .inl (cI, 12, .inl (fun _ => 0)))] H := hP
  have hD : va_D A [(mo, .inr (6, [.int 0, .int 0, .ref q1, .ref q3, .null, .null, .null, .null, .null, .null, .null, .int 0, .null, .null, .null, .null, .null, .null, .int 0, .null, .int 0, .int 0, .int 0, .null, .null, .null, .int 0, .int 0, .int 0, .int 0])), (q1, .inl (cI, 12, .inl (fun _ => 0))), (q3, .inl (cI, 12, .inl (fun _ => 0)))] := hD
  refine lv_aload_n hx hb d_Mo_init_20 rfl (lv_at hl 0 rfl) ?_
  refine lv_bipush (v := 12) hx hb d_Mo_init_21 (by decide) ?_
  refine va_newa (atype := .int) (a0 := (12, .inl (fun _ => 0))) (N' := 12) (ty := .int) hx hb (hts _ (List.mem_cons_of_mem _ tw_47)) rfl hK hP hD hS hA (fun _ => rfl) (by decide) (by decide) (by decide) (Nat.le_of_ble_eq_true rfl) (Nat.le_of_ble_eq_true rfl) d_Mo_init_23 (fun q5 cA6 H hK hP hD hS => ?_)
  obtain rfl : cI = cA6 := xsame (by intro C h; cases h) hK 0 2 rfl rfl
  have hK : va_K D cl [(cI, .int), (cZ, .boolean)] s := hK.sub [0, 1] rfl
  have hP : va_P D cl [(mo, .inr (6, [.int 0, .int 0, .ref q1, .ref q3, .null, .null, .null, .null, .null, .null, .null, .int 0, .null, .null, .null, .null, .null, .null, .int 0, .null, .int 0, .int 0, .int 0, .null, .null, .null, .int 0, .int 0, .int 0, .int 0])), (q1, .inl (cI, 12, .inl (fun _ => 0))), (q3, .inl (cI, 12, .inl (fun _ => 0))), (q5, .inl (cI, 12, .inl (fun _ => 0)))] H := hP
  have hD : va_D A [(mo, .inr (6, [.int 0, .int 0, .ref q1, .ref q3, .null, .null, .null, .null, .null, .null, .null, .int 0, .null, .null, .null, .null, .null, .null, .int 0, .null, .int 0, .int 0, .int 0, .null, .null, .null, .int 0, .int 0, .int 0, .int 0])), (q1, .inl (cI, 12, .inl (fun _ => 0))), (q3, .inl (cI, 12, .inl (fun _ => 0))), (q5, .inl (cI, 12, .inl (fun _ => 0)))] := hD
  refine va_putF (D := D) (ci := 6) (v := .ref q5) (ty := .array .int) (C := R_Mo) (T := F_Mo) (N := 30) hx hb hts (fun w h => List.mem_cons_of_mem _ (u_Mo w h)) t_Mo o_Mo n_Mo hown hK hP hD hS 0 rfl rfl 4 (by decide) (hts _ (List.mem_cons_of_mem _ tw_669)) (fun _ h9 => h9) rfl hnm rfl (by decide +kernel) rfl rfl (Nat.le_of_ble_eq_true rfl) d_Mo_init_25 (fun H locs hP hD hS => ?_)
  have hP : va_P D cl [(mo, .inr (6, [.int 0, .int 0, .ref q1, .ref q3, .ref q5, .null, .null, .null, .null, .null, .null, .int 0, .null, .null, .null, .null, .null, .null, .int 0, .null, .int 0, .int 0, .int 0, .null, .null, .null, .int 0, .int 0, .int 0, .int 0])), (q1, .inl (cI, 12, .inl (fun _ => 0))), (q3, .inl (cI, 12, .inl (fun _ => 0))), (q5, .inl (cI, 12, .inl (fun _ => 0)))] H := hP
  have hD : va_D A [(mo, .inr (6, [.int 0, .int 0, .ref q1, .ref q3, .ref q5, .null, .null, .null, .null, .null, .null, .int 0, .null, .null, .null, .null, .null, .null, .int 0, .null, .int 0, .int 0, .int 0, .null, .null, .null, .int 0, .int 0, .int 0, .int 0])), (q1, .inl (cI, 12, .inl (fun _ => 0))), (q3, .inl (cI, 12, .inl (fun _ => 0))), (q5, .inl (cI, 12, .inl (fun _ => 0)))] := hD
  refine lv_aload_n hx hb d_Mo_init_28 rfl (lv_at hl 0 rfl) ?_
  refine lv_bipush (v := 12) hx hb d_Mo_init_29 (by decide) ?_
  refine va_newa (atype := .int) (a0 := (12, .inl (fun _ => 0))) (N' := 12) (ty := .int) hx hb (hts _ (List.mem_cons_of_mem _ tw_47)) rfl hK hP hD hS hA (fun _ => rfl) (by decide) (by decide) (by decide) (Nat.le_of_ble_eq_true rfl) (Nat.le_of_ble_eq_true rfl) d_Mo_init_31 (fun q7 cA8 H hK hP hD hS => ?_)
  obtain rfl : cI = cA8 := xsame (by intro C h; cases h) hK 0 2 rfl rfl
  have hK : va_K D cl [(cI, .int), (cZ, .boolean)] s := hK.sub [0, 1] rfl
  have hP : va_P D cl [(mo, .inr (6, [.int 0, .int 0, .ref q1, .ref q3, .ref q5, .null, .null, .null, .null, .null, .null, .int 0, .null, .null, .null, .null, .null, .null, .int 0, .null, .int 0, .int 0, .int 0, .null, .null, .null, .int 0, .int 0, .int 0, .int 0])), (q1, .inl (cI, 12, .inl (fun _ => 0))), (q3, .inl (cI, 12, .inl (fun _ => 0))), (q5, .inl (cI, 12, .inl (fun _ => 0))), (q7, .inl (cI, 12, .inl (fun _ => 0)))] H := hP
  have hD : va_D A [(mo, .inr (6, [.int 0, .int 0, .ref q1, .ref q3, .ref q5, .null, .null, .null, .null, .null, .null, .int 0, .null, .null, .null, .null, .null, .null, .int 0, .null, .int 0, .int 0, .int 0, .null, .null, .null, .int 0, .int 0, .int 0, .int 0])), (q1, .inl (cI, 12, .inl (fun _ => 0))), (q3, .inl (cI, 12, .inl (fun _ => 0))), (q5, .inl (cI, 12, .inl (fun _ => 0))), (q7, .inl (cI, 12, .inl (fun _ => 0)))] := hD
  refine va_putF (D := D) (ci := 6) (v := .ref q7) (ty := .array .int) (C := R_Mo) (T := F_Mo) (N := 30) hx hb hts (fun w h => List.mem_cons_of_mem _ (u_Mo w h)) t_Mo o_Mo n_Mo hown hK hP hD hS 0 rfl rfl 5 (by decide) (hts _ (List.mem_cons_of_mem _ tw_670)) (fun _ h9 => h9) rfl hnm rfl (by decide +kernel) rfl rfl (Nat.le_of_ble_eq_true rfl) d_Mo_init_33 (fun H locs hP hD hS => ?_)
  have hP : va_P D cl [(mo, .inr (6, [.int 0, .int 0, .ref q1, .ref q3, .ref q5, .ref q7, .null, .null, .null, .null, .null, .int 0, .null, .null, .null, .null, .null, .null, .int 0, .null, .int 0, .int 0, .int 0, .null, .null, .null, .int 0, .int 0, .int 0, .int 0])), (q1, .inl (cI, 12, .inl (fun _ => 0))), (q3, .inl (cI, 12, .inl (fun _ => 0))), (q5, .inl (cI, 12, .inl (fun _ => 0))), (q7, .inl (cI, 12, .inl (fun _ => 0)))] H := hP
  have hD : va_D A [(mo, .inr (6, [.int 0, .int 0, .ref q1, .ref q3, .ref q5, .ref q7, .null, .null, .null, .null, .null, .int 0, .null, .null, .null, .null, .null, .null, .int 0, .null, .int 0, .int 0, .int 0, .null, .null, .null, .int 0, .int 0, .int 0, .int 0])), (q1, .inl (cI, 12, .inl (fun _ => 0))), (q3, .inl (cI, 12, .inl (fun _ => 0))), (q5, .inl (cI, 12, .inl (fun _ => 0))), (q7, .inl (cI, 12, .inl (fun _ => 0)))] := hD
  refine lv_aload_n hx hb d_Mo_init_36 rfl (lv_at hl 0 rfl) ?_
  refine lv_bipush (v := 36) hx hb d_Mo_init_37 (by decide) ?_
  refine va_newa (atype := .int) (a0 := (36, .inl (fun _ => 0))) (N' := 36) (ty := .int) hx hb (hts _ (List.mem_cons_of_mem _ tw_47)) rfl hK hP hD hS hA (fun _ => rfl) (by decide) (by decide) (by decide) (Nat.le_of_ble_eq_true rfl) (Nat.le_of_ble_eq_true rfl) d_Mo_init_39 (fun q9 cA10 H hK hP hD hS => ?_)
  obtain rfl : cI = cA10 := xsame (by intro C h; cases h) hK 0 2 rfl rfl
  have hK : va_K D cl [(cI, .int), (cZ, .boolean)] s := hK.sub [0, 1] rfl
  have hP : va_P D cl [(mo, .inr (6, [.int 0, .int 0, .ref q1, .ref q3, .ref q5, .ref q7, .null, .null, .null, .null, .null, .int 0, .null, .null, .null, .null, .null, .null, .int 0, .null, .int 0, .int 0, .int 0, .null, .null, .null, .int 0, .int 0, .int 0, .int 0])), (q1, .inl (cI, 12, .inl (fun _ => 0))), (q3, .inl (cI, 12, .inl (fun _ => 0))), (q5, .inl (cI, 12, .inl (fun _ => 0))), (q7, .inl (cI, 12, .inl (fun _ => 0))), (q9, .inl (cI, 36, .inl (fun _ => 0)))] H := hP
  have hD : va_D A [(mo, .inr (6, [.int 0, .int 0, .ref q1, .ref q3, .ref q5, .ref q7, .null, .null, .null, .null, .null, .int 0, .null, .null, .null, .null, .null, .null, .int 0, .null, .int 0, .int 0, .int 0, .null, .null, .null, .int 0, .int 0, .int 0, .int 0])), (q1, .inl (cI, 12, .inl (fun _ => 0))), (q3, .inl (cI, 12, .inl (fun _ => 0))), (q5, .inl (cI, 12, .inl (fun _ => 0))), (q7, .inl (cI, 12, .inl (fun _ => 0))), (q9, .inl (cI, 36, .inl (fun _ => 0)))] := hD
  refine va_putF (D := D) (ci := 6) (v := .ref q9) (ty := .array .int) (C := R_Mo) (T := F_Mo) (N := 30) hx hb hts (fun w h => List.mem_cons_of_mem _ (u_Mo w h)) t_Mo o_Mo n_Mo hown hK hP hD hS 0 rfl rfl 6 (by decide) (hts _ (List.mem_cons_of_mem _ tw_671)) (fun _ h9 => h9) rfl hnm rfl (by decide +kernel) rfl rfl (Nat.le_of_ble_eq_true rfl) d_Mo_init_41 (fun H locs hP hD hS => ?_)
  have hP : va_P D cl [(mo, .inr (6, [.int 0, .int 0, .ref q1, .ref q3, .ref q5, .ref q7, .ref q9, .null, .null, .null, .null, .int 0, .null, .null, .null, .null, .null, .null, .int 0, .null, .int 0, .int 0, .int 0, .null, .null, .null, .int 0, .int 0, .int 0, .int 0])), (q1, .inl (cI, 12, .inl (fun _ => 0))), (q3, .inl (cI, 12, .inl (fun _ => 0))), (q5, .inl (cI, 12, .inl (fun _ => 0))), (q7, .inl (cI, 12, .inl (fun _ => 0))), (q9, .inl (cI, 36, .inl (fun _ => 0)))] H := hP
  have hD : va_D A [(mo, .inr (6, [.int 0, .int 0, .ref q1, .ref q3, .ref q5, .ref q7, .ref q9, .null, .null, .null, .null, .int 0, .null, .null, .null, .null, .null, .null, .int 0, .null, .int 0, .int 0, .int 0, .null, .null, .null, .int 0, .int 0, .int 0, .int 0])), (q1, .inl (cI, 12, .inl (fun _ => 0))), (q3, .inl (cI, 12, .inl (fun _ => 0))), (q5, .inl (cI, 12, .inl (fun _ => 0))), (q7, .inl (cI, 12, .inl (fun _ => 0))), (q9, .inl (cI, 36, .inl (fun _ => 0)))] := hD
  refine lv_aload_n hx hb d_Mo_init_44 rfl (lv_at hl 0 rfl) ?_
  refine lv_bipush (v := 12) hx hb d_Mo_init_45 (by decide) ?_
  refine va_newa (atype := .int) (a0 := (12, .inl (fun _ => 0))) (N' := 12) (ty := .int) hx hb (hts _ (List.mem_cons_of_mem _ tw_47)) rfl hK hP hD hS hA (fun _ => rfl) (by decide) (by decide) (by decide) (Nat.le_of_ble_eq_true rfl) (Nat.le_of_ble_eq_true rfl) d_Mo_init_47 (fun q11 cA12 H hK hP hD hS => ?_)
  obtain rfl : cI = cA12 := xsame (by intro C h; cases h) hK 0 2 rfl rfl
  have hK : va_K D cl [(cI, .int), (cZ, .boolean)] s := hK.sub [0, 1] rfl
  have hP : va_P D cl [(mo, .inr (6, [.int 0, .int 0, .ref q1, .ref q3, .ref q5, .ref q7, .ref q9, .null, .null, .null, .null, .int 0, .null, .null, .null, .null, .null, .null, .int 0, .null, .int 0, .int 0, .int 0, .null, .null, .null, .int 0, .int 0, .int 0, .int 0])), (q1, .inl (cI, 12, .inl (fun _ => 0))), (q3, .inl (cI, 12, .inl (fun _ => 0))), (q5, .inl (cI, 12, .inl (fun _ => 0))), (q7, .inl (cI, 12, .inl (fun _ => 0))), (q9, .inl (cI, 36, .inl (fun _ => 0))), (q11, .inl (cI, 12, .inl (fun _ => 0)))] H := hP
  have hD : va_D A [(mo, .inr (6, [.int 0, .int 0, .ref q1, .ref q3, .ref q5, .ref q7, .ref q9, .null, .null, .null, .null, .int 0, .null, .null, .null, .null, .null, .null, .int 0, .null, .int 0, .int 0, .int 0, .null, .null, .null, .int 0, .int 0, .int 0, .int 0])), (q1, .inl (cI, 12, .inl (fun _ => 0))), (q3, .inl (cI, 12, .inl (fun _ => 0))), (q5, .inl (cI, 12, .inl (fun _ => 0))), (q7, .inl (cI, 12, .inl (fun _ => 0))), (q9, .inl (cI, 36, .inl (fun _ => 0))), (q11, .inl (cI, 12, .inl (fun _ => 0)))] := hD
  refine va_putF (D := D) (ci := 6) (v := .ref q11) (ty := .array .int) (C := R_Mo) (T := F_Mo) (N := 30) hx hb hts (fun w h => List.mem_cons_of_mem _ (u_Mo w h)) t_Mo o_Mo n_Mo hown hK hP hD hS 0 rfl rfl 7 (by decide) (hts _ (List.mem_cons_of_mem _ tw_672)) (fun _ h9 => h9) rfl hnm rfl (by decide +kernel) rfl rfl (Nat.le_of_ble_eq_true rfl) d_Mo_init_49 (fun H locs hP hD hS => ?_)
  have hP : va_P D cl [(mo, .inr (6, [.int 0, .int 0, .ref q1, .ref q3, .ref q5, .ref q7, .ref q9, .ref q11, .null, .null, .null, .int 0, .null, .null, .null, .null, .null, .null, .int 0, .null, .int 0, .int 0, .int 0, .null, .null, .null, .int 0, .int 0, .int 0, .int 0])), (q1, .inl (cI, 12, .inl (fun _ => 0))), (q3, .inl (cI, 12, .inl (fun _ => 0))), (q5, .inl (cI, 12, .inl (fun _ => 0))), (q7, .inl (cI, 12, .inl (fun _ => 0))), (q9, .inl (cI, 36, .inl (fun _ => 0))), (q11, .inl (cI, 12, .inl (fun _ => 0)))] H := hP
  have hD : va_D A [(mo, .inr (6, [.int 0, .int 0, .ref q1, .ref q3, .ref q5, .ref q7, .ref q9, .ref q11, .null, .null, .null, .int 0, .null, .null, .null, .null, .null, .null, .int 0, .null, .int 0, .int 0, .int 0, .null, .null, .null, .int 0, .int 0, .int 0, .int 0])), (q1, .inl (cI, 12, .inl (fun _ => 0))), (q3, .inl (cI, 12, .inl (fun _ => 0))), (q5, .inl (cI, 12, .inl (fun _ => 0))), (q7, .inl (cI, 12, .inl (fun _ => 0))), (q9, .inl (cI, 36, .inl (fun _ => 0))), (q11, .inl (cI, 12, .inl (fun _ => 0)))] := hD
  refine lv_aload_n hx hb d_Mo_init_52 rfl (lv_at hl 0 rfl) ?_
  refine lv_bipush (v := 12) hx hb d_Mo_init_53 (by decide) ?_
  refine va_newa (atype := .int) (a0 := (12, .inl (fun _ => 0))) (N' := 12) (ty := .int) hx hb (hts _ (List.mem_cons_of_mem _ tw_47)) rfl hK hP hD hS hA (fun _ => rfl) (by decide) (by decide) (by decide) (Nat.le_of_ble_eq_true rfl) (Nat.le_of_ble_eq_true rfl) d_Mo_init_55 (fun q13 cA14 H hK hP hD hS => ?_)
  obtain rfl : cI = cA14 := xsame (by intro C h; cases h) hK 0 2 rfl rfl
  have hK : va_K D cl [(cI, .int), (cZ, .boolean)] s := hK.sub [0, 1] rfl
  have hP : va_P D cl [(mo, .inr (6, [.int 0, .int 0, .ref q1, .ref q3, .ref q5, .ref q7, .ref q9, .ref q11, .null, .null, .null, .int 0, .null, .null, .null, .null, .null, .null, .int 0, .null, .int 0, .int 0, .int 0, .null, .null, .null, .int 0, .int 0, .int 0, .int 0])), (q1, .inl (cI, 12, .inl (fun _ => 0))), (q3, .inl (cI, 12, .inl (fun _ => 0))), (q5, .inl (cI, 12, .inl (fun _ => 0))), (q7, .inl (cI, 12, .inl (fun _ => 0))), (q9, .inl (cI, 36, .inl (fun _ => 0))), (q11, .inl (cI, 12, .inl (fun _ => 0))), (q13, .inl (cI, 12, .inl (fun _ => 0)))] H := hP
  have hD : va_D A [(mo, .inr (6, [.int 0, .int 0, .ref q1, .ref q3, .ref q5, .ref q7, .ref q9, .ref q11, .null, .null, .null, .int 0, .null, .null, .null, .null, .null, .null, .int 0, .null, .int 0, .int 0, .int 0, .null, .null, .null, .int 0, .int 0, .int 0, .int 0])), (q1, .inl (cI, 12, .inl (fun _ => 0))), (q3, .inl (cI, 12, .inl (fun _ => 0))), (q5, .inl (cI, 12, .inl (fun _ => 0))), (q7, .inl (cI, 12, .inl (fun _ => 0))), (q9, .inl (cI, 36, .inl (fun _ => 0))), (q11, .inl (cI, 12, .inl (fun _ => 0))), (q13, .inl (cI, 12, .inl (fun _ => 0)))] := hD
  refine va_putF (D := D) (ci := 6) (v := .ref q13) (ty := .array .int) (C := R_Mo) (T := F_Mo) (N := 30) hx hb hts (fun w h => List.mem_cons_of_mem _ (u_Mo w h)) t_Mo o_Mo n_Mo hown hK hP hD hS 0 rfl rfl 8 (by decide) (hts _ (List.mem_cons_of_mem _ tw_673)) (fun _ h9 => h9) rfl hnm rfl (by decide +kernel) rfl rfl (Nat.le_of_ble_eq_true rfl) d_Mo_init_57 (fun H locs hP hD hS => ?_)
  have hP : va_P D cl [(mo, .inr (6, [.int 0, .int 0, .ref q1, .ref q3, .ref q5, .ref q7, .ref q9, .ref q11, .ref q13, .null, .null, .int 0, .null, .null, .null, .null, .null, .null, .int 0, .null, .int 0, .int 0, .int 0, .null, .null, .null, .int 0, .int 0, .int 0, .int 0])), (q1, .inl (cI, 12, .inl (fun _ => 0))), (q3, .inl (cI, 12, .inl (fun _ => 0))), (q5, .inl (cI, 12, .inl (fun _ => 0))), (q7, .inl (cI, 12, .inl (fun _ => 0))), (q9, .inl (cI, 36, .inl (fun _ => 0))), (q11, .inl (cI, 12, .inl (fun _ => 0))), (q13, .inl (cI, 12, .inl (fun _ => 0)))] H := hP
  have hD : va_D A [(mo, .inr (6, [.int 0, .int 0, .ref q1, .ref q3, .ref q5, .ref q7, .ref q9, .ref q11, .ref q13, .null, .null, .int 0, .null, .null, .null, .null, .null, .null, .int 0, .null, .int 0, .int 0, .int 0, .null, .null, .null, .int 0, .int 0, .int 0, .int 0])), (q1, .inl (cI, 12, .inl (fun _ => 0))), (q3, .inl (cI, 12, .inl (fun _ => 0))), (q5, .inl (cI, 12, .inl (fun _ => 0))), (q7, .inl (cI, 12, .inl (fun _ => 0))), (q9, .inl (cI, 36, .inl (fun _ => 0))), (q11, .inl (cI, 12, .inl (fun _ => 0))), (q13, .inl (cI, 12, .inl (fun _ => 0)))] := hD
  refine lv_aload_n hx hb d_Mo_init_60 rfl (lv_at hl 0 rfl) ?_
  refine lv_bipush (v := 12) hx hb d_Mo_init_61 (by decide) ?_
  refine va_newa (atype := .boolean) (a0 := (12, .inl (fun _ => 0))) (N' := 12) (ty := .boolean) hx hb (hts _ (List.mem_cons_of_mem _ tw_95)) rfl hK hP hD hS hA (fun _ => rfl) (by decide) (by decide) (by decide) (Nat.le_of_ble_eq_true rfl) (Nat.le_of_ble_eq_true rfl) d_Mo_init_63 (fun q15 cA16 H hK hP hD hS => ?_)
  obtain rfl : cZ = cA16 := xsame (by intro C h; cases h) hK 1 2 rfl rfl
  have hK : va_K D cl [(cI, .int), (cZ, .boolean)] s := hK.sub [0, 1] rfl
  have hP : va_P D cl [(mo, .inr (6, [.int 0, .int 0, .ref q1, .ref q3, .ref q5, .ref q7, .ref q9, .ref q11, .ref q13, .null, .null, .int 0, .null, .null, .null, .null, .null, .null, .int 0, .null, .int 0, .int 0, .int 0, .null, .null, .null, .int 0, .int 0, .int 0, .int 0])), (q1, .inl (cI, 12, .inl (fun _ => 0))), (q3, .inl (cI, 12, .inl (fun _ => 0))), (q5, .inl (cI, 12, .inl (fun _ => 0))), (q7, .inl (cI, 12, .inl (fun _ => 0))), (q9, .inl (cI, 36, .inl (fun _ => 0))), (q11, .inl (cI, 12, .inl (fun _ => 0))), (q13, .inl (cI, 12, .inl (fun _ => 0))), (q15, .inl (cZ, 12, .inl (fun _ => 0)))] H := hP
  have hD : va_D A [(mo, .inr (6, [.int 0, .int 0, .ref q1, .ref q3, .ref q5, .ref q7, .ref q9, .ref q11, .ref q13, .null, .null, .int 0, .null, .null, .null, .null, .null, .null, .int 0, .null, .int 0, .int 0, .int 0, .null, .null, .null, .int 0, .int 0, .int 0, .int 0])), (q1, .inl (cI, 12, .inl (fun _ => 0))), (q3, .inl (cI, 12, .inl (fun _ => 0))), (q5, .inl (cI, 12, .inl (fun _ => 0))), (q7, .inl (cI, 12, .inl (fun _ => 0))), (q9, .inl (cI, 36, .inl (fun _ => 0))), (q11, .inl (cI, 12, .inl (fun _ => 0))), (q13, .inl (cI, 12, .inl (fun _ => 0))), (q15, .inl (cZ, 12, .inl (fun _ => 0)))] := hD
  refine va_putF (D := D) (ci := 6) (v := .ref q15) (ty := .array .boolean) (C := R_Mo) (T := F_Mo) (N := 30) hx hb hts (fun w h => List.mem_cons_of_mem _ (u_Mo w h)) t_Mo o_Mo n_Mo hown hK hP hD hS 0 rfl rfl 9 (by decide) (hts _ (List.mem_cons_of_mem _ tw_674)) (fun _ h9 => h9) rfl hnm rfl (by decide +kernel) rfl rfl (Nat.le_of_ble_eq_true rfl) d_Mo_init_65 (fun H locs hP hD hS => ?_)
  have hP : va_P D cl [(mo, .inr (6, [.int 0, .int 0, .ref q1, .ref q3, .ref q5, .ref q7, .ref q9, .ref q11, .ref q13, .ref q15, .null, .int 0, .null, .null, .null, .null, .null, .null, .int 0, .null, .int 0, .int 0, .int 0, .null, .null, .null, .int 0, .int 0, .int 0, .int 0])), (q1, .inl (cI, 12, .inl (fun _ => 0))), (q3, .inl (cI, 12, .inl (fun _ => 0))), (q5, .inl (cI, 12, .inl (fun _ => 0))), (q7, .inl (cI, 12, .inl (fun _ => 0))), (q9, .inl (cI, 36, .inl (fun _ => 0))), (q11, .inl (cI, 12, .inl (fun _ => 0))), (q13, .inl (cI, 12, .inl (fun _ => 0))), (q15, .inl (cZ, 12, .inl (fun _ => 0)))] H := hP
  have hD : va_D A [(mo, .inr (6, [.int 0, .int 0, .ref q1, .ref q3, .ref q5, .ref q7, .ref q9, .ref q11, .ref q13, .ref q15, .null, .int 0, .null, .null, .null, .null, .null, .null, .int 0, .null, .int 0, .int 0, .int 0, .null, .null, .null, .int 0, .int 0, .int 0, .int 0])), (q1, .inl (cI, 12, .inl (fun _ => 0))), (q3, .inl (cI, 12, .inl (fun _ => 0))), (q5, .inl (cI, 12, .inl (fun _ => 0))), (q7, .inl (cI, 12, .inl (fun _ => 0))), (q9, .inl (cI, 36, .inl (fun _ => 0))), (q11, .inl (cI, 12, .inl (fun _ => 0))), (q13, .inl (cI, 12, .inl (fun _ => 0))), (q15, .inl (cZ, 12, .inl (fun _ => 0)))] := hD
  refine lv_aload_n hx hb d_Mo_init_68 rfl (lv_at hl 0 rfl) ?_
  refine lv_bipush (v := 12) hx hb d_Mo_init_69 (by decide) ?_
  refine va_newa (atype := .int) (a0 := (12, .inl (fun _ => 0))) (N' := 12) (ty := .int) hx hb (hts _ (List.mem_cons_of_mem _ tw_47)) rfl hK hP hD hS hA (fun _ => rfl) (by decide) (by decide) (by decide) (Nat.le_of_ble_eq_true rfl) (Nat.le_of_ble_eq_true rfl) d_Mo_init_71 (fun q17 cA18 H hK hP hD hS => ?_)
  obtain rfl : cI = cA18 := xsame (by intro C h; cases h) hK 0 2 rfl rfl
  have hK : va_K D cl [(cI, .int), (cZ, .boolean)] s := hK.sub [0, 1] rfl
  have hP : va_P D cl [(mo, .inr (6, [.int 0, .int 0, .ref q1, .ref q3, .ref q5, .ref q7, .ref q9, .ref q11, .ref q13, .ref q15, .null, .int 0, .null, .null, .null, .null, .null, .null, .int 0, .null, .int 0, .int 0, .int 0, .null, .null, .null, .int 0, .int 0, .int 0, .int 0])), (q1, .inl (cI, 12, .inl (fun _ => 0))), (q3, .inl (cI, 12, .inl (fun _ => 0))), (q5, .inl (cI, 12, .inl (fun _ => 0))), (q7, .inl (cI, 12, .inl (fun _ => 0))), (q9, .inl (cI, 36, .inl (fun _ => 0))), (q11, .inl (cI, 12, .inl (fun _ => 0))), (q13, .inl (cI, 12, .inl (fun _ => 0))), (q15, .inl (cZ, 12, .inl (fun _ => 0))), (q17, .inl (cI, 12, .inl (fun _ => 0)))] H := hP
  have hD : va_D A [(mo, .inr (6, [.int 0, .int 0, .ref q1, .ref q3, .ref q5, .ref q7, .ref q9, .ref q11, .ref q13, .ref q15, .null, .int 0, .null, .null, .null, .null, .null, .null, .int 0, .null, .int 0, .int 0, .int 0, .null, .null, .null, .int 0, .int 0, .int 0, .int 0])), (q1, .inl (cI, 12, .inl (fun _ => 0))), (q3, .inl (cI, 12, .inl (fun _ => 0))), (q5, .inl (cI, 12, .inl (fun _ => 0))), (q7, .inl (cI, 12, .inl (fun _ => 0))), (q9, .inl (cI, 36, .inl (fun _ => 0))), (q11, .inl (cI, 12, .inl (fun _ => 0))), (q13, .inl (cI, 12, .inl (fun _ => 0))), (q15, .inl (cZ, 12, .inl (fun _ => 0))), (q17, .inl (cI, 12, .inl (fun _ => 0)))] := hD
  refine va_putF (D := D) (ci := 6) (v := .ref q17) (ty := .array .int) (C := R_Mo) (T := F_Mo) (N := 30) hx hb hts (fun w h => List.mem_cons_of_mem _ (u_Mo w h)) t_Mo o_Mo n_Mo hown hK hP hD hS 0 rfl rfl 10 (by decide) (hts _ (List.mem_cons_of_mem _ tw_675)) (fun _ h9 => h9) rfl hnm rfl (by decide +kernel) rfl rfl (Nat.le_of_ble_eq_true rfl) d_Mo_init_73 (fun H locs hP hD hS => ?_)
  have hP : va_P D cl [(mo, .inr (6, [.int 0, .int 0, .ref q1, .ref q3, .ref q5, .ref q7, .ref q9, .ref q11, .ref q13, .ref q15, .ref q17, .int 0, .null, .null, .null, .null, .null, .null, .int 0, .null, .int 0, .int 0, .int 0, .null, .null, .null, .int 0, .int 0, .int 0, .int 0])), (q1, .inl (cI, 12, .inl (fun _ => 0))), (q3, .inl (cI, 12, .inl (fun _ => 0))), (q5, .inl (cI, 12, .inl (fun _ => 0))), (q7, .inl (cI, 12, .inl (fun _ => 0))), (q9, .inl (cI, 36, .inl (fun _ => 0))), (q11, .inl (cI, 12, .inl (fun _ => 0))), (q13, .inl (cI, 12, .inl (fun _ => 0))), (q15, .inl (cZ, 12, .inl (fun _ => 0))), (q17, .inl (cI, 12, .inl (fun _ => 0)))] H := hP
  have hD : va_D A [(mo, .inr (6, [.int 0, .int 0, .ref q1, .ref q3, .ref q5, .ref q7, .ref q9, .ref q11, .ref q13, .ref q15, .ref q17, .int 0, .null, .null, .null, .null, .null, .null, .int 0, .null, .int 0, .int 0, .int 0, .null, .null, .null, .int 0, .int 0, .int 0, .int 0])), (q1, .inl (cI, 12, .inl (fun _ => 0))), (q3, .inl (cI, 12, .inl (fun _ => 0))), (q5, .inl (cI, 12, .inl (fun _ => 0))), (q7, .inl (cI, 12, .inl (fun _ => 0))), (q9, .inl (cI, 36, .inl (fun _ => 0))), (q11, .inl (cI, 12, .inl (fun _ => 0))), (q13, .inl (cI, 12, .inl (fun _ => 0))), (q15, .inl (cZ, 12, .inl (fun _ => 0))), (q17, .inl (cI, 12, .inl (fun _ => 0)))] := hD
  refine lv_aload_n hx hb d_Mo_init_76 rfl (lv_at hl 0 rfl) ?_
  refine lv_bipush (v := 24) hx hb d_Mo_init_77 (by decide) ?_
  refine va_newa (atype := .int) (a0 := (24, .inl (fun _ => 0))) (N' := 24) (ty := .int) hx hb (hts _ (List.mem_cons_of_mem _ tw_47)) rfl hK hP hD hS hA (fun _ => rfl) (by decide) (by decide) (by decide) (Nat.le_of_ble_eq_true rfl) (Nat.le_of_ble_eq_true rfl) d_Mo_init_79 (fun q19 cA20 H hK hP hD hS => ?_)
  obtain rfl : cI = cA20 := xsame (by intro C h; cases h) hK 0 2 rfl rfl
  have hK : va_K D cl [(cI, .int), (cZ, .boolean)] s := hK.sub [0, 1] rfl
  have hP : va_P D cl [(mo, .inr (6, [.int 0, .int 0, .ref q1, .ref q3, .ref q5, .ref q7, .ref q9, .ref q11, .ref q13, .ref q15, .ref q17, .int 0, .null, .null, .null, .null, .null, .null, .int 0, .null, .int 0, .int 0, .int 0, .null, .null, .null, .int 0, .int 0, .int 0, .int 0])), (q1, .inl (cI, 12, .inl (fun _ => 0))), (q3, .inl (cI, 12, .inl (fun _ => 0))), (q5, .inl (cI, 12, .inl (fun _ => 0))), (q7, .inl (cI, 12, .inl (fun _ => 0))), (q9, .inl (cI, 36, .inl (fun _ => 0))), (q11, .inl (cI, 12, .inl (fun _ => 0))), (q13, .inl (cI, 12, .inl (fun _ => 0))), (q15, .inl (cZ, 12, .inl (fun _ => 0))), (q17, .inl (cI, 12, .inl (fun _ => 0))), (q19, .inl (cI, 24, .inl (fun _ => 0)))] H := hP
  have hD : va_D A [(mo, .inr (6, [.int 0, .int 0, .ref q1, .ref q3, .ref q5, .ref q7, .ref q9, .ref q11, .ref q13, .ref q15, .ref q17, .int 0, .null, .null, .null, .null, .null, .null, .int 0, .null, .int 0, .int 0, .int 0, .null, .null, .null, .int 0, .int 0, .int 0, .int 0])), (q1, .inl (cI, 12, .inl (fun _ => 0))), (q3, .inl (cI, 12, .inl (fun _ => 0))), (q5, .inl (cI, 12, .inl (fun _ => 0))), (q7, .inl (cI, 12, .inl (fun _ => 0))), (q9, .inl (cI, 36, .inl (fun _ => 0))), (q11, .inl (cI, 12, .inl (fun _ => 0))), (q13, .inl (cI, 12, .inl (fun _ => 0))), (q15, .inl (cZ, 12, .inl (fun _ => 0))), (q17, .inl (cI, 12, .inl (fun _ => 0))), (q19, .inl (cI, 24, .inl (fun _ => 0)))] := hD
  refine va_putF (D := D) (ci := 6) (v := .ref q19) (ty := .array .int) (C := R_Mo) (T := F_Mo) (N := 30) hx hb hts (fun w h => List.mem_cons_of_mem _ (u_Mo w h)) t_Mo o_Mo n_Mo hown hK hP hD hS 0 rfl rfl 12 (by decide) (hts _ (List.mem_cons_of_mem _ tw_677)) (fun _ h9 => h9) rfl hnm rfl (by decide +kernel) rfl rfl (Nat.le_of_ble_eq_true rfl) d_Mo_init_81 (fun H locs hP hD hS => ?_)
  have hP : va_P D cl [(mo, .inr (6, [.int 0, .int 0, .ref q1, .ref q3, .ref q5, .ref q7, .ref q9, .ref q11, .ref q13, .ref q15, .ref q17, .int 0, .ref q19, .null, .null, .null, .null, .null, .int 0, .null, .int 0, .int 0, .int 0, .null, .null, .null, .int 0, .int 0, .int 0, .int 0])), (q1, .inl (cI, 12, .inl (fun _ => 0))), (q3, .inl (cI, 12, .inl (fun _ => 0))), (q5, .inl (cI, 12, .inl (fun _ => 0))), (q7, .inl (cI, 12, .inl (fun _ => 0))), (q9, .inl (cI, 36, .inl (fun _ => 0))), (q11, .inl (cI, 12, .inl (fun _ => 0))), (q13, .inl (cI, 12, .inl (fun _ => 0))), (q15, .inl (cZ, 12, .inl (fun _ => 0))), (q17, .inl (cI, 12, .inl (fun _ => 0))), (q19, .inl (cI, 24, .inl (fun _ => 0)))] H := hP
  have hD : va_D A [(mo, .inr (6, [.int 0, .int 0, .ref q1, .ref q3, .ref q5, .ref q7, .ref q9, .ref q11, .ref q13, .ref q15, .ref q17, .int 0, .ref q19, .null, .null, .null, .null, .null, .int 0, .null, .int 0, .int 0, .int 0, .null, .null, .null, .int 0, .int 0, .int 0, .int 0])), (q1, .inl (cI, 12, .inl (fun _ => 0))), (q3, .inl (cI, 12, .inl (fun _ => 0))), (q5, .inl (cI, 12, .inl (fun _ => 0))), (q7, .inl (cI, 12, .inl (fun _ => 0))), (q9, .inl (cI, 36, .inl (fun _ => 0))), (q11, .inl (cI, 12, .inl (fun _ => 0))), (q13, .inl (cI, 12, .inl (fun _ => 0))), (q15, .inl (cZ, 12, .inl (fun _ => 0))), (q17, .inl (cI, 12, .inl (fun _ => 0))), (q19, .inl (cI, 24, .inl (fun _ => 0)))] := hD
  refine lv_aload_n hx hb d_Mo_init_84 rfl (lv_at hl 0 rfl) ?_
  refine lv_bipush (v := 24) hx hb d_Mo_init_85 (by decide) ?_
  refine va_newa (atype := .int) (a0 := (24, .inl (fun _ => 0))) (N' := 24) (ty := .int) hx hb (hts _ (List.mem_cons_of_mem _ tw_47)) rfl hK hP hD hS hA (fun _ => rfl) (by decide) (by decide) (by decide) (Nat.le_of_ble_eq_true rfl) (Nat.le_of_ble_eq_true rfl) d_Mo_init_87 (fun q21 cA22 H hK hP hD hS => ?_)
  obtain rfl : cI = cA22 := xsame (by intro C h; cases h) hK 0 2 rfl rfl
  have hK : va_K D cl [(cI, .int), (cZ, .boolean)] s := hK.sub [0, 1] rfl
  have hP : va_P D cl [(mo, .inr (6, [.int 0, .int 0, .ref q1, .ref q3, .ref q5, .ref q7, .ref q9, .ref q11, .ref q13, .ref q15, .ref q17, .int 0, .ref q19, .null, .null, .null, .null, .null, .int 0, .null, .int 0, .int 0, .int 0, .null, .null, .null, .int 0, .int 0, .int 0, .int 0])), (q1, .inl (cI, 12, .inl (fun _ => 0))), (q3, .inl (cI, 12, .inl (fun _ => 0))), (q5, .inl (cI, 12, .inl (fun _ => 0))), (q7, .inl (cI, 12, .inl (fun _ => 0))), (q9, .inl (cI, 36, .inl (fun _ => 0))), (q11, .inl (cI, 12, .inl (fun _ => 0))), (q13, .inl (cI, 12, .inl (fun _ => 0))), (q15, .inl (cZ, 12, .inl (fun _ => 0))), (q17, .inl (cI, 12, .inl (fun _ => 0))), (q19, .inl (cI, 24, .inl (fun _ => 0))), (q21, .inl (cI, 24, .inl (fun _ => 0)))] H := hP
  have hD : va_D A [(mo, .inr (6, [.int 0, .int 0, .ref q1, .ref q3, .ref q5, .ref q7, .ref q9, .ref q11, .ref q13, .ref q15, .ref q17, .int 0, .ref q19, .null, .null, .null, .null, .null, .int 0, .null, .int 0, .int 0, .int 0, .null, .null, .null, .int 0, .int 0, .int 0, .int 0])), (q1, .inl (cI, 12, .inl (fun _ => 0))), (q3, .inl (cI, 12, .inl (fun _ => 0))), (q5, .inl (cI, 12, .inl (fun _ => 0))), (q7, .inl (cI, 12, .inl (fun _ => 0))), (q9, .inl (cI, 36, .inl (fun _ => 0))), (q11, .inl (cI, 12, .inl (fun _ => 0))), (q13, .inl (cI, 12, .inl (fun _ => 0))), (q15, .inl (cZ, 12, .inl (fun _ => 0))), (q17, .inl (cI, 12, .inl (fun _ => 0))), (q19, .inl (cI, 24, .inl (fun _ => 0))), (q21, .inl (cI, 24, .inl (fun _ => 0)))] := hD
  refine va_putF (D := D) (ci := 6) (v := .ref q21) (ty := .array .int) (C := R_Mo) (T := F_Mo) (N := 30) hx hb hts (fun w h => List.mem_cons_of_mem _ (u_Mo w h)) t_Mo o_Mo n_Mo hown hK hP hD hS 0 rfl rfl 13 (by decide) (hts _ (List.mem_cons_of_mem _ tw_678)) (fun _ h9 => h9) rfl hnm rfl (by decide +kernel) rfl rfl (Nat.le_of_ble_eq_true rfl) d_Mo_init_89 (fun H locs hP hD hS => ?_)
  have hP : va_P D cl [(mo, .inr (6, [.int 0, .int 0, .ref q1, .ref q3, .ref q5, .ref q7, .ref q9, .ref q11, .ref q13, .ref q15, .ref q17, .int 0, .ref q19, .ref q21, .null, .null, .null, .null, .int 0, .null, .int 0, .int 0, .int 0, .null, .null, .null, .int 0, .int 0, .int 0, .int 0])), (q1, .inl (cI, 12, .inl (fun _ => 0))), (q3, .inl (cI, 12, .inl (fun _ => 0))), (q5, .inl (cI, 12, .inl (fun _ => 0))), (q7, .inl (cI, 12, .inl (fun _ => 0))), (q9, .inl (cI, 36, .inl (fun _ => 0))), (q11, .inl (cI, 12, .inl (fun _ => 0))), (q13, .inl (cI, 12, .inl (fun _ => 0))), (q15, .inl (cZ, 12, .inl (fun _ => 0))), (q17, .inl (cI, 12, .inl (fun _ => 0))), (q19, .inl (cI, 24, .inl (fun _ => 0))), (q21, .inl (cI, 24, .inl (fun _ => 0)))] H := hP
  have hD : va_D A [(mo, .inr (6, [.int 0, .int 0, .ref q1, .ref q3, .ref q5, .ref q7, .ref q9, .ref q11, .ref q13, .ref q15, .ref q17, .int 0, .ref q19, .ref q21, .null, .null, .null, .null, .int 0, .null, .int 0, .int 0, .int 0, .null, .null, .null, .int 0, .int 0, .int 0, .int 0])), (q1, .inl (cI, 12, .inl (fun _ => 0))), (q3, .inl (cI, 12, .inl (fun _ => 0))), (q5, .inl (cI, 12, .inl (fun _ => 0))), (q7, .inl (cI, 12, .inl (fun _ => 0))), (q9, .inl (cI, 36, .inl (fun _ => 0))), (q11, .inl (cI, 12, .inl (fun _ => 0))), (q13, .inl (cI, 12, .inl (fun _ => 0))), (q15, .inl (cZ, 12, .inl (fun _ => 0))), (q17, .inl (cI, 12, .inl (fun _ => 0))), (q19, .inl (cI, 24, .inl (fun _ => 0))), (q21, .inl (cI, 24, .inl (fun _ => 0)))] := hD
  refine lv_aload_n hx hb d_Mo_init_92 rfl (lv_at hl 0 rfl) ?_
  refine lv_bipush (v := 24) hx hb d_Mo_init_93 (by decide) ?_
  refine va_newa (atype := .int) (a0 := (24, .inl (fun _ => 0))) (N' := 24) (ty := .int) hx hb (hts _ (List.mem_cons_of_mem _ tw_47)) rfl hK hP hD hS hA (fun _ => rfl) (by decide) (by decide) (by decide) (Nat.le_of_ble_eq_true rfl) (Nat.le_of_ble_eq_true rfl) d_Mo_init_95 (fun q23 cA24 H hK hP hD hS => ?_)
  obtain rfl : cI = cA24 := xsame (by intro C h; cases h) hK 0 2 rfl rfl
  have hK : va_K D cl [(cI, .int), (cZ, .boolean)] s := hK.sub [0, 1] rfl
  have hP : va_P D cl [(mo, .inr (6, [.int 0, .int 0, .ref q1, .ref q3, .ref q5, .ref q7, .ref q9, .ref q11, .ref q13, .ref q15, .ref q17, .int 0, .ref q19, .ref q21, .null, .null, .null, .null, .int 0, .null, .int 0, .int 0, .int 0, .null, .null, .null, .int 0, .int 0, .int 0, .int 0])), (q1, .inl (cI, 12, .inl (fun _ => 0))), (q3, .inl (cI, 12, .inl (fun _ => 0))), (q5, .inl (cI, 12, .inl (fun _ => 0))), (q7, .inl (cI, 12, .inl (fun _ => 0))), (q9, .inl (cI, 36, .inl (fun _ => 0))), (q11, .inl (cI, 12, .inl (fun _ => 0))), (q13, .inl (cI, 12, .inl (fun _ => 0))), (q15, .inl (cZ, 12, .inl (fun _ => 0))), (q17, .inl (cI, 12, .inl (fun _ => 0))), (q19, .inl (cI, 24, .inl (fun _ => 0))), (q21, .inl (cI, 24, .inl (fun _ => 0))), (q23, .inl (cI, 24, .inl (fun _ => 0)))] H := hP
  have hD : va_D A [(mo, .inr (6, [.int 0, .int 0, .ref q1, .ref q3, .ref q5, .ref q7, .ref q9, .ref q11, .ref q13, .ref q15, .ref q17, .int 0, .ref q19, .ref q21, .null, .null, .null, .null, .int 0, .null, .int 0, .int 0, .int 0, .null, .null, .null, .int 0, .int 0, .int 0, .int 0])), (q1, .inl (cI, 12, .inl (fun _ => 0))), (q3, .inl (cI, 12, .inl (fun _ => 0))), (q5, .inl (cI, 12, .inl (fun _ => 0))), (q7, .inl (cI, 12, .inl (fun _ => 0))), (q9, .inl (cI, 36, .inl (fun _ => 0))), (q11, .inl (cI, 12, .inl (fun _ => 0))), (q13, .inl (cI, 12, .inl (fun _ => 0))), (q15, .inl (cZ, 12, .inl (fun _ => 0))), (q17, .inl (cI, 12, .inl (fun _ => 0))), (q19, .inl (cI, 24, .inl (fun _ => 0))), (q21, .inl (cI, 24, .inl (fun _ => 0))), (q23, .inl (cI, 24, .inl (fun _ => 0)))] := hD
  refine va_putF (D := D) (ci := 6) (v := .ref q23) (ty := .array .int) (C := R_Mo) (T := F_Mo) (N := 30) hx hb hts (fun w h => List.mem_cons_of_mem _ (u_Mo w h)) t_Mo o_Mo n_Mo hown hK hP hD hS 0 rfl rfl 14 (by decide) (hts _ (List.mem_cons_of_mem _ tw_679)) (fun _ h9 => h9) rfl hnm rfl (by decide +kernel) rfl rfl (Nat.le_of_ble_eq_true rfl) d_Mo_init_97 (fun H locs hP hD hS => ?_)
  have hP : va_P D cl [(mo, .inr (6, [.int 0, .int 0, .ref q1, .ref q3, .ref q5, .ref q7, .ref q9, .ref q11, .ref q13, .ref q15, .ref q17, .int 0, .ref q19, .ref q21, .ref q23, .null, .null, .null, .int 0, .null, .int 0, .int 0, .int 0, .null, .null, .null, .int 0, .int 0, .int 0, .int 0])), (q1, .inl (cI, 12, .inl (fun _ => 0))), (q3, .inl (cI, 12, .inl (fun _ => 0))), (q5, .inl (cI, 12, .inl (fun _ => 0))), (q7, .inl (cI, 12, .inl (fun _ => 0))), (q9, .inl (cI, 36, .inl (fun _ => 0))), (q11, .inl (cI, 12, .inl (fun _ => 0))), (q13, .inl (cI, 12, .inl (fun _ => 0))), (q15, .inl (cZ, 12, .inl (fun _ => 0))), (q17, .inl (cI, 12, .inl (fun _ => 0))), (q19, .inl (cI, 24, .inl (fun _ => 0))), (q21, .inl (cI, 24, .inl (fun _ => 0))), (q23, .inl (cI, 24, .inl (fun _ => 0)))] H := hP
  have hD : va_D A [(mo, .inr (6, [.int 0, .int 0, .ref q1, .ref q3, .ref q5, .ref q7, .ref q9, .ref q11, .ref q13, .ref q15, .ref q17, .int 0, .ref q19, .ref q21, .ref q23, .null, .null, .null, .int 0, .null, .int 0, .int 0, .int 0, .null, .null, .null, .int 0, .int 0, .int 0, .int 0])), (q1, .inl (cI, 12, .inl (fun _ => 0))), (q3, .inl (cI, 12, .inl (fun _ => 0))), (q5, .inl (cI, 12, .inl (fun _ => 0))), (q7, .inl (cI, 12, .inl (fun _ => 0))), (q9, .inl (cI, 36, .inl (fun _ => 0))), (q11, .inl (cI, 12, .inl (fun _ => 0))), (q13, .inl (cI, 12, .inl (fun _ => 0))), (q15, .inl (cZ, 12, .inl (fun _ => 0))), (q17, .inl (cI, 12, .inl (fun _ => 0))), (q19, .inl (cI, 24, .inl (fun _ => 0))), (q21, .inl (cI, 24, .inl (fun _ => 0))), (q23, .inl (cI, 24, .inl (fun _ => 0)))] := hD
  refine lv_aload_n hx hb d_Mo_init_100 rfl (lv_at hl 0 rfl) ?_
  refine lv_bipush (v := 24) hx hb d_Mo_init_101 (by decide) ?_
  refine va_newa (atype := .boolean) (a0 := (24, .inl (fun _ => 0))) (N' := 24) (ty := .boolean) hx hb (hts _ (List.mem_cons_of_mem _ tw_95)) rfl hK hP hD hS hA (fun _ => rfl) (by decide) (by decide) (by decide) (Nat.le_of_ble_eq_true rfl) (Nat.le_of_ble_eq_true rfl) d_Mo_init_103 (fun q25 cA26 H hK hP hD hS => ?_)
  obtain rfl : cZ = cA26 := xsame (by intro C h; cases h) hK 1 2 rfl rfl
  have hK : va_K D cl [(cI, .int), (cZ, .boolean)] s := hK.sub [0, 1] rfl
  have hP : va_P D cl [(mo, .inr (6, [.int 0, .int 0, .ref q1, .ref q3, .ref q5, .ref q7, .ref q9, .ref q11, .ref q13, .ref q15, .ref q17, .int 0, .ref q19, .ref q21, .ref q23, .null, .null, .null, .int 0, .null, .int 0, .int 0, .int 0, .null, .null, .null, .int 0, .int 0, .int 0, .int 0])), (q1, .inl (cI, 12, .inl (fun _ => 0))), (q3, .inl (cI, 12, .inl (fun _ => 0))), (q5, .inl (cI, 12, .inl (fun _ => 0))), (q7, .inl (cI, 12, .inl (fun _ => 0))), (q9, .inl (cI, 36, .inl (fun _ => 0))), (q11, .inl (cI, 12, .inl (fun _ => 0))), (q13, .inl (cI, 12, .inl (fun _ => 0))), (q15, .inl (cZ, 12, .inl (fun _ => 0))), (q17, .inl (cI, 12, .inl (fun _ => 0))), (q19, .inl (cI, 24, .inl (fun _ => 0))), (q21, .inl (cI, 24, .inl (fun _ => 0))), (q23, .inl (cI, 24, .inl (fun _ => 0))), (q25, .inl (cZ, 24, .inl (fun _ => 0)))] H := hP
  have hD : va_D A [(mo, .inr (6, [.int 0, .int 0, .ref q1, .ref q3, .ref q5, .ref q7, .ref q9, .ref q11, .ref q13, .ref q15, .ref q17, .int 0, .ref q19, .ref q21, .ref q23, .null, .null, .null, .int 0, .null, .int 0, .int 0, .int 0, .null, .null, .null, .int 0, .int 0, .int 0, .int 0])), (q1, .inl (cI, 12, .inl (fun _ => 0))), (q3, .inl (cI, 12, .inl (fun _ => 0))), (q5, .inl (cI, 12, .inl (fun _ => 0))), (q7, .inl (cI, 12, .inl (fun _ => 0))), (q9, .inl (cI, 36, .inl (fun _ => 0))), (q11, .inl (cI, 12, .inl (fun _ => 0))), (q13, .inl (cI, 12, .inl (fun _ => 0))), (q15, .inl (cZ, 12, .inl (fun _ => 0))), (q17, .inl (cI, 12, .inl (fun _ => 0))), (q19, .inl (cI, 24, .inl (fun _ => 0))), (q21, .inl (cI, 24, .inl (fun _ => 0))), (q23, .inl (cI, 24, .inl (fun _ => 0))), (q25, .inl (cZ, 24, .inl (fun _ => 0)))] := hD
  refine va_putF (D := D) (ci := 6) (v := .ref q25) (ty := .array .boolean) (C := R_Mo) (T := F_Mo) (N := 30) hx hb hts (fun w h => List.mem_cons_of_mem _ (u_Mo w h)) t_Mo o_Mo n_Mo hown hK hP hD hS 0 rfl rfl 15 (by decide) (hts _ (List.mem_cons_of_mem _ tw_680)) (fun _ h9 => h9) rfl hnm rfl (by decide +kernel) rfl rfl (Nat.le_of_ble_eq_true rfl) d_Mo_init_105 (fun H locs hP hD hS => ?_)
  have hP : va_P D cl [(mo, .inr (6, [.int 0, .int 0, .ref q1, .ref q3, .ref q5, .ref q7, .ref q9, .ref q11, .ref q13, .ref q15, .ref q17, .int 0, .ref q19, .ref q21, .ref q23, .ref q25, .null, .null, .int 0, .null, .int 0, .int 0, .int 0, .null, .null, .null, .int 0, .int 0, .int 0, .int 0])), (q1, .inl (cI, 12, .inl (fun _ => 0))), (q3, .inl (cI, 12, .inl (fun _ => 0))), (q5, .inl (cI, 12, .inl (fun _ => 0))), (q7, .inl (cI, 12, .inl (fun _ => 0))), (q9, .inl (cI, 36, .inl (fun _ => 0))), (q11, .inl (cI, 12, .inl (fun _ => 0))), (q13, .inl (cI, 12, .inl (fun _ => 0))), (q15, .inl (cZ, 12, .inl (fun _ => 0))), (q17, .inl (cI, 12, .inl (fun _ => 0))), (q19, .inl (cI, 24, .inl (fun _ => 0))), (q21, .inl (cI, 24, .inl (fun _ => 0))), (q23, .inl (cI, 24, .inl (fun _ => 0))), (q25, .inl (cZ, 24, .inl (fun _ => 0)))] H := hP
  have hD : va_D A [(mo, .inr (6, [.int 0, .int 0, .ref q1, .ref q3, .ref q5, .ref q7, .ref q9, .ref q11, .ref q13, .ref q15, .ref q17, .int 0, .ref q19, .ref q21, .ref q23, .ref q25, .null, .null, .int 0, .null, .int 0, .int 0, .int 0, .null, .null, .null, .int 0, .int 0, .int 0, .int 0])), (q1, .inl (cI, 12, .inl (fun _ => 0))), (q3, .inl (cI, 12, .inl (fun _ => 0))), (q5, .inl (cI, 12, .inl (fun _ => 0))), (q7, .inl (cI, 12, .inl (fun _ => 0))), (q9, .inl (cI, 36, .inl (fun _ => 0))), (q11, .inl (cI, 12, .inl (fun _ => 0))), (q13, .inl (cI, 12, .inl (fun _ => 0))), (q15, .inl (cZ, 12, .inl (fun _ => 0))), (q17, .inl (cI, 12, .inl (fun _ => 0))), (q19, .inl (cI, 24, .inl (fun _ => 0))), (q21, .inl (cI, 24, .inl (fun _ => 0))), (q23, .inl (cI, 24, .inl (fun _ => 0))), (q25, .inl (cZ, 24, .inl (fun _ => 0)))] := hD
  refine lv_aload_n hx hb d_Mo_init_108 rfl (lv_at hl 0 rfl) ?_
  refine lv_bipush (v := 24) hx hb d_Mo_init_109 (by decide) ?_
  refine va_newa (atype := .int) (a0 := (24, .inl (fun _ => 0))) (N' := 24) (ty := .int) hx hb (hts _ (List.mem_cons_of_mem _ tw_47)) rfl hK hP hD hS hA (fun _ => rfl) (by decide) (by decide) (by decide) (Nat.le_of_ble_eq_true rfl) (Nat.le_of_ble_eq_true rfl) d_Mo_init_111 (fun q27 cA28 H hK hP hD hS => ?_)
  obtain rfl : cI = cA28 := xsame (by intro C h; cases h) hK 0 2 rfl rfl
  have hK : va_K D cl [(cI, .int), (cZ, .boolean)] s := hK.sub [0, 1] rfl
  have hP : va_P D cl [(mo, .inr (6, [.int 0, .int 0, .ref q1, .ref q3, .ref q5, .ref q7, .ref q9, .ref q11, .ref q13, .ref q15, .ref q17, .int 0, .ref q19, .ref q21, .ref q23, .ref q25, .null, .null, .int 0, .null, .int 0, .int 0, .int 0, .null, .null, .null, .int 0, .int 0, .int 0, .int 0])), (q1, .inl (cI, 12, .inl (fun _ => 0))), (q3, .inl (cI, 12, .inl (fun _ => 0))), (q5, .inl (cI, 12, .inl (fun _ => 0))), (q7, .inl (cI, 12, .inl (fun _ => 0))), (q9, .inl (cI, 36, .inl (fun _ => 0))), (q11, .inl (cI, 12, .inl (fun _ => 0))), (q13, .inl (cI, 12, .inl (fun _ => 0))), (q15, .inl (cZ, 12, .inl (fun _ => 0))), (q17, .inl (cI, 12, .inl (fun _ => 0))), (q19, .inl (cI, 24, .inl (fun _ => 0))), (q21, .inl (cI, 24, .inl (fun _ => 0))), (q23, .inl (cI, 24, .inl (fun _ => 0))), (q25, .inl (cZ, 24, .inl (fun _ => 0))), (q27, .inl (cI, 24, .inl (fun _ => 0)))] H := hP
  have hD : va_D A [(mo, .inr (6, [.int 0, .int 0, .ref q1, .ref q3, .ref q5, .ref q7, .ref q9, .ref q11, .ref q13, .ref q15, .ref q17, .int 0, .ref q19, .ref q21, .ref q23, .ref q25, .null, .null, .int 0, .null, .int 0, .int 0, .int 0, .null, .null, .null, .int 0, .int 0, .int 0, .int 0])), (q1, .inl (cI, 12, .inl (fun _ => 0))), (q3, .inl (cI, 12, .inl (fun _ => 0))), (q5, .inl (cI, 12, .inl (fun _ => 0))), (q7, .inl (cI, 12, .inl (fun _ => 0))), (q9, .inl (cI, 36, .inl (fun _ => 0))), (q11, .inl (cI, 12, .inl (fun _ => 0))), (q13, .inl (cI, 12, .inl (fun _ => 0))), (q15, .inl (cZ, 12, .inl (fun _ => 0))), (q17, .inl (cI, 12, .inl (fun _ => 0))), (q19, .inl (cI, 24, .inl (fun _ => 0))), (q21, .inl (cI, 24, .inl (fun _ => 0))), (q23, .inl (cI, 24, .inl (fun _ => 0))), (q25, .inl (cZ, 24, .inl (fun _ => 0))), (q27, .inl (cI, 24, .inl (fun _ => 0)))] := hD
  refine va_putF (D := D) (ci := 6) (v := .ref q27) (ty := .array .int) (C := R_Mo) (T := F_Mo) (N := 30) hx hb hts (fun w h => List.mem_cons_of_mem _ (u_Mo w h)) t_Mo o_Mo n_Mo hown hK hP hD hS 0 rfl rfl 16 (by decide) (hts _ (List.mem_cons_of_mem _ tw_681)) (fun _ h9 => h9) rfl hnm rfl (by decide +kernel) rfl rfl (Nat.le_of_ble_eq_true rfl) d_Mo_init_113 (fun H locs hP hD hS => ?_)
  have hP : va_P D cl [(mo, .inr (6, [.int 0, .int 0, .ref q1, .ref q3, .ref q5, .ref q7, .ref q9, .ref q11, .ref q13, .ref q15, .ref q17, .int 0, .ref q19, .ref q21, .ref q23, .ref q25, .ref q27, .null, .int 0, .null, .int 0, .int 0, .int 0, .null, .null, .null, .int 0, .int 0, .int 0, .int 0])), (q1, .inl (cI, 12, .inl (fun _ => 0))), (q3, .inl (cI, 12, .inl (fun _ => 0))), (q5, .inl (cI, 12, .inl (fun _ => 0))), (q7, .inl (cI, 12, .inl (fun _ => 0))), (q9, .inl (cI, 36, .inl (fun _ => 0))), (q11, .inl (cI, 12, .inl (fun _ => 0))), (q13, .inl (cI, 12, .inl (fun _ => 0))), (q15, .inl (cZ, 12, .inl (fun _ => 0))), (q17, .inl (cI, 12, .inl (fun _ => 0))), (q19, .inl (cI, 24, .inl (fun _ => 0))), (q21, .inl (cI, 24, .inl (fun _ => 0))), (q23, .inl (cI, 24, .inl (fun _ => 0))), (q25, .inl (cZ, 24, .inl (fun _ => 0))), (q27, .inl (cI, 24, .inl (fun _ => 0)))] H := hP
  have hD : va_D A [(mo, .inr (6, [.int 0, .int 0, .ref q1, .ref q3, .ref q5, .ref q7, .ref q9, .ref q11, .ref q13, .ref q15, .ref q17, .int 0, .ref q19, .ref q21, .ref q23, .ref q25, .ref q27, .null, .int 0, .null, .int 0, .int 0, .int 0, .null, .null, .null, .int 0, .int 0, .int 0, .int 0])), (q1, .inl (cI, 12, .inl (fun _ => 0))), (q3, .inl (cI, 12, .inl (fun _ => 0))), (q5, .inl (cI, 12, .inl (fun _ => 0))), (q7, .inl (cI, 12, .inl (fun _ => 0))), (q9, .inl (cI, 36, .inl (fun _ => 0))), (q11, .inl (cI, 12, .inl (fun _ => 0))), (q13, .inl (cI, 12, .inl (fun _ => 0))), (q15, .inl (cZ, 12, .inl (fun _ => 0))), (q17, .inl (cI, 12, .inl (fun _ => 0))), (q19, .inl (cI, 24, .inl (fun _ => 0))), (q21, .inl (cI, 24, .inl (fun _ => 0))), (q23, .inl (cI, 24, .inl (fun _ => 0))), (q25, .inl (cZ, 24, .inl (fun _ => 0))), (q27, .inl (cI, 24, .inl (fun _ => 0)))] := hD
  refine lv_aload_n hx hb d_Mo_init_116 rfl (lv_at hl 0 rfl) ?_
  refine lv_bipush (v := 24) hx hb d_Mo_init_117 (by decide) ?_
  refine va_newa (atype := .int) (a0 := (24, .inl (fun _ => 0))) (N' := 24) (ty := .int) hx hb (hts _ (List.mem_cons_of_mem _ tw_47)) rfl hK hP hD hS hA (fun _ => rfl) (by decide) (by decide) (by decide) (Nat.le_of_ble_eq_true rfl) (Nat.le_of_ble_eq_true rfl) d_Mo_init_119 (fun q29 cA30 H hK hP hD hS => ?_)
  obtain rfl : cI = cA30 := xsame (by intro C h; cases h) hK 0 2 rfl rfl
  have hK : va_K D cl [(cI, .int), (cZ, .boolean)] s := hK.sub [0, 1] rfl
  have hP : va_P D cl [(mo, .inr (6, [.int 0, .int 0, .ref q1, .ref q3, .ref q5, .ref q7, .ref q9, .ref q11, .ref q13, .ref q15, .ref q17, .int 0, .ref q19, .ref q21, .ref q23, .ref q25, .ref q27, .null, .int 0, .null, .int 0, .int 0, .int 0, .null, .null, .null, .int 0, .int 0, .int 0, .int 0])), (q1, .inl (cI, 12, .inl (fun _ => 0))), (q3, .inl (cI, 12, .inl (fun _ => 0))), (q5, .inl (cI, 12, .inl (fun _ => 0))), (q7, .inl (cI, 12, .inl (fun _ => 0))), (q9, .inl (cI, 36, .inl (fun _ => 0))), (q11, .inl (cI, 12, .inl (fun _ => 0))), (q13, .inl (cI, 12, .inl (fun _ => 0))), (q15, .inl (cZ, 12, .inl (fun _ => 0))), (q17, .inl (cI, 12, .inl (fun _ => 0))), (q19, .inl (cI, 24, .inl (fun _ => 0))), (q21, .inl (cI, 24, .inl (fun _ => 0))), (q23, .inl (cI, 24, .inl (fun _ => 0))), (q25, .inl (cZ, 24, .inl (fun _ => 0))), (q27, .inl (cI, 24, .inl (fun _ => 0))), (q29, .inl (cI, 24, .inl (fun _ => 0)))] H := hP
  have hD : va_D A [(mo, .inr (6, [.int 0, .int 0, .ref q1, .ref q3, .ref q5, .ref q7, .ref q9, .ref q11, .ref q13, .ref q15, .ref q17, .int 0, .ref q19, .ref q21, .ref q23, .ref q25, .ref q27, .null, .int 0, .null, .int 0, .int 0, .int 0, .null, .null, .null, .int 0, .int 0, .int 0, .int 0])), (q1, .inl (cI, 12, .inl (fun _ => 0))), (q3, .inl (cI, 12, .inl (fun _ => 0))), (q5, .inl (cI, 12, .inl (fun _ => 0))), (q7, .inl (cI, 12, .inl (fun _ => 0))), (q9, .inl (cI, 36, .inl (fun _ => 0))), (q11, .inl (cI, 12, .inl (fun _ => 0))), (q13, .inl (cI, 12, .inl (fun _ => 0))), (q15, .inl (cZ, 12, .inl (fun _ => 0))), (q17, .inl (cI, 12, .inl (fun _ => 0))), (q19, .inl (cI, 24, .inl (fun _ => 0))), (q21, .inl (cI, 24, .inl (fun _ => 0))), (q23, .inl (cI, 24, .inl (fun _ => 0))), (q25, .inl (cZ, 24, .inl (fun _ => 0))), (q27, .inl (cI, 24, .inl (fun _ => 0))), (q29, .inl (cI, 24, .inl (fun _ => 0)))] := hD
  refine va_putF (D := D) (ci := 6) (v := .ref q29) (ty := .array .int) (C := R_Mo) (T := F_Mo) (N := 30) hx hb hts (fun w h => List.mem_cons_of_mem _ (u_Mo w h)) t_Mo o_Mo n_Mo hown hK hP hD hS 0 rfl rfl 17 (by decide) (hts _ (List.mem_cons_of_mem _ tw_682)) (fun _ h9 => h9) rfl hnm rfl (by decide +kernel) rfl rfl (Nat.le_of_ble_eq_true rfl) d_Mo_init_121 (fun H locs hP hD hS => ?_)
  have hP : va_P D cl [(mo, .inr (6, [.int 0, .int 0, .ref q1, .ref q3, .ref q5, .ref q7, .ref q9, .ref q11, .ref q13, .ref q15, .ref q17, .int 0, .ref q19, .ref q21, .ref q23, .ref q25, .ref q27, .ref q29, .int 0, .null, .int 0, .int 0, .int 0, .null, .null, .null, .int 0, .int 0, .int 0, .int 0])), (q1, .inl (cI, 12, .inl (fun _ => 0))), (q3, .inl (cI, 12, .inl (fun _ => 0))), (q5, .inl (cI, 12, .inl (fun _ => 0))), (q7, .inl (cI, 12, .inl (fun _ => 0))), (q9, .inl (cI, 36, .inl (fun _ => 0))), (q11, .inl (cI, 12, .inl (fun _ => 0))), (q13, .inl (cI, 12, .inl (fun _ => 0))), (q15, .inl (cZ, 12, .inl (fun _ => 0))), (q17, .inl (cI, 12, .inl (fun _ => 0))), (q19, .inl (cI, 24, .inl (fun _ => 0))), (q21, .inl (cI, 24, .inl (fun _ => 0))), (q23, .inl (cI, 24, .inl (fun _ => 0))), (q25, .inl (cZ, 24, .inl (fun _ => 0))), (q27, .inl (cI, 24, .inl (fun _ => 0))), (q29, .inl (cI, 24, .inl (fun _ => 0)))] H := hP
  have hD : va_D A [(mo, .inr (6, [.int 0, .int 0, .ref q1, .ref q3, .ref q5, .ref q7, .ref q9, .ref q11, .ref q13, .ref q15, .ref q17, .int 0, .ref q19, .ref q21, .ref q23, .ref q25, .ref q27, .ref q29, .int 0, .null, .int 0, .int 0, .int 0, .null, .null, .null, .int 0, .int 0, .int 0, .int 0])), (q1, .inl (cI, 12, .inl (fun _ => 0))), (q3, .inl (cI, 12, .inl (fun _ => 0))), (q5, .inl (cI, 12, .inl (fun _ => 0))), (q7, .inl (cI, 12, .inl (fun _ => 0))), (q9, .inl (cI, 36, .inl (fun _ => 0))), (q11, .inl (cI, 12, .inl (fun _ => 0))), (q13, .inl (cI, 12, .inl (fun _ => 0))), (q15, .inl (cZ, 12, .inl (fun _ => 0))), (q17, .inl (cI, 12, .inl (fun _ => 0))), (q19, .inl (cI, 24, .inl (fun _ => 0))), (q21, .inl (cI, 24, .inl (fun _ => 0))), (q23, .inl (cI, 24, .inl (fun _ => 0))), (q25, .inl (cZ, 24, .inl (fun _ => 0))), (q27, .inl (cI, 24, .inl (fun _ => 0))), (q29, .inl (cI, 24, .inl (fun _ => 0)))] := hD
  refine lv_aload_n hx hb d_Mo_init_124 rfl (lv_at hl 0 rfl) ?_
  refine lv_sipush (v := 400) hx hb d_Mo_init_125 (by decide) ?_
  refine va_newa (atype := .int) (a0 := (400, .inl (fun _ => 0))) (N' := 400) (ty := .int) hx hb (hts _ (List.mem_cons_of_mem _ tw_47)) rfl hK hP hD hS hA (fun _ => rfl) (by decide) (by decide) (by decide) (Nat.le_of_ble_eq_true rfl) (Nat.le_of_ble_eq_true rfl) d_Mo_init_128 (fun q31 cA32 H hK hP hD hS => ?_)
  obtain rfl : cI = cA32 := xsame (by intro C h; cases h) hK 0 2 rfl rfl
  have hK : va_K D cl [(cI, .int), (cZ, .boolean)] s := hK.sub [0, 1] rfl
  have hP : va_P D cl [(mo, .inr (6, [.int 0, .int 0, .ref q1, .ref q3, .ref q5, .ref q7, .ref q9, .ref q11, .ref q13, .ref q15, .ref q17, .int 0, .ref q19, .ref q21, .ref q23, .ref q25, .ref q27, .ref q29, .int 0, .null, .int 0, .int 0, .int 0, .null, .null, .null, .int 0, .int 0, .int 0, .int 0])), (q1, .inl (cI, 12, .inl (fun _ => 0))), (q3, .inl (cI, 12, .inl (fun _ => 0))), (q5, .inl (cI, 12, .inl (fun _ => 0))), (q7, .inl (cI, 12, .inl (fun _ => 0))), (q9, .inl (cI, 36, .inl (fun _ => 0))), (q11, .inl (cI, 12, .inl (fun _ => 0))), (q13, .inl (cI, 12, .inl (fun _ => 0))), (q15, .inl (cZ, 12, .inl (fun _ => 0))), (q17, .inl (cI, 12, .inl (fun _ => 0))), (q19, .inl (cI, 24, .inl (fun _ => 0))), (q21, .inl (cI, 24, .inl (fun _ => 0))), (q23, .inl (cI, 24, .inl (fun _ => 0))), (q25, .inl (cZ, 24, .inl (fun _ => 0))), (q27, .inl (cI, 24, .inl (fun _ => 0))), (q29, .inl (cI, 24, .inl (fun _ => 0))), (q31, .inl (cI, 400, .inl (fun _ => 0)))] H := hP
  have hD : va_D A [(mo, .inr (6, [.int 0, .int 0, .ref q1, .ref q3, .ref q5, .ref q7, .ref q9, .ref q11, .ref q13, .ref q15, .ref q17, .int 0, .ref q19, .ref q21, .ref q23, .ref q25, .ref q27, .ref q29, .int 0, .null, .int 0, .int 0, .int 0, .null, .null, .null, .int 0, .int 0, .int 0, .int 0])), (q1, .inl (cI, 12, .inl (fun _ => 0))), (q3, .inl (cI, 12, .inl (fun _ => 0))), (q5, .inl (cI, 12, .inl (fun _ => 0))), (q7, .inl (cI, 12, .inl (fun _ => 0))), (q9, .inl (cI, 36, .inl (fun _ => 0))), (q11, .inl (cI, 12, .inl (fun _ => 0))), (q13, .inl (cI, 12, .inl (fun _ => 0))), (q15, .inl (cZ, 12, .inl (fun _ => 0))), (q17, .inl (cI, 12, .inl (fun _ => 0))), (q19, .inl (cI, 24, .inl (fun _ => 0))), (q21, .inl (cI, 24, .inl (fun _ => 0))), (q23, .inl (cI, 24, .inl (fun _ => 0))), (q25, .inl (cZ, 24, .inl (fun _ => 0))), (q27, .inl (cI, 24, .inl (fun _ => 0))), (q29, .inl (cI, 24, .inl (fun _ => 0))), (q31, .inl (cI, 400, .inl (fun _ => 0)))] := hD
  refine va_putF (D := D) (ci := 6) (v := .ref q31) (ty := .array .int) (C := R_Mo) (T := F_Mo) (N := 30) hx hb hts (fun w h => List.mem_cons_of_mem _ (u_Mo w h)) t_Mo o_Mo n_Mo hown hK hP hD hS 0 rfl rfl 19 (by decide) (hts _ (List.mem_cons_of_mem _ tw_684)) (fun _ h9 => h9) rfl hnm rfl (by decide +kernel) rfl rfl (Nat.le_of_ble_eq_true rfl) d_Mo_init_130 (fun H locs hP hD hS => ?_)
  have hP : va_P D cl [(mo, .inr (6, [.int 0, .int 0, .ref q1, .ref q3, .ref q5, .ref q7, .ref q9, .ref q11, .ref q13, .ref q15, .ref q17, .int 0, .ref q19, .ref q21, .ref q23, .ref q25, .ref q27, .ref q29, .int 0, .ref q31, .int 0, .int 0, .int 0, .null, .null, .null, .int 0, .int 0, .int 0, .int 0])), (q1, .inl (cI, 12, .inl (fun _ => 0))), (q3, .inl (cI, 12, .inl (fun _ => 0))), (q5, .inl (cI, 12, .inl (fun _ => 0))), (q7, .inl (cI, 12, .inl (fun _ => 0))), (q9, .inl (cI, 36, .inl (fun _ => 0))), (q11, .inl (cI, 12, .inl (fun _ => 0))), (q13, .inl (cI, 12, .inl (fun _ => 0))), (q15, .inl (cZ, 12, .inl (fun _ => 0))), (q17, .inl (cI, 12, .inl (fun _ => 0))), (q19, .inl (cI, 24, .inl (fun _ => 0))), (q21, .inl (cI, 24, .inl (fun _ => 0))), (q23, .inl (cI, 24, .inl (fun _ => 0))), (q25, .inl (cZ, 24, .inl (fun _ => 0))), (q27, .inl (cI, 24, .inl (fun _ => 0))), (q29, .inl (cI, 24, .inl (fun _ => 0))), (q31, .inl (cI, 400, .inl (fun _ => 0)))] H := hP
  have hD : va_D A [(mo, .inr (6, [.int 0, .int 0, .ref q1, .ref q3, .ref q5, .ref q7, .ref q9, .ref q11, .ref q13, .ref q15, .ref q17, .int 0, .ref q19, .ref q21, .ref q23, .ref q25, .ref q27, .ref q29, .int 0, .ref q31, .int 0, .int 0, .int 0, .null, .null, .null, .int 0, .int 0, .int 0, .int 0])), (q1, .inl (cI, 12, .inl (fun _ => 0))), (q3, .inl (cI, 12, .inl (fun _ => 0))), (q5, .inl (cI, 12, .inl (fun _ => 0))), (q7, .inl (cI, 12, .inl (fun _ => 0))), (q9, .inl (cI, 36, .inl (fun _ => 0))), (q11, .inl (cI, 12, .inl (fun _ => 0))), (q13, .inl (cI, 12, .inl (fun _ => 0))), (q15, .inl (cZ, 12, .inl (fun _ => 0))), (q17, .inl (cI, 12, .inl (fun _ => 0))), (q19, .inl (cI, 24, .inl (fun _ => 0))), (q21, .inl (cI, 24, .inl (fun _ => 0))), (q23, .inl (cI, 24, .inl (fun _ => 0))), (q25, .inl (cZ, 24, .inl (fun _ => 0))), (q27, .inl (cI, 24, .inl (fun _ => 0))), (q29, .inl (cI, 24, .inl (fun _ => 0))), (q31, .inl (cI, 400, .inl (fun _ => 0)))] := hD
  refine lv_aload_n hx hb d_Mo_init_133 rfl (lv_at hl 0 rfl) ?_
  refine lv_iconst (v := 1) hx hb d_Mo_init_134 (by decide) ?_
  refine va_put (D := D) (ci := 6) (v := .int 1) (ty := .int) (C := R_Mo) (T := F_Mo) (N := 30) hx hb hts (fun w h => List.mem_cons_of_mem _ (u_Mo w h)) t_Mo o_Mo n_Mo hown hK hP hD hS 0 rfl rfl 20 (by decide) (hts _ (List.mem_cons_of_mem _ tw_685)) (fun _ h9 => h9) rfl (by decide +kernel) rfl rfl (Nat.le_of_ble_eq_true rfl) d_Mo_init_135 (fun H locs hP hD hS => ?_)
  have hP : va_P D cl [(mo, .inr (6, [.int 0, .int 0, .ref q1, .ref q3, .ref q5, .ref q7, .ref q9, .ref q11, .ref q13, .ref q15, .ref q17, .int 0, .ref q19, .ref q21, .ref q23, .ref q25, .ref q27, .ref q29, .int 0, .ref q31, .int 1, .int 0, .int 0, .null, .null, .null, .int 0, .int 0, .int 0, .int 0])), (q1, .inl (cI, 12, .inl (fun _ => 0))), (q3, .inl (cI, 12, .inl (fun _ => 0))), (q5, .inl (cI, 12, .inl (fun _ => 0))), (q7, .inl (cI, 12, .inl (fun _ => 0))), (q9, .inl (cI, 36, .inl (fun _ => 0))), (q11, .inl (cI, 12, .inl (fun _ => 0))), (q13, .inl (cI, 12, .inl (fun _ => 0))), (q15, .inl (cZ, 12, .inl (fun _ => 0))), (q17, .inl (cI, 12, .inl (fun _ => 0))), (q19, .inl (cI, 24, .inl (fun _ => 0))), (q21, .inl (cI, 24, .inl (fun _ => 0))), (q23, .inl (cI, 24, .inl (fun _ => 0))), (q25, .inl (cZ, 24, .inl (fun _ => 0))), (q27, .inl (cI, 24, .inl (fun _ => 0))), (q29, .inl (cI, 24, .inl (fun _ => 0))), (q31, .inl (cI, 400, .inl (fun _ => 0)))] H := hP
  have hD : va_D A [(mo, .inr (6, [.int 0, .int 0, .ref q1, .ref q3, .ref q5, .ref q7, .ref q9, .ref q11, .ref q13, .ref q15, .ref q17, .int 0, .ref q19, .ref q21, .ref q23, .ref q25, .ref q27, .ref q29, .int 0, .ref q31, .int 1, .int 0, .int 0, .null, .null, .null, .int 0, .int 0, .int 0, .int 0])), (q1, .inl (cI, 12, .inl (fun _ => 0))), (q3, .inl (cI, 12, .inl (fun _ => 0))), (q5, .inl (cI, 12, .inl (fun _ => 0))), (q7, .inl (cI, 12, .inl (fun _ => 0))), (q9, .inl (cI, 36, .inl (fun _ => 0))), (q11, .inl (cI, 12, .inl (fun _ => 0))), (q13, .inl (cI, 12, .inl (fun _ => 0))), (q15, .inl (cZ, 12, .inl (fun _ => 0))), (q17, .inl (cI, 12, .inl (fun _ => 0))), (q19, .inl (cI, 24, .inl (fun _ => 0))), (q21, .inl (cI, 24, .inl (fun _ => 0))), (q23, .inl (cI, 24, .inl (fun _ => 0))), (q25, .inl (cZ, 24, .inl (fun _ => 0))), (q27, .inl (cI, 24, .inl (fun _ => 0))), (q29, .inl (cI, 24, .inl (fun _ => 0))), (q31, .inl (cI, 400, .inl (fun _ => 0)))] := hD
  refine lv_aload_n hx hb d_Mo_init_138 rfl (lv_at hl 0 rfl) ?_
  refine lv_iconst (v := 1) hx hb d_Mo_init_139 (by decide) ?_
  refine va_put (D := D) (ci := 6) (v := .int 1) (ty := .int) (C := R_Mo) (T := F_Mo) (N := 30) hx hb hts (fun w h => List.mem_cons_of_mem _ (u_Mo w h)) t_Mo o_Mo n_Mo hown hK hP hD hS 0 rfl rfl 21 (by decide) (hts _ (List.mem_cons_of_mem _ tw_686)) (fun _ h9 => h9) rfl (by decide +kernel) rfl rfl (Nat.le_of_ble_eq_true rfl) d_Mo_init_140 (fun H locs hP hD hS => ?_)
  have hP : va_P D cl [(mo, .inr (6, [.int 0, .int 0, .ref q1, .ref q3, .ref q5, .ref q7, .ref q9, .ref q11, .ref q13, .ref q15, .ref q17, .int 0, .ref q19, .ref q21, .ref q23, .ref q25, .ref q27, .ref q29, .int 0, .ref q31, .int 1, .int 1, .int 0, .null, .null, .null, .int 0, .int 0, .int 0, .int 0])), (q1, .inl (cI, 12, .inl (fun _ => 0))), (q3, .inl (cI, 12, .inl (fun _ => 0))), (q5, .inl (cI, 12, .inl (fun _ => 0))), (q7, .inl (cI, 12, .inl (fun _ => 0))), (q9, .inl (cI, 36, .inl (fun _ => 0))), (q11, .inl (cI, 12, .inl (fun _ => 0))), (q13, .inl (cI, 12, .inl (fun _ => 0))), (q15, .inl (cZ, 12, .inl (fun _ => 0))), (q17, .inl (cI, 12, .inl (fun _ => 0))), (q19, .inl (cI, 24, .inl (fun _ => 0))), (q21, .inl (cI, 24, .inl (fun _ => 0))), (q23, .inl (cI, 24, .inl (fun _ => 0))), (q25, .inl (cZ, 24, .inl (fun _ => 0))), (q27, .inl (cI, 24, .inl (fun _ => 0))), (q29, .inl (cI, 24, .inl (fun _ => 0))), (q31, .inl (cI, 400, .inl (fun _ => 0)))] H := hP
  have hD : va_D A [(mo, .inr (6, [.int 0, .int 0, .ref q1, .ref q3, .ref q5, .ref q7, .ref q9, .ref q11, .ref q13, .ref q15, .ref q17, .int 0, .ref q19, .ref q21, .ref q23, .ref q25, .ref q27, .ref q29, .int 0, .ref q31, .int 1, .int 1, .int 0, .null, .null, .null, .int 0, .int 0, .int 0, .int 0])), (q1, .inl (cI, 12, .inl (fun _ => 0))), (q3, .inl (cI, 12, .inl (fun _ => 0))), (q5, .inl (cI, 12, .inl (fun _ => 0))), (q7, .inl (cI, 12, .inl (fun _ => 0))), (q9, .inl (cI, 36, .inl (fun _ => 0))), (q11, .inl (cI, 12, .inl (fun _ => 0))), (q13, .inl (cI, 12, .inl (fun _ => 0))), (q15, .inl (cZ, 12, .inl (fun _ => 0))), (q17, .inl (cI, 12, .inl (fun _ => 0))), (q19, .inl (cI, 24, .inl (fun _ => 0))), (q21, .inl (cI, 24, .inl (fun _ => 0))), (q23, .inl (cI, 24, .inl (fun _ => 0))), (q25, .inl (cZ, 24, .inl (fun _ => 0))), (q27, .inl (cI, 24, .inl (fun _ => 0))), (q29, .inl (cI, 24, .inl (fun _ => 0))), (q31, .inl (cI, 400, .inl (fun _ => 0)))] := hD
  refine lv_aload_n hx hb d_Mo_init_143 rfl (lv_at hl 0 rfl) ?_
  refine lv_bipush (v := 12) hx hb d_Mo_init_144 (by decide) ?_
  refine va_newa (atype := .int) (a0 := (12, .inl (fun _ => 0))) (N' := 12) (ty := .int) hx hb (hts _ (List.mem_cons_of_mem _ tw_47)) rfl hK hP hD hS hA (fun _ => rfl) (by decide) (by decide) (by decide) (Nat.le_of_ble_eq_true rfl) (Nat.le_of_ble_eq_true rfl) d_Mo_init_146 (fun q33 cA34 H hK hP hD hS => ?_)
  obtain rfl : cI = cA34 := xsame (by intro C h; cases h) hK 0 2 rfl rfl
  have hK : va_K D cl [(cI, .int), (cZ, .boolean)] s := hK.sub [0, 1] rfl
  have hP : va_P D cl [(mo, .inr (6, [.int 0, .int 0, .ref q1, .ref q3, .ref q5, .ref q7, .ref q9, .ref q11, .ref q13, .ref q15, .ref q17, .int 0, .ref q19, .ref q21, .ref q23, .ref q25, .ref q27, .ref q29, .int 0, .ref q31, .int 1, .int 1, .int 0, .null, .null, .null, .int 0, .int 0, .int 0, .int 0])), (q1, .inl (cI, 12, .inl (fun _ => 0))), (q3, .inl (cI, 12, .inl (fun _ => 0))), (q5, .inl (cI, 12, .inl (fun _ => 0))), (q7, .inl (cI, 12, .inl (fun _ => 0))), (q9, .inl (cI, 36, .inl (fun _ => 0))), (q11, .inl (cI, 12, .inl (fun _ => 0))), (q13, .inl (cI, 12, .inl (fun _ => 0))), (q15, .inl (cZ, 12, .inl (fun _ => 0))), (q17, .inl (cI, 12, .inl (fun _ => 0))), (q19, .inl (cI, 24, .inl (fun _ => 0))), (q21, .inl (cI, 24, .inl (fun _ => 0))), (q23, .inl (cI, 24, .inl (fun _ => 0))), (q25, .inl (cZ, 24, .inl (fun _ => 0))), (q27, .inl (cI, 24, .inl (fun _ => 0))), (q29, .inl (cI, 24, .inl (fun _ => 0))), (q31, .inl (cI, 400, .inl (fun _ => 0))), (q33, .inl (cI, 12, .inl (fun _ => 0)))] H := hP
  have hD : va_D A [(mo, .inr (6, [.int 0, .int 0, .ref q1, .ref q3, .ref q5, .ref q7, .ref q9, .ref q11, .ref q13, .ref q15, .ref q17, .int 0, .ref q19, .ref q21, .ref q23, .ref q25, .ref q27, .ref q29, .int 0, .ref q31, .int 1, .int 1, .int 0, .null, .null, .null, .int 0, .int 0, .int 0, .int 0])), (q1, .inl (cI, 12, .inl (fun _ => 0))), (q3, .inl (cI, 12, .inl (fun _ => 0))), (q5, .inl (cI, 12, .inl (fun _ => 0))), (q7, .inl (cI, 12, .inl (fun _ => 0))), (q9, .inl (cI, 36, .inl (fun _ => 0))), (q11, .inl (cI, 12, .inl (fun _ => 0))), (q13, .inl (cI, 12, .inl (fun _ => 0))), (q15, .inl (cZ, 12, .inl (fun _ => 0))), (q17, .inl (cI, 12, .inl (fun _ => 0))), (q19, .inl (cI, 24, .inl (fun _ => 0))), (q21, .inl (cI, 24, .inl (fun _ => 0))), (q23, .inl (cI, 24, .inl (fun _ => 0))), (q25, .inl (cZ, 24, .inl (fun _ => 0))), (q27, .inl (cI, 24, .inl (fun _ => 0))), (q29, .inl (cI, 24, .inl (fun _ => 0))), (q31, .inl (cI, 400, .inl (fun _ => 0))), (q33, .inl (cI, 12, .inl (fun _ => 0)))] := hD
  refine va_putF (D := D) (ci := 6) (v := .ref q33) (ty := .array .int) (C := R_Mo) (T := F_Mo) (N := 30) hx hb hts (fun w h => List.mem_cons_of_mem _ (u_Mo w h)) t_Mo o_Mo n_Mo hown hK hP hD hS 0 rfl rfl 23 (by decide) (hts _ (List.mem_cons_of_mem _ tw_688)) (fun _ h9 => h9) rfl hnm rfl (by decide +kernel) rfl rfl (Nat.le_of_ble_eq_true rfl) d_Mo_init_148 (fun H locs hP hD hS => ?_)
  have hP : va_P D cl [(mo, .inr (6, [.int 0, .int 0, .ref q1, .ref q3, .ref q5, .ref q7, .ref q9, .ref q11, .ref q13, .ref q15, .ref q17, .int 0, .ref q19, .ref q21, .ref q23, .ref q25, .ref q27, .ref q29, .int 0, .ref q31, .int 1, .int 1, .int 0, .ref q33, .null, .null, .int 0, .int 0, .int 0, .int 0])), (q1, .inl (cI, 12, .inl (fun _ => 0))), (q3, .inl (cI, 12, .inl (fun _ => 0))), (q5, .inl (cI, 12, .inl (fun _ => 0))), (q7, .inl (cI, 12, .inl (fun _ => 0))), (q9, .inl (cI, 36, .inl (fun _ => 0))), (q11, .inl (cI, 12, .inl (fun _ => 0))), (q13, .inl (cI, 12, .inl (fun _ => 0))), (q15, .inl (cZ, 12, .inl (fun _ => 0))), (q17, .inl (cI, 12, .inl (fun _ => 0))), (q19, .inl (cI, 24, .inl (fun _ => 0))), (q21, .inl (cI, 24, .inl (fun _ => 0))), (q23, .inl (cI, 24, .inl (fun _ => 0))), (q25, .inl (cZ, 24, .inl (fun _ => 0))), (q27, .inl (cI, 24, .inl (fun _ => 0))), (q29, .inl (cI, 24, .inl (fun _ => 0))), (q31, .inl (cI, 400, .inl (fun _ => 0))), (q33, .inl (cI, 12, .inl (fun _ => 0)))] H := hP
  have hD : va_D A [(mo, .inr (6, [.int 0, .int 0, .ref q1, .ref q3, .ref q5, .ref q7, .ref q9, .ref q11, .ref q13, .ref q15, .ref q17, .int 0, .ref q19, .ref q21, .ref q23, .ref q25, .ref q27, .ref q29, .int 0, .ref q31, .int 1, .int 1, .int 0, .ref q33, .null, .null, .int 0, .int 0, .int 0, .int 0])), (q1, .inl (cI, 12, .inl (fun _ => 0))), (q3, .inl (cI, 12, .inl (fun _ => 0))), (q5, .inl (cI, 12, .inl (fun _ => 0))), (q7, .inl (cI, 12, .inl (fun _ => 0))), (q9, .inl (cI, 36, .inl (fun _ => 0))), (q11, .inl (cI, 12, .inl (fun _ => 0))), (q13, .inl (cI, 12, .inl (fun _ => 0))), (q15, .inl (cZ, 12, .inl (fun _ => 0))), (q17, .inl (cI, 12, .inl (fun _ => 0))), (q19, .inl (cI, 24, .inl (fun _ => 0))), (q21, .inl (cI, 24, .inl (fun _ => 0))), (q23, .inl (cI, 24, .inl (fun _ => 0))), (q25, .inl (cZ, 24, .inl (fun _ => 0))), (q27, .inl (cI, 24, .inl (fun _ => 0))), (q29, .inl (cI, 24, .inl (fun _ => 0))), (q31, .inl (cI, 400, .inl (fun _ => 0))), (q33, .inl (cI, 12, .inl (fun _ => 0)))] := hD
  refine lv_aload_n hx hb d_Mo_init_151 rfl (lv_at hl 0 rfl) ?_
  refine lv_bipush (v := 12) hx hb d_Mo_init_152 (by decide) ?_
  refine va_newa (atype := .int) (a0 := (12, .inl (fun _ => 0))) (N' := 12) (ty := .int) hx hb (hts _ (List.mem_cons_of_mem _ tw_47)) rfl hK hP hD hS hA (fun _ => rfl) (by decide) (by decide) (by decide) (Nat.le_of_ble_eq_true rfl) (Nat.le_of_ble_eq_true rfl) d_Mo_init_154 (fun q35 cA36 H hK hP hD hS => ?_)
  obtain rfl : cI = cA36 := xsame (by intro C h; cases h) hK 0 2 rfl rfl
  have hK : va_K D cl [(cI, .int), (cZ, .boolean)] s := hK.sub [0, 1] rfl
  have hP : va_P D cl [(mo, .inr (6, [.int 0, .int 0, .ref q1, .ref q3, .ref q5, .ref q7, .ref q9, .ref q11, .ref q13, .ref q15, .ref q17, .int 0, .ref q19, .ref q21, .ref q23, .ref q25, .ref q27, .ref q29, .int 0, .ref q31, .int 1, .int 1, .int 0, .ref q33, .null, .null, .int 0, .int 0, .int 0, .int 0])), (q1, .inl (cI, 12, .inl (fun _ => 0))), (q3, .inl (cI, 12, .inl (fun _ => 0))), (q5, .inl (cI, 12, .inl (fun _ => 0))), (q7, .inl (cI, 12, .inl (fun _ => 0))), (q9, .inl (cI, 36, .inl (fun _ => 0))), (q11, .inl (cI, 12, .inl (fun _ => 0))), (q13, .inl (cI, 12, .inl (fun _ => 0))), (q15, .inl (cZ, 12, .inl (fun _ => 0))), (q17, .inl (cI, 12, .inl (fun _ => 0))), (q19, .inl (cI, 24, .inl (fun _ => 0))), (q21, .inl (cI, 24, .inl (fun _ => 0))), (q23, .inl (cI, 24, .inl (fun _ => 0))), (q25, .inl (cZ, 24, .inl (fun _ => 0))), (q27, .inl (cI, 24, .inl (fun _ => 0))), (q29, .inl (cI, 24, .inl (fun _ => 0))), (q31, .inl (cI, 400, .inl (fun _ => 0))), (q33, .inl (cI, 12, .inl (fun _ => 0))), (q35, .inl (cI, 12, .inl (fun _ => 0)))] H := hP
  have hD : va_D A [(mo, .inr (6, [.int 0, .int 0, .ref q1, .ref q3, .ref q5, .ref q7, .ref q9, .ref q11, .ref q13, .ref q15, .ref q17, .int 0, .ref q19, .ref q21, .ref q23, .ref q25, .ref q27, .ref q29, .int 0, .ref q31, .int 1, .int 1, .int 0, .ref q33, .null, .null, .int 0, .int 0, .int 0, .int 0])), (q1, .inl (cI, 12, .inl (fun _ => 0))), (q3, .inl (cI, 12, .inl (fun _ => 0))), (q5, .inl (cI, 12, .inl (fun _ => 0))), (q7, .inl (cI, 12, .inl (fun _ => 0))), (q9, .inl (cI, 36, .inl (fun _ => 0))), (q11, .inl (cI, 12, .inl (fun _ => 0))), (q13, .inl (cI, 12, .inl (fun _ => 0))), (q15, .inl (cZ, 12, .inl (fun _ => 0))), (q17, .inl (cI, 12, .inl (fun _ => 0))), (q19, .inl (cI, 24, .inl (fun _ => 0))), (q21, .inl (cI, 24, .inl (fun _ => 0))), (q23, .inl (cI, 24, .inl (fun _ => 0))), (q25, .inl (cZ, 24, .inl (fun _ => 0))), (q27, .inl (cI, 24, .inl (fun _ => 0))), (q29, .inl (cI, 24, .inl (fun _ => 0))), (q31, .inl (cI, 400, .inl (fun _ => 0))), (q33, .inl (cI, 12, .inl (fun _ => 0))), (q35, .inl (cI, 12, .inl (fun _ => 0)))] := hD
  refine va_putF (D := D) (ci := 6) (v := .ref q35) (ty := .array .int) (C := R_Mo) (T := F_Mo) (N := 30) hx hb hts (fun w h => List.mem_cons_of_mem _ (u_Mo w h)) t_Mo o_Mo n_Mo hown hK hP hD hS 0 rfl rfl 24 (by decide) (hts _ (List.mem_cons_of_mem _ tw_689)) (fun _ h9 => h9) rfl hnm rfl (by decide +kernel) rfl rfl (Nat.le_of_ble_eq_true rfl) d_Mo_init_156 (fun H locs hP hD hS => ?_)
  have hP : va_P D cl [(mo, .inr (6, [.int 0, .int 0, .ref q1, .ref q3, .ref q5, .ref q7, .ref q9, .ref q11, .ref q13, .ref q15, .ref q17, .int 0, .ref q19, .ref q21, .ref q23, .ref q25, .ref q27, .ref q29, .int 0, .ref q31, .int 1, .int 1, .int 0, .ref q33, .ref q35, .null, .int 0, .int 0, .int 0, .int 0])), (q1, .inl (cI, 12, .inl (fun _ => 0))), (q3, .inl (cI, 12, .inl (fun _ => 0))), (q5, .inl (cI, 12, .inl (fun _ => 0))), (q7, .inl (cI, 12, .inl (fun _ => 0))), (q9, .inl (cI, 36, .inl (fun _ => 0))), (q11, .inl (cI, 12, .inl (fun _ => 0))), (q13, .inl (cI, 12, .inl (fun _ => 0))), (q15, .inl (cZ, 12, .inl (fun _ => 0))), (q17, .inl (cI, 12, .inl (fun _ => 0))), (q19, .inl (cI, 24, .inl (fun _ => 0))), (q21, .inl (cI, 24, .inl (fun _ => 0))), (q23, .inl (cI, 24, .inl (fun _ => 0))), (q25, .inl (cZ, 24, .inl (fun _ => 0))), (q27, .inl (cI, 24, .inl (fun _ => 0))), (q29, .inl (cI, 24, .inl (fun _ => 0))), (q31, .inl (cI, 400, .inl (fun _ => 0))), (q33, .inl (cI, 12, .inl (fun _ => 0))), (q35, .inl (cI, 12, .inl (fun _ => 0)))] H := hP
  have hD : va_D A [(mo, .inr (6, [.int 0, .int 0, .ref q1, .ref q3, .ref q5, .ref q7, .ref q9, .ref q11, .ref q13, .ref q15, .ref q17, .int 0, .ref q19, .ref q21, .ref q23, .ref q25, .ref q27, .ref q29, .int 0, .ref q31, .int 1, .int 1, .int 0, .ref q33, .ref q35, .null, .int 0, .int 0, .int 0, .int 0])), (q1, .inl (cI, 12, .inl (fun _ => 0))), (q3, .inl (cI, 12, .inl (fun _ => 0))), (q5, .inl (cI, 12, .inl (fun _ => 0))), (q7, .inl (cI, 12, .inl (fun _ => 0))), (q9, .inl (cI, 36, .inl (fun _ => 0))), (q11, .inl (cI, 12, .inl (fun _ => 0))), (q13, .inl (cI, 12, .inl (fun _ => 0))), (q15, .inl (cZ, 12, .inl (fun _ => 0))), (q17, .inl (cI, 12, .inl (fun _ => 0))), (q19, .inl (cI, 24, .inl (fun _ => 0))), (q21, .inl (cI, 24, .inl (fun _ => 0))), (q23, .inl (cI, 24, .inl (fun _ => 0))), (q25, .inl (cZ, 24, .inl (fun _ => 0))), (q27, .inl (cI, 24, .inl (fun _ => 0))), (q29, .inl (cI, 24, .inl (fun _ => 0))), (q31, .inl (cI, 400, .inl (fun _ => 0))), (q33, .inl (cI, 12, .inl (fun _ => 0))), (q35, .inl (cI, 12, .inl (fun _ => 0)))] := hD
  refine lv_aload_n hx hb d_Mo_init_159 rfl (lv_at hl 0 rfl) ?_
  refine lv_bipush (v := 12) hx hb d_Mo_init_160 (by decide) ?_
  refine va_newa (atype := .boolean) (a0 := (12, .inl (fun _ => 0))) (N' := 12) (ty := .boolean) hx hb (hts _ (List.mem_cons_of_mem _ tw_95)) rfl hK hP hD hS hA (fun _ => rfl) (by decide) (by decide) (by decide) (Nat.le_of_ble_eq_true rfl) (Nat.le_of_ble_eq_true rfl) d_Mo_init_162 (fun q37 cA38 H hK hP hD hS => ?_)
  obtain rfl : cZ = cA38 := xsame (by intro C h; cases h) hK 1 2 rfl rfl
  have hK : va_K D cl [(cI, .int), (cZ, .boolean)] s := hK.sub [0, 1] rfl
  have hP : va_P D cl [(mo, .inr (6, [.int 0, .int 0, .ref q1, .ref q3, .ref q5, .ref q7, .ref q9, .ref q11, .ref q13, .ref q15, .ref q17, .int 0, .ref q19, .ref q21, .ref q23, .ref q25, .ref q27, .ref q29, .int 0, .ref q31, .int 1, .int 1, .int 0, .ref q33, .ref q35, .null, .int 0, .int 0, .int 0, .int 0])), (q1, .inl (cI, 12, .inl (fun _ => 0))), (q3, .inl (cI, 12, .inl (fun _ => 0))), (q5, .inl (cI, 12, .inl (fun _ => 0))), (q7, .inl (cI, 12, .inl (fun _ => 0))), (q9, .inl (cI, 36, .inl (fun _ => 0))), (q11, .inl (cI, 12, .inl (fun _ => 0))), (q13, .inl (cI, 12, .inl (fun _ => 0))), (q15, .inl (cZ, 12, .inl (fun _ => 0))), (q17, .inl (cI, 12, .inl (fun _ => 0))), (q19, .inl (cI, 24, .inl (fun _ => 0))), (q21, .inl (cI, 24, .inl (fun _ => 0))), (q23, .inl (cI, 24, .inl (fun _ => 0))), (q25, .inl (cZ, 24, .inl (fun _ => 0))), (q27, .inl (cI, 24, .inl (fun _ => 0))), (q29, .inl (cI, 24, .inl (fun _ => 0))), (q31, .inl (cI, 400, .inl (fun _ => 0))), (q33, .inl (cI, 12, .inl (fun _ => 0))), (q35, .inl (cI, 12, .inl (fun _ => 0))), (q37, .inl (cZ, 12, .inl (fun _ => 0)))] H := hP
  have hD : va_D A [(mo, .inr (6, [.int 0, .int 0, .ref q1, .ref q3, .ref q5, .ref q7, .ref q9, .ref q11, .ref q13, .ref q15, .ref q17, .int 0, .ref q19, .ref q21, .ref q23, .ref q25, .ref q27, .ref q29, .int 0, .ref q31, .int 1, .int 1, .int 0, .ref q33, .ref q35, .null, .int 0, .int 0, .int 0, .int 0])), (q1, .inl (cI, 12, .inl (fun _ => 0))), (q3, .inl (cI, 12, .inl (fun _ => 0))), (q5, .inl (cI, 12, .inl (fun _ => 0))), (q7, .inl (cI, 12, .inl (fun _ => 0))), (q9, .inl (cI, 36, .inl (fun _ => 0))), (q11, .inl (cI, 12, .inl (fun _ => 0))), (q13, .inl (cI, 12, .inl (fun _ => 0))), (q15, .inl (cZ, 12, .inl (fun _ => 0))), (q17, .inl (cI, 12, .inl (fun _ => 0))), (q19, .inl (cI, 24, .inl (fun _ => 0))), (q21, .inl (cI, 24, .inl (fun _ => 0))), (q23, .inl (cI, 24, .inl (fun _ => 0))), (q25, .inl (cZ, 24, .inl (fun _ => 0))), (q27, .inl (cI, 24, .inl (fun _ => 0))), (q29, .inl (cI, 24, .inl (fun _ => 0))), (q31, .inl (cI, 400, .inl (fun _ => 0))), (q33, .inl (cI, 12, .inl (fun _ => 0))), (q35, .inl (cI, 12, .inl (fun _ => 0))), (q37, .inl (cZ, 12, .inl (fun _ => 0)))] := hD
  refine va_putF (D := D) (ci := 6) (v := .ref q37) (ty := .array .boolean) (C := R_Mo) (T := F_Mo) (N := 30) hx hb hts (fun w h => List.mem_cons_of_mem _ (u_Mo w h)) t_Mo o_Mo n_Mo hown hK hP hD hS 0 rfl rfl 25 (by decide) (hts _ (List.mem_cons_of_mem _ tw_690)) (fun _ h9 => h9) rfl hnm rfl (by decide +kernel) rfl rfl (Nat.le_of_ble_eq_true rfl) d_Mo_init_164 (fun H locs hP hD hS => ?_)
  have hP : va_P D cl [(mo, .inr (6, [.int 0, .int 0, .ref q1, .ref q3, .ref q5, .ref q7, .ref q9, .ref q11, .ref q13, .ref q15, .ref q17, .int 0, .ref q19, .ref q21, .ref q23, .ref q25, .ref q27, .ref q29, .int 0, .ref q31, .int 1, .int 1, .int 0, .ref q33, .ref q35, .ref q37, .int 0, .int 0, .int 0, .int 0])), (q1, .inl (cI, 12, .inl (fun _ => 0))), (q3, .inl (cI, 12, .inl (fun _ => 0))), (q5, .inl (cI, 12, .inl (fun _ => 0))), (q7, .inl (cI, 12, .inl (fun _ => 0))), (q9, .inl (cI, 36, .inl (fun _ => 0))), (q11, .inl (cI, 12, .inl (fun _ => 0))), (q13, .inl (cI, 12, .inl (fun _ => 0))), (q15, .inl (cZ, 12, .inl (fun _ => 0))), (q17, .inl (cI, 12, .inl (fun _ => 0))), (q19, .inl (cI, 24, .inl (fun _ => 0))), (q21, .inl (cI, 24, .inl (fun _ => 0))), (q23, .inl (cI, 24, .inl (fun _ => 0))), (q25, .inl (cZ, 24, .inl (fun _ => 0))), (q27, .inl (cI, 24, .inl (fun _ => 0))), (q29, .inl (cI, 24, .inl (fun _ => 0))), (q31, .inl (cI, 400, .inl (fun _ => 0))), (q33, .inl (cI, 12, .inl (fun _ => 0))), (q35, .inl (cI, 12, .inl (fun _ => 0))), (q37, .inl (cZ, 12, .inl (fun _ => 0)))] H := hP
  have hD : va_D A [(mo, .inr (6, [.int 0, .int 0, .ref q1, .ref q3, .ref q5, .ref q7, .ref q9, .ref q11, .ref q13, .ref q15, .ref q17, .int 0, .ref q19, .ref q21, .ref q23, .ref q25, .ref q27, .ref q29, .int 0, .ref q31, .int 1, .int 1, .int 0, .ref q33, .ref q35, .ref q37, .int 0, .int 0, .int 0, .int 0])), (q1, .inl (cI, 12, .inl (fun _ => 0))), (q3, .inl (cI, 12, .inl (fun _ => 0))), (q5, .inl (cI, 12, .inl (fun _ => 0))), (q7, .inl (cI, 12, .inl (fun _ => 0))), (q9, .inl (cI, 36, .inl (fun _ => 0))), (q11, .inl (cI, 12, .inl (fun _ => 0))), (q13, .inl (cI, 12, .inl (fun _ => 0))), (q15, .inl (cZ, 12, .inl (fun _ => 0))), (q17, .inl (cI, 12, .inl (fun _ => 0))), (q19, .inl (cI, 24, .inl (fun _ => 0))), (q21, .inl (cI, 24, .inl (fun _ => 0))), (q23, .inl (cI, 24, .inl (fun _ => 0))), (q25, .inl (cZ, 24, .inl (fun _ => 0))), (q27, .inl (cI, 24, .inl (fun _ => 0))), (q29, .inl (cI, 24, .inl (fun _ => 0))), (q31, .inl (cI, 400, .inl (fun _ => 0))), (q33, .inl (cI, 12, .inl (fun _ => 0))), (q35, .inl (cI, 12, .inl (fun _ => 0))), (q37, .inl (cZ, 12, .inl (fun _ => 0)))] := hD
  exact xrv (q1, q3, q5, q7, q9, q11, q13, q15, q17, q19, q21, q23, q25, q27, q29, q31, q33, q35, q37) B d_Mo_init_167 (trivial) (hP.sub (ws' := [(mo, .inr (6, [.int 0, .int 0, .ref q1, .ref q3, .ref q5, .ref q7, .ref q9, .ref q11, .ref q13, .ref q15, .ref q17, .int 0, .ref q19, .ref q21, .ref q23, .ref q25, .ref q27, .ref q29, .int 0, .ref q31, .int 1, .int 1, .int 0, .ref q33, .ref q35, .ref q37, .int 0, .int 0, .int 0, .int 0])), (q1, .inl (cI, 12, .inl (fun _ => 0))), (q3, .inl (cI, 12, .inl (fun _ => 0))), (q5, .inl (cI, 12, .inl (fun _ => 0))), (q19, .inl (cI, 24, .inl (fun _ => 0))), (q21, .inl (cI, 24, .inl (fun _ => 0))), (q23, .inl (cI, 24, .inl (fun _ => 0))), (q25, .inl (cZ, 24, .inl (fun _ => 0)))]) [0, 1, 2, 3, 10, 11, 12, 13] rfl) (hK.sub (tys' := []) [] rfl) (hD.sub (ws' := [(mo, .inr (6, [.int 0, .int 0, .ref q1, .ref q3, .ref q5, .ref q7, .ref q9, .ref q11, .ref q13, .ref q15, .ref q17, .int 0, .ref q19, .ref q21, .ref q23, .ref q25, .ref q27, .ref q29, .int 0, .ref q31, .int 1, .int 1, .int 0, .ref q33, .ref q35, .ref q37, .int 0, .int 0, .int 0, .int 0])), (q1, .inl (cI, 12, .inl (fun _ => 0))), (q3, .inl (cI, 12, .inl (fun _ => 0))), (q5, .inl (cI, 12, .inl (fun _ => 0))), (q19, .inl (cI, 24, .inl (fun _ => 0))), (q21, .inl (cI, 24, .inl (fun _ => 0))), (q23, .inl (cI, 24, .inl (fun _ => 0))), (q25, .inl (cZ, 24, .inl (fun _ => 0)))]) [0, 1, 2, 3, 10, 11, 12, 13] (by decide) rfl) hS (Nat.le_of_ble_eq_true rfl) (Nat.le_of_ble_eq_true rfl)
theorem d_Mo_outside_0 : decode b_Mo_outside 0 = .ok (.iload_n 0, 1) := by decide +kernel
theorem d_Mo_outside_1 : decode b_Mo_outside 1 = .ok (.iload_n 1, 1) := by decide +kernel
theorem d_Mo_outside_2 : decode b_Mo_outside 2 = .ok (.if_icmp .lt (8), 3) := by decide +kernel
theorem d_Mo_outside_5 : decode b_Mo_outside 5 = .ok (.iload_n 0, 1) := by decide +kernel
theorem d_Mo_outside_6 : decode b_Mo_outside 6 = .ok (.iload_n 2, 1) := by decide +kernel
theorem d_Mo_outside_7 : decode b_Mo_outside 7 = .ok (.if_icmp .le (7), 3) := by decide +kernel
theorem d_Mo_outside_10 : decode b_Mo_outside 10 = .ok (.iconst (1), 1) := by decide +kernel
theorem d_Mo_outside_11 : decode b_Mo_outside 11 = .ok (.goto (4), 3) := by decide +kernel
theorem d_Mo_outside_14 : decode b_Mo_outside 14 = .ok (.iconst (0), 1) := by decide +kernel
theorem d_Mo_outside_15 : decode b_Mo_outside 15 = .ok (.ireturn, 1) := by decide +kernel
set_option maxRecDepth 20000 in
set_option maxHeartbeats 4000000 in
theorem c_Mo_outside (l : Launch) (D : va_G) (x : Int32) (lo : Int32) (hi : Int32) (sz : Nat)  : xMi l y_Mo_outside w_Mo_outside { frames := 0, cells := 0, slots := 0, locals := 0 } D cl [.int x, .int lo, .int hi] sz [] [] (fun (r : Int32) (_ : Unit) => r = xOut x lo hi) (fun _ => []) (fun _ => []) := by
  refine xMi_of (by decide +kernel) rfl (Nat.le_of_ble_eq_true rfl) ?_
  intro p e s m args below meth c ls A B hAe hA hsz hP hK hD hS hAm hTh hAs hl
  obtain ⟨⟨hx, hb, hml, hown, hts⟩, hret, hlk, hnm, hemp⟩ := id B
  have hl : lv_has ls 3 [(0, .int x), (1, .int lo), (2, .int hi)] := hl
  refine lv_iload_n hx hb d_Mo_outside_0 rfl (lv_at hl 0 rfl) ?_
  refine lv_iload_n hx hb d_Mo_outside_1 rfl (lv_at hl 1 rfl) ?_
  refine lv_icmp_lt (tgt := 10) hx hb d_Mo_outside_2 (by decide) (fun b2 => ?_) (fun b2 => ?_)
  · refine lv_iconst (v := 1) hx hb d_Mo_outside_10 (by decide) ?_
    refine lv_goto (tgt := 15) hx hb d_Mo_outside_11 (by decide) ?_
    exact xrz () B d_Mo_outside_15 (rfl) ((by first | exact xOut_1a b2 | exact xOut_1b (xnle_lt b7))) (hP.sub (ws' := []) [] rfl) (hK.sub (tys' := []) [] rfl) (hD.sub (ws' := []) [] (by decide) rfl) hS (Nat.le_of_ble_eq_true rfl) (Nat.le_of_ble_eq_true rfl)
  · refine lv_iload_n hx hb d_Mo_outside_5 rfl (lv_at hl 0 rfl) ?_
    refine lv_iload_n hx hb d_Mo_outside_6 rfl (lv_at hl 2 rfl) ?_
    refine lv_icmp_le (tgt := 14) hx hb d_Mo_outside_7 (by decide) (fun b7 => ?_) (fun b7 => ?_)
    · refine lv_iconst (v := 0) hx hb d_Mo_outside_14 (by decide) ?_
      exact xrz () B d_Mo_outside_15 (rfl) ((xOut_0 b2 (xle_nlt b7))) (hP.sub (ws' := []) [] rfl) (hK.sub (tys' := []) [] rfl) (hD.sub (ws' := []) [] (by decide) rfl) hS (Nat.le_of_ble_eq_true rfl) (Nat.le_of_ble_eq_true rfl)
    · refine lv_iconst (v := 1) hx hb d_Mo_outside_10 (by decide) ?_
      refine lv_goto (tgt := 15) hx hb d_Mo_outside_11 (by decide) ?_
      exact xrz () B d_Mo_outside_15 (rfl) ((by first | exact xOut_1a b2 | exact xOut_1b (xnle_lt b7))) (hP.sub (ws' := []) [] rfl) (hK.sub (tys' := []) [] rfl) (hD.sub (ws' := []) [] (by decide) rfl) hS (Nat.le_of_ble_eq_true rfl) (Nat.le_of_ble_eq_true rfl)
theorem d_Mo_in_0 : decode b_Mo_in 0 = .ok (.iload_n 0, 1) := by decide +kernel
theorem d_Mo_in_1 : decode b_Mo_in 1 = .ok (.iload_n 1, 1) := by decide +kernel
theorem d_Mo_in_2 : decode b_Mo_in 2 = .ok (.ishr, 1) := by decide +kernel
theorem d_Mo_in_3 : decode b_Mo_in 3 = .ok (.iconst (1), 1) := by decide +kernel
theorem d_Mo_in_4 : decode b_Mo_in 4 = .ok (.iand, 1) := by decide +kernel
theorem d_Mo_in_5 : decode b_Mo_in 5 = .ok (.iconst (1), 1) := by decide +kernel
theorem d_Mo_in_6 : decode b_Mo_in 6 = .ok (.if_icmp .ne (7), 3) := by decide +kernel
theorem d_Mo_in_9 : decode b_Mo_in 9 = .ok (.iconst (1), 1) := by decide +kernel
theorem d_Mo_in_10 : decode b_Mo_in 10 = .ok (.goto (4), 3) := by decide +kernel
theorem d_Mo_in_13 : decode b_Mo_in 13 = .ok (.iconst (0), 1) := by decide +kernel
theorem d_Mo_in_14 : decode b_Mo_in 14 = .ok (.ireturn, 1) := by decide +kernel
set_option maxRecDepth 20000 in
set_option maxHeartbeats 4000000 in
theorem c_Mo_in (l : Launch) (D : va_G) (x : Int32) (y : Int32) (sz : Nat)  : xMi l y_Mo_in w_Mo_in { frames := 0, cells := 0, slots := 0, locals := 0 } D cl [.int x, .int y] sz [] [] (fun (r : Int32) (_ : Unit) => r = xbi x y) (fun _ => []) (fun _ => []) := by
  refine xMi_of (by decide +kernel) rfl (Nat.le_of_ble_eq_true rfl) ?_
  intro p e s m args below meth c ls A B hAe hA hsz hP hK hD hS hAm hTh hAs hl
  obtain ⟨⟨hx, hb, hml, hown, hts⟩, hret, hlk, hnm, hemp⟩ := id B
  have hl : lv_has ls 2 [(0, .int x), (1, .int y)] := hl
  refine lv_iload_n hx hb d_Mo_in_0 rfl (lv_at hl 0 rfl) ?_
  refine lv_iload_n hx hb d_Mo_in_1 rfl (lv_at hl 1 rfl) ?_
  refine lv_ishr hx hb d_Mo_in_2 ?_
  refine lv_iconst (v := 1) hx hb d_Mo_in_3 (by decide) ?_
  refine lv_iand hx hb d_Mo_in_4 ?_
  refine lv_iconst (v := 1) hx hb d_Mo_in_5 (by decide) ?_
  refine lv_icmp_ne (tgt := 13) hx hb d_Mo_in_6 (by decide) (fun b6 => ?_) (fun b6 => ?_)
  · refine lv_iconst (v := 0) hx hb d_Mo_in_13 (by decide) ?_
    exact xrz () B d_Mo_in_14 (rfl) ((by first | exact xbi_1 b6 | exact xbi_0 b6)) (hP.sub (ws' := []) [] rfl) (hK.sub (tys' := []) [] rfl) (hD.sub (ws' := []) [] (by decide) rfl) hS (Nat.le_of_ble_eq_true rfl) (Nat.le_of_ble_eq_true rfl)
  · refine lv_iconst (v := 1) hx hb d_Mo_in_9 (by decide) ?_
    refine lv_goto (tgt := 14) hx hb d_Mo_in_10 (by decide) ?_
    exact xrz () B d_Mo_in_14 (rfl) ((by first | exact xbi_1 b6 | exact xbi_0 b6)) (hP.sub (ws' := []) [] rfl) (hK.sub (tys' := []) [] rfl) (hD.sub (ws' := []) [] (by decide) rfl) hS (Nat.le_of_ble_eq_true rfl) (Nat.le_of_ble_eq_true rfl)
theorem d_Mo_isFile_0 : decode b_Mo_isFile 0 = .ok (.iload_n 0, 1) := by decide +kernel
theorem d_Mo_isFile_1 : decode b_Mo_isFile 1 = .ok (.iconst (0), 1) := by decide +kernel
theorem d_Mo_isFile_2 : decode b_Mo_isFile 2 = .ok (.bipush (23), 2) := by decide +kernel
theorem d_Mo_isFile_4 : decode b_Mo_isFile 4 = .ok (.invokestatic 82, 3) := by decide +kernel
theorem d_Mo_isFile_7 : decode b_Mo_isFile 7 = .ok (.ifCond .ne (7), 3) := by decide +kernel
theorem d_Mo_isFile_10 : decode b_Mo_isFile 10 = .ok (.iconst (1), 1) := by decide +kernel
theorem d_Mo_isFile_11 : decode b_Mo_isFile 11 = .ok (.goto (4), 3) := by decide +kernel
theorem d_Mo_isFile_14 : decode b_Mo_isFile 14 = .ok (.iconst (0), 1) := by decide +kernel
theorem d_Mo_isFile_15 : decode b_Mo_isFile 15 = .ok (.ireturn, 1) := by decide +kernel
set_option maxRecDepth 20000 in
set_option maxHeartbeats 4000000 in
theorem c_Mo_isFile (l : Launch) (D : va_G) (x : Int32) (sz : Nat)  : xMi l y_Mo_isFile w_Mo_isFile { frames := 1, cells := 0, slots := 0, locals := 22 } D cl [.int x] sz [] [] (fun (r : Int32) (_ : Unit) => r = xIn x 0 23) (fun _ => []) (fun _ => []) := by
  refine xMi_of (by decide +kernel) rfl (Nat.le_of_ble_eq_true rfl) ?_
  intro p e s m args below meth c ls A B hAe hA hsz hP hK hD hS hAm hTh hAs hl
  obtain ⟨⟨hx, hb, hml, hown, hts⟩, hret, hlk, hnm, hemp⟩ := id B
  have hl : lv_has ls 1 [(0, .int x)] := hl
  refine lv_iload_n hx hb d_Mo_isFile_0 rfl (lv_at hl 0 rfl) ?_
  refine lv_iconst (v := 0) hx hb d_Mo_isFile_1 (by decide) ?_
  refine lv_bipush (v := 23) hx hb d_Mo_isFile_2 (by decide) ?_
  have hPc := hP.sub (ws' := []) [] rfl
  have hDc := hD.sub (ws' := []) [] (by decide) rfl
  have hKc := hK.sub (tys' := []) [] rfl
  refine xgi (wsC := []) (wr := []) (va_runS (As := [.int x, .int 0, .int 23]) (rest := []) ⟨hx, hb, hml, hown, hts⟩ (c_Mo_outside l  D x 0 23 _ ) ⟨(callB_of 3 hts (x_good k_Mo_outside) rfl rfl rfl (hts _ (List.mem_cons_of_mem _ tw_8)) (hts _ (List.mem_cons_of_mem _ tw_765)) (by decide +kernel) ⟨Nat.le_of_ble_eq_true rfl, Nat.le_of_ble_eq_true rfl⟩), (hts _ (List.mem_cons_of_mem _ tw_766))⟩ (xP_S hPc hKc hDc hAm hTh hAs hS) rfl rfl hl.1 rfl (lv_room (Nat.le_of_ble_eq_true rfl)) d_Mo_isFile_4 ⟨Nat.le_of_ble_eq_true rfl, Nat.le_of_ble_eq_true rfl⟩) hP hD hK hS hA [] [] rfl rfl (by decide) (by decide) (fun r1 _ H locs er1 hP hD hK hS => ?_)
  have er1 : r1 = xOut x 0 23 := er1
  subst er1
  have hK : va_K D cl [] s := hK
  have hP : va_P D cl [] H := hP
  have hD : va_D A [] := hD
  refine lv_if_ne (tgt := 14) hx hb d_Mo_isFile_7 (by decide) (fun b7 => ?_) (fun b7 => ?_)
  · refine lv_iconst (v := 0) hx hb d_Mo_isFile_14 (by decide) ?_
    exact xrz () B d_Mo_isFile_15 (rfl) ((by first | exact xOI_1 b7 | exact xOI_0 b7)) (hP.sub (ws' := []) [] rfl) (hK.sub (tys' := []) [] rfl) (hD.sub (ws' := []) [] (by decide) rfl) hS (Nat.le_of_ble_eq_true rfl) (Nat.le_of_ble_eq_true rfl)
  · refine lv_iconst (v := 1) hx hb d_Mo_isFile_10 (by decide) ?_
    refine lv_goto (tgt := 15) hx hb d_Mo_isFile_11 (by decide) ?_
    exact xrz () B d_Mo_isFile_15 (rfl) ((by first | exact xOI_1 b7 | exact xOI_0 b7)) (hP.sub (ws' := []) [] rfl) (hK.sub (tys' := []) [] rfl) (hD.sub (ws' := []) [] (by decide) rfl) hS (Nat.le_of_ble_eq_true rfl) (Nat.le_of_ble_eq_true rfl)
theorem d_Mo_thrown_0 : decode b_Mo_thrown 0 = .ok (.aload_n 0, 1) := by decide +kernel
theorem d_Mo_thrown_1 : decode b_Mo_thrown 1 = .ok (.getfield 75, 3) := by decide +kernel
theorem d_Mo_thrown_4 : decode b_Mo_thrown 4 = .ok (.ireturn, 1) := by decide +kernel
set_option maxRecDepth 20000 in
set_option maxHeartbeats 4000000 in
theorem c_Mo_thrown (l : Launch) (D : va_G) (mo : Nat) (a1 : Nat) (a2 : Nat) (a3 : Nat) (a4 : Nat) (a5 : Nat) (a6 : Nat) (a7 : Nat) (a8 : Nat) (a9 : Nat) (a10 : Nat) (a11 : Nat) (a12 : Nat) (a13 : Nat) (a14 : Nat) (a15 : Nat) (a16 : Nat) (a17 : Nat) (a18 : Nat) (a19 : Nat) (icode : Int32) (imany : Int32) (iclock : Int32) (isize : Int32) (idepthOne : Int32) (idepthTwo : Int32) (ireached : Int32) (ijobs : Int32) (ifail : Int32) (ibegun : Int32) (iunder : Int32) (sz : Nat)  : xMi l y_Mo_thrown w_Mo_thrown { frames := 0, cells := 0, slots := 0, locals := 0 } D cl [.ref mo] sz [] [(mo, .inr (6, [.int icode, .int imany, .ref a1, .ref a2, .ref a3, .ref a4, .ref a5, .ref a6, .ref a7, .ref a8, .ref a9, .int iclock, .ref a10, .ref a11, .ref a12, .ref a13, .ref a14, .ref a15, .int isize, .ref a16, .int idepthOne, .int idepthTwo, .int ireached, .ref a17, .ref a18, .ref a19, .int ijobs, .int ifail, .int ibegun, .int iunder]))] (fun (r : Int32) (_ : Unit) => r = icode) (fun _ => [(mo, .inr (6, [.int icode, .int imany, .ref a1, .ref a2, .ref a3, .ref a4, .ref a5, .ref a6, .ref a7, .ref a8, .ref a9, .int iclock, .ref a10, .ref a11, .ref a12, .ref a13, .ref a14, .ref a15, .int isize, .ref a16, .int idepthOne, .int idepthTwo, .int ireached, .ref a17, .ref a18, .ref a19, .int ijobs, .int ifail, .int ibegun, .int iunder]))]) (fun _ => []) := by
  refine xMi_of (by decide +kernel) rfl (Nat.le_of_ble_eq_true rfl) ?_
  intro p e s m args below meth c ls A B hAe hA hsz hP hK hD hS hAm hTh hAs hl
  obtain ⟨⟨hx, hb, hml, hown, hts⟩, hret, hlk, hnm, hemp⟩ := id B
  have hl : lv_has ls 1 [(0, .ref mo)] := hl
  refine lv_aload_n hx hb d_Mo_thrown_0 rfl (lv_at hl 0 rfl) ?_
  refine va_get (D := D) (ci := 6) (v := .int icode) (C := R_Mo) (T := F_Mo) (N := 30) hx hb hts (fun w h => List.mem_cons_of_mem _ (u_Mo w h)) hown hK hP 0 rfl rfl 0 (by decide) (hts _ (List.mem_cons_of_mem _ tw_665)) (fun _ h9 => h9) rfl d_Mo_thrown_1 ?_
  exact xri () B d_Mo_thrown_4 (rfl) (hP.sub (ws' := [(mo, .inr (6, [.int icode, .int imany, .ref a1, .ref a2, .ref a3, .ref a4, .ref a5, .ref a6, .ref a7, .ref a8, .ref a9, .int iclock, .ref a10, .ref a11, .ref a12, .ref a13, .ref a14, .ref a15, .int isize, .ref a16, .int idepthOne, .int idepthTwo, .int ireached, .ref a17, .ref a18, .ref a19, .int ijobs, .int ifail, .int ibegun, .int iunder]))]) [0] rfl) (hK.sub (tys' := []) [] rfl) (hD.sub (ws' := [(mo, .inr (6, [.int icode, .int imany, .ref a1, .ref a2, .ref a3, .ref a4, .ref a5, .ref a6, .ref a7, .ref a8, .ref a9, .int iclock, .ref a10, .ref a11, .ref a12, .ref a13, .ref a14, .ref a15, .int isize, .ref a16, .int idepthOne, .int idepthTwo, .int ireached, .ref a17, .ref a18, .ref a19, .int ijobs, .int ifail, .int ibegun, .int iunder]))]) [0] (by decide) rfl) hS (Nat.le_of_ble_eq_true rfl) (Nat.le_of_ble_eq_true rfl)
theorem d_Mo_refuse_0 : decode b_Mo_refuse 0 = .ok (.aload_n 0, 1) := by decide +kernel
theorem d_Mo_refuse_1 : decode b_Mo_refuse 1 = .ok (.iload_n 1, 1) := by decide +kernel
theorem d_Mo_refuse_2 : decode b_Mo_refuse 2 = .ok (.putfield 75, 3) := by decide +kernel
theorem d_Mo_refuse_5 : decode b_Mo_refuse 5 = .ok (.iconst (0), 1) := by decide +kernel
theorem d_Mo_refuse_6 : decode b_Mo_refuse 6 = .ok (.ireturn, 1) := by decide +kernel
set_option maxRecDepth 20000 in
set_option maxHeartbeats 4000000 in
theorem c_Mo_refuse (l : Launch) (D : va_G) (mo : Nat) (a1 : Nat) (a2 : Nat) (a3 : Nat) (a4 : Nat) (a5 : Nat) (a6 : Nat) (a7 : Nat) (a8 : Nat) (a9 : Nat) (a10 : Nat) (a11 : Nat) (a12 : Nat) (a13 : Nat) (a14 : Nat) (a15 : Nat) (a16 : Nat) (a17 : Nat) (a18 : Nat) (a19 : Nat) (k : Int32) (sz : Nat)  : xMi l y_Mo_refuse w_Mo_refuse { frames := 0, cells := 0, slots := 0, locals := 0 } D cl [.ref mo, .int k] sz [] [(mo, .inr (6, [.int 0, .int 0, .ref a1, .ref a2, .ref a3, .ref a4, .ref a5, .ref a6, .ref a7, .ref a8, .ref a9, .int 0, .ref a10, .ref a11, .ref a12, .ref a13, .ref a14, .ref a15, .int 0, .ref a16, .int 1, .int 1, .int 0, .ref a17, .ref a18, .ref a19, .int 0, .int 0, .int 0, .int 0]))] (fun (r : Int32) (_ : Unit) => r = 0) (fun _ => [(mo, .inr (6, [.int k, .int 0, .ref a1, .ref a2, .ref a3, .ref a4, .ref a5, .ref a6, .ref a7, .ref a8, .ref a9, .int 0, .ref a10, .ref a11, .ref a12, .ref a13, .ref a14, .ref a15, .int 0, .ref a16, .int 1, .int 1, .int 0, .ref a17, .ref a18, .ref a19, .int 0, .int 0, .int 0, .int 0]))]) (fun _ => []) := by
  refine xMi_of (by decide +kernel) rfl (Nat.le_of_ble_eq_true rfl) ?_
  intro p e s m args below meth c ls A B hAe hA hsz hP hK hD hS hAm hTh hAs hl
  obtain ⟨⟨hx, hb, hml, hown, hts⟩, hret, hlk, hnm, hemp⟩ := id B
  have hl : lv_has ls 2 [(0, .ref mo), (1, .int k)] := hl
  refine lv_aload_n hx hb d_Mo_refuse_0 rfl (lv_at hl 0 rfl) ?_
  refine lv_iload_n hx hb d_Mo_refuse_1 rfl (lv_at hl 1 rfl) ?_
  refine va_put (D := D) (ci := 6) (v := .int k) (ty := .int) (C := R_Mo) (T := F_Mo) (N := 30) hx hb hts (fun w h => List.mem_cons_of_mem _ (u_Mo w h)) t_Mo o_Mo n_Mo hown hK hP hD hS 0 rfl rfl 0 (by decide) (hts _ (List.mem_cons_of_mem _ tw_665)) (fun _ h9 => h9) rfl (by decide +kernel) rfl rfl (Nat.le_of_ble_eq_true rfl) d_Mo_refuse_2 (fun H locs hP hD hS => ?_)
  have hP : va_P D cl [(mo, .inr (6, [.int k, .int 0, .ref a1, .ref a2, .ref a3, .ref a4, .ref a5, .ref a6, .ref a7, .ref a8, .ref a9, .int 0, .ref a10, .ref a11, .ref a12, .ref a13, .ref a14, .ref a15, .int 0, .ref a16, .int 1, .int 1, .int 0, .ref a17, .ref a18, .ref a19, .int 0, .int 0, .int 0, .int 0]))] H := hP
  have hD : va_D A [(mo, .inr (6, [.int k, .int 0, .ref a1, .ref a2, .ref a3, .ref a4, .ref a5, .ref a6, .ref a7, .ref a8, .ref a9, .int 0, .ref a10, .ref a11, .ref a12, .ref a13, .ref a14, .ref a15, .int 0, .ref a16, .int 1, .int 1, .int 0, .ref a17, .ref a18, .ref a19, .int 0, .int 0, .int 0, .int 0]))] := hD
  refine lv_iconst (v := 0) hx hb d_Mo_refuse_5 (by decide) ?_
  exact xri () B d_Mo_refuse_6 (rfl) (hP.sub (ws' := [(mo, .inr (6, [.int k, .int 0, .ref a1, .ref a2, .ref a3, .ref a4, .ref a5, .ref a6, .ref a7, .ref a8, .ref a9, .int 0, .ref a10, .ref a11, .ref a12, .ref a13, .ref a14, .ref a15, .int 0, .ref a16, .int 1, .int 1, .int 0, .ref a17, .ref a18, .ref a19, .int 0, .int 0, .int 0, .int 0]))]) [0] rfl) (hK.sub (tys' := []) [] rfl) (hD.sub (ws' := [(mo, .inr (6, [.int k, .int 0, .ref a1, .ref a2, .ref a3, .ref a4, .ref a5, .ref a6, .ref a7, .ref a8, .ref a9, .int 0, .ref a10, .ref a11, .ref a12, .ref a13, .ref a14, .ref a15, .int 0, .ref a16, .int 1, .int 1, .int 0, .ref a17, .ref a18, .ref a19, .int 0, .int 0, .int 0, .int 0]))]) [0] (by decide) rfl) hS (Nat.le_of_ble_eq_true rfl) (Nat.le_of_ble_eq_true rfl)
theorem d_Mo_isEdge_0 : decode b_Mo_isEdge 0 = .ok (.iload_n 1, 1) := by decide +kernel
theorem d_Mo_isEdge_1 : decode b_Mo_isEdge 1 = .ok (.iconst (0), 1) := by decide +kernel
theorem d_Mo_isEdge_2 : decode b_Mo_isEdge 2 = .ok (.aload_n 0, 1) := by decide +kernel
theorem d_Mo_isEdge_3 : decode b_Mo_isEdge 3 = .ok (.getfield 79, 3) := by decide +kernel
theorem d_Mo_isEdge_6 : decode b_Mo_isEdge 6 = .ok (.iconst (1), 1) := by decide +kernel
theorem d_Mo_isEdge_7 : decode b_Mo_isEdge 7 = .ok (.isub, 1) := by decide +kernel
theorem d_Mo_isEdge_8 : decode b_Mo_isEdge 8 = .ok (.invokestatic 82, 3) := by decide +kernel
theorem d_Mo_isEdge_11 : decode b_Mo_isEdge 11 = .ok (.ifCond .ne (7), 3) := by decide +kernel
theorem d_Mo_isEdge_18 : decode b_Mo_isEdge 18 = .ok (.iconst (0), 1) := by decide +kernel
theorem d_Mo_isEdge_19 : decode b_Mo_isEdge 19 = .ok (.ireturn, 1) := by decide +kernel
set_option maxRecDepth 20000 in
set_option maxHeartbeats 4000000 in
theorem c_Mo_isEdge (l : Launch) (D : va_G) (mo : Nat) (a1 : Nat) (a2 : Nat) (a3 : Nat) (a4 : Nat) (a5 : Nat) (a6 : Nat) (a7 : Nat) (a8 : Nat) (a9 : Nat) (a10 : Nat) (a11 : Nat) (a12 : Nat) (a13 : Nat) (a14 : Nat) (a15 : Nat) (a16 : Nat) (a17 : Nat) (a18 : Nat) (a19 : Nat) (x : Int32) (sz : Nat)  : xMi l y_Mo_isEdge w_Mo_isEdge { frames := 1, cells := 0, slots := 0, locals := 22 } D cl [.ref mo, .int x] sz [] [(mo, .inr (6, [.int 0, .int 0, .ref a1, .ref a2, .ref a3, .ref a4, .ref a5, .ref a6, .ref a7, .ref a8, .ref a9, .int 0, .ref a10, .ref a11, .ref a12, .ref a13, .ref a14, .ref a15, .int 0, .ref a16, .int 1, .int 1, .int 0, .ref a17, .ref a18, .ref a19, .int 0, .int 0, .int 0, .int 0]))] (fun (r : Int32) (_ : Unit) => r = 0) (fun _ => [(mo, .inr (6, [.int 0, .int 0, .ref a1, .ref a2, .ref a3, .ref a4, .ref a5, .ref a6, .ref a7, .ref a8, .ref a9, .int 0, .ref a10, .ref a11, .ref a12, .ref a13, .ref a14, .ref a15, .int 0, .ref a16, .int 1, .int 1, .int 0, .ref a17, .ref a18, .ref a19, .int 0, .int 0, .int 0, .int 0]))]) (fun _ => []) := by
  refine xMi_of (by decide +kernel) rfl (Nat.le_of_ble_eq_true rfl) ?_
  intro p e s m args below meth c ls A B hAe hA hsz hP hK hD hS hAm hTh hAs hl
  obtain ⟨⟨hx, hb, hml, hown, hts⟩, hret, hlk, hnm, hemp⟩ := id B
  have hl : lv_has ls 2 [(0, .ref mo), (1, .int x)] := hl
  refine lv_iload_n hx hb d_Mo_isEdge_0 rfl (lv_at hl 1 rfl) ?_
  refine lv_iconst (v := 0) hx hb d_Mo_isEdge_1 (by decide) ?_
  refine lv_aload_n hx hb d_Mo_isEdge_2 rfl (lv_at hl 0 rfl) ?_
  refine va_get (D := D) (ci := 6) (v := .int 0) (C := R_Mo) (T := F_Mo) (N := 30) hx hb hts (fun w h => List.mem_cons_of_mem _ (u_Mo w h)) hown hK hP 0 rfl rfl 1 (by decide) (hts _ (List.mem_cons_of_mem _ tw_666)) (fun _ h9 => h9) rfl d_Mo_isEdge_3 ?_
  refine lv_iconst (v := 1) hx hb d_Mo_isEdge_6 (by decide) ?_
  refine lv_isub hx hb d_Mo_isEdge_7 ?_
  refine xnum (v := (-1)) (by decide) ?_
  have hPc := hP.sub (ws' := []) [] rfl
  have hDc := hD.sub (ws' := []) [] (by decide) rfl
  have hKc := hK.sub (tys' := []) [] rfl
  refine xgi (wsC := []) (wr := [(mo, .inr (6, [.int 0, .int 0, .ref a1, .ref a2, .ref a3, .ref a4, .ref a5, .ref a6, .ref a7, .ref a8, .ref a9, .int 0, .ref a10, .ref a11, .ref a12, .ref a13, .ref a14, .ref a15, .int 0, .ref a16, .int 1, .int 1, .int 0, .ref a17, .ref a18, .ref a19, .int 0, .int 0, .int 0, .int 0]))]) (va_runS (As := [.int x, .int 0, .int (-1)]) (rest := []) ⟨hx, hb, hml, hown, hts⟩ (c_Mo_outside l  D x 0 (-1) _ ) ⟨(callB_of 3 hts (x_good k_Mo_outside) rfl rfl rfl (hts _ (List.mem_cons_of_mem _ tw_8)) (hts _ (List.mem_cons_of_mem _ tw_765)) (by decide +kernel) ⟨Nat.le_of_ble_eq_true rfl, Nat.le_of_ble_eq_true rfl⟩), (hts _ (List.mem_cons_of_mem _ tw_766))⟩ (xP_S hPc hKc hDc hAm hTh hAs hS) rfl rfl hl.1 rfl (lv_room (Nat.le_of_ble_eq_true rfl)) d_Mo_isEdge_8 ⟨Nat.le_of_ble_eq_true rfl, Nat.le_of_ble_eq_true rfl⟩) hP hD hK hS hA [] [0] rfl rfl (by decide) (by decide) (fun r1 _ H locs er1 hP hD hK hS => ?_)
  have er1 : r1 = xOut x 0 (-1) := er1
  subst er1
  have hK : va_K D cl [] s := hK
  have hP : va_P D cl [(mo, .inr (6, [.int 0, .int 0, .ref a1, .ref a2, .ref a3, .ref a4, .ref a5, .ref a6, .ref a7, .ref a8, .ref a9, .int 0, .ref a10, .ref a11, .ref a12, .ref a13, .ref a14, .ref a15, .int 0, .ref a16, .int 1, .int 1, .int 0, .ref a17, .ref a18, .ref a19, .int 0, .int 0, .int 0, .int 0]))] H := hP
  have hD : va_D A [(mo, .inr (6, [.int 0, .int 0, .ref a1, .ref a2, .ref a3, .ref a4, .ref a5, .ref a6, .ref a7, .ref a8, .ref a9, .int 0, .ref a10, .ref a11, .ref a12, .ref a13, .ref a14, .ref a15, .int 0, .ref a16, .int 1, .int 1, .int 0, .ref a17, .ref a18, .ref a19, .int 0, .int 0, .int 0, .int 0]))] := hD
  refine lv_if_ne (tgt := 18) hx hb d_Mo_isEdge_11 (by decide) (fun b11 => ?_) (fun b11 => absurd (xOut_none x) (fun e => by rw [e] at b11; exact absurd b11 (by decide)))
  refine lv_iconst (v := 0) hx hb d_Mo_isEdge_18 (by decide) ?_
  exact xrz () B d_Mo_isEdge_19 (rfl) (rfl) (hP.sub (ws' := [(mo, .inr (6, [.int 0, .int 0, .ref a1, .ref a2, .ref a3, .ref a4, .ref a5, .ref a6, .ref a7, .ref a8, .ref a9, .int 0, .ref a10, .ref a11, .ref a12, .ref a13, .ref a14, .ref a15, .int 0, .ref a16, .int 1, .int 1, .int 0, .ref a17, .ref a18, .ref a19, .int 0, .int 0, .int 0, .int 0]))]) [0] rfl) (hK.sub (tys' := []) [] rfl) (hD.sub (ws' := [(mo, .inr (6, [.int 0, .int 0, .ref a1, .ref a2, .ref a3, .ref a4, .ref a5, .ref a6, .ref a7, .ref a8, .ref a9, .int 0, .ref a10, .ref a11, .ref a12, .ref a13, .ref a14, .ref a15, .int 0, .ref a16, .int 1, .int 1, .int 0, .ref a17, .ref a18, .ref a19, .int 0, .int 0, .int 0, .int 0]))]) [0] (by decide) rfl) hS (Nat.le_of_ble_eq_true rfl) (Nat.le_of_ble_eq_true rfl)
theorem d_Mo_byPhony_0 : decode b_Mo_byPhony 0 = .ok (.aload_n 0, 1) := by decide +kernel
theorem d_Mo_byPhony_1 : decode b_Mo_byPhony 1 = .ok (.getfield 44, 3) := by decide +kernel
theorem d_Mo_byPhony_4 : decode b_Mo_byPhony 4 = .ok (.iload_n 1, 1) := by decide +kernel
theorem d_Mo_byPhony_5 : decode b_Mo_byPhony 5 = .ok (.iaload, 1) := by decide +kernel
theorem d_Mo_byPhony_6 : decode b_Mo_byPhony 6 = .ok (.ifCond .le (23), 3) := by decide +kernel
theorem d_Mo_byPhony_29 : decode b_Mo_byPhony 29 = .ok (.iconst (0), 1) := by decide +kernel
theorem d_Mo_byPhony_30 : decode b_Mo_byPhony 30 = .ok (.ireturn, 1) := by decide +kernel
set_option maxRecDepth 20000 in
set_option maxHeartbeats 4000000 in
theorem c_Mo_byPhony (l : Launch) (D : va_G) (mo : Nat) (a12 : Nat) (a1 : Nat) (a2 : Nat) (a3 : Nat) (a4 : Nat) (a5 : Nat) (a6 : Nat) (a7 : Nat) (a8 : Nat) (a9 : Nat) (a10 : Nat) (a11 : Nat) (a13 : Nat) (a14 : Nat) (a15 : Nat) (a16 : Nat) (a17 : Nat) (a18 : Nat) (a19 : Nat) (cI : ClassId) (x : Int32) (sz : Nat) (h : xIn x 0 23 = 1) : xMi l y_Mo_byPhony w_Mo_byPhony { frames := 0, cells := 0, slots := 0, locals := 0 } D cl [.ref mo, .int x] sz [(cI, .int)] [(mo, .inr (6, [.int 0, .int 0, .ref a1, .ref a2, .ref a3, .ref a4, .ref a5, .ref a6, .ref a7, .ref a8, .ref a9, .int 0, .ref a10, .ref a11, .ref a12, .ref a13, .ref a14, .ref a15, .int 0, .ref a16, .int 1, .int 1, .int 0, .ref a17, .ref a18, .ref a19, .int 0, .int 0, .int 0, .int 0])), (a12, .inl (cI, 24, .inl (fun _ => 0)))] (fun (r : Int32) (_ : Unit) => r = 0) (fun _ => [(mo, .inr (6, [.int 0, .int 0, .ref a1, .ref a2, .ref a3, .ref a4, .ref a5, .ref a6, .ref a7, .ref a8, .ref a9, .int 0, .ref a10, .ref a11, .ref a12, .ref a13, .ref a14, .ref a15, .int 0, .ref a16, .int 1, .int 1, .int 0, .ref a17, .ref a18, .ref a19, .int 0, .int 0, .int 0, .int 0])), (a12, .inl (cI, 24, .inl (fun _ => 0)))]) (fun _ => []) := by
  refine xMi_of (by decide +kernel) rfl (Nat.le_of_ble_eq_true rfl) ?_
  intro p e s m args below meth c ls A B hAe hA hsz hP hK hD hS hAm hTh hAs hl
  obtain ⟨⟨hx, hb, hml, hown, hts⟩, hret, hlk, hnm, hemp⟩ := id B
  have hl : lv_has ls 2 [(0, .ref mo), (1, .int x)] := hl
  refine lv_aload_n hx hb d_Mo_byPhony_0 rfl (lv_at hl 0 rfl) ?_
  refine va_get (D := D) (ci := 6) (v := .ref a12) (C := R_Mo) (T := F_Mo) (N := 30) hx hb hts (fun w h => List.mem_cons_of_mem _ (u_Mo w h)) hown hK hP 0 rfl rfl 14 (by decide) (hts _ (List.mem_cons_of_mem _ tw_679)) (fun _ h9 => h9) rfl d_Mo_byPhony_1 ?_
  refine lv_iload_n hx hb d_Mo_byPhony_4 rfl (lv_at hl 1 rfl) ?_
  refine va_iald hx hb hK hP 1 0 rfl rfl (xIn_in2 h (by decide) (by decide)) d_Mo_byPhony_5 ?_
  refine xnum (v := 0) rfl ?_
  refine lv_if_le (tgt := 29) hx hb d_Mo_byPhony_6 (by decide) (fun b6 => ?_) (fun b6 => absurd b6 (by decide))
  refine lv_iconst (v := 0) hx hb d_Mo_byPhony_29 (by decide) ?_
  exact xrz () B d_Mo_byPhony_30 (rfl) (rfl) (hP.sub (ws' := [(mo, .inr (6, [.int 0, .int 0, .ref a1, .ref a2, .ref a3, .ref a4, .ref a5, .ref a6, .ref a7, .ref a8, .ref a9, .int 0, .ref a10, .ref a11, .ref a12, .ref a13, .ref a14, .ref a15, .int 0, .ref a16, .int 1, .int 1, .int 0, .ref a17, .ref a18, .ref a19, .int 0, .int 0, .int 0, .int 0])), (a12, .inl (cI, 24, .inl (fun _ => 0)))]) [0, 1] rfl) (hK.sub (tys' := []) [] rfl) (hD.sub (ws' := [(mo, .inr (6, [.int 0, .int 0, .ref a1, .ref a2, .ref a3, .ref a4, .ref a5, .ref a6, .ref a7, .ref a8, .ref a9, .int 0, .ref a10, .ref a11, .ref a12, .ref a13, .ref a14, .ref a15, .int 0, .ref a16, .int 1, .int 1, .int 0, .ref a17, .ref a18, .ref a19, .int 0, .int 0, .int 0, .int 0])), (a12, .inl (cI, 24, .inl (fun _ => 0)))]) [0, 1] (by decide) rfl) hS (Nat.le_of_ble_eq_true rfl) (Nat.le_of_ble_eq_true rfl)
theorem d_Mo_put_0 : decode b_Mo_put 0 = .ok (.aload_n 0, 1) := by decide +kernel
theorem d_Mo_put_1 : decode b_Mo_put 1 = .ok (.dup, 1) := by decide +kernel
theorem d_Mo_put_2 : decode b_Mo_put 2 = .ok (.getfield 109, 3) := by decide +kernel
theorem d_Mo_put_5 : decode b_Mo_put 5 = .ok (.iconst (1), 1) := by decide +kernel
theorem d_Mo_put_6 : decode b_Mo_put 6 = .ok (.iadd, 1) := by decide +kernel
theorem d_Mo_put_7 : decode b_Mo_put 7 = .ok (.putfield 109, 3) := by decide +kernel
theorem d_Mo_put_10 : decode b_Mo_put 10 = .ok (.aload_n 0, 1) := by decide +kernel
theorem d_Mo_put_11 : decode b_Mo_put 11 = .ok (.getfield 38, 3) := by decide +kernel
theorem d_Mo_put_14 : decode b_Mo_put 14 = .ok (.iload_n 1, 1) := by decide +kernel
theorem d_Mo_put_15 : decode b_Mo_put 15 = .ok (.iload_n 2, 1) := by decide +kernel
theorem d_Mo_put_16 : decode b_Mo_put 16 = .ok (.iastore, 1) := by decide +kernel
theorem d_Mo_put_17 : decode b_Mo_put 17 = .ok (.aload_n 0, 1) := by decide +kernel
theorem d_Mo_put_18 : decode b_Mo_put 18 = .ok (.getfield 41, 3) := by decide +kernel
theorem d_Mo_put_21 : decode b_Mo_put 21 = .ok (.iload_n 1, 1) := by decide +kernel
theorem d_Mo_put_22 : decode b_Mo_put 22 = .ok (.aload_n 0, 1) := by decide +kernel
theorem d_Mo_put_23 : decode b_Mo_put 23 = .ok (.getfield 109, 3) := by decide +kernel
theorem d_Mo_put_26 : decode b_Mo_put 26 = .ok (.iastore, 1) := by decide +kernel
theorem d_Mo_put_27 : decode b_Mo_put 27 = .ok (.return_, 1) := by decide +kernel
set_option maxRecDepth 20000 in
set_option maxHeartbeats 4000000 in
theorem c_Mo_put (l : Launch) (D : va_G) (mo : Nat) (a10 : Nat) (a11 : Nat) (a1 : Nat) (a2 : Nat) (a3 : Nat) (a4 : Nat) (a5 : Nat) (a6 : Nat) (a7 : Nat) (a8 : Nat) (a9 : Nat) (a12 : Nat) (a13 : Nat) (a14 : Nat) (a15 : Nat) (a16 : Nat) (a17 : Nat) (a18 : Nat) (a19 : Nat) (cI : ClassId) (x : Int32) (y : Int32) (sz : Nat) (h : xIn x 0 23 = 1) : xMv l y_Mo_put w_Mo_put { frames := 0, cells := 0, slots := 0, locals := 0 } D cl [.ref mo, .int x, .int y] sz [(cI, .int)] [(mo, .inr (6, [.int 0, .int 0, .ref a1, .ref a2, .ref a3, .ref a4, .ref a5, .ref a6, .ref a7, .ref a8, .ref a9, .int 0, .ref a10, .ref a11, .ref a12, .ref a13, .ref a14, .ref a15, .int 0, .ref a16, .int 1, .int 1, .int 0, .ref a17, .ref a18, .ref a19, .int 0, .int 0, .int 0, .int 0])), (a10, .inl (cI, 24, .inl (fun _ => 0))), (a11, .inl (cI, 24, .inl (fun _ => 0)))] (fun (_ : Unit) => True) (fun _ => [(mo, .inr (6, [.int 0, .int 0, .ref a1, .ref a2, .ref a3, .ref a4, .ref a5, .ref a6, .ref a7, .ref a8, .ref a9, .int 1, .ref a10, .ref a11, .ref a12, .ref a13, .ref a14, .ref a15, .int 0, .ref a16, .int 1, .int 1, .int 0, .ref a17, .ref a18, .ref a19, .int 0, .int 0, .int 0, .int 0]))]) (fun _ => []) := by
  refine xMv_of (by decide +kernel) rfl (Nat.le_of_ble_eq_true rfl) ?_
  intro p e s m args below meth c ls A B hAe hA hsz hP hK hD hS hAm hTh hAs hl
  obtain ⟨⟨hx, hb, hml, hown, hts⟩, hret, hlk, hnm, hemp⟩ := id B
  have hl : lv_has ls 3 [(0, .ref mo), (1, .int x), (2, .int y)] := hl
  refine lv_aload_n hx hb d_Mo_put_0 rfl (lv_at hl 0 rfl) ?_
  refine lv_dup hx hb d_Mo_put_1 rfl ?_
  refine va_get (D := D) (ci := 6) (v := .int 0) (C := R_Mo) (T := F_Mo) (N := 30) hx hb hts (fun w h => List.mem_cons_of_mem _ (u_Mo w h)) hown hK hP 0 rfl rfl 11 (by decide) (hts _ (List.mem_cons_of_mem _ tw_676)) (fun _ h9 => h9) rfl d_Mo_put_2 ?_
  refine lv_iconst (v := 1) hx hb d_Mo_put_5 (by decide) ?_
  refine lv_iadd hx hb d_Mo_put_6 ?_
  refine xnum (v := 1) (by decide) ?_
  refine va_put (D := D) (ci := 6) (v := .int 1) (ty := .int) (C := R_Mo) (T := F_Mo) (N := 30) hx hb hts (fun w h => List.mem_cons_of_mem _ (u_Mo w h)) t_Mo o_Mo n_Mo hown hK hP hD hS 0 rfl rfl 11 (by decide) (hts _ (List.mem_cons_of_mem _ tw_676)) (fun _ h9 => h9) rfl (by decide +kernel) rfl rfl (Nat.le_of_ble_eq_true rfl) d_Mo_put_7 (fun H locs hP hD hS => ?_)
  have hP : va_P D cl [(mo, .inr (6, [.int 0, .int 0, .ref a1, .ref a2, .ref a3, .ref a4, .ref a5, .ref a6, .ref a7, .ref a8, .ref a9, .int 1, .ref a10, .ref a11, .ref a12, .ref a13, .ref a14, .ref a15, .int 0, .ref a16, .int 1, .int 1, .int 0, .ref a17, .ref a18, .ref a19, .int 0, .int 0, .int 0, .int 0])), (a10, .inl (cI, 24, .inl (fun _ => 0))), (a11, .inl (cI, 24, .inl (fun _ => 0)))] H := hP
  have hD : va_D A [(mo, .inr (6, [.int 0, .int 0, .ref a1, .ref a2, .ref a3, .ref a4, .ref a5, .ref a6, .ref a7, .ref a8, .ref a9, .int 1, .ref a10, .ref a11, .ref a12, .ref a13, .ref a14, .ref a15, .int 0, .ref a16, .int 1, .int 1, .int 0, .ref a17, .ref a18, .ref a19, .int 0, .int 0, .int 0, .int 0])), (a10, .inl (cI, 24, .inl (fun _ => 0))), (a11, .inl (cI, 24, .inl (fun _ => 0)))] := hD
  refine lv_aload_n hx hb d_Mo_put_10 rfl (lv_at hl 0 rfl) ?_
  refine va_get (D := D) (ci := 6) (v := .ref a10) (C := R_Mo) (T := F_Mo) (N := 30) hx hb hts (fun w h => List.mem_cons_of_mem _ (u_Mo w h)) hown hK hP 0 rfl rfl 12 (by decide) (hts _ (List.mem_cons_of_mem _ tw_677)) (fun _ h9 => h9) rfl d_Mo_put_11 ?_
  refine lv_iload_n hx hb d_Mo_put_14 rfl (lv_at hl 1 rfl) ?_
  refine lv_iload_n hx hb d_Mo_put_15 rfl (lv_at hl 2 rfl) ?_
  refine va_iast hx hb hK hP hD hS 1 0 rfl rfl (xIn_in2 h (by decide) (by decide)) d_Mo_put_16 (fun H locs hP hD hS => ?_)
  have hP : va_P D cl [(mo, .inr (6, [.int 0, .int 0, .ref a1, .ref a2, .ref a3, .ref a4, .ref a5, .ref a6, .ref a7, .ref a8, .ref a9, .int 1, .ref a10, .ref a11, .ref a12, .ref a13, .ref a14, .ref a15, .int 0, .ref a16, .int 1, .int 1, .int 0, .ref a17, .ref a18, .ref a19, .int 0, .int 0, .int 0, .int 0])), (a10, .inl (cI, 24, .inl (upd (fun _ => 0) x.toNatClampNeg y))), (a11, .inl (cI, 24, .inl (fun _ => 0)))] H := hP
  have hD : va_D A [(mo, .inr (6, [.int 0, .int 0, .ref a1, .ref a2, .ref a3, .ref a4, .ref a5, .ref a6, .ref a7, .ref a8, .ref a9, .int 1, .ref a10, .ref a11, .ref a12, .ref a13, .ref a14, .ref a15, .int 0, .ref a16, .int 1, .int 1, .int 0, .ref a17, .ref a18, .ref a19, .int 0, .int 0, .int 0, .int 0])), (a10, .inl (cI, 24, .inl (upd (fun _ => 0) x.toNatClampNeg y))), (a11, .inl (cI, 24, .inl (fun _ => 0)))] := hD
  refine lv_aload_n hx hb d_Mo_put_17 rfl (lv_at hl 0 rfl) ?_
  refine va_get (D := D) (ci := 6) (v := .ref a11) (C := R_Mo) (T := F_Mo) (N := 30) hx hb hts (fun w h => List.mem_cons_of_mem _ (u_Mo w h)) hown hK hP 0 rfl rfl 13 (by decide) (hts _ (List.mem_cons_of_mem _ tw_678)) (fun _ h9 => h9) rfl d_Mo_put_18 ?_
  refine lv_iload_n hx hb d_Mo_put_21 rfl (lv_at hl 1 rfl) ?_
  refine lv_aload_n hx hb d_Mo_put_22 rfl (lv_at hl 0 rfl) ?_
  refine va_get (D := D) (ci := 6) (v := .int 1) (C := R_Mo) (T := F_Mo) (N := 30) hx hb hts (fun w h => List.mem_cons_of_mem _ (u_Mo w h)) hown hK hP 0 rfl rfl 11 (by decide) (hts _ (List.mem_cons_of_mem _ tw_676)) (fun _ h9 => h9) rfl d_Mo_put_23 ?_
  refine va_iast hx hb hK hP hD hS 2 0 rfl rfl (xIn_in2 h (by decide) (by decide)) d_Mo_put_26 (fun H locs hP hD hS => ?_)
  have hP : va_P D cl [(mo, .inr (6, [.int 0, .int 0, .ref a1, .ref a2, .ref a3, .ref a4, .ref a5, .ref a6, .ref a7, .ref a8, .ref a9, .int 1, .ref a10, .ref a11, .ref a12, .ref a13, .ref a14, .ref a15, .int 0, .ref a16, .int 1, .int 1, .int 0, .ref a17, .ref a18, .ref a19, .int 0, .int 0, .int 0, .int 0])), (a10, .inl (cI, 24, .inl (upd (fun _ => 0) x.toNatClampNeg y))), (a11, .inl (cI, 24, .inl (upd (fun _ => 0) x.toNatClampNeg 1)))] H := hP
  have hD : va_D A [(mo, .inr (6, [.int 0, .int 0, .ref a1, .ref a2, .ref a3, .ref a4, .ref a5, .ref a6, .ref a7, .ref a8, .ref a9, .int 1, .ref a10, .ref a11, .ref a12, .ref a13, .ref a14, .ref a15, .int 0, .ref a16, .int 1, .int 1, .int 0, .ref a17, .ref a18, .ref a19, .int 0, .int 0, .int 0, .int 0])), (a10, .inl (cI, 24, .inl (upd (fun _ => 0) x.toNatClampNeg y))), (a11, .inl (cI, 24, .inl (upd (fun _ => 0) x.toNatClampNeg 1)))] := hD
  exact xrv () B d_Mo_put_27 (trivial) (hP.sub (ws' := [(mo, .inr (6, [.int 0, .int 0, .ref a1, .ref a2, .ref a3, .ref a4, .ref a5, .ref a6, .ref a7, .ref a8, .ref a9, .int 1, .ref a10, .ref a11, .ref a12, .ref a13, .ref a14, .ref a15, .int 0, .ref a16, .int 1, .int 1, .int 0, .ref a17, .ref a18, .ref a19, .int 0, .int 0, .int 0, .int 0]))]) [0] rfl) (hK.sub (tys' := []) [] rfl) (hD.sub (ws' := [(mo, .inr (6, [.int 0, .int 0, .ref a1, .ref a2, .ref a3, .ref a4, .ref a5, .ref a6, .ref a7, .ref a8, .ref a9, .int 1, .ref a10, .ref a11, .ref a12, .ref a13, .ref a14, .ref a15, .int 0, .ref a16, .int 1, .int 1, .int 0, .ref a17, .ref a18, .ref a19, .int 0, .int 0, .int 0, .int 0]))]) [0] (by decide) rfl) hS (Nat.le_of_ble_eq_true rfl) (Nat.le_of_ble_eq_true rfl)
theorem d_Mo_edge_0 : decode b_Mo_edge 0 = .ok (.iload_n 1, 1) := by decide +kernel
theorem d_Mo_edge_1 : decode b_Mo_edge 1 = .ok (.iconst (0), 1) := by decide +kernel
theorem d_Mo_edge_2 : decode b_Mo_edge 2 = .ok (.ldc 90, 2) := by decide +kernel
theorem d_Mo_edge_4 : decode b_Mo_edge 4 = .ok (.invokestatic 82, 3) := by decide +kernel
theorem d_Mo_edge_7 : decode b_Mo_edge 7 = .ok (.ifCond .ne (37), 3) := by decide +kernel
theorem d_Mo_edge_10 : decode b_Mo_edge 10 = .ok (.iload_n 2, 1) := by decide +kernel
theorem d_Mo_edge_11 : decode b_Mo_edge 11 = .ok (.iconst (0), 1) := by decide +kernel
theorem d_Mo_edge_12 : decode b_Mo_edge 12 = .ok (.bipush (15), 2) := by decide +kernel
theorem d_Mo_edge_14 : decode b_Mo_edge 14 = .ok (.invokestatic 82, 3) := by decide +kernel
theorem d_Mo_edge_17 : decode b_Mo_edge 17 = .ok (.ifCond .ne (27), 3) := by decide +kernel
theorem d_Mo_edge_20 : decode b_Mo_edge 20 = .ok (.iload_n 2, 1) := by decide +kernel
theorem d_Mo_edge_21 : decode b_Mo_edge 21 = .ok (.iconst (2), 1) := by decide +kernel
theorem d_Mo_edge_22 : decode b_Mo_edge 22 = .ok (.irem, 1) := by decide +kernel
theorem d_Mo_edge_23 : decode b_Mo_edge 23 = .ok (.ifCond .eq (8), 3) := by decide +kernel
theorem d_Mo_edge_26 : decode b_Mo_edge 26 = .ok (.iload_n 2, 1) := by decide +kernel
theorem d_Mo_edge_27 : decode b_Mo_edge 27 = .ok (.iconst (1), 1) := by decide +kernel
theorem d_Mo_edge_28 : decode b_Mo_edge 28 = .ok (.if_icmp .ne (16), 3) := by decide +kernel
theorem d_Mo_edge_31 : decode b_Mo_edge 31 = .ok (.iload_n 3, 1) := by decide +kernel
theorem d_Mo_edge_32 : decode b_Mo_edge 32 = .ok (.iconst (0), 1) := by decide +kernel
theorem d_Mo_edge_33 : decode b_Mo_edge 33 = .ok (.iconst (2), 1) := by decide +kernel
theorem d_Mo_edge_34 : decode b_Mo_edge 34 = .ok (.invokestatic 82, 3) := by decide +kernel
theorem d_Mo_edge_37 : decode b_Mo_edge 37 = .ok (.ifCond .ne (7), 3) := by decide +kernel
theorem d_Mo_edge_40 : decode b_Mo_edge 40 = .ok (.iconst (1), 1) := by decide +kernel
theorem d_Mo_edge_41 : decode b_Mo_edge 41 = .ok (.goto (4), 3) := by decide +kernel
theorem d_Mo_edge_45 : decode b_Mo_edge 45 = .ok (.istore 4, 2) := by decide +kernel
theorem d_Mo_edge_47 : decode b_Mo_edge 47 = .ok (.aload_n 0, 1) := by decide +kernel
theorem d_Mo_edge_48 : decode b_Mo_edge 48 = .ok (.iload 4, 2) := by decide +kernel
theorem d_Mo_edge_50 : decode b_Mo_edge 50 = .ok (.ifCond .ne (7), 3) := by decide +kernel
theorem d_Mo_edge_57 : decode b_Mo_edge 57 = .ok (.aload_n 0, 1) := by decide +kernel
theorem d_Mo_edge_58 : decode b_Mo_edge 58 = .ok (.getfield 91, 3) := by decide +kernel
theorem d_Mo_edge_61 : decode b_Mo_edge 61 = .ok (.ifCond .ne (12), 3) := by decide +kernel
theorem d_Mo_edge_64 : decode b_Mo_edge 64 = .ok (.aload_n 0, 1) := by decide +kernel
theorem d_Mo_edge_65 : decode b_Mo_edge 65 = .ok (.getfield 79, 3) := by decide +kernel
theorem d_Mo_edge_68 : decode b_Mo_edge 68 = .ok (.bipush (12), 2) := by decide +kernel
theorem d_Mo_edge_70 : decode b_Mo_edge 70 = .ok (.if_icmp .ne (7), 3) := by decide +kernel
theorem d_Mo_edge_77 : decode b_Mo_edge 77 = .ok (.iconst (0), 1) := by decide +kernel
theorem d_Mo_edge_78 : decode b_Mo_edge 78 = .ok (.putfield 75, 3) := by decide +kernel
theorem d_Mo_edge_81 : decode b_Mo_edge 81 = .ok (.aload_n 0, 1) := by decide +kernel
theorem d_Mo_edge_82 : decode b_Mo_edge 82 = .ok (.getfield 75, 3) := by decide +kernel
theorem d_Mo_edge_85 : decode b_Mo_edge 85 = .ok (.ifCond .le (5), 3) := by decide +kernel
theorem d_Mo_edge_90 : decode b_Mo_edge 90 = .ok (.aload_n 0, 1) := by decide +kernel
theorem d_Mo_edge_91 : decode b_Mo_edge 91 = .ok (.getfield 7, 3) := by decide +kernel
theorem d_Mo_edge_94 : decode b_Mo_edge 94 = .ok (.aload_n 0, 1) := by decide +kernel
theorem d_Mo_edge_95 : decode b_Mo_edge 95 = .ok (.getfield 79, 3) := by decide +kernel
theorem d_Mo_edge_98 : decode b_Mo_edge 98 = .ok (.iload_n 1, 1) := by decide +kernel
theorem d_Mo_edge_99 : decode b_Mo_edge 99 = .ok (.iastore, 1) := by decide +kernel
theorem d_Mo_edge_100 : decode b_Mo_edge 100 = .ok (.aload_n 0, 1) := by decide +kernel
theorem d_Mo_edge_101 : decode b_Mo_edge 101 = .ok (.getfield 13, 3) := by decide +kernel
theorem d_Mo_edge_104 : decode b_Mo_edge 104 = .ok (.aload_n 0, 1) := by decide +kernel
theorem d_Mo_edge_105 : decode b_Mo_edge 105 = .ok (.getfield 79, 3) := by decide +kernel
theorem d_Mo_edge_108 : decode b_Mo_edge 108 = .ok (.iload_n 2, 1) := by decide +kernel
theorem d_Mo_edge_109 : decode b_Mo_edge 109 = .ok (.iastore, 1) := by decide +kernel
theorem d_Mo_edge_110 : decode b_Mo_edge 110 = .ok (.aload_n 0, 1) := by decide +kernel
theorem d_Mo_edge_111 : decode b_Mo_edge 111 = .ok (.getfield 16, 3) := by decide +kernel
theorem d_Mo_edge_114 : decode b_Mo_edge 114 = .ok (.aload_n 0, 1) := by decide +kernel
theorem d_Mo_edge_115 : decode b_Mo_edge 115 = .ok (.getfield 79, 3) := by decide +kernel
theorem d_Mo_edge_118 : decode b_Mo_edge 118 = .ok (.iload_n 3, 1) := by decide +kernel
theorem d_Mo_edge_119 : decode b_Mo_edge 119 = .ok (.iastore, 1) := by decide +kernel
theorem d_Mo_edge_120 : decode b_Mo_edge 120 = .ok (.aload_n 0, 1) := by decide +kernel
theorem d_Mo_edge_121 : decode b_Mo_edge 121 = .ok (.dup, 1) := by decide +kernel
theorem d_Mo_edge_122 : decode b_Mo_edge 122 = .ok (.getfield 79, 3) := by decide +kernel
theorem d_Mo_edge_125 : decode b_Mo_edge 125 = .ok (.iconst (1), 1) := by decide +kernel
theorem d_Mo_edge_126 : decode b_Mo_edge 126 = .ok (.iadd, 1) := by decide +kernel
theorem d_Mo_edge_127 : decode b_Mo_edge 127 = .ok (.putfield 79, 3) := by decide +kernel
theorem d_Mo_edge_130 : decode b_Mo_edge 130 = .ok (.aload_n 0, 1) := by decide +kernel
theorem d_Mo_edge_131 : decode b_Mo_edge 131 = .ok (.getfield 79, 3) := by decide +kernel
theorem d_Mo_edge_134 : decode b_Mo_edge 134 = .ok (.iconst (1), 1) := by decide +kernel
theorem d_Mo_edge_135 : decode b_Mo_edge 135 = .ok (.isub, 1) := by decide +kernel
theorem d_Mo_edge_136 : decode b_Mo_edge 136 = .ok (.ireturn, 1) := by decide +kernel
set_option maxRecDepth 20000 in
set_option maxHeartbeats 4000000 in
theorem c_Mo_edge (l : Launch) (D : va_G) (mo : Nat) (a1 : Nat) (a2 : Nat) (a3 : Nat) (a4 : Nat) (a5 : Nat) (a6 : Nat) (a7 : Nat) (a8 : Nat) (a9 : Nat) (a10 : Nat) (a11 : Nat) (a12 : Nat) (a13 : Nat) (a14 : Nat) (a15 : Nat) (a16 : Nat) (a17 : Nat) (a18 : Nat) (a19 : Nat) (cI : ClassId) (x : Int32) (y : Int32) (z : Int32) (sz : Nat) (h : xokE x y z) : xMi l y_Mo_edge w_Mo_edge { frames := 1, cells := 0, slots := 0, locals := 22 } D cl [.ref mo, .int x, .int y, .int z] sz [(cI, .int)] [(mo, .inr (6, [.int 0, .int 0, .ref a1, .ref a2, .ref a3, .ref a4, .ref a5, .ref a6, .ref a7, .ref a8, .ref a9, .int 0, .ref a10, .ref a11, .ref a12, .ref a13, .ref a14, .ref a15, .int 0, .ref a16, .int 1, .int 1, .int 0, .ref a17, .ref a18, .ref a19, .int 0, .int 0, .int 0, .int 0])), (a1, .inl (cI, 12, .inl (fun _ => 0))), (a2, .inl (cI, 12, .inl (fun _ => 0))), (a3, .inl (cI, 12, .inl (fun _ => 0)))] (fun (r : Int32) (_ : Unit) => r = 0) (fun _ => [(mo, .inr (6, [.int 0, .int 1, .ref a1, .ref a2, .ref a3, .ref a4, .ref a5, .ref a6, .ref a7, .ref a8, .ref a9, .int 0, .ref a10, .ref a11, .ref a12, .ref a13, .ref a14, .ref a15, .int 0, .ref a16, .int 1, .int 1, .int 0, .ref a17, .ref a18, .ref a19, .int 0, .int 0, .int 0, .int 0]))]) (fun _ => []) := by
  refine xMi_of (by decide +kernel) rfl (Nat.le_of_ble_eq_true rfl) ?_
  intro p e s m args below meth c ls A B hAe hA hsz hP hK hD hS hAm hTh hAs hl
  obtain ⟨⟨hx, hb, hml, hown, hts⟩, hret, hlk, hnm, hemp⟩ := id B
  have hl : lv_has ls 5 [(0, .ref mo), (1, .int x), (2, .int y), (3, .int z)] := hl
  refine lv_iload_n hx hb d_Mo_edge_0 rfl (lv_at hl 1 rfl) ?_
  refine lv_iconst (v := 0) hx hb d_Mo_edge_1 (by decide) ?_
  refine lv_ldc (v := 65535) hx hb hown (hts _ (List.mem_cons_of_mem _ tw_764)) d_Mo_edge_2 ?_
  have hPc := hP.sub (ws' := []) [] rfl
  have hDc := hD.sub (ws' := []) [] (by decide) rfl
  have hKc := hK.sub (tys' := []) [] rfl
  refine xgi (wsC := []) (wr := [(mo, .inr (6, [.int 0, .int 0, .ref a1, .ref a2, .ref a3, .ref a4, .ref a5, .ref a6, .ref a7, .ref a8, .ref a9, .int 0, .ref a10, .ref a11, .ref a12, .ref a13, .ref a14, .ref a15, .int 0, .ref a16, .int 1, .int 1, .int 0, .ref a17, .ref a18, .ref a19, .int 0, .int 0, .int 0, .int 0])), (a1, .inl (cI, 12, .inl (fun _ => 0))), (a2, .inl (cI, 12, .inl (fun _ => 0))), (a3, .inl (cI, 12, .inl (fun _ => 0)))]) (va_runS (As := [.int x, .int 0, .int 65535]) (rest := []) ⟨hx, hb, hml, hown, hts⟩ (c_Mo_outside l  D x 0 65535 _ ) ⟨(callB_of 3 hts (x_good k_Mo_outside) rfl rfl rfl (hts _ (List.mem_cons_of_mem _ tw_8)) (hts _ (List.mem_cons_of_mem _ tw_765)) (by decide +kernel) ⟨Nat.le_of_ble_eq_true rfl, Nat.le_of_ble_eq_true rfl⟩), (hts _ (List.mem_cons_of_mem _ tw_766))⟩ (xP_S hPc hKc hDc hAm hTh hAs hS) rfl rfl hl.1 rfl (lv_room (Nat.le_of_ble_eq_true rfl)) d_Mo_edge_4 ⟨Nat.le_of_ble_eq_true rfl, Nat.le_of_ble_eq_true rfl⟩) hP hD hK hS hA [] [0, 1, 2, 3] rfl rfl (by decide) (by decide) (fun r1 _ H locs er1 hP hD hK hS => ?_)
  have er1 : r1 = xOut x 0 65535 := er1
  subst er1
  have hK : va_K D cl [(cI, .int)] s := hK
  have hP : va_P D cl [(mo, .inr (6, [.int 0, .int 0, .ref a1, .ref a2, .ref a3, .ref a4, .ref a5, .ref a6, .ref a7, .ref a8, .ref a9, .int 0, .ref a10, .ref a11, .ref a12, .ref a13, .ref a14, .ref a15, .int 0, .ref a16, .int 1, .int 1, .int 0, .ref a17, .ref a18, .ref a19, .int 0, .int 0, .int 0, .int 0])), (a1, .inl (cI, 12, .inl (fun _ => 0))), (a2, .inl (cI, 12, .inl (fun _ => 0))), (a3, .inl (cI, 12, .inl (fun _ => 0)))] H := hP
  have hD : va_D A [(mo, .inr (6, [.int 0, .int 0, .ref a1, .ref a2, .ref a3, .ref a4, .ref a5, .ref a6, .ref a7, .ref a8, .ref a9, .int 0, .ref a10, .ref a11, .ref a12, .ref a13, .ref a14, .ref a15, .int 0, .ref a16, .int 1, .int 1, .int 0, .ref a17, .ref a18, .ref a19, .int 0, .int 0, .int 0, .int 0])), (a1, .inl (cI, 12, .inl (fun _ => 0))), (a2, .inl (cI, 12, .inl (fun _ => 0))), (a3, .inl (cI, 12, .inl (fun _ => 0)))] := hD
  refine lv_if_ne (tgt := 44) hx hb d_Mo_edge_7 (by decide) (fun b7 => ?_) (fun b7 => ?_)
  · first | exact absurd (xO0 h.1) b7 | exact absurd (xO0 (xFl_in h.2.1)) b17 | exact absurd (xFl_alt h.2.1) (fun e => e.elim b23 b28) | exact absurd (xO0 h.2.2) b37
  · refine lv_iload_n hx hb d_Mo_edge_10 rfl (lv_at hl 2 rfl) ?_
    refine lv_iconst (v := 0) hx hb d_Mo_edge_11 (by decide) ?_
    refine lv_bipush (v := 15) hx hb d_Mo_edge_12 (by decide) ?_
    have hPc := hP.sub (ws' := []) [] rfl
    have hDc := hD.sub (ws' := []) [] (by decide) rfl
    have hKc := hK.sub (tys' := []) [] rfl
    refine xgi (wsC := []) (wr := [(mo, .inr (6, [.int 0, .int 0, .ref a1, .ref a2, .ref a3, .ref a4, .ref a5, .ref a6, .ref a7, .ref a8, .ref a9, .int 0, .ref a10, .ref a11, .ref a12, .ref a13, .ref a14, .ref a15, .int 0, .ref a16, .int 1, .int 1, .int 0, .ref a17, .ref a18, .ref a19, .int 0, .int 0, .int 0, .int 0])), (a1, .inl (cI, 12, .inl (fun _ => 0))), (a2, .inl (cI, 12, .inl (fun _ => 0))), (a3, .inl (cI, 12, .inl (fun _ => 0)))]) (va_runS (As := [.int y, .int 0, .int 15]) (rest := []) ⟨hx, hb, hml, hown, hts⟩ (c_Mo_outside l  D y 0 15 _ ) ⟨(callB_of 3 hts (x_good k_Mo_outside) rfl rfl rfl (hts _ (List.mem_cons_of_mem _ tw_8)) (hts _ (List.mem_cons_of_mem _ tw_765)) (by decide +kernel) ⟨Nat.le_of_ble_eq_true rfl, Nat.le_of_ble_eq_true rfl⟩), (hts _ (List.mem_cons_of_mem _ tw_766))⟩ (xP_S hPc hKc hDc hAm hTh hAs hS) rfl rfl hl.1 rfl (lv_room (Nat.le_of_ble_eq_true rfl)) d_Mo_edge_14 ⟨Nat.le_of_ble_eq_true rfl, Nat.le_of_ble_eq_true rfl⟩) hP hD hK hS hA [] [0, 1, 2, 3] rfl rfl (by decide) (by decide) (fun r2 _ H locs er2 hP hD hK hS => ?_)
    have er2 : r2 = xOut y 0 15 := er2
    subst er2
    have hK : va_K D cl [(cI, .int)] s := hK
    have hP : va_P D cl [(mo, .inr (6, [.int 0, .int 0, .ref a1, .ref a2, .ref a3, .ref a4, .ref a5, .ref a6, .ref a7, .ref a8, .ref a9, .int 0, .ref a10, .ref a11, .ref a12, .ref a13, .ref a14, .ref a15, .int 0, .ref a16, .int 1, .int 1, .int 0, .ref a17, .ref a18, .ref a19, .int 0, .int 0, .int 0, .int 0])), (a1, .inl (cI, 12, .inl (fun _ => 0))), (a2, .inl (cI, 12, .inl (fun _ => 0))), (a3, .inl (cI, 12, .inl (fun _ => 0)))] H := hP
    have hD : va_D A [(mo, .inr (6, [.int 0, .int 0, .ref a1, .ref a2, .ref a3, .ref a4, .ref a5, .ref a6, .ref a7, .ref a8, .ref a9, .int 0, .ref a10, .ref a11, .ref a12, .ref a13, .ref a14, .ref a15, .int 0, .ref a16, .int 1, .int 1, .int 0, .ref a17, .ref a18, .ref a19, .int 0, .int 0, .int 0, .int 0])), (a1, .inl (cI, 12, .inl (fun _ => 0))), (a2, .inl (cI, 12, .inl (fun _ => 0))), (a3, .inl (cI, 12, .inl (fun _ => 0)))] := hD
    refine lv_if_ne (tgt := 44) hx hb d_Mo_edge_17 (by decide) (fun b17 => ?_) (fun b17 => ?_)
    · first | exact absurd (xO0 h.1) b7 | exact absurd (xO0 (xFl_in h.2.1)) b17 | exact absurd (xFl_alt h.2.1) (fun e => e.elim b23 b28) | exact absurd (xO0 h.2.2) b37
    · refine lv_iload_n hx hb d_Mo_edge_20 rfl (lv_at hl 2 rfl) ?_
      refine lv_iconst (v := 2) hx hb d_Mo_edge_21 (by decide) ?_
      refine lv_irem hx hb d_Mo_edge_22 (by decide) ?_
      refine lv_if_eq (tgt := 31) hx hb d_Mo_edge_23 (by decide) (fun b23 => ?_) (fun b23 => ?_)
      · refine lv_iload_n hx hb d_Mo_edge_31 rfl (lv_at hl 3 rfl) ?_
        refine lv_iconst (v := 0) hx hb d_Mo_edge_32 (by decide) ?_
        refine lv_iconst (v := 2) hx hb d_Mo_edge_33 (by decide) ?_
        have hPc := hP.sub (ws' := []) [] rfl
        have hDc := hD.sub (ws' := []) [] (by decide) rfl
        have hKc := hK.sub (tys' := []) [] rfl
        refine xgi (wsC := []) (wr := [(mo, .inr (6, [.int 0, .int 0, .ref a1, .ref a2, .ref a3, .ref a4, .ref a5, .ref a6, .ref a7, .ref a8, .ref a9, .int 0, .ref a10, .ref a11, .ref a12, .ref a13, .ref a14, .ref a15, .int 0, .ref a16, .int 1, .int 1, .int 0, .ref a17, .ref a18, .ref a19, .int 0, .int 0, .int 0, .int 0])), (a1, .inl (cI, 12, .inl (fun _ => 0))), (a2, .inl (cI, 12, .inl (fun _ => 0))), (a3, .inl (cI, 12, .inl (fun _ => 0)))]) (va_runS (As := [.int z, .int 0, .int 2]) (rest := []) ⟨hx, hb, hml, hown, hts⟩ (c_Mo_outside l  D z 0 2 _ ) ⟨(callB_of 3 hts (x_good k_Mo_outside) rfl rfl rfl (hts _ (List.mem_cons_of_mem _ tw_8)) (hts _ (List.mem_cons_of_mem _ tw_765)) (by decide +kernel) ⟨Nat.le_of_ble_eq_true rfl, Nat.le_of_ble_eq_true rfl⟩), (hts _ (List.mem_cons_of_mem _ tw_766))⟩ (xP_S hPc hKc hDc hAm hTh hAs hS) rfl rfl hl.1 rfl (lv_room (Nat.le_of_ble_eq_true rfl)) d_Mo_edge_34 ⟨Nat.le_of_ble_eq_true rfl, Nat.le_of_ble_eq_true rfl⟩) hP hD hK hS hA [] [0, 1, 2, 3] rfl rfl (by decide) (by decide) (fun r3 _ H locs er3 hP hD hK hS => ?_)
        have er3 : r3 = xOut z 0 2 := er3
        subst er3
        have hK : va_K D cl [(cI, .int)] s := hK
        have hP : va_P D cl [(mo, .inr (6, [.int 0, .int 0, .ref a1, .ref a2, .ref a3, .ref a4, .ref a5, .ref a6, .ref a7, .ref a8, .ref a9, .int 0, .ref a10, .ref a11, .ref a12, .ref a13, .ref a14, .ref a15, .int 0, .ref a16, .int 1, .int 1, .int 0, .ref a17, .ref a18, .ref a19, .int 0, .int 0, .int 0, .int 0])), (a1, .inl (cI, 12, .inl (fun _ => 0))), (a2, .inl (cI, 12, .inl (fun _ => 0))), (a3, .inl (cI, 12, .inl (fun _ => 0)))] H := hP
        have hD : va_D A [(mo, .inr (6, [.int 0, .int 0, .ref a1, .ref a2, .ref a3, .ref a4, .ref a5, .ref a6, .ref a7, .ref a8, .ref a9, .int 0, .ref a10, .ref a11, .ref a12, .ref a13, .ref a14, .ref a15, .int 0, .ref a16, .int 1, .int 1, .int 0, .ref a17, .ref a18, .ref a19, .int 0, .int 0, .int 0, .int 0])), (a1, .inl (cI, 12, .inl (fun _ => 0))), (a2, .inl (cI, 12, .inl (fun _ => 0))), (a3, .inl (cI, 12, .inl (fun _ => 0)))] := hD
        refine lv_if_ne (tgt := 44) hx hb d_Mo_edge_37 (by decide) (fun b37 => ?_) (fun b37 => ?_)
        · first | exact absurd (xO0 h.1) b7 | exact absurd (xO0 (xFl_in h.2.1)) b17 | exact absurd (xFl_alt h.2.1) (fun e => e.elim b23 b28) | exact absurd (xO0 h.2.2) b37
        · refine lv_iconst (v := 1) hx hb d_Mo_edge_40 (by decide) ?_
          refine lv_goto (tgt := 45) hx hb d_Mo_edge_41 (by decide) ?_
          refine lv_istore hx hb d_Mo_edge_45 hl (by decide) rfl (fun ls hl => ?_)
          have hl : lv_has ls 5 [(4, .int 1), (0, .ref mo), (1, .int x), (2, .int y), (3, .int z)] := hl
          refine lv_aload_n hx hb d_Mo_edge_47 rfl (lv_at hl 1 rfl) ?_
          refine lv_iload hx hb d_Mo_edge_48 (lv_at hl 0 rfl) ?_
          refine lv_if_ne (tgt := 57) hx hb d_Mo_edge_50 (by decide) (fun b50 => ?_) (fun b50 => absurd b50 (by decide))
          refine lv_aload_n hx hb d_Mo_edge_57 rfl (lv_at hl 1 rfl) ?_
          refine va_get (D := D) (ci := 6) (v := .int 0) (C := R_Mo) (T := F_Mo) (N := 30) hx hb hts (fun w h => List.mem_cons_of_mem _ (u_Mo w h)) hown hK hP 0 rfl rfl 29 (by decide) (hts _ (List.mem_cons_of_mem _ tw_694)) (fun _ h9 => h9) rfl d_Mo_edge_58 ?_
          refine lv_if_ne (tgt := 73) hx hb d_Mo_edge_61 (by decide) (fun b61 => absurd b61 (by decide)) (fun b61 => ?_)
          refine lv_aload_n hx hb d_Mo_edge_64 rfl (lv_at hl 1 rfl) ?_
          refine va_get (D := D) (ci := 6) (v := .int 0) (C := R_Mo) (T := F_Mo) (N := 30) hx hb hts (fun w h => List.mem_cons_of_mem _ (u_Mo w h)) hown hK hP 0 rfl rfl 1 (by decide) (hts _ (List.mem_cons_of_mem _ tw_666)) (fun _ h9 => h9) rfl d_Mo_edge_65 ?_
          refine lv_bipush (v := 12) hx hb d_Mo_edge_68 (by decide) ?_
          refine lv_icmp_ne (tgt := 77) hx hb d_Mo_edge_70 (by decide) (fun b70 => ?_) (fun b70 => absurd b70 (by decide))
          refine lv_iconst (v := 0) hx hb d_Mo_edge_77 (by decide) ?_
          refine va_put (D := D) (ci := 6) (v := .int 0) (ty := .int) (C := R_Mo) (T := F_Mo) (N := 30) hx hb hts (fun w h => List.mem_cons_of_mem _ (u_Mo w h)) t_Mo o_Mo n_Mo hown hK hP hD hS 0 rfl rfl 0 (by decide) (hts _ (List.mem_cons_of_mem _ tw_665)) (fun _ h9 => h9) rfl (by decide +kernel) rfl rfl (Nat.le_of_ble_eq_true rfl) d_Mo_edge_78 (fun H locs hP hD hS => ?_)
          have hP : va_P D cl [(mo, .inr (6, [.int 0, .int 0, .ref a1, .ref a2, .ref a3, .ref a4, .ref a5, .ref a6, .ref a7, .ref a8, .ref a9, .int 0, .ref a10, .ref a11, .ref a12, .ref a13, .ref a14, .ref a15, .int 0, .ref a16, .int 1, .int 1, .int 0, .ref a17, .ref a18, .ref a19, .int 0, .int 0, .int 0, .int 0])), (a1, .inl (cI, 12, .inl (fun _ => 0))), (a2, .inl (cI, 12, .inl (fun _ => 0))), (a3, .inl (cI, 12, .inl (fun _ => 0)))] H := hP
          have hD : va_D A [(mo, .inr (6, [.int 0, .int 0, .ref a1, .ref a2, .ref a3, .ref a4, .ref a5, .ref a6, .ref a7, .ref a8, .ref a9, .int 0, .ref a10, .ref a11, .ref a12, .ref a13, .ref a14, .ref a15, .int 0, .ref a16, .int 1, .int 1, .int 0, .ref a17, .ref a18, .ref a19, .int 0, .int 0, .int 0, .int 0])), (a1, .inl (cI, 12, .inl (fun _ => 0))), (a2, .inl (cI, 12, .inl (fun _ => 0))), (a3, .inl (cI, 12, .inl (fun _ => 0)))] := hD
          refine lv_aload_n hx hb d_Mo_edge_81 rfl (lv_at hl 1 rfl) ?_
          refine va_get (D := D) (ci := 6) (v := .int 0) (C := R_Mo) (T := F_Mo) (N := 30) hx hb hts (fun w h => List.mem_cons_of_mem _ (u_Mo w h)) hown hK hP 0 rfl rfl 0 (by decide) (hts _ (List.mem_cons_of_mem _ tw_665)) (fun _ h9 => h9) rfl d_Mo_edge_82 ?_
          refine lv_if_le (tgt := 90) hx hb d_Mo_edge_85 (by decide) (fun b85 => ?_) (fun b85 => absurd b85 (by decide))
          refine lv_aload_n hx hb d_Mo_edge_90 rfl (lv_at hl 1 rfl) ?_
          refine va_get (D := D) (ci := 6) (v := .ref a1) (C := R_Mo) (T := F_Mo) (N := 30) hx hb hts (fun w h => List.mem_cons_of_mem _ (u_Mo w h)) hown hK hP 0 rfl rfl 2 (by decide) (hts _ (List.mem_cons_of_mem _ tw_667)) (fun _ h9 => h9) rfl d_Mo_edge_91 ?_
          refine lv_aload_n hx hb d_Mo_edge_94 rfl (lv_at hl 1 rfl) ?_
          refine va_get (D := D) (ci := 6) (v := .int 0) (C := R_Mo) (T := F_Mo) (N := 30) hx hb hts (fun w h => List.mem_cons_of_mem _ (u_Mo w h)) hown hK hP 0 rfl rfl 1 (by decide) (hts _ (List.mem_cons_of_mem _ tw_666)) (fun _ h9 => h9) rfl d_Mo_edge_95 ?_
          refine lv_iload_n hx hb d_Mo_edge_98 rfl (lv_at hl 2 rfl) ?_
          refine va_iast hx hb hK hP hD hS 1 0 rfl rfl (by unfold vp_in; decide) d_Mo_edge_99 (fun H locs hP hD hS => ?_)
          have hP : va_P D cl [(mo, .inr (6, [.int 0, .int 0, .ref a1, .ref a2, .ref a3, .ref a4, .ref a5, .ref a6, .ref a7, .ref a8, .ref a9, .int 0, .ref a10, .ref a11, .ref a12, .ref a13, .ref a14, .ref a15, .int 0, .ref a16, .int 1, .int 1, .int 0, .ref a17, .ref a18, .ref a19, .int 0, .int 0, .int 0, .int 0])), (a1, .inl (cI, 12, .inl (upd (fun _ => 0) (0 : Int32).toNatClampNeg x))), (a2, .inl (cI, 12, .inl (fun _ => 0))), (a3, .inl (cI, 12, .inl (fun _ => 0)))] H := hP
          have hD : va_D A [(mo, .inr (6, [.int 0, .int 0, .ref a1, .ref a2, .ref a3, .ref a4, .ref a5, .ref a6, .ref a7, .ref a8, .ref a9, .int 0, .ref a10, .ref a11, .ref a12, .ref a13, .ref a14, .ref a15, .int 0, .ref a16, .int 1, .int 1, .int 0, .ref a17, .ref a18, .ref a19, .int 0, .int 0, .int 0, .int 0])), (a1, .inl (cI, 12, .inl (upd (fun _ => 0) (0 : Int32).toNatClampNeg x))), (a2, .inl (cI, 12, .inl (fun _ => 0))), (a3, .inl (cI, 12, .inl (fun _ => 0)))] := hD
          refine lv_aload_n hx hb d_Mo_edge_100 rfl (lv_at hl 1 rfl) ?_
          refine va_get (D := D) (ci := 6) (v := .ref a2) (C := R_Mo) (T := F_Mo) (N := 30) hx hb hts (fun w h => List.mem_cons_of_mem _ (u_Mo w h)) hown hK hP 0 rfl rfl 3 (by decide) (hts _ (List.mem_cons_of_mem _ tw_668)) (fun _ h9 => h9) rfl d_Mo_edge_101 ?_
          refine lv_aload_n hx hb d_Mo_edge_104 rfl (lv_at hl 1 rfl) ?_
          refine va_get (D := D) (ci := 6) (v := .int 0) (C := R_Mo) (T := F_Mo) (N := 30) hx hb hts (fun w h => List.mem_cons_of_mem _ (u_Mo w h)) hown hK hP 0 rfl rfl 1 (by decide) (hts _ (List.mem_cons_of_mem _ tw_666)) (fun _ h9 => h9) rfl d_Mo_edge_105 ?_
          refine lv_iload_n hx hb d_Mo_edge_108 rfl (lv_at hl 3 rfl) ?_
          refine va_iast hx hb hK hP hD hS 2 0 rfl rfl (by unfold vp_in; decide) d_Mo_edge_109 (fun H locs hP hD hS => ?_)
          have hP : va_P D cl [(mo, .inr (6, [.int 0, .int 0, .ref a1, .ref a2, .ref a3, .ref a4, .ref a5, .ref a6, .ref a7, .ref a8, .ref a9, .int 0, .ref a10, .ref a11, .ref a12, .ref a13, .ref a14, .ref a15, .int 0, .ref a16, .int 1, .int 1, .int 0, .ref a17, .ref a18, .ref a19, .int 0, .int 0, .int 0, .int 0])), (a1, .inl (cI, 12, .inl (upd (fun _ => 0) (0 : Int32).toNatClampNeg x))), (a2, .inl (cI, 12, .inl (upd (fun _ => 0) (0 : Int32).toNatClampNeg y))), (a3, .inl (cI, 12, .inl (fun _ => 0)))] H := hP
          have hD : va_D A [(mo, .inr (6, [.int 0, .int 0, .ref a1, .ref a2, .ref a3, .ref a4, .ref a5, .ref a6, .ref a7, .ref a8, .ref a9, .int 0, .ref a10, .ref a11, .ref a12, .ref a13, .ref a14, .ref a15, .int 0, .ref a16, .int 1, .int 1, .int 0, .ref a17, .ref a18, .ref a19, .int 0, .int 0, .int 0, .int 0])), (a1, .inl (cI, 12, .inl (upd (fun _ => 0) (0 : Int32).toNatClampNeg x))), (a2, .inl (cI, 12, .inl (upd (fun _ => 0) (0 : Int32).toNatClampNeg y))), (a3, .inl (cI, 12, .inl (fun _ => 0)))] := hD
          refine lv_aload_n hx hb d_Mo_edge_110 rfl (lv_at hl 1 rfl) ?_
          refine va_get (D := D) (ci := 6) (v := .ref a3) (C := R_Mo) (T := F_Mo) (N := 30) hx hb hts (fun w h => List.mem_cons_of_mem _ (u_Mo w h)) hown hK hP 0 rfl rfl 4 (by decide) (hts _ (List.mem_cons_of_mem _ tw_669)) (fun _ h9 => h9) rfl d_Mo_edge_111 ?_
          refine lv_aload_n hx hb d_Mo_edge_114 rfl (lv_at hl 1 rfl) ?_
          refine va_get (D := D) (ci := 6) (v := .int 0) (C := R_Mo) (T := F_Mo) (N := 30) hx hb hts (fun w h => List.mem_cons_of_mem _ (u_Mo w h)) hown hK hP 0 rfl rfl 1 (by decide) (hts _ (List.mem_cons_of_mem _ tw_666)) (fun _ h9 => h9) rfl d_Mo_edge_115 ?_
          refine lv_iload_n hx hb d_Mo_edge_118 rfl (lv_at hl 4 rfl) ?_
          refine va_iast hx hb hK hP hD hS 3 0 rfl rfl (by unfold vp_in; decide) d_Mo_edge_119 (fun H locs hP hD hS => ?_)
          have hP : va_P D cl [(mo, .inr (6, [.int 0, .int 0, .ref a1, .ref a2, .ref a3, .ref a4, .ref a5, .ref a6, .ref a7, .ref a8, .ref a9, .int 0, .ref a10, .ref a11, .ref a12, .ref a13, .ref a14, .ref a15, .int 0, .ref a16, .int 1, .int 1, .int 0, .ref a17, .ref a18, .ref a19, .int 0, .int 0, .int 0, .int 0])), (a1, .inl (cI, 12, .inl (upd (fun _ => 0) (0 : Int32).toNatClampNeg x))), (a2, .inl (cI, 12, .inl (upd (fun _ => 0) (0 : Int32).toNatClampNeg y))), (a3, .inl (cI, 12, .inl (upd (fun _ => 0) (0 : Int32).toNatClampNeg z)))] H := hP
          have hD : va_D A [(mo, .inr (6, [.int 0, .int 0, .ref a1, .ref a2, .ref a3, .ref a4, .ref a5, .ref a6, .ref a7, .ref a8, .ref a9, .int 0, .ref a10, .ref a11, .ref a12, .ref a13, .ref a14, .ref a15, .int 0, .ref a16, .int 1, .int 1, .int 0, .ref a17, .ref a18, .ref a19, .int 0, .int 0, .int 0, .int 0])), (a1, .inl (cI, 12, .inl (upd (fun _ => 0) (0 : Int32).toNatClampNeg x))), (a2, .inl (cI, 12, .inl (upd (fun _ => 0) (0 : Int32).toNatClampNeg y))), (a3, .inl (cI, 12, .inl (upd (fun _ => 0) (0 : Int32).toNatClampNeg z)))] := hD
          refine lv_aload_n hx hb d_Mo_edge_120 rfl (lv_at hl 1 rfl) ?_
          refine lv_dup hx hb d_Mo_edge_121 rfl ?_
          refine va_get (D := D) (ci := 6) (v := .int 0) (C := R_Mo) (T := F_Mo) (N := 30) hx hb hts (fun w h => List.mem_cons_of_mem _ (u_Mo w h)) hown hK hP 0 rfl rfl 1 (by decide) (hts _ (List.mem_cons_of_mem _ tw_666)) (fun _ h9 => h9) rfl d_Mo_edge_122 ?_
          refine lv_iconst (v := 1) hx hb d_Mo_edge_125 (by decide) ?_
          refine lv_iadd hx hb d_Mo_edge_126 ?_
          refine xnum (v := 1) (by decide) ?_
          refine va_put (D := D) (ci := 6) (v := .int 1) (ty := .int) (C := R_Mo) (T := F_Mo) (N := 30) hx hb hts (fun w h => List.mem_cons_of_mem _ (u_Mo w h)) t_Mo o_Mo n_Mo hown hK hP hD hS 0 rfl rfl 1 (by decide) (hts _ (List.mem_cons_of_mem _ tw_666)) (fun _ h9 => h9) rfl (by decide +kernel) rfl rfl (Nat.le_of_ble_eq_true rfl) d_Mo_edge_127 (fun H locs hP hD hS => ?_)
          have hP : va_P D cl [(mo, .inr (6, [.int 0, .int 1, .ref a1, .ref a2, .ref a3, .ref a4, .ref a5, .ref a6, .ref a7, .ref a8, .ref a9, .int 0, .ref a10, .ref a11, .ref a12, .ref a13, .ref a14, .ref a15, .int 0, .ref a16, .int 1, .int 1, .int 0, .ref a17, .ref a18, .ref a19, .int 0, .int 0, .int 0, .int 0])), (a1, .inl (cI, 12, .inl (upd (fun _ => 0) (0 : Int32).toNatClampNeg x))), (a2, .inl (cI, 12, .inl (upd (fun _ => 0) (0 : Int32).toNatClampNeg y))), (a3, .inl (cI, 12, .inl (upd (fun _ => 0) (0 : Int32).toNatClampNeg z)))] H := hP
          have hD : va_D A [(mo, .inr (6, [.int 0, .int 1, .ref a1, .ref a2, .ref a3, .ref a4, .ref a5, .ref a6, .ref a7, .ref a8, .ref a9, .int 0, .ref a10, .ref a11, .ref a12, .ref a13, .ref a14, .ref a15, .int 0, .ref a16, .int 1, .int 1, .int 0, .ref a17, .ref a18, .ref a19, .int 0, .int 0, .int 0, .int 0])), (a1, .inl (cI, 12, .inl (upd (fun _ => 0) (0 : Int32).toNatClampNeg x))), (a2, .inl (cI, 12, .inl (upd (fun _ => 0) (0 : Int32).toNatClampNeg y))), (a3, .inl (cI, 12, .inl (upd (fun _ => 0) (0 : Int32).toNatClampNeg z)))] := hD
          refine lv_aload_n hx hb d_Mo_edge_130 rfl (lv_at hl 1 rfl) ?_
          refine va_get (D := D) (ci := 6) (v := .int 1) (C := R_Mo) (T := F_Mo) (N := 30) hx hb hts (fun w h => List.mem_cons_of_mem _ (u_Mo w h)) hown hK hP 0 rfl rfl 1 (by decide) (hts _ (List.mem_cons_of_mem _ tw_666)) (fun _ h9 => h9) rfl d_Mo_edge_131 ?_
          refine lv_iconst (v := 1) hx hb d_Mo_edge_134 (by decide) ?_
          refine lv_isub hx hb d_Mo_edge_135 ?_
          refine xnum (v := 0) (by decide) ?_
          exact xri () B d_Mo_edge_136 (rfl) (hP.sub (ws' := [(mo, .inr (6, [.int 0, .int 1, .ref a1, .ref a2, .ref a3, .ref a4, .ref a5, .ref a6, .ref a7, .ref a8, .ref a9, .int 0, .ref a10, .ref a11, .ref a12, .ref a13, .ref a14, .ref a15, .int 0, .ref a16, .int 1, .int 1, .int 0, .ref a17, .ref a18, .ref a19, .int 0, .int 0, .int 0, .int 0]))]) [0] rfl) (hK.sub (tys' := []) [] rfl) (hD.sub (ws' := [(mo, .inr (6, [.int 0, .int 1, .ref a1, .ref a2, .ref a3, .ref a4, .ref a5, .ref a6, .ref a7, .ref a8, .ref a9, .int 0, .ref a10, .ref a11, .ref a12, .ref a13, .ref a14, .ref a15, .int 0, .ref a16, .int 1, .int 1, .int 0, .ref a17, .ref a18, .ref a19, .int 0, .int 0, .int 0, .int 0]))]) [0] (by decide) rfl) hS (Nat.le_of_ble_eq_true rfl) (Nat.le_of_ble_eq_true rfl)
      · refine lv_iload_n hx hb d_Mo_edge_26 rfl (lv_at hl 2 rfl) ?_
        refine lv_iconst (v := 1) hx hb d_Mo_edge_27 (by decide) ?_
        refine lv_icmp_ne (tgt := 44) hx hb d_Mo_edge_28 (by decide) (fun b28 => ?_) (fun b28 => ?_)
        · first | exact absurd (xO0 h.1) b7 | exact absurd (xO0 (xFl_in h.2.1)) b17 | exact absurd (xFl_alt h.2.1) (fun e => e.elim b23 b28) | exact absurd (xO0 h.2.2) b37
        · refine lv_iload_n hx hb d_Mo_edge_31 rfl (lv_at hl 3 rfl) ?_
          refine lv_iconst (v := 0) hx hb d_Mo_edge_32 (by decide) ?_
          refine lv_iconst (v := 2) hx hb d_Mo_edge_33 (by decide) ?_
          have hPc := hP.sub (ws' := []) [] rfl
          have hDc := hD.sub (ws' := []) [] (by decide) rfl
          have hKc := hK.sub (tys' := []) [] rfl
          refine xgi (wsC := []) (wr := [(mo, .inr (6, [.int 0, .int 0, .ref a1, .ref a2, .ref a3, .ref a4, .ref a5, .ref a6, .ref a7, .ref a8, .ref a9, .int 0, .ref a10, .ref a11, .ref a12, .ref a13, .ref a14, .ref a15, .int 0, .ref a16, .int 1, .int 1, .int 0, .ref a17, .ref a18, .ref a19, .int 0, .int 0, .int 0, .int 0])), (a1, .inl (cI, 12, .inl (fun _ => 0))), (a2, .inl (cI, 12, .inl (fun _ => 0))), (a3, .inl (cI, 12, .inl (fun _ => 0)))]) (va_runS (As := [.int z, .int 0, .int 2]) (rest := []) ⟨hx, hb, hml, hown, hts⟩ (c_Mo_outside l  D z 0 2 _ ) ⟨(callB_of 3 hts (x_good k_Mo_outside) rfl rfl rfl (hts _ (List.mem_cons_of_mem _ tw_8)) (hts _ (List.mem_cons_of_mem _ tw_765)) (by decide +kernel) ⟨Nat.le_of_ble_eq_true rfl, Nat.le_of_ble_eq_true rfl⟩), (hts _ (List.mem_cons_of_mem _ tw_766))⟩ (xP_S hPc hKc hDc hAm hTh hAs hS) rfl rfl hl.1 rfl (lv_room (Nat.le_of_ble_eq_true rfl)) d_Mo_edge_34 ⟨Nat.le_of_ble_eq_true rfl, Nat.le_of_ble_eq_true rfl⟩) hP hD hK hS hA [] [0, 1, 2, 3] rfl rfl (by decide) (by decide) (fun r4 _ H locs er4 hP hD hK hS => ?_)
          have er4 : r4 = xOut z 0 2 := er4
          subst er4
          have hK : va_K D cl [(cI, .int)] s := hK
          have hP : va_P D cl [(mo, .inr (6, [.int 0, .int 0, .ref a1, .ref a2, .ref a3, .ref a4, .ref a5, .ref a6, .ref a7, .ref a8, .ref a9, .int 0, .ref a10, .ref a11, .ref a12, .ref a13, .ref a14, .ref a15, .int 0, .ref a16, .int 1, .int 1, .int 0, .ref a17, .ref a18, .ref a19, .int 0, .int 0, .int 0, .int 0])), (a1, .inl (cI, 12, .inl (fun _ => 0))), (a2, .inl (cI, 12, .inl (fun _ => 0))), (a3, .inl (cI, 12, .inl (fun _ => 0)))] H := hP
          have hD : va_D A [(mo, .inr (6, [.int 0, .int 0, .ref a1, .ref a2, .ref a3, .ref a4, .ref a5, .ref a6, .ref a7, .ref a8, .ref a9, .int 0, .ref a10, .ref a11, .ref a12, .ref a13, .ref a14, .ref a15, .int 0, .ref a16, .int 1, .int 1, .int 0, .ref a17, .ref a18, .ref a19, .int 0, .int 0, .int 0, .int 0])), (a1, .inl (cI, 12, .inl (fun _ => 0))), (a2, .inl (cI, 12, .inl (fun _ => 0))), (a3, .inl (cI, 12, .inl (fun _ => 0)))] := hD
          refine lv_if_ne (tgt := 44) hx hb d_Mo_edge_37 (by decide) (fun b37 => ?_) (fun b37 => ?_)
          · first | exact absurd (xO0 h.1) b7 | exact absurd (xO0 (xFl_in h.2.1)) b17 | exact absurd (xFl_alt h.2.1) (fun e => e.elim b23 b28) | exact absurd (xO0 h.2.2) b37
          · refine lv_iconst (v := 1) hx hb d_Mo_edge_40 (by decide) ?_
            refine lv_goto (tgt := 45) hx hb d_Mo_edge_41 (by decide) ?_
            refine lv_istore hx hb d_Mo_edge_45 hl (by decide) rfl (fun ls hl => ?_)
            have hl : lv_has ls 5 [(4, .int 1), (0, .ref mo), (1, .int x), (2, .int y), (3, .int z)] := hl
            refine lv_aload_n hx hb d_Mo_edge_47 rfl (lv_at hl 1 rfl) ?_
            refine lv_iload hx hb d_Mo_edge_48 (lv_at hl 0 rfl) ?_
            refine lv_if_ne (tgt := 57) hx hb d_Mo_edge_50 (by decide) (fun b50 => ?_) (fun b50 => absurd b50 (by decide))
            refine lv_aload_n hx hb d_Mo_edge_57 rfl (lv_at hl 1 rfl) ?_
            refine va_get (D := D) (ci := 6) (v := .int 0) (C := R_Mo) (T := F_Mo) (N := 30) hx hb hts (fun w h => List.mem_cons_of_mem _ (u_Mo w h)) hown hK hP 0 rfl rfl 29 (by decide) (hts _ (List.mem_cons_of_mem _ tw_694)) (fun _ h9 => h9) rfl d_Mo_edge_58 ?_
            refine lv_if_ne (tgt := 73) hx hb d_Mo_edge_61 (by decide) (fun b61 => absurd b61 (by decide)) (fun b61 => ?_)
            refine lv_aload_n hx hb d_Mo_edge_64 rfl (lv_at hl 1 rfl) ?_
            refine va_get (D := D) (ci := 6) (v := .int 0) (C := R_Mo) (T := F_Mo) (N := 30) hx hb hts (fun w h => List.mem_cons_of_mem _ (u_Mo w h)) hown hK hP 0 rfl rfl 1 (by decide) (hts _ (List.mem_cons_of_mem _ tw_666)) (fun _ h9 => h9) rfl d_Mo_edge_65 ?_
            refine lv_bipush (v := 12) hx hb d_Mo_edge_68 (by decide) ?_
            refine lv_icmp_ne (tgt := 77) hx hb d_Mo_edge_70 (by decide) (fun b70 => ?_) (fun b70 => absurd b70 (by decide))
            refine lv_iconst (v := 0) hx hb d_Mo_edge_77 (by decide) ?_
            refine va_put (D := D) (ci := 6) (v := .int 0) (ty := .int) (C := R_Mo) (T := F_Mo) (N := 30) hx hb hts (fun w h => List.mem_cons_of_mem _ (u_Mo w h)) t_Mo o_Mo n_Mo hown hK hP hD hS 0 rfl rfl 0 (by decide) (hts _ (List.mem_cons_of_mem _ tw_665)) (fun _ h9 => h9) rfl (by decide +kernel) rfl rfl (Nat.le_of_ble_eq_true rfl) d_Mo_edge_78 (fun H locs hP hD hS => ?_)
            have hP : va_P D cl [(mo, .inr (6, [.int 0, .int 0, .ref a1, .ref a2, .ref a3, .ref a4, .ref a5, .ref a6, .ref a7, .ref a8, .ref a9, .int 0, .ref a10, .ref a11, .ref a12, .ref a13, .ref a14, .ref a15, .int 0, .ref a16, .int 1, .int 1, .int 0, .ref a17, .ref a18, .ref a19, .int 0, .int 0, .int 0, .int 0])), (a1, .inl (cI, 12, .inl (fun _ => 0))), (a2, .inl (cI, 12, .inl (fun _ => 0))), (a3, .inl (cI, 12, .inl (fun _ => 0)))] H := hP
            have hD : va_D A [(mo, .inr (6, [.int 0, .int 0, .ref a1, .ref a2, .ref a3, .ref a4, .ref a5, .ref a6, .ref a7, .ref a8, .ref a9, .int 0, .ref a10, .ref a11, .ref a12, .ref a13, .ref a14, .ref a15, .int 0, .ref a16, .int 1, .int 1, .int 0, .ref a17, .ref a18, .ref a19, .int 0, .int 0, .int 0, .int 0])), (a1, .inl (cI, 12, .inl (fun _ => 0))), (a2, .inl (cI, 12, .inl (fun _ => 0))), (a3, .inl (cI, 12, .inl (fun _ => 0)))] := hD
            refine lv_aload_n hx hb d_Mo_edge_81 rfl (lv_at hl 1 rfl) ?_
            refine va_get (D := D) (ci := 6) (v := .int 0) (C := R_Mo) (T := F_Mo) (N := 30) hx hb hts (fun w h => List.mem_cons_of_mem _ (u_Mo w h)) hown hK hP 0 rfl rfl 0 (by decide) (hts _ (List.mem_cons_of_mem _ tw_665)) (fun _ h9 => h9) rfl d_Mo_edge_82 ?_
            refine lv_if_le (tgt := 90) hx hb d_Mo_edge_85 (by decide) (fun b85 => ?_) (fun b85 => absurd b85 (by decide))
            refine lv_aload_n hx hb d_Mo_edge_90 rfl (lv_at hl 1 rfl) ?_
            refine va_get (D := D) (ci := 6) (v := .ref a1) (C := R_Mo) (T := F_Mo) (N := 30) hx hb hts (fun w h => List.mem_cons_of_mem _ (u_Mo w h)) hown hK hP 0 rfl rfl 2 (by decide) (hts _ (List.mem_cons_of_mem _ tw_667)) (fun _ h9 => h9) rfl d_Mo_edge_91 ?_
            refine lv_aload_n hx hb d_Mo_edge_94 rfl (lv_at hl 1 rfl) ?_
            refine va_get (D := D) (ci := 6) (v := .int 0) (C := R_Mo) (T := F_Mo) (N := 30) hx hb hts (fun w h => List.mem_cons_of_mem _ (u_Mo w h)) hown hK hP 0 rfl rfl 1 (by decide) (hts _ (List.mem_cons_of_mem _ tw_666)) (fun _ h9 => h9) rfl d_Mo_edge_95 ?_
            refine lv_iload_n hx hb d_Mo_edge_98 rfl (lv_at hl 2 rfl) ?_
            refine va_iast hx hb hK hP hD hS 1 0 rfl rfl (by unfold vp_in; decide) d_Mo_edge_99 (fun H locs hP hD hS => ?_)
            have hP : va_P D cl [(mo, .inr (6, [.int 0, .int 0, .ref a1, .ref a2, .ref a3, .ref a4, .ref a5, .ref a6, .ref a7, .ref a8, .ref a9, .int 0, .ref a10, .ref a11, .ref a12, .ref a13, .ref a14, .ref a15, .int 0, .ref a16, .int 1, .int 1, .int 0, .ref a17, .ref a18, .ref a19, .int 0, .int 0, .int 0, .int 0])), (a1, .inl (cI, 12, .inl (upd (fun _ => 0) (0 : Int32).toNatClampNeg x))), (a2, .inl (cI, 12, .inl (fun _ => 0))), (a3, .inl (cI, 12, .inl (fun _ => 0)))] H := hP
            have hD : va_D A [(mo, .inr (6, [.int 0, .int 0, .ref a1, .ref a2, .ref a3, .ref a4, .ref a5, .ref a6, .ref a7, .ref a8, .ref a9, .int 0, .ref a10, .ref a11, .ref a12, .ref a13, .ref a14, .ref a15, .int 0, .ref a16, .int 1, .int 1, .int 0, .ref a17, .ref a18, .ref a19, .int 0, .int 0, .int 0, .int 0])), (a1, .inl (cI, 12, .inl (upd (fun _ => 0) (0 : Int32).toNatClampNeg x))), (a2, .inl (cI, 12, .inl (fun _ => 0))), (a3, .inl (cI, 12, .inl (fun _ => 0)))] := hD
            refine lv_aload_n hx hb d_Mo_edge_100 rfl (lv_at hl 1 rfl) ?_
            refine va_get (D := D) (ci := 6) (v := .ref a2) (C := R_Mo) (T := F_Mo) (N := 30) hx hb hts (fun w h => List.mem_cons_of_mem _ (u_Mo w h)) hown hK hP 0 rfl rfl 3 (by decide) (hts _ (List.mem_cons_of_mem _ tw_668)) (fun _ h9 => h9) rfl d_Mo_edge_101 ?_
            refine lv_aload_n hx hb d_Mo_edge_104 rfl (lv_at hl 1 rfl) ?_
            refine va_get (D := D) (ci := 6) (v := .int 0) (C := R_Mo) (T := F_Mo) (N := 30) hx hb hts (fun w h => List.mem_cons_of_mem _ (u_Mo w h)) hown hK hP 0 rfl rfl 1 (by decide) (hts _ (List.mem_cons_of_mem _ tw_666)) (fun _ h9 => h9) rfl d_Mo_edge_105 ?_
            refine lv_iload_n hx hb d_Mo_edge_108 rfl (lv_at hl 3 rfl) ?_
            refine va_iast hx hb hK hP hD hS 2 0 rfl rfl (by unfold vp_in; decide) d_Mo_edge_109 (fun H locs hP hD hS => ?_)
            have hP : va_P D cl [(mo, .inr (6, [.int 0, .int 0, .ref a1, .ref a2, .ref a3, .ref a4, .ref a5, .ref a6, .ref a7, .ref a8, .ref a9, .int 0, .ref a10, .ref a11, .ref a12, .ref a13, .ref a14, .ref a15, .int 0, .ref a16, .int 1, .int 1, .int 0, .ref a17, .ref a18, .ref a19, .int 0, .int 0, .int 0, .int 0])), (a1, .inl (cI, 12, .inl (upd (fun _ => 0) (0 : Int32).toNatClampNeg x))), (a2, .inl (cI, 12, .inl (upd (fun _ => 0) (0 : Int32).toNatClampNeg y))), (a3, .inl (cI, 12, .inl (fun _ => 0)))] H := hP
            have hD : va_D A [(mo, .inr (6, [.int 0, .int 0, .ref a1, .ref a2, .ref a3, .ref a4, .ref a5, .ref a6, .ref a7, .ref a8, .ref a9, .int 0, .ref a10, .ref a11, .ref a12, .ref a13, .ref a14, .ref a15, .int 0, .ref a16, .int 1, .int 1, .int 0, .ref a17, .ref a18, .ref a19, .int 0, .int 0, .int 0, .int 0])), (a1, .inl (cI, 12, .inl (upd (fun _ => 0) (0 : Int32).toNatClampNeg x))), (a2, .inl (cI, 12, .inl (upd (fun _ => 0) (0 : Int32).toNatClampNeg y))), (a3, .inl (cI, 12, .inl (fun _ => 0)))] := hD
            refine lv_aload_n hx hb d_Mo_edge_110 rfl (lv_at hl 1 rfl) ?_
            refine va_get (D := D) (ci := 6) (v := .ref a3) (C := R_Mo) (T := F_Mo) (N := 30) hx hb hts (fun w h => List.mem_cons_of_mem _ (u_Mo w h)) hown hK hP 0 rfl rfl 4 (by decide) (hts _ (List.mem_cons_of_mem _ tw_669)) (fun _ h9 => h9) rfl d_Mo_edge_111 ?_
            refine lv_aload_n hx hb d_Mo_edge_114 rfl (lv_at hl 1 rfl) ?_
            refine va_get (D := D) (ci := 6) (v := .int 0) (C := R_Mo) (T := F_Mo) (N := 30) hx hb hts (fun w h => List.mem_cons_of_mem _ (u_Mo w h)) hown hK hP 0 rfl rfl 1 (by decide) (hts _ (List.mem_cons_of_mem _ tw_666)) (fun _ h9 => h9) rfl d_Mo_edge_115 ?_
            refine lv_iload_n hx hb d_Mo_edge_118 rfl (lv_at hl 4 rfl) ?_
            refine va_iast hx hb hK hP hD hS 3 0 rfl rfl (by unfold vp_in; decide) d_Mo_edge_119 (fun H locs hP hD hS => ?_)
            have hP : va_P D cl [(mo, .inr (6, [.int 0, .int 0, .ref a1, .ref a2, .ref a3, .ref a4, .ref a5, .ref a6, .ref a7, .ref a8, .ref a9, .int 0, .ref a10, .ref a11, .ref a12, .ref a13, .ref a14, .ref a15, .int 0, .ref a16, .int 1, .int 1, .int 0, .ref a17, .ref a18, .ref a19, .int 0, .int 0, .int 0, .int 0])), (a1, .inl (cI, 12, .inl (upd (fun _ => 0) (0 : Int32).toNatClampNeg x))), (a2, .inl (cI, 12, .inl (upd (fun _ => 0) (0 : Int32).toNatClampNeg y))), (a3, .inl (cI, 12, .inl (upd (fun _ => 0) (0 : Int32).toNatClampNeg z)))] H := hP
            have hD : va_D A [(mo, .inr (6, [.int 0, .int 0, .ref a1, .ref a2, .ref a3, .ref a4, .ref a5, .ref a6, .ref a7, .ref a8, .ref a9, .int 0, .ref a10, .ref a11, .ref a12, .ref a13, .ref a14, .ref a15, .int 0, .ref a16, .int 1, .int 1, .int 0, .ref a17, .ref a18, .ref a19, .int 0, .int 0, .int 0, .int 0])), (a1, .inl (cI, 12, .inl (upd (fun _ => 0) (0 : Int32).toNatClampNeg x))), (a2, .inl (cI, 12, .inl (upd (fun _ => 0) (0 : Int32).toNatClampNeg y))), (a3, .inl (cI, 12, .inl (upd (fun _ => 0) (0 : Int32).toNatClampNeg z)))] := hD
            refine lv_aload_n hx hb d_Mo_edge_120 rfl (lv_at hl 1 rfl) ?_
            refine lv_dup hx hb d_Mo_edge_121 rfl ?_
            refine va_get (D := D) (ci := 6) (v := .int 0) (C := R_Mo) (T := F_Mo) (N := 30) hx hb hts (fun w h => List.mem_cons_of_mem _ (u_Mo w h)) hown hK hP 0 rfl rfl 1 (by decide) (hts _ (List.mem_cons_of_mem _ tw_666)) (fun _ h9 => h9) rfl d_Mo_edge_122 ?_
            refine lv_iconst (v := 1) hx hb d_Mo_edge_125 (by decide) ?_
            refine lv_iadd hx hb d_Mo_edge_126 ?_
            refine xnum (v := 1) (by decide) ?_
            refine va_put (D := D) (ci := 6) (v := .int 1) (ty := .int) (C := R_Mo) (T := F_Mo) (N := 30) hx hb hts (fun w h => List.mem_cons_of_mem _ (u_Mo w h)) t_Mo o_Mo n_Mo hown hK hP hD hS 0 rfl rfl 1 (by decide) (hts _ (List.mem_cons_of_mem _ tw_666)) (fun _ h9 => h9) rfl (by decide +kernel) rfl rfl (Nat.le_of_ble_eq_true rfl) d_Mo_edge_127 (fun H locs hP hD hS => ?_)
            have hP : va_P D cl [(mo, .inr (6, [.int 0, .int 1, .ref a1, .ref a2, .ref a3, .ref a4, .ref a5, .ref a6, .ref a7, .ref a8, .ref a9, .int 0, .ref a10, .ref a11, .ref a12, .ref a13, .ref a14, .ref a15, .int 0, .ref a16, .int 1, .int 1, .int 0, .ref a17, .ref a18, .ref a19, .int 0, .int 0, .int 0, .int 0])), (a1, .inl (cI, 12, .inl (upd (fun _ => 0) (0 : Int32).toNatClampNeg x))), (a2, .inl (cI, 12, .inl (upd (fun _ => 0) (0 : Int32).toNatClampNeg y))), (a3, .inl (cI, 12, .inl (upd (fun _ => 0) (0 : Int32).toNatClampNeg z)))] H := hP
            have hD : va_D A [(mo, .inr (6, [.int 0, .int 1, .ref a1, .ref a2, .ref a3, .ref a4, .ref a5, .ref a6, .ref a7, .ref a8, .ref a9, .int 0, .ref a10, .ref a11, .ref a12, .ref a13, .ref a14, .ref a15, .int 0, .ref a16, .int 1, .int 1, .int 0, .ref a17, .ref a18, .ref a19, .int 0, .int 0, .int 0, .int 0])), (a1, .inl (cI, 12, .inl (upd (fun _ => 0) (0 : Int32).toNatClampNeg x))), (a2, .inl (cI, 12, .inl (upd (fun _ => 0) (0 : Int32).toNatClampNeg y))), (a3, .inl (cI, 12, .inl (upd (fun _ => 0) (0 : Int32).toNatClampNeg z)))] := hD
            refine lv_aload_n hx hb d_Mo_edge_130 rfl (lv_at hl 1 rfl) ?_
            refine va_get (D := D) (ci := 6) (v := .int 1) (C := R_Mo) (T := F_Mo) (N := 30) hx hb hts (fun w h => List.mem_cons_of_mem _ (u_Mo w h)) hown hK hP 0 rfl rfl 1 (by decide) (hts _ (List.mem_cons_of_mem _ tw_666)) (fun _ h9 => h9) rfl d_Mo_edge_131 ?_
            refine lv_iconst (v := 1) hx hb d_Mo_edge_134 (by decide) ?_
            refine lv_isub hx hb d_Mo_edge_135 ?_
            refine xnum (v := 0) (by decide) ?_
            exact xri () B d_Mo_edge_136 (rfl) (hP.sub (ws' := [(mo, .inr (6, [.int 0, .int 1, .ref a1, .ref a2, .ref a3, .ref a4, .ref a5, .ref a6, .ref a7, .ref a8, .ref a9, .int 0, .ref a10, .ref a11, .ref a12, .ref a13, .ref a14, .ref a15, .int 0, .ref a16, .int 1, .int 1, .int 0, .ref a17, .ref a18, .ref a19, .int 0, .int 0, .int 0, .int 0]))]) [0] rfl) (hK.sub (tys' := []) [] rfl) (hD.sub (ws' := [(mo, .inr (6, [.int 0, .int 1, .ref a1, .ref a2, .ref a3, .ref a4, .ref a5, .ref a6, .ref a7, .ref a8, .ref a9, .int 0, .ref a10, .ref a11, .ref a12, .ref a13, .ref a14, .ref a15, .int 0, .ref a16, .int 1, .int 1, .int 0, .ref a17, .ref a18, .ref a19, .int 0, .int 0, .int 0, .int 0]))]) [0] (by decide) rfl) hS (Nat.le_of_ble_eq_true rfl) (Nat.le_of_ble_eq_true rfl)
theorem d_Mo_edge_44 : decode b_Mo_edge 44 = .ok (.iconst (0), 1) := by decide +kernel
theorem d_Mo_edge_53 : decode b_Mo_edge 53 = .ok (.iconst (1), 1) := by decide +kernel
theorem d_Mo_edge_54 : decode b_Mo_edge 54 = .ok (.goto (24), 3) := by decide +kernel
theorem d_Mo_edge_88 : decode b_Mo_edge 88 = .ok (.iconst (0), 1) := by decide +kernel
theorem d_Mo_edge_89 : decode b_Mo_edge 89 = .ok (.ireturn, 1) := by decide +kernel
set_option maxRecDepth 20000 in
set_option maxHeartbeats 4000000 in
theorem c_Mo_edge_t (l : Launch) (D : va_G) (mo : Nat) (a1 : Nat) (a2 : Nat) (a3 : Nat) (a4 : Nat) (a5 : Nat) (a6 : Nat) (a7 : Nat) (a8 : Nat) (a9 : Nat) (a10 : Nat) (a11 : Nat) (a12 : Nat) (a13 : Nat) (a14 : Nat) (a15 : Nat) (a16 : Nat) (a17 : Nat) (a18 : Nat) (a19 : Nat) (x : Int32) (y : Int32) (z : Int32) (sz : Nat) (h : ¬ xokE x y z) : xMi l y_Mo_edge w_Mo_edge { frames := 1, cells := 0, slots := 0, locals := 22 } D cl [.ref mo, .int x, .int y, .int z] sz [] [(mo, .inr (6, [.int 0, .int 0, .ref a1, .ref a2, .ref a3, .ref a4, .ref a5, .ref a6, .ref a7, .ref a8, .ref a9, .int 0, .ref a10, .ref a11, .ref a12, .ref a13, .ref a14, .ref a15, .int 0, .ref a16, .int 1, .int 1, .int 0, .ref a17, .ref a18, .ref a19, .int 0, .int 0, .int 0, .int 0]))] (fun (r : Int32) (_ : Unit) => r = 0) (fun _ => [(mo, .inr (6, [.int 1, .int 0, .ref a1, .ref a2, .ref a3, .ref a4, .ref a5, .ref a6, .ref a7, .ref a8, .ref a9, .int 0, .ref a10, .ref a11, .ref a12, .ref a13, .ref a14, .ref a15, .int 0, .ref a16, .int 1, .int 1, .int 0, .ref a17, .ref a18, .ref a19, .int 0, .int 0, .int 0, .int 0]))]) (fun _ => []) := by
  refine xMi_of (by decide +kernel) rfl (Nat.le_of_ble_eq_true rfl) ?_
  intro p e s m args below meth c ls A B hAe hA hsz hP hK hD hS hAm hTh hAs hl
  obtain ⟨⟨hx, hb, hml, hown, hts⟩, hret, hlk, hnm, hemp⟩ := id B
  have hl : lv_has ls 5 [(0, .ref mo), (1, .int x), (2, .int y), (3, .int z)] := hl
  refine lv_iload_n hx hb d_Mo_edge_0 rfl (lv_at hl 1 rfl) ?_
  refine lv_iconst (v := 0) hx hb d_Mo_edge_1 (by decide) ?_
  refine lv_ldc (v := 65535) hx hb hown (hts _ (List.mem_cons_of_mem _ tw_764)) d_Mo_edge_2 ?_
  have hPc := hP.sub (ws' := []) [] rfl
  have hDc := hD.sub (ws' := []) [] (by decide) rfl
  have hKc := hK.sub (tys' := []) [] rfl
  refine xgi (wsC := []) (wr := [(mo, .inr (6, [.int 0, .int 0, .ref a1, .ref a2, .ref a3, .ref a4, .ref a5, .ref a6, .ref a7, .ref a8, .ref a9, .int 0, .ref a10, .ref a11, .ref a12, .ref a13, .ref a14, .ref a15, .int 0, .ref a16, .int 1, .int 1, .int 0, .ref a17, .ref a18, .ref a19, .int 0, .int 0, .int 0, .int 0]))]) (va_runS (As := [.int x, .int 0, .int 65535]) (rest := []) ⟨hx, hb, hml, hown, hts⟩ (c_Mo_outside l  D x 0 65535 _ ) ⟨(callB_of 3 hts (x_good k_Mo_outside) rfl rfl rfl (hts _ (List.mem_cons_of_mem _ tw_8)) (hts _ (List.mem_cons_of_mem _ tw_765)) (by decide +kernel) ⟨Nat.le_of_ble_eq_true rfl, Nat.le_of_ble_eq_true rfl⟩), (hts _ (List.mem_cons_of_mem _ tw_766))⟩ (xP_S hPc hKc hDc hAm hTh hAs hS) rfl rfl hl.1 rfl (lv_room (Nat.le_of_ble_eq_true rfl)) d_Mo_edge_4 ⟨Nat.le_of_ble_eq_true rfl, Nat.le_of_ble_eq_true rfl⟩) hP hD hK hS hA [] [0] rfl rfl (by decide) (by decide) (fun r1 _ H locs er1 hP hD hK hS => ?_)
  have er1 : r1 = xOut x 0 65535 := er1
  subst er1
  have hK : va_K D cl [] s := hK
  have hP : va_P D cl [(mo, .inr (6, [.int 0, .int 0, .ref a1, .ref a2, .ref a3, .ref a4, .ref a5, .ref a6, .ref a7, .ref a8, .ref a9, .int 0, .ref a10, .ref a11, .ref a12, .ref a13, .ref a14, .ref a15, .int 0, .ref a16, .int 1, .int 1, .int 0, .ref a17, .ref a18, .ref a19, .int 0, .int 0, .int 0, .int 0]))] H := hP
  have hD : va_D A [(mo, .inr (6, [.int 0, .int 0, .ref a1, .ref a2, .ref a3, .ref a4, .ref a5, .ref a6, .ref a7, .ref a8, .ref a9, .int 0, .ref a10, .ref a11, .ref a12, .ref a13, .ref a14, .ref a15, .int 0, .ref a16, .int 1, .int 1, .int 0, .ref a17, .ref a18, .ref a19, .int 0, .int 0, .int 0, .int 0]))] := hD
  refine lv_if_ne (tgt := 44) hx hb d_Mo_edge_7 (by decide) (fun b7 => ?_) (fun b7 => ?_)
  · refine lv_iconst (v := 0) hx hb d_Mo_edge_44 (by decide) ?_
    refine lv_istore hx hb d_Mo_edge_45 hl (by decide) rfl (fun ls hl => ?_)
    have hl : lv_has ls 5 [(4, .int 0), (0, .ref mo), (1, .int x), (2, .int y), (3, .int z)] := hl
    refine lv_aload_n hx hb d_Mo_edge_47 rfl (lv_at hl 1 rfl) ?_
    refine lv_iload hx hb d_Mo_edge_48 (lv_at hl 0 rfl) ?_
    refine lv_if_ne (tgt := 57) hx hb d_Mo_edge_50 (by decide) (fun b50 => absurd b50 (by decide)) (fun b50 => ?_)
    refine lv_iconst (v := 1) hx hb d_Mo_edge_53 (by decide) ?_
    refine lv_goto (tgt := 78) hx hb d_Mo_edge_54 (by decide) ?_
    refine va_put (D := D) (ci := 6) (v := .int 1) (ty := .int) (C := R_Mo) (T := F_Mo) (N := 30) hx hb hts (fun w h => List.mem_cons_of_mem _ (u_Mo w h)) t_Mo o_Mo n_Mo hown hK hP hD hS 0 rfl rfl 0 (by decide) (hts _ (List.mem_cons_of_mem _ tw_665)) (fun _ h9 => h9) rfl (by decide +kernel) rfl rfl (Nat.le_of_ble_eq_true rfl) d_Mo_edge_78 (fun H locs hP hD hS => ?_)
    have hP : va_P D cl [(mo, .inr (6, [.int 1, .int 0, .ref a1, .ref a2, .ref a3, .ref a4, .ref a5, .ref a6, .ref a7, .ref a8, .ref a9, .int 0, .ref a10, .ref a11, .ref a12, .ref a13, .ref a14, .ref a15, .int 0, .ref a16, .int 1, .int 1, .int 0, .ref a17, .ref a18, .ref a19, .int 0, .int 0, .int 0, .int 0]))] H := hP
    have hD : va_D A [(mo, .inr (6, [.int 1, .int 0, .ref a1, .ref a2, .ref a3, .ref a4, .ref a5, .ref a6, .ref a7, .ref a8, .ref a9, .int 0, .ref a10, .ref a11, .ref a12, .ref a13, .ref a14, .ref a15, .int 0, .ref a16, .int 1, .int 1, .int 0, .ref a17, .ref a18, .ref a19, .int 0, .int 0, .int 0, .int 0]))] := hD
    refine lv_aload_n hx hb d_Mo_edge_81 rfl (lv_at hl 1 rfl) ?_
    refine va_get (D := D) (ci := 6) (v := .int 1) (C := R_Mo) (T := F_Mo) (N := 30) hx hb hts (fun w h => List.mem_cons_of_mem _ (u_Mo w h)) hown hK hP 0 rfl rfl 0 (by decide) (hts _ (List.mem_cons_of_mem _ tw_665)) (fun _ h9 => h9) rfl d_Mo_edge_82 ?_
    refine lv_if_le (tgt := 90) hx hb d_Mo_edge_85 (by decide) (fun b85 => absurd b85 (by decide)) (fun b85 => ?_)
    refine lv_iconst (v := 0) hx hb d_Mo_edge_88 (by decide) ?_
    exact xri () B d_Mo_edge_89 (rfl) (hP.sub (ws' := [(mo, .inr (6, [.int 1, .int 0, .ref a1, .ref a2, .ref a3, .ref a4, .ref a5, .ref a6, .ref a7, .ref a8, .ref a9, .int 0, .ref a10, .ref a11, .ref a12, .ref a13, .ref a14, .ref a15, .int 0, .ref a16, .int 1, .int 1, .int 0, .ref a17, .ref a18, .ref a19, .int 0, .int 0, .int 0, .int 0]))]) [0] rfl) (hK.sub (tys' := []) [] rfl) (hD.sub (ws' := [(mo, .inr (6, [.int 1, .int 0, .ref a1, .ref a2, .ref a3, .ref a4, .ref a5, .ref a6, .ref a7, .ref a8, .ref a9, .int 0, .ref a10, .ref a11, .ref a12, .ref a13, .ref a14, .ref a15, .int 0, .ref a16, .int 1, .int 1, .int 0, .ref a17, .ref a18, .ref a19, .int 0, .int 0, .int 0, .int 0]))]) [0] (by decide) rfl) hS (Nat.le_of_ble_eq_true rfl) (Nat.le_of_ble_eq_true rfl)
  · refine lv_iload_n hx hb d_Mo_edge_10 rfl (lv_at hl 2 rfl) ?_
    refine lv_iconst (v := 0) hx hb d_Mo_edge_11 (by decide) ?_
    refine lv_bipush (v := 15) hx hb d_Mo_edge_12 (by decide) ?_
    have hPc := hP.sub (ws' := []) [] rfl
    have hDc := hD.sub (ws' := []) [] (by decide) rfl
    have hKc := hK.sub (tys' := []) [] rfl
    refine xgi (wsC := []) (wr := [(mo, .inr (6, [.int 0, .int 0, .ref a1, .ref a2, .ref a3, .ref a4, .ref a5, .ref a6, .ref a7, .ref a8, .ref a9, .int 0, .ref a10, .ref a11, .ref a12, .ref a13, .ref a14, .ref a15, .int 0, .ref a16, .int 1, .int 1, .int 0, .ref a17, .ref a18, .ref a19, .int 0, .int 0, .int 0, .int 0]))]) (va_runS (As := [.int y, .int 0, .int 15]) (rest := []) ⟨hx, hb, hml, hown, hts⟩ (c_Mo_outside l  D y 0 15 _ ) ⟨(callB_of 3 hts (x_good k_Mo_outside) rfl rfl rfl (hts _ (List.mem_cons_of_mem _ tw_8)) (hts _ (List.mem_cons_of_mem _ tw_765)) (by decide +kernel) ⟨Nat.le_of_ble_eq_true rfl, Nat.le_of_ble_eq_true rfl⟩), (hts _ (List.mem_cons_of_mem _ tw_766))⟩ (xP_S hPc hKc hDc hAm hTh hAs hS) rfl rfl hl.1 rfl (lv_room (Nat.le_of_ble_eq_true rfl)) d_Mo_edge_14 ⟨Nat.le_of_ble_eq_true rfl, Nat.le_of_ble_eq_true rfl⟩) hP hD hK hS hA [] [0] rfl rfl (by decide) (by decide) (fun r2 _ H locs er2 hP hD hK hS => ?_)
    have er2 : r2 = xOut y 0 15 := er2
    subst er2
    have hK : va_K D cl [] s := hK
    have hP : va_P D cl [(mo, .inr (6, [.int 0, .int 0, .ref a1, .ref a2, .ref a3, .ref a4, .ref a5, .ref a6, .ref a7, .ref a8, .ref a9, .int 0, .ref a10, .ref a11, .ref a12, .ref a13, .ref a14, .ref a15, .int 0, .ref a16, .int 1, .int 1, .int 0, .ref a17, .ref a18, .ref a19, .int 0, .int 0, .int 0, .int 0]))] H := hP
    have hD : va_D A [(mo, .inr (6, [.int 0, .int 0, .ref a1, .ref a2, .ref a3, .ref a4, .ref a5, .ref a6, .ref a7, .ref a8, .ref a9, .int 0, .ref a10, .ref a11, .ref a12, .ref a13, .ref a14, .ref a15, .int 0, .ref a16, .int 1, .int 1, .int 0, .ref a17, .ref a18, .ref a19, .int 0, .int 0, .int 0, .int 0]))] := hD
    refine lv_if_ne (tgt := 44) hx hb d_Mo_edge_17 (by decide) (fun b17 => ?_) (fun b17 => ?_)
    · refine lv_iconst (v := 0) hx hb d_Mo_edge_44 (by decide) ?_
      refine lv_istore hx hb d_Mo_edge_45 hl (by decide) rfl (fun ls hl => ?_)
      have hl : lv_has ls 5 [(4, .int 0), (0, .ref mo), (1, .int x), (2, .int y), (3, .int z)] := hl
      refine lv_aload_n hx hb d_Mo_edge_47 rfl (lv_at hl 1 rfl) ?_
      refine lv_iload hx hb d_Mo_edge_48 (lv_at hl 0 rfl) ?_
      refine lv_if_ne (tgt := 57) hx hb d_Mo_edge_50 (by decide) (fun b50 => absurd b50 (by decide)) (fun b50 => ?_)
      refine lv_iconst (v := 1) hx hb d_Mo_edge_53 (by decide) ?_
      refine lv_goto (tgt := 78) hx hb d_Mo_edge_54 (by decide) ?_
      refine va_put (D := D) (ci := 6) (v := .int 1) (ty := .int) (C := R_Mo) (T := F_Mo) (N := 30) hx hb hts (fun w h => List.mem_cons_of_mem _ (u_Mo w h)) t_Mo o_Mo n_Mo hown hK hP hD hS 0 rfl rfl 0 (by decide) (hts _ (List.mem_cons_of_mem _ tw_665)) (fun _ h9 => h9) rfl (by decide +kernel) rfl rfl (Nat.le_of_ble_eq_true rfl) d_Mo_edge_78 (fun H locs hP hD hS => ?_)
      have hP : va_P D cl [(mo, .inr (6, [.int 1, .int 0, .ref a1, .ref a2, .ref a3, .ref a4, .ref a5, .ref a6, .ref a7, .ref a8, .ref a9, .int 0, .ref a10, .ref a11, .ref a12, .ref a13, .ref a14, .ref a15, .int 0, .ref a16, .int 1, .int 1, .int 0, .ref a17, .ref a18, .ref a19, .int 0, .int 0, .int 0, .int 0]))] H := hP
      have hD : va_D A [(mo, .inr (6, [.int 1, .int 0, .ref a1, .ref a2, .ref a3, .ref a4, .ref a5, .ref a6, .ref a7, .ref a8, .ref a9, .int 0, .ref a10, .ref a11, .ref a12, .ref a13, .ref a14, .ref a15, .int 0, .ref a16, .int 1, .int 1, .int 0, .ref a17, .ref a18, .ref a19, .int 0, .int 0, .int 0, .int 0]))] := hD
      refine lv_aload_n hx hb d_Mo_edge_81 rfl (lv_at hl 1 rfl) ?_
      refine va_get (D := D) (ci := 6) (v := .int 1) (C := R_Mo) (T := F_Mo) (N := 30) hx hb hts (fun w h => List.mem_cons_of_mem _ (u_Mo w h)) hown hK hP 0 rfl rfl 0 (by decide) (hts _ (List.mem_cons_of_mem _ tw_665)) (fun _ h9 => h9) rfl d_Mo_edge_82 ?_
      refine lv_if_le (tgt := 90) hx hb d_Mo_edge_85 (by decide) (fun b85 => absurd b85 (by decide)) (fun b85 => ?_)
      refine lv_iconst (v := 0) hx hb d_Mo_edge_88 (by decide) ?_
      exact xri () B d_Mo_edge_89 (rfl) (hP.sub (ws' := [(mo, .inr (6, [.int 1, .int 0, .ref a1, .ref a2, .ref a3, .ref a4, .ref a5, .ref a6, .ref a7, .ref a8, .ref a9, .int 0, .ref a10, .ref a11, .ref a12, .ref a13, .ref a14, .ref a15, .int 0, .ref a16, .int 1, .int 1, .int 0, .ref a17, .ref a18, .ref a19, .int 0, .int 0, .int 0, .int 0]))]) [0] rfl) (hK.sub (tys' := []) [] rfl) (hD.sub (ws' := [(mo, .inr (6, [.int 1, .int 0, .ref a1, .ref a2, .ref a3, .ref a4, .ref a5, .ref a6, .ref a7, .ref a8, .ref a9, .int 0, .ref a10, .ref a11, .ref a12, .ref a13, .ref a14, .ref a15, .int 0, .ref a16, .int 1, .int 1, .int 0, .ref a17, .ref a18, .ref a19, .int 0, .int 0, .int 0, .int 0]))]) [0] (by decide) rfl) hS (Nat.le_of_ble_eq_true rfl) (Nat.le_of_ble_eq_true rfl)
    · refine lv_iload_n hx hb d_Mo_edge_20 rfl (lv_at hl 2 rfl) ?_
      refine lv_iconst (v := 2) hx hb d_Mo_edge_21 (by decide) ?_
      refine lv_irem hx hb d_Mo_edge_22 (by decide) ?_
      refine lv_if_eq (tgt := 31) hx hb d_Mo_edge_23 (by decide) (fun b23 => ?_) (fun b23 => ?_)
      · refine lv_iload_n hx hb d_Mo_edge_31 rfl (lv_at hl 3 rfl) ?_
        refine lv_iconst (v := 0) hx hb d_Mo_edge_32 (by decide) ?_
        refine lv_iconst (v := 2) hx hb d_Mo_edge_33 (by decide) ?_
        have hPc := hP.sub (ws' := []) [] rfl
        have hDc := hD.sub (ws' := []) [] (by decide) rfl
        have hKc := hK.sub (tys' := []) [] rfl
        refine xgi (wsC := []) (wr := [(mo, .inr (6, [.int 0, .int 0, .ref a1, .ref a2, .ref a3, .ref a4, .ref a5, .ref a6, .ref a7, .ref a8, .ref a9, .int 0, .ref a10, .ref a11, .ref a12, .ref a13, .ref a14, .ref a15, .int 0, .ref a16, .int 1, .int 1, .int 0, .ref a17, .ref a18, .ref a19, .int 0, .int 0, .int 0, .int 0]))]) (va_runS (As := [.int z, .int 0, .int 2]) (rest := []) ⟨hx, hb, hml, hown, hts⟩ (c_Mo_outside l  D z 0 2 _ ) ⟨(callB_of 3 hts (x_good k_Mo_outside) rfl rfl rfl (hts _ (List.mem_cons_of_mem _ tw_8)) (hts _ (List.mem_cons_of_mem _ tw_765)) (by decide +kernel) ⟨Nat.le_of_ble_eq_true rfl, Nat.le_of_ble_eq_true rfl⟩), (hts _ (List.mem_cons_of_mem _ tw_766))⟩ (xP_S hPc hKc hDc hAm hTh hAs hS) rfl rfl hl.1 rfl (lv_room (Nat.le_of_ble_eq_true rfl)) d_Mo_edge_34 ⟨Nat.le_of_ble_eq_true rfl, Nat.le_of_ble_eq_true rfl⟩) hP hD hK hS hA [] [0] rfl rfl (by decide) (by decide) (fun r3 _ H locs er3 hP hD hK hS => ?_)
        have er3 : r3 = xOut z 0 2 := er3
        subst er3
        have hK : va_K D cl [] s := hK
        have hP : va_P D cl [(mo, .inr (6, [.int 0, .int 0, .ref a1, .ref a2, .ref a3, .ref a4, .ref a5, .ref a6, .ref a7, .ref a8, .ref a9, .int 0, .ref a10, .ref a11, .ref a12, .ref a13, .ref a14, .ref a15, .int 0, .ref a16, .int 1, .int 1, .int 0, .ref a17, .ref a18, .ref a19, .int 0, .int 0, .int 0, .int 0]))] H := hP
        have hD : va_D A [(mo, .inr (6, [.int 0, .int 0, .ref a1, .ref a2, .ref a3, .ref a4, .ref a5, .ref a6, .ref a7, .ref a8, .ref a9, .int 0, .ref a10, .ref a11, .ref a12, .ref a13, .ref a14, .ref a15, .int 0, .ref a16, .int 1, .int 1, .int 0, .ref a17, .ref a18, .ref a19, .int 0, .int 0, .int 0, .int 0]))] := hD
        refine lv_if_ne (tgt := 44) hx hb d_Mo_edge_37 (by decide) (fun b37 => ?_) (fun b37 => ?_)
        · refine lv_iconst (v := 0) hx hb d_Mo_edge_44 (by decide) ?_
          refine lv_istore hx hb d_Mo_edge_45 hl (by decide) rfl (fun ls hl => ?_)
          have hl : lv_has ls 5 [(4, .int 0), (0, .ref mo), (1, .int x), (2, .int y), (3, .int z)] := hl
          refine lv_aload_n hx hb d_Mo_edge_47 rfl (lv_at hl 1 rfl) ?_
          refine lv_iload hx hb d_Mo_edge_48 (lv_at hl 0 rfl) ?_
          refine lv_if_ne (tgt := 57) hx hb d_Mo_edge_50 (by decide) (fun b50 => absurd b50 (by decide)) (fun b50 => ?_)
          refine lv_iconst (v := 1) hx hb d_Mo_edge_53 (by decide) ?_
          refine lv_goto (tgt := 78) hx hb d_Mo_edge_54 (by decide) ?_
          refine va_put (D := D) (ci := 6) (v := .int 1) (ty := .int) (C := R_Mo) (T := F_Mo) (N := 30) hx hb hts (fun w h => List.mem_cons_of_mem _ (u_Mo w h)) t_Mo o_Mo n_Mo hown hK hP hD hS 0 rfl rfl 0 (by decide) (hts _ (List.mem_cons_of_mem _ tw_665)) (fun _ h9 => h9) rfl (by decide +kernel) rfl rfl (Nat.le_of_ble_eq_true rfl) d_Mo_edge_78 (fun H locs hP hD hS => ?_)
          have hP : va_P D cl [(mo, .inr (6, [.int 1, .int 0, .ref a1, .ref a2, .ref a3, .ref a4, .ref a5, .ref a6, .ref a7, .ref a8, .ref a9, .int 0, .ref a10, .ref a11, .ref a12, .ref a13, .ref a14, .ref a15, .int 0, .ref a16, .int 1, .int 1, .int 0, .ref a17, .ref a18, .ref a19, .int 0, .int 0, .int 0, .int 0]))] H := hP
          have hD : va_D A [(mo, .inr (6, [.int 1, .int 0, .ref a1, .ref a2, .ref a3, .ref a4, .ref a5, .ref a6, .ref a7, .ref a8, .ref a9, .int 0, .ref a10, .ref a11, .ref a12, .ref a13, .ref a14, .ref a15, .int 0, .ref a16, .int 1, .int 1, .int 0, .ref a17, .ref a18, .ref a19, .int 0, .int 0, .int 0, .int 0]))] := hD
          refine lv_aload_n hx hb d_Mo_edge_81 rfl (lv_at hl 1 rfl) ?_
          refine va_get (D := D) (ci := 6) (v := .int 1) (C := R_Mo) (T := F_Mo) (N := 30) hx hb hts (fun w h => List.mem_cons_of_mem _ (u_Mo w h)) hown hK hP 0 rfl rfl 0 (by decide) (hts _ (List.mem_cons_of_mem _ tw_665)) (fun _ h9 => h9) rfl d_Mo_edge_82 ?_
          refine lv_if_le (tgt := 90) hx hb d_Mo_edge_85 (by decide) (fun b85 => absurd b85 (by decide)) (fun b85 => ?_)
          refine lv_iconst (v := 0) hx hb d_Mo_edge_88 (by decide) ?_
          exact xri () B d_Mo_edge_89 (rfl) (hP.sub (ws' := [(mo, .inr (6, [.int 1, .int 0, .ref a1, .ref a2, .ref a3, .ref a4, .ref a5, .ref a6, .ref a7, .ref a8, .ref a9, .int 0, .ref a10, .ref a11, .ref a12, .ref a13, .ref a14, .ref a15, .int 0, .ref a16, .int 1, .int 1, .int 0, .ref a17, .ref a18, .ref a19, .int 0, .int 0, .int 0, .int 0]))]) [0] rfl) (hK.sub (tys' := []) [] rfl) (hD.sub (ws' := [(mo, .inr (6, [.int 1, .int 0, .ref a1, .ref a2, .ref a3, .ref a4, .ref a5, .ref a6, .ref a7, .ref a8, .ref a9, .int 0, .ref a10, .ref a11, .ref a12, .ref a13, .ref a14, .ref a15, .int 0, .ref a16, .int 1, .int 1, .int 0, .ref a17, .ref a18, .ref a19, .int 0, .int 0, .int 0, .int 0]))]) [0] (by decide) rfl) hS (Nat.le_of_ble_eq_true rfl) (Nat.le_of_ble_eq_true rfl)
        · first | exact absurd (xokE_of b7 b17 (Or.inl b23) b37) h | exact absurd (xokE_of b7 b17 (Or.inr b28) b37) h
      · refine lv_iload_n hx hb d_Mo_edge_26 rfl (lv_at hl 2 rfl) ?_
        refine lv_iconst (v := 1) hx hb d_Mo_edge_27 (by decide) ?_
        refine lv_icmp_ne (tgt := 44) hx hb d_Mo_edge_28 (by decide) (fun b28 => ?_) (fun b28 => ?_)
        · refine lv_iconst (v := 0) hx hb d_Mo_edge_44 (by decide) ?_
          refine lv_istore hx hb d_Mo_edge_45 hl (by decide) rfl (fun ls hl => ?_)
          have hl : lv_has ls 5 [(4, .int 0), (0, .ref mo), (1, .int x), (2, .int y), (3, .int z)] := hl
          refine lv_aload_n hx hb d_Mo_edge_47 rfl (lv_at hl 1 rfl) ?_
          refine lv_iload hx hb d_Mo_edge_48 (lv_at hl 0 rfl) ?_
          refine lv_if_ne (tgt := 57) hx hb d_Mo_edge_50 (by decide) (fun b50 => absurd b50 (by decide)) (fun b50 => ?_)
          refine lv_iconst (v := 1) hx hb d_Mo_edge_53 (by decide) ?_
          refine lv_goto (tgt := 78) hx hb d_Mo_edge_54 (by decide) ?_
          refine va_put (D := D) (ci := 6) (v := .int 1) (ty := .int) (C := R_Mo) (T := F_Mo) (N := 30) hx hb hts (fun w h => List.mem_cons_of_mem _ (u_Mo w h)) t_Mo o_Mo n_Mo hown hK hP hD hS 0 rfl rfl 0 (by decide) (hts _ (List.mem_cons_of_mem _ tw_665)) (fun _ h9 => h9) rfl (by decide +kernel) rfl rfl (Nat.le_of_ble_eq_true rfl) d_Mo_edge_78 (fun H locs hP hD hS => ?_)
          have hP : va_P D cl [(mo, .inr (6, [.int 1, .int 0, .ref a1, .ref a2, .ref a3, .ref a4, .ref a5, .ref a6, .ref a7, .ref a8, .ref a9, .int 0, .ref a10, .ref a11, .ref a12, .ref a13, .ref a14, .ref a15, .int 0, .ref a16, .int 1, .int 1, .int 0, .ref a17, .ref a18, .ref a19, .int 0, .int 0, .int 0, .int 0]))] H := hP
          have hD : va_D A [(mo, .inr (6, [.int 1, .int 0, .ref a1, .ref a2, .ref a3, .ref a4, .ref a5, .ref a6, .ref a7, .ref a8, .ref a9, .int 0, .ref a10, .ref a11, .ref a12, .ref a13, .ref a14, .ref a15, .int 0, .ref a16, .int 1, .int 1, .int 0, .ref a17, .ref a18, .ref a19, .int 0, .int 0, .int 0, .int 0]))] := hD
          refine lv_aload_n hx hb d_Mo_edge_81 rfl (lv_at hl 1 rfl) ?_
          refine va_get (D := D) (ci := 6) (v := .int 1) (C := R_Mo) (T := F_Mo) (N := 30) hx hb hts (fun w h => List.mem_cons_of_mem _ (u_Mo w h)) hown hK hP 0 rfl rfl 0 (by decide) (hts _ (List.mem_cons_of_mem _ tw_665)) (fun _ h9 => h9) rfl d_Mo_edge_82 ?_
          refine lv_if_le (tgt := 90) hx hb d_Mo_edge_85 (by decide) (fun b85 => absurd b85 (by decide)) (fun b85 => ?_)
          refine lv_iconst (v := 0) hx hb d_Mo_edge_88 (by decide) ?_
          exact xri () B d_Mo_edge_89 (rfl) (hP.sub (ws' := [(mo, .inr (6, [.int 1, .int 0, .ref a1, .ref a2, .ref a3, .ref a4, .ref a5, .ref a6, .ref a7, .ref a8, .ref a9, .int 0, .ref a10, .ref a11, .ref a12, .ref a13, .ref a14, .ref a15, .int 0, .ref a16, .int 1, .int 1, .int 0, .ref a17, .ref a18, .ref a19, .int 0, .int 0, .int 0, .int 0]))]) [0] rfl) (hK.sub (tys' := []) [] rfl) (hD.sub (ws' := [(mo, .inr (6, [.int 1, .int 0, .ref a1, .ref a2, .ref a3, .ref a4, .ref a5, .ref a6, .ref a7, .ref a8, .ref a9, .int 0, .ref a10, .ref a11, .ref a12, .ref a13, .ref a14, .ref a15, .int 0, .ref a16, .int 1, .int 1, .int 0, .ref a17, .ref a18, .ref a19, .int 0, .int 0, .int 0, .int 0]))]) [0] (by decide) rfl) hS (Nat.le_of_ble_eq_true rfl) (Nat.le_of_ble_eq_true rfl)
        · refine lv_iload_n hx hb d_Mo_edge_31 rfl (lv_at hl 3 rfl) ?_
          refine lv_iconst (v := 0) hx hb d_Mo_edge_32 (by decide) ?_
          refine lv_iconst (v := 2) hx hb d_Mo_edge_33 (by decide) ?_
          have hPc := hP.sub (ws' := []) [] rfl
          have hDc := hD.sub (ws' := []) [] (by decide) rfl
          have hKc := hK.sub (tys' := []) [] rfl
          refine xgi (wsC := []) (wr := [(mo, .inr (6, [.int 0, .int 0, .ref a1, .ref a2, .ref a3, .ref a4, .ref a5, .ref a6, .ref a7, .ref a8, .ref a9, .int 0, .ref a10, .ref a11, .ref a12, .ref a13, .ref a14, .ref a15, .int 0, .ref a16, .int 1, .int 1, .int 0, .ref a17, .ref a18, .ref a19, .int 0, .int 0, .int 0, .int 0]))]) (va_runS (As := [.int z, .int 0, .int 2]) (rest := []) ⟨hx, hb, hml, hown, hts⟩ (c_Mo_outside l  D z 0 2 _ ) ⟨(callB_of 3 hts (x_good k_Mo_outside) rfl rfl rfl (hts _ (List.mem_cons_of_mem _ tw_8)) (hts _ (List.mem_cons_of_mem _ tw_765)) (by decide +kernel) ⟨Nat.le_of_ble_eq_true rfl, Nat.le_of_ble_eq_true rfl⟩), (hts _ (List.mem_cons_of_mem _ tw_766))⟩ (xP_S hPc hKc hDc hAm hTh hAs hS) rfl rfl hl.1 rfl (lv_room (Nat.le_of_ble_eq_true rfl)) d_Mo_edge_34 ⟨Nat.le_of_ble_eq_true rfl, Nat.le_of_ble_eq_true rfl⟩) hP hD hK hS hA [] [0] rfl rfl (by decide) (by decide) (fun r4 _ H locs er4 hP hD hK hS => ?_)
          have er4 : r4 = xOut z 0 2 := er4
          subst er4
          have hK : va_K D cl [] s := hK
          have hP : va_P D cl [(mo, .inr (6, [.int 0, .int 0, .ref a1, .ref a2, .ref a3, .ref a4, .ref a5, .ref a6, .ref a7, .ref a8, .ref a9, .int 0, .ref a10, .ref a11, .ref a12, .ref a13, .ref a14, .ref a15, .int 0, .ref a16, .int 1, .int 1, .int 0, .ref a17, .ref a18, .ref a19, .int 0, .int 0, .int 0, .int 0]))] H := hP
          have hD : va_D A [(mo, .inr (6, [.int 0, .int 0, .ref a1, .ref a2, .ref a3, .ref a4, .ref a5, .ref a6, .ref a7, .ref a8, .ref a9, .int 0, .ref a10, .ref a11, .ref a12, .ref a13, .ref a14, .ref a15, .int 0, .ref a16, .int 1, .int 1, .int 0, .ref a17, .ref a18, .ref a19, .int 0, .int 0, .int 0, .int 0]))] := hD
          refine lv_if_ne (tgt := 44) hx hb d_Mo_edge_37 (by decide) (fun b37 => ?_) (fun b37 => ?_)
          · refine lv_iconst (v := 0) hx hb d_Mo_edge_44 (by decide) ?_
            refine lv_istore hx hb d_Mo_edge_45 hl (by decide) rfl (fun ls hl => ?_)
            have hl : lv_has ls 5 [(4, .int 0), (0, .ref mo), (1, .int x), (2, .int y), (3, .int z)] := hl
            refine lv_aload_n hx hb d_Mo_edge_47 rfl (lv_at hl 1 rfl) ?_
            refine lv_iload hx hb d_Mo_edge_48 (lv_at hl 0 rfl) ?_
            refine lv_if_ne (tgt := 57) hx hb d_Mo_edge_50 (by decide) (fun b50 => absurd b50 (by decide)) (fun b50 => ?_)
            refine lv_iconst (v := 1) hx hb d_Mo_edge_53 (by decide) ?_
            refine lv_goto (tgt := 78) hx hb d_Mo_edge_54 (by decide) ?_
            refine va_put (D := D) (ci := 6) (v := .int 1) (ty := .int) (C := R_Mo) (T := F_Mo) (N := 30) hx hb hts (fun w h => List.mem_cons_of_mem _ (u_Mo w h)) t_Mo o_Mo n_Mo hown hK hP hD hS 0 rfl rfl 0 (by decide) (hts _ (List.mem_cons_of_mem _ tw_665)) (fun _ h9 => h9) rfl (by decide +kernel) rfl rfl (Nat.le_of_ble_eq_true rfl) d_Mo_edge_78 (fun H locs hP hD hS => ?_)
            have hP : va_P D cl [(mo, .inr (6, [.int 1, .int 0, .ref a1, .ref a2, .ref a3, .ref a4, .ref a5, .ref a6, .ref a7, .ref a8, .ref a9, .int 0, .ref a10, .ref a11, .ref a12, .ref a13, .ref a14, .ref a15, .int 0, .ref a16, .int 1, .int 1, .int 0, .ref a17, .ref a18, .ref a19, .int 0, .int 0, .int 0, .int 0]))] H := hP
            have hD : va_D A [(mo, .inr (6, [.int 1, .int 0, .ref a1, .ref a2, .ref a3, .ref a4, .ref a5, .ref a6, .ref a7, .ref a8, .ref a9, .int 0, .ref a10, .ref a11, .ref a12, .ref a13, .ref a14, .ref a15, .int 0, .ref a16, .int 1, .int 1, .int 0, .ref a17, .ref a18, .ref a19, .int 0, .int 0, .int 0, .int 0]))] := hD
            refine lv_aload_n hx hb d_Mo_edge_81 rfl (lv_at hl 1 rfl) ?_
            refine va_get (D := D) (ci := 6) (v := .int 1) (C := R_Mo) (T := F_Mo) (N := 30) hx hb hts (fun w h => List.mem_cons_of_mem _ (u_Mo w h)) hown hK hP 0 rfl rfl 0 (by decide) (hts _ (List.mem_cons_of_mem _ tw_665)) (fun _ h9 => h9) rfl d_Mo_edge_82 ?_
            refine lv_if_le (tgt := 90) hx hb d_Mo_edge_85 (by decide) (fun b85 => absurd b85 (by decide)) (fun b85 => ?_)
            refine lv_iconst (v := 0) hx hb d_Mo_edge_88 (by decide) ?_
            exact xri () B d_Mo_edge_89 (rfl) (hP.sub (ws' := [(mo, .inr (6, [.int 1, .int 0, .ref a1, .ref a2, .ref a3, .ref a4, .ref a5, .ref a6, .ref a7, .ref a8, .ref a9, .int 0, .ref a10, .ref a11, .ref a12, .ref a13, .ref a14, .ref a15, .int 0, .ref a16, .int 1, .int 1, .int 0, .ref a17, .ref a18, .ref a19, .int 0, .int 0, .int 0, .int 0]))]) [0] rfl) (hK.sub (tys' := []) [] rfl) (hD.sub (ws' := [(mo, .inr (6, [.int 1, .int 0, .ref a1, .ref a2, .ref a3, .ref a4, .ref a5, .ref a6, .ref a7, .ref a8, .ref a9, .int 0, .ref a10, .ref a11, .ref a12, .ref a13, .ref a14, .ref a15, .int 0, .ref a16, .int 1, .int 1, .int 0, .ref a17, .ref a18, .ref a19, .int 0, .int 0, .int 0, .int 0]))]) [0] (by decide) rfl) hS (Nat.le_of_ble_eq_true rfl) (Nat.le_of_ble_eq_true rfl)
          · first | exact absurd (xokE_of b7 b17 (Or.inl b23) b37) h | exact absurd (xokE_of b7 b17 (Or.inr b28) b37) h
theorem d_Mo_link_0 : decode b_Mo_link 0 = .ok (.aload_n 0, 1) := by decide +kernel
theorem d_Mo_link_1 : decode b_Mo_link 1 = .ok (.iload_n 2, 1) := by decide +kernel
theorem d_Mo_link_2 : decode b_Mo_link 2 = .ok (.iconst (0), 1) := by decide +kernel
theorem d_Mo_link_3 : decode b_Mo_link 3 = .ok (.iconst (3), 1) := by decide +kernel
theorem d_Mo_link_4 : decode b_Mo_link 4 = .ok (.invokestatic 82, 3) := by decide +kernel
theorem d_Mo_link_7 : decode b_Mo_link 7 = .ok (.ifCond .ne (18), 3) := by decide +kernel
theorem d_Mo_link_10 : decode b_Mo_link 10 = .ok (.iload_n 3, 1) := by decide +kernel
theorem d_Mo_link_11 : decode b_Mo_link 11 = .ok (.invokestatic 95, 3) := by decide +kernel
theorem d_Mo_link_14 : decode b_Mo_link 14 = .ok (.ifCond .eq (11), 3) := by decide +kernel
theorem d_Mo_link_17 : decode b_Mo_link 17 = .ok (.aload_n 0, 1) := by decide +kernel
theorem d_Mo_link_18 : decode b_Mo_link 18 = .ok (.iload_n 1, 1) := by decide +kernel
theorem d_Mo_link_19 : decode b_Mo_link 19 = .ok (.invokevirtual 99, 3) := by decide +kernel
theorem d_Mo_link_22 : decode b_Mo_link 22 = .ok (.ifCond .ne (7), 3) := by decide +kernel
theorem d_Mo_link_25 : decode b_Mo_link 25 = .ok (.iconst (1), 1) := by decide +kernel
theorem d_Mo_link_26 : decode b_Mo_link 26 = .ok (.goto (15), 3) := by decide +kernel
theorem d_Mo_link_41 : decode b_Mo_link 41 = .ok (.putfield 75, 3) := by decide +kernel
theorem d_Mo_link_44 : decode b_Mo_link 44 = .ok (.aload_n 0, 1) := by decide +kernel
theorem d_Mo_link_45 : decode b_Mo_link 45 = .ok (.getfield 75, 3) := by decide +kernel
theorem d_Mo_link_48 : decode b_Mo_link 48 = .ok (.ifCond .le (4), 3) := by decide +kernel
theorem d_Mo_link_51 : decode b_Mo_link 51 = .ok (.return_, 1) := by decide +kernel
set_option maxRecDepth 20000 in
set_option maxHeartbeats 4000000 in
theorem c_Mo_link (l : Launch) (D : va_G) (mo : Nat) (a1 : Nat) (a2 : Nat) (a3 : Nat) (a4 : Nat) (a5 : Nat) (a6 : Nat) (a7 : Nat) (a8 : Nat) (a9 : Nat) (a10 : Nat) (a11 : Nat) (a12 : Nat) (a13 : Nat) (a14 : Nat) (a15 : Nat) (a16 : Nat) (a17 : Nat) (a18 : Nat) (a19 : Nat) (x : Int32) (y : Int32) (z : Int32) (sz : Nat)  : xMv l y_Mo_link w_Mo_link { frames := 2, cells := 0, slots := 0, locals := 60 } D cl [.ref mo, .int x, .int y, .int z] sz [] [(mo, .inr (6, [.int 0, .int 0, .ref a1, .ref a2, .ref a3, .ref a4, .ref a5, .ref a6, .ref a7, .ref a8, .ref a9, .int 0, .ref a10, .ref a11, .ref a12, .ref a13, .ref a14, .ref a15, .int 0, .ref a16, .int 1, .int 1, .int 0, .ref a17, .ref a18, .ref a19, .int 0, .int 0, .int 0, .int 0]))] (fun (_ : Unit) => True) (fun _ => [(mo, .inr (6, [.int 1, .int 0, .ref a1, .ref a2, .ref a3, .ref a4, .ref a5, .ref a6, .ref a7, .ref a8, .ref a9, .int 0, .ref a10, .ref a11, .ref a12, .ref a13, .ref a14, .ref a15, .int 0, .ref a16, .int 1, .int 1, .int 0, .ref a17, .ref a18, .ref a19, .int 0, .int 0, .int 0, .int 0]))]) (fun _ => []) := by
  refine xMv_of (by decide +kernel) rfl (Nat.le_of_ble_eq_true rfl) ?_
  intro p e s m args below meth c ls A B hAe hA hsz hP hK hD hS hAm hTh hAs hl
  obtain ⟨⟨hx, hb, hml, hown, hts⟩, hret, hlk, hnm, hemp⟩ := id B
  have hl : lv_has ls 7 [(0, .ref mo), (1, .int x), (2, .int y), (3, .int z)] := hl
  refine lv_aload_n hx hb d_Mo_link_0 rfl (lv_at hl 0 rfl) ?_
  refine lv_iload_n hx hb d_Mo_link_1 rfl (lv_at hl 2 rfl) ?_
  refine lv_iconst (v := 0) hx hb d_Mo_link_2 (by decide) ?_
  refine lv_iconst (v := 3) hx hb d_Mo_link_3 (by decide) ?_
  have hPc := hP.sub (ws' := []) [] rfl
  have hDc := hD.sub (ws' := []) [] (by decide) rfl
  have hKc := hK.sub (tys' := []) [] rfl
  refine xgi (wsC := []) (wr := [(mo, .inr (6, [.int 0, .int 0, .ref a1, .ref a2, .ref a3, .ref a4, .ref a5, .ref a6, .ref a7, .ref a8, .ref a9, .int 0, .ref a10, .ref a11, .ref a12, .ref a13, .ref a14, .ref a15, .int 0, .ref a16, .int 1, .int 1, .int 0, .ref a17, .ref a18, .ref a19, .int 0, .int 0, .int 0, .int 0]))]) (va_runS (As := [.int y, .int 0, .int 3]) (rest := [.ref mo]) ⟨hx, hb, hml, hown, hts⟩ (c_Mo_outside l  D y 0 3 _ ) ⟨(callB_of 3 hts (x_good k_Mo_outside) rfl rfl rfl (hts _ (List.mem_cons_of_mem _ tw_8)) (hts _ (List.mem_cons_of_mem _ tw_765)) (by decide +kernel) ⟨Nat.le_of_ble_eq_true rfl, Nat.le_of_ble_eq_true rfl⟩), (hts _ (List.mem_cons_of_mem _ tw_766))⟩ (xP_S hPc hKc hDc hAm hTh hAs hS) rfl rfl hl.1 rfl (lv_room (Nat.le_of_ble_eq_true rfl)) d_Mo_link_4 ⟨Nat.le_of_ble_eq_true rfl, Nat.le_of_ble_eq_true rfl⟩) hP hD hK hS hA [] [0] rfl rfl (by decide) (by decide) (fun r1 _ H locs er1 hP hD hK hS => ?_)
  have er1 : r1 = xOut y 0 3 := er1
  subst er1
  have hK : va_K D cl [] s := hK
  have hP : va_P D cl [(mo, .inr (6, [.int 0, .int 0, .ref a1, .ref a2, .ref a3, .ref a4, .ref a5, .ref a6, .ref a7, .ref a8, .ref a9, .int 0, .ref a10, .ref a11, .ref a12, .ref a13, .ref a14, .ref a15, .int 0, .ref a16, .int 1, .int 1, .int 0, .ref a17, .ref a18, .ref a19, .int 0, .int 0, .int 0, .int 0]))] H := hP
  have hD : va_D A [(mo, .inr (6, [.int 0, .int 0, .ref a1, .ref a2, .ref a3, .ref a4, .ref a5, .ref a6, .ref a7, .ref a8, .ref a9, .int 0, .ref a10, .ref a11, .ref a12, .ref a13, .ref a14, .ref a15, .int 0, .ref a16, .int 1, .int 1, .int 0, .ref a17, .ref a18, .ref a19, .int 0, .int 0, .int 0, .int 0]))] := hD
  refine lv_if_ne (tgt := 25) hx hb d_Mo_link_7 (by decide) (fun b7 => ?_) (fun b7 => ?_)
  · refine lv_iconst (v := 1) hx hb d_Mo_link_25 (by decide) ?_
    refine lv_goto (tgt := 41) hx hb d_Mo_link_26 (by decide) ?_
    refine va_put (D := D) (ci := 6) (v := .int 1) (ty := .int) (C := R_Mo) (T := F_Mo) (N := 30) hx hb hts (fun w h => List.mem_cons_of_mem _ (u_Mo w h)) t_Mo o_Mo n_Mo hown hK hP hD hS 0 rfl rfl 0 (by decide) (hts _ (List.mem_cons_of_mem _ tw_665)) (fun _ h9 => h9) rfl (by decide +kernel) rfl rfl (Nat.le_of_ble_eq_true rfl) d_Mo_link_41 (fun H locs hP hD hS => ?_)
    have hP : va_P D cl [(mo, .inr (6, [.int 1, .int 0, .ref a1, .ref a2, .ref a3, .ref a4, .ref a5, .ref a6, .ref a7, .ref a8, .ref a9, .int 0, .ref a10, .ref a11, .ref a12, .ref a13, .ref a14, .ref a15, .int 0, .ref a16, .int 1, .int 1, .int 0, .ref a17, .ref a18, .ref a19, .int 0, .int 0, .int 0, .int 0]))] H := hP
    have hD : va_D A [(mo, .inr (6, [.int 1, .int 0, .ref a1, .ref a2, .ref a3, .ref a4, .ref a5, .ref a6, .ref a7, .ref a8, .ref a9, .int 0, .ref a10, .ref a11, .ref a12, .ref a13, .ref a14, .ref a15, .int 0, .ref a16, .int 1, .int 1, .int 0, .ref a17, .ref a18, .ref a19, .int 0, .int 0, .int 0, .int 0]))] := hD
    refine lv_aload_n hx hb d_Mo_link_44 rfl (lv_at hl 0 rfl) ?_
    refine va_get (D := D) (ci := 6) (v := .int 1) (C := R_Mo) (T := F_Mo) (N := 30) hx hb hts (fun w h => List.mem_cons_of_mem _ (u_Mo w h)) hown hK hP 0 rfl rfl 0 (by decide) (hts _ (List.mem_cons_of_mem _ tw_665)) (fun _ h9 => h9) rfl d_Mo_link_45 ?_
    refine lv_if_le (tgt := 52) hx hb d_Mo_link_48 (by decide) (fun b48 => absurd b48 (by decide)) (fun b48 => ?_)
    exact xrv () B d_Mo_link_51 (trivial) (hP.sub (ws' := [(mo, .inr (6, [.int 1, .int 0, .ref a1, .ref a2, .ref a3, .ref a4, .ref a5, .ref a6, .ref a7, .ref a8, .ref a9, .int 0, .ref a10, .ref a11, .ref a12, .ref a13, .ref a14, .ref a15, .int 0, .ref a16, .int 1, .int 1, .int 0, .ref a17, .ref a18, .ref a19, .int 0, .int 0, .int 0, .int 0]))]) [0] rfl) (hK.sub (tys' := []) [] rfl) (hD.sub (ws' := [(mo, .inr (6, [.int 1, .int 0, .ref a1, .ref a2, .ref a3, .ref a4, .ref a5, .ref a6, .ref a7, .ref a8, .ref a9, .int 0, .ref a10, .ref a11, .ref a12, .ref a13, .ref a14, .ref a15, .int 0, .ref a16, .int 1, .int 1, .int 0, .ref a17, .ref a18, .ref a19, .int 0, .int 0, .int 0, .int 0]))]) [0] (by decide) rfl) hS (Nat.le_of_ble_eq_true rfl) (Nat.le_of_ble_eq_true rfl)
  · refine lv_iload_n hx hb d_Mo_link_10 rfl (lv_at hl 3 rfl) ?_
    have hPc := hP.sub (ws' := []) [] rfl
    have hDc := hD.sub (ws' := []) [] (by decide) rfl
    have hKc := hK.sub (tys' := []) [] rfl
    refine xgi (wsC := []) (wr := [(mo, .inr (6, [.int 0, .int 0, .ref a1, .ref a2, .ref a3, .ref a4, .ref a5, .ref a6, .ref a7, .ref a8, .ref a9, .int 0, .ref a10, .ref a11, .ref a12, .ref a13, .ref a14, .ref a15, .int 0, .ref a16, .int 1, .int 1, .int 0, .ref a17, .ref a18, .ref a19, .int 0, .int 0, .int 0, .int 0]))]) (va_runS (As := [.int z]) (rest := [.ref mo]) ⟨hx, hb, hml, hown, hts⟩ (c_Mo_isFile l  D z _ ) ⟨(callB_of 1 hts (x_good k_Mo_isFile) rfl rfl rfl (hts _ (List.mem_cons_of_mem _ tw_8)) (hts _ (List.mem_cons_of_mem _ tw_772)) (by decide +kernel) ⟨Nat.le_of_ble_eq_true rfl, Nat.le_of_ble_eq_true rfl⟩), (hts _ (List.mem_cons_of_mem _ tw_773))⟩ (xP_S hPc hKc hDc hAm hTh hAs hS) rfl rfl hl.1 rfl (lv_room (Nat.le_of_ble_eq_true rfl)) d_Mo_link_11 ⟨Nat.le_of_ble_eq_true rfl, Nat.le_of_ble_eq_true rfl⟩) hP hD hK hS hA [] [0] rfl rfl (by decide) (by decide) (fun r2 _ H locs er2 hP hD hK hS => ?_)
    have er2 : r2 = xIn z 0 23 := er2
    subst er2
    have hK : va_K D cl [] s := hK
    have hP : va_P D cl [(mo, .inr (6, [.int 0, .int 0, .ref a1, .ref a2, .ref a3, .ref a4, .ref a5, .ref a6, .ref a7, .ref a8, .ref a9, .int 0, .ref a10, .ref a11, .ref a12, .ref a13, .ref a14, .ref a15, .int 0, .ref a16, .int 1, .int 1, .int 0, .ref a17, .ref a18, .ref a19, .int 0, .int 0, .int 0, .int 0]))] H := hP
    have hD : va_D A [(mo, .inr (6, [.int 0, .int 0, .ref a1, .ref a2, .ref a3, .ref a4, .ref a5, .ref a6, .ref a7, .ref a8, .ref a9, .int 0, .ref a10, .ref a11, .ref a12, .ref a13, .ref a14, .ref a15, .int 0, .ref a16, .int 1, .int 1, .int 0, .ref a17, .ref a18, .ref a19, .int 0, .int 0, .int 0, .int 0]))] := hD
    refine lv_if_eq (tgt := 25) hx hb d_Mo_link_14 (by decide) (fun b14 => ?_) (fun b14 => ?_)
    · refine lv_iconst (v := 1) hx hb d_Mo_link_25 (by decide) ?_
      refine lv_goto (tgt := 41) hx hb d_Mo_link_26 (by decide) ?_
      refine va_put (D := D) (ci := 6) (v := .int 1) (ty := .int) (C := R_Mo) (T := F_Mo) (N := 30) hx hb hts (fun w h => List.mem_cons_of_mem _ (u_Mo w h)) t_Mo o_Mo n_Mo hown hK hP hD hS 0 rfl rfl 0 (by decide) (hts _ (List.mem_cons_of_mem _ tw_665)) (fun _ h9 => h9) rfl (by decide +kernel) rfl rfl (Nat.le_of_ble_eq_true rfl) d_Mo_link_41 (fun H locs hP hD hS => ?_)
      have hP : va_P D cl [(mo, .inr (6, [.int 1, .int 0, .ref a1, .ref a2, .ref a3, .ref a4, .ref a5, .ref a6, .ref a7, .ref a8, .ref a9, .int 0, .ref a10, .ref a11, .ref a12, .ref a13, .ref a14, .ref a15, .int 0, .ref a16, .int 1, .int 1, .int 0, .ref a17, .ref a18, .ref a19, .int 0, .int 0, .int 0, .int 0]))] H := hP
      have hD : va_D A [(mo, .inr (6, [.int 1, .int 0, .ref a1, .ref a2, .ref a3, .ref a4, .ref a5, .ref a6, .ref a7, .ref a8, .ref a9, .int 0, .ref a10, .ref a11, .ref a12, .ref a13, .ref a14, .ref a15, .int 0, .ref a16, .int 1, .int 1, .int 0, .ref a17, .ref a18, .ref a19, .int 0, .int 0, .int 0, .int 0]))] := hD
      refine lv_aload_n hx hb d_Mo_link_44 rfl (lv_at hl 0 rfl) ?_
      refine va_get (D := D) (ci := 6) (v := .int 1) (C := R_Mo) (T := F_Mo) (N := 30) hx hb hts (fun w h => List.mem_cons_of_mem _ (u_Mo w h)) hown hK hP 0 rfl rfl 0 (by decide) (hts _ (List.mem_cons_of_mem _ tw_665)) (fun _ h9 => h9) rfl d_Mo_link_45 ?_
      refine lv_if_le (tgt := 52) hx hb d_Mo_link_48 (by decide) (fun b48 => absurd b48 (by decide)) (fun b48 => ?_)
      exact xrv () B d_Mo_link_51 (trivial) (hP.sub (ws' := [(mo, .inr (6, [.int 1, .int 0, .ref a1, .ref a2, .ref a3, .ref a4, .ref a5, .ref a6, .ref a7, .ref a8, .ref a9, .int 0, .ref a10, .ref a11, .ref a12, .ref a13, .ref a14, .ref a15, .int 0, .ref a16, .int 1, .int 1, .int 0, .ref a17, .ref a18, .ref a19, .int 0, .int 0, .int 0, .int 0]))]) [0] rfl) (hK.sub (tys' := []) [] rfl) (hD.sub (ws' := [(mo, .inr (6, [.int 1, .int 0, .ref a1, .ref a2, .ref a3, .ref a4, .ref a5, .ref a6, .ref a7, .ref a8, .ref a9, .int 0, .ref a10, .ref a11, .ref a12, .ref a13, .ref a14, .ref a15, .int 0, .ref a16, .int 1, .int 1, .int 0, .ref a17, .ref a18, .ref a19, .int 0, .int 0, .int 0, .int 0]))]) [0] (by decide) rfl) hS (Nat.le_of_ble_eq_true rfl) (Nat.le_of_ble_eq_true rfl)
    · refine lv_aload_n hx hb d_Mo_link_17 rfl (lv_at hl 0 rfl) ?_
      refine lv_iload_n hx hb d_Mo_link_18 rfl (lv_at hl 1 rfl) ?_
      have hPc := hP.sub (ws' := [(mo, .inr (6, [.int 0, .int 0, .ref a1, .ref a2, .ref a3, .ref a4, .ref a5, .ref a6, .ref a7, .ref a8, .ref a9, .int 0, .ref a10, .ref a11, .ref a12, .ref a13, .ref a14, .ref a15, .int 0, .ref a16, .int 1, .int 1, .int 0, .ref a17, .ref a18, .ref a19, .int 0, .int 0, .int 0, .int 0]))]) [0] rfl
      have hDc := hD.sub (ws' := [(mo, .inr (6, [.int 0, .int 0, .ref a1, .ref a2, .ref a3, .ref a4, .ref a5, .ref a6, .ref a7, .ref a8, .ref a9, .int 0, .ref a10, .ref a11, .ref a12, .ref a13, .ref a14, .ref a15, .int 0, .ref a16, .int 1, .int 1, .int 0, .ref a17, .ref a18, .ref a19, .int 0, .int 0, .int 0, .int 0]))]) [0] (by decide) rfl
      have hKc := hK.sub (tys' := []) [] rfl
      refine xgi (wsC := [(mo, .inr (6, [.int 0, .int 0, .ref a1, .ref a2, .ref a3, .ref a4, .ref a5, .ref a6, .ref a7, .ref a8, .ref a9, .int 0, .ref a10, .ref a11, .ref a12, .ref a13, .ref a14, .ref a15, .int 0, .ref a16, .int 1, .int 1, .int 0, .ref a17, .ref a18, .ref a19, .int 0, .int 0, .int 0, .int 0]))]) (wr := []) (va_runV (As := [.int x]) (rest := [.ref mo]) ⟨hx, hb, hml, hown, hts⟩ (c_Mo_isEdge l  D mo a1 a2 a3 a4 a5 a6 a7 a8 a9 a10 a11 a12 a13 a14 a15 a16 a17 a18 a19 x _ ) ⟨(callB_of 1 hts (x_good k_Mo_isEdge) rfl rfl rfl (hts _ (List.mem_cons_of_mem _ tw_8)) (hts _ (List.mem_cons_of_mem _ tw_775)) (by decide +kernel) ⟨Nat.le_of_ble_eq_true rfl, Nat.le_of_ble_eq_true rfl⟩), (hts _ (List.mem_cons_of_mem _ tw_777)), (hts _ (List.mem_cons_of_mem _ (x_sel 54 rfl)))⟩ (xP_V (va_recv (ci := 6) (q0 := 0) hK hP rfl rfl) hPc hKc hDc hAm hTh hAs hS) rfl rfl hl.1 rfl (lv_room (Nat.le_of_ble_eq_true rfl)) d_Mo_link_19 ⟨Nat.le_of_ble_eq_true rfl, Nat.le_of_ble_eq_true rfl⟩) hP hD hK hS hA [0] [] rfl rfl (by decide) (by decide) (fun r3 _ H locs er3 hP hD hK hS => ?_)
      have er3 : r3 = 0 := er3
      subst er3
      have hK : va_K D cl [] s := hK
      have hP : va_P D cl [(mo, .inr (6, [.int 0, .int 0, .ref a1, .ref a2, .ref a3, .ref a4, .ref a5, .ref a6, .ref a7, .ref a8, .ref a9, .int 0, .ref a10, .ref a11, .ref a12, .ref a13, .ref a14, .ref a15, .int 0, .ref a16, .int 1, .int 1, .int 0, .ref a17, .ref a18, .ref a19, .int 0, .int 0, .int 0, .int 0]))] H := hP
      have hD : va_D A [(mo, .inr (6, [.int 0, .int 0, .ref a1, .ref a2, .ref a3, .ref a4, .ref a5, .ref a6, .ref a7, .ref a8, .ref a9, .int 0, .ref a10, .ref a11, .ref a12, .ref a13, .ref a14, .ref a15, .int 0, .ref a16, .int 1, .int 1, .int 0, .ref a17, .ref a18, .ref a19, .int 0, .int 0, .int 0, .int 0]))] := hD
      refine lv_if_ne (tgt := 29) hx hb d_Mo_link_22 (by decide) (fun b22 => absurd b22 (by decide)) (fun b22 => ?_)
      refine lv_iconst (v := 1) hx hb d_Mo_link_25 (by decide) ?_
      refine lv_goto (tgt := 41) hx hb d_Mo_link_26 (by decide) ?_
      refine va_put (D := D) (ci := 6) (v := .int 1) (ty := .int) (C := R_Mo) (T := F_Mo) (N := 30) hx hb hts (fun w h => List.mem_cons_of_mem _ (u_Mo w h)) t_Mo o_Mo n_Mo hown hK hP hD hS 0 rfl rfl 0 (by decide) (hts _ (List.mem_cons_of_mem _ tw_665)) (fun _ h9 => h9) rfl (by decide +kernel) rfl rfl (Nat.le_of_ble_eq_true rfl) d_Mo_link_41 (fun H locs hP hD hS => ?_)
      have hP : va_P D cl [(mo, .inr (6, [.int 1, .int 0, .ref a1, .ref a2, .ref a3, .ref a4, .ref a5, .ref a6, .ref a7, .ref a8, .ref a9, .int 0, .ref a10, .ref a11, .ref a12, .ref a13, .ref a14, .ref a15, .int 0, .ref a16, .int 1, .int 1, .int 0, .ref a17, .ref a18, .ref a19, .int 0, .int 0, .int 0, .int 0]))] H := hP
      have hD : va_D A [(mo, .inr (6, [.int 1, .int 0, .ref a1, .ref a2, .ref a3, .ref a4, .ref a5, .ref a6, .ref a7, .ref a8, .ref a9, .int 0, .ref a10, .ref a11, .ref a12, .ref a13, .ref a14, .ref a15, .int 0, .ref a16, .int 1, .int 1, .int 0, .ref a17, .ref a18, .ref a19, .int 0, .int 0, .int 0, .int 0]))] := hD
      refine lv_aload_n hx hb d_Mo_link_44 rfl (lv_at hl 0 rfl) ?_
      refine va_get (D := D) (ci := 6) (v := .int 1) (C := R_Mo) (T := F_Mo) (N := 30) hx hb hts (fun w h => List.mem_cons_of_mem _ (u_Mo w h)) hown hK hP 0 rfl rfl 0 (by decide) (hts _ (List.mem_cons_of_mem _ tw_665)) (fun _ h9 => h9) rfl d_Mo_link_45 ?_
      refine lv_if_le (tgt := 52) hx hb d_Mo_link_48 (by decide) (fun b48 => absurd b48 (by decide)) (fun b48 => ?_)
      exact xrv () B d_Mo_link_51 (trivial) (hP.sub (ws' := [(mo, .inr (6, [.int 1, .int 0, .ref a1, .ref a2, .ref a3, .ref a4, .ref a5, .ref a6, .ref a7, .ref a8, .ref a9, .int 0, .ref a10, .ref a11, .ref a12, .ref a13, .ref a14, .ref a15, .int 0, .ref a16, .int 1, .int 1, .int 0, .ref a17, .ref a18, .ref a19, .int 0, .int 0, .int 0, .int 0]))]) [0] rfl) (hK.sub (tys' := []) [] rfl) (hD.sub (ws' := [(mo, .inr (6, [.int 1, .int 0, .ref a1, .ref a2, .ref a3, .ref a4, .ref a5, .ref a6, .ref a7, .ref a8, .ref a9, .int 0, .ref a10, .ref a11, .ref a12, .ref a13, .ref a14, .ref a15, .int 0, .ref a16, .int 1, .int 1, .int 0, .ref a17, .ref a18, .ref a19, .int 0, .int 0, .int 0, .int 0]))]) [0] (by decide) rfl) hS (Nat.le_of_ble_eq_true rfl) (Nat.le_of_ble_eq_true rfl)
theorem d_Mo_reads_0 : decode b_Mo_reads 0 = .ok (.aload_n 0, 1) := by decide +kernel
theorem d_Mo_reads_1 : decode b_Mo_reads 1 = .ok (.aload_n 0, 1) := by decide +kernel
theorem d_Mo_reads_2 : decode b_Mo_reads 2 = .ok (.iload_n 1, 1) := by decide +kernel
theorem d_Mo_reads_3 : decode b_Mo_reads 3 = .ok (.invokevirtual 99, 3) := by decide +kernel
theorem d_Mo_reads_6 : decode b_Mo_reads 6 = .ok (.ifCond .eq (19), 3) := by decide +kernel
theorem d_Mo_reads_25 : decode b_Mo_reads 25 = .ok (.iconst (1), 1) := by decide +kernel
theorem d_Mo_reads_26 : decode b_Mo_reads 26 = .ok (.goto (38), 3) := by decide +kernel
theorem d_Mo_reads_64 : decode b_Mo_reads 64 = .ok (.putfield 75, 3) := by decide +kernel
theorem d_Mo_reads_67 : decode b_Mo_reads 67 = .ok (.aload_n 0, 1) := by decide +kernel
theorem d_Mo_reads_68 : decode b_Mo_reads 68 = .ok (.getfield 75, 3) := by decide +kernel
theorem d_Mo_reads_71 : decode b_Mo_reads 71 = .ok (.ifCond .le (4), 3) := by decide +kernel
theorem d_Mo_reads_74 : decode b_Mo_reads 74 = .ok (.return_, 1) := by decide +kernel
set_option maxRecDepth 20000 in
set_option maxHeartbeats 4000000 in
theorem c_Mo_reads (l : Launch) (D : va_G) (mo : Nat) (a1 : Nat) (a2 : Nat) (a3 : Nat) (a4 : Nat) (a5 : Nat) (a6 : Nat) (a7 : Nat) (a8 : Nat) (a9 : Nat) (a10 : Nat) (a11 : Nat) (a12 : Nat) (a13 : Nat) (a14 : Nat) (a15 : Nat) (a16 : Nat) (a17 : Nat) (a18 : Nat) (a19 : Nat) (x : Int32) (y : Int32) (z : Int32) (sz : Nat)  : xMv l y_Mo_reads w_Mo_reads { frames := 2, cells := 0, slots := 0, locals := 60 } D cl [.ref mo, .int x, .int y, .int z] sz [] [(mo, .inr (6, [.int 0, .int 0, .ref a1, .ref a2, .ref a3, .ref a4, .ref a5, .ref a6, .ref a7, .ref a8, .ref a9, .int 0, .ref a10, .ref a11, .ref a12, .ref a13, .ref a14, .ref a15, .int 0, .ref a16, .int 1, .int 1, .int 0, .ref a17, .ref a18, .ref a19, .int 0, .int 0, .int 0, .int 0]))] (fun (_ : Unit) => True) (fun _ => [(mo, .inr (6, [.int 1, .int 0, .ref a1, .ref a2, .ref a3, .ref a4, .ref a5, .ref a6, .ref a7, .ref a8, .ref a9, .int 0, .ref a10, .ref a11, .ref a12, .ref a13, .ref a14, .ref a15, .int 0, .ref a16, .int 1, .int 1, .int 0, .ref a17, .ref a18, .ref a19, .int 0, .int 0, .int 0, .int 0]))]) (fun _ => []) := by
  refine xMv_of (by decide +kernel) rfl (Nat.le_of_ble_eq_true rfl) ?_
  intro p e s m args below meth c ls A B hAe hA hsz hP hK hD hS hAm hTh hAs hl
  obtain ⟨⟨hx, hb, hml, hown, hts⟩, hret, hlk, hnm, hemp⟩ := id B
  have hl : lv_has ls 4 [(0, .ref mo), (1, .int x), (2, .int y), (3, .int z)] := hl
  refine lv_aload_n hx hb d_Mo_reads_0 rfl (lv_at hl 0 rfl) ?_
  refine lv_aload_n hx hb d_Mo_reads_1 rfl (lv_at hl 0 rfl) ?_
  refine lv_iload_n hx hb d_Mo_reads_2 rfl (lv_at hl 1 rfl) ?_
  have hPc := hP.sub (ws' := [(mo, .inr (6, [.int 0, .int 0, .ref a1, .ref a2, .ref a3, .ref a4, .ref a5, .ref a6, .ref a7, .ref a8, .ref a9, .int 0, .ref a10, .ref a11, .ref a12, .ref a13, .ref a14, .ref a15, .int 0, .ref a16, .int 1, .int 1, .int 0, .ref a17, .ref a18, .ref a19, .int 0, .int 0, .int 0, .int 0]))]) [0] rfl
  have hDc := hD.sub (ws' := [(mo, .inr (6, [.int 0, .int 0, .ref a1, .ref a2, .ref a3, .ref a4, .ref a5, .ref a6, .ref a7, .ref a8, .ref a9, .int 0, .ref a10, .ref a11, .ref a12, .ref a13, .ref a14, .ref a15, .int 0, .ref a16, .int 1, .int 1, .int 0, .ref a17, .ref a18, .ref a19, .int 0, .int 0, .int 0, .int 0]))]) [0] (by decide) rfl
  have hKc := hK.sub (tys' := []) [] rfl
  refine xgi (wsC := [(mo, .inr (6, [.int 0, .int 0, .ref a1, .ref a2, .ref a3, .ref a4, .ref a5, .ref a6, .ref a7, .ref a8, .ref a9, .int 0, .ref a10, .ref a11, .ref a12, .ref a13, .ref a14, .ref a15, .int 0, .ref a16, .int 1, .int 1, .int 0, .ref a17, .ref a18, .ref a19, .int 0, .int 0, .int 0, .int 0]))]) (wr := []) (va_runV (As := [.int x]) (rest := [.ref mo]) ⟨hx, hb, hml, hown, hts⟩ (c_Mo_isEdge l  D mo a1 a2 a3 a4 a5 a6 a7 a8 a9 a10 a11 a12 a13 a14 a15 a16 a17 a18 a19 x _ ) ⟨(callB_of 1 hts (x_good k_Mo_isEdge) rfl rfl rfl (hts _ (List.mem_cons_of_mem _ tw_8)) (hts _ (List.mem_cons_of_mem _ tw_775)) (by decide +kernel) ⟨Nat.le_of_ble_eq_true rfl, Nat.le_of_ble_eq_true rfl⟩), (hts _ (List.mem_cons_of_mem _ tw_777)), (hts _ (List.mem_cons_of_mem _ (x_sel 54 rfl)))⟩ (xP_V (va_recv (ci := 6) (q0 := 0) hK hP rfl rfl) hPc hKc hDc hAm hTh hAs hS) rfl rfl hl.1 rfl (lv_room (Nat.le_of_ble_eq_true rfl)) d_Mo_reads_3 ⟨Nat.le_of_ble_eq_true rfl, Nat.le_of_ble_eq_true rfl⟩) hP hD hK hS hA [0] [] rfl rfl (by decide) (by decide) (fun r1 _ H locs er1 hP hD hK hS => ?_)
  have er1 : r1 = 0 := er1
  subst er1
  have hK : va_K D cl [] s := hK
  have hP : va_P D cl [(mo, .inr (6, [.int 0, .int 0, .ref a1, .ref a2, .ref a3, .ref a4, .ref a5, .ref a6, .ref a7, .ref a8, .ref a9, .int 0, .ref a10, .ref a11, .ref a12, .ref a13, .ref a14, .ref a15, .int 0, .ref a16, .int 1, .int 1, .int 0, .ref a17, .ref a18, .ref a19, .int 0, .int 0, .int 0, .int 0]))] H := hP
  have hD : va_D A [(mo, .inr (6, [.int 0, .int 0, .ref a1, .ref a2, .ref a3, .ref a4, .ref a5, .ref a6, .ref a7, .ref a8, .ref a9, .int 0, .ref a10, .ref a11, .ref a12, .ref a13, .ref a14, .ref a15, .int 0, .ref a16, .int 1, .int 1, .int 0, .ref a17, .ref a18, .ref a19, .int 0, .int 0, .int 0, .int 0]))] := hD
  refine lv_if_eq (tgt := 25) hx hb d_Mo_reads_6 (by decide) (fun b6 => ?_) (fun b6 => absurd b6 (by decide))
  refine lv_iconst (v := 1) hx hb d_Mo_reads_25 (by decide) ?_
  refine lv_goto (tgt := 64) hx hb d_Mo_reads_26 (by decide) ?_
  refine va_put (D := D) (ci := 6) (v := .int 1) (ty := .int) (C := R_Mo) (T := F_Mo) (N := 30) hx hb hts (fun w h => List.mem_cons_of_mem _ (u_Mo w h)) t_Mo o_Mo n_Mo hown hK hP hD hS 0 rfl rfl 0 (by decide) (hts _ (List.mem_cons_of_mem _ tw_665)) (fun _ h9 => h9) rfl (by decide +kernel) rfl rfl (Nat.le_of_ble_eq_true rfl) d_Mo_reads_64 (fun H locs hP hD hS => ?_)
  have hP : va_P D cl [(mo, .inr (6, [.int 1, .int 0, .ref a1, .ref a2, .ref a3, .ref a4, .ref a5, .ref a6, .ref a7, .ref a8, .ref a9, .int 0, .ref a10, .ref a11, .ref a12, .ref a13, .ref a14, .ref a15, .int 0, .ref a16, .int 1, .int 1, .int 0, .ref a17, .ref a18, .ref a19, .int 0, .int 0, .int 0, .int 0]))] H := hP
  have hD : va_D A [(mo, .inr (6, [.int 1, .int 0, .ref a1, .ref a2, .ref a3, .ref a4, .ref a5, .ref a6, .ref a7, .ref a8, .ref a9, .int 0, .ref a10, .ref a11, .ref a12, .ref a13, .ref a14, .ref a15, .int 0, .ref a16, .int 1, .int 1, .int 0, .ref a17, .ref a18, .ref a19, .int 0, .int 0, .int 0, .int 0]))] := hD
  refine lv_aload_n hx hb d_Mo_reads_67 rfl (lv_at hl 0 rfl) ?_
  refine va_get (D := D) (ci := 6) (v := .int 1) (C := R_Mo) (T := F_Mo) (N := 30) hx hb hts (fun w h => List.mem_cons_of_mem _ (u_Mo w h)) hown hK hP 0 rfl rfl 0 (by decide) (hts _ (List.mem_cons_of_mem _ tw_665)) (fun _ h9 => h9) rfl d_Mo_reads_68 ?_
  refine lv_if_le (tgt := 75) hx hb d_Mo_reads_71 (by decide) (fun b71 => absurd b71 (by decide)) (fun b71 => ?_)
  exact xrv () B d_Mo_reads_74 (trivial) (hP.sub (ws' := [(mo, .inr (6, [.int 1, .int 0, .ref a1, .ref a2, .ref a3, .ref a4, .ref a5, .ref a6, .ref a7, .ref a8, .ref a9, .int 0, .ref a10, .ref a11, .ref a12, .ref a13, .ref a14, .ref a15, .int 0, .ref a16, .int 1, .int 1, .int 0, .ref a17, .ref a18, .ref a19, .int 0, .int 0, .int 0, .int 0]))]) [0] rfl) (hK.sub (tys' := []) [] rfl) (hD.sub (ws' := [(mo, .inr (6, [.int 1, .int 0, .ref a1, .ref a2, .ref a3, .ref a4, .ref a5, .ref a6, .ref a7, .ref a8, .ref a9, .int 0, .ref a10, .ref a11, .ref a12, .ref a13, .ref a14, .ref a15, .int 0, .ref a16, .int 1, .int 1, .int 0, .ref a17, .ref a18, .ref a19, .int 0, .int 0, .int 0, .int 0]))]) [0] (by decide) rfl) hS (Nat.le_of_ble_eq_true rfl) (Nat.le_of_ble_eq_true rfl)
theorem d_Mo_command_0 : decode b_Mo_command 0 = .ok (.aload_n 0, 1) := by decide +kernel
theorem d_Mo_command_1 : decode b_Mo_command 1 = .ok (.aload_n 0, 1) := by decide +kernel
theorem d_Mo_command_2 : decode b_Mo_command 2 = .ok (.iload_n 1, 1) := by decide +kernel
theorem d_Mo_command_3 : decode b_Mo_command 3 = .ok (.invokevirtual 99, 3) := by decide +kernel
theorem d_Mo_command_6 : decode b_Mo_command 6 = .ok (.ifCond .eq (13), 3) := by decide +kernel
theorem d_Mo_command_19 : decode b_Mo_command 19 = .ok (.iconst (1), 1) := by decide +kernel
theorem d_Mo_command_20 : decode b_Mo_command 20 = .ok (.goto (15), 3) := by decide +kernel
theorem d_Mo_command_35 : decode b_Mo_command 35 = .ok (.putfield 75, 3) := by decide +kernel
theorem d_Mo_command_38 : decode b_Mo_command 38 = .ok (.aload_n 0, 1) := by decide +kernel
theorem d_Mo_command_39 : decode b_Mo_command 39 = .ok (.getfield 75, 3) := by decide +kernel
theorem d_Mo_command_42 : decode b_Mo_command 42 = .ok (.ifCond .ne (10), 3) := by decide +kernel
theorem d_Mo_command_52 : decode b_Mo_command 52 = .ok (.return_, 1) := by decide +kernel
set_option maxRecDepth 20000 in
set_option maxHeartbeats 4000000 in
theorem c_Mo_command (l : Launch) (D : va_G) (mo : Nat) (a1 : Nat) (a2 : Nat) (a3 : Nat) (a4 : Nat) (a5 : Nat) (a6 : Nat) (a7 : Nat) (a8 : Nat) (a9 : Nat) (a10 : Nat) (a11 : Nat) (a12 : Nat) (a13 : Nat) (a14 : Nat) (a15 : Nat) (a16 : Nat) (a17 : Nat) (a18 : Nat) (a19 : Nat) (x : Int32) (y : Int32) (sz : Nat)  : xMv l y_Mo_command w_Mo_command { frames := 2, cells := 0, slots := 0, locals := 60 } D cl [.ref mo, .int x, .int y] sz [] [(mo, .inr (6, [.int 0, .int 0, .ref a1, .ref a2, .ref a3, .ref a4, .ref a5, .ref a6, .ref a7, .ref a8, .ref a9, .int 0, .ref a10, .ref a11, .ref a12, .ref a13, .ref a14, .ref a15, .int 0, .ref a16, .int 1, .int 1, .int 0, .ref a17, .ref a18, .ref a19, .int 0, .int 0, .int 0, .int 0]))] (fun (_ : Unit) => True) (fun _ => [(mo, .inr (6, [.int 1, .int 0, .ref a1, .ref a2, .ref a3, .ref a4, .ref a5, .ref a6, .ref a7, .ref a8, .ref a9, .int 0, .ref a10, .ref a11, .ref a12, .ref a13, .ref a14, .ref a15, .int 0, .ref a16, .int 1, .int 1, .int 0, .ref a17, .ref a18, .ref a19, .int 0, .int 0, .int 0, .int 0]))]) (fun _ => []) := by
  refine xMv_of (by decide +kernel) rfl (Nat.le_of_ble_eq_true rfl) ?_
  intro p e s m args below meth c ls A B hAe hA hsz hP hK hD hS hAm hTh hAs hl
  obtain ⟨⟨hx, hb, hml, hown, hts⟩, hret, hlk, hnm, hemp⟩ := id B
  have hl : lv_has ls 3 [(0, .ref mo), (1, .int x), (2, .int y)] := hl
  refine lv_aload_n hx hb d_Mo_command_0 rfl (lv_at hl 0 rfl) ?_
  refine lv_aload_n hx hb d_Mo_command_1 rfl (lv_at hl 0 rfl) ?_
  refine lv_iload_n hx hb d_Mo_command_2 rfl (lv_at hl 1 rfl) ?_
  have hPc := hP.sub (ws' := [(mo, .inr (6, [.int 0, .int 0, .ref a1, .ref a2, .ref a3, .ref a4, .ref a5, .ref a6, .ref a7, .ref a8, .ref a9, .int 0, .ref a10, .ref a11, .ref a12, .ref a13, .ref a14, .ref a15, .int 0, .ref a16, .int 1, .int 1, .int 0, .ref a17, .ref a18, .ref a19, .int 0, .int 0, .int 0, .int 0]))]) [0] rfl
  have hDc := hD.sub (ws' := [(mo, .inr (6, [.int 0, .int 0, .ref a1, .ref a2, .ref a3, .ref a4, .ref a5, .ref a6, .ref a7, .ref a8, .ref a9, .int 0, .ref a10, .ref a11, .ref a12, .ref a13, .ref a14, .ref a15, .int 0, .ref a16, .int 1, .int 1, .int 0, .ref a17, .ref a18, .ref a19, .int 0, .int 0, .int 0, .int 0]))]) [0] (by decide) rfl
  have hKc := hK.sub (tys' := []) [] rfl
  refine xgi (wsC := [(mo, .inr (6, [.int 0, .int 0, .ref a1, .ref a2, .ref a3, .ref a4, .ref a5, .ref a6, .ref a7, .ref a8, .ref a9, .int 0, .ref a10, .ref a11, .ref a12, .ref a13, .ref a14, .ref a15, .int 0, .ref a16, .int 1, .int 1, .int 0, .ref a17, .ref a18, .ref a19, .int 0, .int 0, .int 0, .int 0]))]) (wr := []) (va_runV (As := [.int x]) (rest := [.ref mo]) ⟨hx, hb, hml, hown, hts⟩ (c_Mo_isEdge l  D mo a1 a2 a3 a4 a5 a6 a7 a8 a9 a10 a11 a12 a13 a14 a15 a16 a17 a18 a19 x _ ) ⟨(callB_of 1 hts (x_good k_Mo_isEdge) rfl rfl rfl (hts _ (List.mem_cons_of_mem _ tw_8)) (hts _ (List.mem_cons_of_mem _ tw_775)) (by decide +kernel) ⟨Nat.le_of_ble_eq_true rfl, Nat.le_of_ble_eq_true rfl⟩), (hts _ (List.mem_cons_of_mem _ tw_777)), (hts _ (List.mem_cons_of_mem _ (x_sel 54 rfl)))⟩ (xP_V (va_recv (ci := 6) (q0 := 0) hK hP rfl rfl) hPc hKc hDc hAm hTh hAs hS) rfl rfl hl.1 rfl (lv_room (Nat.le_of_ble_eq_true rfl)) d_Mo_command_3 ⟨Nat.le_of_ble_eq_true rfl, Nat.le_of_ble_eq_true rfl⟩) hP hD hK hS hA [0] [] rfl rfl (by decide) (by decide) (fun r1 _ H locs er1 hP hD hK hS => ?_)
  have er1 : r1 = 0 := er1
  subst er1
  have hK : va_K D cl [] s := hK
  have hP : va_P D cl [(mo, .inr (6, [.int 0, .int 0, .ref a1, .ref a2, .ref a3, .ref a4, .ref a5, .ref a6, .ref a7, .ref a8, .ref a9, .int 0, .ref a10, .ref a11, .ref a12, .ref a13, .ref a14, .ref a15, .int 0, .ref a16, .int 1, .int 1, .int 0, .ref a17, .ref a18, .ref a19, .int 0, .int 0, .int 0, .int 0]))] H := hP
  have hD : va_D A [(mo, .inr (6, [.int 0, .int 0, .ref a1, .ref a2, .ref a3, .ref a4, .ref a5, .ref a6, .ref a7, .ref a8, .ref a9, .int 0, .ref a10, .ref a11, .ref a12, .ref a13, .ref a14, .ref a15, .int 0, .ref a16, .int 1, .int 1, .int 0, .ref a17, .ref a18, .ref a19, .int 0, .int 0, .int 0, .int 0]))] := hD
  refine lv_if_eq (tgt := 19) hx hb d_Mo_command_6 (by decide) (fun b6 => ?_) (fun b6 => absurd b6 (by decide))
  refine lv_iconst (v := 1) hx hb d_Mo_command_19 (by decide) ?_
  refine lv_goto (tgt := 35) hx hb d_Mo_command_20 (by decide) ?_
  refine va_put (D := D) (ci := 6) (v := .int 1) (ty := .int) (C := R_Mo) (T := F_Mo) (N := 30) hx hb hts (fun w h => List.mem_cons_of_mem _ (u_Mo w h)) t_Mo o_Mo n_Mo hown hK hP hD hS 0 rfl rfl 0 (by decide) (hts _ (List.mem_cons_of_mem _ tw_665)) (fun _ h9 => h9) rfl (by decide +kernel) rfl rfl (Nat.le_of_ble_eq_true rfl) d_Mo_command_35 (fun H locs hP hD hS => ?_)
  have hP : va_P D cl [(mo, .inr (6, [.int 1, .int 0, .ref a1, .ref a2, .ref a3, .ref a4, .ref a5, .ref a6, .ref a7, .ref a8, .ref a9, .int 0, .ref a10, .ref a11, .ref a12, .ref a13, .ref a14, .ref a15, .int 0, .ref a16, .int 1, .int 1, .int 0, .ref a17, .ref a18, .ref a19, .int 0, .int 0, .int 0, .int 0]))] H := hP
  have hD : va_D A [(mo, .inr (6, [.int 1, .int 0, .ref a1, .ref a2, .ref a3, .ref a4, .ref a5, .ref a6, .ref a7, .ref a8, .ref a9, .int 0, .ref a10, .ref a11, .ref a12, .ref a13, .ref a14, .ref a15, .int 0, .ref a16, .int 1, .int 1, .int 0, .ref a17, .ref a18, .ref a19, .int 0, .int 0, .int 0, .int 0]))] := hD
  refine lv_aload_n hx hb d_Mo_command_38 rfl (lv_at hl 0 rfl) ?_
  refine va_get (D := D) (ci := 6) (v := .int 1) (C := R_Mo) (T := F_Mo) (N := 30) hx hb hts (fun w h => List.mem_cons_of_mem _ (u_Mo w h)) hown hK hP 0 rfl rfl 0 (by decide) (hts _ (List.mem_cons_of_mem _ tw_665)) (fun _ h9 => h9) rfl d_Mo_command_39 ?_
  refine lv_if_ne (tgt := 52) hx hb d_Mo_command_42 (by decide) (fun b42 => ?_) (fun b42 => absurd b42 (by decide))
  exact xrv () B d_Mo_command_52 (trivial) (hP.sub (ws' := [(mo, .inr (6, [.int 1, .int 0, .ref a1, .ref a2, .ref a3, .ref a4, .ref a5, .ref a6, .ref a7, .ref a8, .ref a9, .int 0, .ref a10, .ref a11, .ref a12, .ref a13, .ref a14, .ref a15, .int 0, .ref a16, .int 1, .int 1, .int 0, .ref a17, .ref a18, .ref a19, .int 0, .int 0, .int 0, .int 0]))]) [0] rfl) (hK.sub (tys' := []) [] rfl) (hD.sub (ws' := [(mo, .inr (6, [.int 1, .int 0, .ref a1, .ref a2, .ref a3, .ref a4, .ref a5, .ref a6, .ref a7, .ref a8, .ref a9, .int 0, .ref a10, .ref a11, .ref a12, .ref a13, .ref a14, .ref a15, .int 0, .ref a16, .int 1, .int 1, .int 0, .ref a17, .ref a18, .ref a19, .int 0, .int 0, .int 0, .int 0]))]) [0] (by decide) rfl) hS (Nat.le_of_ble_eq_true rfl) (Nat.le_of_ble_eq_true rfl)
theorem d_Mo_pool_0 : decode b_Mo_pool 0 = .ok (.aload_n 0, 1) := by decide +kernel
theorem d_Mo_pool_1 : decode b_Mo_pool 1 = .ok (.iload_n 1, 1) := by decide +kernel
theorem d_Mo_pool_2 : decode b_Mo_pool 2 = .ok (.iconst (1), 1) := by decide +kernel
theorem d_Mo_pool_3 : decode b_Mo_pool 3 = .ok (.iconst (2), 1) := by decide +kernel
theorem d_Mo_pool_4 : decode b_Mo_pool 4 = .ok (.invokestatic 82, 3) := by decide +kernel
theorem d_Mo_pool_7 : decode b_Mo_pool 7 = .ok (.ifCond .ne (12), 3) := by decide +kernel
theorem d_Mo_pool_10 : decode b_Mo_pool 10 = .ok (.iload_n 2, 1) := by decide +kernel
theorem d_Mo_pool_11 : decode b_Mo_pool 11 = .ok (.iconst (1), 1) := by decide +kernel
theorem d_Mo_pool_12 : decode b_Mo_pool 12 = .ok (.iconst (4), 1) := by decide +kernel
theorem d_Mo_pool_13 : decode b_Mo_pool 13 = .ok (.invokestatic 82, 3) := by decide +kernel
theorem d_Mo_pool_16 : decode b_Mo_pool 16 = .ok (.ifCond .eq (7), 3) := by decide +kernel
theorem d_Mo_pool_19 : decode b_Mo_pool 19 = .ok (.iconst (1), 1) := by decide +kernel
theorem d_Mo_pool_20 : decode b_Mo_pool 20 = .ok (.goto (15), 3) := by decide +kernel
theorem d_Mo_pool_35 : decode b_Mo_pool 35 = .ok (.putfield 75, 3) := by decide +kernel
theorem d_Mo_pool_38 : decode b_Mo_pool 38 = .ok (.aload_n 0, 1) := by decide +kernel
theorem d_Mo_pool_39 : decode b_Mo_pool 39 = .ok (.getfield 75, 3) := by decide +kernel
theorem d_Mo_pool_42 : decode b_Mo_pool 42 = .ok (.ifCond .le (4), 3) := by decide +kernel
theorem d_Mo_pool_45 : decode b_Mo_pool 45 = .ok (.return_, 1) := by decide +kernel
set_option maxRecDepth 20000 in
set_option maxHeartbeats 4000000 in
theorem c_Mo_pool_t (l : Launch) (D : va_G) (mo : Nat) (a1 : Nat) (a2 : Nat) (a3 : Nat) (a4 : Nat) (a5 : Nat) (a6 : Nat) (a7 : Nat) (a8 : Nat) (a9 : Nat) (a10 : Nat) (a11 : Nat) (a12 : Nat) (a13 : Nat) (a14 : Nat) (a15 : Nat) (a16 : Nat) (a17 : Nat) (a18 : Nat) (a19 : Nat) (x : Int32) (y : Int32) (sz : Nat) (h : ¬ (xIn x 1 2 = 1 ∧ xIn y 1 4 = 1)) : xMv l y_Mo_pool w_Mo_pool { frames := 1, cells := 0, slots := 0, locals := 22 } D cl [.ref mo, .int x, .int y] sz [] [(mo, .inr (6, [.int 0, .int 0, .ref a1, .ref a2, .ref a3, .ref a4, .ref a5, .ref a6, .ref a7, .ref a8, .ref a9, .int 0, .ref a10, .ref a11, .ref a12, .ref a13, .ref a14, .ref a15, .int 0, .ref a16, .int 1, .int 1, .int 0, .ref a17, .ref a18, .ref a19, .int 0, .int 0, .int 0, .int 0]))] (fun (_ : Unit) => True) (fun _ => [(mo, .inr (6, [.int 1, .int 0, .ref a1, .ref a2, .ref a3, .ref a4, .ref a5, .ref a6, .ref a7, .ref a8, .ref a9, .int 0, .ref a10, .ref a11, .ref a12, .ref a13, .ref a14, .ref a15, .int 0, .ref a16, .int 1, .int 1, .int 0, .ref a17, .ref a18, .ref a19, .int 0, .int 0, .int 0, .int 0]))]) (fun _ => []) := by
  refine xMv_of (by decide +kernel) rfl (Nat.le_of_ble_eq_true rfl) ?_
  intro p e s m args below meth c ls A B hAe hA hsz hP hK hD hS hAm hTh hAs hl
  obtain ⟨⟨hx, hb, hml, hown, hts⟩, hret, hlk, hnm, hemp⟩ := id B
  have hl : lv_has ls 3 [(0, .ref mo), (1, .int x), (2, .int y)] := hl
  refine lv_aload_n hx hb d_Mo_pool_0 rfl (lv_at hl 0 rfl) ?_
  refine lv_iload_n hx hb d_Mo_pool_1 rfl (lv_at hl 1 rfl) ?_
  refine lv_iconst (v := 1) hx hb d_Mo_pool_2 (by decide) ?_
  refine lv_iconst (v := 2) hx hb d_Mo_pool_3 (by decide) ?_
  have hPc := hP.sub (ws' := []) [] rfl
  have hDc := hD.sub (ws' := []) [] (by decide) rfl
  have hKc := hK.sub (tys' := []) [] rfl
  refine xgi (wsC := []) (wr := [(mo, .inr (6, [.int 0, .int 0, .ref a1, .ref a2, .ref a3, .ref a4, .ref a5, .ref a6, .ref a7, .ref a8, .ref a9, .int 0, .ref a10, .ref a11, .ref a12, .ref a13, .ref a14, .ref a15, .int 0, .ref a16, .int 1, .int 1, .int 0, .ref a17, .ref a18, .ref a19, .int 0, .int 0, .int 0, .int 0]))]) (va_runS (As := [.int x, .int 1, .int 2]) (rest := [.ref mo]) ⟨hx, hb, hml, hown, hts⟩ (c_Mo_outside l  D x 1 2 _ ) ⟨(callB_of 3 hts (x_good k_Mo_outside) rfl rfl rfl (hts _ (List.mem_cons_of_mem _ tw_8)) (hts _ (List.mem_cons_of_mem _ tw_765)) (by decide +kernel) ⟨Nat.le_of_ble_eq_true rfl, Nat.le_of_ble_eq_true rfl⟩), (hts _ (List.mem_cons_of_mem _ tw_766))⟩ (xP_S hPc hKc hDc hAm hTh hAs hS) rfl rfl hl.1 rfl (lv_room (Nat.le_of_ble_eq_true rfl)) d_Mo_pool_4 ⟨Nat.le_of_ble_eq_true rfl, Nat.le_of_ble_eq_true rfl⟩) hP hD hK hS hA [] [0] rfl rfl (by decide) (by decide) (fun r1 _ H locs er1 hP hD hK hS => ?_)
  have er1 : r1 = xOut x 1 2 := er1
  subst er1
  have hK : va_K D cl [] s := hK
  have hP : va_P D cl [(mo, .inr (6, [.int 0, .int 0, .ref a1, .ref a2, .ref a3, .ref a4, .ref a5, .ref a6, .ref a7, .ref a8, .ref a9, .int 0, .ref a10, .ref a11, .ref a12, .ref a13, .ref a14, .ref a15, .int 0, .ref a16, .int 1, .int 1, .int 0, .ref a17, .ref a18, .ref a19, .int 0, .int 0, .int 0, .int 0]))] H := hP
  have hD : va_D A [(mo, .inr (6, [.int 0, .int 0, .ref a1, .ref a2, .ref a3, .ref a4, .ref a5, .ref a6, .ref a7, .ref a8, .ref a9, .int 0, .ref a10, .ref a11, .ref a12, .ref a13, .ref a14, .ref a15, .int 0, .ref a16, .int 1, .int 1, .int 0, .ref a17, .ref a18, .ref a19, .int 0, .int 0, .int 0, .int 0]))] := hD
  refine lv_if_ne (tgt := 19) hx hb d_Mo_pool_7 (by decide) (fun b7 => ?_) (fun b7 => ?_)
  · refine lv_iconst (v := 1) hx hb d_Mo_pool_19 (by decide) ?_
    refine lv_goto (tgt := 35) hx hb d_Mo_pool_20 (by decide) ?_
    refine va_put (D := D) (ci := 6) (v := .int 1) (ty := .int) (C := R_Mo) (T := F_Mo) (N := 30) hx hb hts (fun w h => List.mem_cons_of_mem _ (u_Mo w h)) t_Mo o_Mo n_Mo hown hK hP hD hS 0 rfl rfl 0 (by decide) (hts _ (List.mem_cons_of_mem _ tw_665)) (fun _ h9 => h9) rfl (by decide +kernel) rfl rfl (Nat.le_of_ble_eq_true rfl) d_Mo_pool_35 (fun H locs hP hD hS => ?_)
    have hP : va_P D cl [(mo, .inr (6, [.int 1, .int 0, .ref a1, .ref a2, .ref a3, .ref a4, .ref a5, .ref a6, .ref a7, .ref a8, .ref a9, .int 0, .ref a10, .ref a11, .ref a12, .ref a13, .ref a14, .ref a15, .int 0, .ref a16, .int 1, .int 1, .int 0, .ref a17, .ref a18, .ref a19, .int 0, .int 0, .int 0, .int 0]))] H := hP
    have hD : va_D A [(mo, .inr (6, [.int 1, .int 0, .ref a1, .ref a2, .ref a3, .ref a4, .ref a5, .ref a6, .ref a7, .ref a8, .ref a9, .int 0, .ref a10, .ref a11, .ref a12, .ref a13, .ref a14, .ref a15, .int 0, .ref a16, .int 1, .int 1, .int 0, .ref a17, .ref a18, .ref a19, .int 0, .int 0, .int 0, .int 0]))] := hD
    refine lv_aload_n hx hb d_Mo_pool_38 rfl (lv_at hl 0 rfl) ?_
    refine va_get (D := D) (ci := 6) (v := .int 1) (C := R_Mo) (T := F_Mo) (N := 30) hx hb hts (fun w h => List.mem_cons_of_mem _ (u_Mo w h)) hown hK hP 0 rfl rfl 0 (by decide) (hts _ (List.mem_cons_of_mem _ tw_665)) (fun _ h9 => h9) rfl d_Mo_pool_39 ?_
    refine lv_if_le (tgt := 46) hx hb d_Mo_pool_42 (by decide) (fun b42 => absurd b42 (by decide)) (fun b42 => ?_)
    exact xrv () B d_Mo_pool_45 (trivial) (hP.sub (ws' := [(mo, .inr (6, [.int 1, .int 0, .ref a1, .ref a2, .ref a3, .ref a4, .ref a5, .ref a6, .ref a7, .ref a8, .ref a9, .int 0, .ref a10, .ref a11, .ref a12, .ref a13, .ref a14, .ref a15, .int 0, .ref a16, .int 1, .int 1, .int 0, .ref a17, .ref a18, .ref a19, .int 0, .int 0, .int 0, .int 0]))]) [0] rfl) (hK.sub (tys' := []) [] rfl) (hD.sub (ws' := [(mo, .inr (6, [.int 1, .int 0, .ref a1, .ref a2, .ref a3, .ref a4, .ref a5, .ref a6, .ref a7, .ref a8, .ref a9, .int 0, .ref a10, .ref a11, .ref a12, .ref a13, .ref a14, .ref a15, .int 0, .ref a16, .int 1, .int 1, .int 0, .ref a17, .ref a18, .ref a19, .int 0, .int 0, .int 0, .int 0]))]) [0] (by decide) rfl) hS (Nat.le_of_ble_eq_true rfl) (Nat.le_of_ble_eq_true rfl)
  · refine lv_iload_n hx hb d_Mo_pool_10 rfl (lv_at hl 2 rfl) ?_
    refine lv_iconst (v := 1) hx hb d_Mo_pool_11 (by decide) ?_
    refine lv_iconst (v := 4) hx hb d_Mo_pool_12 (by decide) ?_
    have hPc := hP.sub (ws' := []) [] rfl
    have hDc := hD.sub (ws' := []) [] (by decide) rfl
    have hKc := hK.sub (tys' := []) [] rfl
    refine xgi (wsC := []) (wr := [(mo, .inr (6, [.int 0, .int 0, .ref a1, .ref a2, .ref a3, .ref a4, .ref a5, .ref a6, .ref a7, .ref a8, .ref a9, .int 0, .ref a10, .ref a11, .ref a12, .ref a13, .ref a14, .ref a15, .int 0, .ref a16, .int 1, .int 1, .int 0, .ref a17, .ref a18, .ref a19, .int 0, .int 0, .int 0, .int 0]))]) (va_runS (As := [.int y, .int 1, .int 4]) (rest := [.ref mo]) ⟨hx, hb, hml, hown, hts⟩ (c_Mo_outside l  D y 1 4 _ ) ⟨(callB_of 3 hts (x_good k_Mo_outside) rfl rfl rfl (hts _ (List.mem_cons_of_mem _ tw_8)) (hts _ (List.mem_cons_of_mem _ tw_765)) (by decide +kernel) ⟨Nat.le_of_ble_eq_true rfl, Nat.le_of_ble_eq_true rfl⟩), (hts _ (List.mem_cons_of_mem _ tw_766))⟩ (xP_S hPc hKc hDc hAm hTh hAs hS) rfl rfl hl.1 rfl (lv_room (Nat.le_of_ble_eq_true rfl)) d_Mo_pool_13 ⟨Nat.le_of_ble_eq_true rfl, Nat.le_of_ble_eq_true rfl⟩) hP hD hK hS hA [] [0] rfl rfl (by decide) (by decide) (fun r2 _ H locs er2 hP hD hK hS => ?_)
    have er2 : r2 = xOut y 1 4 := er2
    subst er2
    have hK : va_K D cl [] s := hK
    have hP : va_P D cl [(mo, .inr (6, [.int 0, .int 0, .ref a1, .ref a2, .ref a3, .ref a4, .ref a5, .ref a6, .ref a7, .ref a8, .ref a9, .int 0, .ref a10, .ref a11, .ref a12, .ref a13, .ref a14, .ref a15, .int 0, .ref a16, .int 1, .int 1, .int 0, .ref a17, .ref a18, .ref a19, .int 0, .int 0, .int 0, .int 0]))] H := hP
    have hD : va_D A [(mo, .inr (6, [.int 0, .int 0, .ref a1, .ref a2, .ref a3, .ref a4, .ref a5, .ref a6, .ref a7, .ref a8, .ref a9, .int 0, .ref a10, .ref a11, .ref a12, .ref a13, .ref a14, .ref a15, .int 0, .ref a16, .int 1, .int 1, .int 0, .ref a17, .ref a18, .ref a19, .int 0, .int 0, .int 0, .int 0]))] := hD
    refine lv_if_eq (tgt := 23) hx hb d_Mo_pool_16 (by decide) (fun b16 => ?_) (fun b16 => ?_)
    · exact absurd ⟨xI1 b7, xI1 b16⟩ h
    · refine lv_iconst (v := 1) hx hb d_Mo_pool_19 (by decide) ?_
      refine lv_goto (tgt := 35) hx hb d_Mo_pool_20 (by decide) ?_
      refine va_put (D := D) (ci := 6) (v := .int 1) (ty := .int) (C := R_Mo) (T := F_Mo) (N := 30) hx hb hts (fun w h => List.mem_cons_of_mem _ (u_Mo w h)) t_Mo o_Mo n_Mo hown hK hP hD hS 0 rfl rfl 0 (by decide) (hts _ (List.mem_cons_of_mem _ tw_665)) (fun _ h9 => h9) rfl (by decide +kernel) rfl rfl (Nat.le_of_ble_eq_true rfl) d_Mo_pool_35 (fun H locs hP hD hS => ?_)
      have hP : va_P D cl [(mo, .inr (6, [.int 1, .int 0, .ref a1, .ref a2, .ref a3, .ref a4, .ref a5, .ref a6, .ref a7, .ref a8, .ref a9, .int 0, .ref a10, .ref a11, .ref a12, .ref a13, .ref a14, .ref a15, .int 0, .ref a16, .int 1, .int 1, .int 0, .ref a17, .ref a18, .ref a19, .int 0, .int 0, .int 0, .int 0]))] H := hP
      have hD : va_D A [(mo, .inr (6, [.int 1, .int 0, .ref a1, .ref a2, .ref a3, .ref a4, .ref a5, .ref a6, .ref a7, .ref a8, .ref a9, .int 0, .ref a10, .ref a11, .ref a12, .ref a13, .ref a14, .ref a15, .int 0, .ref a16, .int 1, .int 1, .int 0, .ref a17, .ref a18, .ref a19, .int 0, .int 0, .int 0, .int 0]))] := hD
      refine lv_aload_n hx hb d_Mo_pool_38 rfl (lv_at hl 0 rfl) ?_
      refine va_get (D := D) (ci := 6) (v := .int 1) (C := R_Mo) (T := F_Mo) (N := 30) hx hb hts (fun w h => List.mem_cons_of_mem _ (u_Mo w h)) hown hK hP 0 rfl rfl 0 (by decide) (hts _ (List.mem_cons_of_mem _ tw_665)) (fun _ h9 => h9) rfl d_Mo_pool_39 ?_
      refine lv_if_le (tgt := 46) hx hb d_Mo_pool_42 (by decide) (fun b42 => absurd b42 (by decide)) (fun b42 => ?_)
      exact xrv () B d_Mo_pool_45 (trivial) (hP.sub (ws' := [(mo, .inr (6, [.int 1, .int 0, .ref a1, .ref a2, .ref a3, .ref a4, .ref a5, .ref a6, .ref a7, .ref a8, .ref a9, .int 0, .ref a10, .ref a11, .ref a12, .ref a13, .ref a14, .ref a15, .int 0, .ref a16, .int 1, .int 1, .int 0, .ref a17, .ref a18, .ref a19, .int 0, .int 0, .int 0, .int 0]))]) [0] rfl) (hK.sub (tys' := []) [] rfl) (hD.sub (ws' := [(mo, .inr (6, [.int 1, .int 0, .ref a1, .ref a2, .ref a3, .ref a4, .ref a5, .ref a6, .ref a7, .ref a8, .ref a9, .int 0, .ref a10, .ref a11, .ref a12, .ref a13, .ref a14, .ref a15, .int 0, .ref a16, .int 1, .int 1, .int 0, .ref a17, .ref a18, .ref a19, .int 0, .int 0, .int 0, .int 0]))]) [0] (by decide) rfl) hS (Nat.le_of_ble_eq_true rfl) (Nat.le_of_ble_eq_true rfl)
theorem d_Mo_pool_23 : decode b_Mo_pool 23 = .ok (.aload_n 0, 1) := by decide +kernel
theorem d_Mo_pool_24 : decode b_Mo_pool 24 = .ok (.getfield 91, 3) := by decide +kernel
theorem d_Mo_pool_27 : decode b_Mo_pool 27 = .ok (.ifCond .eq (7), 3) := by decide +kernel
theorem d_Mo_pool_34 : decode b_Mo_pool 34 = .ok (.iconst (0), 1) := by decide +kernel
theorem d_Mo_pool_46 : decode b_Mo_pool 46 = .ok (.aload_n 0, 1) := by decide +kernel
theorem d_Mo_pool_47 : decode b_Mo_pool 47 = .ok (.iload_n 1, 1) := by decide +kernel
theorem d_Mo_pool_48 : decode b_Mo_pool 48 = .ok (.iconst (1), 1) := by decide +kernel
theorem d_Mo_pool_49 : decode b_Mo_pool 49 = .ok (.if_icmp .ne (7), 3) := by decide +kernel
theorem d_Mo_pool_52 : decode b_Mo_pool 52 = .ok (.iload_n 2, 1) := by decide +kernel
theorem d_Mo_pool_53 : decode b_Mo_pool 53 = .ok (.goto (7), 3) := by decide +kernel
theorem d_Mo_pool_60 : decode b_Mo_pool 60 = .ok (.putfield 59, 3) := by decide +kernel
theorem d_Mo_pool_63 : decode b_Mo_pool 63 = .ok (.aload_n 0, 1) := by decide +kernel
theorem d_Mo_pool_64 : decode b_Mo_pool 64 = .ok (.iload_n 1, 1) := by decide +kernel
theorem d_Mo_pool_65 : decode b_Mo_pool 65 = .ok (.iconst (2), 1) := by decide +kernel
theorem d_Mo_pool_66 : decode b_Mo_pool 66 = .ok (.if_icmp .ne (7), 3) := by decide +kernel
theorem d_Mo_pool_73 : decode b_Mo_pool 73 = .ok (.aload_n 0, 1) := by decide +kernel
theorem d_Mo_pool_74 : decode b_Mo_pool 74 = .ok (.getfield 63, 3) := by decide +kernel
theorem d_Mo_pool_77 : decode b_Mo_pool 77 = .ok (.putfield 63, 3) := by decide +kernel
theorem d_Mo_pool_80 : decode b_Mo_pool 80 = .ok (.return_, 1) := by decide +kernel
set_option maxRecDepth 20000 in
set_option maxHeartbeats 4000000 in
theorem c_Mo_pool1 (l : Launch) (D : va_G) (mo : Nat) (a1 : Nat) (a2 : Nat) (a3 : Nat) (a4 : Nat) (a5 : Nat) (a6 : Nat) (a7 : Nat) (a8 : Nat) (a9 : Nat) (a10 : Nat) (a11 : Nat) (a12 : Nat) (a13 : Nat) (a14 : Nat) (a15 : Nat) (a16 : Nat) (a17 : Nat) (a18 : Nat) (a19 : Nat) (y : Int32) (sz : Nat) (h : xIn y 1 4 = 1) : xMv l y_Mo_pool w_Mo_pool { frames := 1, cells := 0, slots := 0, locals := 22 } D cl [.ref mo, .int 1, .int y] sz [] [(mo, .inr (6, [.int 0, .int 0, .ref a1, .ref a2, .ref a3, .ref a4, .ref a5, .ref a6, .ref a7, .ref a8, .ref a9, .int 0, .ref a10, .ref a11, .ref a12, .ref a13, .ref a14, .ref a15, .int 0, .ref a16, .int 1, .int 1, .int 0, .ref a17, .ref a18, .ref a19, .int 0, .int 0, .int 0, .int 0]))] (fun (_ : Unit) => True) (fun _ => [(mo, .inr (6, [.int 0, .int 0, .ref a1, .ref a2, .ref a3, .ref a4, .ref a5, .ref a6, .ref a7, .ref a8, .ref a9, .int 0, .ref a10, .ref a11, .ref a12, .ref a13, .ref a14, .ref a15, .int 0, .ref a16, .int y, .int 1, .int 0, .ref a17, .ref a18, .ref a19, .int 0, .int 0, .int 0, .int 0]))]) (fun _ => []) := by
  refine xMv_of (by decide +kernel) rfl (Nat.le_of_ble_eq_true rfl) ?_
  intro p e s m args below meth c ls A B hAe hA hsz hP hK hD hS hAm hTh hAs hl
  obtain ⟨⟨hx, hb, hml, hown, hts⟩, hret, hlk, hnm, hemp⟩ := id B
  have hl : lv_has ls 3 [(0, .ref mo), (1, .int 1), (2, .int y)] := hl
  refine lv_aload_n hx hb d_Mo_pool_0 rfl (lv_at hl 0 rfl) ?_
  refine lv_iload_n hx hb d_Mo_pool_1 rfl (lv_at hl 1 rfl) ?_
  refine lv_iconst (v := 1) hx hb d_Mo_pool_2 (by decide) ?_
  refine lv_iconst (v := 2) hx hb d_Mo_pool_3 (by decide) ?_
  have hPc := hP.sub (ws' := []) [] rfl
  have hDc := hD.sub (ws' := []) [] (by decide) rfl
  have hKc := hK.sub (tys' := []) [] rfl
  refine xgi (wsC := []) (wr := [(mo, .inr (6, [.int 0, .int 0, .ref a1, .ref a2, .ref a3, .ref a4, .ref a5, .ref a6, .ref a7, .ref a8, .ref a9, .int 0, .ref a10, .ref a11, .ref a12, .ref a13, .ref a14, .ref a15, .int 0, .ref a16, .int 1, .int 1, .int 0, .ref a17, .ref a18, .ref a19, .int 0, .int 0, .int 0, .int 0]))]) (va_runS (As := [.int 1, .int 1, .int 2]) (rest := [.ref mo]) ⟨hx, hb, hml, hown, hts⟩ (c_Mo_outside l  D 1 1 2 _ ) ⟨(callB_of 3 hts (x_good k_Mo_outside) rfl rfl rfl (hts _ (List.mem_cons_of_mem _ tw_8)) (hts _ (List.mem_cons_of_mem _ tw_765)) (by decide +kernel) ⟨Nat.le_of_ble_eq_true rfl, Nat.le_of_ble_eq_true rfl⟩), (hts _ (List.mem_cons_of_mem _ tw_766))⟩ (xP_S hPc hKc hDc hAm hTh hAs hS) rfl rfl hl.1 rfl (lv_room (Nat.le_of_ble_eq_true rfl)) d_Mo_pool_4 ⟨Nat.le_of_ble_eq_true rfl, Nat.le_of_ble_eq_true rfl⟩) hP hD hK hS hA [] [0] rfl rfl (by decide) (by decide) (fun r1 _ H locs er1 hP hD hK hS => ?_)
  have er1 : r1 = xOut 1 1 2 := er1
  subst er1
  have hK : va_K D cl [] s := hK
  have hP : va_P D cl [(mo, .inr (6, [.int 0, .int 0, .ref a1, .ref a2, .ref a3, .ref a4, .ref a5, .ref a6, .ref a7, .ref a8, .ref a9, .int 0, .ref a10, .ref a11, .ref a12, .ref a13, .ref a14, .ref a15, .int 0, .ref a16, .int 1, .int 1, .int 0, .ref a17, .ref a18, .ref a19, .int 0, .int 0, .int 0, .int 0]))] H := hP
  have hD : va_D A [(mo, .inr (6, [.int 0, .int 0, .ref a1, .ref a2, .ref a3, .ref a4, .ref a5, .ref a6, .ref a7, .ref a8, .ref a9, .int 0, .ref a10, .ref a11, .ref a12, .ref a13, .ref a14, .ref a15, .int 0, .ref a16, .int 1, .int 1, .int 0, .ref a17, .ref a18, .ref a19, .int 0, .int 0, .int 0, .int 0]))] := hD
  refine lv_if_ne (tgt := 19) hx hb d_Mo_pool_7 (by decide) (fun b7 => absurd (by decide) b7) (fun b7 => ?_)
  refine lv_iload_n hx hb d_Mo_pool_10 rfl (lv_at hl 2 rfl) ?_
  refine lv_iconst (v := 1) hx hb d_Mo_pool_11 (by decide) ?_
  refine lv_iconst (v := 4) hx hb d_Mo_pool_12 (by decide) ?_
  have hPc := hP.sub (ws' := []) [] rfl
  have hDc := hD.sub (ws' := []) [] (by decide) rfl
  have hKc := hK.sub (tys' := []) [] rfl
  refine xgi (wsC := []) (wr := [(mo, .inr (6, [.int 0, .int 0, .ref a1, .ref a2, .ref a3, .ref a4, .ref a5, .ref a6, .ref a7, .ref a8, .ref a9, .int 0, .ref a10, .ref a11, .ref a12, .ref a13, .ref a14, .ref a15, .int 0, .ref a16, .int 1, .int 1, .int 0, .ref a17, .ref a18, .ref a19, .int 0, .int 0, .int 0, .int 0]))]) (va_runS (As := [.int y, .int 1, .int 4]) (rest := [.ref mo]) ⟨hx, hb, hml, hown, hts⟩ (c_Mo_outside l  D y 1 4 _ ) ⟨(callB_of 3 hts (x_good k_Mo_outside) rfl rfl rfl (hts _ (List.mem_cons_of_mem _ tw_8)) (hts _ (List.mem_cons_of_mem _ tw_765)) (by decide +kernel) ⟨Nat.le_of_ble_eq_true rfl, Nat.le_of_ble_eq_true rfl⟩), (hts _ (List.mem_cons_of_mem _ tw_766))⟩ (xP_S hPc hKc hDc hAm hTh hAs hS) rfl rfl hl.1 rfl (lv_room (Nat.le_of_ble_eq_true rfl)) d_Mo_pool_13 ⟨Nat.le_of_ble_eq_true rfl, Nat.le_of_ble_eq_true rfl⟩) hP hD hK hS hA [] [0] rfl rfl (by decide) (by decide) (fun r2 _ H locs er2 hP hD hK hS => ?_)
  have er2 : r2 = xOut y 1 4 := er2
  subst er2
  have hK : va_K D cl [] s := hK
  have hP : va_P D cl [(mo, .inr (6, [.int 0, .int 0, .ref a1, .ref a2, .ref a3, .ref a4, .ref a5, .ref a6, .ref a7, .ref a8, .ref a9, .int 0, .ref a10, .ref a11, .ref a12, .ref a13, .ref a14, .ref a15, .int 0, .ref a16, .int 1, .int 1, .int 0, .ref a17, .ref a18, .ref a19, .int 0, .int 0, .int 0, .int 0]))] H := hP
  have hD : va_D A [(mo, .inr (6, [.int 0, .int 0, .ref a1, .ref a2, .ref a3, .ref a4, .ref a5, .ref a6, .ref a7, .ref a8, .ref a9, .int 0, .ref a10, .ref a11, .ref a12, .ref a13, .ref a14, .ref a15, .int 0, .ref a16, .int 1, .int 1, .int 0, .ref a17, .ref a18, .ref a19, .int 0, .int 0, .int 0, .int 0]))] := hD
  refine lv_if_eq (tgt := 23) hx hb d_Mo_pool_16 (by decide) (fun b16 => ?_) (fun b16 => ?_)
  · refine lv_aload_n hx hb d_Mo_pool_23 rfl (lv_at hl 0 rfl) ?_
    refine va_get (D := D) (ci := 6) (v := .int 0) (C := R_Mo) (T := F_Mo) (N := 30) hx hb hts (fun w h => List.mem_cons_of_mem _ (u_Mo w h)) hown hK hP 0 rfl rfl 29 (by decide) (hts _ (List.mem_cons_of_mem _ tw_694)) (fun _ h9 => h9) rfl d_Mo_pool_24 ?_
    refine lv_if_eq (tgt := 34) hx hb d_Mo_pool_27 (by decide) (fun b27 => ?_) (fun b27 => absurd b27 (by decide))
    refine lv_iconst (v := 0) hx hb d_Mo_pool_34 (by decide) ?_
    refine va_put (D := D) (ci := 6) (v := .int 0) (ty := .int) (C := R_Mo) (T := F_Mo) (N := 30) hx hb hts (fun w h => List.mem_cons_of_mem _ (u_Mo w h)) t_Mo o_Mo n_Mo hown hK hP hD hS 0 rfl rfl 0 (by decide) (hts _ (List.mem_cons_of_mem _ tw_665)) (fun _ h9 => h9) rfl (by decide +kernel) rfl rfl (Nat.le_of_ble_eq_true rfl) d_Mo_pool_35 (fun H locs hP hD hS => ?_)
    have hP : va_P D cl [(mo, .inr (6, [.int 0, .int 0, .ref a1, .ref a2, .ref a3, .ref a4, .ref a5, .ref a6, .ref a7, .ref a8, .ref a9, .int 0, .ref a10, .ref a11, .ref a12, .ref a13, .ref a14, .ref a15, .int 0, .ref a16, .int 1, .int 1, .int 0, .ref a17, .ref a18, .ref a19, .int 0, .int 0, .int 0, .int 0]))] H := hP
    have hD : va_D A [(mo, .inr (6, [.int 0, .int 0, .ref a1, .ref a2, .ref a3, .ref a4, .ref a5, .ref a6, .ref a7, .ref a8, .ref a9, .int 0, .ref a10, .ref a11, .ref a12, .ref a13, .ref a14, .ref a15, .int 0, .ref a16, .int 1, .int 1, .int 0, .ref a17, .ref a18, .ref a19, .int 0, .int 0, .int 0, .int 0]))] := hD
    refine lv_aload_n hx hb d_Mo_pool_38 rfl (lv_at hl 0 rfl) ?_
    refine va_get (D := D) (ci := 6) (v := .int 0) (C := R_Mo) (T := F_Mo) (N := 30) hx hb hts (fun w h => List.mem_cons_of_mem _ (u_Mo w h)) hown hK hP 0 rfl rfl 0 (by decide) (hts _ (List.mem_cons_of_mem _ tw_665)) (fun _ h9 => h9) rfl d_Mo_pool_39 ?_
    refine lv_if_le (tgt := 46) hx hb d_Mo_pool_42 (by decide) (fun b42 => ?_) (fun b42 => absurd b42 (by decide))
    refine lv_aload_n hx hb d_Mo_pool_46 rfl (lv_at hl 0 rfl) ?_
    refine lv_iload_n hx hb d_Mo_pool_47 rfl (lv_at hl 1 rfl) ?_
    refine lv_iconst (v := 1) hx hb d_Mo_pool_48 (by decide) ?_
    refine lv_icmp_ne (tgt := 56) hx hb d_Mo_pool_49 (by decide) (fun b49 => absurd b49 (by decide)) (fun b49 => ?_)
    refine lv_iload_n hx hb d_Mo_pool_52 rfl (lv_at hl 2 rfl) ?_
    refine lv_goto (tgt := 60) hx hb d_Mo_pool_53 (by decide) ?_
    refine va_put (D := D) (ci := 6) (v := .int y) (ty := .int) (C := R_Mo) (T := F_Mo) (N := 30) hx hb hts (fun w h => List.mem_cons_of_mem _ (u_Mo w h)) t_Mo o_Mo n_Mo hown hK hP hD hS 0 rfl rfl 20 (by decide) (hts _ (List.mem_cons_of_mem _ tw_685)) (fun _ h9 => h9) rfl (by decide +kernel) rfl rfl (Nat.le_of_ble_eq_true rfl) d_Mo_pool_60 (fun H locs hP hD hS => ?_)
    have hP : va_P D cl [(mo, .inr (6, [.int 0, .int 0, .ref a1, .ref a2, .ref a3, .ref a4, .ref a5, .ref a6, .ref a7, .ref a8, .ref a9, .int 0, .ref a10, .ref a11, .ref a12, .ref a13, .ref a14, .ref a15, .int 0, .ref a16, .int y, .int 1, .int 0, .ref a17, .ref a18, .ref a19, .int 0, .int 0, .int 0, .int 0]))] H := hP
    have hD : va_D A [(mo, .inr (6, [.int 0, .int 0, .ref a1, .ref a2, .ref a3, .ref a4, .ref a5, .ref a6, .ref a7, .ref a8, .ref a9, .int 0, .ref a10, .ref a11, .ref a12, .ref a13, .ref a14, .ref a15, .int 0, .ref a16, .int y, .int 1, .int 0, .ref a17, .ref a18, .ref a19, .int 0, .int 0, .int 0, .int 0]))] := hD
    refine lv_aload_n hx hb d_Mo_pool_63 rfl (lv_at hl 0 rfl) ?_
    refine lv_iload_n hx hb d_Mo_pool_64 rfl (lv_at hl 1 rfl) ?_
    refine lv_iconst (v := 2) hx hb d_Mo_pool_65 (by decide) ?_
    refine lv_icmp_ne (tgt := 73) hx hb d_Mo_pool_66 (by decide) (fun b66 => ?_) (fun b66 => absurd b66 (by decide))
    refine lv_aload_n hx hb d_Mo_pool_73 rfl (lv_at hl 0 rfl) ?_
    refine va_get (D := D) (ci := 6) (v := .int 1) (C := R_Mo) (T := F_Mo) (N := 30) hx hb hts (fun w h => List.mem_cons_of_mem _ (u_Mo w h)) hown hK hP 0 rfl rfl 21 (by decide) (hts _ (List.mem_cons_of_mem _ tw_686)) (fun _ h9 => h9) rfl d_Mo_pool_74 ?_
    refine va_put (D := D) (ci := 6) (v := .int 1) (ty := .int) (C := R_Mo) (T := F_Mo) (N := 30) hx hb hts (fun w h => List.mem_cons_of_mem _ (u_Mo w h)) t_Mo o_Mo n_Mo hown hK hP hD hS 0 rfl rfl 21 (by decide) (hts _ (List.mem_cons_of_mem _ tw_686)) (fun _ h9 => h9) rfl (by decide +kernel) rfl rfl (Nat.le_of_ble_eq_true rfl) d_Mo_pool_77 (fun H locs hP hD hS => ?_)
    have hP : va_P D cl [(mo, .inr (6, [.int 0, .int 0, .ref a1, .ref a2, .ref a3, .ref a4, .ref a5, .ref a6, .ref a7, .ref a8, .ref a9, .int 0, .ref a10, .ref a11, .ref a12, .ref a13, .ref a14, .ref a15, .int 0, .ref a16, .int y, .int 1, .int 0, .ref a17, .ref a18, .ref a19, .int 0, .int 0, .int 0, .int 0]))] H := hP
    have hD : va_D A [(mo, .inr (6, [.int 0, .int 0, .ref a1, .ref a2, .ref a3, .ref a4, .ref a5, .ref a6, .ref a7, .ref a8, .ref a9, .int 0, .ref a10, .ref a11, .ref a12, .ref a13, .ref a14, .ref a15, .int 0, .ref a16, .int y, .int 1, .int 0, .ref a17, .ref a18, .ref a19, .int 0, .int 0, .int 0, .int 0]))] := hD
    exact xrv () B d_Mo_pool_80 (trivial) (hP.sub (ws' := [(mo, .inr (6, [.int 0, .int 0, .ref a1, .ref a2, .ref a3, .ref a4, .ref a5, .ref a6, .ref a7, .ref a8, .ref a9, .int 0, .ref a10, .ref a11, .ref a12, .ref a13, .ref a14, .ref a15, .int 0, .ref a16, .int y, .int 1, .int 0, .ref a17, .ref a18, .ref a19, .int 0, .int 0, .int 0, .int 0]))]) [0] rfl) (hK.sub (tys' := []) [] rfl) (hD.sub (ws' := [(mo, .inr (6, [.int 0, .int 0, .ref a1, .ref a2, .ref a3, .ref a4, .ref a5, .ref a6, .ref a7, .ref a8, .ref a9, .int 0, .ref a10, .ref a11, .ref a12, .ref a13, .ref a14, .ref a15, .int 0, .ref a16, .int y, .int 1, .int 0, .ref a17, .ref a18, .ref a19, .int 0, .int 0, .int 0, .int 0]))]) [0] (by decide) rfl) hS (Nat.le_of_ble_eq_true rfl) (Nat.le_of_ble_eq_true rfl)
  · exact absurd (xO0 h) b16
theorem d_Mo_pool_56 : decode b_Mo_pool 56 = .ok (.aload_n 0, 1) := by decide +kernel
theorem d_Mo_pool_57 : decode b_Mo_pool 57 = .ok (.getfield 59, 3) := by decide +kernel
theorem d_Mo_pool_69 : decode b_Mo_pool 69 = .ok (.iload_n 2, 1) := by decide +kernel
theorem d_Mo_pool_70 : decode b_Mo_pool 70 = .ok (.goto (7), 3) := by decide +kernel
set_option maxRecDepth 20000 in
set_option maxHeartbeats 4000000 in
theorem c_Mo_pool2 (l : Launch) (D : va_G) (mo : Nat) (a1 : Nat) (a2 : Nat) (a3 : Nat) (a4 : Nat) (a5 : Nat) (a6 : Nat) (a7 : Nat) (a8 : Nat) (a9 : Nat) (a10 : Nat) (a11 : Nat) (a12 : Nat) (a13 : Nat) (a14 : Nat) (a15 : Nat) (a16 : Nat) (a17 : Nat) (a18 : Nat) (a19 : Nat) (y : Int32) (sz : Nat) (h : xIn y 1 4 = 1) : xMv l y_Mo_pool w_Mo_pool { frames := 1, cells := 0, slots := 0, locals := 22 } D cl [.ref mo, .int 2, .int y] sz [] [(mo, .inr (6, [.int 0, .int 0, .ref a1, .ref a2, .ref a3, .ref a4, .ref a5, .ref a6, .ref a7, .ref a8, .ref a9, .int 0, .ref a10, .ref a11, .ref a12, .ref a13, .ref a14, .ref a15, .int 0, .ref a16, .int 1, .int 1, .int 0, .ref a17, .ref a18, .ref a19, .int 0, .int 0, .int 0, .int 0]))] (fun (_ : Unit) => True) (fun _ => [(mo, .inr (6, [.int 0, .int 0, .ref a1, .ref a2, .ref a3, .ref a4, .ref a5, .ref a6, .ref a7, .ref a8, .ref a9, .int 0, .ref a10, .ref a11, .ref a12, .ref a13, .ref a14, .ref a15, .int 0, .ref a16, .int 1, .int y, .int 0, .ref a17, .ref a18, .ref a19, .int 0, .int 0, .int 0, .int 0]))]) (fun _ => []) := by
  refine xMv_of (by decide +kernel) rfl (Nat.le_of_ble_eq_true rfl) ?_
  intro p e s m args below meth c ls A B hAe hA hsz hP hK hD hS hAm hTh hAs hl
  obtain ⟨⟨hx, hb, hml, hown, hts⟩, hret, hlk, hnm, hemp⟩ := id B
  have hl : lv_has ls 3 [(0, .ref mo), (1, .int 2), (2, .int y)] := hl
  refine lv_aload_n hx hb d_Mo_pool_0 rfl (lv_at hl 0 rfl) ?_
  refine lv_iload_n hx hb d_Mo_pool_1 rfl (lv_at hl 1 rfl) ?_
  refine lv_iconst (v := 1) hx hb d_Mo_pool_2 (by decide) ?_
  refine lv_iconst (v := 2) hx hb d_Mo_pool_3 (by decide) ?_
  have hPc := hP.sub (ws' := []) [] rfl
  have hDc := hD.sub (ws' := []) [] (by decide) rfl
  have hKc := hK.sub (tys' := []) [] rfl
  refine xgi (wsC := []) (wr := [(mo, .inr (6, [.int 0, .int 0, .ref a1, .ref a2, .ref a3, .ref a4, .ref a5, .ref a6, .ref a7, .ref a8, .ref a9, .int 0, .ref a10, .ref a11, .ref a12, .ref a13, .ref a14, .ref a15, .int 0, .ref a16, .int 1, .int 1, .int 0, .ref a17, .ref a18, .ref a19, .int 0, .int 0, .int 0, .int 0]))]) (va_runS (As := [.int 2, .int 1, .int 2]) (rest := [.ref mo]) ⟨hx, hb, hml, hown, hts⟩ (c_Mo_outside l  D 2 1 2 _ ) ⟨(callB_of 3 hts (x_good k_Mo_outside) rfl rfl rfl (hts _ (List.mem_cons_of_mem _ tw_8)) (hts _ (List.mem_cons_of_mem _ tw_765)) (by decide +kernel) ⟨Nat.le_of_ble_eq_true rfl, Nat.le_of_ble_eq_true rfl⟩), (hts _ (List.mem_cons_of_mem _ tw_766))⟩ (xP_S hPc hKc hDc hAm hTh hAs hS) rfl rfl hl.1 rfl (lv_room (Nat.le_of_ble_eq_true rfl)) d_Mo_pool_4 ⟨Nat.le_of_ble_eq_true rfl, Nat.le_of_ble_eq_true rfl⟩) hP hD hK hS hA [] [0] rfl rfl (by decide) (by decide) (fun r1 _ H locs er1 hP hD hK hS => ?_)
  have er1 : r1 = xOut 2 1 2 := er1
  subst er1
  have hK : va_K D cl [] s := hK
  have hP : va_P D cl [(mo, .inr (6, [.int 0, .int 0, .ref a1, .ref a2, .ref a3, .ref a4, .ref a5, .ref a6, .ref a7, .ref a8, .ref a9, .int 0, .ref a10, .ref a11, .ref a12, .ref a13, .ref a14, .ref a15, .int 0, .ref a16, .int 1, .int 1, .int 0, .ref a17, .ref a18, .ref a19, .int 0, .int 0, .int 0, .int 0]))] H := hP
  have hD : va_D A [(mo, .inr (6, [.int 0, .int 0, .ref a1, .ref a2, .ref a3, .ref a4, .ref a5, .ref a6, .ref a7, .ref a8, .ref a9, .int 0, .ref a10, .ref a11, .ref a12, .ref a13, .ref a14, .ref a15, .int 0, .ref a16, .int 1, .int 1, .int 0, .ref a17, .ref a18, .ref a19, .int 0, .int 0, .int 0, .int 0]))] := hD
  refine lv_if_ne (tgt := 19) hx hb d_Mo_pool_7 (by decide) (fun b7 => absurd (by decide) b7) (fun b7 => ?_)
  refine lv_iload_n hx hb d_Mo_pool_10 rfl (lv_at hl 2 rfl) ?_
  refine lv_iconst (v := 1) hx hb d_Mo_pool_11 (by decide) ?_
  refine lv_iconst (v := 4) hx hb d_Mo_pool_12 (by decide) ?_
  have hPc := hP.sub (ws' := []) [] rfl
  have hDc := hD.sub (ws' := []) [] (by decide) rfl
  have hKc := hK.sub (tys' := []) [] rfl
  refine xgi (wsC := []) (wr := [(mo, .inr (6, [.int 0, .int 0, .ref a1, .ref a2, .ref a3, .ref a4, .ref a5, .ref a6, .ref a7, .ref a8, .ref a9, .int 0, .ref a10, .ref a11, .ref a12, .ref a13, .ref a14, .ref a15, .int 0, .ref a16, .int 1, .int 1, .int 0, .ref a17, .ref a18, .ref a19, .int 0, .int 0, .int 0, .int 0]))]) (va_runS (As := [.int y, .int 1, .int 4]) (rest := [.ref mo]) ⟨hx, hb, hml, hown, hts⟩ (c_Mo_outside l  D y 1 4 _ ) ⟨(callB_of 3 hts (x_good k_Mo_outside) rfl rfl rfl (hts _ (List.mem_cons_of_mem _ tw_8)) (hts _ (List.mem_cons_of_mem _ tw_765)) (by decide +kernel) ⟨Nat.le_of_ble_eq_true rfl, Nat.le_of_ble_eq_true rfl⟩), (hts _ (List.mem_cons_of_mem _ tw_766))⟩ (xP_S hPc hKc hDc hAm hTh hAs hS) rfl rfl hl.1 rfl (lv_room (Nat.le_of_ble_eq_true rfl)) d_Mo_pool_13 ⟨Nat.le_of_ble_eq_true rfl, Nat.le_of_ble_eq_true rfl⟩) hP hD hK hS hA [] [0] rfl rfl (by decide) (by decide) (fun r2 _ H locs er2 hP hD hK hS => ?_)
  have er2 : r2 = xOut y 1 4 := er2
  subst er2
  have hK : va_K D cl [] s := hK
  have hP : va_P D cl [(mo, .inr (6, [.int 0, .int 0, .ref a1, .ref a2, .ref a3, .ref a4, .ref a5, .ref a6, .ref a7, .ref a8, .ref a9, .int 0, .ref a10, .ref a11, .ref a12, .ref a13, .ref a14, .ref a15, .int 0, .ref a16, .int 1, .int 1, .int 0, .ref a17, .ref a18, .ref a19, .int 0, .int 0, .int 0, .int 0]))] H := hP
  have hD : va_D A [(mo, .inr (6, [.int 0, .int 0, .ref a1, .ref a2, .ref a3, .ref a4, .ref a5, .ref a6, .ref a7, .ref a8, .ref a9, .int 0, .ref a10, .ref a11, .ref a12, .ref a13, .ref a14, .ref a15, .int 0, .ref a16, .int 1, .int 1, .int 0, .ref a17, .ref a18, .ref a19, .int 0, .int 0, .int 0, .int 0]))] := hD
  refine lv_if_eq (tgt := 23) hx hb d_Mo_pool_16 (by decide) (fun b16 => ?_) (fun b16 => ?_)
  · refine lv_aload_n hx hb d_Mo_pool_23 rfl (lv_at hl 0 rfl) ?_
    refine va_get (D := D) (ci := 6) (v := .int 0) (C := R_Mo) (T := F_Mo) (N := 30) hx hb hts (fun w h => List.mem_cons_of_mem _ (u_Mo w h)) hown hK hP 0 rfl rfl 29 (by decide) (hts _ (List.mem_cons_of_mem _ tw_694)) (fun _ h9 => h9) rfl d_Mo_pool_24 ?_
    refine lv_if_eq (tgt := 34) hx hb d_Mo_pool_27 (by decide) (fun b27 => ?_) (fun b27 => absurd b27 (by decide))
    refine lv_iconst (v := 0) hx hb d_Mo_pool_34 (by decide) ?_
    refine va_put (D := D) (ci := 6) (v := .int 0) (ty := .int) (C := R_Mo) (T := F_Mo) (N := 30) hx hb hts (fun w h => List.mem_cons_of_mem _ (u_Mo w h)) t_Mo o_Mo n_Mo hown hK hP hD hS 0 rfl rfl 0 (by decide) (hts _ (List.mem_cons_of_mem _ tw_665)) (fun _ h9 => h9) rfl (by decide +kernel) rfl rfl (Nat.le_of_ble_eq_true rfl) d_Mo_pool_35 (fun H locs hP hD hS => ?_)
    have hP : va_P D cl [(mo, .inr (6, [.int 0, .int 0, .ref a1, .ref a2, .ref a3, .ref a4, .ref a5, .ref a6, .ref a7, .ref a8, .ref a9, .int 0, .ref a10, .ref a11, .ref a12, .ref a13, .ref a14, .ref a15, .int 0, .ref a16, .int 1, .int 1, .int 0, .ref a17, .ref a18, .ref a19, .int 0, .int 0, .int 0, .int 0]))] H := hP
    have hD : va_D A [(mo, .inr (6, [.int 0, .int 0, .ref a1, .ref a2, .ref a3, .ref a4, .ref a5, .ref a6, .ref a7, .ref a8, .ref a9, .int 0, .ref a10, .ref a11, .ref a12, .ref a13, .ref a14, .ref a15, .int 0, .ref a16, .int 1, .int 1, .int 0, .ref a17, .ref a18, .ref a19, .int 0, .int 0, .int 0, .int 0]))] := hD
    refine lv_aload_n hx hb d_Mo_pool_38 rfl (lv_at hl 0 rfl) ?_
    refine va_get (D := D) (ci := 6) (v := .int 0) (C := R_Mo) (T := F_Mo) (N := 30) hx hb hts (fun w h => List.mem_cons_of_mem _ (u_Mo w h)) hown hK hP 0 rfl rfl 0 (by decide) (hts _ (List.mem_cons_of_mem _ tw_665)) (fun _ h9 => h9) rfl d_Mo_pool_39 ?_
    refine lv_if_le (tgt := 46) hx hb d_Mo_pool_42 (by decide) (fun b42 => ?_) (fun b42 => absurd b42 (by decide))
    refine lv_aload_n hx hb d_Mo_pool_46 rfl (lv_at hl 0 rfl) ?_
    refine lv_iload_n hx hb d_Mo_pool_47 rfl (lv_at hl 1 rfl) ?_
    refine lv_iconst (v := 1) hx hb d_Mo_pool_48 (by decide) ?_
    refine lv_icmp_ne (tgt := 56) hx hb d_Mo_pool_49 (by decide) (fun b49 => ?_) (fun b49 => absurd b49 (by decide))
    refine lv_aload_n hx hb d_Mo_pool_56 rfl (lv_at hl 0 rfl) ?_
    refine va_get (D := D) (ci := 6) (v := .int 1) (C := R_Mo) (T := F_Mo) (N := 30) hx hb hts (fun w h => List.mem_cons_of_mem _ (u_Mo w h)) hown hK hP 0 rfl rfl 20 (by decide) (hts _ (List.mem_cons_of_mem _ tw_685)) (fun _ h9 => h9) rfl d_Mo_pool_57 ?_
    refine va_put (D := D) (ci := 6) (v := .int 1) (ty := .int) (C := R_Mo) (T := F_Mo) (N := 30) hx hb hts (fun w h => List.mem_cons_of_mem _ (u_Mo w h)) t_Mo o_Mo n_Mo hown hK hP hD hS 0 rfl rfl 20 (by decide) (hts _ (List.mem_cons_of_mem _ tw_685)) (fun _ h9 => h9) rfl (by decide +kernel) rfl rfl (Nat.le_of_ble_eq_true rfl) d_Mo_pool_60 (fun H locs hP hD hS => ?_)
    have hP : va_P D cl [(mo, .inr (6, [.int 0, .int 0, .ref a1, .ref a2, .ref a3, .ref a4, .ref a5, .ref a6, .ref a7, .ref a8, .ref a9, .int 0, .ref a10, .ref a11, .ref a12, .ref a13, .ref a14, .ref a15, .int 0, .ref a16, .int 1, .int 1, .int 0, .ref a17, .ref a18, .ref a19, .int 0, .int 0, .int 0, .int 0]))] H := hP
    have hD : va_D A [(mo, .inr (6, [.int 0, .int 0, .ref a1, .ref a2, .ref a3, .ref a4, .ref a5, .ref a6, .ref a7, .ref a8, .ref a9, .int 0, .ref a10, .ref a11, .ref a12, .ref a13, .ref a14, .ref a15, .int 0, .ref a16, .int 1, .int 1, .int 0, .ref a17, .ref a18, .ref a19, .int 0, .int 0, .int 0, .int 0]))] := hD
    refine lv_aload_n hx hb d_Mo_pool_63 rfl (lv_at hl 0 rfl) ?_
    refine lv_iload_n hx hb d_Mo_pool_64 rfl (lv_at hl 1 rfl) ?_
    refine lv_iconst (v := 2) hx hb d_Mo_pool_65 (by decide) ?_
    refine lv_icmp_ne (tgt := 73) hx hb d_Mo_pool_66 (by decide) (fun b66 => absurd b66 (by decide)) (fun b66 => ?_)
    refine lv_iload_n hx hb d_Mo_pool_69 rfl (lv_at hl 2 rfl) ?_
    refine lv_goto (tgt := 77) hx hb d_Mo_pool_70 (by decide) ?_
    refine va_put (D := D) (ci := 6) (v := .int y) (ty := .int) (C := R_Mo) (T := F_Mo) (N := 30) hx hb hts (fun w h => List.mem_cons_of_mem _ (u_Mo w h)) t_Mo o_Mo n_Mo hown hK hP hD hS 0 rfl rfl 21 (by decide) (hts _ (List.mem_cons_of_mem _ tw_686)) (fun _ h9 => h9) rfl (by decide +kernel) rfl rfl (Nat.le_of_ble_eq_true rfl) d_Mo_pool_77 (fun H locs hP hD hS => ?_)
    have hP : va_P D cl [(mo, .inr (6, [.int 0, .int 0, .ref a1, .ref a2, .ref a3, .ref a4, .ref a5, .ref a6, .ref a7, .ref a8, .ref a9, .int 0, .ref a10, .ref a11, .ref a12, .ref a13, .ref a14, .ref a15, .int 0, .ref a16, .int 1, .int y, .int 0, .ref a17, .ref a18, .ref a19, .int 0, .int 0, .int 0, .int 0]))] H := hP
    have hD : va_D A [(mo, .inr (6, [.int 0, .int 0, .ref a1, .ref a2, .ref a3, .ref a4, .ref a5, .ref a6, .ref a7, .ref a8, .ref a9, .int 0, .ref a10, .ref a11, .ref a12, .ref a13, .ref a14, .ref a15, .int 0, .ref a16, .int 1, .int y, .int 0, .ref a17, .ref a18, .ref a19, .int 0, .int 0, .int 0, .int 0]))] := hD
    exact xrv () B d_Mo_pool_80 (trivial) (hP.sub (ws' := [(mo, .inr (6, [.int 0, .int 0, .ref a1, .ref a2, .ref a3, .ref a4, .ref a5, .ref a6, .ref a7, .ref a8, .ref a9, .int 0, .ref a10, .ref a11, .ref a12, .ref a13, .ref a14, .ref a15, .int 0, .ref a16, .int 1, .int y, .int 0, .ref a17, .ref a18, .ref a19, .int 0, .int 0, .int 0, .int 0]))]) [0] rfl) (hK.sub (tys' := []) [] rfl) (hD.sub (ws' := [(mo, .inr (6, [.int 0, .int 0, .ref a1, .ref a2, .ref a3, .ref a4, .ref a5, .ref a6, .ref a7, .ref a8, .ref a9, .int 0, .ref a10, .ref a11, .ref a12, .ref a13, .ref a14, .ref a15, .int 0, .ref a16, .int 1, .int y, .int 0, .ref a17, .ref a18, .ref a19, .int 0, .int 0, .int 0, .int 0]))]) [0] (by decide) rfl) hS (Nat.le_of_ble_eq_true rfl) (Nat.le_of_ble_eq_true rfl)
  · exact absurd (xO0 h) b16
theorem d_Mo_write_0 : decode b_Mo_write 0 = .ok (.aload_n 0, 1) := by decide +kernel
theorem d_Mo_write_1 : decode b_Mo_write 1 = .ok (.iload_n 1, 1) := by decide +kernel
theorem d_Mo_write_2 : decode b_Mo_write 2 = .ok (.invokestatic 95, 3) := by decide +kernel
theorem d_Mo_write_5 : decode b_Mo_write 5 = .ok (.ifCond .eq (11), 3) := by decide +kernel
theorem d_Mo_write_8 : decode b_Mo_write 8 = .ok (.aload_n 0, 1) := by decide +kernel
theorem d_Mo_write_9 : decode b_Mo_write 9 = .ok (.iload_n 1, 1) := by decide +kernel
theorem d_Mo_write_10 : decode b_Mo_write 10 = .ok (.invokevirtual 112, 3) := by decide +kernel
theorem d_Mo_write_13 : decode b_Mo_write 13 = .ok (.ifCond .eq (7), 3) := by decide +kernel
theorem d_Mo_write_20 : decode b_Mo_write 20 = .ok (.aload_n 0, 1) := by decide +kernel
theorem d_Mo_write_21 : decode b_Mo_write 21 = .ok (.getfield 91, 3) := by decide +kernel
theorem d_Mo_write_24 : decode b_Mo_write 24 = .ok (.ifCond .eq (7), 3) := by decide +kernel
theorem d_Mo_write_31 : decode b_Mo_write 31 = .ok (.iconst (0), 1) := by decide +kernel
theorem d_Mo_write_32 : decode b_Mo_write 32 = .ok (.putfield 75, 3) := by decide +kernel
theorem d_Mo_write_35 : decode b_Mo_write 35 = .ok (.aload_n 0, 1) := by decide +kernel
theorem d_Mo_write_36 : decode b_Mo_write 36 = .ok (.getfield 75, 3) := by decide +kernel
theorem d_Mo_write_39 : decode b_Mo_write 39 = .ok (.ifCond .ne (9), 3) := by decide +kernel
theorem d_Mo_write_42 : decode b_Mo_write 42 = .ok (.aload_n 0, 1) := by decide +kernel
theorem d_Mo_write_43 : decode b_Mo_write 43 = .ok (.iload_n 1, 1) := by decide +kernel
theorem d_Mo_write_44 : decode b_Mo_write 44 = .ok (.iload_n 2, 1) := by decide +kernel
theorem d_Mo_write_45 : decode b_Mo_write 45 = .ok (.invokevirtual 115, 3) := by decide +kernel
theorem d_Mo_write_48 : decode b_Mo_write 48 = .ok (.return_, 1) := by decide +kernel
set_option maxRecDepth 20000 in
set_option maxHeartbeats 4000000 in
theorem c_Mo_write (l : Launch) (D : va_G) (mo : Nat) (a10 : Nat) (a11 : Nat) (a12 : Nat) (a1 : Nat) (a2 : Nat) (a3 : Nat) (a4 : Nat) (a5 : Nat) (a6 : Nat) (a7 : Nat) (a8 : Nat) (a9 : Nat) (a13 : Nat) (a14 : Nat) (a15 : Nat) (a16 : Nat) (a17 : Nat) (a18 : Nat) (a19 : Nat) (cI : ClassId) (x : Int32) (y : Int32) (sz : Nat) (h : xIn x 0 23 = 1) : xMv l y_Mo_write w_Mo_write { frames := 2, cells := 0, slots := 0, locals := 60 } D cl [.ref mo, .int x, .int y] sz [(cI, .int)] [(mo, .inr (6, [.int 0, .int 0, .ref a1, .ref a2, .ref a3, .ref a4, .ref a5, .ref a6, .ref a7, .ref a8, .ref a9, .int 0, .ref a10, .ref a11, .ref a12, .ref a13, .ref a14, .ref a15, .int 0, .ref a16, .int 1, .int 1, .int 0, .ref a17, .ref a18, .ref a19, .int 0, .int 0, .int 0, .int 0])), (a10, .inl (cI, 24, .inl (fun _ => 0))), (a11, .inl (cI, 24, .inl (fun _ => 0))), (a12, .inl (cI, 24, .inl (fun _ => 0)))] (fun (_ : Unit) => True) (fun _ => [(mo, .inr (6, [.int 0, .int 0, .ref a1, .ref a2, .ref a3, .ref a4, .ref a5, .ref a6, .ref a7, .ref a8, .ref a9, .int 1, .ref a10, .ref a11, .ref a12, .ref a13, .ref a14, .ref a15, .int 0, .ref a16, .int 1, .int 1, .int 0, .ref a17, .ref a18, .ref a19, .int 0, .int 0, .int 0, .int 0]))]) (fun _ => []) := by
  refine xMv_of (by decide +kernel) rfl (Nat.le_of_ble_eq_true rfl) ?_
  intro p e s m args below meth c ls A B hAe hA hsz hP hK hD hS hAm hTh hAs hl
  obtain ⟨⟨hx, hb, hml, hown, hts⟩, hret, hlk, hnm, hemp⟩ := id B
  have hl : lv_has ls 3 [(0, .ref mo), (1, .int x), (2, .int y)] := hl
  refine lv_aload_n hx hb d_Mo_write_0 rfl (lv_at hl 0 rfl) ?_
  refine lv_iload_n hx hb d_Mo_write_1 rfl (lv_at hl 1 rfl) ?_
  have hPc := hP.sub (ws' := []) [] rfl
  have hDc := hD.sub (ws' := []) [] (by decide) rfl
  have hKc := hK.sub (tys' := []) [] rfl
  refine xgi (wsC := []) (wr := [(mo, .inr (6, [.int 0, .int 0, .ref a1, .ref a2, .ref a3, .ref a4, .ref a5, .ref a6, .ref a7, .ref a8, .ref a9, .int 0, .ref a10, .ref a11, .ref a12, .ref a13, .ref a14, .ref a15, .int 0, .ref a16, .int 1, .int 1, .int 0, .ref a17, .ref a18, .ref a19, .int 0, .int 0, .int 0, .int 0])), (a10, .inl (cI, 24, .inl (fun _ => 0))), (a11, .inl (cI, 24, .inl (fun _ => 0))), (a12, .inl (cI, 24, .inl (fun _ => 0)))]) (va_runS (As := [.int x]) (rest := [.ref mo]) ⟨hx, hb, hml, hown, hts⟩ (c_Mo_isFile l  D x _ ) ⟨(callB_of 1 hts (x_good k_Mo_isFile) rfl rfl rfl (hts _ (List.mem_cons_of_mem _ tw_8)) (hts _ (List.mem_cons_of_mem _ tw_772)) (by decide +kernel) ⟨Nat.le_of_ble_eq_true rfl, Nat.le_of_ble_eq_true rfl⟩), (hts _ (List.mem_cons_of_mem _ tw_773))⟩ (xP_S hPc hKc hDc hAm hTh hAs hS) rfl rfl hl.1 rfl (lv_room (Nat.le_of_ble_eq_true rfl)) d_Mo_write_2 ⟨Nat.le_of_ble_eq_true rfl, Nat.le_of_ble_eq_true rfl⟩) hP hD hK hS hA [] [0, 1, 2, 3] rfl rfl (by decide) (by decide) (fun r1 _ H locs er1 hP hD hK hS => ?_)
  have er1 : r1 = xIn x 0 23 := er1
  subst er1
  have hK : va_K D cl [(cI, .int)] s := hK
  have hP : va_P D cl [(mo, .inr (6, [.int 0, .int 0, .ref a1, .ref a2, .ref a3, .ref a4, .ref a5, .ref a6, .ref a7, .ref a8, .ref a9, .int 0, .ref a10, .ref a11, .ref a12, .ref a13, .ref a14, .ref a15, .int 0, .ref a16, .int 1, .int 1, .int 0, .ref a17, .ref a18, .ref a19, .int 0, .int 0, .int 0, .int 0])), (a10, .inl (cI, 24, .inl (fun _ => 0))), (a11, .inl (cI, 24, .inl (fun _ => 0))), (a12, .inl (cI, 24, .inl (fun _ => 0)))] H := hP
  have hD : va_D A [(mo, .inr (6, [.int 0, .int 0, .ref a1, .ref a2, .ref a3, .ref a4, .ref a5, .ref a6, .ref a7, .ref a8, .ref a9, .int 0, .ref a10, .ref a11, .ref a12, .ref a13, .ref a14, .ref a15, .int 0, .ref a16, .int 1, .int 1, .int 0, .ref a17, .ref a18, .ref a19, .int 0, .int 0, .int 0, .int 0])), (a10, .inl (cI, 24, .inl (fun _ => 0))), (a11, .inl (cI, 24, .inl (fun _ => 0))), (a12, .inl (cI, 24, .inl (fun _ => 0)))] := hD
  refine lv_if_eq (tgt := 16) hx hb d_Mo_write_5 (by decide) (fun b5 => absurd b5 (xne1 h)) (fun b5 => ?_)
  refine lv_aload_n hx hb d_Mo_write_8 rfl (lv_at hl 0 rfl) ?_
  refine lv_iload_n hx hb d_Mo_write_9 rfl (lv_at hl 1 rfl) ?_
  have hPc := hP.sub (ws' := [(mo, .inr (6, [.int 0, .int 0, .ref a1, .ref a2, .ref a3, .ref a4, .ref a5, .ref a6, .ref a7, .ref a8, .ref a9, .int 0, .ref a10, .ref a11, .ref a12, .ref a13, .ref a14, .ref a15, .int 0, .ref a16, .int 1, .int 1, .int 0, .ref a17, .ref a18, .ref a19, .int 0, .int 0, .int 0, .int 0])), (a12, .inl (cI, 24, .inl (fun _ => 0)))]) [0, 3] rfl
  have hDc := hD.sub (ws' := [(mo, .inr (6, [.int 0, .int 0, .ref a1, .ref a2, .ref a3, .ref a4, .ref a5, .ref a6, .ref a7, .ref a8, .ref a9, .int 0, .ref a10, .ref a11, .ref a12, .ref a13, .ref a14, .ref a15, .int 0, .ref a16, .int 1, .int 1, .int 0, .ref a17, .ref a18, .ref a19, .int 0, .int 0, .int 0, .int 0])), (a12, .inl (cI, 24, .inl (fun _ => 0)))]) [0, 3] (by decide) rfl
  have hKc := hK.sub (tys' := [(cI, .int)]) [0] rfl
  refine xgi (wsC := [(mo, .inr (6, [.int 0, .int 0, .ref a1, .ref a2, .ref a3, .ref a4, .ref a5, .ref a6, .ref a7, .ref a8, .ref a9, .int 0, .ref a10, .ref a11, .ref a12, .ref a13, .ref a14, .ref a15, .int 0, .ref a16, .int 1, .int 1, .int 0, .ref a17, .ref a18, .ref a19, .int 0, .int 0, .int 0, .int 0])), (a12, .inl (cI, 24, .inl (fun _ => 0)))]) (wr := [(a10, .inl (cI, 24, .inl (fun _ => 0))), (a11, .inl (cI, 24, .inl (fun _ => 0)))]) (va_runV (As := [.int x]) (rest := [.ref mo]) ⟨hx, hb, hml, hown, hts⟩ (c_Mo_byPhony l  D mo a12 a1 a2 a3 a4 a5 a6 a7 a8 a9 a10 a11 a13 a14 a15 a16 a17 a18 a19 cI x _ h) ⟨(callB_of 1 hts (x_good k_Mo_byPhony) rfl rfl rfl (hts _ (List.mem_cons_of_mem _ tw_8)) (hts _ (List.mem_cons_of_mem _ tw_802)) (by decide +kernel) ⟨Nat.le_of_ble_eq_true rfl, Nat.le_of_ble_eq_true rfl⟩), (hts _ (List.mem_cons_of_mem _ tw_804)), (hts _ (List.mem_cons_of_mem _ (x_sel 56 rfl)))⟩ (xP_V (va_recv (ci := 6) (q0 := 0) hK hP rfl rfl) hPc hKc hDc hAm hTh hAs hS) rfl rfl hl.1 rfl (lv_room (Nat.le_of_ble_eq_true rfl)) d_Mo_write_10 ⟨Nat.le_of_ble_eq_true rfl, Nat.le_of_ble_eq_true rfl⟩) hP hD hK hS hA [0, 3] [1, 2] rfl rfl (by decide) (by decide) (fun r2 _ H locs er2 hP hD hK hS => ?_)
  have er2 : r2 = 0 := er2
  subst er2
  have hK : va_K D cl [(cI, .int)] s := hK
  have hP : va_P D cl [(a10, .inl (cI, 24, .inl (fun _ => 0))), (a11, .inl (cI, 24, .inl (fun _ => 0))), (mo, .inr (6, [.int 0, .int 0, .ref a1, .ref a2, .ref a3, .ref a4, .ref a5, .ref a6, .ref a7, .ref a8, .ref a9, .int 0, .ref a10, .ref a11, .ref a12, .ref a13, .ref a14, .ref a15, .int 0, .ref a16, .int 1, .int 1, .int 0, .ref a17, .ref a18, .ref a19, .int 0, .int 0, .int 0, .int 0])), (a12, .inl (cI, 24, .inl (fun _ => 0)))] H := hP
  have hD : va_D A [(a10, .inl (cI, 24, .inl (fun _ => 0))), (a11, .inl (cI, 24, .inl (fun _ => 0))), (mo, .inr (6, [.int 0, .int 0, .ref a1, .ref a2, .ref a3, .ref a4, .ref a5, .ref a6, .ref a7, .ref a8, .ref a9, .int 0, .ref a10, .ref a11, .ref a12, .ref a13, .ref a14, .ref a15, .int 0, .ref a16, .int 1, .int 1, .int 0, .ref a17, .ref a18, .ref a19, .int 0, .int 0, .int 0, .int 0])), (a12, .inl (cI, 24, .inl (fun _ => 0)))] := hD
  refine lv_if_eq (tgt := 20) hx hb d_Mo_write_13 (by decide) (fun b13 => ?_) (fun b13 => absurd b13 (by decide))
  refine lv_aload_n hx hb d_Mo_write_20 rfl (lv_at hl 0 rfl) ?_
  refine va_get (D := D) (ci := 6) (v := .int 0) (C := R_Mo) (T := F_Mo) (N := 30) hx hb hts (fun w h => List.mem_cons_of_mem _ (u_Mo w h)) hown hK hP 2 rfl rfl 29 (by decide) (hts _ (List.mem_cons_of_mem _ tw_694)) (fun _ h9 => h9) rfl d_Mo_write_21 ?_
  refine lv_if_eq (tgt := 31) hx hb d_Mo_write_24 (by decide) (fun b24 => ?_) (fun b24 => absurd b24 (by decide))
  refine lv_iconst (v := 0) hx hb d_Mo_write_31 (by decide) ?_
  refine va_put (D := D) (ci := 6) (v := .int 0) (ty := .int) (C := R_Mo) (T := F_Mo) (N := 30) hx hb hts (fun w h => List.mem_cons_of_mem _ (u_Mo w h)) t_Mo o_Mo n_Mo hown hK hP hD hS 2 rfl rfl 0 (by decide) (hts _ (List.mem_cons_of_mem _ tw_665)) (fun _ h9 => h9) rfl (by decide +kernel) rfl rfl (Nat.le_of_ble_eq_true rfl) d_Mo_write_32 (fun H locs hP hD hS => ?_)
  have hP : va_P D cl [(a10, .inl (cI, 24, .inl (fun _ => 0))), (a11, .inl (cI, 24, .inl (fun _ => 0))), (mo, .inr (6, [.int 0, .int 0, .ref a1, .ref a2, .ref a3, .ref a4, .ref a5, .ref a6, .ref a7, .ref a8, .ref a9, .int 0, .ref a10, .ref a11, .ref a12, .ref a13, .ref a14, .ref a15, .int 0, .ref a16, .int 1, .int 1, .int 0, .ref a17, .ref a18, .ref a19, .int 0, .int 0, .int 0, .int 0])), (a12, .inl (cI, 24, .inl (fun _ => 0)))] H := hP
  have hD : va_D A [(a10, .inl (cI, 24, .inl (fun _ => 0))), (a11, .inl (cI, 24, .inl (fun _ => 0))), (mo, .inr (6, [.int 0, .int 0, .ref a1, .ref a2, .ref a3, .ref a4, .ref a5, .ref a6, .ref a7, .ref a8, .ref a9, .int 0, .ref a10, .ref a11, .ref a12, .ref a13, .ref a14, .ref a15, .int 0, .ref a16, .int 1, .int 1, .int 0, .ref a17, .ref a18, .ref a19, .int 0, .int 0, .int 0, .int 0])), (a12, .inl (cI, 24, .inl (fun _ => 0)))] := hD
  refine lv_aload_n hx hb d_Mo_write_35 rfl (lv_at hl 0 rfl) ?_
  refine va_get (D := D) (ci := 6) (v := .int 0) (C := R_Mo) (T := F_Mo) (N := 30) hx hb hts (fun w h => List.mem_cons_of_mem _ (u_Mo w h)) hown hK hP 2 rfl rfl 0 (by decide) (hts _ (List.mem_cons_of_mem _ tw_665)) (fun _ h9 => h9) rfl d_Mo_write_36 ?_
  refine lv_if_ne (tgt := 48) hx hb d_Mo_write_39 (by decide) (fun b39 => absurd b39 (by decide)) (fun b39 => ?_)
  refine lv_aload_n hx hb d_Mo_write_42 rfl (lv_at hl 0 rfl) ?_
  refine lv_iload_n hx hb d_Mo_write_43 rfl (lv_at hl 1 rfl) ?_
  refine lv_iload_n hx hb d_Mo_write_44 rfl (lv_at hl 2 rfl) ?_
  have hPc := hP.sub (ws' := [(mo, .inr (6, [.int 0, .int 0, .ref a1, .ref a2, .ref a3, .ref a4, .ref a5, .ref a6, .ref a7, .ref a8, .ref a9, .int 0, .ref a10, .ref a11, .ref a12, .ref a13, .ref a14, .ref a15, .int 0, .ref a16, .int 1, .int 1, .int 0, .ref a17, .ref a18, .ref a19, .int 0, .int 0, .int 0, .int 0])), (a10, .inl (cI, 24, .inl (fun _ => 0))), (a11, .inl (cI, 24, .inl (fun _ => 0)))]) [2, 0, 1] rfl
  have hDc := hD.sub (ws' := [(mo, .inr (6, [.int 0, .int 0, .ref a1, .ref a2, .ref a3, .ref a4, .ref a5, .ref a6, .ref a7, .ref a8, .ref a9, .int 0, .ref a10, .ref a11, .ref a12, .ref a13, .ref a14, .ref a15, .int 0, .ref a16, .int 1, .int 1, .int 0, .ref a17, .ref a18, .ref a19, .int 0, .int 0, .int 0, .int 0])), (a10, .inl (cI, 24, .inl (fun _ => 0))), (a11, .inl (cI, 24, .inl (fun _ => 0)))]) [2, 0, 1] (by decide) rfl
  have hKc := hK.sub (tys' := [(cI, .int)]) [0] rfl
  refine xgv (wsC := [(mo, .inr (6, [.int 0, .int 0, .ref a1, .ref a2, .ref a3, .ref a4, .ref a5, .ref a6, .ref a7, .ref a8, .ref a9, .int 0, .ref a10, .ref a11, .ref a12, .ref a13, .ref a14, .ref a15, .int 0, .ref a16, .int 1, .int 1, .int 0, .ref a17, .ref a18, .ref a19, .int 0, .int 0, .int 0, .int 0])), (a10, .inl (cI, 24, .inl (fun _ => 0))), (a11, .inl (cI, 24, .inl (fun _ => 0)))]) (wr := [(a12, .inl (cI, 24, .inl (fun _ => 0)))]) (va_runV (As := [.int x, .int y]) (rest := []) ⟨hx, hb, hml, hown, hts⟩ (c_Mo_put l  D mo a10 a11 a1 a2 a3 a4 a5 a6 a7 a8 a9 a12 a13 a14 a15 a16 a17 a18 a19 cI x y _ h) ⟨(callB_of 2 hts (x_good k_Mo_put) rfl rfl rfl (hts _ (List.mem_cons_of_mem _ tw_8)) (hts _ (List.mem_cons_of_mem _ tw_806)) (by decide +kernel) ⟨Nat.le_of_ble_eq_true rfl, Nat.le_of_ble_eq_true rfl⟩), (hts _ (List.mem_cons_of_mem _ tw_808)), (hts _ (List.mem_cons_of_mem _ (x_sel 57 rfl)))⟩ (xP_V (va_recv (ci := 6) (q0 := 2) hK hP rfl rfl) hPc hKc hDc hAm hTh hAs hS) rfl rfl hl.1 rfl (lv_room (Nat.le_of_ble_eq_true rfl)) d_Mo_write_45 ⟨Nat.le_of_ble_eq_true rfl, Nat.le_of_ble_eq_true rfl⟩) hP hD hK hS hA [2, 0, 1] [3] rfl rfl (by decide) (by decide) (fun _ H locs _ hP hD hK hS => ?_)
  have hK : va_K D cl [(cI, .int)] s := hK
  have hP : va_P D cl [(a12, .inl (cI, 24, .inl (fun _ => 0))), (mo, .inr (6, [.int 0, .int 0, .ref a1, .ref a2, .ref a3, .ref a4, .ref a5, .ref a6, .ref a7, .ref a8, .ref a9, .int 1, .ref a10, .ref a11, .ref a12, .ref a13, .ref a14, .ref a15, .int 0, .ref a16, .int 1, .int 1, .int 0, .ref a17, .ref a18, .ref a19, .int 0, .int 0, .int 0, .int 0]))] H := hP
  have hD : va_D A [(a12, .inl (cI, 24, .inl (fun _ => 0))), (mo, .inr (6, [.int 0, .int 0, .ref a1, .ref a2, .ref a3, .ref a4, .ref a5, .ref a6, .ref a7, .ref a8, .ref a9, .int 1, .ref a10, .ref a11, .ref a12, .ref a13, .ref a14, .ref a15, .int 0, .ref a16, .int 1, .int 1, .int 0, .ref a17, .ref a18, .ref a19, .int 0, .int 0, .int 0, .int 0]))] := hD
  exact xrv () B d_Mo_write_48 (trivial) (hP.sub (ws' := [(mo, .inr (6, [.int 0, .int 0, .ref a1, .ref a2, .ref a3, .ref a4, .ref a5, .ref a6, .ref a7, .ref a8, .ref a9, .int 1, .ref a10, .ref a11, .ref a12, .ref a13, .ref a14, .ref a15, .int 0, .ref a16, .int 1, .int 1, .int 0, .ref a17, .ref a18, .ref a19, .int 0, .int 0, .int 0, .int 0]))]) [1] rfl) (hK.sub (tys' := []) [] rfl) (hD.sub (ws' := [(mo, .inr (6, [.int 0, .int 0, .ref a1, .ref a2, .ref a3, .ref a4, .ref a5, .ref a6, .ref a7, .ref a8, .ref a9, .int 1, .ref a10, .ref a11, .ref a12, .ref a13, .ref a14, .ref a15, .int 0, .ref a16, .int 1, .int 1, .int 0, .ref a17, .ref a18, .ref a19, .int 0, .int 0, .int 0, .int 0]))]) [1] (by decide) rfl) hS (Nat.le_of_ble_eq_true rfl) (Nat.le_of_ble_eq_true rfl)
theorem d_Mo_write_16 : decode b_Mo_write 16 = .ok (.iconst (1), 1) := by decide +kernel
theorem d_Mo_write_17 : decode b_Mo_write 17 = .ok (.goto (15), 3) := by decide +kernel
set_option maxRecDepth 20000 in
set_option maxHeartbeats 4000000 in
theorem c_Mo_write_t (l : Launch) (D : va_G) (mo : Nat) (a1 : Nat) (a2 : Nat) (a3 : Nat) (a4 : Nat) (a5 : Nat) (a6 : Nat) (a7 : Nat) (a8 : Nat) (a9 : Nat) (a10 : Nat) (a11 : Nat) (a12 : Nat) (a13 : Nat) (a14 : Nat) (a15 : Nat) (a16 : Nat) (a17 : Nat) (a18 : Nat) (a19 : Nat) (x : Int32) (y : Int32) (sz : Nat) (h : ¬ xIn x 0 23 = 1) : xMv l y_Mo_write w_Mo_write { frames := 2, cells := 0, slots := 0, locals := 60 } D cl [.ref mo, .int x, .int y] sz [] [(mo, .inr (6, [.int 0, .int 0, .ref a1, .ref a2, .ref a3, .ref a4, .ref a5, .ref a6, .ref a7, .ref a8, .ref a9, .int 0, .ref a10, .ref a11, .ref a12, .ref a13, .ref a14, .ref a15, .int 0, .ref a16, .int 1, .int 1, .int 0, .ref a17, .ref a18, .ref a19, .int 0, .int 0, .int 0, .int 0]))] (fun (_ : Unit) => True) (fun _ => [(mo, .inr (6, [.int 1, .int 0, .ref a1, .ref a2, .ref a3, .ref a4, .ref a5, .ref a6, .ref a7, .ref a8, .ref a9, .int 0, .ref a10, .ref a11, .ref a12, .ref a13, .ref a14, .ref a15, .int 0, .ref a16, .int 1, .int 1, .int 0, .ref a17, .ref a18, .ref a19, .int 0, .int 0, .int 0, .int 0]))]) (fun _ => []) := by
  refine xMv_of (by decide +kernel) rfl (Nat.le_of_ble_eq_true rfl) ?_
  intro p e s m args below meth c ls A B hAe hA hsz hP hK hD hS hAm hTh hAs hl
  obtain ⟨⟨hx, hb, hml, hown, hts⟩, hret, hlk, hnm, hemp⟩ := id B
  have hl : lv_has ls 3 [(0, .ref mo), (1, .int x), (2, .int y)] := hl
  refine lv_aload_n hx hb d_Mo_write_0 rfl (lv_at hl 0 rfl) ?_
  refine lv_iload_n hx hb d_Mo_write_1 rfl (lv_at hl 1 rfl) ?_
  have hPc := hP.sub (ws' := []) [] rfl
  have hDc := hD.sub (ws' := []) [] (by decide) rfl
  have hKc := hK.sub (tys' := []) [] rfl
  refine xgi (wsC := []) (wr := [(mo, .inr (6, [.int 0, .int 0, .ref a1, .ref a2, .ref a3, .ref a4, .ref a5, .ref a6, .ref a7, .ref a8, .ref a9, .int 0, .ref a10, .ref a11, .ref a12, .ref a13, .ref a14, .ref a15, .int 0, .ref a16, .int 1, .int 1, .int 0, .ref a17, .ref a18, .ref a19, .int 0, .int 0, .int 0, .int 0]))]) (va_runS (As := [.int x]) (rest := [.ref mo]) ⟨hx, hb, hml, hown, hts⟩ (c_Mo_isFile l  D x _ ) ⟨(callB_of 1 hts (x_good k_Mo_isFile) rfl rfl rfl (hts _ (List.mem_cons_of_mem _ tw_8)) (hts _ (List.mem_cons_of_mem _ tw_772)) (by decide +kernel) ⟨Nat.le_of_ble_eq_true rfl, Nat.le_of_ble_eq_true rfl⟩), (hts _ (List.mem_cons_of_mem _ tw_773))⟩ (xP_S hPc hKc hDc hAm hTh hAs hS) rfl rfl hl.1 rfl (lv_room (Nat.le_of_ble_eq_true rfl)) d_Mo_write_2 ⟨Nat.le_of_ble_eq_true rfl, Nat.le_of_ble_eq_true rfl⟩) hP hD hK hS hA [] [0] rfl rfl (by decide) (by decide) (fun r1 _ H locs er1 hP hD hK hS => ?_)
  have er1 : r1 = xIn x 0 23 := er1
  subst er1
  have hK : va_K D cl [] s := hK
  have hP : va_P D cl [(mo, .inr (6, [.int 0, .int 0, .ref a1, .ref a2, .ref a3, .ref a4, .ref a5, .ref a6, .ref a7, .ref a8, .ref a9, .int 0, .ref a10, .ref a11, .ref a12, .ref a13, .ref a14, .ref a15, .int 0, .ref a16, .int 1, .int 1, .int 0, .ref a17, .ref a18, .ref a19, .int 0, .int 0, .int 0, .int 0]))] H := hP
  have hD : va_D A [(mo, .inr (6, [.int 0, .int 0, .ref a1, .ref a2, .ref a3, .ref a4, .ref a5, .ref a6, .ref a7, .ref a8, .ref a9, .int 0, .ref a10, .ref a11, .ref a12, .ref a13, .ref a14, .ref a15, .int 0, .ref a16, .int 1, .int 1, .int 0, .ref a17, .ref a18, .ref a19, .int 0, .int 0, .int 0, .int 0]))] := hD
  refine lv_if_eq (tgt := 16) hx hb d_Mo_write_5 (by decide) (fun b5 => ?_) (fun b5 => absurd (xne0 (xIn_bin _ _ _) b5) h)
  refine lv_iconst (v := 1) hx hb d_Mo_write_16 (by decide) ?_
  refine lv_goto (tgt := 32) hx hb d_Mo_write_17 (by decide) ?_
  refine va_put (D := D) (ci := 6) (v := .int 1) (ty := .int) (C := R_Mo) (T := F_Mo) (N := 30) hx hb hts (fun w h => List.mem_cons_of_mem _ (u_Mo w h)) t_Mo o_Mo n_Mo hown hK hP hD hS 0 rfl rfl 0 (by decide) (hts _ (List.mem_cons_of_mem _ tw_665)) (fun _ h9 => h9) rfl (by decide +kernel) rfl rfl (Nat.le_of_ble_eq_true rfl) d_Mo_write_32 (fun H locs hP hD hS => ?_)
  have hP : va_P D cl [(mo, .inr (6, [.int 1, .int 0, .ref a1, .ref a2, .ref a3, .ref a4, .ref a5, .ref a6, .ref a7, .ref a8, .ref a9, .int 0, .ref a10, .ref a11, .ref a12, .ref a13, .ref a14, .ref a15, .int 0, .ref a16, .int 1, .int 1, .int 0, .ref a17, .ref a18, .ref a19, .int 0, .int 0, .int 0, .int 0]))] H := hP
  have hD : va_D A [(mo, .inr (6, [.int 1, .int 0, .ref a1, .ref a2, .ref a3, .ref a4, .ref a5, .ref a6, .ref a7, .ref a8, .ref a9, .int 0, .ref a10, .ref a11, .ref a12, .ref a13, .ref a14, .ref a15, .int 0, .ref a16, .int 1, .int 1, .int 0, .ref a17, .ref a18, .ref a19, .int 0, .int 0, .int 0, .int 0]))] := hD
  refine lv_aload_n hx hb d_Mo_write_35 rfl (lv_at hl 0 rfl) ?_
  refine va_get (D := D) (ci := 6) (v := .int 1) (C := R_Mo) (T := F_Mo) (N := 30) hx hb hts (fun w h => List.mem_cons_of_mem _ (u_Mo w h)) hown hK hP 0 rfl rfl 0 (by decide) (hts _ (List.mem_cons_of_mem _ tw_665)) (fun _ h9 => h9) rfl d_Mo_write_36 ?_
  refine lv_if_ne (tgt := 48) hx hb d_Mo_write_39 (by decide) (fun b39 => ?_) (fun b39 => absurd b39 (by decide))
  exact xrv () B d_Mo_write_48 (trivial) (hP.sub (ws' := [(mo, .inr (6, [.int 1, .int 0, .ref a1, .ref a2, .ref a3, .ref a4, .ref a5, .ref a6, .ref a7, .ref a8, .ref a9, .int 0, .ref a10, .ref a11, .ref a12, .ref a13, .ref a14, .ref a15, .int 0, .ref a16, .int 1, .int 1, .int 0, .ref a17, .ref a18, .ref a19, .int 0, .int 0, .int 0, .int 0]))]) [0] rfl) (hK.sub (tys' := []) [] rfl) (hD.sub (ws' := [(mo, .inr (6, [.int 1, .int 0, .ref a1, .ref a2, .ref a3, .ref a4, .ref a5, .ref a6, .ref a7, .ref a8, .ref a9, .int 0, .ref a10, .ref a11, .ref a12, .ref a13, .ref a14, .ref a15, .int 0, .ref a16, .int 1, .int 1, .int 0, .ref a17, .ref a18, .ref a19, .int 0, .int 0, .int 0, .int 0]))]) [0] (by decide) rfl) hS (Nat.le_of_ble_eq_true rfl) (Nat.le_of_ble_eq_true rfl)
theorem d_Mo_remove_0 : decode b_Mo_remove 0 = .ok (.aload_n 0, 1) := by decide +kernel
theorem d_Mo_remove_1 : decode b_Mo_remove 1 = .ok (.iload_n 1, 1) := by decide +kernel
theorem d_Mo_remove_2 : decode b_Mo_remove 2 = .ok (.invokestatic 95, 3) := by decide +kernel
theorem d_Mo_remove_5 : decode b_Mo_remove 5 = .ok (.ifCond .ne (7), 3) := by decide +kernel
theorem d_Mo_remove_8 : decode b_Mo_remove 8 = .ok (.iconst (1), 1) := by decide +kernel
theorem d_Mo_remove_9 : decode b_Mo_remove 9 = .ok (.goto (28), 3) := by decide +kernel
theorem d_Mo_remove_37 : decode b_Mo_remove 37 = .ok (.putfield 75, 3) := by decide +kernel
theorem d_Mo_remove_40 : decode b_Mo_remove 40 = .ok (.aload_n 0, 1) := by decide +kernel
theorem d_Mo_remove_41 : decode b_Mo_remove 41 = .ok (.getfield 75, 3) := by decide +kernel
theorem d_Mo_remove_44 : decode b_Mo_remove 44 = .ok (.ifCond .le (4), 3) := by decide +kernel
theorem d_Mo_remove_47 : decode b_Mo_remove 47 = .ok (.return_, 1) := by decide +kernel
set_option maxRecDepth 20000 in
set_option maxHeartbeats 4000000 in
theorem c_Mo_remove_i (l : Launch) (D : va_G) (mo : Nat) (a1 : Nat) (a2 : Nat) (a3 : Nat) (a4 : Nat) (a5 : Nat) (a6 : Nat) (a7 : Nat) (a8 : Nat) (a9 : Nat) (a10 : Nat) (a11 : Nat) (a12 : Nat) (a13 : Nat) (a14 : Nat) (a15 : Nat) (a16 : Nat) (a17 : Nat) (a18 : Nat) (a19 : Nat) (x : Int32) (sz : Nat) (h : ¬ xIn x 0 23 = 1) : xMv l y_Mo_remove w_Mo_remove { frames := 2, cells := 0, slots := 0, locals := 60 } D cl [.ref mo, .int x] sz [] [(mo, .inr (6, [.int 0, .int 0, .ref a1, .ref a2, .ref a3, .ref a4, .ref a5, .ref a6, .ref a7, .ref a8, .ref a9, .int 0, .ref a10, .ref a11, .ref a12, .ref a13, .ref a14, .ref a15, .int 0, .ref a16, .int 1, .int 1, .int 0, .ref a17, .ref a18, .ref a19, .int 0, .int 0, .int 0, .int 0]))] (fun (_ : Unit) => True) (fun _ => [(mo, .inr (6, [.int 1, .int 0, .ref a1, .ref a2, .ref a3, .ref a4, .ref a5, .ref a6, .ref a7, .ref a8, .ref a9, .int 0, .ref a10, .ref a11, .ref a12, .ref a13, .ref a14, .ref a15, .int 0, .ref a16, .int 1, .int 1, .int 0, .ref a17, .ref a18, .ref a19, .int 0, .int 0, .int 0, .int 0]))]) (fun _ => []) := by
  refine xMv_of (by decide +kernel) rfl (Nat.le_of_ble_eq_true rfl) ?_
  intro p e s m args below meth c ls A B hAe hA hsz hP hK hD hS hAm hTh hAs hl
  obtain ⟨⟨hx, hb, hml, hown, hts⟩, hret, hlk, hnm, hemp⟩ := id B
  have hl : lv_has ls 2 [(0, .ref mo), (1, .int x)] := hl
  refine lv_aload_n hx hb d_Mo_remove_0 rfl (lv_at hl 0 rfl) ?_
  refine lv_iload_n hx hb d_Mo_remove_1 rfl (lv_at hl 1 rfl) ?_
  have hPc := hP.sub (ws' := []) [] rfl
  have hDc := hD.sub (ws' := []) [] (by decide) rfl
  have hKc := hK.sub (tys' := []) [] rfl
  refine xgi (wsC := []) (wr := [(mo, .inr (6, [.int 0, .int 0, .ref a1, .ref a2, .ref a3, .ref a4, .ref a5, .ref a6, .ref a7, .ref a8, .ref a9, .int 0, .ref a10, .ref a11, .ref a12, .ref a13, .ref a14, .ref a15, .int 0, .ref a16, .int 1, .int 1, .int 0, .ref a17, .ref a18, .ref a19, .int 0, .int 0, .int 0, .int 0]))]) (va_runS (As := [.int x]) (rest := [.ref mo]) ⟨hx, hb, hml, hown, hts⟩ (c_Mo_isFile l  D x _ ) ⟨(callB_of 1 hts (x_good k_Mo_isFile) rfl rfl rfl (hts _ (List.mem_cons_of_mem _ tw_8)) (hts _ (List.mem_cons_of_mem _ tw_772)) (by decide +kernel) ⟨Nat.le_of_ble_eq_true rfl, Nat.le_of_ble_eq_true rfl⟩), (hts _ (List.mem_cons_of_mem _ tw_773))⟩ (xP_S hPc hKc hDc hAm hTh hAs hS) rfl rfl hl.1 rfl (lv_room (Nat.le_of_ble_eq_true rfl)) d_Mo_remove_2 ⟨Nat.le_of_ble_eq_true rfl, Nat.le_of_ble_eq_true rfl⟩) hP hD hK hS hA [] [0] rfl rfl (by decide) (by decide) (fun r1 _ H locs er1 hP hD hK hS => ?_)
  have er1 : r1 = xIn x 0 23 := er1
  subst er1
  have hK : va_K D cl [] s := hK
  have hP : va_P D cl [(mo, .inr (6, [.int 0, .int 0, .ref a1, .ref a2, .ref a3, .ref a4, .ref a5, .ref a6, .ref a7, .ref a8, .ref a9, .int 0, .ref a10, .ref a11, .ref a12, .ref a13, .ref a14, .ref a15, .int 0, .ref a16, .int 1, .int 1, .int 0, .ref a17, .ref a18, .ref a19, .int 0, .int 0, .int 0, .int 0]))] H := hP
  have hD : va_D A [(mo, .inr (6, [.int 0, .int 0, .ref a1, .ref a2, .ref a3, .ref a4, .ref a5, .ref a6, .ref a7, .ref a8, .ref a9, .int 0, .ref a10, .ref a11, .ref a12, .ref a13, .ref a14, .ref a15, .int 0, .ref a16, .int 1, .int 1, .int 0, .ref a17, .ref a18, .ref a19, .int 0, .int 0, .int 0, .int 0]))] := hD
  refine lv_if_ne (tgt := 12) hx hb d_Mo_remove_5 (by decide) (fun b5 => absurd (xne0 (xIn_bin _ _ _) b5) h) (fun b5 => ?_)
  refine lv_iconst (v := 1) hx hb d_Mo_remove_8 (by decide) ?_
  refine lv_goto (tgt := 37) hx hb d_Mo_remove_9 (by decide) ?_
  refine va_put (D := D) (ci := 6) (v := .int 1) (ty := .int) (C := R_Mo) (T := F_Mo) (N := 30) hx hb hts (fun w h => List.mem_cons_of_mem _ (u_Mo w h)) t_Mo o_Mo n_Mo hown hK hP hD hS 0 rfl rfl 0 (by decide) (hts _ (List.mem_cons_of_mem _ tw_665)) (fun _ h9 => h9) rfl (by decide +kernel) rfl rfl (Nat.le_of_ble_eq_true rfl) d_Mo_remove_37 (fun H locs hP hD hS => ?_)
  have hP : va_P D cl [(mo, .inr (6, [.int 1, .int 0, .ref a1, .ref a2, .ref a3, .ref a4, .ref a5, .ref a6, .ref a7, .ref a8, .ref a9, .int 0, .ref a10, .ref a11, .ref a12, .ref a13, .ref a14, .ref a15, .int 0, .ref a16, .int 1, .int 1, .int 0, .ref a17, .ref a18, .ref a19, .int 0, .int 0, .int 0, .int 0]))] H := hP
  have hD : va_D A [(mo, .inr (6, [.int 1, .int 0, .ref a1, .ref a2, .ref a3, .ref a4, .ref a5, .ref a6, .ref a7, .ref a8, .ref a9, .int 0, .ref a10, .ref a11, .ref a12, .ref a13, .ref a14, .ref a15, .int 0, .ref a16, .int 1, .int 1, .int 0, .ref a17, .ref a18, .ref a19, .int 0, .int 0, .int 0, .int 0]))] := hD
  refine lv_aload_n hx hb d_Mo_remove_40 rfl (lv_at hl 0 rfl) ?_
  refine va_get (D := D) (ci := 6) (v := .int 1) (C := R_Mo) (T := F_Mo) (N := 30) hx hb hts (fun w h => List.mem_cons_of_mem _ (u_Mo w h)) hown hK hP 0 rfl rfl 0 (by decide) (hts _ (List.mem_cons_of_mem _ tw_665)) (fun _ h9 => h9) rfl d_Mo_remove_41 ?_
  refine lv_if_le (tgt := 48) hx hb d_Mo_remove_44 (by decide) (fun b44 => absurd b44 (by decide)) (fun b44 => ?_)
  exact xrv () B d_Mo_remove_47 (trivial) (hP.sub (ws' := [(mo, .inr (6, [.int 1, .int 0, .ref a1, .ref a2, .ref a3, .ref a4, .ref a5, .ref a6, .ref a7, .ref a8, .ref a9, .int 0, .ref a10, .ref a11, .ref a12, .ref a13, .ref a14, .ref a15, .int 0, .ref a16, .int 1, .int 1, .int 0, .ref a17, .ref a18, .ref a19, .int 0, .int 0, .int 0, .int 0]))]) [0] rfl) (hK.sub (tys' := []) [] rfl) (hD.sub (ws' := [(mo, .inr (6, [.int 1, .int 0, .ref a1, .ref a2, .ref a3, .ref a4, .ref a5, .ref a6, .ref a7, .ref a8, .ref a9, .int 0, .ref a10, .ref a11, .ref a12, .ref a13, .ref a14, .ref a15, .int 0, .ref a16, .int 1, .int 1, .int 0, .ref a17, .ref a18, .ref a19, .int 0, .int 0, .int 0, .int 0]))]) [0] (by decide) rfl) hS (Nat.le_of_ble_eq_true rfl) (Nat.le_of_ble_eq_true rfl)
theorem d_Mo_remove_12 : decode b_Mo_remove 12 = .ok (.aload_n 0, 1) := by decide +kernel
theorem d_Mo_remove_13 : decode b_Mo_remove 13 = .ok (.getfield 41, 3) := by decide +kernel
theorem d_Mo_remove_16 : decode b_Mo_remove 16 = .ok (.iload_n 1, 1) := by decide +kernel
theorem d_Mo_remove_17 : decode b_Mo_remove 17 = .ok (.iaload, 1) := by decide +kernel
theorem d_Mo_remove_18 : decode b_Mo_remove 18 = .ok (.ifCond .ne (7), 3) := by decide +kernel
theorem d_Mo_remove_21 : decode b_Mo_remove 21 = .ok (.iconst (2), 1) := by decide +kernel
theorem d_Mo_remove_22 : decode b_Mo_remove 22 = .ok (.goto (15), 3) := by decide +kernel
set_option maxRecDepth 20000 in
set_option maxHeartbeats 4000000 in
theorem c_Mo_remove_n (l : Launch) (D : va_G) (mo : Nat) (a11 : Nat) (a1 : Nat) (a2 : Nat) (a3 : Nat) (a4 : Nat) (a5 : Nat) (a6 : Nat) (a7 : Nat) (a8 : Nat) (a9 : Nat) (a10 : Nat) (a12 : Nat) (a13 : Nat) (a14 : Nat) (a15 : Nat) (a16 : Nat) (a17 : Nat) (a18 : Nat) (a19 : Nat) (cI : ClassId) (x : Int32) (sz : Nat) (h : xIn x 0 23 = 1) : xMv l y_Mo_remove w_Mo_remove { frames := 2, cells := 0, slots := 0, locals := 60 } D cl [.ref mo, .int x] sz [(cI, .int)] [(mo, .inr (6, [.int 0, .int 0, .ref a1, .ref a2, .ref a3, .ref a4, .ref a5, .ref a6, .ref a7, .ref a8, .ref a9, .int 0, .ref a10, .ref a11, .ref a12, .ref a13, .ref a14, .ref a15, .int 0, .ref a16, .int 1, .int 1, .int 0, .ref a17, .ref a18, .ref a19, .int 0, .int 0, .int 0, .int 0])), (a11, .inl (cI, 24, .inl (fun _ => 0)))] (fun (_ : Unit) => True) (fun _ => [(mo, .inr (6, [.int 2, .int 0, .ref a1, .ref a2, .ref a3, .ref a4, .ref a5, .ref a6, .ref a7, .ref a8, .ref a9, .int 0, .ref a10, .ref a11, .ref a12, .ref a13, .ref a14, .ref a15, .int 0, .ref a16, .int 1, .int 1, .int 0, .ref a17, .ref a18, .ref a19, .int 0, .int 0, .int 0, .int 0]))]) (fun _ => []) := by
  refine xMv_of (by decide +kernel) rfl (Nat.le_of_ble_eq_true rfl) ?_
  intro p e s m args below meth c ls A B hAe hA hsz hP hK hD hS hAm hTh hAs hl
  obtain ⟨⟨hx, hb, hml, hown, hts⟩, hret, hlk, hnm, hemp⟩ := id B
  have hl : lv_has ls 2 [(0, .ref mo), (1, .int x)] := hl
  refine lv_aload_n hx hb d_Mo_remove_0 rfl (lv_at hl 0 rfl) ?_
  refine lv_iload_n hx hb d_Mo_remove_1 rfl (lv_at hl 1 rfl) ?_
  have hPc := hP.sub (ws' := []) [] rfl
  have hDc := hD.sub (ws' := []) [] (by decide) rfl
  have hKc := hK.sub (tys' := []) [] rfl
  refine xgi (wsC := []) (wr := [(mo, .inr (6, [.int 0, .int 0, .ref a1, .ref a2, .ref a3, .ref a4, .ref a5, .ref a6, .ref a7, .ref a8, .ref a9, .int 0, .ref a10, .ref a11, .ref a12, .ref a13, .ref a14, .ref a15, .int 0, .ref a16, .int 1, .int 1, .int 0, .ref a17, .ref a18, .ref a19, .int 0, .int 0, .int 0, .int 0])), (a11, .inl (cI, 24, .inl (fun _ => 0)))]) (va_runS (As := [.int x]) (rest := [.ref mo]) ⟨hx, hb, hml, hown, hts⟩ (c_Mo_isFile l  D x _ ) ⟨(callB_of 1 hts (x_good k_Mo_isFile) rfl rfl rfl (hts _ (List.mem_cons_of_mem _ tw_8)) (hts _ (List.mem_cons_of_mem _ tw_772)) (by decide +kernel) ⟨Nat.le_of_ble_eq_true rfl, Nat.le_of_ble_eq_true rfl⟩), (hts _ (List.mem_cons_of_mem _ tw_773))⟩ (xP_S hPc hKc hDc hAm hTh hAs hS) rfl rfl hl.1 rfl (lv_room (Nat.le_of_ble_eq_true rfl)) d_Mo_remove_2 ⟨Nat.le_of_ble_eq_true rfl, Nat.le_of_ble_eq_true rfl⟩) hP hD hK hS hA [] [0, 1] rfl rfl (by decide) (by decide) (fun r1 _ H locs er1 hP hD hK hS => ?_)
  have er1 : r1 = xIn x 0 23 := er1
  subst er1
  have hK : va_K D cl [(cI, .int)] s := hK
  have hP : va_P D cl [(mo, .inr (6, [.int 0, .int 0, .ref a1, .ref a2, .ref a3, .ref a4, .ref a5, .ref a6, .ref a7, .ref a8, .ref a9, .int 0, .ref a10, .ref a11, .ref a12, .ref a13, .ref a14, .ref a15, .int 0, .ref a16, .int 1, .int 1, .int 0, .ref a17, .ref a18, .ref a19, .int 0, .int 0, .int 0, .int 0])), (a11, .inl (cI, 24, .inl (fun _ => 0)))] H := hP
  have hD : va_D A [(mo, .inr (6, [.int 0, .int 0, .ref a1, .ref a2, .ref a3, .ref a4, .ref a5, .ref a6, .ref a7, .ref a8, .ref a9, .int 0, .ref a10, .ref a11, .ref a12, .ref a13, .ref a14, .ref a15, .int 0, .ref a16, .int 1, .int 1, .int 0, .ref a17, .ref a18, .ref a19, .int 0, .int 0, .int 0, .int 0])), (a11, .inl (cI, 24, .inl (fun _ => 0)))] := hD
  refine lv_if_ne (tgt := 12) hx hb d_Mo_remove_5 (by decide) (fun b5 => ?_) (fun b5 => absurd b5 (xne1 h))
  refine lv_aload_n hx hb d_Mo_remove_12 rfl (lv_at hl 0 rfl) ?_
  refine va_get (D := D) (ci := 6) (v := .ref a11) (C := R_Mo) (T := F_Mo) (N := 30) hx hb hts (fun w h => List.mem_cons_of_mem _ (u_Mo w h)) hown hK hP 0 rfl rfl 13 (by decide) (hts _ (List.mem_cons_of_mem _ tw_678)) (fun _ h9 => h9) rfl d_Mo_remove_13 ?_
  refine lv_iload_n hx hb d_Mo_remove_16 rfl (lv_at hl 1 rfl) ?_
  refine va_iald hx hb hK hP 1 0 rfl rfl (xIn_in2 h (by decide) (by decide)) d_Mo_remove_17 ?_
  refine xnum (v := 0) rfl ?_
  refine lv_if_ne (tgt := 25) hx hb d_Mo_remove_18 (by decide) (fun b18 => absurd b18 (by decide)) (fun b18 => ?_)
  refine lv_iconst (v := 2) hx hb d_Mo_remove_21 (by decide) ?_
  refine lv_goto (tgt := 37) hx hb d_Mo_remove_22 (by decide) ?_
  refine va_put (D := D) (ci := 6) (v := .int 2) (ty := .int) (C := R_Mo) (T := F_Mo) (N := 30) hx hb hts (fun w h => List.mem_cons_of_mem _ (u_Mo w h)) t_Mo o_Mo n_Mo hown hK hP hD hS 0 rfl rfl 0 (by decide) (hts _ (List.mem_cons_of_mem _ tw_665)) (fun _ h9 => h9) rfl (by decide +kernel) rfl rfl (Nat.le_of_ble_eq_true rfl) d_Mo_remove_37 (fun H locs hP hD hS => ?_)
  have hP : va_P D cl [(mo, .inr (6, [.int 2, .int 0, .ref a1, .ref a2, .ref a3, .ref a4, .ref a5, .ref a6, .ref a7, .ref a8, .ref a9, .int 0, .ref a10, .ref a11, .ref a12, .ref a13, .ref a14, .ref a15, .int 0, .ref a16, .int 1, .int 1, .int 0, .ref a17, .ref a18, .ref a19, .int 0, .int 0, .int 0, .int 0])), (a11, .inl (cI, 24, .inl (fun _ => 0)))] H := hP
  have hD : va_D A [(mo, .inr (6, [.int 2, .int 0, .ref a1, .ref a2, .ref a3, .ref a4, .ref a5, .ref a6, .ref a7, .ref a8, .ref a9, .int 0, .ref a10, .ref a11, .ref a12, .ref a13, .ref a14, .ref a15, .int 0, .ref a16, .int 1, .int 1, .int 0, .ref a17, .ref a18, .ref a19, .int 0, .int 0, .int 0, .int 0])), (a11, .inl (cI, 24, .inl (fun _ => 0)))] := hD
  refine lv_aload_n hx hb d_Mo_remove_40 rfl (lv_at hl 0 rfl) ?_
  refine va_get (D := D) (ci := 6) (v := .int 2) (C := R_Mo) (T := F_Mo) (N := 30) hx hb hts (fun w h => List.mem_cons_of_mem _ (u_Mo w h)) hown hK hP 0 rfl rfl 0 (by decide) (hts _ (List.mem_cons_of_mem _ tw_665)) (fun _ h9 => h9) rfl d_Mo_remove_41 ?_
  refine lv_if_le (tgt := 48) hx hb d_Mo_remove_44 (by decide) (fun b44 => absurd b44 (by decide)) (fun b44 => ?_)
  exact xrv () B d_Mo_remove_47 (trivial) (hP.sub (ws' := [(mo, .inr (6, [.int 2, .int 0, .ref a1, .ref a2, .ref a3, .ref a4, .ref a5, .ref a6, .ref a7, .ref a8, .ref a9, .int 0, .ref a10, .ref a11, .ref a12, .ref a13, .ref a14, .ref a15, .int 0, .ref a16, .int 1, .int 1, .int 0, .ref a17, .ref a18, .ref a19, .int 0, .int 0, .int 0, .int 0]))]) [0] rfl) (hK.sub (tys' := []) [] rfl) (hD.sub (ws' := [(mo, .inr (6, [.int 2, .int 0, .ref a1, .ref a2, .ref a3, .ref a4, .ref a5, .ref a6, .ref a7, .ref a8, .ref a9, .int 0, .ref a10, .ref a11, .ref a12, .ref a13, .ref a14, .ref a15, .int 0, .ref a16, .int 1, .int 1, .int 0, .ref a17, .ref a18, .ref a19, .int 0, .int 0, .int 0, .int 0]))]) [0] (by decide) rfl) hS (Nat.le_of_ble_eq_true rfl) (Nat.le_of_ble_eq_true rfl)
theorem d_Mo_next_0 : decode b_Mo_next 0 = .ok (.aload_n 0, 1) := by decide +kernel
theorem d_Mo_next_1 : decode b_Mo_next 1 = .ok (.getfield 91, 3) := by decide +kernel
theorem d_Mo_next_4 : decode b_Mo_next 4 = .ok (.ifCond .eq (29), 3) := by decide +kernel
theorem d_Mo_next_33 : decode b_Mo_next 33 = .ok (.iconst (-1), 1) := by decide +kernel
theorem d_Mo_next_34 : decode b_Mo_next 34 = .ok (.ireturn, 1) := by decide +kernel
set_option maxRecDepth 20000 in
set_option maxHeartbeats 4000000 in
theorem c_Mo_next (l : Launch) (D : va_G) (mo : Nat) (a1 : Nat) (a2 : Nat) (a3 : Nat) (a4 : Nat) (a5 : Nat) (a6 : Nat) (a7 : Nat) (a8 : Nat) (a9 : Nat) (a10 : Nat) (a11 : Nat) (a12 : Nat) (a13 : Nat) (a14 : Nat) (a15 : Nat) (a16 : Nat) (a17 : Nat) (a18 : Nat) (a19 : Nat) (sz : Nat)  : xMi l y_Mo_next w_Mo_next { frames := 0, cells := 0, slots := 0, locals := 0 } D cl [.ref mo] sz [] [(mo, .inr (6, [.int 0, .int 0, .ref a1, .ref a2, .ref a3, .ref a4, .ref a5, .ref a6, .ref a7, .ref a8, .ref a9, .int 0, .ref a10, .ref a11, .ref a12, .ref a13, .ref a14, .ref a15, .int 0, .ref a16, .int 1, .int 1, .int 0, .ref a17, .ref a18, .ref a19, .int 0, .int 0, .int 0, .int 0]))] (fun (r : Int32) (_ : Unit) => r = (-1)) (fun _ => [(mo, .inr (6, [.int 0, .int 0, .ref a1, .ref a2, .ref a3, .ref a4, .ref a5, .ref a6, .ref a7, .ref a8, .ref a9, .int 0, .ref a10, .ref a11, .ref a12, .ref a13, .ref a14, .ref a15, .int 0, .ref a16, .int 1, .int 1, .int 0, .ref a17, .ref a18, .ref a19, .int 0, .int 0, .int 0, .int 0]))]) (fun _ => []) := by
  refine xMi_of (by decide +kernel) rfl (Nat.le_of_ble_eq_true rfl) ?_
  intro p e s m args below meth c ls A B hAe hA hsz hP hK hD hS hAm hTh hAs hl
  obtain ⟨⟨hx, hb, hml, hown, hts⟩, hret, hlk, hnm, hemp⟩ := id B
  have hl : lv_has ls 3 [(0, .ref mo)] := hl
  refine lv_aload_n hx hb d_Mo_next_0 rfl (lv_at hl 0 rfl) ?_
  refine va_get (D := D) (ci := 6) (v := .int 0) (C := R_Mo) (T := F_Mo) (N := 30) hx hb hts (fun w h => List.mem_cons_of_mem _ (u_Mo w h)) hown hK hP 0 rfl rfl 29 (by decide) (hts _ (List.mem_cons_of_mem _ tw_694)) (fun _ h9 => h9) rfl d_Mo_next_1 ?_
  refine lv_if_eq (tgt := 33) hx hb d_Mo_next_4 (by decide) (fun b4 => ?_) (fun b4 => absurd b4 (by decide))
  refine lv_iconst (v := (-1)) hx hb d_Mo_next_33 (by decide) ?_
  exact xri () B d_Mo_next_34 (rfl) (hP.sub (ws' := [(mo, .inr (6, [.int 0, .int 0, .ref a1, .ref a2, .ref a3, .ref a4, .ref a5, .ref a6, .ref a7, .ref a8, .ref a9, .int 0, .ref a10, .ref a11, .ref a12, .ref a13, .ref a14, .ref a15, .int 0, .ref a16, .int 1, .int 1, .int 0, .ref a17, .ref a18, .ref a19, .int 0, .int 0, .int 0, .int 0]))]) [0] rfl) (hK.sub (tys' := []) [] rfl) (hD.sub (ws' := [(mo, .inr (6, [.int 0, .int 0, .ref a1, .ref a2, .ref a3, .ref a4, .ref a5, .ref a6, .ref a7, .ref a8, .ref a9, .int 0, .ref a10, .ref a11, .ref a12, .ref a13, .ref a14, .ref a15, .int 0, .ref a16, .int 1, .int 1, .int 0, .ref a17, .ref a18, .ref a19, .int 0, .int 0, .int 0, .int 0]))]) [0] (by decide) rfl) hS (Nat.le_of_ble_eq_true rfl) (Nat.le_of_ble_eq_true rfl)
theorem d_Mo_start_0 : decode b_Mo_start 0 = .ok (.aload_n 0, 1) := by decide +kernel
theorem d_Mo_start_1 : decode b_Mo_start 1 = .ok (.iconst (0), 1) := by decide +kernel
theorem d_Mo_start_2 : decode b_Mo_start 2 = .ok (.putfield 75, 3) := by decide +kernel
theorem d_Mo_start_5 : decode b_Mo_start 5 = .ok (.aload_n 0, 1) := by decide +kernel
theorem d_Mo_start_6 : decode b_Mo_start 6 = .ok (.invokevirtual 176, 3) := by decide +kernel
theorem d_Mo_start_9 : decode b_Mo_start 9 = .ok (.istore_n 1, 1) := by decide +kernel
theorem d_Mo_start_10 : decode b_Mo_start 10 = .ok (.iload_n 1, 1) := by decide +kernel
theorem d_Mo_start_11 : decode b_Mo_start 11 = .ok (.iconst (-1), 1) := by decide +kernel
theorem d_Mo_start_12 : decode b_Mo_start 12 = .ok (.if_icmp .eq (10), 3) := by decide +kernel
theorem d_Mo_start_22 : decode b_Mo_start 22 = .ok (.iload_n 1, 1) := by decide +kernel
theorem d_Mo_start_23 : decode b_Mo_start 23 = .ok (.ireturn, 1) := by decide +kernel
set_option maxRecDepth 20000 in
set_option maxHeartbeats 4000000 in
theorem c_Mo_start (l : Launch) (D : va_G) (mo : Nat) (a1 : Nat) (a2 : Nat) (a3 : Nat) (a4 : Nat) (a5 : Nat) (a6 : Nat) (a7 : Nat) (a8 : Nat) (a9 : Nat) (a10 : Nat) (a11 : Nat) (a12 : Nat) (a13 : Nat) (a14 : Nat) (a15 : Nat) (a16 : Nat) (a17 : Nat) (a18 : Nat) (a19 : Nat) (sz : Nat)  : xMi l y_Mo_start w_Mo_start { frames := 2, cells := 0, slots := 0, locals := 60 } D cl [.ref mo] sz [] [(mo, .inr (6, [.int 0, .int 0, .ref a1, .ref a2, .ref a3, .ref a4, .ref a5, .ref a6, .ref a7, .ref a8, .ref a9, .int 0, .ref a10, .ref a11, .ref a12, .ref a13, .ref a14, .ref a15, .int 0, .ref a16, .int 1, .int 1, .int 0, .ref a17, .ref a18, .ref a19, .int 0, .int 0, .int 0, .int 0]))] (fun (r : Int32) (_ : Unit) => r = (-1)) (fun _ => []) (fun _ => []) := by
  refine xMi_of (by decide +kernel) rfl (Nat.le_of_ble_eq_true rfl) ?_
  intro p e s m args below meth c ls A B hAe hA hsz hP hK hD hS hAm hTh hAs hl
  obtain ⟨⟨hx, hb, hml, hown, hts⟩, hret, hlk, hnm, hemp⟩ := id B
  have hl : lv_has ls 2 [(0, .ref mo)] := hl
  refine lv_aload_n hx hb d_Mo_start_0 rfl (lv_at hl 0 rfl) ?_
  refine lv_iconst (v := 0) hx hb d_Mo_start_1 (by decide) ?_
  refine va_put (D := D) (ci := 6) (v := .int 0) (ty := .int) (C := R_Mo) (T := F_Mo) (N := 30) hx hb hts (fun w h => List.mem_cons_of_mem _ (u_Mo w h)) t_Mo o_Mo n_Mo hown hK hP hD hS 0 rfl rfl 0 (by decide) (hts _ (List.mem_cons_of_mem _ tw_665)) (fun _ h9 => h9) rfl (by decide +kernel) rfl rfl (Nat.le_of_ble_eq_true rfl) d_Mo_start_2 (fun H locs hP hD hS => ?_)
  have hP : va_P D cl [(mo, .inr (6, [.int 0, .int 0, .ref a1, .ref a2, .ref a3, .ref a4, .ref a5, .ref a6, .ref a7, .ref a8, .ref a9, .int 0, .ref a10, .ref a11, .ref a12, .ref a13, .ref a14, .ref a15, .int 0, .ref a16, .int 1, .int 1, .int 0, .ref a17, .ref a18, .ref a19, .int 0, .int 0, .int 0, .int 0]))] H := hP
  have hD : va_D A [(mo, .inr (6, [.int 0, .int 0, .ref a1, .ref a2, .ref a3, .ref a4, .ref a5, .ref a6, .ref a7, .ref a8, .ref a9, .int 0, .ref a10, .ref a11, .ref a12, .ref a13, .ref a14, .ref a15, .int 0, .ref a16, .int 1, .int 1, .int 0, .ref a17, .ref a18, .ref a19, .int 0, .int 0, .int 0, .int 0]))] := hD
  refine lv_aload_n hx hb d_Mo_start_5 rfl (lv_at hl 0 rfl) ?_
  have hPc := hP.sub (ws' := [(mo, .inr (6, [.int 0, .int 0, .ref a1, .ref a2, .ref a3, .ref a4, .ref a5, .ref a6, .ref a7, .ref a8, .ref a9, .int 0, .ref a10, .ref a11, .ref a12, .ref a13, .ref a14, .ref a15, .int 0, .ref a16, .int 1, .int 1, .int 0, .ref a17, .ref a18, .ref a19, .int 0, .int 0, .int 0, .int 0]))]) [0] rfl
  have hDc := hD.sub (ws' := [(mo, .inr (6, [.int 0, .int 0, .ref a1, .ref a2, .ref a3, .ref a4, .ref a5, .ref a6, .ref a7, .ref a8, .ref a9, .int 0, .ref a10, .ref a11, .ref a12, .ref a13, .ref a14, .ref a15, .int 0, .ref a16, .int 1, .int 1, .int 0, .ref a17, .ref a18, .ref a19, .int 0, .int 0, .int 0, .int 0]))]) [0] (by decide) rfl
  have hKc := hK.sub (tys' := []) [] rfl
  refine xgi (wsC := [(mo, .inr (6, [.int 0, .int 0, .ref a1, .ref a2, .ref a3, .ref a4, .ref a5, .ref a6, .ref a7, .ref a8, .ref a9, .int 0, .ref a10, .ref a11, .ref a12, .ref a13, .ref a14, .ref a15, .int 0, .ref a16, .int 1, .int 1, .int 0, .ref a17, .ref a18, .ref a19, .int 0, .int 0, .int 0, .int 0]))]) (wr := []) (va_runV (As := []) (rest := []) ⟨hx, hb, hml, hown, hts⟩ (c_Mo_next l  D mo a1 a2 a3 a4 a5 a6 a7 a8 a9 a10 a11 a12 a13 a14 a15 a16 a17 a18 a19 _ ) ⟨(callB_of 0 hts (x_good k_Mo_next) rfl rfl rfl (hts _ (List.mem_cons_of_mem _ tw_8)) (hts _ (List.mem_cons_of_mem _ tw_875)) (by decide +kernel) ⟨Nat.le_of_ble_eq_true rfl, Nat.le_of_ble_eq_true rfl⟩), (hts _ (List.mem_cons_of_mem _ tw_877)), (hts _ (List.mem_cons_of_mem _ (x_sel 71 rfl)))⟩ (xP_V (va_recv (ci := 6) (q0 := 0) hK hP rfl rfl) hPc hKc hDc hAm hTh hAs hS) rfl rfl hl.1 rfl (lv_room (Nat.le_of_ble_eq_true rfl)) d_Mo_start_6 ⟨Nat.le_of_ble_eq_true rfl, Nat.le_of_ble_eq_true rfl⟩) hP hD hK hS hA [0] [] rfl rfl (by decide) (by decide) (fun r1 _ H locs er1 hP hD hK hS => ?_)
  have er1 : r1 = (-1) := er1
  subst er1
  have hK : va_K D cl [] s := hK
  have hP : va_P D cl [(mo, .inr (6, [.int 0, .int 0, .ref a1, .ref a2, .ref a3, .ref a4, .ref a5, .ref a6, .ref a7, .ref a8, .ref a9, .int 0, .ref a10, .ref a11, .ref a12, .ref a13, .ref a14, .ref a15, .int 0, .ref a16, .int 1, .int 1, .int 0, .ref a17, .ref a18, .ref a19, .int 0, .int 0, .int 0, .int 0]))] H := hP
  have hD : va_D A [(mo, .inr (6, [.int 0, .int 0, .ref a1, .ref a2, .ref a3, .ref a4, .ref a5, .ref a6, .ref a7, .ref a8, .ref a9, .int 0, .ref a10, .ref a11, .ref a12, .ref a13, .ref a14, .ref a15, .int 0, .ref a16, .int 1, .int 1, .int 0, .ref a17, .ref a18, .ref a19, .int 0, .int 0, .int 0, .int 0]))] := hD
  refine lv_istore_n hx hb d_Mo_start_9 rfl hl (by decide) rfl (fun ls hl => ?_)
  have hl : lv_has ls 2 [(1, .int (-1)), (0, .ref mo)] := hl
  refine lv_iload_n hx hb d_Mo_start_10 rfl (lv_at hl 0 rfl) ?_
  refine lv_iconst (v := (-1)) hx hb d_Mo_start_11 (by decide) ?_
  refine lv_icmp_eq (tgt := 22) hx hb d_Mo_start_12 (by decide) (fun b12 => ?_) (fun b12 => absurd b12 (by decide))
  refine lv_iload_n hx hb d_Mo_start_22 rfl (lv_at hl 0 rfl) ?_
  exact xri () B d_Mo_start_23 (rfl) (hP.sub (ws' := []) [] rfl) (hK.sub (tys' := []) [] rfl) (hD.sub (ws' := []) [] (by decide) rfl) hS (Nat.le_of_ble_eq_true rfl) (Nat.le_of_ble_eq_true rfl)
theorem d_Mo_finish_0 : decode b_Mo_finish 0 = .ok (.aload_n 0, 1) := by decide +kernel
theorem d_Mo_finish_1 : decode b_Mo_finish 1 = .ok (.iload_n 1, 1) := by decide +kernel
theorem d_Mo_finish_2 : decode b_Mo_finish 2 = .ok (.invokevirtual 99, 3) := by decide +kernel
theorem d_Mo_finish_5 : decode b_Mo_finish 5 = .ok (.ifCond .eq (13), 3) := by decide +kernel
theorem d_Mo_finish_18 : decode b_Mo_finish 18 = .ok (.aload_n 0, 1) := by decide +kernel
theorem d_Mo_finish_19 : decode b_Mo_finish 19 = .ok (.iconst (1), 1) := by decide +kernel
theorem d_Mo_finish_20 : decode b_Mo_finish 20 = .ok (.invokevirtual 147, 3) := by decide +kernel
theorem d_Mo_finish_23 : decode b_Mo_finish 23 = .ok (.ireturn, 1) := by decide +kernel
set_option maxRecDepth 20000 in
set_option maxHeartbeats 4000000 in
theorem c_Mo_finish (l : Launch) (D : va_G) (mo : Nat) (a1 : Nat) (a2 : Nat) (a3 : Nat) (a4 : Nat) (a5 : Nat) (a6 : Nat) (a7 : Nat) (a8 : Nat) (a9 : Nat) (a10 : Nat) (a11 : Nat) (a12 : Nat) (a13 : Nat) (a14 : Nat) (a15 : Nat) (a16 : Nat) (a17 : Nat) (a18 : Nat) (a19 : Nat) (x : Int32) (y : Int32) (sz : Nat)  : xMi l y_Mo_finish w_Mo_finish { frames := 2, cells := 0, slots := 0, locals := 60 } D cl [.ref mo, .int x, .int y] sz [] [(mo, .inr (6, [.int 0, .int 0, .ref a1, .ref a2, .ref a3, .ref a4, .ref a5, .ref a6, .ref a7, .ref a8, .ref a9, .int 0, .ref a10, .ref a11, .ref a12, .ref a13, .ref a14, .ref a15, .int 0, .ref a16, .int 1, .int 1, .int 0, .ref a17, .ref a18, .ref a19, .int 0, .int 0, .int 0, .int 0]))] (fun (r : Int32) (_ : Unit) => r = 0) (fun _ => [(mo, .inr (6, [.int 1, .int 0, .ref a1, .ref a2, .ref a3, .ref a4, .ref a5, .ref a6, .ref a7, .ref a8, .ref a9, .int 0, .ref a10, .ref a11, .ref a12, .ref a13, .ref a14, .ref a15, .int 0, .ref a16, .int 1, .int 1, .int 0, .ref a17, .ref a18, .ref a19, .int 0, .int 0, .int 0, .int 0]))]) (fun _ => []) := by
  refine xMi_of (by decide +kernel) rfl (Nat.le_of_ble_eq_true rfl) ?_
  intro p e s m args below meth c ls A B hAe hA hsz hP hK hD hS hAm hTh hAs hl
  obtain ⟨⟨hx, hb, hml, hown, hts⟩, hret, hlk, hnm, hemp⟩ := id B
  have hl : lv_has ls 4 [(0, .ref mo), (1, .int x), (2, .int y)] := hl
  refine lv_aload_n hx hb d_Mo_finish_0 rfl (lv_at hl 0 rfl) ?_
  refine lv_iload_n hx hb d_Mo_finish_1 rfl (lv_at hl 1 rfl) ?_
  have hPc := hP.sub (ws' := [(mo, .inr (6, [.int 0, .int 0, .ref a1, .ref a2, .ref a3, .ref a4, .ref a5, .ref a6, .ref a7, .ref a8, .ref a9, .int 0, .ref a10, .ref a11, .ref a12, .ref a13, .ref a14, .ref a15, .int 0, .ref a16, .int 1, .int 1, .int 0, .ref a17, .ref a18, .ref a19, .int 0, .int 0, .int 0, .int 0]))]) [0] rfl
  have hDc := hD.sub (ws' := [(mo, .inr (6, [.int 0, .int 0, .ref a1, .ref a2, .ref a3, .ref a4, .ref a5, .ref a6, .ref a7, .ref a8, .ref a9, .int 0, .ref a10, .ref a11, .ref a12, .ref a13, .ref a14, .ref a15, .int 0, .ref a16, .int 1, .int 1, .int 0, .ref a17, .ref a18, .ref a19, .int 0, .int 0, .int 0, .int 0]))]) [0] (by decide) rfl
  have hKc := hK.sub (tys' := []) [] rfl
  refine xgi (wsC := [(mo, .inr (6, [.int 0, .int 0, .ref a1, .ref a2, .ref a3, .ref a4, .ref a5, .ref a6, .ref a7, .ref a8, .ref a9, .int 0, .ref a10, .ref a11, .ref a12, .ref a13, .ref a14, .ref a15, .int 0, .ref a16, .int 1, .int 1, .int 0, .ref a17, .ref a18, .ref a19, .int 0, .int 0, .int 0, .int 0]))]) (wr := []) (va_runV (As := [.int x]) (rest := []) ⟨hx, hb, hml, hown, hts⟩ (c_Mo_isEdge l  D mo a1 a2 a3 a4 a5 a6 a7 a8 a9 a10 a11 a12 a13 a14 a15 a16 a17 a18 a19 x _ ) ⟨(callB_of 1 hts (x_good k_Mo_isEdge) rfl rfl rfl (hts _ (List.mem_cons_of_mem _ tw_8)) (hts _ (List.mem_cons_of_mem _ tw_775)) (by decide +kernel) ⟨Nat.le_of_ble_eq_true rfl, Nat.le_of_ble_eq_true rfl⟩), (hts _ (List.mem_cons_of_mem _ tw_777)), (hts _ (List.mem_cons_of_mem _ (x_sel 54 rfl)))⟩ (xP_V (va_recv (ci := 6) (q0 := 0) hK hP rfl rfl) hPc hKc hDc hAm hTh hAs hS) rfl rfl hl.1 rfl (lv_room (Nat.le_of_ble_eq_true rfl)) d_Mo_finish_2 ⟨Nat.le_of_ble_eq_true rfl, Nat.le_of_ble_eq_true rfl⟩) hP hD hK hS hA [0] [] rfl rfl (by decide) (by decide) (fun r1 _ H locs er1 hP hD hK hS => ?_)
  have er1 : r1 = 0 := er1
  subst er1
  have hK : va_K D cl [] s := hK
  have hP : va_P D cl [(mo, .inr (6, [.int 0, .int 0, .ref a1, .ref a2, .ref a3, .ref a4, .ref a5, .ref a6, .ref a7, .ref a8, .ref a9, .int 0, .ref a10, .ref a11, .ref a12, .ref a13, .ref a14, .ref a15, .int 0, .ref a16, .int 1, .int 1, .int 0, .ref a17, .ref a18, .ref a19, .int 0, .int 0, .int 0, .int 0]))] H := hP
  have hD : va_D A [(mo, .inr (6, [.int 0, .int 0, .ref a1, .ref a2, .ref a3, .ref a4, .ref a5, .ref a6, .ref a7, .ref a8, .ref a9, .int 0, .ref a10, .ref a11, .ref a12, .ref a13, .ref a14, .ref a15, .int 0, .ref a16, .int 1, .int 1, .int 0, .ref a17, .ref a18, .ref a19, .int 0, .int 0, .int 0, .int 0]))] := hD
  refine lv_if_eq (tgt := 18) hx hb d_Mo_finish_5 (by decide) (fun b5 => ?_) (fun b5 => absurd b5 (by decide))
  refine lv_aload_n hx hb d_Mo_finish_18 rfl (lv_at hl 0 rfl) ?_
  refine lv_iconst (v := 1) hx hb d_Mo_finish_19 (by decide) ?_
  have hPc := hP.sub (ws' := [(mo, .inr (6, [.int 0, .int 0, .ref a1, .ref a2, .ref a3, .ref a4, .ref a5, .ref a6, .ref a7, .ref a8, .ref a9, .int 0, .ref a10, .ref a11, .ref a12, .ref a13, .ref a14, .ref a15, .int 0, .ref a16, .int 1, .int 1, .int 0, .ref a17, .ref a18, .ref a19, .int 0, .int 0, .int 0, .int 0]))]) [0] rfl
  have hDc := hD.sub (ws' := [(mo, .inr (6, [.int 0, .int 0, .ref a1, .ref a2, .ref a3, .ref a4, .ref a5, .ref a6, .ref a7, .ref a8, .ref a9, .int 0, .ref a10, .ref a11, .ref a12, .ref a13, .ref a14, .ref a15, .int 0, .ref a16, .int 1, .int 1, .int 0, .ref a17, .ref a18, .ref a19, .int 0, .int 0, .int 0, .int 0]))]) [0] (by decide) rfl
  have hKc := hK.sub (tys' := []) [] rfl
  refine xgi (wsC := [(mo, .inr (6, [.int 0, .int 0, .ref a1, .ref a2, .ref a3, .ref a4, .ref a5, .ref a6, .ref a7, .ref a8, .ref a9, .int 0, .ref a10, .ref a11, .ref a12, .ref a13, .ref a14, .ref a15, .int 0, .ref a16, .int 1, .int 1, .int 0, .ref a17, .ref a18, .ref a19, .int 0, .int 0, .int 0, .int 0]))]) (wr := []) (va_runV (As := [.int 1]) (rest := []) ⟨hx, hb, hml, hown, hts⟩ (c_Mo_refuse l  D mo a1 a2 a3 a4 a5 a6 a7 a8 a9 a10 a11 a12 a13 a14 a15 a16 a17 a18 a19 1 _ ) ⟨(callB_of 1 hts (x_good k_Mo_refuse) rfl rfl rfl (hts _ (List.mem_cons_of_mem _ tw_8)) (hts _ (List.mem_cons_of_mem _ tw_839)) (by decide +kernel) ⟨Nat.le_of_ble_eq_true rfl, Nat.le_of_ble_eq_true rfl⟩), (hts _ (List.mem_cons_of_mem _ tw_841)), (hts _ (List.mem_cons_of_mem _ (x_sel 63 rfl)))⟩ (xP_V (va_recv (ci := 6) (q0 := 0) hK hP rfl rfl) hPc hKc hDc hAm hTh hAs hS) rfl rfl hl.1 rfl (lv_room (Nat.le_of_ble_eq_true rfl)) d_Mo_finish_20 ⟨Nat.le_of_ble_eq_true rfl, Nat.le_of_ble_eq_true rfl⟩) hP hD hK hS hA [0] [] rfl rfl (by decide) (by decide) (fun r2 _ H locs er2 hP hD hK hS => ?_)
  have er2 : r2 = 0 := er2
  subst er2
  have hK : va_K D cl [] s := hK
  have hP : va_P D cl [(mo, .inr (6, [.int 1, .int 0, .ref a1, .ref a2, .ref a3, .ref a4, .ref a5, .ref a6, .ref a7, .ref a8, .ref a9, .int 0, .ref a10, .ref a11, .ref a12, .ref a13, .ref a14, .ref a15, .int 0, .ref a16, .int 1, .int 1, .int 0, .ref a17, .ref a18, .ref a19, .int 0, .int 0, .int 0, .int 0]))] H := hP
  have hD : va_D A [(mo, .inr (6, [.int 1, .int 0, .ref a1, .ref a2, .ref a3, .ref a4, .ref a5, .ref a6, .ref a7, .ref a8, .ref a9, .int 0, .ref a10, .ref a11, .ref a12, .ref a13, .ref a14, .ref a15, .int 0, .ref a16, .int 1, .int 1, .int 0, .ref a17, .ref a18, .ref a19, .int 0, .int 0, .int 0, .int 0]))] := hD
  exact xri () B d_Mo_finish_23 (rfl) (hP.sub (ws' := [(mo, .inr (6, [.int 1, .int 0, .ref a1, .ref a2, .ref a3, .ref a4, .ref a5, .ref a6, .ref a7, .ref a8, .ref a9, .int 0, .ref a10, .ref a11, .ref a12, .ref a13, .ref a14, .ref a15, .int 0, .ref a16, .int 1, .int 1, .int 0, .ref a17, .ref a18, .ref a19, .int 0, .int 0, .int 0, .int 0]))]) [0] rfl) (hK.sub (tys' := []) [] rfl) (hD.sub (ws' := [(mo, .inr (6, [.int 1, .int 0, .ref a1, .ref a2, .ref a3, .ref a4, .ref a5, .ref a6, .ref a7, .ref a8, .ref a9, .int 0, .ref a10, .ref a11, .ref a12, .ref a13, .ref a14, .ref a15, .int 0, .ref a16, .int 1, .int 1, .int 0, .ref a17, .ref a18, .ref a19, .int 0, .int 0, .int 0, .int 0]))]) [0] (by decide) rfl) hS (Nat.le_of_ble_eq_true rfl) (Nat.le_of_ble_eq_true rfl)
theorem d_Mo_state_0 : decode b_Mo_state 0 = .ok (.aload_n 0, 1) := by decide +kernel
theorem d_Mo_state_1 : decode b_Mo_state 1 = .ok (.iconst (0), 1) := by decide +kernel
theorem d_Mo_state_2 : decode b_Mo_state 2 = .ok (.putfield 75, 3) := by decide +kernel
theorem d_Mo_state_5 : decode b_Mo_state 5 = .ok (.aload_n 0, 1) := by decide +kernel
theorem d_Mo_state_6 : decode b_Mo_state 6 = .ok (.getfield 165, 3) := by decide +kernel
theorem d_Mo_state_9 : decode b_Mo_state 9 = .ok (.ifCond .ne (7), 3) := by decide +kernel
theorem d_Mo_state_12 : decode b_Mo_state 12 = .ok (.iconst (0), 1) := by decide +kernel
theorem d_Mo_state_13 : decode b_Mo_state 13 = .ok (.goto (35), 3) := by decide +kernel
theorem d_Mo_state_48 : decode b_Mo_state 48 = .ok (.ireturn, 1) := by decide +kernel
set_option maxRecDepth 20000 in
set_option maxHeartbeats 4000000 in
theorem c_Mo_state (l : Launch) (D : va_G) (mo : Nat) (a1 : Nat) (a2 : Nat) (a3 : Nat) (a4 : Nat) (a5 : Nat) (a6 : Nat) (a7 : Nat) (a8 : Nat) (a9 : Nat) (a10 : Nat) (a11 : Nat) (a12 : Nat) (a13 : Nat) (a14 : Nat) (a15 : Nat) (a16 : Nat) (a17 : Nat) (a18 : Nat) (a19 : Nat) (sz : Nat)  : xMi l y_Mo_state w_Mo_state { frames := 2, cells := 0, slots := 0, locals := 60 } D cl [.ref mo] sz [] [(mo, .inr (6, [.int 0, .int 0, .ref a1, .ref a2, .ref a3, .ref a4, .ref a5, .ref a6, .ref a7, .ref a8, .ref a9, .int 0, .ref a10, .ref a11, .ref a12, .ref a13, .ref a14, .ref a15, .int 0, .ref a16, .int 1, .int 1, .int 0, .ref a17, .ref a18, .ref a19, .int 0, .int 0, .int 0, .int 0]))] (fun (r : Int32) (_ : Unit) => r = 0) (fun _ => []) (fun _ => []) := by
  refine xMi_of (by decide +kernel) rfl (Nat.le_of_ble_eq_true rfl) ?_
  intro p e s m args below meth c ls A B hAe hA hsz hP hK hD hS hAm hTh hAs hl
  obtain ⟨⟨hx, hb, hml, hown, hts⟩, hret, hlk, hnm, hemp⟩ := id B
  have hl : lv_has ls 1 [(0, .ref mo)] := hl
  refine lv_aload_n hx hb d_Mo_state_0 rfl (lv_at hl 0 rfl) ?_
  refine lv_iconst (v := 0) hx hb d_Mo_state_1 (by decide) ?_
  refine va_put (D := D) (ci := 6) (v := .int 0) (ty := .int) (C := R_Mo) (T := F_Mo) (N := 30) hx hb hts (fun w h => List.mem_cons_of_mem _ (u_Mo w h)) t_Mo o_Mo n_Mo hown hK hP hD hS 0 rfl rfl 0 (by decide) (hts _ (List.mem_cons_of_mem _ tw_665)) (fun _ h9 => h9) rfl (by decide +kernel) rfl rfl (Nat.le_of_ble_eq_true rfl) d_Mo_state_2 (fun H locs hP hD hS => ?_)
  have hP : va_P D cl [(mo, .inr (6, [.int 0, .int 0, .ref a1, .ref a2, .ref a3, .ref a4, .ref a5, .ref a6, .ref a7, .ref a8, .ref a9, .int 0, .ref a10, .ref a11, .ref a12, .ref a13, .ref a14, .ref a15, .int 0, .ref a16, .int 1, .int 1, .int 0, .ref a17, .ref a18, .ref a19, .int 0, .int 0, .int 0, .int 0]))] H := hP
  have hD : va_D A [(mo, .inr (6, [.int 0, .int 0, .ref a1, .ref a2, .ref a3, .ref a4, .ref a5, .ref a6, .ref a7, .ref a8, .ref a9, .int 0, .ref a10, .ref a11, .ref a12, .ref a13, .ref a14, .ref a15, .int 0, .ref a16, .int 1, .int 1, .int 0, .ref a17, .ref a18, .ref a19, .int 0, .int 0, .int 0, .int 0]))] := hD
  refine lv_aload_n hx hb d_Mo_state_5 rfl (lv_at hl 0 rfl) ?_
  refine va_get (D := D) (ci := 6) (v := .int 0) (C := R_Mo) (T := F_Mo) (N := 30) hx hb hts (fun w h => List.mem_cons_of_mem _ (u_Mo w h)) hown hK hP 0 rfl rfl 28 (by decide) (hts _ (List.mem_cons_of_mem _ tw_693)) (fun _ h9 => h9) rfl d_Mo_state_6 ?_
  refine lv_if_ne (tgt := 16) hx hb d_Mo_state_9 (by decide) (fun b9 => absurd b9 (by decide)) (fun b9 => ?_)
  refine lv_iconst (v := 0) hx hb d_Mo_state_12 (by decide) ?_
  refine lv_goto (tgt := 48) hx hb d_Mo_state_13 (by decide) ?_
  exact xri () B d_Mo_state_48 (rfl) (hP.sub (ws' := []) [] rfl) (hK.sub (tys' := []) [] rfl) (hD.sub (ws' := []) [] (by decide) rfl) hS (Nat.le_of_ble_eq_true rfl) (Nat.le_of_ble_eq_true rfl)
theorem d_Mo_about_0 : decode b_Mo_about 0 = .ok (.aload_n 0, 1) := by decide +kernel
theorem d_Mo_about_1 : decode b_Mo_about 1 = .ok (.iload_n 1, 1) := by decide +kernel
theorem d_Mo_about_2 : decode b_Mo_about 2 = .ok (.invokevirtual 99, 3) := by decide +kernel
theorem d_Mo_about_5 : decode b_Mo_about 5 = .ok (.ifCond .ne (9), 3) := by decide +kernel
theorem d_Mo_about_8 : decode b_Mo_about 8 = .ok (.aload_n 0, 1) := by decide +kernel
theorem d_Mo_about_9 : decode b_Mo_about 9 = .ok (.iconst (1), 1) := by decide +kernel
theorem d_Mo_about_10 : decode b_Mo_about 10 = .ok (.invokevirtual 147, 3) := by decide +kernel
theorem d_Mo_about_13 : decode b_Mo_about 13 = .ok (.ireturn, 1) := by decide +kernel
set_option maxRecDepth 20000 in
set_option maxHeartbeats 4000000 in
theorem c_Mo_about (l : Launch) (D : va_G) (mo : Nat) (a1 : Nat) (a2 : Nat) (a3 : Nat) (a4 : Nat) (a5 : Nat) (a6 : Nat) (a7 : Nat) (a8 : Nat) (a9 : Nat) (a10 : Nat) (a11 : Nat) (a12 : Nat) (a13 : Nat) (a14 : Nat) (a15 : Nat) (a16 : Nat) (a17 : Nat) (a18 : Nat) (a19 : Nat) (x : Int32) (sz : Nat)  : xMi l y_Mo_about w_Mo_about { frames := 2, cells := 0, slots := 0, locals := 60 } D cl [.ref mo, .int x] sz [] [(mo, .inr (6, [.int 0, .int 0, .ref a1, .ref a2, .ref a3, .ref a4, .ref a5, .ref a6, .ref a7, .ref a8, .ref a9, .int 0, .ref a10, .ref a11, .ref a12, .ref a13, .ref a14, .ref a15, .int 0, .ref a16, .int 1, .int 1, .int 0, .ref a17, .ref a18, .ref a19, .int 0, .int 0, .int 0, .int 0]))] (fun (r : Int32) (_ : Unit) => r = 0) (fun _ => [(mo, .inr (6, [.int 1, .int 0, .ref a1, .ref a2, .ref a3, .ref a4, .ref a5, .ref a6, .ref a7, .ref a8, .ref a9, .int 0, .ref a10, .ref a11, .ref a12, .ref a13, .ref a14, .ref a15, .int 0, .ref a16, .int 1, .int 1, .int 0, .ref a17, .ref a18, .ref a19, .int 0, .int 0, .int 0, .int 0]))]) (fun _ => []) := by
  refine xMi_of (by decide +kernel) rfl (Nat.le_of_ble_eq_true rfl) ?_
  intro p e s m args below meth c ls A B hAe hA hsz hP hK hD hS hAm hTh hAs hl
  obtain ⟨⟨hx, hb, hml, hown, hts⟩, hret, hlk, hnm, hemp⟩ := id B
  have hl : lv_has ls 2 [(0, .ref mo), (1, .int x)] := hl
  refine lv_aload_n hx hb d_Mo_about_0 rfl (lv_at hl 0 rfl) ?_
  refine lv_iload_n hx hb d_Mo_about_1 rfl (lv_at hl 1 rfl) ?_
  have hPc := hP.sub (ws' := [(mo, .inr (6, [.int 0, .int 0, .ref a1, .ref a2, .ref a3, .ref a4, .ref a5, .ref a6, .ref a7, .ref a8, .ref a9, .int 0, .ref a10, .ref a11, .ref a12, .ref a13, .ref a14, .ref a15, .int 0, .ref a16, .int 1, .int 1, .int 0, .ref a17, .ref a18, .ref a19, .int 0, .int 0, .int 0, .int 0]))]) [0] rfl
  have hDc := hD.sub (ws' := [(mo, .inr (6, [.int 0, .int 0, .ref a1, .ref a2, .ref a3, .ref a4, .ref a5, .ref a6, .ref a7, .ref a8, .ref a9, .int 0, .ref a10, .ref a11, .ref a12, .ref a13, .ref a14, .ref a15, .int 0, .ref a16, .int 1, .int 1, .int 0, .ref a17, .ref a18, .ref a19, .int 0, .int 0, .int 0, .int 0]))]) [0] (by decide) rfl
  have hKc := hK.sub (tys' := []) [] rfl
  refine xgi (wsC := [(mo, .inr (6, [.int 0, .int 0, .ref a1, .ref a2, .ref a3, .ref a4, .ref a5, .ref a6, .ref a7, .ref a8, .ref a9, .int 0, .ref a10, .ref a11, .ref a12, .ref a13, .ref a14, .ref a15, .int 0, .ref a16, .int 1, .int 1, .int 0, .ref a17, .ref a18, .ref a19, .int 0, .int 0, .int 0, .int 0]))]) (wr := []) (va_runV (As := [.int x]) (rest := []) ⟨hx, hb, hml, hown, hts⟩ (c_Mo_isEdge l  D mo a1 a2 a3 a4 a5 a6 a7 a8 a9 a10 a11 a12 a13 a14 a15 a16 a17 a18 a19 x _ ) ⟨(callB_of 1 hts (x_good k_Mo_isEdge) rfl rfl rfl (hts _ (List.mem_cons_of_mem _ tw_8)) (hts _ (List.mem_cons_of_mem _ tw_775)) (by decide +kernel) ⟨Nat.le_of_ble_eq_true rfl, Nat.le_of_ble_eq_true rfl⟩), (hts _ (List.mem_cons_of_mem _ tw_777)), (hts _ (List.mem_cons_of_mem _ (x_sel 54 rfl)))⟩ (xP_V (va_recv (ci := 6) (q0 := 0) hK hP rfl rfl) hPc hKc hDc hAm hTh hAs hS) rfl rfl hl.1 rfl (lv_room (Nat.le_of_ble_eq_true rfl)) d_Mo_about_2 ⟨Nat.le_of_ble_eq_true rfl, Nat.le_of_ble_eq_true rfl⟩) hP hD hK hS hA [0] [] rfl rfl (by decide) (by decide) (fun r1 _ H locs er1 hP hD hK hS => ?_)
  have er1 : r1 = 0 := er1
  subst er1
  have hK : va_K D cl [] s := hK
  have hP : va_P D cl [(mo, .inr (6, [.int 0, .int 0, .ref a1, .ref a2, .ref a3, .ref a4, .ref a5, .ref a6, .ref a7, .ref a8, .ref a9, .int 0, .ref a10, .ref a11, .ref a12, .ref a13, .ref a14, .ref a15, .int 0, .ref a16, .int 1, .int 1, .int 0, .ref a17, .ref a18, .ref a19, .int 0, .int 0, .int 0, .int 0]))] H := hP
  have hD : va_D A [(mo, .inr (6, [.int 0, .int 0, .ref a1, .ref a2, .ref a3, .ref a4, .ref a5, .ref a6, .ref a7, .ref a8, .ref a9, .int 0, .ref a10, .ref a11, .ref a12, .ref a13, .ref a14, .ref a15, .int 0, .ref a16, .int 1, .int 1, .int 0, .ref a17, .ref a18, .ref a19, .int 0, .int 0, .int 0, .int 0]))] := hD
  refine lv_if_ne (tgt := 14) hx hb d_Mo_about_5 (by decide) (fun b5 => absurd b5 (by decide)) (fun b5 => ?_)
  refine lv_aload_n hx hb d_Mo_about_8 rfl (lv_at hl 0 rfl) ?_
  refine lv_iconst (v := 1) hx hb d_Mo_about_9 (by decide) ?_
  have hPc := hP.sub (ws' := [(mo, .inr (6, [.int 0, .int 0, .ref a1, .ref a2, .ref a3, .ref a4, .ref a5, .ref a6, .ref a7, .ref a8, .ref a9, .int 0, .ref a10, .ref a11, .ref a12, .ref a13, .ref a14, .ref a15, .int 0, .ref a16, .int 1, .int 1, .int 0, .ref a17, .ref a18, .ref a19, .int 0, .int 0, .int 0, .int 0]))]) [0] rfl
  have hDc := hD.sub (ws' := [(mo, .inr (6, [.int 0, .int 0, .ref a1, .ref a2, .ref a3, .ref a4, .ref a5, .ref a6, .ref a7, .ref a8, .ref a9, .int 0, .ref a10, .ref a11, .ref a12, .ref a13, .ref a14, .ref a15, .int 0, .ref a16, .int 1, .int 1, .int 0, .ref a17, .ref a18, .ref a19, .int 0, .int 0, .int 0, .int 0]))]) [0] (by decide) rfl
  have hKc := hK.sub (tys' := []) [] rfl
  refine xgi (wsC := [(mo, .inr (6, [.int 0, .int 0, .ref a1, .ref a2, .ref a3, .ref a4, .ref a5, .ref a6, .ref a7, .ref a8, .ref a9, .int 0, .ref a10, .ref a11, .ref a12, .ref a13, .ref a14, .ref a15, .int 0, .ref a16, .int 1, .int 1, .int 0, .ref a17, .ref a18, .ref a19, .int 0, .int 0, .int 0, .int 0]))]) (wr := []) (va_runV (As := [.int 1]) (rest := []) ⟨hx, hb, hml, hown, hts⟩ (c_Mo_refuse l  D mo a1 a2 a3 a4 a5 a6 a7 a8 a9 a10 a11 a12 a13 a14 a15 a16 a17 a18 a19 1 _ ) ⟨(callB_of 1 hts (x_good k_Mo_refuse) rfl rfl rfl (hts _ (List.mem_cons_of_mem _ tw_8)) (hts _ (List.mem_cons_of_mem _ tw_839)) (by decide +kernel) ⟨Nat.le_of_ble_eq_true rfl, Nat.le_of_ble_eq_true rfl⟩), (hts _ (List.mem_cons_of_mem _ tw_841)), (hts _ (List.mem_cons_of_mem _ (x_sel 63 rfl)))⟩ (xP_V (va_recv (ci := 6) (q0 := 0) hK hP rfl rfl) hPc hKc hDc hAm hTh hAs hS) rfl rfl hl.1 rfl (lv_room (Nat.le_of_ble_eq_true rfl)) d_Mo_about_10 ⟨Nat.le_of_ble_eq_true rfl, Nat.le_of_ble_eq_true rfl⟩) hP hD hK hS hA [0] [] rfl rfl (by decide) (by decide) (fun r2 _ H locs er2 hP hD hK hS => ?_)
  have er2 : r2 = 0 := er2
  subst er2
  have hK : va_K D cl [] s := hK
  have hP : va_P D cl [(mo, .inr (6, [.int 1, .int 0, .ref a1, .ref a2, .ref a3, .ref a4, .ref a5, .ref a6, .ref a7, .ref a8, .ref a9, .int 0, .ref a10, .ref a11, .ref a12, .ref a13, .ref a14, .ref a15, .int 0, .ref a16, .int 1, .int 1, .int 0, .ref a17, .ref a18, .ref a19, .int 0, .int 0, .int 0, .int 0]))] H := hP
  have hD : va_D A [(mo, .inr (6, [.int 1, .int 0, .ref a1, .ref a2, .ref a3, .ref a4, .ref a5, .ref a6, .ref a7, .ref a8, .ref a9, .int 0, .ref a10, .ref a11, .ref a12, .ref a13, .ref a14, .ref a15, .int 0, .ref a16, .int 1, .int 1, .int 0, .ref a17, .ref a18, .ref a19, .int 0, .int 0, .int 0, .int 0]))] := hD
  exact xri () B d_Mo_about_13 (rfl) (hP.sub (ws' := [(mo, .inr (6, [.int 1, .int 0, .ref a1, .ref a2, .ref a3, .ref a4, .ref a5, .ref a6, .ref a7, .ref a8, .ref a9, .int 0, .ref a10, .ref a11, .ref a12, .ref a13, .ref a14, .ref a15, .int 0, .ref a16, .int 1, .int 1, .int 0, .ref a17, .ref a18, .ref a19, .int 0, .int 0, .int 0, .int 0]))]) [0] rfl) (hK.sub (tys' := []) [] rfl) (hD.sub (ws' := [(mo, .inr (6, [.int 1, .int 0, .ref a1, .ref a2, .ref a3, .ref a4, .ref a5, .ref a6, .ref a7, .ref a8, .ref a9, .int 0, .ref a10, .ref a11, .ref a12, .ref a13, .ref a14, .ref a15, .int 0, .ref a16, .int 1, .int 1, .int 0, .ref a17, .ref a18, .ref a19, .int 0, .int 0, .int 0, .int 0]))]) [0] (by decide) rfl) hS (Nat.le_of_ble_eq_true rfl) (Nat.le_of_ble_eq_true rfl)
theorem d_Mo_commandOf_0 : decode b_Mo_commandOf 0 = .ok (.aload_n 0, 1) := by decide +kernel
theorem d_Mo_commandOf_1 : decode b_Mo_commandOf 1 = .ok (.iload_n 1, 1) := by decide +kernel
theorem d_Mo_commandOf_2 : decode b_Mo_commandOf 2 = .ok (.invokevirtual 99, 3) := by decide +kernel
theorem d_Mo_commandOf_5 : decode b_Mo_commandOf 5 = .ok (.ifCond .ne (9), 3) := by decide +kernel
theorem d_Mo_commandOf_8 : decode b_Mo_commandOf 8 = .ok (.aload_n 0, 1) := by decide +kernel
theorem d_Mo_commandOf_9 : decode b_Mo_commandOf 9 = .ok (.iconst (1), 1) := by decide +kernel
theorem d_Mo_commandOf_10 : decode b_Mo_commandOf 10 = .ok (.invokevirtual 147, 3) := by decide +kernel
theorem d_Mo_commandOf_13 : decode b_Mo_commandOf 13 = .ok (.ireturn, 1) := by decide +kernel
set_option maxRecDepth 20000 in
set_option maxHeartbeats 4000000 in
theorem c_Mo_commandOf (l : Launch) (D : va_G) (mo : Nat) (a1 : Nat) (a2 : Nat) (a3 : Nat) (a4 : Nat) (a5 : Nat) (a6 : Nat) (a7 : Nat) (a8 : Nat) (a9 : Nat) (a10 : Nat) (a11 : Nat) (a12 : Nat) (a13 : Nat) (a14 : Nat) (a15 : Nat) (a16 : Nat) (a17 : Nat) (a18 : Nat) (a19 : Nat) (x : Int32) (sz : Nat)  : xMi l y_Mo_commandOf w_Mo_commandOf { frames := 2, cells := 0, slots := 0, locals := 60 } D cl [.ref mo, .int x] sz [] [(mo, .inr (6, [.int 0, .int 0, .ref a1, .ref a2, .ref a3, .ref a4, .ref a5, .ref a6, .ref a7, .ref a8, .ref a9, .int 0, .ref a10, .ref a11, .ref a12, .ref a13, .ref a14, .ref a15, .int 0, .ref a16, .int 1, .int 1, .int 0, .ref a17, .ref a18, .ref a19, .int 0, .int 0, .int 0, .int 0]))] (fun (r : Int32) (_ : Unit) => r = 0) (fun _ => [(mo, .inr (6, [.int 1, .int 0, .ref a1, .ref a2, .ref a3, .ref a4, .ref a5, .ref a6, .ref a7, .ref a8, .ref a9, .int 0, .ref a10, .ref a11, .ref a12, .ref a13, .ref a14, .ref a15, .int 0, .ref a16, .int 1, .int 1, .int 0, .ref a17, .ref a18, .ref a19, .int 0, .int 0, .int 0, .int 0]))]) (fun _ => []) := by
  refine xMi_of (by decide +kernel) rfl (Nat.le_of_ble_eq_true rfl) ?_
  intro p e s m args below meth c ls A B hAe hA hsz hP hK hD hS hAm hTh hAs hl
  obtain ⟨⟨hx, hb, hml, hown, hts⟩, hret, hlk, hnm, hemp⟩ := id B
  have hl : lv_has ls 2 [(0, .ref mo), (1, .int x)] := hl
  refine lv_aload_n hx hb d_Mo_commandOf_0 rfl (lv_at hl 0 rfl) ?_
  refine lv_iload_n hx hb d_Mo_commandOf_1 rfl (lv_at hl 1 rfl) ?_
  have hPc := hP.sub (ws' := [(mo, .inr (6, [.int 0, .int 0, .ref a1, .ref a2, .ref a3, .ref a4, .ref a5, .ref a6, .ref a7, .ref a8, .ref a9, .int 0, .ref a10, .ref a11, .ref a12, .ref a13, .ref a14, .ref a15, .int 0, .ref a16, .int 1, .int 1, .int 0, .ref a17, .ref a18, .ref a19, .int 0, .int 0, .int 0, .int 0]))]) [0] rfl
  have hDc := hD.sub (ws' := [(mo, .inr (6, [.int 0, .int 0, .ref a1, .ref a2, .ref a3, .ref a4, .ref a5, .ref a6, .ref a7, .ref a8, .ref a9, .int 0, .ref a10, .ref a11, .ref a12, .ref a13, .ref a14, .ref a15, .int 0, .ref a16, .int 1, .int 1, .int 0, .ref a17, .ref a18, .ref a19, .int 0, .int 0, .int 0, .int 0]))]) [0] (by decide) rfl
  have hKc := hK.sub (tys' := []) [] rfl
  refine xgi (wsC := [(mo, .inr (6, [.int 0, .int 0, .ref a1, .ref a2, .ref a3, .ref a4, .ref a5, .ref a6, .ref a7, .ref a8, .ref a9, .int 0, .ref a10, .ref a11, .ref a12, .ref a13, .ref a14, .ref a15, .int 0, .ref a16, .int 1, .int 1, .int 0, .ref a17, .ref a18, .ref a19, .int 0, .int 0, .int 0, .int 0]))]) (wr := []) (va_runV (As := [.int x]) (rest := []) ⟨hx, hb, hml, hown, hts⟩ (c_Mo_isEdge l  D mo a1 a2 a3 a4 a5 a6 a7 a8 a9 a10 a11 a12 a13 a14 a15 a16 a17 a18 a19 x _ ) ⟨(callB_of 1 hts (x_good k_Mo_isEdge) rfl rfl rfl (hts _ (List.mem_cons_of_mem _ tw_8)) (hts _ (List.mem_cons_of_mem _ tw_775)) (by decide +kernel) ⟨Nat.le_of_ble_eq_true rfl, Nat.le_of_ble_eq_true rfl⟩), (hts _ (List.mem_cons_of_mem _ tw_777)), (hts _ (List.mem_cons_of_mem _ (x_sel 54 rfl)))⟩ (xP_V (va_recv (ci := 6) (q0 := 0) hK hP rfl rfl) hPc hKc hDc hAm hTh hAs hS) rfl rfl hl.1 rfl (lv_room (Nat.le_of_ble_eq_true rfl)) d_Mo_commandOf_2 ⟨Nat.le_of_ble_eq_true rfl, Nat.le_of_ble_eq_true rfl⟩) hP hD hK hS hA [0] [] rfl rfl (by decide) (by decide) (fun r1 _ H locs er1 hP hD hK hS => ?_)
  have er1 : r1 = 0 := er1
  subst er1
  have hK : va_K D cl [] s := hK
  have hP : va_P D cl [(mo, .inr (6, [.int 0, .int 0, .ref a1, .ref a2, .ref a3, .ref a4, .ref a5, .ref a6, .ref a7, .ref a8, .ref a9, .int 0, .ref a10, .ref a11, .ref a12, .ref a13, .ref a14, .ref a15, .int 0, .ref a16, .int 1, .int 1, .int 0, .ref a17, .ref a18, .ref a19, .int 0, .int 0, .int 0, .int 0]))] H := hP
  have hD : va_D A [(mo, .inr (6, [.int 0, .int 0, .ref a1, .ref a2, .ref a3, .ref a4, .ref a5, .ref a6, .ref a7, .ref a8, .ref a9, .int 0, .ref a10, .ref a11, .ref a12, .ref a13, .ref a14, .ref a15, .int 0, .ref a16, .int 1, .int 1, .int 0, .ref a17, .ref a18, .ref a19, .int 0, .int 0, .int 0, .int 0]))] := hD
  refine lv_if_ne (tgt := 14) hx hb d_Mo_commandOf_5 (by decide) (fun b5 => absurd b5 (by decide)) (fun b5 => ?_)
  refine lv_aload_n hx hb d_Mo_commandOf_8 rfl (lv_at hl 0 rfl) ?_
  refine lv_iconst (v := 1) hx hb d_Mo_commandOf_9 (by decide) ?_
  have hPc := hP.sub (ws' := [(mo, .inr (6, [.int 0, .int 0, .ref a1, .ref a2, .ref a3, .ref a4, .ref a5, .ref a6, .ref a7, .ref a8, .ref a9, .int 0, .ref a10, .ref a11, .ref a12, .ref a13, .ref a14, .ref a15, .int 0, .ref a16, .int 1, .int 1, .int 0, .ref a17, .ref a18, .ref a19, .int 0, .int 0, .int 0, .int 0]))]) [0] rfl
  have hDc := hD.sub (ws' := [(mo, .inr (6, [.int 0, .int 0, .ref a1, .ref a2, .ref a3, .ref a4, .ref a5, .ref a6, .ref a7, .ref a8, .ref a9, .int 0, .ref a10, .ref a11, .ref a12, .ref a13, .ref a14, .ref a15, .int 0, .ref a16, .int 1, .int 1, .int 0, .ref a17, .ref a18, .ref a19, .int 0, .int 0, .int 0, .int 0]))]) [0] (by decide) rfl
  have hKc := hK.sub (tys' := []) [] rfl
  refine xgi (wsC := [(mo, .inr (6, [.int 0, .int 0, .ref a1, .ref a2, .ref a3, .ref a4, .ref a5, .ref a6, .ref a7, .ref a8, .ref a9, .int 0, .ref a10, .ref a11, .ref a12, .ref a13, .ref a14, .ref a15, .int 0, .ref a16, .int 1, .int 1, .int 0, .ref a17, .ref a18, .ref a19, .int 0, .int 0, .int 0, .int 0]))]) (wr := []) (va_runV (As := [.int 1]) (rest := []) ⟨hx, hb, hml, hown, hts⟩ (c_Mo_refuse l  D mo a1 a2 a3 a4 a5 a6 a7 a8 a9 a10 a11 a12 a13 a14 a15 a16 a17 a18 a19 1 _ ) ⟨(callB_of 1 hts (x_good k_Mo_refuse) rfl rfl rfl (hts _ (List.mem_cons_of_mem _ tw_8)) (hts _ (List.mem_cons_of_mem _ tw_839)) (by decide +kernel) ⟨Nat.le_of_ble_eq_true rfl, Nat.le_of_ble_eq_true rfl⟩), (hts _ (List.mem_cons_of_mem _ tw_841)), (hts _ (List.mem_cons_of_mem _ (x_sel 63 rfl)))⟩ (xP_V (va_recv (ci := 6) (q0 := 0) hK hP rfl rfl) hPc hKc hDc hAm hTh hAs hS) rfl rfl hl.1 rfl (lv_room (Nat.le_of_ble_eq_true rfl)) d_Mo_commandOf_10 ⟨Nat.le_of_ble_eq_true rfl, Nat.le_of_ble_eq_true rfl⟩) hP hD hK hS hA [0] [] rfl rfl (by decide) (by decide) (fun r2 _ H locs er2 hP hD hK hS => ?_)
  have er2 : r2 = 0 := er2
  subst er2
  have hK : va_K D cl [] s := hK
  have hP : va_P D cl [(mo, .inr (6, [.int 1, .int 0, .ref a1, .ref a2, .ref a3, .ref a4, .ref a5, .ref a6, .ref a7, .ref a8, .ref a9, .int 0, .ref a10, .ref a11, .ref a12, .ref a13, .ref a14, .ref a15, .int 0, .ref a16, .int 1, .int 1, .int 0, .ref a17, .ref a18, .ref a19, .int 0, .int 0, .int 0, .int 0]))] H := hP
  have hD : va_D A [(mo, .inr (6, [.int 1, .int 0, .ref a1, .ref a2, .ref a3, .ref a4, .ref a5, .ref a6, .ref a7, .ref a8, .ref a9, .int 0, .ref a10, .ref a11, .ref a12, .ref a13, .ref a14, .ref a15, .int 0, .ref a16, .int 1, .int 1, .int 0, .ref a17, .ref a18, .ref a19, .int 0, .int 0, .int 0, .int 0]))] := hD
  exact xri () B d_Mo_commandOf_13 (rfl) (hP.sub (ws' := [(mo, .inr (6, [.int 1, .int 0, .ref a1, .ref a2, .ref a3, .ref a4, .ref a5, .ref a6, .ref a7, .ref a8, .ref a9, .int 0, .ref a10, .ref a11, .ref a12, .ref a13, .ref a14, .ref a15, .int 0, .ref a16, .int 1, .int 1, .int 0, .ref a17, .ref a18, .ref a19, .int 0, .int 0, .int 0, .int 0]))]) [0] rfl) (hK.sub (tys' := []) [] rfl) (hD.sub (ws' := [(mo, .inr (6, [.int 1, .int 0, .ref a1, .ref a2, .ref a3, .ref a4, .ref a5, .ref a6, .ref a7, .ref a8, .ref a9, .int 0, .ref a10, .ref a11, .ref a12, .ref a13, .ref a14, .ref a15, .int 0, .ref a16, .int 1, .int 1, .int 0, .ref a17, .ref a18, .ref a19, .int 0, .int 0, .int 0, .int 0]))]) [0] (by decide) rfl) hS (Nat.le_of_ble_eq_true rfl) (Nat.le_of_ble_eq_true rfl)
theorem d_Mo_file_0 : decode b_Mo_file 0 = .ok (.iload_n 1, 1) := by decide +kernel
theorem d_Mo_file_1 : decode b_Mo_file 1 = .ok (.invokestatic 95, 3) := by decide +kernel
theorem d_Mo_file_4 : decode b_Mo_file 4 = .ok (.ifCond .eq (12), 3) := by decide +kernel
theorem d_Mo_file_7 : decode b_Mo_file 7 = .ok (.iload_n 2, 1) := by decide +kernel
theorem d_Mo_file_8 : decode b_Mo_file 8 = .ok (.iconst (0), 1) := by decide +kernel
theorem d_Mo_file_9 : decode b_Mo_file 9 = .ok (.iconst (3), 1) := by decide +kernel
theorem d_Mo_file_10 : decode b_Mo_file 10 = .ok (.invokestatic 82, 3) := by decide +kernel
theorem d_Mo_file_13 : decode b_Mo_file 13 = .ok (.ifCond .eq (9), 3) := by decide +kernel
theorem d_Mo_file_22 : decode b_Mo_file 22 = .ok (.aload_n 0, 1) := by decide +kernel
theorem d_Mo_file_23 : decode b_Mo_file 23 = .ok (.iconst (0), 1) := by decide +kernel
theorem d_Mo_file_24 : decode b_Mo_file 24 = .ok (.putfield 75, 3) := by decide +kernel
theorem d_Mo_file_27 : decode b_Mo_file 27 = .ok (.iload_n 2, 1) := by decide +kernel
theorem d_Mo_file_28 : decode b_Mo_file 28 = .ok (.iconst (1), 1) := by decide +kernel
theorem d_Mo_file_29 : decode b_Mo_file 29 = .ok (.if_icmp .le (14), 3) := by decide +kernel
theorem d_Mo_file_43 : decode b_Mo_file 43 = .ok (.iload_n 2, 1) := by decide +kernel
theorem d_Mo_file_44 : decode b_Mo_file 44 = .ok (.ifCond .ne (12), 3) := by decide +kernel
theorem d_Mo_file_47 : decode b_Mo_file 47 = .ok (.aload_n 0, 1) := by decide +kernel
theorem d_Mo_file_48 : decode b_Mo_file 48 = .ok (.getfield 38, 3) := by decide +kernel
theorem d_Mo_file_51 : decode b_Mo_file 51 = .ok (.iload_n 1, 1) := by decide +kernel
theorem d_Mo_file_52 : decode b_Mo_file 52 = .ok (.iaload, 1) := by decide +kernel
theorem d_Mo_file_53 : decode b_Mo_file 53 = .ok (.goto (37), 3) := by decide +kernel
theorem d_Mo_file_90 : decode b_Mo_file 90 = .ok (.ireturn, 1) := by decide +kernel
set_option maxRecDepth 20000 in
set_option maxHeartbeats 4000000 in
theorem c_Mo_file_0 (l : Launch) (D : va_G) (mo : Nat) (a10 : Nat) (a1 : Nat) (a2 : Nat) (a3 : Nat) (a4 : Nat) (a5 : Nat) (a6 : Nat) (a7 : Nat) (a8 : Nat) (a9 : Nat) (a11 : Nat) (a12 : Nat) (a13 : Nat) (a14 : Nat) (a15 : Nat) (a16 : Nat) (a17 : Nat) (a18 : Nat) (a19 : Nat) (cI : ClassId) (x : Int32) (sz : Nat) (h : xIn x 0 23 = 1) : xMi l y_Mo_file w_Mo_file { frames := 2, cells := 0, slots := 0, locals := 60 } D cl [.ref mo, .int x, .int 0] sz [(cI, .int)] [(mo, .inr (6, [.int 0, .int 0, .ref a1, .ref a2, .ref a3, .ref a4, .ref a5, .ref a6, .ref a7, .ref a8, .ref a9, .int 0, .ref a10, .ref a11, .ref a12, .ref a13, .ref a14, .ref a15, .int 0, .ref a16, .int 1, .int 1, .int 0, .ref a17, .ref a18, .ref a19, .int 0, .int 0, .int 0, .int 0])), (a10, .inl (cI, 24, .inl (fun _ => 0)))] (fun (r : Int32) (_ : Unit) => r = 0) (fun _ => [(mo, .inr (6, [.int 0, .int 0, .ref a1, .ref a2, .ref a3, .ref a4, .ref a5, .ref a6, .ref a7, .ref a8, .ref a9, .int 0, .ref a10, .ref a11, .ref a12, .ref a13, .ref a14, .ref a15, .int 0, .ref a16, .int 1, .int 1, .int 0, .ref a17, .ref a18, .ref a19, .int 0, .int 0, .int 0, .int 0]))]) (fun _ => []) := by
  refine xMi_of (by decide +kernel) rfl (Nat.le_of_ble_eq_true rfl) ?_
  intro p e s m args below meth c ls A B hAe hA hsz hP hK hD hS hAm hTh hAs hl
  obtain ⟨⟨hx, hb, hml, hown, hts⟩, hret, hlk, hnm, hemp⟩ := id B
  have hl : lv_has ls 3 [(0, .ref mo), (1, .int x), (2, .int 0)] := hl
  refine lv_iload_n hx hb d_Mo_file_0 rfl (lv_at hl 1 rfl) ?_
  have hPc := hP.sub (ws' := []) [] rfl
  have hDc := hD.sub (ws' := []) [] (by decide) rfl
  have hKc := hK.sub (tys' := []) [] rfl
  refine xgi (wsC := []) (wr := [(mo, .inr (6, [.int 0, .int 0, .ref a1, .ref a2, .ref a3, .ref a4, .ref a5, .ref a6, .ref a7, .ref a8, .ref a9, .int 0, .ref a10, .ref a11, .ref a12, .ref a13, .ref a14, .ref a15, .int 0, .ref a16, .int 1, .int 1, .int 0, .ref a17, .ref a18, .ref a19, .int 0, .int 0, .int 0, .int 0])), (a10, .inl (cI, 24, .inl (fun _ => 0)))]) (va_runS (As := [.int x]) (rest := []) ⟨hx, hb, hml, hown, hts⟩ (c_Mo_isFile l  D x _ ) ⟨(callB_of 1 hts (x_good k_Mo_isFile) rfl rfl rfl (hts _ (List.mem_cons_of_mem _ tw_8)) (hts _ (List.mem_cons_of_mem _ tw_772)) (by decide +kernel) ⟨Nat.le_of_ble_eq_true rfl, Nat.le_of_ble_eq_true rfl⟩), (hts _ (List.mem_cons_of_mem _ tw_773))⟩ (xP_S hPc hKc hDc hAm hTh hAs hS) rfl rfl hl.1 rfl (lv_room (Nat.le_of_ble_eq_true rfl)) d_Mo_file_1 ⟨Nat.le_of_ble_eq_true rfl, Nat.le_of_ble_eq_true rfl⟩) hP hD hK hS hA [] [0, 1] rfl rfl (by decide) (by decide) (fun r1 _ H locs er1 hP hD hK hS => ?_)
  have er1 : r1 = xIn x 0 23 := er1
  subst er1
  have hK : va_K D cl [(cI, .int)] s := hK
  have hP : va_P D cl [(mo, .inr (6, [.int 0, .int 0, .ref a1, .ref a2, .ref a3, .ref a4, .ref a5, .ref a6, .ref a7, .ref a8, .ref a9, .int 0, .ref a10, .ref a11, .ref a12, .ref a13, .ref a14, .ref a15, .int 0, .ref a16, .int 1, .int 1, .int 0, .ref a17, .ref a18, .ref a19, .int 0, .int 0, .int 0, .int 0])), (a10, .inl (cI, 24, .inl (fun _ => 0)))] H := hP
  have hD : va_D A [(mo, .inr (6, [.int 0, .int 0, .ref a1, .ref a2, .ref a3, .ref a4, .ref a5, .ref a6, .ref a7, .ref a8, .ref a9, .int 0, .ref a10, .ref a11, .ref a12, .ref a13, .ref a14, .ref a15, .int 0, .ref a16, .int 1, .int 1, .int 0, .ref a17, .ref a18, .ref a19, .int 0, .int 0, .int 0, .int 0])), (a10, .inl (cI, 24, .inl (fun _ => 0)))] := hD
  refine lv_if_eq (tgt := 16) hx hb d_Mo_file_4 (by decide) (fun b4 => absurd b4 (xne1 h)) (fun b4 => ?_)
  refine lv_iload_n hx hb d_Mo_file_7 rfl (lv_at hl 2 rfl) ?_
  refine lv_iconst (v := 0) hx hb d_Mo_file_8 (by decide) ?_
  refine lv_iconst (v := 3) hx hb d_Mo_file_9 (by decide) ?_
  have hPc := hP.sub (ws' := []) [] rfl
  have hDc := hD.sub (ws' := []) [] (by decide) rfl
  have hKc := hK.sub (tys' := []) [] rfl
  refine xgi (wsC := []) (wr := [(mo, .inr (6, [.int 0, .int 0, .ref a1, .ref a2, .ref a3, .ref a4, .ref a5, .ref a6, .ref a7, .ref a8, .ref a9, .int 0, .ref a10, .ref a11, .ref a12, .ref a13, .ref a14, .ref a15, .int 0, .ref a16, .int 1, .int 1, .int 0, .ref a17, .ref a18, .ref a19, .int 0, .int 0, .int 0, .int 0])), (a10, .inl (cI, 24, .inl (fun _ => 0)))]) (va_runS (As := [.int 0, .int 0, .int 3]) (rest := []) ⟨hx, hb, hml, hown, hts⟩ (c_Mo_outside l  D 0 0 3 _ ) ⟨(callB_of 3 hts (x_good k_Mo_outside) rfl rfl rfl (hts _ (List.mem_cons_of_mem _ tw_8)) (hts _ (List.mem_cons_of_mem _ tw_765)) (by decide +kernel) ⟨Nat.le_of_ble_eq_true rfl, Nat.le_of_ble_eq_true rfl⟩), (hts _ (List.mem_cons_of_mem _ tw_766))⟩ (xP_S hPc hKc hDc hAm hTh hAs hS) rfl rfl hl.1 rfl (lv_room (Nat.le_of_ble_eq_true rfl)) d_Mo_file_10 ⟨Nat.le_of_ble_eq_true rfl, Nat.le_of_ble_eq_true rfl⟩) hP hD hK hS hA [] [0, 1] rfl rfl (by decide) (by decide) (fun r2 _ H locs er2 hP hD hK hS => ?_)
  have er2 : r2 = xOut 0 0 3 := er2
  subst er2
  have hK : va_K D cl [(cI, .int)] s := hK
  have hP : va_P D cl [(mo, .inr (6, [.int 0, .int 0, .ref a1, .ref a2, .ref a3, .ref a4, .ref a5, .ref a6, .ref a7, .ref a8, .ref a9, .int 0, .ref a10, .ref a11, .ref a12, .ref a13, .ref a14, .ref a15, .int 0, .ref a16, .int 1, .int 1, .int 0, .ref a17, .ref a18, .ref a19, .int 0, .int 0, .int 0, .int 0])), (a10, .inl (cI, 24, .inl (fun _ => 0)))] H := hP
  have hD : va_D A [(mo, .inr (6, [.int 0, .int 0, .ref a1, .ref a2, .ref a3, .ref a4, .ref a5, .ref a6, .ref a7, .ref a8, .ref a9, .int 0, .ref a10, .ref a11, .ref a12, .ref a13, .ref a14, .ref a15, .int 0, .ref a16, .int 1, .int 1, .int 0, .ref a17, .ref a18, .ref a19, .int 0, .int 0, .int 0, .int 0])), (a10, .inl (cI, 24, .inl (fun _ => 0)))] := hD
  refine lv_if_eq (tgt := 22) hx hb d_Mo_file_13 (by decide) (fun b13 => ?_) (fun b13 => absurd (by decide) b13)
  refine lv_aload_n hx hb d_Mo_file_22 rfl (lv_at hl 0 rfl) ?_
  refine lv_iconst (v := 0) hx hb d_Mo_file_23 (by decide) ?_
  refine va_put (D := D) (ci := 6) (v := .int 0) (ty := .int) (C := R_Mo) (T := F_Mo) (N := 30) hx hb hts (fun w h => List.mem_cons_of_mem _ (u_Mo w h)) t_Mo o_Mo n_Mo hown hK hP hD hS 0 rfl rfl 0 (by decide) (hts _ (List.mem_cons_of_mem _ tw_665)) (fun _ h9 => h9) rfl (by decide +kernel) rfl rfl (Nat.le_of_ble_eq_true rfl) d_Mo_file_24 (fun H locs hP hD hS => ?_)
  have hP : va_P D cl [(mo, .inr (6, [.int 0, .int 0, .ref a1, .ref a2, .ref a3, .ref a4, .ref a5, .ref a6, .ref a7, .ref a8, .ref a9, .int 0, .ref a10, .ref a11, .ref a12, .ref a13, .ref a14, .ref a15, .int 0, .ref a16, .int 1, .int 1, .int 0, .ref a17, .ref a18, .ref a19, .int 0, .int 0, .int 0, .int 0])), (a10, .inl (cI, 24, .inl (fun _ => 0)))] H := hP
  have hD : va_D A [(mo, .inr (6, [.int 0, .int 0, .ref a1, .ref a2, .ref a3, .ref a4, .ref a5, .ref a6, .ref a7, .ref a8, .ref a9, .int 0, .ref a10, .ref a11, .ref a12, .ref a13, .ref a14, .ref a15, .int 0, .ref a16, .int 1, .int 1, .int 0, .ref a17, .ref a18, .ref a19, .int 0, .int 0, .int 0, .int 0])), (a10, .inl (cI, 24, .inl (fun _ => 0)))] := hD
  refine lv_iload_n hx hb d_Mo_file_27 rfl (lv_at hl 2 rfl) ?_
  refine lv_iconst (v := 1) hx hb d_Mo_file_28 (by decide) ?_
  refine lv_icmp_le (tgt := 43) hx hb d_Mo_file_29 (by decide) (fun b29 => ?_) (fun b29 => absurd b29 (by decide))
  refine lv_iload_n hx hb d_Mo_file_43 rfl (lv_at hl 2 rfl) ?_
  refine lv_if_ne (tgt := 56) hx hb d_Mo_file_44 (by decide) (fun b44 => absurd b44 (by decide)) (fun b44 => ?_)
  refine lv_aload_n hx hb d_Mo_file_47 rfl (lv_at hl 0 rfl) ?_
  refine va_get (D := D) (ci := 6) (v := .ref a10) (C := R_Mo) (T := F_Mo) (N := 30) hx hb hts (fun w h => List.mem_cons_of_mem _ (u_Mo w h)) hown hK hP 0 rfl rfl 12 (by decide) (hts _ (List.mem_cons_of_mem _ tw_677)) (fun _ h9 => h9) rfl d_Mo_file_48 ?_
  refine lv_iload_n hx hb d_Mo_file_51 rfl (lv_at hl 1 rfl) ?_
  refine va_iald hx hb hK hP 1 0 rfl rfl (xIn_in2 h (by decide) (by decide)) d_Mo_file_52 ?_
  refine xnum (v := 0) rfl ?_
  refine lv_goto (tgt := 90) hx hb d_Mo_file_53 (by decide) ?_
  exact xri () B d_Mo_file_90 (rfl) (hP.sub (ws' := [(mo, .inr (6, [.int 0, .int 0, .ref a1, .ref a2, .ref a3, .ref a4, .ref a5, .ref a6, .ref a7, .ref a8, .ref a9, .int 0, .ref a10, .ref a11, .ref a12, .ref a13, .ref a14, .ref a15, .int 0, .ref a16, .int 1, .int 1, .int 0, .ref a17, .ref a18, .ref a19, .int 0, .int 0, .int 0, .int 0]))]) [0] rfl) (hK.sub (tys' := []) [] rfl) (hD.sub (ws' := [(mo, .inr (6, [.int 0, .int 0, .ref a1, .ref a2, .ref a3, .ref a4, .ref a5, .ref a6, .ref a7, .ref a8, .ref a9, .int 0, .ref a10, .ref a11, .ref a12, .ref a13, .ref a14, .ref a15, .int 0, .ref a16, .int 1, .int 1, .int 0, .ref a17, .ref a18, .ref a19, .int 0, .int 0, .int 0, .int 0]))]) [0] (by decide) rfl) hS (Nat.le_of_ble_eq_true rfl) (Nat.le_of_ble_eq_true rfl)
theorem d_Mo_file_56 : decode b_Mo_file 56 = .ok (.iload_n 2, 1) := by decide +kernel
theorem d_Mo_file_57 : decode b_Mo_file 57 = .ok (.iconst (1), 1) := by decide +kernel
theorem d_Mo_file_58 : decode b_Mo_file 58 = .ok (.if_icmp .ne (12), 3) := by decide +kernel
theorem d_Mo_file_61 : decode b_Mo_file 61 = .ok (.aload_n 0, 1) := by decide +kernel
theorem d_Mo_file_62 : decode b_Mo_file 62 = .ok (.getfield 41, 3) := by decide +kernel
theorem d_Mo_file_65 : decode b_Mo_file 65 = .ok (.iload_n 1, 1) := by decide +kernel
theorem d_Mo_file_66 : decode b_Mo_file 66 = .ok (.iaload, 1) := by decide +kernel
theorem d_Mo_file_67 : decode b_Mo_file 67 = .ok (.goto (23), 3) := by decide +kernel
set_option maxRecDepth 20000 in
set_option maxHeartbeats 4000000 in
theorem c_Mo_file_1 (l : Launch) (D : va_G) (mo : Nat) (a11 : Nat) (a1 : Nat) (a2 : Nat) (a3 : Nat) (a4 : Nat) (a5 : Nat) (a6 : Nat) (a7 : Nat) (a8 : Nat) (a9 : Nat) (a10 : Nat) (a12 : Nat) (a13 : Nat) (a14 : Nat) (a15 : Nat) (a16 : Nat) (a17 : Nat) (a18 : Nat) (a19 : Nat) (cI : ClassId) (x : Int32) (sz : Nat) (h : xIn x 0 23 = 1) : xMi l y_Mo_file w_Mo_file { frames := 2, cells := 0, slots := 0, locals := 60 } D cl [.ref mo, .int x, .int 1] sz [(cI, .int)] [(mo, .inr (6, [.int 0, .int 0, .ref a1, .ref a2, .ref a3, .ref a4, .ref a5, .ref a6, .ref a7, .ref a8, .ref a9, .int 0, .ref a10, .ref a11, .ref a12, .ref a13, .ref a14, .ref a15, .int 0, .ref a16, .int 1, .int 1, .int 0, .ref a17, .ref a18, .ref a19, .int 0, .int 0, .int 0, .int 0])), (a11, .inl (cI, 24, .inl (fun _ => 0)))] (fun (r : Int32) (_ : Unit) => r = 0) (fun _ => [(mo, .inr (6, [.int 0, .int 0, .ref a1, .ref a2, .ref a3, .ref a4, .ref a5, .ref a6, .ref a7, .ref a8, .ref a9, .int 0, .ref a10, .ref a11, .ref a12, .ref a13, .ref a14, .ref a15, .int 0, .ref a16, .int 1, .int 1, .int 0, .ref a17, .ref a18, .ref a19, .int 0, .int 0, .int 0, .int 0]))]) (fun _ => []) := by
  refine xMi_of (by decide +kernel) rfl (Nat.le_of_ble_eq_true rfl) ?_
  intro p e s m args below meth c ls A B hAe hA hsz hP hK hD hS hAm hTh hAs hl
  obtain ⟨⟨hx, hb, hml, hown, hts⟩, hret, hlk, hnm, hemp⟩ := id B
  have hl : lv_has ls 3 [(0, .ref mo), (1, .int x), (2, .int 1)] := hl
  refine lv_iload_n hx hb d_Mo_file_0 rfl (lv_at hl 1 rfl) ?_
  have hPc := hP.sub (ws' := []) [] rfl
  have hDc := hD.sub (ws' := []) [] (by decide) rfl
  have hKc := hK.sub (tys' := []) [] rfl
  refine xgi (wsC := []) (wr := [(mo, .inr (6, [.int 0, .int 0, .ref a1, .ref a2, .ref a3, .ref a4, .ref a5, .ref a6, .ref a7, .ref a8, .ref a9, .int 0, .ref a10, .ref a11, .ref a12, .ref a13, .ref a14, .ref a15, .int 0, .ref a16, .int 1, .int 1, .int 0, .ref a17, .ref a18, .ref a19, .int 0, .int 0, .int 0, .int 0])), (a11, .inl (cI, 24, .inl (fun _ => 0)))]) (va_runS (As := [.int x]) (rest := []) ⟨hx, hb, hml, hown, hts⟩ (c_Mo_isFile l  D x _ ) ⟨(callB_of 1 hts (x_good k_Mo_isFile) rfl rfl rfl (hts _ (List.mem_cons_of_mem _ tw_8)) (hts _ (List.mem_cons_of_mem _ tw_772)) (by decide +kernel) ⟨Nat.le_of_ble_eq_true rfl, Nat.le_of_ble_eq_true rfl⟩), (hts _ (List.mem_cons_of_mem _ tw_773))⟩ (xP_S hPc hKc hDc hAm hTh hAs hS) rfl rfl hl.1 rfl (lv_room (Nat.le_of_ble_eq_true rfl)) d_Mo_file_1 ⟨Nat.le_of_ble_eq_true rfl, Nat.le_of_ble_eq_true rfl⟩) hP hD hK hS hA [] [0, 1] rfl rfl (by decide) (by decide) (fun r1 _ H locs er1 hP hD hK hS => ?_)
  have er1 : r1 = xIn x 0 23 := er1
  subst er1
  have hK : va_K D cl [(cI, .int)] s := hK
  have hP : va_P D cl [(mo, .inr (6, [.int 0, .int 0, .ref a1, .ref a2, .ref a3, .ref a4, .ref a5, .ref a6, .ref a7, .ref a8, .ref a9, .int 0, .ref a10, .ref a11, .ref a12, .ref a13, .ref a14, .ref a15, .int 0, .ref a16, .int 1, .int 1, .int 0, .ref a17, .ref a18, .ref a19, .int 0, .int 0, .int 0, .int 0])), (a11, .inl (cI, 24, .inl (fun _ => 0)))] H := hP
  have hD : va_D A [(mo, .inr (6, [.int 0, .int 0, .ref a1, .ref a2, .ref a3, .ref a4, .ref a5, .ref a6, .ref a7, .ref a8, .ref a9, .int 0, .ref a10, .ref a11, .ref a12, .ref a13, .ref a14, .ref a15, .int 0, .ref a16, .int 1, .int 1, .int 0, .ref a17, .ref a18, .ref a19, .int 0, .int 0, .int 0, .int 0])), (a11, .inl (cI, 24, .inl (fun _ => 0)))] := hD
  refine lv_if_eq (tgt := 16) hx hb d_Mo_file_4 (by decide) (fun b4 => absurd b4 (xne1 h)) (fun b4 => ?_)
  refine lv_iload_n hx hb d_Mo_file_7 rfl (lv_at hl 2 rfl) ?_
  refine lv_iconst (v := 0) hx hb d_Mo_file_8 (by decide) ?_
  refine lv_iconst (v := 3) hx hb d_Mo_file_9 (by decide) ?_
  have hPc := hP.sub (ws' := []) [] rfl
  have hDc := hD.sub (ws' := []) [] (by decide) rfl
  have hKc := hK.sub (tys' := []) [] rfl
  refine xgi (wsC := []) (wr := [(mo, .inr (6, [.int 0, .int 0, .ref a1, .ref a2, .ref a3, .ref a4, .ref a5, .ref a6, .ref a7, .ref a8, .ref a9, .int 0, .ref a10, .ref a11, .ref a12, .ref a13, .ref a14, .ref a15, .int 0, .ref a16, .int 1, .int 1, .int 0, .ref a17, .ref a18, .ref a19, .int 0, .int 0, .int 0, .int 0])), (a11, .inl (cI, 24, .inl (fun _ => 0)))]) (va_runS (As := [.int 1, .int 0, .int 3]) (rest := []) ⟨hx, hb, hml, hown, hts⟩ (c_Mo_outside l  D 1 0 3 _ ) ⟨(callB_of 3 hts (x_good k_Mo_outside) rfl rfl rfl (hts _ (List.mem_cons_of_mem _ tw_8)) (hts _ (List.mem_cons_of_mem _ tw_765)) (by decide +kernel) ⟨Nat.le_of_ble_eq_true rfl, Nat.le_of_ble_eq_true rfl⟩), (hts _ (List.mem_cons_of_mem _ tw_766))⟩ (xP_S hPc hKc hDc hAm hTh hAs hS) rfl rfl hl.1 rfl (lv_room (Nat.le_of_ble_eq_true rfl)) d_Mo_file_10 ⟨Nat.le_of_ble_eq_true rfl, Nat.le_of_ble_eq_true rfl⟩) hP hD hK hS hA [] [0, 1] rfl rfl (by decide) (by decide) (fun r2 _ H locs er2 hP hD hK hS => ?_)
  have er2 : r2 = xOut 1 0 3 := er2
  subst er2
  have hK : va_K D cl [(cI, .int)] s := hK
  have hP : va_P D cl [(mo, .inr (6, [.int 0, .int 0, .ref a1, .ref a2, .ref a3, .ref a4, .ref a5, .ref a6, .ref a7, .ref a8, .ref a9, .int 0, .ref a10, .ref a11, .ref a12, .ref a13, .ref a14, .ref a15, .int 0, .ref a16, .int 1, .int 1, .int 0, .ref a17, .ref a18, .ref a19, .int 0, .int 0, .int 0, .int 0])), (a11, .inl (cI, 24, .inl (fun _ => 0)))] H := hP
  have hD : va_D A [(mo, .inr (6, [.int 0, .int 0, .ref a1, .ref a2, .ref a3, .ref a4, .ref a5, .ref a6, .ref a7, .ref a8, .ref a9, .int 0, .ref a10, .ref a11, .ref a12, .ref a13, .ref a14, .ref a15, .int 0, .ref a16, .int 1, .int 1, .int 0, .ref a17, .ref a18, .ref a19, .int 0, .int 0, .int 0, .int 0])), (a11, .inl (cI, 24, .inl (fun _ => 0)))] := hD
  refine lv_if_eq (tgt := 22) hx hb d_Mo_file_13 (by decide) (fun b13 => ?_) (fun b13 => absurd (by decide) b13)
  refine lv_aload_n hx hb d_Mo_file_22 rfl (lv_at hl 0 rfl) ?_
  refine lv_iconst (v := 0) hx hb d_Mo_file_23 (by decide) ?_
  refine va_put (D := D) (ci := 6) (v := .int 0) (ty := .int) (C := R_Mo) (T := F_Mo) (N := 30) hx hb hts (fun w h => List.mem_cons_of_mem _ (u_Mo w h)) t_Mo o_Mo n_Mo hown hK hP hD hS 0 rfl rfl 0 (by decide) (hts _ (List.mem_cons_of_mem _ tw_665)) (fun _ h9 => h9) rfl (by decide +kernel) rfl rfl (Nat.le_of_ble_eq_true rfl) d_Mo_file_24 (fun H locs hP hD hS => ?_)
  have hP : va_P D cl [(mo, .inr (6, [.int 0, .int 0, .ref a1, .ref a2, .ref a3, .ref a4, .ref a5, .ref a6, .ref a7, .ref a8, .ref a9, .int 0, .ref a10, .ref a11, .ref a12, .ref a13, .ref a14, .ref a15, .int 0, .ref a16, .int 1, .int 1, .int 0, .ref a17, .ref a18, .ref a19, .int 0, .int 0, .int 0, .int 0])), (a11, .inl (cI, 24, .inl (fun _ => 0)))] H := hP
  have hD : va_D A [(mo, .inr (6, [.int 0, .int 0, .ref a1, .ref a2, .ref a3, .ref a4, .ref a5, .ref a6, .ref a7, .ref a8, .ref a9, .int 0, .ref a10, .ref a11, .ref a12, .ref a13, .ref a14, .ref a15, .int 0, .ref a16, .int 1, .int 1, .int 0, .ref a17, .ref a18, .ref a19, .int 0, .int 0, .int 0, .int 0])), (a11, .inl (cI, 24, .inl (fun _ => 0)))] := hD
  refine lv_iload_n hx hb d_Mo_file_27 rfl (lv_at hl 2 rfl) ?_
  refine lv_iconst (v := 1) hx hb d_Mo_file_28 (by decide) ?_
  refine lv_icmp_le (tgt := 43) hx hb d_Mo_file_29 (by decide) (fun b29 => ?_) (fun b29 => absurd b29 (by decide))
  refine lv_iload_n hx hb d_Mo_file_43 rfl (lv_at hl 2 rfl) ?_
  refine lv_if_ne (tgt := 56) hx hb d_Mo_file_44 (by decide) (fun b44 => ?_) (fun b44 => absurd b44 (by decide))
  refine lv_iload_n hx hb d_Mo_file_56 rfl (lv_at hl 2 rfl) ?_
  refine lv_iconst (v := 1) hx hb d_Mo_file_57 (by decide) ?_
  refine lv_icmp_ne (tgt := 70) hx hb d_Mo_file_58 (by decide) (fun b58 => absurd b58 (by decide)) (fun b58 => ?_)
  refine lv_aload_n hx hb d_Mo_file_61 rfl (lv_at hl 0 rfl) ?_
  refine va_get (D := D) (ci := 6) (v := .ref a11) (C := R_Mo) (T := F_Mo) (N := 30) hx hb hts (fun w h => List.mem_cons_of_mem _ (u_Mo w h)) hown hK hP 0 rfl rfl 13 (by decide) (hts _ (List.mem_cons_of_mem _ tw_678)) (fun _ h9 => h9) rfl d_Mo_file_62 ?_
  refine lv_iload_n hx hb d_Mo_file_65 rfl (lv_at hl 1 rfl) ?_
  refine va_iald hx hb hK hP 1 0 rfl rfl (xIn_in2 h (by decide) (by decide)) d_Mo_file_66 ?_
  refine xnum (v := 0) rfl ?_
  refine lv_goto (tgt := 90) hx hb d_Mo_file_67 (by decide) ?_
  exact xri () B d_Mo_file_90 (rfl) (hP.sub (ws' := [(mo, .inr (6, [.int 0, .int 0, .ref a1, .ref a2, .ref a3, .ref a4, .ref a5, .ref a6, .ref a7, .ref a8, .ref a9, .int 0, .ref a10, .ref a11, .ref a12, .ref a13, .ref a14, .ref a15, .int 0, .ref a16, .int 1, .int 1, .int 0, .ref a17, .ref a18, .ref a19, .int 0, .int 0, .int 0, .int 0]))]) [0] rfl) (hK.sub (tys' := []) [] rfl) (hD.sub (ws' := [(mo, .inr (6, [.int 0, .int 0, .ref a1, .ref a2, .ref a3, .ref a4, .ref a5, .ref a6, .ref a7, .ref a8, .ref a9, .int 0, .ref a10, .ref a11, .ref a12, .ref a13, .ref a14, .ref a15, .int 0, .ref a16, .int 1, .int 1, .int 0, .ref a17, .ref a18, .ref a19, .int 0, .int 0, .int 0, .int 0]))]) [0] (by decide) rfl) hS (Nat.le_of_ble_eq_true rfl) (Nat.le_of_ble_eq_true rfl)
theorem d_Mo_file_32 : decode b_Mo_file 32 = .ok (.aload_n 0, 1) := by decide +kernel
theorem d_Mo_file_33 : decode b_Mo_file 33 = .ok (.getfield 47, 3) := by decide +kernel
theorem d_Mo_file_36 : decode b_Mo_file 36 = .ok (.iload_n 1, 1) := by decide +kernel
theorem d_Mo_file_37 : decode b_Mo_file 37 = .ok (.baload, 1) := by decide +kernel
theorem d_Mo_file_38 : decode b_Mo_file 38 = .ok (.ifCond .ne (5), 3) := by decide +kernel
theorem d_Mo_file_41 : decode b_Mo_file 41 = .ok (.iconst (-1), 1) := by decide +kernel
theorem d_Mo_file_42 : decode b_Mo_file 42 = .ok (.ireturn, 1) := by decide +kernel
set_option maxRecDepth 20000 in
set_option maxHeartbeats 4000000 in
theorem c_Mo_file_2 (l : Launch) (D : va_G) (mo : Nat) (a13 : Nat) (a1 : Nat) (a2 : Nat) (a3 : Nat) (a4 : Nat) (a5 : Nat) (a6 : Nat) (a7 : Nat) (a8 : Nat) (a9 : Nat) (a10 : Nat) (a11 : Nat) (a12 : Nat) (a14 : Nat) (a15 : Nat) (a16 : Nat) (a17 : Nat) (a18 : Nat) (a19 : Nat) (cZ : ClassId) (x : Int32) (sz : Nat) (h : xIn x 0 23 = 1) : xMi l y_Mo_file w_Mo_file { frames := 2, cells := 0, slots := 0, locals := 60 } D cl [.ref mo, .int x, .int 2] sz [(cZ, .boolean)] [(mo, .inr (6, [.int 0, .int 0, .ref a1, .ref a2, .ref a3, .ref a4, .ref a5, .ref a6, .ref a7, .ref a8, .ref a9, .int 0, .ref a10, .ref a11, .ref a12, .ref a13, .ref a14, .ref a15, .int 0, .ref a16, .int 1, .int 1, .int 0, .ref a17, .ref a18, .ref a19, .int 0, .int 0, .int 0, .int 0])), (a13, .inl (cZ, 24, .inl (fun _ => 0)))] (fun (r : Int32) (_ : Unit) => r = (-1)) (fun _ => [(mo, .inr (6, [.int 0, .int 0, .ref a1, .ref a2, .ref a3, .ref a4, .ref a5, .ref a6, .ref a7, .ref a8, .ref a9, .int 0, .ref a10, .ref a11, .ref a12, .ref a13, .ref a14, .ref a15, .int 0, .ref a16, .int 1, .int 1, .int 0, .ref a17, .ref a18, .ref a19, .int 0, .int 0, .int 0, .int 0]))]) (fun _ => []) := by
  refine xMi_of (by decide +kernel) rfl (Nat.le_of_ble_eq_true rfl) ?_
  intro p e s m args below meth c ls A B hAe hA hsz hP hK hD hS hAm hTh hAs hl
  obtain ⟨⟨hx, hb, hml, hown, hts⟩, hret, hlk, hnm, hemp⟩ := id B
  have hl : lv_has ls 3 [(0, .ref mo), (1, .int x), (2, .int 2)] := hl
  refine lv_iload_n hx hb d_Mo_file_0 rfl (lv_at hl 1 rfl) ?_
  have hPc := hP.sub (ws' := []) [] rfl
  have hDc := hD.sub (ws' := []) [] (by decide) rfl
  have hKc := hK.sub (tys' := []) [] rfl
  refine xgi (wsC := []) (wr := [(mo, .inr (6, [.int 0, .int 0, .ref a1, .ref a2, .ref a3, .ref a4, .ref a5, .ref a6, .ref a7, .ref a8, .ref a9, .int 0, .ref a10, .ref a11, .ref a12, .ref a13, .ref a14, .ref a15, .int 0, .ref a16, .int 1, .int 1, .int 0, .ref a17, .ref a18, .ref a19, .int 0, .int 0, .int 0, .int 0])), (a13, .inl (cZ, 24, .inl (fun _ => 0)))]) (va_runS (As := [.int x]) (rest := []) ⟨hx, hb, hml, hown, hts⟩ (c_Mo_isFile l  D x _ ) ⟨(callB_of 1 hts (x_good k_Mo_isFile) rfl rfl rfl (hts _ (List.mem_cons_of_mem _ tw_8)) (hts _ (List.mem_cons_of_mem _ tw_772)) (by decide +kernel) ⟨Nat.le_of_ble_eq_true rfl, Nat.le_of_ble_eq_true rfl⟩), (hts _ (List.mem_cons_of_mem _ tw_773))⟩ (xP_S hPc hKc hDc hAm hTh hAs hS) rfl rfl hl.1 rfl (lv_room (Nat.le_of_ble_eq_true rfl)) d_Mo_file_1 ⟨Nat.le_of_ble_eq_true rfl, Nat.le_of_ble_eq_true rfl⟩) hP hD hK hS hA [] [0, 1] rfl rfl (by decide) (by decide) (fun r1 _ H locs er1 hP hD hK hS => ?_)
  have er1 : r1 = xIn x 0 23 := er1
  subst er1
  have hK : va_K D cl [(cZ, .boolean)] s := hK
  have hP : va_P D cl [(mo, .inr (6, [.int 0, .int 0, .ref a1, .ref a2, .ref a3, .ref a4, .ref a5, .ref a6, .ref a7, .ref a8, .ref a9, .int 0, .ref a10, .ref a11, .ref a12, .ref a13, .ref a14, .ref a15, .int 0, .ref a16, .int 1, .int 1, .int 0, .ref a17, .ref a18, .ref a19, .int 0, .int 0, .int 0, .int 0])), (a13, .inl (cZ, 24, .inl (fun _ => 0)))] H := hP
  have hD : va_D A [(mo, .inr (6, [.int 0, .int 0, .ref a1, .ref a2, .ref a3, .ref a4, .ref a5, .ref a6, .ref a7, .ref a8, .ref a9, .int 0, .ref a10, .ref a11, .ref a12, .ref a13, .ref a14, .ref a15, .int 0, .ref a16, .int 1, .int 1, .int 0, .ref a17, .ref a18, .ref a19, .int 0, .int 0, .int 0, .int 0])), (a13, .inl (cZ, 24, .inl (fun _ => 0)))] := hD
  refine lv_if_eq (tgt := 16) hx hb d_Mo_file_4 (by decide) (fun b4 => absurd b4 (xne1 h)) (fun b4 => ?_)
  refine lv_iload_n hx hb d_Mo_file_7 rfl (lv_at hl 2 rfl) ?_
  refine lv_iconst (v := 0) hx hb d_Mo_file_8 (by decide) ?_
  refine lv_iconst (v := 3) hx hb d_Mo_file_9 (by decide) ?_
  have hPc := hP.sub (ws' := []) [] rfl
  have hDc := hD.sub (ws' := []) [] (by decide) rfl
  have hKc := hK.sub (tys' := []) [] rfl
  refine xgi (wsC := []) (wr := [(mo, .inr (6, [.int 0, .int 0, .ref a1, .ref a2, .ref a3, .ref a4, .ref a5, .ref a6, .ref a7, .ref a8, .ref a9, .int 0, .ref a10, .ref a11, .ref a12, .ref a13, .ref a14, .ref a15, .int 0, .ref a16, .int 1, .int 1, .int 0, .ref a17, .ref a18, .ref a19, .int 0, .int 0, .int 0, .int 0])), (a13, .inl (cZ, 24, .inl (fun _ => 0)))]) (va_runS (As := [.int 2, .int 0, .int 3]) (rest := []) ⟨hx, hb, hml, hown, hts⟩ (c_Mo_outside l  D 2 0 3 _ ) ⟨(callB_of 3 hts (x_good k_Mo_outside) rfl rfl rfl (hts _ (List.mem_cons_of_mem _ tw_8)) (hts _ (List.mem_cons_of_mem _ tw_765)) (by decide +kernel) ⟨Nat.le_of_ble_eq_true rfl, Nat.le_of_ble_eq_true rfl⟩), (hts _ (List.mem_cons_of_mem _ tw_766))⟩ (xP_S hPc hKc hDc hAm hTh hAs hS) rfl rfl hl.1 rfl (lv_room (Nat.le_of_ble_eq_true rfl)) d_Mo_file_10 ⟨Nat.le_of_ble_eq_true rfl, Nat.le_of_ble_eq_true rfl⟩) hP hD hK hS hA [] [0, 1] rfl rfl (by decide) (by decide) (fun r2 _ H locs er2 hP hD hK hS => ?_)
  have er2 : r2 = xOut 2 0 3 := er2
  subst er2
  have hK : va_K D cl [(cZ, .boolean)] s := hK
  have hP : va_P D cl [(mo, .inr (6, [.int 0, .int 0, .ref a1, .ref a2, .ref a3, .ref a4, .ref a5, .ref a6, .ref a7, .ref a8, .ref a9, .int 0, .ref a10, .ref a11, .ref a12, .ref a13, .ref a14, .ref a15, .int 0, .ref a16, .int 1, .int 1, .int 0, .ref a17, .ref a18, .ref a19, .int 0, .int 0, .int 0, .int 0])), (a13, .inl (cZ, 24, .inl (fun _ => 0)))] H := hP
  have hD : va_D A [(mo, .inr (6, [.int 0, .int 0, .ref a1, .ref a2, .ref a3, .ref a4, .ref a5, .ref a6, .ref a7, .ref a8, .ref a9, .int 0, .ref a10, .ref a11, .ref a12, .ref a13, .ref a14, .ref a15, .int 0, .ref a16, .int 1, .int 1, .int 0, .ref a17, .ref a18, .ref a19, .int 0, .int 0, .int 0, .int 0])), (a13, .inl (cZ, 24, .inl (fun _ => 0)))] := hD
  refine lv_if_eq (tgt := 22) hx hb d_Mo_file_13 (by decide) (fun b13 => ?_) (fun b13 => absurd (by decide) b13)
  refine lv_aload_n hx hb d_Mo_file_22 rfl (lv_at hl 0 rfl) ?_
  refine lv_iconst (v := 0) hx hb d_Mo_file_23 (by decide) ?_
  refine va_put (D := D) (ci := 6) (v := .int 0) (ty := .int) (C := R_Mo) (T := F_Mo) (N := 30) hx hb hts (fun w h => List.mem_cons_of_mem _ (u_Mo w h)) t_Mo o_Mo n_Mo hown hK hP hD hS 0 rfl rfl 0 (by decide) (hts _ (List.mem_cons_of_mem _ tw_665)) (fun _ h9 => h9) rfl (by decide +kernel) rfl rfl (Nat.le_of_ble_eq_true rfl) d_Mo_file_24 (fun H locs hP hD hS => ?_)
  have hP : va_P D cl [(mo, .inr (6, [.int 0, .int 0, .ref a1, .ref a2, .ref a3, .ref a4, .ref a5, .ref a6, .ref a7, .ref a8, .ref a9, .int 0, .ref a10, .ref a11, .ref a12, .ref a13, .ref a14, .ref a15, .int 0, .ref a16, .int 1, .int 1, .int 0, .ref a17, .ref a18, .ref a19, .int 0, .int 0, .int 0, .int 0])), (a13, .inl (cZ, 24, .inl (fun _ => 0)))] H := hP
  have hD : va_D A [(mo, .inr (6, [.int 0, .int 0, .ref a1, .ref a2, .ref a3, .ref a4, .ref a5, .ref a6, .ref a7, .ref a8, .ref a9, .int 0, .ref a10, .ref a11, .ref a12, .ref a13, .ref a14, .ref a15, .int 0, .ref a16, .int 1, .int 1, .int 0, .ref a17, .ref a18, .ref a19, .int 0, .int 0, .int 0, .int 0])), (a13, .inl (cZ, 24, .inl (fun _ => 0)))] := hD
  refine lv_iload_n hx hb d_Mo_file_27 rfl (lv_at hl 2 rfl) ?_
  refine lv_iconst (v := 1) hx hb d_Mo_file_28 (by decide) ?_
  refine lv_icmp_le (tgt := 43) hx hb d_Mo_file_29 (by decide) (fun b29 => absurd b29 (by decide)) (fun b29 => ?_)
  refine lv_aload_n hx hb d_Mo_file_32 rfl (lv_at hl 0 rfl) ?_
  refine va_get (D := D) (ci := 6) (v := .ref a13) (C := R_Mo) (T := F_Mo) (N := 30) hx hb hts (fun w h => List.mem_cons_of_mem _ (u_Mo w h)) hown hK hP 0 rfl rfl 15 (by decide) (hts _ (List.mem_cons_of_mem _ tw_680)) (fun _ h9 => h9) rfl d_Mo_file_33 ?_
  refine lv_iload_n hx hb d_Mo_file_36 rfl (lv_at hl 1 rfl) ?_
  refine va_zald hx hb hK hP 1 0 rfl rfl (xIn_in2 h (by decide) (by decide)) d_Mo_file_37 ?_
  refine xnum (v := 0) rfl ?_
  refine lv_if_ne (tgt := 43) hx hb d_Mo_file_38 (by decide) (fun b38 => absurd b38 (by decide)) (fun b38 => ?_)
  refine lv_iconst (v := (-1)) hx hb d_Mo_file_41 (by decide) ?_
  exact xri () B d_Mo_file_42 (rfl) (hP.sub (ws' := [(mo, .inr (6, [.int 0, .int 0, .ref a1, .ref a2, .ref a3, .ref a4, .ref a5, .ref a6, .ref a7, .ref a8, .ref a9, .int 0, .ref a10, .ref a11, .ref a12, .ref a13, .ref a14, .ref a15, .int 0, .ref a16, .int 1, .int 1, .int 0, .ref a17, .ref a18, .ref a19, .int 0, .int 0, .int 0, .int 0]))]) [0] rfl) (hK.sub (tys' := []) [] rfl) (hD.sub (ws' := [(mo, .inr (6, [.int 0, .int 0, .ref a1, .ref a2, .ref a3, .ref a4, .ref a5, .ref a6, .ref a7, .ref a8, .ref a9, .int 0, .ref a10, .ref a11, .ref a12, .ref a13, .ref a14, .ref a15, .int 0, .ref a16, .int 1, .int 1, .int 0, .ref a17, .ref a18, .ref a19, .int 0, .int 0, .int 0, .int 0]))]) [0] (by decide) rfl) hS (Nat.le_of_ble_eq_true rfl) (Nat.le_of_ble_eq_true rfl)
set_option maxRecDepth 20000 in
set_option maxHeartbeats 4000000 in
theorem c_Mo_file_3 (l : Launch) (D : va_G) (mo : Nat) (a13 : Nat) (a1 : Nat) (a2 : Nat) (a3 : Nat) (a4 : Nat) (a5 : Nat) (a6 : Nat) (a7 : Nat) (a8 : Nat) (a9 : Nat) (a10 : Nat) (a11 : Nat) (a12 : Nat) (a14 : Nat) (a15 : Nat) (a16 : Nat) (a17 : Nat) (a18 : Nat) (a19 : Nat) (cZ : ClassId) (x : Int32) (sz : Nat) (h : xIn x 0 23 = 1) : xMi l y_Mo_file w_Mo_file { frames := 2, cells := 0, slots := 0, locals := 60 } D cl [.ref mo, .int x, .int 3] sz [(cZ, .boolean)] [(mo, .inr (6, [.int 0, .int 0, .ref a1, .ref a2, .ref a3, .ref a4, .ref a5, .ref a6, .ref a7, .ref a8, .ref a9, .int 0, .ref a10, .ref a11, .ref a12, .ref a13, .ref a14, .ref a15, .int 0, .ref a16, .int 1, .int 1, .int 0, .ref a17, .ref a18, .ref a19, .int 0, .int 0, .int 0, .int 0])), (a13, .inl (cZ, 24, .inl (fun _ => 0)))] (fun (r : Int32) (_ : Unit) => r = (-1)) (fun _ => [(mo, .inr (6, [.int 0, .int 0, .ref a1, .ref a2, .ref a3, .ref a4, .ref a5, .ref a6, .ref a7, .ref a8, .ref a9, .int 0, .ref a10, .ref a11, .ref a12, .ref a13, .ref a14, .ref a15, .int 0, .ref a16, .int 1, .int 1, .int 0, .ref a17, .ref a18, .ref a19, .int 0, .int 0, .int 0, .int 0]))]) (fun _ => []) := by
  refine xMi_of (by decide +kernel) rfl (Nat.le_of_ble_eq_true rfl) ?_
  intro p e s m args below meth c ls A B hAe hA hsz hP hK hD hS hAm hTh hAs hl
  obtain ⟨⟨hx, hb, hml, hown, hts⟩, hret, hlk, hnm, hemp⟩ := id B
  have hl : lv_has ls 3 [(0, .ref mo), (1, .int x), (2, .int 3)] := hl
  refine lv_iload_n hx hb d_Mo_file_0 rfl (lv_at hl 1 rfl) ?_
  have hPc := hP.sub (ws' := []) [] rfl
  have hDc := hD.sub (ws' := []) [] (by decide) rfl
  have hKc := hK.sub (tys' := []) [] rfl
  refine xgi (wsC := []) (wr := [(mo, .inr (6, [.int 0, .int 0, .ref a1, .ref a2, .ref a3, .ref a4, .ref a5, .ref a6, .ref a7, .ref a8, .ref a9, .int 0, .ref a10, .ref a11, .ref a12, .ref a13, .ref a14, .ref a15, .int 0, .ref a16, .int 1, .int 1, .int 0, .ref a17, .ref a18, .ref a19, .int 0, .int 0, .int 0, .int 0])), (a13, .inl (cZ, 24, .inl (fun _ => 0)))]) (va_runS (As := [.int x]) (rest := []) ⟨hx, hb, hml, hown, hts⟩ (c_Mo_isFile l  D x _ ) ⟨(callB_of 1 hts (x_good k_Mo_isFile) rfl rfl rfl (hts _ (List.mem_cons_of_mem _ tw_8)) (hts _ (List.mem_cons_of_mem _ tw_772)) (by decide +kernel) ⟨Nat.le_of_ble_eq_true rfl, Nat.le_of_ble_eq_true rfl⟩), (hts _ (List.mem_cons_of_mem _ tw_773))⟩ (xP_S hPc hKc hDc hAm hTh hAs hS) rfl rfl hl.1 rfl (lv_room (Nat.le_of_ble_eq_true rfl)) d_Mo_file_1 ⟨Nat.le_of_ble_eq_true rfl, Nat.le_of_ble_eq_true rfl⟩) hP hD hK hS hA [] [0, 1] rfl rfl (by decide) (by decide) (fun r1 _ H locs er1 hP hD hK hS => ?_)
  have er1 : r1 = xIn x 0 23 := er1
  subst er1
  have hK : va_K D cl [(cZ, .boolean)] s := hK
  have hP : va_P D cl [(mo, .inr (6, [.int 0, .int 0, .ref a1, .ref a2, .ref a3, .ref a4, .ref a5, .ref a6, .ref a7, .ref a8, .ref a9, .int 0, .ref a10, .ref a11, .ref a12, .ref a13, .ref a14, .ref a15, .int 0, .ref a16, .int 1, .int 1, .int 0, .ref a17, .ref a18, .ref a19, .int 0, .int 0, .int 0, .int 0])), (a13, .inl (cZ, 24, .inl (fun _ => 0)))] H := hP
  have hD : va_D A [(mo, .inr (6, [.int 0, .int 0, .ref a1, .ref a2, .ref a3, .ref a4, .ref a5, .ref a6, .ref a7, .ref a8, .ref a9, .int 0, .ref a10, .ref a11, .ref a12, .ref a13, .ref a14, .ref a15, .int 0, .ref a16, .int 1, .int 1, .int 0, .ref a17, .ref a18, .ref a19, .int 0, .int 0, .int 0, .int 0])), (a13, .inl (cZ, 24, .inl (fun _ => 0)))] := hD
  refine lv_if_eq (tgt := 16) hx hb d_Mo_file_4 (by decide) (fun b4 => absurd b4 (xne1 h)) (fun b4 => ?_)
  refine lv_iload_n hx hb d_Mo_file_7 rfl (lv_at hl 2 rfl) ?_
  refine lv_iconst (v := 0) hx hb d_Mo_file_8 (by decide) ?_
  refine lv_iconst (v := 3) hx hb d_Mo_file_9 (by decide) ?_
  have hPc := hP.sub (ws' := []) [] rfl
  have hDc := hD.sub (ws' := []) [] (by decide) rfl
  have hKc := hK.sub (tys' := []) [] rfl
  refine xgi (wsC := []) (wr := [(mo, .inr (6, [.int 0, .int 0, .ref a1, .ref a2, .ref a3, .ref a4, .ref a5, .ref a6, .ref a7, .ref a8, .ref a9, .int 0, .ref a10, .ref a11, .ref a12, .ref a13, .ref a14, .ref a15, .int 0, .ref a16, .int 1, .int 1, .int 0, .ref a17, .ref a18, .ref a19, .int 0, .int 0, .int 0, .int 0])), (a13, .inl (cZ, 24, .inl (fun _ => 0)))]) (va_runS (As := [.int 3, .int 0, .int 3]) (rest := []) ⟨hx, hb, hml, hown, hts⟩ (c_Mo_outside l  D 3 0 3 _ ) ⟨(callB_of 3 hts (x_good k_Mo_outside) rfl rfl rfl (hts _ (List.mem_cons_of_mem _ tw_8)) (hts _ (List.mem_cons_of_mem _ tw_765)) (by decide +kernel) ⟨Nat.le_of_ble_eq_true rfl, Nat.le_of_ble_eq_true rfl⟩), (hts _ (List.mem_cons_of_mem _ tw_766))⟩ (xP_S hPc hKc hDc hAm hTh hAs hS) rfl rfl hl.1 rfl (lv_room (Nat.le_of_ble_eq_true rfl)) d_Mo_file_10 ⟨Nat.le_of_ble_eq_true rfl, Nat.le_of_ble_eq_true rfl⟩) hP hD hK hS hA [] [0, 1] rfl rfl (by decide) (by decide) (fun r2 _ H locs er2 hP hD hK hS => ?_)
  have er2 : r2 = xOut 3 0 3 := er2
  subst er2
  have hK : va_K D cl [(cZ, .boolean)] s := hK
  have hP : va_P D cl [(mo, .inr (6, [.int 0, .int 0, .ref a1, .ref a2, .ref a3, .ref a4, .ref a5, .ref a6, .ref a7, .ref a8, .ref a9, .int 0, .ref a10, .ref a11, .ref a12, .ref a13, .ref a14, .ref a15, .int 0, .ref a16, .int 1, .int 1, .int 0, .ref a17, .ref a18, .ref a19, .int 0, .int 0, .int 0, .int 0])), (a13, .inl (cZ, 24, .inl (fun _ => 0)))] H := hP
  have hD : va_D A [(mo, .inr (6, [.int 0, .int 0, .ref a1, .ref a2, .ref a3, .ref a4, .ref a5, .ref a6, .ref a7, .ref a8, .ref a9, .int 0, .ref a10, .ref a11, .ref a12, .ref a13, .ref a14, .ref a15, .int 0, .ref a16, .int 1, .int 1, .int 0, .ref a17, .ref a18, .ref a19, .int 0, .int 0, .int 0, .int 0])), (a13, .inl (cZ, 24, .inl (fun _ => 0)))] := hD
  refine lv_if_eq (tgt := 22) hx hb d_Mo_file_13 (by decide) (fun b13 => ?_) (fun b13 => absurd (by decide) b13)
  refine lv_aload_n hx hb d_Mo_file_22 rfl (lv_at hl 0 rfl) ?_
  refine lv_iconst (v := 0) hx hb d_Mo_file_23 (by decide) ?_
  refine va_put (D := D) (ci := 6) (v := .int 0) (ty := .int) (C := R_Mo) (T := F_Mo) (N := 30) hx hb hts (fun w h => List.mem_cons_of_mem _ (u_Mo w h)) t_Mo o_Mo n_Mo hown hK hP hD hS 0 rfl rfl 0 (by decide) (hts _ (List.mem_cons_of_mem _ tw_665)) (fun _ h9 => h9) rfl (by decide +kernel) rfl rfl (Nat.le_of_ble_eq_true rfl) d_Mo_file_24 (fun H locs hP hD hS => ?_)
  have hP : va_P D cl [(mo, .inr (6, [.int 0, .int 0, .ref a1, .ref a2, .ref a3, .ref a4, .ref a5, .ref a6, .ref a7, .ref a8, .ref a9, .int 0, .ref a10, .ref a11, .ref a12, .ref a13, .ref a14, .ref a15, .int 0, .ref a16, .int 1, .int 1, .int 0, .ref a17, .ref a18, .ref a19, .int 0, .int 0, .int 0, .int 0])), (a13, .inl (cZ, 24, .inl (fun _ => 0)))] H := hP
  have hD : va_D A [(mo, .inr (6, [.int 0, .int 0, .ref a1, .ref a2, .ref a3, .ref a4, .ref a5, .ref a6, .ref a7, .ref a8, .ref a9, .int 0, .ref a10, .ref a11, .ref a12, .ref a13, .ref a14, .ref a15, .int 0, .ref a16, .int 1, .int 1, .int 0, .ref a17, .ref a18, .ref a19, .int 0, .int 0, .int 0, .int 0])), (a13, .inl (cZ, 24, .inl (fun _ => 0)))] := hD
  refine lv_iload_n hx hb d_Mo_file_27 rfl (lv_at hl 2 rfl) ?_
  refine lv_iconst (v := 1) hx hb d_Mo_file_28 (by decide) ?_
  refine lv_icmp_le (tgt := 43) hx hb d_Mo_file_29 (by decide) (fun b29 => absurd b29 (by decide)) (fun b29 => ?_)
  refine lv_aload_n hx hb d_Mo_file_32 rfl (lv_at hl 0 rfl) ?_
  refine va_get (D := D) (ci := 6) (v := .ref a13) (C := R_Mo) (T := F_Mo) (N := 30) hx hb hts (fun w h => List.mem_cons_of_mem _ (u_Mo w h)) hown hK hP 0 rfl rfl 15 (by decide) (hts _ (List.mem_cons_of_mem _ tw_680)) (fun _ h9 => h9) rfl d_Mo_file_33 ?_
  refine lv_iload_n hx hb d_Mo_file_36 rfl (lv_at hl 1 rfl) ?_
  refine va_zald hx hb hK hP 1 0 rfl rfl (xIn_in2 h (by decide) (by decide)) d_Mo_file_37 ?_
  refine xnum (v := 0) rfl ?_
  refine lv_if_ne (tgt := 43) hx hb d_Mo_file_38 (by decide) (fun b38 => absurd b38 (by decide)) (fun b38 => ?_)
  refine lv_iconst (v := (-1)) hx hb d_Mo_file_41 (by decide) ?_
  exact xri () B d_Mo_file_42 (rfl) (hP.sub (ws' := [(mo, .inr (6, [.int 0, .int 0, .ref a1, .ref a2, .ref a3, .ref a4, .ref a5, .ref a6, .ref a7, .ref a8, .ref a9, .int 0, .ref a10, .ref a11, .ref a12, .ref a13, .ref a14, .ref a15, .int 0, .ref a16, .int 1, .int 1, .int 0, .ref a17, .ref a18, .ref a19, .int 0, .int 0, .int 0, .int 0]))]) [0] rfl) (hK.sub (tys' := []) [] rfl) (hD.sub (ws' := [(mo, .inr (6, [.int 0, .int 0, .ref a1, .ref a2, .ref a3, .ref a4, .ref a5, .ref a6, .ref a7, .ref a8, .ref a9, .int 0, .ref a10, .ref a11, .ref a12, .ref a13, .ref a14, .ref a15, .int 0, .ref a16, .int 1, .int 1, .int 0, .ref a17, .ref a18, .ref a19, .int 0, .int 0, .int 0, .int 0]))]) [0] (by decide) rfl) hS (Nat.le_of_ble_eq_true rfl) (Nat.le_of_ble_eq_true rfl)
theorem d_Mo_file_16 : decode b_Mo_file 16 = .ok (.aload_n 0, 1) := by decide +kernel
theorem d_Mo_file_17 : decode b_Mo_file 17 = .ok (.iconst (1), 1) := by decide +kernel
theorem d_Mo_file_18 : decode b_Mo_file 18 = .ok (.invokevirtual 147, 3) := by decide +kernel
theorem d_Mo_file_21 : decode b_Mo_file 21 = .ok (.ireturn, 1) := by decide +kernel
set_option maxRecDepth 20000 in
set_option maxHeartbeats 4000000 in
theorem c_Mo_file_t (l : Launch) (D : va_G) (mo : Nat) (a1 : Nat) (a2 : Nat) (a3 : Nat) (a4 : Nat) (a5 : Nat) (a6 : Nat) (a7 : Nat) (a8 : Nat) (a9 : Nat) (a10 : Nat) (a11 : Nat) (a12 : Nat) (a13 : Nat) (a14 : Nat) (a15 : Nat) (a16 : Nat) (a17 : Nat) (a18 : Nat) (a19 : Nat) (x : Int32) (y : Int32) (sz : Nat) (h : ¬ (xIn x 0 23 = 1 ∧ xIn y 0 3 = 1)) : xMi l y_Mo_file w_Mo_file { frames := 2, cells := 0, slots := 0, locals := 60 } D cl [.ref mo, .int x, .int y] sz [] [(mo, .inr (6, [.int 0, .int 0, .ref a1, .ref a2, .ref a3, .ref a4, .ref a5, .ref a6, .ref a7, .ref a8, .ref a9, .int 0, .ref a10, .ref a11, .ref a12, .ref a13, .ref a14, .ref a15, .int 0, .ref a16, .int 1, .int 1, .int 0, .ref a17, .ref a18, .ref a19, .int 0, .int 0, .int 0, .int 0]))] (fun (r : Int32) (_ : Unit) => r = 0) (fun _ => [(mo, .inr (6, [.int 1, .int 0, .ref a1, .ref a2, .ref a3, .ref a4, .ref a5, .ref a6, .ref a7, .ref a8, .ref a9, .int 0, .ref a10, .ref a11, .ref a12, .ref a13, .ref a14, .ref a15, .int 0, .ref a16, .int 1, .int 1, .int 0, .ref a17, .ref a18, .ref a19, .int 0, .int 0, .int 0, .int 0]))]) (fun _ => []) := by
  refine xMi_of (by decide +kernel) rfl (Nat.le_of_ble_eq_true rfl) ?_
  intro p e s m args below meth c ls A B hAe hA hsz hP hK hD hS hAm hTh hAs hl
  obtain ⟨⟨hx, hb, hml, hown, hts⟩, hret, hlk, hnm, hemp⟩ := id B
  have hl : lv_has ls 3 [(0, .ref mo), (1, .int x), (2, .int y)] := hl
  refine lv_iload_n hx hb d_Mo_file_0 rfl (lv_at hl 1 rfl) ?_
  have hPc := hP.sub (ws' := []) [] rfl
  have hDc := hD.sub (ws' := []) [] (by decide) rfl
  have hKc := hK.sub (tys' := []) [] rfl
  refine xgi (wsC := []) (wr := [(mo, .inr (6, [.int 0, .int 0, .ref a1, .ref a2, .ref a3, .ref a4, .ref a5, .ref a6, .ref a7, .ref a8, .ref a9, .int 0, .ref a10, .ref a11, .ref a12, .ref a13, .ref a14, .ref a15, .int 0, .ref a16, .int 1, .int 1, .int 0, .ref a17, .ref a18, .ref a19, .int 0, .int 0, .int 0, .int 0]))]) (va_runS (As := [.int x]) (rest := []) ⟨hx, hb, hml, hown, hts⟩ (c_Mo_isFile l  D x _ ) ⟨(callB_of 1 hts (x_good k_Mo_isFile) rfl rfl rfl (hts _ (List.mem_cons_of_mem _ tw_8)) (hts _ (List.mem_cons_of_mem _ tw_772)) (by decide +kernel) ⟨Nat.le_of_ble_eq_true rfl, Nat.le_of_ble_eq_true rfl⟩), (hts _ (List.mem_cons_of_mem _ tw_773))⟩ (xP_S hPc hKc hDc hAm hTh hAs hS) rfl rfl hl.1 rfl (lv_room (Nat.le_of_ble_eq_true rfl)) d_Mo_file_1 ⟨Nat.le_of_ble_eq_true rfl, Nat.le_of_ble_eq_true rfl⟩) hP hD hK hS hA [] [0] rfl rfl (by decide) (by decide) (fun r1 _ H locs er1 hP hD hK hS => ?_)
  have er1 : r1 = xIn x 0 23 := er1
  subst er1
  have hK : va_K D cl [] s := hK
  have hP : va_P D cl [(mo, .inr (6, [.int 0, .int 0, .ref a1, .ref a2, .ref a3, .ref a4, .ref a5, .ref a6, .ref a7, .ref a8, .ref a9, .int 0, .ref a10, .ref a11, .ref a12, .ref a13, .ref a14, .ref a15, .int 0, .ref a16, .int 1, .int 1, .int 0, .ref a17, .ref a18, .ref a19, .int 0, .int 0, .int 0, .int 0]))] H := hP
  have hD : va_D A [(mo, .inr (6, [.int 0, .int 0, .ref a1, .ref a2, .ref a3, .ref a4, .ref a5, .ref a6, .ref a7, .ref a8, .ref a9, .int 0, .ref a10, .ref a11, .ref a12, .ref a13, .ref a14, .ref a15, .int 0, .ref a16, .int 1, .int 1, .int 0, .ref a17, .ref a18, .ref a19, .int 0, .int 0, .int 0, .int 0]))] := hD
  refine lv_if_eq (tgt := 16) hx hb d_Mo_file_4 (by decide) (fun b4 => ?_) (fun b4 => ?_)
  · refine lv_aload_n hx hb d_Mo_file_16 rfl (lv_at hl 0 rfl) ?_
    refine lv_iconst (v := 1) hx hb d_Mo_file_17 (by decide) ?_
    have hPc := hP.sub (ws' := [(mo, .inr (6, [.int 0, .int 0, .ref a1, .ref a2, .ref a3, .ref a4, .ref a5, .ref a6, .ref a7, .ref a8, .ref a9, .int 0, .ref a10, .ref a11, .ref a12, .ref a13, .ref a14, .ref a15, .int 0, .ref a16, .int 1, .int 1, .int 0, .ref a17, .ref a18, .ref a19, .int 0, .int 0, .int 0, .int 0]))]) [0] rfl
    have hDc := hD.sub (ws' := [(mo, .inr (6, [.int 0, .int 0, .ref a1, .ref a2, .ref a3, .ref a4, .ref a5, .ref a6, .ref a7, .ref a8, .ref a9, .int 0, .ref a10, .ref a11, .ref a12, .ref a13, .ref a14, .ref a15, .int 0, .ref a16, .int 1, .int 1, .int 0, .ref a17, .ref a18, .ref a19, .int 0, .int 0, .int 0, .int 0]))]) [0] (by decide) rfl
    have hKc := hK.sub (tys' := []) [] rfl
    refine xgi (wsC := [(mo, .inr (6, [.int 0, .int 0, .ref a1, .ref a2, .ref a3, .ref a4, .ref a5, .ref a6, .ref a7, .ref a8, .ref a9, .int 0, .ref a10, .ref a11, .ref a12, .ref a13, .ref a14, .ref a15, .int 0, .ref a16, .int 1, .int 1, .int 0, .ref a17, .ref a18, .ref a19, .int 0, .int 0, .int 0, .int 0]))]) (wr := []) (va_runV (As := [.int 1]) (rest := []) ⟨hx, hb, hml, hown, hts⟩ (c_Mo_refuse l  D mo a1 a2 a3 a4 a5 a6 a7 a8 a9 a10 a11 a12 a13 a14 a15 a16 a17 a18 a19 1 _ ) ⟨(callB_of 1 hts (x_good k_Mo_refuse) rfl rfl rfl (hts _ (List.mem_cons_of_mem _ tw_8)) (hts _ (List.mem_cons_of_mem _ tw_839)) (by decide +kernel) ⟨Nat.le_of_ble_eq_true rfl, Nat.le_of_ble_eq_true rfl⟩), (hts _ (List.mem_cons_of_mem _ tw_841)), (hts _ (List.mem_cons_of_mem _ (x_sel 63 rfl)))⟩ (xP_V (va_recv (ci := 6) (q0 := 0) hK hP rfl rfl) hPc hKc hDc hAm hTh hAs hS) rfl rfl hl.1 rfl (lv_room (Nat.le_of_ble_eq_true rfl)) d_Mo_file_18 ⟨Nat.le_of_ble_eq_true rfl, Nat.le_of_ble_eq_true rfl⟩) hP hD hK hS hA [0] [] rfl rfl (by decide) (by decide) (fun r2 _ H locs er2 hP hD hK hS => ?_)
    have er2 : r2 = 0 := er2
    subst er2
    have hK : va_K D cl [] s := hK
    have hP : va_P D cl [(mo, .inr (6, [.int 1, .int 0, .ref a1, .ref a2, .ref a3, .ref a4, .ref a5, .ref a6, .ref a7, .ref a8, .ref a9, .int 0, .ref a10, .ref a11, .ref a12, .ref a13, .ref a14, .ref a15, .int 0, .ref a16, .int 1, .int 1, .int 0, .ref a17, .ref a18, .ref a19, .int 0, .int 0, .int 0, .int 0]))] H := hP
    have hD : va_D A [(mo, .inr (6, [.int 1, .int 0, .ref a1, .ref a2, .ref a3, .ref a4, .ref a5, .ref a6, .ref a7, .ref a8, .ref a9, .int 0, .ref a10, .ref a11, .ref a12, .ref a13, .ref a14, .ref a15, .int 0, .ref a16, .int 1, .int 1, .int 0, .ref a17, .ref a18, .ref a19, .int 0, .int 0, .int 0, .int 0]))] := hD
    exact xri () B d_Mo_file_21 (rfl) (hP.sub (ws' := [(mo, .inr (6, [.int 1, .int 0, .ref a1, .ref a2, .ref a3, .ref a4, .ref a5, .ref a6, .ref a7, .ref a8, .ref a9, .int 0, .ref a10, .ref a11, .ref a12, .ref a13, .ref a14, .ref a15, .int 0, .ref a16, .int 1, .int 1, .int 0, .ref a17, .ref a18, .ref a19, .int 0, .int 0, .int 0, .int 0]))]) [0] rfl) (hK.sub (tys' := []) [] rfl) (hD.sub (ws' := [(mo, .inr (6, [.int 1, .int 0, .ref a1, .ref a2, .ref a3, .ref a4, .ref a5, .ref a6, .ref a7, .ref a8, .ref a9, .int 0, .ref a10, .ref a11, .ref a12, .ref a13, .ref a14, .ref a15, .int 0, .ref a16, .int 1, .int 1, .int 0, .ref a17, .ref a18, .ref a19, .int 0, .int 0, .int 0, .int 0]))]) [0] (by decide) rfl) hS (Nat.le_of_ble_eq_true rfl) (Nat.le_of_ble_eq_true rfl)
  · refine lv_iload_n hx hb d_Mo_file_7 rfl (lv_at hl 2 rfl) ?_
    refine lv_iconst (v := 0) hx hb d_Mo_file_8 (by decide) ?_
    refine lv_iconst (v := 3) hx hb d_Mo_file_9 (by decide) ?_
    have hPc := hP.sub (ws' := []) [] rfl
    have hDc := hD.sub (ws' := []) [] (by decide) rfl
    have hKc := hK.sub (tys' := []) [] rfl
    refine xgi (wsC := []) (wr := [(mo, .inr (6, [.int 0, .int 0, .ref a1, .ref a2, .ref a3, .ref a4, .ref a5, .ref a6, .ref a7, .ref a8, .ref a9, .int 0, .ref a10, .ref a11, .ref a12, .ref a13, .ref a14, .ref a15, .int 0, .ref a16, .int 1, .int 1, .int 0, .ref a17, .ref a18, .ref a19, .int 0, .int 0, .int 0, .int 0]))]) (va_runS (As := [.int y, .int 0, .int 3]) (rest := []) ⟨hx, hb, hml, hown, hts⟩ (c_Mo_outside l  D y 0 3 _ ) ⟨(callB_of 3 hts (x_good k_Mo_outside) rfl rfl rfl (hts _ (List.mem_cons_of_mem _ tw_8)) (hts _ (List.mem_cons_of_mem _ tw_765)) (by decide +kernel) ⟨Nat.le_of_ble_eq_true rfl, Nat.le_of_ble_eq_true rfl⟩), (hts _ (List.mem_cons_of_mem _ tw_766))⟩ (xP_S hPc hKc hDc hAm hTh hAs hS) rfl rfl hl.1 rfl (lv_room (Nat.le_of_ble_eq_true rfl)) d_Mo_file_10 ⟨Nat.le_of_ble_eq_true rfl, Nat.le_of_ble_eq_true rfl⟩) hP hD hK hS hA [] [0] rfl rfl (by decide) (by decide) (fun r3 _ H locs er3 hP hD hK hS => ?_)
    have er3 : r3 = xOut y 0 3 := er3
    subst er3
    have hK : va_K D cl [] s := hK
    have hP : va_P D cl [(mo, .inr (6, [.int 0, .int 0, .ref a1, .ref a2, .ref a3, .ref a4, .ref a5, .ref a6, .ref a7, .ref a8, .ref a9, .int 0, .ref a10, .ref a11, .ref a12, .ref a13, .ref a14, .ref a15, .int 0, .ref a16, .int 1, .int 1, .int 0, .ref a17, .ref a18, .ref a19, .int 0, .int 0, .int 0, .int 0]))] H := hP
    have hD : va_D A [(mo, .inr (6, [.int 0, .int 0, .ref a1, .ref a2, .ref a3, .ref a4, .ref a5, .ref a6, .ref a7, .ref a8, .ref a9, .int 0, .ref a10, .ref a11, .ref a12, .ref a13, .ref a14, .ref a15, .int 0, .ref a16, .int 1, .int 1, .int 0, .ref a17, .ref a18, .ref a19, .int 0, .int 0, .int 0, .int 0]))] := hD
    refine lv_if_eq (tgt := 22) hx hb d_Mo_file_13 (by decide) (fun b13 => ?_) (fun b13 => ?_)
    · exact absurd ⟨xne0 (xIn_bin _ _ _) b4, xI1 b13⟩ h
    · refine lv_aload_n hx hb d_Mo_file_16 rfl (lv_at hl 0 rfl) ?_
      refine lv_iconst (v := 1) hx hb d_Mo_file_17 (by decide) ?_
      have hPc := hP.sub (ws' := [(mo, .inr (6, [.int 0, .int 0, .ref a1, .ref a2, .ref a3, .ref a4, .ref a5, .ref a6, .ref a7, .ref a8, .ref a9, .int 0, .ref a10, .ref a11, .ref a12, .ref a13, .ref a14, .ref a15, .int 0, .ref a16, .int 1, .int 1, .int 0, .ref a17, .ref a18, .ref a19, .int 0, .int 0, .int 0, .int 0]))]) [0] rfl
      have hDc := hD.sub (ws' := [(mo, .inr (6, [.int 0, .int 0, .ref a1, .ref a2, .ref a3, .ref a4, .ref a5, .ref a6, .ref a7, .ref a8, .ref a9, .int 0, .ref a10, .ref a11, .ref a12, .ref a13, .ref a14, .ref a15, .int 0, .ref a16, .int 1, .int 1, .int 0, .ref a17, .ref a18, .ref a19, .int 0, .int 0, .int 0, .int 0]))]) [0] (by decide) rfl
      have hKc := hK.sub (tys' := []) [] rfl
      refine xgi (wsC := [(mo, .inr (6, [.int 0, .int 0, .ref a1, .ref a2, .ref a3, .ref a4, .ref a5, .ref a6, .ref a7, .ref a8, .ref a9, .int 0, .ref a10, .ref a11, .ref a12, .ref a13, .ref a14, .ref a15, .int 0, .ref a16, .int 1, .int 1, .int 0, .ref a17, .ref a18, .ref a19, .int 0, .int 0, .int 0, .int 0]))]) (wr := []) (va_runV (As := [.int 1]) (rest := []) ⟨hx, hb, hml, hown, hts⟩ (c_Mo_refuse l  D mo a1 a2 a3 a4 a5 a6 a7 a8 a9 a10 a11 a12 a13 a14 a15 a16 a17 a18 a19 1 _ ) ⟨(callB_of 1 hts (x_good k_Mo_refuse) rfl rfl rfl (hts _ (List.mem_cons_of_mem _ tw_8)) (hts _ (List.mem_cons_of_mem _ tw_839)) (by decide +kernel) ⟨Nat.le_of_ble_eq_true rfl, Nat.le_of_ble_eq_true rfl⟩), (hts _ (List.mem_cons_of_mem _ tw_841)), (hts _ (List.mem_cons_of_mem _ (x_sel 63 rfl)))⟩ (xP_V (va_recv (ci := 6) (q0 := 0) hK hP rfl rfl) hPc hKc hDc hAm hTh hAs hS) rfl rfl hl.1 rfl (lv_room (Nat.le_of_ble_eq_true rfl)) d_Mo_file_18 ⟨Nat.le_of_ble_eq_true rfl, Nat.le_of_ble_eq_true rfl⟩) hP hD hK hS hA [0] [] rfl rfl (by decide) (by decide) (fun r4 _ H locs er4 hP hD hK hS => ?_)
      have er4 : r4 = 0 := er4
      subst er4
      have hK : va_K D cl [] s := hK
      have hP : va_P D cl [(mo, .inr (6, [.int 1, .int 0, .ref a1, .ref a2, .ref a3, .ref a4, .ref a5, .ref a6, .ref a7, .ref a8, .ref a9, .int 0, .ref a10, .ref a11, .ref a12, .ref a13, .ref a14, .ref a15, .int 0, .ref a16, .int 1, .int 1, .int 0, .ref a17, .ref a18, .ref a19, .int 0, .int 0, .int 0, .int 0]))] H := hP
      have hD : va_D A [(mo, .inr (6, [.int 1, .int 0, .ref a1, .ref a2, .ref a3, .ref a4, .ref a5, .ref a6, .ref a7, .ref a8, .ref a9, .int 0, .ref a10, .ref a11, .ref a12, .ref a13, .ref a14, .ref a15, .int 0, .ref a16, .int 1, .int 1, .int 0, .ref a17, .ref a18, .ref a19, .int 0, .int 0, .int 0, .int 0]))] := hD
      exact xri () B d_Mo_file_21 (rfl) (hP.sub (ws' := [(mo, .inr (6, [.int 1, .int 0, .ref a1, .ref a2, .ref a3, .ref a4, .ref a5, .ref a6, .ref a7, .ref a8, .ref a9, .int 0, .ref a10, .ref a11, .ref a12, .ref a13, .ref a14, .ref a15, .int 0, .ref a16, .int 1, .int 1, .int 0, .ref a17, .ref a18, .ref a19, .int 0, .int 0, .int 0, .int 0]))]) [0] rfl) (hK.sub (tys' := []) [] rfl) (hD.sub (ws' := [(mo, .inr (6, [.int 1, .int 0, .ref a1, .ref a2, .ref a3, .ref a4, .ref a5, .ref a6, .ref a7, .ref a8, .ref a9, .int 0, .ref a10, .ref a11, .ref a12, .ref a13, .ref a14, .ref a15, .int 0, .ref a16, .int 1, .int 1, .int 0, .ref a17, .ref a18, .ref a19, .int 0, .int 0, .int 0, .int 0]))]) [0] (by decide) rfl) hS (Nat.le_of_ble_eq_true rfl) (Nat.le_of_ble_eq_true rfl)
theorem d_Mo_log_0 : decode b_Mo_log 0 = .ok (.aload_n 0, 1) := by decide +kernel
theorem d_Mo_log_1 : decode b_Mo_log 1 = .ok (.iconst (0), 1) := by decide +kernel
theorem d_Mo_log_2 : decode b_Mo_log 2 = .ok (.putfield 75, 3) := by decide +kernel
theorem d_Mo_log_5 : decode b_Mo_log 5 = .ok (.iload_n 1, 1) := by decide +kernel
theorem d_Mo_log_6 : decode b_Mo_log 6 = .ok (.iconst (0), 1) := by decide +kernel
theorem d_Mo_log_7 : decode b_Mo_log 7 = .ok (.aload_n 0, 1) := by decide +kernel
theorem d_Mo_log_8 : decode b_Mo_log 8 = .ok (.getfield 187, 3) := by decide +kernel
theorem d_Mo_log_11 : decode b_Mo_log 11 = .ok (.iconst (1), 1) := by decide +kernel
theorem d_Mo_log_12 : decode b_Mo_log 12 = .ok (.isub, 1) := by decide +kernel
theorem d_Mo_log_13 : decode b_Mo_log 13 = .ok (.invokestatic 82, 3) := by decide +kernel
theorem d_Mo_log_16 : decode b_Mo_log 16 = .ok (.ifCond .eq (7), 3) := by decide +kernel
theorem d_Mo_log_19 : decode b_Mo_log 19 = .ok (.iconst (-1), 1) := by decide +kernel
theorem d_Mo_log_20 : decode b_Mo_log 20 = .ok (.goto (9), 3) := by decide +kernel
theorem d_Mo_log_29 : decode b_Mo_log 29 = .ok (.ireturn, 1) := by decide +kernel
set_option maxRecDepth 20000 in
set_option maxHeartbeats 4000000 in
theorem c_Mo_log (l : Launch) (D : va_G) (mo : Nat) (a1 : Nat) (a2 : Nat) (a3 : Nat) (a4 : Nat) (a5 : Nat) (a6 : Nat) (a7 : Nat) (a8 : Nat) (a9 : Nat) (a10 : Nat) (a11 : Nat) (a12 : Nat) (a13 : Nat) (a14 : Nat) (a15 : Nat) (a16 : Nat) (a17 : Nat) (a18 : Nat) (a19 : Nat) (x : Int32) (sz : Nat)  : xMi l y_Mo_log w_Mo_log { frames := 2, cells := 0, slots := 0, locals := 60 } D cl [.ref mo, .int x] sz [] [(mo, .inr (6, [.int 0, .int 0, .ref a1, .ref a2, .ref a3, .ref a4, .ref a5, .ref a6, .ref a7, .ref a8, .ref a9, .int 0, .ref a10, .ref a11, .ref a12, .ref a13, .ref a14, .ref a15, .int 0, .ref a16, .int 1, .int 1, .int 0, .ref a17, .ref a18, .ref a19, .int 0, .int 0, .int 0, .int 0]))] (fun (r : Int32) (_ : Unit) => r = (-1)) (fun _ => []) (fun _ => []) := by
  refine xMi_of (by decide +kernel) rfl (Nat.le_of_ble_eq_true rfl) ?_
  intro p e s m args below meth c ls A B hAe hA hsz hP hK hD hS hAm hTh hAs hl
  obtain ⟨⟨hx, hb, hml, hown, hts⟩, hret, hlk, hnm, hemp⟩ := id B
  have hl : lv_has ls 2 [(0, .ref mo), (1, .int x)] := hl
  refine lv_aload_n hx hb d_Mo_log_0 rfl (lv_at hl 0 rfl) ?_
  refine lv_iconst (v := 0) hx hb d_Mo_log_1 (by decide) ?_
  refine va_put (D := D) (ci := 6) (v := .int 0) (ty := .int) (C := R_Mo) (T := F_Mo) (N := 30) hx hb hts (fun w h => List.mem_cons_of_mem _ (u_Mo w h)) t_Mo o_Mo n_Mo hown hK hP hD hS 0 rfl rfl 0 (by decide) (hts _ (List.mem_cons_of_mem _ tw_665)) (fun _ h9 => h9) rfl (by decide +kernel) rfl rfl (Nat.le_of_ble_eq_true rfl) d_Mo_log_2 (fun H locs hP hD hS => ?_)
  have hP : va_P D cl [(mo, .inr (6, [.int 0, .int 0, .ref a1, .ref a2, .ref a3, .ref a4, .ref a5, .ref a6, .ref a7, .ref a8, .ref a9, .int 0, .ref a10, .ref a11, .ref a12, .ref a13, .ref a14, .ref a15, .int 0, .ref a16, .int 1, .int 1, .int 0, .ref a17, .ref a18, .ref a19, .int 0, .int 0, .int 0, .int 0]))] H := hP
  have hD : va_D A [(mo, .inr (6, [.int 0, .int 0, .ref a1, .ref a2, .ref a3, .ref a4, .ref a5, .ref a6, .ref a7, .ref a8, .ref a9, .int 0, .ref a10, .ref a11, .ref a12, .ref a13, .ref a14, .ref a15, .int 0, .ref a16, .int 1, .int 1, .int 0, .ref a17, .ref a18, .ref a19, .int 0, .int 0, .int 0, .int 0]))] := hD
  refine lv_iload_n hx hb d_Mo_log_5 rfl (lv_at hl 1 rfl) ?_
  refine lv_iconst (v := 0) hx hb d_Mo_log_6 (by decide) ?_
  refine lv_aload_n hx hb d_Mo_log_7 rfl (lv_at hl 0 rfl) ?_
  refine va_get (D := D) (ci := 6) (v := .int 0) (C := R_Mo) (T := F_Mo) (N := 30) hx hb hts (fun w h => List.mem_cons_of_mem _ (u_Mo w h)) hown hK hP 0 rfl rfl 18 (by decide) (hts _ (List.mem_cons_of_mem _ tw_683)) (fun _ h9 => h9) rfl d_Mo_log_8 ?_
  refine lv_iconst (v := 1) hx hb d_Mo_log_11 (by decide) ?_
  refine lv_isub hx hb d_Mo_log_12 ?_
  refine xnum (v := (-1)) (by decide) ?_
  have hPc := hP.sub (ws' := []) [] rfl
  have hDc := hD.sub (ws' := []) [] (by decide) rfl
  have hKc := hK.sub (tys' := []) [] rfl
  refine xgi (wsC := []) (wr := [(mo, .inr (6, [.int 0, .int 0, .ref a1, .ref a2, .ref a3, .ref a4, .ref a5, .ref a6, .ref a7, .ref a8, .ref a9, .int 0, .ref a10, .ref a11, .ref a12, .ref a13, .ref a14, .ref a15, .int 0, .ref a16, .int 1, .int 1, .int 0, .ref a17, .ref a18, .ref a19, .int 0, .int 0, .int 0, .int 0]))]) (va_runS (As := [.int x, .int 0, .int (-1)]) (rest := []) ⟨hx, hb, hml, hown, hts⟩ (c_Mo_outside l  D x 0 (-1) _ ) ⟨(callB_of 3 hts (x_good k_Mo_outside) rfl rfl rfl (hts _ (List.mem_cons_of_mem _ tw_8)) (hts _ (List.mem_cons_of_mem _ tw_765)) (by decide +kernel) ⟨Nat.le_of_ble_eq_true rfl, Nat.le_of_ble_eq_true rfl⟩), (hts _ (List.mem_cons_of_mem _ tw_766))⟩ (xP_S hPc hKc hDc hAm hTh hAs hS) rfl rfl hl.1 rfl (lv_room (Nat.le_of_ble_eq_true rfl)) d_Mo_log_13 ⟨Nat.le_of_ble_eq_true rfl, Nat.le_of_ble_eq_true rfl⟩) hP hD hK hS hA [] [0] rfl rfl (by decide) (by decide) (fun r1 _ H locs er1 hP hD hK hS => ?_)
  have er1 : r1 = xOut x 0 (-1) := er1
  subst er1
  have hK : va_K D cl [] s := hK
  have hP : va_P D cl [(mo, .inr (6, [.int 0, .int 0, .ref a1, .ref a2, .ref a3, .ref a4, .ref a5, .ref a6, .ref a7, .ref a8, .ref a9, .int 0, .ref a10, .ref a11, .ref a12, .ref a13, .ref a14, .ref a15, .int 0, .ref a16, .int 1, .int 1, .int 0, .ref a17, .ref a18, .ref a19, .int 0, .int 0, .int 0, .int 0]))] H := hP
  have hD : va_D A [(mo, .inr (6, [.int 0, .int 0, .ref a1, .ref a2, .ref a3, .ref a4, .ref a5, .ref a6, .ref a7, .ref a8, .ref a9, .int 0, .ref a10, .ref a11, .ref a12, .ref a13, .ref a14, .ref a15, .int 0, .ref a16, .int 1, .int 1, .int 0, .ref a17, .ref a18, .ref a19, .int 0, .int 0, .int 0, .int 0]))] := hD
  refine lv_if_eq (tgt := 23) hx hb d_Mo_log_16 (by decide) (fun b16 => absurd ((xOut_none x).symm.trans b16) (by decide)) (fun b16 => ?_)
  refine lv_iconst (v := (-1)) hx hb d_Mo_log_19 (by decide) ?_
  refine lv_goto (tgt := 29) hx hb d_Mo_log_20 (by decide) ?_
  exact xri () B d_Mo_log_29 (rfl) (hP.sub (ws' := []) [] rfl) (hK.sub (tys' := []) [] rfl) (hD.sub (ws' := []) [] (by decide) rfl) hS (Nat.le_of_ble_eq_true rfl) (Nat.le_of_ble_eq_true rfl)
theorem d_Mo_spoil_0 : decode b_Mo_spoil 0 = .ok (.aload_n 0, 1) := by decide +kernel
theorem d_Mo_spoil_1 : decode b_Mo_spoil 1 = .ok (.iconst (0), 1) := by decide +kernel
theorem d_Mo_spoil_2 : decode b_Mo_spoil 2 = .ok (.putfield 75, 3) := by decide +kernel
theorem d_Mo_spoil_5 : decode b_Mo_spoil 5 = .ok (.iload_n 1, 1) := by decide +kernel
theorem d_Mo_spoil_6 : decode b_Mo_spoil 6 = .ok (.iconst (0), 1) := by decide +kernel
theorem d_Mo_spoil_7 : decode b_Mo_spoil 7 = .ok (.aload_n 0, 1) := by decide +kernel
theorem d_Mo_spoil_8 : decode b_Mo_spoil 8 = .ok (.getfield 187, 3) := by decide +kernel
theorem d_Mo_spoil_11 : decode b_Mo_spoil 11 = .ok (.iconst (1), 1) := by decide +kernel
theorem d_Mo_spoil_12 : decode b_Mo_spoil 12 = .ok (.isub, 1) := by decide +kernel
theorem d_Mo_spoil_13 : decode b_Mo_spoil 13 = .ok (.invokestatic 82, 3) := by decide +kernel
theorem d_Mo_spoil_16 : decode b_Mo_spoil 16 = .ok (.ifCond .eq (5), 3) := by decide +kernel
theorem d_Mo_spoil_19 : decode b_Mo_spoil 19 = .ok (.iconst (0), 1) := by decide +kernel
theorem d_Mo_spoil_20 : decode b_Mo_spoil 20 = .ok (.ireturn, 1) := by decide +kernel
set_option maxRecDepth 20000 in
set_option maxHeartbeats 4000000 in
theorem c_Mo_spoil (l : Launch) (D : va_G) (mo : Nat) (a1 : Nat) (a2 : Nat) (a3 : Nat) (a4 : Nat) (a5 : Nat) (a6 : Nat) (a7 : Nat) (a8 : Nat) (a9 : Nat) (a10 : Nat) (a11 : Nat) (a12 : Nat) (a13 : Nat) (a14 : Nat) (a15 : Nat) (a16 : Nat) (a17 : Nat) (a18 : Nat) (a19 : Nat) (x : Int32) (y : Int32) (sz : Nat)  : xMi l y_Mo_spoil w_Mo_spoil { frames := 2, cells := 0, slots := 0, locals := 60 } D cl [.ref mo, .int x, .int y] sz [] [(mo, .inr (6, [.int 0, .int 0, .ref a1, .ref a2, .ref a3, .ref a4, .ref a5, .ref a6, .ref a7, .ref a8, .ref a9, .int 0, .ref a10, .ref a11, .ref a12, .ref a13, .ref a14, .ref a15, .int 0, .ref a16, .int 1, .int 1, .int 0, .ref a17, .ref a18, .ref a19, .int 0, .int 0, .int 0, .int 0]))] (fun (r : Int32) (_ : Unit) => r = 0) (fun _ => []) (fun _ => []) := by
  refine xMi_of (by decide +kernel) rfl (Nat.le_of_ble_eq_true rfl) ?_
  intro p e s m args below meth c ls A B hAe hA hsz hP hK hD hS hAm hTh hAs hl
  obtain ⟨⟨hx, hb, hml, hown, hts⟩, hret, hlk, hnm, hemp⟩ := id B
  have hl : lv_has ls 3 [(0, .ref mo), (1, .int x), (2, .int y)] := hl
  refine lv_aload_n hx hb d_Mo_spoil_0 rfl (lv_at hl 0 rfl) ?_
  refine lv_iconst (v := 0) hx hb d_Mo_spoil_1 (by decide) ?_
  refine va_put (D := D) (ci := 6) (v := .int 0) (ty := .int) (C := R_Mo) (T := F_Mo) (N := 30) hx hb hts (fun w h => List.mem_cons_of_mem _ (u_Mo w h)) t_Mo o_Mo n_Mo hown hK hP hD hS 0 rfl rfl 0 (by decide) (hts _ (List.mem_cons_of_mem _ tw_665)) (fun _ h9 => h9) rfl (by decide +kernel) rfl rfl (Nat.le_of_ble_eq_true rfl) d_Mo_spoil_2 (fun H locs hP hD hS => ?_)
  have hP : va_P D cl [(mo, .inr (6, [.int 0, .int 0, .ref a1, .ref a2, .ref a3, .ref a4, .ref a5, .ref a6, .ref a7, .ref a8, .ref a9, .int 0, .ref a10, .ref a11, .ref a12, .ref a13, .ref a14, .ref a15, .int 0, .ref a16, .int 1, .int 1, .int 0, .ref a17, .ref a18, .ref a19, .int 0, .int 0, .int 0, .int 0]))] H := hP
  have hD : va_D A [(mo, .inr (6, [.int 0, .int 0, .ref a1, .ref a2, .ref a3, .ref a4, .ref a5, .ref a6, .ref a7, .ref a8, .ref a9, .int 0, .ref a10, .ref a11, .ref a12, .ref a13, .ref a14, .ref a15, .int 0, .ref a16, .int 1, .int 1, .int 0, .ref a17, .ref a18, .ref a19, .int 0, .int 0, .int 0, .int 0]))] := hD
  refine lv_iload_n hx hb d_Mo_spoil_5 rfl (lv_at hl 1 rfl) ?_
  refine lv_iconst (v := 0) hx hb d_Mo_spoil_6 (by decide) ?_
  refine lv_aload_n hx hb d_Mo_spoil_7 rfl (lv_at hl 0 rfl) ?_
  refine va_get (D := D) (ci := 6) (v := .int 0) (C := R_Mo) (T := F_Mo) (N := 30) hx hb hts (fun w h => List.mem_cons_of_mem _ (u_Mo w h)) hown hK hP 0 rfl rfl 18 (by decide) (hts _ (List.mem_cons_of_mem _ tw_683)) (fun _ h9 => h9) rfl d_Mo_spoil_8 ?_
  refine lv_iconst (v := 1) hx hb d_Mo_spoil_11 (by decide) ?_
  refine lv_isub hx hb d_Mo_spoil_12 ?_
  refine xnum (v := (-1)) (by decide) ?_
  have hPc := hP.sub (ws' := []) [] rfl
  have hDc := hD.sub (ws' := []) [] (by decide) rfl
  have hKc := hK.sub (tys' := []) [] rfl
  refine xgi (wsC := []) (wr := [(mo, .inr (6, [.int 0, .int 0, .ref a1, .ref a2, .ref a3, .ref a4, .ref a5, .ref a6, .ref a7, .ref a8, .ref a9, .int 0, .ref a10, .ref a11, .ref a12, .ref a13, .ref a14, .ref a15, .int 0, .ref a16, .int 1, .int 1, .int 0, .ref a17, .ref a18, .ref a19, .int 0, .int 0, .int 0, .int 0]))]) (va_runS (As := [.int x, .int 0, .int (-1)]) (rest := []) ⟨hx, hb, hml, hown, hts⟩ (c_Mo_outside l  D x 0 (-1) _ ) ⟨(callB_of 3 hts (x_good k_Mo_outside) rfl rfl rfl (hts _ (List.mem_cons_of_mem _ tw_8)) (hts _ (List.mem_cons_of_mem _ tw_765)) (by decide +kernel) ⟨Nat.le_of_ble_eq_true rfl, Nat.le_of_ble_eq_true rfl⟩), (hts _ (List.mem_cons_of_mem _ tw_766))⟩ (xP_S hPc hKc hDc hAm hTh hAs hS) rfl rfl hl.1 rfl (lv_room (Nat.le_of_ble_eq_true rfl)) d_Mo_spoil_13 ⟨Nat.le_of_ble_eq_true rfl, Nat.le_of_ble_eq_true rfl⟩) hP hD hK hS hA [] [0] rfl rfl (by decide) (by decide) (fun r1 _ H locs er1 hP hD hK hS => ?_)
  have er1 : r1 = xOut x 0 (-1) := er1
  subst er1
  have hK : va_K D cl [] s := hK
  have hP : va_P D cl [(mo, .inr (6, [.int 0, .int 0, .ref a1, .ref a2, .ref a3, .ref a4, .ref a5, .ref a6, .ref a7, .ref a8, .ref a9, .int 0, .ref a10, .ref a11, .ref a12, .ref a13, .ref a14, .ref a15, .int 0, .ref a16, .int 1, .int 1, .int 0, .ref a17, .ref a18, .ref a19, .int 0, .int 0, .int 0, .int 0]))] H := hP
  have hD : va_D A [(mo, .inr (6, [.int 0, .int 0, .ref a1, .ref a2, .ref a3, .ref a4, .ref a5, .ref a6, .ref a7, .ref a8, .ref a9, .int 0, .ref a10, .ref a11, .ref a12, .ref a13, .ref a14, .ref a15, .int 0, .ref a16, .int 1, .int 1, .int 0, .ref a17, .ref a18, .ref a19, .int 0, .int 0, .int 0, .int 0]))] := hD
  refine lv_if_eq (tgt := 21) hx hb d_Mo_spoil_16 (by decide) (fun b16 => absurd ((xOut_none x).symm.trans b16) (by decide)) (fun b16 => ?_)
  refine lv_iconst (v := 0) hx hb d_Mo_spoil_19 (by decide) ?_
  exact xrz () B d_Mo_spoil_20 (rfl) (rfl) (hP.sub (ws' := []) [] rfl) (hK.sub (tys' := []) [] rfl) (hD.sub (ws' := []) [] (by decide) rfl) hS (Nat.le_of_ble_eq_true rfl) (Nat.le_of_ble_eq_true rfl)
theorem d_Mo_cut_0 : decode b_Mo_cut 0 = .ok (.aload_n 0, 1) := by decide +kernel
theorem d_Mo_cut_1 : decode b_Mo_cut 1 = .ok (.iload_n 1, 1) := by decide +kernel
theorem d_Mo_cut_2 : decode b_Mo_cut 2 = .ok (.ifCond .ge (7), 3) := by decide +kernel
theorem d_Mo_cut_5 : decode b_Mo_cut 5 = .ok (.iconst (1), 1) := by decide +kernel
theorem d_Mo_cut_6 : decode b_Mo_cut 6 = .ok (.goto (15), 3) := by decide +kernel
theorem d_Mo_cut_21 : decode b_Mo_cut 21 = .ok (.putfield 75, 3) := by decide +kernel
theorem d_Mo_cut_24 : decode b_Mo_cut 24 = .ok (.aload_n 0, 1) := by decide +kernel
theorem d_Mo_cut_25 : decode b_Mo_cut 25 = .ok (.getfield 75, 3) := by decide +kernel
theorem d_Mo_cut_28 : decode b_Mo_cut 28 = .ok (.ifCond .le (5), 3) := by decide +kernel
theorem d_Mo_cut_31 : decode b_Mo_cut 31 = .ok (.iconst (0), 1) := by decide +kernel
theorem d_Mo_cut_32 : decode b_Mo_cut 32 = .ok (.ireturn, 1) := by decide +kernel
set_option maxRecDepth 20000 in
set_option maxHeartbeats 4000000 in
theorem c_Mo_cut_t (l : Launch) (D : va_G) (mo : Nat) (a1 : Nat) (a2 : Nat) (a3 : Nat) (a4 : Nat) (a5 : Nat) (a6 : Nat) (a7 : Nat) (a8 : Nat) (a9 : Nat) (a10 : Nat) (a11 : Nat) (a12 : Nat) (a13 : Nat) (a14 : Nat) (a15 : Nat) (a16 : Nat) (a17 : Nat) (a18 : Nat) (a19 : Nat) (x : Int32) (sz : Nat) (h : x < 0) : xMi l y_Mo_cut w_Mo_cut { frames := 2, cells := 0, slots := 0, locals := 60 } D cl [.ref mo, .int x] sz [] [(mo, .inr (6, [.int 0, .int 0, .ref a1, .ref a2, .ref a3, .ref a4, .ref a5, .ref a6, .ref a7, .ref a8, .ref a9, .int 0, .ref a10, .ref a11, .ref a12, .ref a13, .ref a14, .ref a15, .int 0, .ref a16, .int 1, .int 1, .int 0, .ref a17, .ref a18, .ref a19, .int 0, .int 0, .int 0, .int 0]))] (fun (r : Int32) (_ : Unit) => r = 0) (fun _ => [(mo, .inr (6, [.int 1, .int 0, .ref a1, .ref a2, .ref a3, .ref a4, .ref a5, .ref a6, .ref a7, .ref a8, .ref a9, .int 0, .ref a10, .ref a11, .ref a12, .ref a13, .ref a14, .ref a15, .int 0, .ref a16, .int 1, .int 1, .int 0, .ref a17, .ref a18, .ref a19, .int 0, .int 0, .int 0, .int 0]))]) (fun _ => []) := by
  refine xMi_of (by decide +kernel) rfl (Nat.le_of_ble_eq_true rfl) ?_
  intro p e s m args below meth c ls A B hAe hA hsz hP hK hD hS hAm hTh hAs hl
  obtain ⟨⟨hx, hb, hml, hown, hts⟩, hret, hlk, hnm, hemp⟩ := id B
  have hl : lv_has ls 5 [(0, .ref mo), (1, .int x)] := hl
  refine lv_aload_n hx hb d_Mo_cut_0 rfl (lv_at hl 0 rfl) ?_
  refine lv_iload_n hx hb d_Mo_cut_1 rfl (lv_at hl 1 rfl) ?_
  refine lv_if_ge (tgt := 9) hx hb d_Mo_cut_2 (by decide) (fun b2 => absurd b2 (xlt_ge h)) (fun b2 => ?_)
  refine lv_iconst (v := 1) hx hb d_Mo_cut_5 (by decide) ?_
  refine lv_goto (tgt := 21) hx hb d_Mo_cut_6 (by decide) ?_
  refine va_put (D := D) (ci := 6) (v := .int 1) (ty := .int) (C := R_Mo) (T := F_Mo) (N := 30) hx hb hts (fun w h => List.mem_cons_of_mem _ (u_Mo w h)) t_Mo o_Mo n_Mo hown hK hP hD hS 0 rfl rfl 0 (by decide) (hts _ (List.mem_cons_of_mem _ tw_665)) (fun _ h9 => h9) rfl (by decide +kernel) rfl rfl (Nat.le_of_ble_eq_true rfl) d_Mo_cut_21 (fun H locs hP hD hS => ?_)
  have hP : va_P D cl [(mo, .inr (6, [.int 1, .int 0, .ref a1, .ref a2, .ref a3, .ref a4, .ref a5, .ref a6, .ref a7, .ref a8, .ref a9, .int 0, .ref a10, .ref a11, .ref a12, .ref a13, .ref a14, .ref a15, .int 0, .ref a16, .int 1, .int 1, .int 0, .ref a17, .ref a18, .ref a19, .int 0, .int 0, .int 0, .int 0]))] H := hP
  have hD : va_D A [(mo, .inr (6, [.int 1, .int 0, .ref a1, .ref a2, .ref a3, .ref a4, .ref a5, .ref a6, .ref a7, .ref a8, .ref a9, .int 0, .ref a10, .ref a11, .ref a12, .ref a13, .ref a14, .ref a15, .int 0, .ref a16, .int 1, .int 1, .int 0, .ref a17, .ref a18, .ref a19, .int 0, .int 0, .int 0, .int 0]))] := hD
  refine lv_aload_n hx hb d_Mo_cut_24 rfl (lv_at hl 0 rfl) ?_
  refine va_get (D := D) (ci := 6) (v := .int 1) (C := R_Mo) (T := F_Mo) (N := 30) hx hb hts (fun w h => List.mem_cons_of_mem _ (u_Mo w h)) hown hK hP 0 rfl rfl 0 (by decide) (hts _ (List.mem_cons_of_mem _ tw_665)) (fun _ h9 => h9) rfl d_Mo_cut_25 ?_
  refine lv_if_le (tgt := 33) hx hb d_Mo_cut_28 (by decide) (fun b28 => absurd b28 (by decide)) (fun b28 => ?_)
  refine lv_iconst (v := 0) hx hb d_Mo_cut_31 (by decide) ?_
  exact xri () B d_Mo_cut_32 (rfl) (hP.sub (ws' := [(mo, .inr (6, [.int 1, .int 0, .ref a1, .ref a2, .ref a3, .ref a4, .ref a5, .ref a6, .ref a7, .ref a8, .ref a9, .int 0, .ref a10, .ref a11, .ref a12, .ref a13, .ref a14, .ref a15, .int 0, .ref a16, .int 1, .int 1, .int 0, .ref a17, .ref a18, .ref a19, .int 0, .int 0, .int 0, .int 0]))]) [0] rfl) (hK.sub (tys' := []) [] rfl) (hD.sub (ws' := [(mo, .inr (6, [.int 1, .int 0, .ref a1, .ref a2, .ref a3, .ref a4, .ref a5, .ref a6, .ref a7, .ref a8, .ref a9, .int 0, .ref a10, .ref a11, .ref a12, .ref a13, .ref a14, .ref a15, .int 0, .ref a16, .int 1, .int 1, .int 0, .ref a17, .ref a18, .ref a19, .int 0, .int 0, .int 0, .int 0]))]) [0] (by decide) rfl) hS (Nat.le_of_ble_eq_true rfl) (Nat.le_of_ble_eq_true rfl)
theorem d_Mo_begin_0 : decode b_Mo_begin 0 = .ok (.aload_n 0, 1) := by decide +kernel
theorem d_Mo_begin_1 : decode b_Mo_begin 1 = .ok (.iload_n 1, 1) := by decide +kernel
theorem d_Mo_begin_2 : decode b_Mo_begin 2 = .ok (.iconst (1), 1) := by decide +kernel
theorem d_Mo_begin_3 : decode b_Mo_begin 3 = .ok (.if_icmp .lt (27), 3) := by decide +kernel
theorem d_Mo_begin_6 : decode b_Mo_begin 6 = .ok (.iload_n 1, 1) := by decide +kernel
theorem d_Mo_begin_7 : decode b_Mo_begin 7 = .ok (.ldc 140, 2) := by decide +kernel
theorem d_Mo_begin_9 : decode b_Mo_begin 9 = .ok (.if_icmp .gt (21), 3) := by decide +kernel
theorem d_Mo_begin_12 : decode b_Mo_begin 12 = .ok (.iload_n 2, 1) := by decide +kernel
theorem d_Mo_begin_13 : decode b_Mo_begin 13 = .ok (.iconst (1), 1) := by decide +kernel
theorem d_Mo_begin_14 : decode b_Mo_begin 14 = .ok (.iconst (4), 1) := by decide +kernel
theorem d_Mo_begin_15 : decode b_Mo_begin 15 = .ok (.invokestatic 82, 3) := by decide +kernel
theorem d_Mo_begin_18 : decode b_Mo_begin 18 = .ok (.ifCond .ne (12), 3) := by decide +kernel
theorem d_Mo_begin_21 : decode b_Mo_begin 21 = .ok (.iload_n 3, 1) := by decide +kernel
theorem d_Mo_begin_22 : decode b_Mo_begin 22 = .ok (.iconst (1), 1) := by decide +kernel
theorem d_Mo_begin_23 : decode b_Mo_begin 23 = .ok (.iconst (4), 1) := by decide +kernel
theorem d_Mo_begin_24 : decode b_Mo_begin 24 = .ok (.invokestatic 82, 3) := by decide +kernel
theorem d_Mo_begin_27 : decode b_Mo_begin 27 = .ok (.ifCond .eq (7), 3) := by decide +kernel
theorem d_Mo_begin_30 : decode b_Mo_begin 30 = .ok (.iconst (1), 1) := by decide +kernel
theorem d_Mo_begin_31 : decode b_Mo_begin 31 = .ok (.goto (15), 3) := by decide +kernel
theorem d_Mo_begin_46 : decode b_Mo_begin 46 = .ok (.putfield 75, 3) := by decide +kernel
theorem d_Mo_begin_49 : decode b_Mo_begin 49 = .ok (.aload_n 0, 1) := by decide +kernel
theorem d_Mo_begin_50 : decode b_Mo_begin 50 = .ok (.getfield 75, 3) := by decide +kernel
theorem d_Mo_begin_53 : decode b_Mo_begin 53 = .ok (.ifCond .le (5), 3) := by decide +kernel
theorem d_Mo_begin_56 : decode b_Mo_begin 56 = .ok (.iconst (0), 1) := by decide +kernel
theorem d_Mo_begin_57 : decode b_Mo_begin 57 = .ok (.ireturn, 1) := by decide +kernel
set_option maxRecDepth 20000 in
set_option maxHeartbeats 4000000 in
theorem c_Mo_begin_i (l : Launch) (D : va_G) (mo : Nat) (a1 : Nat) (a2 : Nat) (a3 : Nat) (a4 : Nat) (a5 : Nat) (a6 : Nat) (a7 : Nat) (a8 : Nat) (a9 : Nat) (a10 : Nat) (a11 : Nat) (a12 : Nat) (a13 : Nat) (a14 : Nat) (a15 : Nat) (a16 : Nat) (a17 : Nat) (a18 : Nat) (a19 : Nat) (x : Int32) (y : Int32) (z : Int32) (sz : Nat) (h : ¬ xokB x y z) : xMi l y_Mo_begin w_Mo_begin { frames := 2, cells := 0, slots := 0, locals := 60 } D cl [.ref mo, .int x, .int y, .int z] sz [] [(mo, .inr (6, [.int 0, .int 0, .ref a1, .ref a2, .ref a3, .ref a4, .ref a5, .ref a6, .ref a7, .ref a8, .ref a9, .int 0, .ref a10, .ref a11, .ref a12, .ref a13, .ref a14, .ref a15, .int 0, .ref a16, .int 1, .int 1, .int 0, .ref a17, .ref a18, .ref a19, .int 0, .int 0, .int 0, .int 0]))] (fun (r : Int32) (_ : Unit) => r = 0) (fun _ => [(mo, .inr (6, [.int 1, .int 0, .ref a1, .ref a2, .ref a3, .ref a4, .ref a5, .ref a6, .ref a7, .ref a8, .ref a9, .int 0, .ref a10, .ref a11, .ref a12, .ref a13, .ref a14, .ref a15, .int 0, .ref a16, .int 1, .int 1, .int 0, .ref a17, .ref a18, .ref a19, .int 0, .int 0, .int 0, .int 0]))]) (fun _ => []) := by
  refine xMi_of (by decide +kernel) rfl (Nat.le_of_ble_eq_true rfl) ?_
  intro p e s m args below meth c ls A B hAe hA hsz hP hK hD hS hAm hTh hAs hl
  obtain ⟨⟨hx, hb, hml, hown, hts⟩, hret, hlk, hnm, hemp⟩ := id B
  have hl : lv_has ls 9 [(0, .ref mo), (1, .int x), (2, .int y), (3, .int z)] := hl
  refine lv_aload_n hx hb d_Mo_begin_0 rfl (lv_at hl 0 rfl) ?_
  refine lv_iload_n hx hb d_Mo_begin_1 rfl (lv_at hl 1 rfl) ?_
  refine lv_iconst (v := 1) hx hb d_Mo_begin_2 (by decide) ?_
  refine lv_icmp_lt (tgt := 30) hx hb d_Mo_begin_3 (by decide) (fun b3 => ?_) (fun b3 => ?_)
  · refine lv_iconst (v := 1) hx hb d_Mo_begin_30 (by decide) ?_
    refine lv_goto (tgt := 46) hx hb d_Mo_begin_31 (by decide) ?_
    refine va_put (D := D) (ci := 6) (v := .int 1) (ty := .int) (C := R_Mo) (T := F_Mo) (N := 30) hx hb hts (fun w h => List.mem_cons_of_mem _ (u_Mo w h)) t_Mo o_Mo n_Mo hown hK hP hD hS 0 rfl rfl 0 (by decide) (hts _ (List.mem_cons_of_mem _ tw_665)) (fun _ h9 => h9) rfl (by decide +kernel) rfl rfl (Nat.le_of_ble_eq_true rfl) d_Mo_begin_46 (fun H locs hP hD hS => ?_)
    have hP : va_P D cl [(mo, .inr (6, [.int 1, .int 0, .ref a1, .ref a2, .ref a3, .ref a4, .ref a5, .ref a6, .ref a7, .ref a8, .ref a9, .int 0, .ref a10, .ref a11, .ref a12, .ref a13, .ref a14, .ref a15, .int 0, .ref a16, .int 1, .int 1, .int 0, .ref a17, .ref a18, .ref a19, .int 0, .int 0, .int 0, .int 0]))] H := hP
    have hD : va_D A [(mo, .inr (6, [.int 1, .int 0, .ref a1, .ref a2, .ref a3, .ref a4, .ref a5, .ref a6, .ref a7, .ref a8, .ref a9, .int 0, .ref a10, .ref a11, .ref a12, .ref a13, .ref a14, .ref a15, .int 0, .ref a16, .int 1, .int 1, .int 0, .ref a17, .ref a18, .ref a19, .int 0, .int 0, .int 0, .int 0]))] := hD
    refine lv_aload_n hx hb d_Mo_begin_49 rfl (lv_at hl 0 rfl) ?_
    refine va_get (D := D) (ci := 6) (v := .int 1) (C := R_Mo) (T := F_Mo) (N := 30) hx hb hts (fun w h => List.mem_cons_of_mem _ (u_Mo w h)) hown hK hP 0 rfl rfl 0 (by decide) (hts _ (List.mem_cons_of_mem _ tw_665)) (fun _ h9 => h9) rfl d_Mo_begin_50 ?_
    refine lv_if_le (tgt := 58) hx hb d_Mo_begin_53 (by decide) (fun b53 => absurd b53 (by decide)) (fun b53 => ?_)
    refine lv_iconst (v := 0) hx hb d_Mo_begin_56 (by decide) ?_
    exact xri () B d_Mo_begin_57 (rfl) (hP.sub (ws' := [(mo, .inr (6, [.int 1, .int 0, .ref a1, .ref a2, .ref a3, .ref a4, .ref a5, .ref a6, .ref a7, .ref a8, .ref a9, .int 0, .ref a10, .ref a11, .ref a12, .ref a13, .ref a14, .ref a15, .int 0, .ref a16, .int 1, .int 1, .int 0, .ref a17, .ref a18, .ref a19, .int 0, .int 0, .int 0, .int 0]))]) [0] rfl) (hK.sub (tys' := []) [] rfl) (hD.sub (ws' := [(mo, .inr (6, [.int 1, .int 0, .ref a1, .ref a2, .ref a3, .ref a4, .ref a5, .ref a6, .ref a7, .ref a8, .ref a9, .int 0, .ref a10, .ref a11, .ref a12, .ref a13, .ref a14, .ref a15, .int 0, .ref a16, .int 1, .int 1, .int 0, .ref a17, .ref a18, .ref a19, .int 0, .int 0, .int 0, .int 0]))]) [0] (by decide) rfl) hS (Nat.le_of_ble_eq_true rfl) (Nat.le_of_ble_eq_true rfl)
  · refine lv_iload_n hx hb d_Mo_begin_6 rfl (lv_at hl 1 rfl) ?_
    refine lv_ldc (v := 16777215) hx hb hown (hts _ (List.mem_cons_of_mem _ tw_818)) d_Mo_begin_7 ?_
    refine lv_icmp_gt (tgt := 30) hx hb d_Mo_begin_9 (by decide) (fun b9 => ?_) (fun b9 => ?_)
    · refine lv_iconst (v := 1) hx hb d_Mo_begin_30 (by decide) ?_
      refine lv_goto (tgt := 46) hx hb d_Mo_begin_31 (by decide) ?_
      refine va_put (D := D) (ci := 6) (v := .int 1) (ty := .int) (C := R_Mo) (T := F_Mo) (N := 30) hx hb hts (fun w h => List.mem_cons_of_mem _ (u_Mo w h)) t_Mo o_Mo n_Mo hown hK hP hD hS 0 rfl rfl 0 (by decide) (hts _ (List.mem_cons_of_mem _ tw_665)) (fun _ h9 => h9) rfl (by decide +kernel) rfl rfl (Nat.le_of_ble_eq_true rfl) d_Mo_begin_46 (fun H locs hP hD hS => ?_)
      have hP : va_P D cl [(mo, .inr (6, [.int 1, .int 0, .ref a1, .ref a2, .ref a3, .ref a4, .ref a5, .ref a6, .ref a7, .ref a8, .ref a9, .int 0, .ref a10, .ref a11, .ref a12, .ref a13, .ref a14, .ref a15, .int 0, .ref a16, .int 1, .int 1, .int 0, .ref a17, .ref a18, .ref a19, .int 0, .int 0, .int 0, .int 0]))] H := hP
      have hD : va_D A [(mo, .inr (6, [.int 1, .int 0, .ref a1, .ref a2, .ref a3, .ref a4, .ref a5, .ref a6, .ref a7, .ref a8, .ref a9, .int 0, .ref a10, .ref a11, .ref a12, .ref a13, .ref a14, .ref a15, .int 0, .ref a16, .int 1, .int 1, .int 0, .ref a17, .ref a18, .ref a19, .int 0, .int 0, .int 0, .int 0]))] := hD
      refine lv_aload_n hx hb d_Mo_begin_49 rfl (lv_at hl 0 rfl) ?_
      refine va_get (D := D) (ci := 6) (v := .int 1) (C := R_Mo) (T := F_Mo) (N := 30) hx hb hts (fun w h => List.mem_cons_of_mem _ (u_Mo w h)) hown hK hP 0 rfl rfl 0 (by decide) (hts _ (List.mem_cons_of_mem _ tw_665)) (fun _ h9 => h9) rfl d_Mo_begin_50 ?_
      refine lv_if_le (tgt := 58) hx hb d_Mo_begin_53 (by decide) (fun b53 => absurd b53 (by decide)) (fun b53 => ?_)
      refine lv_iconst (v := 0) hx hb d_Mo_begin_56 (by decide) ?_
      exact xri () B d_Mo_begin_57 (rfl) (hP.sub (ws' := [(mo, .inr (6, [.int 1, .int 0, .ref a1, .ref a2, .ref a3, .ref a4, .ref a5, .ref a6, .ref a7, .ref a8, .ref a9, .int 0, .ref a10, .ref a11, .ref a12, .ref a13, .ref a14, .ref a15, .int 0, .ref a16, .int 1, .int 1, .int 0, .ref a17, .ref a18, .ref a19, .int 0, .int 0, .int 0, .int 0]))]) [0] rfl) (hK.sub (tys' := []) [] rfl) (hD.sub (ws' := [(mo, .inr (6, [.int 1, .int 0, .ref a1, .ref a2, .ref a3, .ref a4, .ref a5, .ref a6, .ref a7, .ref a8, .ref a9, .int 0, .ref a10, .ref a11, .ref a12, .ref a13, .ref a14, .ref a15, .int 0, .ref a16, .int 1, .int 1, .int 0, .ref a17, .ref a18, .ref a19, .int 0, .int 0, .int 0, .int 0]))]) [0] (by decide) rfl) hS (Nat.le_of_ble_eq_true rfl) (Nat.le_of_ble_eq_true rfl)
    · refine lv_iload_n hx hb d_Mo_begin_12 rfl (lv_at hl 2 rfl) ?_
      refine lv_iconst (v := 1) hx hb d_Mo_begin_13 (by decide) ?_
      refine lv_iconst (v := 4) hx hb d_Mo_begin_14 (by decide) ?_
      have hPc := hP.sub (ws' := []) [] rfl
      have hDc := hD.sub (ws' := []) [] (by decide) rfl
      have hKc := hK.sub (tys' := []) [] rfl
      refine xgi (wsC := []) (wr := [(mo, .inr (6, [.int 0, .int 0, .ref a1, .ref a2, .ref a3, .ref a4, .ref a5, .ref a6, .ref a7, .ref a8, .ref a9, .int 0, .ref a10, .ref a11, .ref a12, .ref a13, .ref a14, .ref a15, .int 0, .ref a16, .int 1, .int 1, .int 0, .ref a17, .ref a18, .ref a19, .int 0, .int 0, .int 0, .int 0]))]) (va_runS (As := [.int y, .int 1, .int 4]) (rest := [.ref mo]) ⟨hx, hb, hml, hown, hts⟩ (c_Mo_outside l  D y 1 4 _ ) ⟨(callB_of 3 hts (x_good k_Mo_outside) rfl rfl rfl (hts _ (List.mem_cons_of_mem _ tw_8)) (hts _ (List.mem_cons_of_mem _ tw_765)) (by decide +kernel) ⟨Nat.le_of_ble_eq_true rfl, Nat.le_of_ble_eq_true rfl⟩), (hts _ (List.mem_cons_of_mem _ tw_766))⟩ (xP_S hPc hKc hDc hAm hTh hAs hS) rfl rfl hl.1 rfl (lv_room (Nat.le_of_ble_eq_true rfl)) d_Mo_begin_15 ⟨Nat.le_of_ble_eq_true rfl, Nat.le_of_ble_eq_true rfl⟩) hP hD hK hS hA [] [0] rfl rfl (by decide) (by decide) (fun r1 _ H locs er1 hP hD hK hS => ?_)
      have er1 : r1 = xOut y 1 4 := er1
      subst er1
      have hK : va_K D cl [] s := hK
      have hP : va_P D cl [(mo, .inr (6, [.int 0, .int 0, .ref a1, .ref a2, .ref a3, .ref a4, .ref a5, .ref a6, .ref a7, .ref a8, .ref a9, .int 0, .ref a10, .ref a11, .ref a12, .ref a13, .ref a14, .ref a15, .int 0, .ref a16, .int 1, .int 1, .int 0, .ref a17, .ref a18, .ref a19, .int 0, .int 0, .int 0, .int 0]))] H := hP
      have hD : va_D A [(mo, .inr (6, [.int 0, .int 0, .ref a1, .ref a2, .ref a3, .ref a4, .ref a5, .ref a6, .ref a7, .ref a8, .ref a9, .int 0, .ref a10, .ref a11, .ref a12, .ref a13, .ref a14, .ref a15, .int 0, .ref a16, .int 1, .int 1, .int 0, .ref a17, .ref a18, .ref a19, .int 0, .int 0, .int 0, .int 0]))] := hD
      refine lv_if_ne (tgt := 30) hx hb d_Mo_begin_18 (by decide) (fun b18 => ?_) (fun b18 => ?_)
      · refine lv_iconst (v := 1) hx hb d_Mo_begin_30 (by decide) ?_
        refine lv_goto (tgt := 46) hx hb d_Mo_begin_31 (by decide) ?_
        refine va_put (D := D) (ci := 6) (v := .int 1) (ty := .int) (C := R_Mo) (T := F_Mo) (N := 30) hx hb hts (fun w h => List.mem_cons_of_mem _ (u_Mo w h)) t_Mo o_Mo n_Mo hown hK hP hD hS 0 rfl rfl 0 (by decide) (hts _ (List.mem_cons_of_mem _ tw_665)) (fun _ h9 => h9) rfl (by decide +kernel) rfl rfl (Nat.le_of_ble_eq_true rfl) d_Mo_begin_46 (fun H locs hP hD hS => ?_)
        have hP : va_P D cl [(mo, .inr (6, [.int 1, .int 0, .ref a1, .ref a2, .ref a3, .ref a4, .ref a5, .ref a6, .ref a7, .ref a8, .ref a9, .int 0, .ref a10, .ref a11, .ref a12, .ref a13, .ref a14, .ref a15, .int 0, .ref a16, .int 1, .int 1, .int 0, .ref a17, .ref a18, .ref a19, .int 0, .int 0, .int 0, .int 0]))] H := hP
        have hD : va_D A [(mo, .inr (6, [.int 1, .int 0, .ref a1, .ref a2, .ref a3, .ref a4, .ref a5, .ref a6, .ref a7, .ref a8, .ref a9, .int 0, .ref a10, .ref a11, .ref a12, .ref a13, .ref a14, .ref a15, .int 0, .ref a16, .int 1, .int 1, .int 0, .ref a17, .ref a18, .ref a19, .int 0, .int 0, .int 0, .int 0]))] := hD
        refine lv_aload_n hx hb d_Mo_begin_49 rfl (lv_at hl 0 rfl) ?_
        refine va_get (D := D) (ci := 6) (v := .int 1) (C := R_Mo) (T := F_Mo) (N := 30) hx hb hts (fun w h => List.mem_cons_of_mem _ (u_Mo w h)) hown hK hP 0 rfl rfl 0 (by decide) (hts _ (List.mem_cons_of_mem _ tw_665)) (fun _ h9 => h9) rfl d_Mo_begin_50 ?_
        refine lv_if_le (tgt := 58) hx hb d_Mo_begin_53 (by decide) (fun b53 => absurd b53 (by decide)) (fun b53 => ?_)
        refine lv_iconst (v := 0) hx hb d_Mo_begin_56 (by decide) ?_
        exact xri () B d_Mo_begin_57 (rfl) (hP.sub (ws' := [(mo, .inr (6, [.int 1, .int 0, .ref a1, .ref a2, .ref a3, .ref a4, .ref a5, .ref a6, .ref a7, .ref a8, .ref a9, .int 0, .ref a10, .ref a11, .ref a12, .ref a13, .ref a14, .ref a15, .int 0, .ref a16, .int 1, .int 1, .int 0, .ref a17, .ref a18, .ref a19, .int 0, .int 0, .int 0, .int 0]))]) [0] rfl) (hK.sub (tys' := []) [] rfl) (hD.sub (ws' := [(mo, .inr (6, [.int 1, .int 0, .ref a1, .ref a2, .ref a3, .ref a4, .ref a5, .ref a6, .ref a7, .ref a8, .ref a9, .int 0, .ref a10, .ref a11, .ref a12, .ref a13, .ref a14, .ref a15, .int 0, .ref a16, .int 1, .int 1, .int 0, .ref a17, .ref a18, .ref a19, .int 0, .int 0, .int 0, .int 0]))]) [0] (by decide) rfl) hS (Nat.le_of_ble_eq_true rfl) (Nat.le_of_ble_eq_true rfl)
      · refine lv_iload_n hx hb d_Mo_begin_21 rfl (lv_at hl 3 rfl) ?_
        refine lv_iconst (v := 1) hx hb d_Mo_begin_22 (by decide) ?_
        refine lv_iconst (v := 4) hx hb d_Mo_begin_23 (by decide) ?_
        have hPc := hP.sub (ws' := []) [] rfl
        have hDc := hD.sub (ws' := []) [] (by decide) rfl
        have hKc := hK.sub (tys' := []) [] rfl
        refine xgi (wsC := []) (wr := [(mo, .inr (6, [.int 0, .int 0, .ref a1, .ref a2, .ref a3, .ref a4, .ref a5, .ref a6, .ref a7, .ref a8, .ref a9, .int 0, .ref a10, .ref a11, .ref a12, .ref a13, .ref a14, .ref a15, .int 0, .ref a16, .int 1, .int 1, .int 0, .ref a17, .ref a18, .ref a19, .int 0, .int 0, .int 0, .int 0]))]) (va_runS (As := [.int z, .int 1, .int 4]) (rest := [.ref mo]) ⟨hx, hb, hml, hown, hts⟩ (c_Mo_outside l  D z 1 4 _ ) ⟨(callB_of 3 hts (x_good k_Mo_outside) rfl rfl rfl (hts _ (List.mem_cons_of_mem _ tw_8)) (hts _ (List.mem_cons_of_mem _ tw_765)) (by decide +kernel) ⟨Nat.le_of_ble_eq_true rfl, Nat.le_of_ble_eq_true rfl⟩), (hts _ (List.mem_cons_of_mem _ tw_766))⟩ (xP_S hPc hKc hDc hAm hTh hAs hS) rfl rfl hl.1 rfl (lv_room (Nat.le_of_ble_eq_true rfl)) d_Mo_begin_24 ⟨Nat.le_of_ble_eq_true rfl, Nat.le_of_ble_eq_true rfl⟩) hP hD hK hS hA [] [0] rfl rfl (by decide) (by decide) (fun r2 _ H locs er2 hP hD hK hS => ?_)
        have er2 : r2 = xOut z 1 4 := er2
        subst er2
        have hK : va_K D cl [] s := hK
        have hP : va_P D cl [(mo, .inr (6, [.int 0, .int 0, .ref a1, .ref a2, .ref a3, .ref a4, .ref a5, .ref a6, .ref a7, .ref a8, .ref a9, .int 0, .ref a10, .ref a11, .ref a12, .ref a13, .ref a14, .ref a15, .int 0, .ref a16, .int 1, .int 1, .int 0, .ref a17, .ref a18, .ref a19, .int 0, .int 0, .int 0, .int 0]))] H := hP
        have hD : va_D A [(mo, .inr (6, [.int 0, .int 0, .ref a1, .ref a2, .ref a3, .ref a4, .ref a5, .ref a6, .ref a7, .ref a8, .ref a9, .int 0, .ref a10, .ref a11, .ref a12, .ref a13, .ref a14, .ref a15, .int 0, .ref a16, .int 1, .int 1, .int 0, .ref a17, .ref a18, .ref a19, .int 0, .int 0, .int 0, .int 0]))] := hD
        refine lv_if_eq (tgt := 34) hx hb d_Mo_begin_27 (by decide) (fun b27 => ?_) (fun b27 => ?_)
        · exact absurd (xokB_of b3 b9 (xI1 b18) (xI1 b27)) h
        · refine lv_iconst (v := 1) hx hb d_Mo_begin_30 (by decide) ?_
          refine lv_goto (tgt := 46) hx hb d_Mo_begin_31 (by decide) ?_
          refine va_put (D := D) (ci := 6) (v := .int 1) (ty := .int) (C := R_Mo) (T := F_Mo) (N := 30) hx hb hts (fun w h => List.mem_cons_of_mem _ (u_Mo w h)) t_Mo o_Mo n_Mo hown hK hP hD hS 0 rfl rfl 0 (by decide) (hts _ (List.mem_cons_of_mem _ tw_665)) (fun _ h9 => h9) rfl (by decide +kernel) rfl rfl (Nat.le_of_ble_eq_true rfl) d_Mo_begin_46 (fun H locs hP hD hS => ?_)
          have hP : va_P D cl [(mo, .inr (6, [.int 1, .int 0, .ref a1, .ref a2, .ref a3, .ref a4, .ref a5, .ref a6, .ref a7, .ref a8, .ref a9, .int 0, .ref a10, .ref a11, .ref a12, .ref a13, .ref a14, .ref a15, .int 0, .ref a16, .int 1, .int 1, .int 0, .ref a17, .ref a18, .ref a19, .int 0, .int 0, .int 0, .int 0]))] H := hP
          have hD : va_D A [(mo, .inr (6, [.int 1, .int 0, .ref a1, .ref a2, .ref a3, .ref a4, .ref a5, .ref a6, .ref a7, .ref a8, .ref a9, .int 0, .ref a10, .ref a11, .ref a12, .ref a13, .ref a14, .ref a15, .int 0, .ref a16, .int 1, .int 1, .int 0, .ref a17, .ref a18, .ref a19, .int 0, .int 0, .int 0, .int 0]))] := hD
          refine lv_aload_n hx hb d_Mo_begin_49 rfl (lv_at hl 0 rfl) ?_
          refine va_get (D := D) (ci := 6) (v := .int 1) (C := R_Mo) (T := F_Mo) (N := 30) hx hb hts (fun w h => List.mem_cons_of_mem _ (u_Mo w h)) hown hK hP 0 rfl rfl 0 (by decide) (hts _ (List.mem_cons_of_mem _ tw_665)) (fun _ h9 => h9) rfl d_Mo_begin_50 ?_
          refine lv_if_le (tgt := 58) hx hb d_Mo_begin_53 (by decide) (fun b53 => absurd b53 (by decide)) (fun b53 => ?_)
          refine lv_iconst (v := 0) hx hb d_Mo_begin_56 (by decide) ?_
          exact xri () B d_Mo_begin_57 (rfl) (hP.sub (ws' := [(mo, .inr (6, [.int 1, .int 0, .ref a1, .ref a2, .ref a3, .ref a4, .ref a5, .ref a6, .ref a7, .ref a8, .ref a9, .int 0, .ref a10, .ref a11, .ref a12, .ref a13, .ref a14, .ref a15, .int 0, .ref a16, .int 1, .int 1, .int 0, .ref a17, .ref a18, .ref a19, .int 0, .int 0, .int 0, .int 0]))]) [0] rfl) (hK.sub (tys' := []) [] rfl) (hD.sub (ws' := [(mo, .inr (6, [.int 1, .int 0, .ref a1, .ref a2, .ref a3, .ref a4, .ref a5, .ref a6, .ref a7, .ref a8, .ref a9, .int 0, .ref a10, .ref a11, .ref a12, .ref a13, .ref a14, .ref a15, .int 0, .ref a16, .int 1, .int 1, .int 0, .ref a17, .ref a18, .ref a19, .int 0, .int 0, .int 0, .int 0]))]) [0] (by decide) rfl) hS (Nat.le_of_ble_eq_true rfl) (Nat.le_of_ble_eq_true rfl)
