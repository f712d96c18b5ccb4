/-! THE CLAIM OUT OF ONE WALK OF THE LAW'S BODY. Your part is whole_start (and what it stands on); all else here is the same for every law, but numbers. -/
def R_law : String := "FileBuilderLaw"
def lw_P (b : Addr) (xs : List Int32) (args : Array Value) (s : State) : Prop := args = #[.ref b] ∧ s.IntsAt b xs ∧ xs.length ≤ 4 ∧ (Jvm.Cond.and given_1 narrow_1).before args s = true
def lw_Q (_ : Array Value) (s : State) (o : Outcome) (t : State) : Prop := o = .returned (some (.int 1)) ∧ Framed s o t [] 600002 7302232
def lw_Z (below : List Frame) (a : Array Value) (s : State) : State → Prop := fun t => ∃ o, t.status = .running ∧ Ended t below o ∧ lw_Q a s o t
/-- the law's own end, with 1 on the stack, nothing written that was there before, its room as the claim has it -/
theorem lw_ret {p : Program} {l : Launch} {e : Env} {s : State} {m : MethodId} {below : List Frame} {meth : Method} {c : Code} {b : Nat} (hx : p.tables.exec = Jvm.exec) (hb : c.code = code) (hr : meth.sig.returnType = ret) (hlocks : meth.locks = false) {pc : Nat} {H : Heap} {ls : Array Slot} (hdg : decode code pc = .ok (.ireturn, 1)) : W p l e room_1 s m #[Value.ref b] below meth c H [] 600002 7302232 (lw_Z below #[Value.ref b] s) (F0 m pc ls [.int 1]) := by
  intro T hT X
  obtain ⟨fs, hret, hrun, hended, hW, hframe⟩ := X.leave (v := some (.int 1)) (hlocks := hlocks) (fun h => by rw [hr] at h; cases h)
  have hmeth' : T.vm.method? m = some meth := X.method'
  refine ⟨T.setFrames fs, ?_, .returned (some (.int 1)), hrun, hended, rfl, ⟨_, rfl⟩, hW, hframe⟩
  jvm_step X.here [X.here.top, hx, hb, hdg, hmeth', hr, ret, narrow_b1]
  (try refine ⟨rfl, ?_⟩); (try refine ⟨rfl, ?_⟩)
  first | (intro acts; rw [hret _ acts rfl rfl rfl]) | rw [hret _ _ rfl rfl rfl]
  exact Steps.refl _
/-- what holds at the law's entry: the machine, the code, the tables' words (any of lw_tbl by 'hts w (by decide +kernel)'), the script of L ints xs at the cell b, what the Statement gives of the start (any of its parts by flat_of_before) -/
def lw_At (p : Program) (s : State) (m : MethodId) (meth : Method) (c : Code) (b L : Nat) (xs : Nat → Int32) : Prop :=
  p.tables.exec = Jvm.exec ∧ c.code = code ∧ meth.sig.returnType = ret ∧ c.maxLocals = 7 ∧ s.vm.findClass R_law = some m.cls ∧ (∀ w ∈ lw_tbl, w.before #[Value.ref b] s = true) ∧ va_X b L xs s s.heap ∧ b < s.heap.size ∧ meth.locks = false ∧ (Jvm.Cond.and given_1 narrow_1).before #[Value.ref b] s = true
def xA (s : State) : Nat → Prop := fun q => s.heap.size ≤ q
theorem xA_st (s : State) : ∀ q, xA s q → ∀ cell, s.heap[q]? = some cell → cell.vm.isStatics = false := by
  intro q h cell hc
  have : s.heap[q]? = none := Array.getElem?_eq_none h
  rw [this] at hc
  cases hc
theorem xD0 {A : Nat → Prop} : va_D A [] := ⟨fun i j x y h => (by cases h), fun k q h => (by cases h)⟩
abbrev xLw (p : Program) (s : State) (m : MethodId) (meth : Method) (c : Code) (b L : Nat) (xs : Nat → Int32) : Prop :=
  CallFix p m c code 7 s #[Value.ref b] (Cond.arrayClass .int :: xTB) "FileBuilderLaw" ∧ meth.sig.returnType = ret ∧ meth.locks = false ∧ va_X b L xs s s.heap ∧ b < s.heap.size ∧ xAmb s ∧ xTh s s.heap
theorem xsmall {L : Nat} (h : L < 4) : Int32.ofNat L - 4 < 0 := by
  rcases (show L = 0 ∨ L = 1 ∨ L = 2 ∨ L = 3 by omega) with rfl | rfl | rfl | rfl <;> decide
theorem xint {x : Int32} {n : Nat} (hn : n < 2 ^ 31) (h0 : 0 ≤ x.toInt) (h1 : x.toInt < n) : ∃ k, k < n ∧ x = nI k := by
  refine ⟨x.toInt.toNat, by omega, ?_⟩
  apply Int32.toInt_inj.mp
  rw [nI_toInt (by omega)]
  omega
theorem xsw (x : Int32) : (x.toInt < 0 ∨ 16 < x.toInt) ∨ x = 0 ∨ x = 1 ∨ x = 2 ∨ x = 3 ∨ x = 4 ∨ x = 5 ∨ x = 6 ∨ x = 7 ∨ x = 8 ∨ x = 9 ∨ x = 10 ∨ x = 11 ∨ x = 12 ∨ x = 13 ∨ x = 14 ∨ x = 15 ∨ x = 16 := by
  by_cases h : x.toInt < 0 ∨ 16 < x.toInt
  · exact Or.inl h
  · obtain ⟨k, hk, e⟩ := xint (x := x) (n := 17) (by decide) (by omega) (by omega)
    have key : ∀ k : Fin 17, (nI k.1 = 0 ∨ nI k.1 = 1 ∨ nI k.1 = 2 ∨ nI k.1 = 3 ∨ nI k.1 = 4 ∨ nI k.1 = 5 ∨ nI k.1 = 6 ∨ nI k.1 = 7 ∨ nI k.1 = 8 ∨ nI k.1 = 9 ∨ nI k.1 = 10 ∨ nI k.1 = 11 ∨ nI k.1 = 12 ∨ nI k.1 = 13 ∨ nI k.1 = 14 ∨ nI k.1 = 15 ∨ nI k.1 = 16) := by decide
    have q := key ⟨k, hk⟩
    rw [← e] at q
    exact Or.inr q
theorem xtwo {x : Int32} (h : xIn x 1 2 = 1) : x = 1 ∨ x = 2 := by
  obtain ⟨h1, h2⟩ := xIn_ge h
  simp only [Int32.le_iff_toInt_le] at h1 h2
  have e1 : (1 : Int32).toInt = 1 := by decide
  have e2 : (2 : Int32).toInt = 2 := by decide
  obtain ⟨k, hk, e⟩ := xint (x := x) (n := 3) (by decide) (by omega) (by omega)
  have key : ∀ k : Fin 3, (nI k.1 = 0 ∨ nI k.1 = 1 ∨ nI k.1 = 2) := by decide
  have q := key ⟨k, hk⟩
  rw [← e] at q
  rcases q with q | q | q
  · subst q
    exact absurd h1 (by decide)
  · exact Or.inl q
  · exact Or.inr q
theorem xfour {x : Int32} (h : xIn x 0 3 = 1) : x = 0 ∨ x = 1 ∨ x = 2 ∨ x = 3 := by
  obtain ⟨h1, h2⟩ := xIn_ge h
  simp only [Int32.le_iff_toInt_le] at h1 h2
  have e1 : (0 : Int32).toInt = 0 := by decide
  have e2 : (3 : Int32).toInt = 3 := by decide
  obtain ⟨k, hk, e⟩ := xint (x := x) (n := 4) (by decide) (by omega) (by omega)
  have key : ∀ k : Fin 4, (nI k.1 = 0 ∨ nI k.1 = 1 ∨ nI k.1 = 2 ∨ nI k.1 = 3) := by decide
  have q := key ⟨k, hk⟩
  rw [← e] at q
  exact q
theorem d_La_law_0 : decode code 0 = .ok (.new 8, 3) := by decide +kernel
theorem d_La_law_3 : decode code 3 = .ok (.dup, 1) := by decide +kernel
theorem d_La_law_4 : decode code 4 = .ok (.invokespecial 64, 3) := by decide +kernel
theorem d_La_law_7 : decode code 7 = .ok (.astore_n 1, 1) := by decide +kernel
theorem d_La_law_8 : decode code 8 = .ok (.new 65, 3) := by decide +kernel
theorem d_La_law_11 : decode code 11 = .ok (.dup, 1) := by decide +kernel
theorem d_La_law_12 : decode code 12 = .ok (.invokespecial 67, 3) := by decide +kernel
theorem d_La_law_15 : decode code 15 = .ok (.astore_n 2, 1) := by decide +kernel
theorem d_La_law_16 : decode code 16 = .ok (.iconst (1), 1) := by decide +kernel
theorem d_La_law_17 : decode code 17 = .ok (.newarray .long, 2) := by decide +kernel
theorem d_La_law_19 : decode code 19 = .ok (.astore_n 3, 1) := by decide +kernel
theorem d_La_law_20 : decode code 20 = .ok (.iconst (0), 1) := by decide +kernel
theorem d_La_law_21 : decode code 21 = .ok (.istore 4, 2) := by decide +kernel
theorem d_La_law_23 : decode code 23 = .ok (.iload 4, 2) := by decide +kernel
theorem d_La_law_25 : decode code 25 = .ok (.aload_n 0, 1) := by decide +kernel
theorem d_La_law_26 : decode code 26 = .ok (.arraylength, 1) := by decide +kernel
theorem d_La_law_27 : decode code 27 = .ok (.iconst (4), 1) := by decide +kernel
theorem d_La_law_28 : decode code 28 = .ok (.isub, 1) := by decide +kernel
theorem d_La_law_29 : decode code 29 = .ok (.if_icmp .gt (981), 3) := by decide +kernel
theorem d_La_law_32 : decode code 32 = .ok (.aload_n 0, 1) := by decide +kernel
theorem d_La_law_33 : decode code 33 = .ok (.iload 4, 2) := by decide +kernel
theorem d_La_law_35 : decode code 35 = .ok (.iaload, 1) := by decide +kernel
theorem d_La_law_36 : decode code 36 = .ok (.bipush (31), 2) := by decide +kernel
theorem d_La_law_38 : decode code 38 = .ok (.iand, 1) := by decide +kernel
theorem d_La_law_39 : decode code 39 = .ok (.tableswitch (965) (0) (16) #[(81), (161), (221), (297), (345), (393), (441), (477), (557), (570), (654), (667), (723), (791), (847), (872), (928)], 81) := by decide +kernel
theorem d_La_law_120 : decode code 120 = .ok (.aload_n 1, 1) := by decide +kernel
theorem d_La_law_121 : decode code 121 = .ok (.aload_n 0, 1) := by decide +kernel
theorem d_La_law_122 : decode code 122 = .ok (.iload 4, 2) := by decide +kernel
theorem d_La_law_124 : decode code 124 = .ok (.iconst (1), 1) := by decide +kernel
theorem d_La_law_125 : decode code 125 = .ok (.iadd, 1) := by decide +kernel
theorem d_La_law_126 : decode code 126 = .ok (.iaload, 1) := by decide +kernel
theorem d_La_law_127 : decode code 127 = .ok (.aload_n 0, 1) := by decide +kernel
theorem d_La_law_128 : decode code 128 = .ok (.iload 4, 2) := by decide +kernel
theorem d_La_law_130 : decode code 130 = .ok (.iconst (2), 1) := by decide +kernel
theorem d_La_law_131 : decode code 131 = .ok (.iadd, 1) := by decide +kernel
theorem d_La_law_132 : decode code 132 = .ok (.iaload, 1) := by decide +kernel
theorem d_La_law_133 : decode code 133 = .ok (.aload_n 0, 1) := by decide +kernel
theorem d_La_law_134 : decode code 134 = .ok (.iload 4, 2) := by decide +kernel
theorem d_La_law_136 : decode code 136 = .ok (.iconst (3), 1) := by decide +kernel
theorem d_La_law_137 : decode code 137 = .ok (.iadd, 1) := by decide +kernel
theorem d_La_law_138 : decode code 138 = .ok (.iaload, 1) := by decide +kernel
theorem d_La_law_139 : decode code 139 = .ok (.aload_n 3, 1) := by decide +kernel
theorem d_La_law_140 : decode code 140 = .ok (.invokestatic 68, 3) := by decide +kernel
theorem d_La_law_143 : decode code 143 = .ok (.istore 5, 2) := by decide +kernel
theorem d_La_law_145 : decode code 145 = .ok (.aload_n 2, 1) := by decide +kernel
theorem d_La_law_146 : decode code 146 = .ok (.aload_n 0, 1) := by decide +kernel
theorem d_La_law_147 : decode code 147 = .ok (.iload 4, 2) := by decide +kernel
theorem d_La_law_149 : decode code 149 = .ok (.iconst (1), 1) := by decide +kernel
theorem d_La_law_150 : decode code 150 = .ok (.iadd, 1) := by decide +kernel
theorem d_La_law_151 : decode code 151 = .ok (.iaload, 1) := by decide +kernel
theorem d_La_law_152 : decode code 152 = .ok (.aload_n 0, 1) := by decide +kernel
theorem d_La_law_153 : decode code 153 = .ok (.iload 4, 2) := by decide +kernel
theorem d_La_law_155 : decode code 155 = .ok (.iconst (2), 1) := by decide +kernel
theorem d_La_law_156 : decode code 156 = .ok (.iadd, 1) := by decide +kernel
theorem d_La_law_157 : decode code 157 = .ok (.iaload, 1) := by decide +kernel
theorem d_La_law_158 : decode code 158 = .ok (.aload_n 0, 1) := by decide +kernel
theorem d_La_law_159 : decode code 159 = .ok (.iload 4, 2) := by decide +kernel
theorem d_La_law_161 : decode code 161 = .ok (.iconst (3), 1) := by decide +kernel
theorem d_La_law_162 : decode code 162 = .ok (.iadd, 1) := by decide +kernel
theorem d_La_law_163 : decode code 163 = .ok (.iaload, 1) := by decide +kernel
theorem d_La_law_164 : decode code 164 = .ok (.invokevirtual 73, 3) := by decide +kernel
theorem d_La_law_167 : decode code 167 = .ok (.istore 6, 2) := by decide +kernel
theorem d_La_law_169 : decode code 169 = .ok (.aload_n 2, 1) := by decide +kernel
theorem d_La_law_170 : decode code 170 = .ok (.invokevirtual 74, 3) := by decide +kernel
theorem d_La_law_173 : decode code 173 = .ok (.iload 5, 2) := by decide +kernel
theorem d_La_law_175 : decode code 175 = .ok (.if_icmp .eq (5), 3) := by decide +kernel
theorem d_La_law_180 : decode code 180 = .ok (.iload 5, 2) := by decide +kernel
theorem d_La_law_182 : decode code 182 = .ok (.ifCond .ne (15), 3) := by decide +kernel
theorem d_La_law_185 : decode code 185 = .ok (.aload_n 3, 1) := by decide +kernel
theorem d_La_law_186 : decode code 186 = .ok (.iconst (0), 1) := by decide +kernel
theorem d_La_law_187 : decode code 187 = .ok (.laload, 1) := by decide +kernel
theorem d_La_law_188 : decode code 188 = .ok (.iload 6, 2) := by decide +kernel
theorem d_La_law_190 : decode code 190 = .ok (.i2l, 1) := by decide +kernel
theorem d_La_law_191 : decode code 191 = .ok (.lcmp, 1) := by decide +kernel
theorem d_La_law_192 : decode code 192 = .ok (.ifCond .eq (5), 3) := by decide +kernel
theorem d_La_law_197 : decode code 197 = .ok (.goto (807), 3) := by decide +kernel
theorem d_La_law_200 : decode code 200 = .ok (.aload_n 1, 1) := by decide +kernel
theorem d_La_law_201 : decode code 201 = .ok (.aload_n 0, 1) := by decide +kernel
theorem d_La_law_202 : decode code 202 = .ok (.iload 4, 2) := by decide +kernel
theorem d_La_law_204 : decode code 204 = .ok (.iconst (1), 1) := by decide +kernel
theorem d_La_law_205 : decode code 205 = .ok (.iadd, 1) := by decide +kernel
theorem d_La_law_206 : decode code 206 = .ok (.iaload, 1) := by decide +kernel
theorem d_La_law_207 : decode code 207 = .ok (.aload_n 0, 1) := by decide +kernel
theorem d_La_law_208 : decode code 208 = .ok (.iload 4, 2) := by decide +kernel
theorem d_La_law_210 : decode code 210 = .ok (.iconst (2), 1) := by decide +kernel
theorem d_La_law_211 : decode code 211 = .ok (.iadd, 1) := by decide +kernel
theorem d_La_law_212 : decode code 212 = .ok (.iaload, 1) := by decide +kernel
theorem d_La_law_213 : decode code 213 = .ok (.aload_n 0, 1) := by decide +kernel
theorem d_La_law_214 : decode code 214 = .ok (.iload 4, 2) := by decide +kernel
theorem d_La_law_216 : decode code 216 = .ok (.iconst (3), 1) := by decide +kernel
theorem d_La_law_217 : decode code 217 = .ok (.iadd, 1) := by decide +kernel
theorem d_La_law_218 : decode code 218 = .ok (.iaload, 1) := by decide +kernel
theorem d_La_law_219 : decode code 219 = .ok (.invokestatic 78, 3) := by decide +kernel
theorem d_La_law_222 : decode code 222 = .ok (.istore 5, 2) := by decide +kernel
theorem d_La_law_224 : decode code 224 = .ok (.aload_n 2, 1) := by decide +kernel
theorem d_La_law_225 : decode code 225 = .ok (.aload_n 0, 1) := by decide +kernel
theorem d_La_law_226 : decode code 226 = .ok (.iload 4, 2) := by decide +kernel
theorem d_La_law_228 : decode code 228 = .ok (.iconst (1), 1) := by decide +kernel
theorem d_La_law_229 : decode code 229 = .ok (.iadd, 1) := by decide +kernel
theorem d_La_law_230 : decode code 230 = .ok (.iaload, 1) := by decide +kernel
theorem d_La_law_231 : decode code 231 = .ok (.aload_n 0, 1) := by decide +kernel
theorem d_La_law_232 : decode code 232 = .ok (.iload 4, 2) := by decide +kernel
theorem d_La_law_234 : decode code 234 = .ok (.iconst (2), 1) := by decide +kernel
theorem d_La_law_235 : decode code 235 = .ok (.iadd, 1) := by decide +kernel
theorem d_La_law_236 : decode code 236 = .ok (.iaload, 1) := by decide +kernel
theorem d_La_law_237 : decode code 237 = .ok (.aload_n 0, 1) := by decide +kernel
theorem d_La_law_238 : decode code 238 = .ok (.iload 4, 2) := by decide +kernel
theorem d_La_law_240 : decode code 240 = .ok (.iconst (3), 1) := by decide +kernel
theorem d_La_law_241 : decode code 241 = .ok (.iadd, 1) := by decide +kernel
theorem d_La_law_242 : decode code 242 = .ok (.iaload, 1) := by decide +kernel
theorem d_La_law_243 : decode code 243 = .ok (.invokevirtual 81, 3) := by decide +kernel
theorem d_La_law_246 : decode code 246 = .ok (.aload_n 2, 1) := by decide +kernel
theorem d_La_law_247 : decode code 247 = .ok (.invokevirtual 74, 3) := by decide +kernel
theorem d_La_law_250 : decode code 250 = .ok (.iload 5, 2) := by decide +kernel
theorem d_La_law_252 : decode code 252 = .ok (.if_icmp .eq (5), 3) := by decide +kernel
theorem d_La_law_257 : decode code 257 = .ok (.goto (747), 3) := by decide +kernel
theorem d_La_law_260 : decode code 260 = .ok (.aload_n 1, 1) := by decide +kernel
theorem d_La_law_261 : decode code 261 = .ok (.aload_n 0, 1) := by decide +kernel
theorem d_La_law_262 : decode code 262 = .ok (.iload 4, 2) := by decide +kernel
theorem d_La_law_264 : decode code 264 = .ok (.iconst (1), 1) := by decide +kernel
theorem d_La_law_265 : decode code 265 = .ok (.iadd, 1) := by decide +kernel
theorem d_La_law_266 : decode code 266 = .ok (.iaload, 1) := by decide +kernel
theorem d_La_law_267 : decode code 267 = .ok (.aload_n 0, 1) := by decide +kernel
theorem d_La_law_268 : decode code 268 = .ok (.iload 4, 2) := by decide +kernel
theorem d_La_law_270 : decode code 270 = .ok (.iconst (2), 1) := by decide +kernel
theorem d_La_law_271 : decode code 271 = .ok (.iadd, 1) := by decide +kernel
theorem d_La_law_272 : decode code 272 = .ok (.iaload, 1) := by decide +kernel
theorem d_La_law_273 : decode code 273 = .ok (.aload_n 0, 1) := by decide +kernel
theorem d_La_law_274 : decode code 274 = .ok (.iload 4, 2) := by decide +kernel
theorem d_La_law_276 : decode code 276 = .ok (.iconst (3), 1) := by decide +kernel
theorem d_La_law_277 : decode code 277 = .ok (.iadd, 1) := by decide +kernel
theorem d_La_law_278 : decode code 278 = .ok (.iaload, 1) := by decide +kernel
theorem d_La_law_279 : decode code 279 = .ok (.ifCond .eq (7), 3) := by decide +kernel
theorem d_La_law_282 : decode code 282 = .ok (.iconst (1), 1) := by decide +kernel
theorem d_La_law_283 : decode code 283 = .ok (.goto (4), 3) := by decide +kernel
theorem d_La_law_286 : decode code 286 = .ok (.iconst (0), 1) := by decide +kernel
theorem d_La_law_287 : decode code 287 = .ok (.invokestatic 82, 3) := by decide +kernel
theorem d_La_law_290 : decode code 290 = .ok (.istore 5, 2) := by decide +kernel
theorem d_La_law_292 : decode code 292 = .ok (.aload_n 2, 1) := by decide +kernel
theorem d_La_law_293 : decode code 293 = .ok (.aload_n 0, 1) := by decide +kernel
theorem d_La_law_294 : decode code 294 = .ok (.iload 4, 2) := by decide +kernel
theorem d_La_law_296 : decode code 296 = .ok (.iconst (1), 1) := by decide +kernel
theorem d_La_law_297 : decode code 297 = .ok (.iadd, 1) := by decide +kernel
theorem d_La_law_298 : decode code 298 = .ok (.iaload, 1) := by decide +kernel
theorem d_La_law_299 : decode code 299 = .ok (.aload_n 0, 1) := by decide +kernel
theorem d_La_law_300 : decode code 300 = .ok (.iload 4, 2) := by decide +kernel
theorem d_La_law_302 : decode code 302 = .ok (.iconst (2), 1) := by decide +kernel
theorem d_La_law_303 : decode code 303 = .ok (.iadd, 1) := by decide +kernel
theorem d_La_law_304 : decode code 304 = .ok (.iaload, 1) := by decide +kernel
theorem d_La_law_305 : decode code 305 = .ok (.aload_n 0, 1) := by decide +kernel
theorem d_La_law_306 : decode code 306 = .ok (.iload 4, 2) := by decide +kernel
theorem d_La_law_308 : decode code 308 = .ok (.iconst (3), 1) := by decide +kernel
theorem d_La_law_309 : decode code 309 = .ok (.iadd, 1) := by decide +kernel
theorem d_La_law_310 : decode code 310 = .ok (.iaload, 1) := by decide +kernel
theorem d_La_law_311 : decode code 311 = .ok (.ifCond .eq (7), 3) := by decide +kernel
theorem d_La_law_314 : decode code 314 = .ok (.iconst (1), 1) := by decide +kernel
theorem d_La_law_315 : decode code 315 = .ok (.goto (4), 3) := by decide +kernel
theorem d_La_law_318 : decode code 318 = .ok (.iconst (0), 1) := by decide +kernel
theorem d_La_law_319 : decode code 319 = .ok (.invokevirtual 85, 3) := by decide +kernel
theorem d_La_law_322 : decode code 322 = .ok (.aload_n 2, 1) := by decide +kernel
theorem d_La_law_323 : decode code 323 = .ok (.invokevirtual 74, 3) := by decide +kernel
theorem d_La_law_326 : decode code 326 = .ok (.iload 5, 2) := by decide +kernel
theorem d_La_law_328 : decode code 328 = .ok (.if_icmp .eq (5), 3) := by decide +kernel
theorem d_La_law_333 : decode code 333 = .ok (.goto (671), 3) := by decide +kernel
theorem d_La_law_336 : decode code 336 = .ok (.aload_n 1, 1) := by decide +kernel
theorem d_La_law_337 : decode code 337 = .ok (.aload_n 0, 1) := by decide +kernel
theorem d_La_law_338 : decode code 338 = .ok (.iload 4, 2) := by decide +kernel
theorem d_La_law_340 : decode code 340 = .ok (.iconst (1), 1) := by decide +kernel
theorem d_La_law_341 : decode code 341 = .ok (.iadd, 1) := by decide +kernel
theorem d_La_law_342 : decode code 342 = .ok (.iaload, 1) := by decide +kernel
theorem d_La_law_343 : decode code 343 = .ok (.aload_n 0, 1) := by decide +kernel
theorem d_La_law_344 : decode code 344 = .ok (.iload 4, 2) := by decide +kernel
theorem d_La_law_346 : decode code 346 = .ok (.iconst (2), 1) := by decide +kernel
theorem d_La_law_347 : decode code 347 = .ok (.iadd, 1) := by decide +kernel
theorem d_La_law_348 : decode code 348 = .ok (.iaload, 1) := by decide +kernel
theorem d_La_law_349 : decode code 349 = .ok (.invokestatic 86, 3) := by decide +kernel
theorem d_La_law_352 : decode code 352 = .ok (.istore 5, 2) := by decide +kernel
theorem d_La_law_354 : decode code 354 = .ok (.aload_n 2, 1) := by decide +kernel
theorem d_La_law_355 : decode code 355 = .ok (.aload_n 0, 1) := by decide +kernel
theorem d_La_law_356 : decode code 356 = .ok (.iload 4, 2) := by decide +kernel
theorem d_La_law_358 : decode code 358 = .ok (.iconst (1), 1) := by decide +kernel
theorem d_La_law_359 : decode code 359 = .ok (.iadd, 1) := by decide +kernel
theorem d_La_law_360 : decode code 360 = .ok (.iaload, 1) := by decide +kernel
theorem d_La_law_361 : decode code 361 = .ok (.aload_n 0, 1) := by decide +kernel
theorem d_La_law_362 : decode code 362 = .ok (.iload 4, 2) := by decide +kernel
theorem d_La_law_364 : decode code 364 = .ok (.iconst (2), 1) := by decide +kernel
theorem d_La_law_365 : decode code 365 = .ok (.iadd, 1) := by decide +kernel
theorem d_La_law_366 : decode code 366 = .ok (.iaload, 1) := by decide +kernel
theorem d_La_law_367 : decode code 367 = .ok (.invokevirtual 89, 3) := by decide +kernel
theorem d_La_law_370 : decode code 370 = .ok (.aload_n 2, 1) := by decide +kernel
theorem d_La_law_371 : decode code 371 = .ok (.invokevirtual 74, 3) := by decide +kernel
theorem d_La_law_374 : decode code 374 = .ok (.iload 5, 2) := by decide +kernel
theorem d_La_law_376 : decode code 376 = .ok (.if_icmp .eq (5), 3) := by decide +kernel
theorem d_La_law_381 : decode code 381 = .ok (.goto (623), 3) := by decide +kernel
theorem d_La_law_384 : decode code 384 = .ok (.aload_n 1, 1) := by decide +kernel
theorem d_La_law_385 : decode code 385 = .ok (.aload_n 0, 1) := by decide +kernel
theorem d_La_law_386 : decode code 386 = .ok (.iload 4, 2) := by decide +kernel
theorem d_La_law_388 : decode code 388 = .ok (.iconst (1), 1) := by decide +kernel
theorem d_La_law_389 : decode code 389 = .ok (.iadd, 1) := by decide +kernel
theorem d_La_law_390 : decode code 390 = .ok (.iaload, 1) := by decide +kernel
theorem d_La_law_391 : decode code 391 = .ok (.aload_n 0, 1) := by decide +kernel
theorem d_La_law_392 : decode code 392 = .ok (.iload 4, 2) := by decide +kernel
theorem d_La_law_394 : decode code 394 = .ok (.iconst (2), 1) := by decide +kernel
theorem d_La_law_395 : decode code 395 = .ok (.iadd, 1) := by decide +kernel
theorem d_La_law_396 : decode code 396 = .ok (.iaload, 1) := by decide +kernel
theorem d_La_law_397 : decode code 397 = .ok (.invokestatic 90, 3) := by decide +kernel
theorem d_La_law_400 : decode code 400 = .ok (.istore 5, 2) := by decide +kernel
theorem d_La_law_402 : decode code 402 = .ok (.aload_n 2, 1) := by decide +kernel
theorem d_La_law_403 : decode code 403 = .ok (.aload_n 0, 1) := by decide +kernel
theorem d_La_law_404 : decode code 404 = .ok (.iload 4, 2) := by decide +kernel
theorem d_La_law_406 : decode code 406 = .ok (.iconst (1), 1) := by decide +kernel
theorem d_La_law_407 : decode code 407 = .ok (.iadd, 1) := by decide +kernel
theorem d_La_law_408 : decode code 408 = .ok (.iaload, 1) := by decide +kernel
theorem d_La_law_409 : decode code 409 = .ok (.aload_n 0, 1) := by decide +kernel
theorem d_La_law_410 : decode code 410 = .ok (.iload 4, 2) := by decide +kernel
theorem d_La_law_412 : decode code 412 = .ok (.iconst (2), 1) := by decide +kernel
theorem d_La_law_413 : decode code 413 = .ok (.iadd, 1) := by decide +kernel
theorem d_La_law_414 : decode code 414 = .ok (.iaload, 1) := by decide +kernel
theorem d_La_law_415 : decode code 415 = .ok (.invokevirtual 92, 3) := by decide +kernel
theorem d_La_law_418 : decode code 418 = .ok (.aload_n 2, 1) := by decide +kernel
theorem d_La_law_419 : decode code 419 = .ok (.invokevirtual 74, 3) := by decide +kernel
theorem d_La_law_422 : decode code 422 = .ok (.iload 5, 2) := by decide +kernel
theorem d_La_law_424 : decode code 424 = .ok (.if_icmp .eq (5), 3) := by decide +kernel
theorem d_La_law_429 : decode code 429 = .ok (.goto (575), 3) := by decide +kernel
theorem d_La_law_432 : decode code 432 = .ok (.aload_n 1, 1) := by decide +kernel
theorem d_La_law_433 : decode code 433 = .ok (.aload_n 0, 1) := by decide +kernel
theorem d_La_law_434 : decode code 434 = .ok (.iload 4, 2) := by decide +kernel
theorem d_La_law_436 : decode code 436 = .ok (.iconst (1), 1) := by decide +kernel
theorem d_La_law_437 : decode code 437 = .ok (.iadd, 1) := by decide +kernel
theorem d_La_law_438 : decode code 438 = .ok (.iaload, 1) := by decide +kernel
theorem d_La_law_439 : decode code 439 = .ok (.aload_n 0, 1) := by decide +kernel
theorem d_La_law_440 : decode code 440 = .ok (.iload 4, 2) := by decide +kernel
theorem d_La_law_442 : decode code 442 = .ok (.iconst (2), 1) := by decide +kernel
theorem d_La_law_443 : decode code 443 = .ok (.iadd, 1) := by decide +kernel
theorem d_La_law_444 : decode code 444 = .ok (.iaload, 1) := by decide +kernel
theorem d_La_law_445 : decode code 445 = .ok (.invokestatic 93, 3) := by decide +kernel
theorem d_La_law_448 : decode code 448 = .ok (.istore 5, 2) := by decide +kernel
theorem d_La_law_450 : decode code 450 = .ok (.aload_n 2, 1) := by decide +kernel
theorem d_La_law_451 : decode code 451 = .ok (.aload_n 0, 1) := by decide +kernel
theorem d_La_law_452 : decode code 452 = .ok (.iload 4, 2) := by decide +kernel
theorem d_La_law_454 : decode code 454 = .ok (.iconst (1), 1) := by decide +kernel
theorem d_La_law_455 : decode code 455 = .ok (.iadd, 1) := by decide +kernel
theorem d_La_law_456 : decode code 456 = .ok (.iaload, 1) := by decide +kernel
theorem d_La_law_457 : decode code 457 = .ok (.aload_n 0, 1) := by decide +kernel
theorem d_La_law_458 : decode code 458 = .ok (.iload 4, 2) := by decide +kernel
theorem d_La_law_460 : decode code 460 = .ok (.iconst (2), 1) := by decide +kernel
theorem d_La_law_461 : decode code 461 = .ok (.iadd, 1) := by decide +kernel
theorem d_La_law_462 : decode code 462 = .ok (.iaload, 1) := by decide +kernel
theorem d_La_law_463 : decode code 463 = .ok (.invokevirtual 95, 3) := by decide +kernel
theorem d_La_law_466 : decode code 466 = .ok (.aload_n 2, 1) := by decide +kernel
theorem d_La_law_467 : decode code 467 = .ok (.invokevirtual 74, 3) := by decide +kernel
theorem d_La_law_470 : decode code 470 = .ok (.iload 5, 2) := by decide +kernel
theorem d_La_law_472 : decode code 472 = .ok (.if_icmp .eq (5), 3) := by decide +kernel
theorem d_La_law_477 : decode code 477 = .ok (.goto (527), 3) := by decide +kernel
theorem d_La_law_480 : decode code 480 = .ok (.aload_n 1, 1) := by decide +kernel
theorem d_La_law_481 : decode code 481 = .ok (.aload_n 0, 1) := by decide +kernel
theorem d_La_law_482 : decode code 482 = .ok (.iload 4, 2) := by decide +kernel
theorem d_La_law_484 : decode code 484 = .ok (.iconst (1), 1) := by decide +kernel
theorem d_La_law_485 : decode code 485 = .ok (.iadd, 1) := by decide +kernel
theorem d_La_law_486 : decode code 486 = .ok (.iaload, 1) := by decide +kernel
theorem d_La_law_487 : decode code 487 = .ok (.invokestatic 96, 3) := by decide +kernel
theorem d_La_law_490 : decode code 490 = .ok (.istore 5, 2) := by decide +kernel
theorem d_La_law_492 : decode code 492 = .ok (.aload_n 2, 1) := by decide +kernel
theorem d_La_law_493 : decode code 493 = .ok (.aload_n 0, 1) := by decide +kernel
theorem d_La_law_494 : decode code 494 = .ok (.iload 4, 2) := by decide +kernel
theorem d_La_law_496 : decode code 496 = .ok (.iconst (1), 1) := by decide +kernel
theorem d_La_law_497 : decode code 497 = .ok (.iadd, 1) := by decide +kernel
theorem d_La_law_498 : decode code 498 = .ok (.iaload, 1) := by decide +kernel
theorem d_La_law_499 : decode code 499 = .ok (.invokevirtual 99, 3) := by decide +kernel
theorem d_La_law_502 : decode code 502 = .ok (.aload_n 2, 1) := by decide +kernel
theorem d_La_law_503 : decode code 503 = .ok (.invokevirtual 74, 3) := by decide +kernel
theorem d_La_law_506 : decode code 506 = .ok (.iload 5, 2) := by decide +kernel
theorem d_La_law_508 : decode code 508 = .ok (.if_icmp .eq (5), 3) := by decide +kernel
theorem d_La_law_513 : decode code 513 = .ok (.goto (491), 3) := by decide +kernel
theorem d_La_law_516 : decode code 516 = .ok (.aload_n 1, 1) := by decide +kernel
theorem d_La_law_517 : decode code 517 = .ok (.aload_n 0, 1) := by decide +kernel
theorem d_La_law_518 : decode code 518 = .ok (.iload 4, 2) := by decide +kernel
theorem d_La_law_520 : decode code 520 = .ok (.iconst (1), 1) := by decide +kernel
theorem d_La_law_521 : decode code 521 = .ok (.iadd, 1) := by decide +kernel
theorem d_La_law_522 : decode code 522 = .ok (.iaload, 1) := by decide +kernel
theorem d_La_law_523 : decode code 523 = .ok (.aload_n 0, 1) := by decide +kernel
theorem d_La_law_524 : decode code 524 = .ok (.iload 4, 2) := by decide +kernel
theorem d_La_law_526 : decode code 526 = .ok (.iconst (2), 1) := by decide +kernel
theorem d_La_law_527 : decode code 527 = .ok (.iadd, 1) := by decide +kernel
theorem d_La_law_528 : decode code 528 = .ok (.iaload, 1) := by decide +kernel
theorem d_La_law_529 : decode code 529 = .ok (.aload_n 0, 1) := by decide +kernel
theorem d_La_law_530 : decode code 530 = .ok (.iload 4, 2) := by decide +kernel
theorem d_La_law_532 : decode code 532 = .ok (.iconst (3), 1) := by decide +kernel
theorem d_La_law_533 : decode code 533 = .ok (.iadd, 1) := by decide +kernel
theorem d_La_law_534 : decode code 534 = .ok (.iaload, 1) := by decide +kernel
theorem d_La_law_535 : decode code 535 = .ok (.aload_n 3, 1) := by decide +kernel
theorem d_La_law_536 : decode code 536 = .ok (.invokestatic 100, 3) := by decide +kernel
theorem d_La_law_539 : decode code 539 = .ok (.istore 5, 2) := by decide +kernel
theorem d_La_law_541 : decode code 541 = .ok (.aload_n 2, 1) := by decide +kernel
theorem d_La_law_542 : decode code 542 = .ok (.aload_n 0, 1) := by decide +kernel
theorem d_La_law_543 : decode code 543 = .ok (.iload 4, 2) := by decide +kernel
theorem d_La_law_545 : decode code 545 = .ok (.iconst (1), 1) := by decide +kernel
theorem d_La_law_546 : decode code 546 = .ok (.iadd, 1) := by decide +kernel
theorem d_La_law_547 : decode code 547 = .ok (.iaload, 1) := by decide +kernel
theorem d_La_law_548 : decode code 548 = .ok (.aload_n 0, 1) := by decide +kernel
theorem d_La_law_549 : decode code 549 = .ok (.iload 4, 2) := by decide +kernel
theorem d_La_law_551 : decode code 551 = .ok (.iconst (2), 1) := by decide +kernel
theorem d_La_law_552 : decode code 552 = .ok (.iadd, 1) := by decide +kernel
theorem d_La_law_553 : decode code 553 = .ok (.iaload, 1) := by decide +kernel
theorem d_La_law_554 : decode code 554 = .ok (.aload_n 0, 1) := by decide +kernel
theorem d_La_law_555 : decode code 555 = .ok (.iload 4, 2) := by decide +kernel
theorem d_La_law_557 : decode code 557 = .ok (.iconst (3), 1) := by decide +kernel
theorem d_La_law_558 : decode code 558 = .ok (.iadd, 1) := by decide +kernel
theorem d_La_law_559 : decode code 559 = .ok (.iaload, 1) := by decide +kernel
theorem d_La_law_560 : decode code 560 = .ok (.invokevirtual 102, 3) := by decide +kernel
theorem d_La_law_563 : decode code 563 = .ok (.istore 6, 2) := by decide +kernel
theorem d_La_law_565 : decode code 565 = .ok (.aload_n 2, 1) := by decide +kernel
theorem d_La_law_566 : decode code 566 = .ok (.invokevirtual 74, 3) := by decide +kernel
theorem d_La_law_569 : decode code 569 = .ok (.iload 5, 2) := by decide +kernel
theorem d_La_law_571 : decode code 571 = .ok (.if_icmp .eq (5), 3) := by decide +kernel
theorem d_La_law_576 : decode code 576 = .ok (.iload 5, 2) := by decide +kernel
theorem d_La_law_578 : decode code 578 = .ok (.ifCond .ne (15), 3) := by decide +kernel
theorem d_La_law_593 : decode code 593 = .ok (.goto (411), 3) := by decide +kernel
theorem d_La_law_596 : decode code 596 = .ok (.aload_n 1, 1) := by decide +kernel
theorem d_La_law_597 : decode code 597 = .ok (.invokevirtual 103, 3) := by decide +kernel
theorem d_La_law_600 : decode code 600 = .ok (.aload_n 2, 1) := by decide +kernel
theorem d_La_law_601 : decode code 601 = .ok (.invokevirtual 106, 3) := by decide +kernel
theorem d_La_law_604 : decode code 604 = .ok (.if_icmp .eq (400), 3) := by decide +kernel
theorem d_La_law_609 : decode code 609 = .ok (.aload_n 1, 1) := by decide +kernel
theorem d_La_law_610 : decode code 610 = .ok (.aload_n 0, 1) := by decide +kernel
theorem d_La_law_611 : decode code 611 = .ok (.iload 4, 2) := by decide +kernel
theorem d_La_law_613 : decode code 613 = .ok (.iconst (1), 1) := by decide +kernel
theorem d_La_law_614 : decode code 614 = .ok (.iadd, 1) := by decide +kernel
theorem d_La_law_615 : decode code 615 = .ok (.iaload, 1) := by decide +kernel
theorem d_La_law_616 : decode code 616 = .ok (.aload_n 0, 1) := by decide +kernel
theorem d_La_law_617 : decode code 617 = .ok (.iload 4, 2) := by decide +kernel
theorem d_La_law_619 : decode code 619 = .ok (.iconst (2), 1) := by decide +kernel
theorem d_La_law_620 : decode code 620 = .ok (.iadd, 1) := by decide +kernel
theorem d_La_law_621 : decode code 621 = .ok (.iaload, 1) := by decide +kernel
theorem d_La_law_622 : decode code 622 = .ok (.ifCond .eq (7), 3) := by decide +kernel
theorem d_La_law_625 : decode code 625 = .ok (.iconst (1), 1) := by decide +kernel
theorem d_La_law_626 : decode code 626 = .ok (.goto (4), 3) := by decide +kernel
theorem d_La_law_629 : decode code 629 = .ok (.iconst (0), 1) := by decide +kernel
theorem d_La_law_630 : decode code 630 = .ok (.aload_n 3, 1) := by decide +kernel
theorem d_La_law_631 : decode code 631 = .ok (.invokestatic 107, 3) := by decide +kernel
theorem d_La_law_634 : decode code 634 = .ok (.istore 5, 2) := by decide +kernel
theorem d_La_law_636 : decode code 636 = .ok (.aload_n 2, 1) := by decide +kernel
theorem d_La_law_637 : decode code 637 = .ok (.aload_n 0, 1) := by decide +kernel
theorem d_La_law_638 : decode code 638 = .ok (.iload 4, 2) := by decide +kernel
theorem d_La_law_640 : decode code 640 = .ok (.iconst (1), 1) := by decide +kernel
theorem d_La_law_641 : decode code 641 = .ok (.iadd, 1) := by decide +kernel
theorem d_La_law_642 : decode code 642 = .ok (.iaload, 1) := by decide +kernel
theorem d_La_law_643 : decode code 643 = .ok (.aload_n 0, 1) := by decide +kernel
theorem d_La_law_644 : decode code 644 = .ok (.iload 4, 2) := by decide +kernel
theorem d_La_law_646 : decode code 646 = .ok (.iconst (2), 1) := by decide +kernel
theorem d_La_law_647 : decode code 647 = .ok (.iadd, 1) := by decide +kernel
theorem d_La_law_648 : decode code 648 = .ok (.iaload, 1) := by decide +kernel
theorem d_La_law_649 : decode code 649 = .ok (.ifCond .eq (7), 3) := by decide +kernel
theorem d_La_law_652 : decode code 652 = .ok (.iconst (1), 1) := by decide +kernel
theorem d_La_law_653 : decode code 653 = .ok (.goto (4), 3) := by decide +kernel
theorem d_La_law_656 : decode code 656 = .ok (.iconst (0), 1) := by decide +kernel
theorem d_La_law_657 : decode code 657 = .ok (.invokevirtual 110, 3) := by decide +kernel
theorem d_La_law_660 : decode code 660 = .ok (.istore 6, 2) := by decide +kernel
theorem d_La_law_662 : decode code 662 = .ok (.aload_n 2, 1) := by decide +kernel
theorem d_La_law_663 : decode code 663 = .ok (.invokevirtual 74, 3) := by decide +kernel
theorem d_La_law_666 : decode code 666 = .ok (.iload 5, 2) := by decide +kernel
theorem d_La_law_668 : decode code 668 = .ok (.if_icmp .eq (5), 3) := by decide +kernel
theorem d_La_law_673 : decode code 673 = .ok (.iload 5, 2) := by decide +kernel
theorem d_La_law_675 : decode code 675 = .ok (.ifCond .ne (15), 3) := by decide +kernel
theorem d_La_law_690 : decode code 690 = .ok (.goto (314), 3) := by decide +kernel
theorem d_La_law_693 : decode code 693 = .ok (.aload_n 1, 1) := by decide +kernel
theorem d_La_law_694 : decode code 694 = .ok (.invokevirtual 111, 3) := by decide +kernel
theorem d_La_law_697 : decode code 697 = .ok (.aload_n 2, 1) := by decide +kernel
theorem d_La_law_698 : decode code 698 = .ok (.invokevirtual 114, 3) := by decide +kernel
theorem d_La_law_701 : decode code 701 = .ok (.if_icmp .eq (303), 3) := by decide +kernel
theorem d_La_law_706 : decode code 706 = .ok (.aload_n 1, 1) := by decide +kernel
theorem d_La_law_707 : decode code 707 = .ok (.aload_n 0, 1) := by decide +kernel
theorem d_La_law_708 : decode code 708 = .ok (.iload 4, 2) := by decide +kernel
theorem d_La_law_710 : decode code 710 = .ok (.iconst (1), 1) := by decide +kernel
theorem d_La_law_711 : decode code 711 = .ok (.iadd, 1) := by decide +kernel
theorem d_La_law_712 : decode code 712 = .ok (.iaload, 1) := by decide +kernel
theorem d_La_law_713 : decode code 713 = .ok (.aload_n 3, 1) := by decide +kernel
theorem d_La_law_714 : decode code 714 = .ok (.invokestatic 115, 3) := by decide +kernel
theorem d_La_law_717 : decode code 717 = .ok (.istore 5, 2) := by decide +kernel
theorem d_La_law_719 : decode code 719 = .ok (.aload_n 2, 1) := by decide +kernel
theorem d_La_law_720 : decode code 720 = .ok (.aload_n 0, 1) := by decide +kernel
theorem d_La_law_721 : decode code 721 = .ok (.iload 4, 2) := by decide +kernel
theorem d_La_law_723 : decode code 723 = .ok (.iconst (1), 1) := by decide +kernel
theorem d_La_law_724 : decode code 724 = .ok (.iadd, 1) := by decide +kernel
theorem d_La_law_725 : decode code 725 = .ok (.iaload, 1) := by decide +kernel
theorem d_La_law_726 : decode code 726 = .ok (.invokevirtual 118, 3) := by decide +kernel
theorem d_La_law_729 : decode code 729 = .ok (.istore 6, 2) := by decide +kernel
theorem d_La_law_731 : decode code 731 = .ok (.aload_n 2, 1) := by decide +kernel
theorem d_La_law_732 : decode code 732 = .ok (.invokevirtual 74, 3) := by decide +kernel
theorem d_La_law_735 : decode code 735 = .ok (.iload 5, 2) := by decide +kernel
theorem d_La_law_737 : decode code 737 = .ok (.if_icmp .eq (5), 3) := by decide +kernel
theorem d_La_law_742 : decode code 742 = .ok (.iload 5, 2) := by decide +kernel
theorem d_La_law_744 : decode code 744 = .ok (.ifCond .ne (15), 3) := by decide +kernel
theorem d_La_law_759 : decode code 759 = .ok (.goto (245), 3) := by decide +kernel
theorem d_La_law_762 : decode code 762 = .ok (.aload_n 1, 1) := by decide +kernel
theorem d_La_law_763 : decode code 763 = .ok (.aload_n 0, 1) := by decide +kernel
theorem d_La_law_764 : decode code 764 = .ok (.iload 4, 2) := by decide +kernel
theorem d_La_law_766 : decode code 766 = .ok (.iconst (1), 1) := by decide +kernel
theorem d_La_law_767 : decode code 767 = .ok (.iadd, 1) := by decide +kernel
theorem d_La_law_768 : decode code 768 = .ok (.iaload, 1) := by decide +kernel
theorem d_La_law_769 : decode code 769 = .ok (.aload_n 0, 1) := by decide +kernel
theorem d_La_law_770 : decode code 770 = .ok (.iload 4, 2) := by decide +kernel
theorem d_La_law_772 : decode code 772 = .ok (.iconst (2), 1) := by decide +kernel
theorem d_La_law_773 : decode code 773 = .ok (.iadd, 1) := by decide +kernel
theorem d_La_law_774 : decode code 774 = .ok (.iaload, 1) := by decide +kernel
theorem d_La_law_775 : decode code 775 = .ok (.aload_n 3, 1) := by decide +kernel
theorem d_La_law_776 : decode code 776 = .ok (.invokestatic 119, 3) := by decide +kernel
theorem d_La_law_779 : decode code 779 = .ok (.istore 5, 2) := by decide +kernel
theorem d_La_law_781 : decode code 781 = .ok (.aload_n 2, 1) := by decide +kernel
theorem d_La_law_782 : decode code 782 = .ok (.aload_n 0, 1) := by decide +kernel
theorem d_La_law_783 : decode code 783 = .ok (.iload 4, 2) := by decide +kernel
theorem d_La_law_785 : decode code 785 = .ok (.iconst (1), 1) := by decide +kernel
theorem d_La_law_786 : decode code 786 = .ok (.iadd, 1) := by decide +kernel
theorem d_La_law_787 : decode code 787 = .ok (.iaload, 1) := by decide +kernel
theorem d_La_law_788 : decode code 788 = .ok (.aload_n 0, 1) := by decide +kernel
theorem d_La_law_789 : decode code 789 = .ok (.iload 4, 2) := by decide +kernel
theorem d_La_law_791 : decode code 791 = .ok (.iconst (2), 1) := by decide +kernel
theorem d_La_law_792 : decode code 792 = .ok (.iadd, 1) := by decide +kernel
theorem d_La_law_793 : decode code 793 = .ok (.iaload, 1) := by decide +kernel
theorem d_La_law_794 : decode code 794 = .ok (.invokevirtual 122, 3) := by decide +kernel
theorem d_La_law_797 : decode code 797 = .ok (.istore 6, 2) := by decide +kernel
theorem d_La_law_799 : decode code 799 = .ok (.aload_n 2, 1) := by decide +kernel
theorem d_La_law_800 : decode code 800 = .ok (.invokevirtual 74, 3) := by decide +kernel
theorem d_La_law_803 : decode code 803 = .ok (.iload 5, 2) := by decide +kernel
theorem d_La_law_805 : decode code 805 = .ok (.if_icmp .eq (5), 3) := by decide +kernel
theorem d_La_law_810 : decode code 810 = .ok (.iload 5, 2) := by decide +kernel
theorem d_La_law_812 : decode code 812 = .ok (.ifCond .ne (15), 3) := by decide +kernel
theorem d_La_law_815 : decode code 815 = .ok (.aload_n 3, 1) := by decide +kernel
theorem d_La_law_816 : decode code 816 = .ok (.iconst (0), 1) := by decide +kernel
theorem d_La_law_817 : decode code 817 = .ok (.laload, 1) := by decide +kernel
theorem d_La_law_818 : decode code 818 = .ok (.iload 6, 2) := by decide +kernel
theorem d_La_law_820 : decode code 820 = .ok (.i2l, 1) := by decide +kernel
theorem d_La_law_821 : decode code 821 = .ok (.lcmp, 1) := by decide +kernel
theorem d_La_law_822 : decode code 822 = .ok (.ifCond .eq (5), 3) := by decide +kernel
theorem d_La_law_827 : decode code 827 = .ok (.goto (177), 3) := by decide +kernel
theorem d_La_law_830 : decode code 830 = .ok (.aload_n 1, 1) := by decide +kernel
theorem d_La_law_831 : decode code 831 = .ok (.aload_n 0, 1) := by decide +kernel
theorem d_La_law_832 : decode code 832 = .ok (.iload 4, 2) := by decide +kernel
theorem d_La_law_834 : decode code 834 = .ok (.iconst (1), 1) := by decide +kernel
theorem d_La_law_835 : decode code 835 = .ok (.iadd, 1) := by decide +kernel
theorem d_La_law_836 : decode code 836 = .ok (.iaload, 1) := by decide +kernel
theorem d_La_law_837 : decode code 837 = .ok (.aload_n 3, 1) := by decide +kernel
theorem d_La_law_838 : decode code 838 = .ok (.invokestatic 123, 3) := by decide +kernel
theorem d_La_law_841 : decode code 841 = .ok (.istore 5, 2) := by decide +kernel
theorem d_La_law_843 : decode code 843 = .ok (.aload_n 2, 1) := by decide +kernel
theorem d_La_law_844 : decode code 844 = .ok (.aload_n 0, 1) := by decide +kernel
theorem d_La_law_845 : decode code 845 = .ok (.iload 4, 2) := by decide +kernel
theorem d_La_law_847 : decode code 847 = .ok (.iconst (1), 1) := by decide +kernel
theorem d_La_law_848 : decode code 848 = .ok (.iadd, 1) := by decide +kernel
theorem d_La_law_849 : decode code 849 = .ok (.iaload, 1) := by decide +kernel
theorem d_La_law_850 : decode code 850 = .ok (.invokevirtual 125, 3) := by decide +kernel
theorem d_La_law_853 : decode code 853 = .ok (.istore 6, 2) := by decide +kernel
theorem d_La_law_855 : decode code 855 = .ok (.aload_n 2, 1) := by decide +kernel
theorem d_La_law_856 : decode code 856 = .ok (.invokevirtual 74, 3) := by decide +kernel
theorem d_La_law_859 : decode code 859 = .ok (.iload 5, 2) := by decide +kernel
theorem d_La_law_861 : decode code 861 = .ok (.if_icmp .eq (5), 3) := by decide +kernel
theorem d_La_law_866 : decode code 866 = .ok (.iload 5, 2) := by decide +kernel
theorem d_La_law_868 : decode code 868 = .ok (.ifCond .ne (15), 3) := by decide +kernel
theorem d_La_law_883 : decode code 883 = .ok (.goto (121), 3) := by decide +kernel
theorem d_La_law_886 : decode code 886 = .ok (.aload_n 1, 1) := by decide +kernel
theorem d_La_law_887 : decode code 887 = .ok (.aload_n 0, 1) := by decide +kernel
theorem d_La_law_888 : decode code 888 = .ok (.iload 4, 2) := by decide +kernel
theorem d_La_law_890 : decode code 890 = .ok (.iconst (1), 1) := by decide +kernel
theorem d_La_law_891 : decode code 891 = .ok (.iadd, 1) := by decide +kernel
theorem d_La_law_892 : decode code 892 = .ok (.iaload, 1) := by decide +kernel
theorem d_La_law_893 : decode code 893 = .ok (.invokevirtual 126, 3) := by decide +kernel
theorem d_La_law_896 : decode code 896 = .ok (.aload_n 2, 1) := by decide +kernel
theorem d_La_law_897 : decode code 897 = .ok (.aload_n 0, 1) := by decide +kernel
theorem d_La_law_898 : decode code 898 = .ok (.iload 4, 2) := by decide +kernel
theorem d_La_law_900 : decode code 900 = .ok (.iconst (1), 1) := by decide +kernel
theorem d_La_law_901 : decode code 901 = .ok (.iadd, 1) := by decide +kernel
theorem d_La_law_902 : decode code 902 = .ok (.iaload, 1) := by decide +kernel
theorem d_La_law_903 : decode code 903 = .ok (.invokevirtual 129, 3) := by decide +kernel
theorem d_La_law_906 : decode code 906 = .ok (.if_icmp .eq (98), 3) := by decide +kernel
theorem d_La_law_911 : decode code 911 = .ok (.aload_n 1, 1) := by decide +kernel
theorem d_La_law_912 : decode code 912 = .ok (.aload_n 0, 1) := by decide +kernel
theorem d_La_law_913 : decode code 913 = .ok (.iload 4, 2) := by decide +kernel
theorem d_La_law_915 : decode code 915 = .ok (.iconst (1), 1) := by decide +kernel
theorem d_La_law_916 : decode code 916 = .ok (.iadd, 1) := by decide +kernel
theorem d_La_law_917 : decode code 917 = .ok (.iaload, 1) := by decide +kernel
theorem d_La_law_918 : decode code 918 = .ok (.aload_n 3, 1) := by decide +kernel
theorem d_La_law_919 : decode code 919 = .ok (.invokestatic 130, 3) := by decide +kernel
theorem d_La_law_922 : decode code 922 = .ok (.istore 5, 2) := by decide +kernel
theorem d_La_law_924 : decode code 924 = .ok (.aload_n 2, 1) := by decide +kernel
theorem d_La_law_925 : decode code 925 = .ok (.aload_n 0, 1) := by decide +kernel
theorem d_La_law_926 : decode code 926 = .ok (.iload 4, 2) := by decide +kernel
theorem d_La_law_928 : decode code 928 = .ok (.iconst (1), 1) := by decide +kernel
theorem d_La_law_929 : decode code 929 = .ok (.iadd, 1) := by decide +kernel
theorem d_La_law_930 : decode code 930 = .ok (.iaload, 1) := by decide +kernel
theorem d_La_law_931 : decode code 931 = .ok (.invokevirtual 132, 3) := by decide +kernel
theorem d_La_law_934 : decode code 934 = .ok (.istore 6, 2) := by decide +kernel
theorem d_La_law_936 : decode code 936 = .ok (.aload_n 2, 1) := by decide +kernel
theorem d_La_law_937 : decode code 937 = .ok (.invokevirtual 74, 3) := by decide +kernel
theorem d_La_law_940 : decode code 940 = .ok (.iload 5, 2) := by decide +kernel
theorem d_La_law_942 : decode code 942 = .ok (.if_icmp .eq (5), 3) := by decide +kernel
theorem d_La_law_947 : decode code 947 = .ok (.iload 5, 2) := by decide +kernel
theorem d_La_law_949 : decode code 949 = .ok (.ifCond .ne (15), 3) := by decide +kernel
theorem d_La_law_952 : decode code 952 = .ok (.aload_n 3, 1) := by decide +kernel
theorem d_La_law_953 : decode code 953 = .ok (.iconst (0), 1) := by decide +kernel
theorem d_La_law_954 : decode code 954 = .ok (.laload, 1) := by decide +kernel
theorem d_La_law_955 : decode code 955 = .ok (.iload 6, 2) := by decide +kernel
theorem d_La_law_957 : decode code 957 = .ok (.i2l, 1) := by decide +kernel
theorem d_La_law_958 : decode code 958 = .ok (.lcmp, 1) := by decide +kernel
theorem d_La_law_959 : decode code 959 = .ok (.ifCond .eq (5), 3) := by decide +kernel
theorem d_La_law_964 : decode code 964 = .ok (.goto (40), 3) := by decide +kernel
theorem d_La_law_967 : decode code 967 = .ok (.aload_n 1, 1) := by decide +kernel
theorem d_La_law_968 : decode code 968 = .ok (.aload_n 0, 1) := by decide +kernel
theorem d_La_law_969 : decode code 969 = .ok (.iload 4, 2) := by decide +kernel
theorem d_La_law_971 : decode code 971 = .ok (.iconst (1), 1) := by decide +kernel
theorem d_La_law_972 : decode code 972 = .ok (.iadd, 1) := by decide +kernel
theorem d_La_law_973 : decode code 973 = .ok (.iaload, 1) := by decide +kernel
theorem d_La_law_974 : decode code 974 = .ok (.aload_n 0, 1) := by decide +kernel
theorem d_La_law_975 : decode code 975 = .ok (.iload 4, 2) := by decide +kernel
theorem d_La_law_977 : decode code 977 = .ok (.iconst (2), 1) := by decide +kernel
theorem d_La_law_978 : decode code 978 = .ok (.iadd, 1) := by decide +kernel
theorem d_La_law_979 : decode code 979 = .ok (.iaload, 1) := by decide +kernel
theorem d_La_law_980 : decode code 980 = .ok (.invokevirtual 133, 3) := by decide +kernel
theorem d_La_law_983 : decode code 983 = .ok (.aload_n 2, 1) := by decide +kernel
theorem d_La_law_984 : decode code 984 = .ok (.aload_n 0, 1) := by decide +kernel
theorem d_La_law_985 : decode code 985 = .ok (.iload 4, 2) := by decide +kernel
theorem d_La_law_987 : decode code 987 = .ok (.iconst (1), 1) := by decide +kernel
theorem d_La_law_988 : decode code 988 = .ok (.iadd, 1) := by decide +kernel
theorem d_La_law_989 : decode code 989 = .ok (.iaload, 1) := by decide +kernel
theorem d_La_law_990 : decode code 990 = .ok (.aload_n 0, 1) := by decide +kernel
theorem d_La_law_991 : decode code 991 = .ok (.iload 4, 2) := by decide +kernel
theorem d_La_law_993 : decode code 993 = .ok (.iconst (2), 1) := by decide +kernel
theorem d_La_law_994 : decode code 994 = .ok (.iadd, 1) := by decide +kernel
theorem d_La_law_995 : decode code 995 = .ok (.iaload, 1) := by decide +kernel
theorem d_La_law_996 : decode code 996 = .ok (.invokevirtual 137, 3) := by decide +kernel
theorem d_La_law_999 : decode code 999 = .ok (.if_icmp .eq (5), 3) := by decide +kernel
theorem d_La_law_1004 : decode code 1004 = .ok (.iinc 4 (4), 3) := by decide +kernel
theorem d_La_law_1007 : decode code 1007 = .ok (.goto (-984), 3) := by decide +kernel
theorem d_La_law_1010 : decode code 1010 = .ok (.iconst (1), 1) := by decide +kernel
theorem d_La_law_1011 : decode code 1011 = .ok (.ireturn, 1) := by decide +kernel
set_option maxRecDepth 20000 in
theorem x_end (l : Launch) {p : Program} {e : Env} {s : State} {m : MethodId} {below : List Frame} {meth : Method} {c : Code} {b : Nat} {xs : Nat → Int32} (C0 : xLw p s m meth c b 4 xs) {H : Heap} {locs : List Loc} {cells slots : Nat} {ls : Array Slot} (hl : lv_has ls 7 [(4, .int 0), (0, .ref b)]) (hS : va_S (xA s) s.heap H locs) (hc : cells ≤ 600002) (hs : slots ≤ 7302232) : W p l e { frames := 11, cells := 600002, slots := 7302232, locals := 388 } s m #[Value.ref b] below meth c H locs cells slots (lw_Z below #[Value.ref b] s) (F0 m 1004 ls []) := by
  obtain ⟨⟨hx, hb, hml, hown, hts⟩, hr, hlk, hX, hbl, hAm, hTh⟩ := id C0
  have hA : ∀ q, s.heap.size ≤ q → xA s q := fun q h => h
  have hbA : ¬ xA s b := fun h => absurd hbl (Nat.not_lt.mpr h)
  refine lv_iinc (k := 0) (v := 4) hx hb d_La_law_1004 hl rfl (by decide) (by decide) rfl (fun ls hl => ?_)
  have hl : lv_has ls 7 [(4, .int 4), (0, .ref b)] := hl
  refine lv_goto (tgt := 23) hx hb d_La_law_1007 (by decide) ?_
  refine lv_iload hx hb d_La_law_23 (lv_at hl 0 rfl) ?_
  refine lv_aload_n hx hb d_La_law_25 rfl (lv_at hl 1 rfl) ?_
  refine va_slen hx hb hX hbl hbA hS d_La_law_26 ?_
  refine xnum (v := 4) rfl ?_
  refine lv_iconst (v := 4) hx hb d_La_law_27 (by decide) ?_
  refine lv_isub hx hb d_La_law_28 ?_
  refine xnum (v := 0) (by decide) ?_
  refine lv_icmp_gt (tgt := 1010) hx hb d_La_law_29 (by decide) (fun b29 => ?_) (fun b29 => absurd b29 (by decide))
  refine lv_iconst (v := 1) hx hb d_La_law_1010 (by decide) ?_
  refine va_forget (fun q hq => hS.2.2 q hq) ?_
  refine W.widen (k := 600002) (n := 7302232) hc hs ?_
  exact lw_ret hx hb hr hlk d_La_law_1011
