/-! methods with handlers: header, contract, return, call -/
theorem xP0 {D : va_G} {cl : List vw_C} {H : Heap} : va_P D cl [] H := fun k q h => by cases h
abbrev xBW (p : Program) (s : State) (m : MethodId) (args : Array Value) (meth : Method) (c : Code) (cc : ByteArray) (nL : Nat) (Ts : List Cond) (own : String) (ret : Option FieldType) (hh : List (Nat × Nat × Nat × Nat)) : Prop :=
  CallFix p m c cc nL s args Ts own ∧ meth.sig.returnType = ret ∧ meth.locks = false ∧ c.exceptionTable.toList = tableOf hh
theorem xBW_of {l : Launch} {y : MethodName} {ws ws' : List Cond} {rm : Room} {cc : ByteArray} {maxL : Nat} {ret : Option FieldType} {hh : List (Nat × Nat × Nat × Nat)} (hw : ws = Cond.codeWith y cc maxL ret hh :: ws')
    {p : Program} {e : Env} {s : State} {m : MethodId} {args : Array Value} {below : List Frame} {meth : Method} {c : Code} {s₁ : State} (B : BodyLoose p l y (headSpec ws rm) cc maxL ret e s m args below meth c s₁) (hml : c.maxLocals = maxL) :
    xBW p s m args meth c cc maxL ws y.cls ret hh := by
  have hts := atoms_spec (ws := ws) B.pre
  have hcd : (Cond.codeWith y cc maxL ret hh).before args s = true := hts _ (by rw [hw]; exact List.mem_cons_self)
  refine ⟨⟨B.exec, B.bytes, hml, findClass_of_methodNamed B.named, hts⟩, B.returns, B.notSynchronized, ?_⟩
  obtain ⟨m9, meth9, c9, hn9, h1, h2, h3, h4, htab, h5, h6, -⟩ := Cond.codeWith_spec hcd
  cases B.named.symm.trans hn9
  cases B.method.symm.trans h1
  have hcc : c = c9 := by
    have e1 := B.here.code
    rw [State.code?_eq] at e1
    have e2 : s₁.vm = s.vm := by rw [B.state]; rfl
    rw [e2, h1] at e1
    exact (Option.some.inj (h2.symm.trans e1)).symm
  rw [hcc, ← htab, table_eq]
theorem xMiW_of {l : Launch} {y : MethodName} {wy ws' : List Cond} {rm : Room} {cc : ByteArray} {maxL : Nat} {ret : Option FieldType} {hh : List (Nat × Nat × Nat × Nat)} {D : va_G} {cl : List vw_C} {av : List Value} {sz : Nat} {tys : List (ClassId × FieldType)} {ws : va_W} {S : Type} {post : Int32 → S → Prop} {w1 : S → va_W} {t1 : S → List (ClassId × FieldType)}
    (hy : plainName y.cls = true) (hw : wy = Cond.codeWith y cc maxL ret hh :: ws') (hav : (lg_sl av).length ≤ maxL)
    (body : ∀ (p : Program) (e : Env) (s : State) (m : MethodId) (args : Array Value) (below : List Frame) (meth : Method) (c : Code) (ls : Array Slot) (A : Nat → Prop), xBW p s m args meth c cc maxL wy y.cls ret hh → va_A ws s.heap.size = A → (∀ q, s.heap.size ≤ q → A q) → s.heap.size = sz → va_P D cl ws s.heap → va_K D cl tys s → va_D A ws → va_S A s.heap s.heap [] → xAmb s → xTh s s.heap → (∀ q, A q → ∀ cell, s.heap[q]? = some cell → cell.vm.isStatics = false) → lv_has ls maxL (lv_args 0 av) →
      W p l e rm s m args below meth c s.heap [] 0 0 (MQ below (va_Qi post (xBh D cl A w1 t1) A) args s rm.cells rm.slots A) (F0 m 0 ls [])) : xMi l y wy rm D cl av sz tys ws post w1 t1 := by
  refine va_MetW (cc := cc) (maxL := maxL) (ret := ret) (hh := hh) hy hw ?_
  intro p e s m args below meth c s₁ B hml hv
  obtain ⟨rfl, hsz, hP, hK, hD0, hAm, hTh⟩ := hv
  subst hsz
  have hl := lv_entry av (n := maxL) hav
  rw [lg_entry_eq]
  exact body p e s m _ below meth c _ _ (xBW_of hw B hml) rfl (fun q h => Or.inr h) rfl hP hK hD0.self va_S.rf hAm hTh (xAs rfl hP) hl
section XRW
variable {p : Program} {l : Launch} {e : Env} {R : Room} {s : State} {m : MethodId} {args : Array Value} {below : List Frame} {meth : Method} {c : Code} {H : Heap} {locs : List Loc} {cells slots : Nat} {Q : State → Prop}
variable {cc : ByteArray} {pc nL : Nat} {ls : Array Slot} {rest st0 : List Value} {A : Nat → Prop} {D : va_G} {cl : List vw_C} {Ts : List Cond} {own nm : String} {ret : Option FieldType} {mc ms : Nat} {hh : List (Nat × Nat × Nat × Nat)}
theorem xriW {S : Type} {post : Int32 → S → Prop} {w1 : S → va_W} {t1 : S → List (ClassId × FieldType)} {v : Int32} (u : S) (B : xBW p s m args meth c cc nL Ts own (some .int) hh) (hd : decode cc pc = .ok (.ireturn, 1)) (hp : post v u) (hP : va_P D cl (w1 u) H) (hK : va_K D cl (t1 u) s) (hD : va_D A (w1 u)) (hS : va_S A s.heap H locs) (hc : cells ≤ mc) (hs : slots ≤ ms) :
    W p l e R s m args below meth c H locs cells slots (MQ below (va_Qi post (xBh D cl A w1 t1) A) args s mc ms A) (F0 m pc ls [.int v]) := by
  refine W.widen (k := mc) (n := ms) hc hs ?_
  exact W.iret B.1.1 B.1.2.1 B.2.1 (fun t ht hW => ⟨⟨v, u, rfl, hp, by rw [ht]; exact hP, va_K.moved hW.alike hK, hD⟩, hS.F ht⟩) hS.2.2 hd B.2.2.1
abbrev xCW (R : Room) (s : State) (args : Array Value) (own : String) (index : Nat) (y : MethodName) (bytes : ByteArray) (maxL : Nat) (ret : Option FieldType) (hh : List (Nat × Nat × Nat × Nat)) (ws : List Cond) (rm : Room) (mc ms n : Nat) : Prop :=
  rm.cells = mc ∧ rm.slots = ms ∧ rm.frames + 1 ≤ R.frames ∧ 8 + (maxL + 11) + rm.locals ≤ R.locals ∧ (∀ w ∈ ws, ∀ (a' : Array Value) (U : State), s.WarmedH U.vm → w.before a' U = true) ∧ Cond.codeWith y bytes maxL ret hh ∈ ws ∧
  (Cond.codeWith y bytes maxL ret hh).before args s = true ∧ (Cond.initialized y.cls).before args s = true ∧ (y.cls ≠ "java/lang/invoke/MethodHandle" ∧ y.cls ≠ "java/lang/invoke/VarHandle") ∧ (∀ sig, parseMethodDescriptor y.desc = some sig → n = sig.parameters.length) ∧ (Cond.methodLink own index y).before args s = true ∧ (Cond.static y).before args s = true
theorem xCW_of {y : MethodName} {bytes : ByteArray} {maxL mc ms index : Nat} {ws ws' : List Cond} {rm : Room} (n : Nat) (ht : ∀ w ∈ Ts, w.before args s = true) (hG : GoodIn Ts ws) (hw : ws = Cond.codeWith y bytes maxL ret hh :: ws') (hrc : rm.cells = mc) (hrs : rm.slots = ms) (hini : (Cond.initialized y.cls).before args s = true) (hl : (Cond.methodLink own index y).before args s = true) (hst : (Cond.static y).before args s = true)
    (hd : y.cls ≠ "java/lang/invoke/MethodHandle" ∧ y.cls ≠ "java/lang/invoke/VarHandle" ∧ (parseMethodDescriptor y.desc).map (fun d => d.parameters.length) = some n) (hR : rm.frames + 1 ≤ R.frames ∧ 8 + (maxL + 11) + rm.locals ≤ R.locals) :
    xCW R s args own index y bytes maxL ret hh ws rm mc ms n := by
  have hc : Cond.codeWith y bytes maxL ret hh ∈ ws := by rw [hw]; exact List.mem_cons_self
  refine ⟨hrc, hrs, hR.1, hR.2, pay_in ht hG, hc, ht _ (hG _ hc).1, hini, ⟨hd.1, hd.2.1⟩, fun sig h => ?_, hl, hst⟩
  have h2 := hd.2.2
  rw [h] at h2
  exact (Option.some.inj h2).symm
theorem xrunSW {y : MethodName} {bytes : ByteArray} {maxL mc ms n index : Nat} {ws : List Cond} {rm : Room} {Pc : Array Value → State → Prop} {Qc : Array Value → State → Outcome → State → Prop} {free : Addr → Prop} {As : List Value} {g : JFrame}
    (S : CallFix p m c cc nL s args Ts own) (hM : Met l y ws rm Pc Qc mc ms free) (cw : xCW R s args own index y bytes maxL ret hh ws rm mc ms n) (hp : PreS s H Pc As)
    (hg : g.method = m) (hn : As.length = n) (hsize : g.locals.size = nL) (hstack : g.stack = As.reverse ++ rest) (hW : 2 * g.monitorRoom + (rest.map fun v => v.category).sum ≤ 8) (hdg : decode cc g.pc = .ok (.invokestatic index, 3)) (hf : cells + mc ≤ R.cells ∧ slots + ms ≤ R.slots) :
    va_Run p l e R s m args below meth c H locs cells slots mc ms g rest (Qc As.toArray) (free) := by
  obtain ⟨hrc, hrs, hfr, hlo, hws, hcw, hcode, hini, hy, hlen, hl, hstt⟩ := cw
  have hK : Back l R p e below s args y 3 8 (PreOf R mc ms Pc) (PostOf Qc mc ms free) := va_backW (hh := hh) (bytes := bytes) (maxL := maxL) (ret := ret) hM hp.1 hrc hrs hfr hlo hws hcw (fun a' U hW => word_at hW (Or.inl (by first | rfl | simp [Cond.onTables, Cond.keeps, Cond.steady])) hini)
  obtain ⟨hx, hb, hml, ho, -⟩ := S
  intro T hT X
  obtain ⟨mk, methM, cM, hnamed, hmethM, -, -, -, -, -, -, hsigM⟩ := Cond.codeWith_spec hcode
  have hstatic : methM.isStatic = true := Cond.static_spec hnamed hmethM hstt
  obtain ⟨kP, hkP, -⟩ := className_of_methodNamed hnamed
  have hinitP : kP.init = .initialized := Cond.initialized_spec (findClass_of_methodNamed hnamed) hkP hini
  obtain ⟨vm₁, X₁, hstep₁⟩ := X.invokestatic hx ho hl hnamed hmethM hstatic hkP hinitP hy (g := g) hg (argsL := As) (rest := rest) (hn.trans (hlen _ hsigM)) hstack (by rw [hb]; exact hdg)
  obtain ⟨v, ⟨U', l2, c2, s2⟩, X', ⟨g', mk2, t, L, e1, e2, hq, h1, hL, h2, h3⟩, hsteps⟩ := hK m meth c ⟨T.setVm vm₁, locs, cells, slots⟩ { g with stack := rest } (.invokestatic index) mk As.toArray X₁ hg (hsize.trans hml.symm) (by rw [hb]; exact hdg) hW (X₁.named hnamed) ⟨hf.1, hf.2, hp.2 (T.setVm vm₁) hT X₁.warmed⟩
  dsimp only [Pt.U, Pt.locs, Pt.cells, Pt.slots] at X' e1 e2 h1 h2 h3 hsteps
  subst h1; subst h2; subst h3
  exact ⟨v, (T.setVm vm₁).calling g' mk2 As.toArray, t, U', L, hT, X', hL, e1, e2, hq, fun target h => hstep₁ _ fun acts => by rw [doInvoke_state]; exact hsteps.trans h⟩
end XRW
theorem d_La_edge_0 : decode b_La_edge 0 = .ok (.aload 4, 2) := by decide +kernel
theorem d_La_edge_2 : decode b_La_edge 2 = .ok (.iconst (0), 1) := by decide +kernel
theorem d_La_edge_3 : decode b_La_edge 3 = .ok (.aload_n 0, 1) := by decide +kernel
theorem d_La_edge_4 : decode b_La_edge 4 = .ok (.iload_n 1, 1) := by decide +kernel
theorem d_La_edge_5 : decode b_La_edge 5 = .ok (.iload_n 2, 1) := by decide +kernel
theorem d_La_edge_6 : decode b_La_edge 6 = .ok (.iload_n 3, 1) := by decide +kernel
theorem d_La_edge_7 : decode b_La_edge 7 = .ok (.invokevirtual 7, 3) := by decide +kernel
theorem d_La_edge_10 : decode b_La_edge 10 = .ok (.i2l, 1) := by decide +kernel
theorem d_La_edge_11 : decode b_La_edge 11 = .ok (.lastore, 1) := by decide +kernel
theorem d_La_edge_12 : decode b_La_edge 12 = .ok (.goto (11), 3) := by decide +kernel
theorem d_La_edge_23 : decode b_La_edge 23 = .ok (.iconst (0), 1) := by decide +kernel
theorem d_La_edge_24 : decode b_La_edge 24 = .ok (.ireturn, 1) := by decide +kernel
set_option maxRecDepth 20000 in
set_option maxHeartbeats 4000000 in
theorem c_La_edge (l : Launch) (D : va_G) (fb : Nat) (gr : Nat) (bu : Nat) (gc : Nat) (gf : Nat) (gp : Nat) (oa : Nat) (di : Nat) (re : Nat) (rl : Nat) (de : Nat) (gb : Nat) (gl : Nat) (bs : Nat) (cI : ClassId) (cJ : ClassId) (x : Int32) (y : Int32) (z : Int32) (sz : Nat) (h : xokE x y z) : xMi l y_La_edge w_La_edge { frames := 8, cells := 1, slots := 6, locals := 170 } D cl [.ref fb, .int x, .int y, .int z, .ref oa] sz [(cI, .int), (cJ, .long)] [(fb, .inr (5, [.ref di, .ref gr, .ref re, .ref rl, .ref bu, .ref de])), (gr, .inr (2, [.ref gc, .ref gf, .ref gp, .ref gb, .ref gl, .int 0])), (bu, .inr (0, [.ref bs, .int 0, .int 0, .int 0])), (gc, .inl (cI, 12, .inl (fun _ => 0))), (gf, .inl (cI, 12, .inl (fun _ => 0))), (gp, .inl (cI, 12, .inl (fun _ => 0))), (oa, .inl (cJ, 1, .inr (.inl (fun _ => 0))))] (fun (r : Int32) (_ : Unit) => r = 0) (fun _ => [(oa, .inl (cJ, 1, .inr (.inl (vp_updL (fun _ => 0) (0 : Int32).toNatClampNeg ((0 : Int32).toInt64)))))]) (fun _ => []) := by
  refine xMiW_of (by decide +kernel) rfl (Nat.le_of_ble_eq_true rfl) ?_
  intro p e s m args below meth c ls A B hAe hA hsz hP hK hD hS hAm hTh hAs hl
  obtain ⟨⟨hx, hb, hml, hown, hts⟩, hret, hlk, htab⟩ := id B
  have hl : lv_has ls 6 [(0, .ref fb), (1, .int x), (2, .int y), (3, .int z), (4, .ref oa)] := hl
  refine lv_aload hx hb d_La_edge_0 (lv_at hl 4 rfl) ?_
  refine lv_iconst (v := 0) hx hb d_La_edge_2 (by decide) ?_
  refine lv_aload_n hx hb d_La_edge_3 rfl (lv_at hl 0 rfl) ?_
  refine lv_iload_n hx hb d_La_edge_4 rfl (lv_at hl 1 rfl) ?_
  refine lv_iload_n hx hb d_La_edge_5 rfl (lv_at hl 2 rfl) ?_
  refine lv_iload_n hx hb d_La_edge_6 rfl (lv_at hl 3 rfl) ?_
  have hPc := hP.sub (ws' := [(fb, .inr (5, [.ref di, .ref gr, .ref re, .ref rl, .ref bu, .ref de])), (gr, .inr (2, [.ref gc, .ref gf, .ref gp, .ref gb, .ref gl, .int 0])), (bu, .inr (0, [.ref bs, .int 0, .int 0, .int 0])), (gc, .inl (cI, 12, .inl (fun _ => 0))), (gf, .inl (cI, 12, .inl (fun _ => 0))), (gp, .inl (cI, 12, .inl (fun _ => 0)))]) [0, 1, 2, 3, 4, 5] rfl
  have hDc := hD.sub (ws' := [(fb, .inr (5, [.ref di, .ref gr, .ref re, .ref rl, .ref bu, .ref de])), (gr, .inr (2, [.ref gc, .ref gf, .ref gp, .ref gb, .ref gl, .int 0])), (bu, .inr (0, [.ref bs, .int 0, .int 0, .int 0])), (gc, .inl (cI, 12, .inl (fun _ => 0))), (gf, .inl (cI, 12, .inl (fun _ => 0))), (gp, .inl (cI, 12, .inl (fun _ => 0)))]) [0, 1, 2, 3, 4, 5] (by decide) rfl
  have hKc := hK.sub (tys' := [(cI, .int)]) [0] rfl
  refine xgi (wsC := [(fb, .inr (5, [.ref di, .ref gr, .ref re, .ref rl, .ref bu, .ref de])), (gr, .inr (2, [.ref gc, .ref gf, .ref gp, .ref gb, .ref gl, .int 0])), (bu, .inr (0, [.ref bs, .int 0, .int 0, .int 0])), (gc, .inl (cI, 12, .inl (fun _ => 0))), (gf, .inl (cI, 12, .inl (fun _ => 0))), (gp, .inl (cI, 12, .inl (fun _ => 0)))]) (wr := [(oa, .inl (cJ, 1, .inr (.inl (fun _ => 0))))]) (va_runV (As := [.int x, .int y, .int z]) (rest := [.int 0, .ref oa]) ⟨hx, hb, hml, hown, hts⟩ (c_FB_edge l  D fb gr bu gc gf gp di re rl de gb gl bs cI x y z _ h) ⟨(callB_of 3 hts (x_good k_FB_edge) rfl rfl rfl (hts _ (List.mem_cons_of_mem _ tw_1)) (hts _ (List.mem_cons_of_mem _ tw_237)) (by decide +kernel) ⟨Nat.le_of_ble_eq_true rfl, Nat.le_of_ble_eq_true rfl⟩), (hts _ (List.mem_cons_of_mem _ tw_238)), (hts _ (List.mem_cons_of_mem _ tw_239))⟩ (xP_V (va_recv (ci := 5) (q0 := 0) hK hP rfl rfl) hPc hKc hDc hAm hTh hAs hS) rfl rfl hl.1 rfl (lv_room (Nat.le_of_ble_eq_true rfl)) d_La_edge_7 ⟨Nat.le_of_ble_eq_true rfl, Nat.le_of_ble_eq_true rfl⟩) hP hD hK hS hA [0, 1, 2, 3, 4, 5] [6] rfl rfl (by decide) (by decide) (fun r1 _ H locs er1 hP hD hK hS => ?_)
  have er1 : r1 = 0 := er1
  subst er1
  have hK : va_K D cl [(cI, .int), (cJ, .long)] s := hK
  have hP : va_P D cl [(oa, .inl (cJ, 1, .inr (.inl (fun _ => 0))))] H := hP
  have hD : va_D A [(oa, .inl (cJ, 1, .inr (.inl (fun _ => 0))))] := hD
  refine lv_i2l hx hb d_La_edge_10 rfl ?_
  refine va_last hx hb hK hP hD hS 0 1 rfl rfl (by unfold vp_in; decide) d_La_edge_11 (fun H locs hP hD hS => ?_)
  have hP : va_P D cl [(oa, .inl (cJ, 1, .inr (.inl (vp_updL (fun _ => 0) (0 : Int32).toNatClampNeg ((0 : Int32).toInt64)))))] H := hP
  have hD : va_D A [(oa, .inl (cJ, 1, .inr (.inl (vp_updL (fun _ => 0) (0 : Int32).toNatClampNeg ((0 : Int32).toInt64)))))] := hD
  refine lv_goto (tgt := 23) hx hb d_La_edge_12 (by decide) ?_
  refine lv_iconst (v := 0) hx hb d_La_edge_23 (by decide) ?_
  exact xriW () B d_La_edge_24 (rfl) (hP.sub (ws' := [(oa, .inl (cJ, 1, .inr (.inl (vp_updL (fun _ => 0) (0 : Int32).toNatClampNeg ((0 : Int32).toInt64)))))]) [0] rfl) (hK.sub (tys' := []) [] rfl) (hD.sub (ws' := [(oa, .inl (cJ, 1, .inr (.inl (vp_updL (fun _ => 0) (0 : Int32).toNatClampNeg ((0 : Int32).toInt64)))))]) [0] (by decide) rfl) hS (Nat.le_of_ble_eq_true rfl) (Nat.le_of_ble_eq_true rfl)
theorem d_La_edge_15 : decode b_La_edge 15 = .ok (.astore 5, 2) := by decide +kernel
theorem d_La_edge_17 : decode b_La_edge 17 = .ok (.iconst (1), 1) := by decide +kernel
theorem d_La_edge_18 : decode b_La_edge 18 = .ok (.ireturn, 1) := by decide +kernel
set_option maxRecDepth 20000 in
set_option maxHeartbeats 4000000 in
theorem c_La_edge_t (l : Launch) (hfl : l.flags = pinnedFlags ++ [noTraceFlag]) (D : va_G) (fb : Nat) (gr : Nat) (bu : Nat) (gc : Nat) (gf : Nat) (gp : Nat) (oa : Nat) (di : Nat) (re : Nat) (rl : Nat) (de : Nat) (gb : Nat) (gl : Nat) (bs : Nat) (cI : ClassId) (cJ : ClassId) (x : Int32) (y : Int32) (z : Int32) (sz : Nat) (h : ¬ xokE x y z) : xMi l y_La_edge w_La_edge { frames := 8, cells := 1, slots := 6, locals := 170 } D cl [.ref fb, .int x, .int y, .int z, .ref oa] sz [(cI, .int), (cJ, .long)] [(fb, .inr (5, [.ref di, .ref gr, .ref re, .ref rl, .ref bu, .ref de])), (gr, .inr (2, [.ref gc, .ref gf, .ref gp, .ref gb, .ref gl, .int 0])), (bu, .inr (0, [.ref bs, .int 0, .int 0, .int 0])), (gc, .inl (cI, 12, .inl (fun _ => 0))), (gf, .inl (cI, 12, .inl (fun _ => 0))), (gp, .inl (cI, 12, .inl (fun _ => 0))), (oa, .inl (cJ, 1, .inr (.inl (fun _ => 0))))] (fun (r : Int32) (_ : Unit) => r = 1) (fun _ => []) (fun _ => []) := by
  refine xMiW_of (by decide +kernel) rfl (Nat.le_of_ble_eq_true rfl) ?_
  intro p e s m args below meth c ls A B hAe hA hsz hP hK hD hS hAm hTh hAs hl
  obtain ⟨⟨hx, hb, hml, hown, hts⟩, hret, hlk, htab⟩ := id B
  have hl : lv_has ls 6 [(0, .ref fb), (1, .int x), (2, .int y), (3, .int z), (4, .ref oa)] := hl
  refine lv_aload hx hb d_La_edge_0 (lv_at hl 4 rfl) ?_
  refine lv_iconst (v := 0) hx hb d_La_edge_2 (by decide) ?_
  refine lv_aload_n hx hb d_La_edge_3 rfl (lv_at hl 0 rfl) ?_
  refine lv_iload_n hx hb d_La_edge_4 rfl (lv_at hl 1 rfl) ?_
  refine lv_iload_n hx hb d_La_edge_5 rfl (lv_at hl 2 rfl) ?_
  refine lv_iload_n hx hb d_La_edge_6 rfl (lv_at hl 3 rfl) ?_
  have hPc := hP.sub (ws' := [(fb, .inr (5, [.ref di, .ref gr, .ref re, .ref rl, .ref bu, .ref de])), (gr, .inr (2, [.ref gc, .ref gf, .ref gp, .ref gb, .ref gl, .int 0])), (bu, .inr (0, [.ref bs, .int 0, .int 0, .int 0])), (gc, .inl (cI, 12, .inl (fun _ => 0))), (gf, .inl (cI, 12, .inl (fun _ => 0))), (gp, .inl (cI, 12, .inl (fun _ => 0)))]) [0, 1, 2, 3, 4, 5] rfl
  have hDc := hD.sub (ws' := [(fb, .inr (5, [.ref di, .ref gr, .ref re, .ref rl, .ref bu, .ref de])), (gr, .inr (2, [.ref gc, .ref gf, .ref gp, .ref gb, .ref gl, .int 0])), (bu, .inr (0, [.ref bs, .int 0, .int 0, .int 0])), (gc, .inl (cI, 12, .inl (fun _ => 0))), (gf, .inl (cI, 12, .inl (fun _ => 0))), (gp, .inl (cI, 12, .inl (fun _ => 0)))]) [0, 1, 2, 3, 4, 5] (by decide) rfl
  have hKc := hK.sub (tys' := [(cI, .int)]) [0] rfl
  have hFc := va_free (wc := [(fb, .inr (5, [.ref di, .ref gr, .ref re, .ref rl, .ref bu, .ref de])), (gr, .inr (2, [.ref gc, .ref gf, .ref gp, .ref gb, .ref gl, .int 0])), (bu, .inr (0, [.ref bs, .int 0, .int 0, .int 0])), (gc, .inl (cI, 12, .inl (fun _ => 0))), (gf, .inl (cI, 12, .inl (fun _ => 0))), (gp, .inl (cI, 12, .inl (fun _ => 0)))]) hD hS hA [0, 1, 2, 3, 4, 5] rfl
  refine xt_callV (As := [.int x, .int y, .int z]) (rest := [.int 0, .ref oa]) ⟨hx, hb, hml, hown, hts⟩ (c_FB_edge_t l hfl  D fb gr bu gc gf gp di re rl de gb gl bs cI x y z _ h) ⟨(callB_of 3 hts (x_good k_FB_edge) rfl rfl rfl (hts _ (List.mem_cons_of_mem _ tw_1)) (hts _ (List.mem_cons_of_mem _ tw_237)) (by decide +kernel) ⟨Nat.le_of_ble_eq_true rfl, Nat.le_of_ble_eq_true rfl⟩), (hts _ (List.mem_cons_of_mem _ tw_238)), (hts _ (List.mem_cons_of_mem _ tw_239))⟩ (xP_V (va_recv (ci := 5) (q0 := 0) hK hP rfl rfl) hPc hKc hDc hAm hTh hAs hS) rfl hl.1 rfl (Nat.le_of_ble_eq_true rfl) d_La_edge_7 ⟨Nat.le_of_ble_eq_true rfl, Nat.le_of_ble_eq_true rfl⟩ hS (fun q _ h => hFc q h) hFc (fun x9 cell H locs hx1 hx2 hx3 hx4 hz9 hk9 hS => ?_)
  refine xt_catch htab hown ⟨by decide, by decide, by decide, "java/lang/IllegalArgumentException", (hts _ (List.mem_cons_of_mem _ tw_235)), Or.inl ⟨rfl, va_Nw.use rfl (hAm.1 _ (List.mem_of_getElem? (i := 29) rfl))⟩⟩ hx2 hx3 hx4 ?_
  have hP : va_P D cl [] H := xP0
  have hD : va_D A [] := hD.sub (ws' := []) [] (by decide) rfl
  refine lv_astore hx hb d_La_edge_15 hl (by decide) rfl (fun ls hl => ?_)
  have hl : lv_has ls 6 [(5, .ref x9), (0, .ref fb), (1, .int x), (2, .int y), (3, .int z), (4, .ref oa)] := hl
  refine lv_iconst (v := 1) hx hb d_La_edge_17 (by decide) ?_
  exact xriW () B d_La_edge_18 (rfl) (hP.sub (ws' := []) [] rfl) (hK.sub (tys' := []) [] rfl) (hD.sub (ws' := []) [] (by decide) rfl) hS (Nat.le_of_ble_eq_true rfl) (Nat.le_of_ble_eq_true rfl)
theorem d_La_link_0 : decode b_La_link 0 = .ok (.aload_n 0, 1) := by decide +kernel
theorem d_La_link_1 : decode b_La_link 1 = .ok (.iload_n 1, 1) := by decide +kernel
theorem d_La_link_2 : decode b_La_link 2 = .ok (.iload_n 2, 1) := by decide +kernel
theorem d_La_link_3 : decode b_La_link 3 = .ok (.iload_n 3, 1) := by decide +kernel
theorem d_La_link_4 : decode b_La_link 4 = .ok (.invokevirtual 17, 3) := by decide +kernel
theorem d_La_link_10 : decode b_La_link 10 = .ok (.astore 4, 2) := by decide +kernel
theorem d_La_link_12 : decode b_La_link 12 = .ok (.iconst (1), 1) := by decide +kernel
theorem d_La_link_13 : decode b_La_link 13 = .ok (.ireturn, 1) := by decide +kernel
set_option maxRecDepth 20000 in
set_option maxHeartbeats 4000000 in
theorem c_La_link_t (l : Launch) (hfl : l.flags = pinnedFlags ++ [noTraceFlag]) (D : va_G) (fb : Nat) (gr : Nat) (di : Nat) (re : Nat) (rl : Nat) (bu : Nat) (de : Nat) (gc : Nat) (gf : Nat) (gp : Nat) (gb : Nat) (gl : Nat) (x : Int32) (y : Int32) (z : Int32) (sz : Nat)  : xMi l y_La_link w_La_link { frames := 8, cells := 1, slots := 6, locals := 170 } D cl [.ref fb, .int x, .int y, .int z] sz [] [(fb, .inr (5, [.ref di, .ref gr, .ref re, .ref rl, .ref bu, .ref de])), (gr, .inr (2, [.ref gc, .ref gf, .ref gp, .ref gb, .ref gl, .int 0]))] (fun (r : Int32) (_ : Unit) => r = 1) (fun _ => []) (fun _ => []) := by
  refine xMiW_of (by decide +kernel) rfl (Nat.le_of_ble_eq_true rfl) ?_
  intro p e s m args below meth c ls A B hAe hA hsz hP hK hD hS hAm hTh hAs hl
  obtain ⟨⟨hx, hb, hml, hown, hts⟩, hret, hlk, htab⟩ := id B
  have hl : lv_has ls 5 [(0, .ref fb), (1, .int x), (2, .int y), (3, .int z)] := hl
  refine lv_aload_n hx hb d_La_link_0 rfl (lv_at hl 0 rfl) ?_
  refine lv_iload_n hx hb d_La_link_1 rfl (lv_at hl 1 rfl) ?_
  refine lv_iload_n hx hb d_La_link_2 rfl (lv_at hl 2 rfl) ?_
  refine lv_iload_n hx hb d_La_link_3 rfl (lv_at hl 3 rfl) ?_
  have hPc := hP.sub (ws' := [(fb, .inr (5, [.ref di, .ref gr, .ref re, .ref rl, .ref bu, .ref de])), (gr, .inr (2, [.ref gc, .ref gf, .ref gp, .ref gb, .ref gl, .int 0]))]) [0, 1] rfl
  have hDc := hD.sub (ws' := [(fb, .inr (5, [.ref di, .ref gr, .ref re, .ref rl, .ref bu, .ref de])), (gr, .inr (2, [.ref gc, .ref gf, .ref gp, .ref gb, .ref gl, .int 0]))]) [0, 1] (by decide) rfl
  have hKc := hK.sub (tys' := []) [] rfl
  have hFc := va_free (wc := [(fb, .inr (5, [.ref di, .ref gr, .ref re, .ref rl, .ref bu, .ref de])), (gr, .inr (2, [.ref gc, .ref gf, .ref gp, .ref gb, .ref gl, .int 0]))]) hD hS hA [0, 1] rfl
  refine xt_callV (As := [.int x, .int y, .int z]) (rest := []) ⟨hx, hb, hml, hown, hts⟩ (c_FB_link_t l hfl  D fb gr di re rl bu de gc gf gp gb gl x y z _ ) ⟨(callB_of 3 hts (x_good k_FB_link) rfl rfl rfl (hts _ (List.mem_cons_of_mem _ tw_1)) (hts _ (List.mem_cons_of_mem _ tw_341)) (by decide +kernel) ⟨Nat.le_of_ble_eq_true rfl, Nat.le_of_ble_eq_true rfl⟩), (hts _ (List.mem_cons_of_mem _ tw_342)), (hts _ (List.mem_cons_of_mem _ tw_343))⟩ (xP_V (va_recv (ci := 5) (q0 := 0) hK hP rfl rfl) hPc hKc hDc hAm hTh hAs hS) rfl hl.1 rfl (Nat.le_of_ble_eq_true rfl) d_La_link_4 ⟨Nat.le_of_ble_eq_true rfl, Nat.le_of_ble_eq_true rfl⟩ hS (fun q _ h => hFc q h) hFc (fun x9 cell H locs hx1 hx2 hx3 hx4 hz9 hk9 hS => ?_)
  refine xt_catch htab hown ⟨by decide, by decide, by decide, "java/lang/IllegalArgumentException", (hts _ (List.mem_cons_of_mem _ tw_235)), Or.inl ⟨rfl, va_Nw.use rfl (hAm.1 _ (List.mem_of_getElem? (i := 29) rfl))⟩⟩ hx2 hx3 hx4 ?_
  have hP : va_P D cl [] H := xP0
  have hD : va_D A [] := hD.sub (ws' := []) [] (by decide) rfl
  refine lv_astore hx hb d_La_link_10 hl (by decide) rfl (fun ls hl => ?_)
  have hl : lv_has ls 5 [(4, .ref x9), (0, .ref fb), (1, .int x), (2, .int y), (3, .int z)] := hl
  refine lv_iconst (v := 1) hx hb d_La_link_12 (by decide) ?_
  exact xriW () B d_La_link_13 (rfl) (hP.sub (ws' := []) [] rfl) (hK.sub (tys' := []) [] rfl) (hD.sub (ws' := []) [] (by decide) rfl) hS (Nat.le_of_ble_eq_true rfl) (Nat.le_of_ble_eq_true rfl)
theorem d_La_reads_0 : decode b_La_reads 0 = .ok (.aload_n 0, 1) := by decide +kernel
theorem d_La_reads_1 : decode b_La_reads 1 = .ok (.iload_n 1, 1) := by decide +kernel
theorem d_La_reads_2 : decode b_La_reads 2 = .ok (.iload_n 2, 1) := by decide +kernel
theorem d_La_reads_3 : decode b_La_reads 3 = .ok (.iload_n 3, 1) := by decide +kernel
theorem d_La_reads_4 : decode b_La_reads 4 = .ok (.invokevirtual 21, 3) := by decide +kernel
theorem d_La_reads_10 : decode b_La_reads 10 = .ok (.astore 4, 2) := by decide +kernel
theorem d_La_reads_12 : decode b_La_reads 12 = .ok (.iconst (1), 1) := by decide +kernel
theorem d_La_reads_13 : decode b_La_reads 13 = .ok (.ireturn, 1) := by decide +kernel
set_option maxRecDepth 20000 in
set_option maxHeartbeats 4000000 in
theorem c_La_reads_t (l : Launch) (hfl : l.flags = pinnedFlags ++ [noTraceFlag]) (D : va_G) (fb : Nat) (gr : Nat) (di : Nat) (re : Nat) (rl : Nat) (bu : Nat) (de : Nat) (gc : Nat) (gf : Nat) (gp : Nat) (gb : Nat) (gl : Nat) (x : Int32) (y : Int32) (z : Int32) (sz : Nat)  : xMi l y_La_reads w_La_reads { frames := 8, cells := 1, slots := 6, locals := 170 } D cl [.ref fb, .int x, .int y, .int z] sz [] [(fb, .inr (5, [.ref di, .ref gr, .ref re, .ref rl, .ref bu, .ref de])), (gr, .inr (2, [.ref gc, .ref gf, .ref gp, .ref gb, .ref gl, .int 0]))] (fun (r : Int32) (_ : Unit) => r = 1) (fun _ => []) (fun _ => []) := by
  refine xMiW_of (by decide +kernel) rfl (Nat.le_of_ble_eq_true rfl) ?_
  intro p e s m args below meth c ls A B hAe hA hsz hP hK hD hS hAm hTh hAs hl
  obtain ⟨⟨hx, hb, hml, hown, hts⟩, hret, hlk, htab⟩ := id B
  have hl : lv_has ls 5 [(0, .ref fb), (1, .int x), (2, .int y), (3, .int z)] := hl
  refine lv_aload_n hx hb d_La_reads_0 rfl (lv_at hl 0 rfl) ?_
  refine lv_iload_n hx hb d_La_reads_1 rfl (lv_at hl 1 rfl) ?_
  refine lv_iload_n hx hb d_La_reads_2 rfl (lv_at hl 2 rfl) ?_
  refine lv_iload_n hx hb d_La_reads_3 rfl (lv_at hl 3 rfl) ?_
  have hPc := hP.sub (ws' := [(fb, .inr (5, [.ref di, .ref gr, .ref re, .ref rl, .ref bu, .ref de])), (gr, .inr (2, [.ref gc, .ref gf, .ref gp, .ref gb, .ref gl, .int 0]))]) [0, 1] rfl
  have hDc := hD.sub (ws' := [(fb, .inr (5, [.ref di, .ref gr, .ref re, .ref rl, .ref bu, .ref de])), (gr, .inr (2, [.ref gc, .ref gf, .ref gp, .ref gb, .ref gl, .int 0]))]) [0, 1] (by decide) rfl
  have hKc := hK.sub (tys' := []) [] rfl
  have hFc := va_free (wc := [(fb, .inr (5, [.ref di, .ref gr, .ref re, .ref rl, .ref bu, .ref de])), (gr, .inr (2, [.ref gc, .ref gf, .ref gp, .ref gb, .ref gl, .int 0]))]) hD hS hA [0, 1] rfl
  refine xt_callV (As := [.int x, .int y, .int z]) (rest := []) ⟨hx, hb, hml, hown, hts⟩ (c_FB_reads_t l hfl  D fb gr di re rl bu de gc gf gp gb gl x y z _ ) ⟨(callB_of 3 hts (x_good k_FB_reads) rfl rfl rfl (hts _ (List.mem_cons_of_mem _ tw_1)) (hts _ (List.mem_cons_of_mem _ tw_378)) (by decide +kernel) ⟨Nat.le_of_ble_eq_true rfl, Nat.le_of_ble_eq_true rfl⟩), (hts _ (List.mem_cons_of_mem _ tw_379)), (hts _ (List.mem_cons_of_mem _ tw_380))⟩ (xP_V (va_recv (ci := 5) (q0 := 0) hK hP rfl rfl) hPc hKc hDc hAm hTh hAs hS) rfl hl.1 rfl (Nat.le_of_ble_eq_true rfl) d_La_reads_4 ⟨Nat.le_of_ble_eq_true rfl, Nat.le_of_ble_eq_true rfl⟩ hS (fun q _ h => hFc q h) hFc (fun x9 cell H locs hx1 hx2 hx3 hx4 hz9 hk9 hS => ?_)
  refine xt_catch htab hown ⟨by decide, by decide, by decide, "java/lang/IllegalArgumentException", (hts _ (List.mem_cons_of_mem _ tw_235)), Or.inl ⟨rfl, va_Nw.use rfl (hAm.1 _ (List.mem_of_getElem? (i := 29) rfl))⟩⟩ hx2 hx3 hx4 ?_
  have hP : va_P D cl [] H := xP0
  have hD : va_D A [] := hD.sub (ws' := []) [] (by decide) rfl
  refine lv_astore hx hb d_La_reads_10 hl (by decide) rfl (fun ls hl => ?_)
  have hl : lv_has ls 5 [(4, .ref x9), (0, .ref fb), (1, .int x), (2, .int y), (3, .int z)] := hl
  refine lv_iconst (v := 1) hx hb d_La_reads_12 (by decide) ?_
  exact xriW () B d_La_reads_13 (rfl) (hP.sub (ws' := []) [] rfl) (hK.sub (tys' := []) [] rfl) (hD.sub (ws' := []) [] (by decide) rfl) hS (Nat.le_of_ble_eq_true rfl) (Nat.le_of_ble_eq_true rfl)
theorem d_La_command_0 : decode b_La_command 0 = .ok (.aload_n 0, 1) := by decide +kernel
theorem d_La_command_1 : decode b_La_command 1 = .ok (.iload_n 1, 1) := by decide +kernel
theorem d_La_command_2 : decode b_La_command 2 = .ok (.iload_n 2, 1) := by decide +kernel
theorem d_La_command_3 : decode b_La_command 3 = .ok (.invokevirtual 25, 3) := by decide +kernel
theorem d_La_command_9 : decode b_La_command 9 = .ok (.astore_n 3, 1) := by decide +kernel
theorem d_La_command_10 : decode b_La_command 10 = .ok (.iconst (1), 1) := by decide +kernel
theorem d_La_command_11 : decode b_La_command 11 = .ok (.ireturn, 1) := by decide +kernel
set_option maxRecDepth 20000 in
set_option maxHeartbeats 4000000 in
theorem c_La_command_t (l : Launch) (hfl : l.flags = pinnedFlags ++ [noTraceFlag]) (D : va_G) (fb : Nat) (gr : Nat) (di : Nat) (re : Nat) (rl : Nat) (bu : Nat) (de : Nat) (gc : Nat) (gf : Nat) (gp : Nat) (gb : Nat) (gl : Nat) (x : Int32) (y : Int32) (sz : Nat)  : xMi l y_La_command w_La_command { frames := 8, cells := 1, slots := 6, locals := 170 } D cl [.ref fb, .int x, .int y] sz [] [(fb, .inr (5, [.ref di, .ref gr, .ref re, .ref rl, .ref bu, .ref de])), (gr, .inr (2, [.ref gc, .ref gf, .ref gp, .ref gb, .ref gl, .int 0]))] (fun (r : Int32) (_ : Unit) => r = 1) (fun _ => []) (fun _ => []) := by
  refine xMiW_of (by decide +kernel) rfl (Nat.le_of_ble_eq_true rfl) ?_
  intro p e s m args below meth c ls A B hAe hA hsz hP hK hD hS hAm hTh hAs hl
  obtain ⟨⟨hx, hb, hml, hown, hts⟩, hret, hlk, htab⟩ := id B
  have hl : lv_has ls 4 [(0, .ref fb), (1, .int x), (2, .int y)] := hl
  refine lv_aload_n hx hb d_La_command_0 rfl (lv_at hl 0 rfl) ?_
  refine lv_iload_n hx hb d_La_command_1 rfl (lv_at hl 1 rfl) ?_
  refine lv_iload_n hx hb d_La_command_2 rfl (lv_at hl 2 rfl) ?_
  have hPc := hP.sub (ws' := [(fb, .inr (5, [.ref di, .ref gr, .ref re, .ref rl, .ref bu, .ref de])), (gr, .inr (2, [.ref gc, .ref gf, .ref gp, .ref gb, .ref gl, .int 0]))]) [0, 1] rfl
  have hDc := hD.sub (ws' := [(fb, .inr (5, [.ref di, .ref gr, .ref re, .ref rl, .ref bu, .ref de])), (gr, .inr (2, [.ref gc, .ref gf, .ref gp, .ref gb, .ref gl, .int 0]))]) [0, 1] (by decide) rfl
  have hKc := hK.sub (tys' := []) [] rfl
  have hFc := va_free (wc := [(fb, .inr (5, [.ref di, .ref gr, .ref re, .ref rl, .ref bu, .ref de])), (gr, .inr (2, [.ref gc, .ref gf, .ref gp, .ref gb, .ref gl, .int 0]))]) hD hS hA [0, 1] rfl
  refine xt_callV (As := [.int x, .int y]) (rest := []) ⟨hx, hb, hml, hown, hts⟩ (c_FB_command_t l hfl  D fb gr di re rl bu de gc gf gp gb gl x y _ ) ⟨(callB_of 2 hts (x_good k_FB_command) rfl rfl rfl (hts _ (List.mem_cons_of_mem _ tw_1)) (hts _ (List.mem_cons_of_mem _ tw_387)) (by decide +kernel) ⟨Nat.le_of_ble_eq_true rfl, Nat.le_of_ble_eq_true rfl⟩), (hts _ (List.mem_cons_of_mem _ tw_388)), (hts _ (List.mem_cons_of_mem _ tw_389))⟩ (xP_V (va_recv (ci := 5) (q0 := 0) hK hP rfl rfl) hPc hKc hDc hAm hTh hAs hS) rfl hl.1 rfl (Nat.le_of_ble_eq_true rfl) d_La_command_3 ⟨Nat.le_of_ble_eq_true rfl, Nat.le_of_ble_eq_true rfl⟩ hS (fun q _ h => hFc q h) hFc (fun x9 cell H locs hx1 hx2 hx3 hx4 hz9 hk9 hS => ?_)
  refine xt_catch htab hown ⟨by decide, by decide, by decide, "java/lang/IllegalArgumentException", (hts _ (List.mem_cons_of_mem _ tw_235)), Or.inl ⟨rfl, va_Nw.use rfl (hAm.1 _ (List.mem_of_getElem? (i := 29) rfl))⟩⟩ hx2 hx3 hx4 ?_
  have hP : va_P D cl [] H := xP0
  have hD : va_D A [] := hD.sub (ws' := []) [] (by decide) rfl
  refine lv_astore_n hx hb d_La_command_9 rfl hl (by decide) rfl (fun ls hl => ?_)
  have hl : lv_has ls 4 [(3, .ref x9), (0, .ref fb), (1, .int x), (2, .int y)] := hl
  refine lv_iconst (v := 1) hx hb d_La_command_10 (by decide) ?_
  exact xriW () B d_La_command_11 (rfl) (hP.sub (ws' := []) [] rfl) (hK.sub (tys' := []) [] rfl) (hD.sub (ws' := []) [] (by decide) rfl) hS (Nat.le_of_ble_eq_true rfl) (Nat.le_of_ble_eq_true rfl)
theorem d_La_pool_0 : decode b_La_pool 0 = .ok (.aload_n 0, 1) := by decide +kernel
theorem d_La_pool_1 : decode b_La_pool 1 = .ok (.iload_n 1, 1) := by decide +kernel
theorem d_La_pool_2 : decode b_La_pool 2 = .ok (.iload_n 2, 1) := by decide +kernel
theorem d_La_pool_3 : decode b_La_pool 3 = .ok (.invokevirtual 29, 3) := by decide +kernel
theorem d_La_pool_6 : decode b_La_pool 6 = .ok (.goto (9), 3) := by decide +kernel
theorem d_La_pool_15 : decode b_La_pool 15 = .ok (.iconst (0), 1) := by decide +kernel
theorem d_La_pool_16 : decode b_La_pool 16 = .ok (.ireturn, 1) := by decide +kernel
set_option maxRecDepth 20000 in
set_option maxHeartbeats 4000000 in
theorem c_La_pool (l : Launch) (D : va_G) (fb : Nat) (bu : Nat) (de : Nat) (di : Nat) (gr : Nat) (re : Nat) (rl : Nat) (bs : Nat) (cI : ClassId) (x : Int32) (y : Int32) (sz : Nat) (h : xIn x 1 2 = 1 ∧ xIn y 1 4 = 1) : xMi l y_La_pool w_La_pool { frames := 8, cells := 1, slots := 6, locals := 170 } D cl [.ref fb, .int x, .int y] sz [(cI, .int)] [(fb, .inr (5, [.ref di, .ref gr, .ref re, .ref rl, .ref bu, .ref de])), (bu, .inr (0, [.ref bs, .int 0, .int 0, .int 0])), (de, .inl (cI, 3, .inl (fun _ => 1)))] (fun (r : Int32) (_ : Unit) => r = 0) (fun _ => []) (fun _ => []) := by
  refine xMiW_of (by decide +kernel) rfl (Nat.le_of_ble_eq_true rfl) ?_
  intro p e s m args below meth c ls A B hAe hA hsz hP hK hD hS hAm hTh hAs hl
  obtain ⟨⟨hx, hb, hml, hown, hts⟩, hret, hlk, htab⟩ := id B
  have hl : lv_has ls 4 [(0, .ref fb), (1, .int x), (2, .int y)] := hl
  refine lv_aload_n hx hb d_La_pool_0 rfl (lv_at hl 0 rfl) ?_
  refine lv_iload_n hx hb d_La_pool_1 rfl (lv_at hl 1 rfl) ?_
  refine lv_iload_n hx hb d_La_pool_2 rfl (lv_at hl 2 rfl) ?_
  have hPc := hP.sub (ws' := [(fb, .inr (5, [.ref di, .ref gr, .ref re, .ref rl, .ref bu, .ref de])), (bu, .inr (0, [.ref bs, .int 0, .int 0, .int 0])), (de, .inl (cI, 3, .inl (fun _ => 1)))]) [0, 1, 2] rfl
  have hDc := hD.sub (ws' := [(fb, .inr (5, [.ref di, .ref gr, .ref re, .ref rl, .ref bu, .ref de])), (bu, .inr (0, [.ref bs, .int 0, .int 0, .int 0])), (de, .inl (cI, 3, .inl (fun _ => 1)))]) [0, 1, 2] (by decide) rfl
  have hKc := hK.sub (tys' := [(cI, .int)]) [0] rfl
  refine xgv (wsC := [(fb, .inr (5, [.ref di, .ref gr, .ref re, .ref rl, .ref bu, .ref de])), (bu, .inr (0, [.ref bs, .int 0, .int 0, .int 0])), (de, .inl (cI, 3, .inl (fun _ => 1)))]) (wr := []) (va_runV (As := [.int x, .int y]) (rest := []) ⟨hx, hb, hml, hown, hts⟩ (c_FB_pool l  D fb bu de di gr re rl bs cI x y _ h) ⟨(callB_of 2 hts (x_good k_FB_pool) rfl rfl rfl (hts _ (List.mem_cons_of_mem _ tw_1)) (hts _ (List.mem_cons_of_mem _ tw_400)) (by decide +kernel) ⟨Nat.le_of_ble_eq_true rfl, Nat.le_of_ble_eq_true rfl⟩), (hts _ (List.mem_cons_of_mem _ tw_401)), (hts _ (List.mem_cons_of_mem _ tw_402))⟩ (xP_V (va_recv (ci := 5) (q0 := 0) hK hP rfl rfl) hPc hKc hDc hAm hTh hAs hS) rfl rfl hl.1 rfl (lv_room (Nat.le_of_ble_eq_true rfl)) d_La_pool_3 ⟨Nat.le_of_ble_eq_true rfl, Nat.le_of_ble_eq_true rfl⟩) hP hD hK hS hA [0, 1, 2] [] rfl rfl (by decide) (by decide) (fun _ H locs _ hP hD hK hS => ?_)
  have hK : va_K D cl [(cI, .int)] s := hK
  have hP : va_P D cl [] H := hP
  have hD : va_D A [] := hD
  refine lv_goto (tgt := 15) hx hb d_La_pool_6 (by decide) ?_
  refine lv_iconst (v := 0) hx hb d_La_pool_15 (by decide) ?_
  exact xriW () B d_La_pool_16 (rfl) (hP.sub (ws' := []) [] rfl) (hK.sub (tys' := []) [] rfl) (hD.sub (ws' := []) [] (by decide) rfl) hS (Nat.le_of_ble_eq_true rfl) (Nat.le_of_ble_eq_true rfl)
theorem d_La_pool_9 : decode b_La_pool 9 = .ok (.astore_n 3, 1) := by decide +kernel
theorem d_La_pool_10 : decode b_La_pool 10 = .ok (.iconst (1), 1) := by decide +kernel
theorem d_La_pool_11 : decode b_La_pool 11 = .ok (.ireturn, 1) := by decide +kernel
set_option maxRecDepth 20000 in
set_option maxHeartbeats 4000000 in
theorem c_La_pool_t (l : Launch) (hfl : l.flags = pinnedFlags ++ [noTraceFlag]) (D : va_G) (fb : Nat) (bu : Nat) (de : Nat) (di : Nat) (gr : Nat) (re : Nat) (rl : Nat) (bs : Nat) (cI : ClassId) (x : Int32) (y : Int32) (sz : Nat) (h : ¬ (xIn x 1 2 = 1 ∧ xIn y 1 4 = 1)) : xMi l y_La_pool w_La_pool { frames := 8, cells := 1, slots := 6, locals := 170 } D cl [.ref fb, .int x, .int y] sz [(cI, .int)] [(fb, .inr (5, [.ref di, .ref gr, .ref re, .ref rl, .ref bu, .ref de])), (bu, .inr (0, [.ref bs, .int 0, .int 0, .int 0])), (de, .inl (cI, 3, .inl (fun _ => 1)))] (fun (r : Int32) (_ : Unit) => r = 1) (fun _ => []) (fun _ => []) := by
  refine xMiW_of (by decide +kernel) rfl (Nat.le_of_ble_eq_true rfl) ?_
  intro p e s m args below meth c ls A B hAe hA hsz hP hK hD hS hAm hTh hAs hl
  obtain ⟨⟨hx, hb, hml, hown, hts⟩, hret, hlk, htab⟩ := id B
  have hl : lv_has ls 4 [(0, .ref fb), (1, .int x), (2, .int y)] := hl
  refine lv_aload_n hx hb d_La_pool_0 rfl (lv_at hl 0 rfl) ?_
  refine lv_iload_n hx hb d_La_pool_1 rfl (lv_at hl 1 rfl) ?_
  refine lv_iload_n hx hb d_La_pool_2 rfl (lv_at hl 2 rfl) ?_
  have hPc := hP.sub (ws' := [(fb, .inr (5, [.ref di, .ref gr, .ref re, .ref rl, .ref bu, .ref de])), (bu, .inr (0, [.ref bs, .int 0, .int 0, .int 0])), (de, .inl (cI, 3, .inl (fun _ => 1)))]) [0, 1, 2] rfl
  have hDc := hD.sub (ws' := [(fb, .inr (5, [.ref di, .ref gr, .ref re, .ref rl, .ref bu, .ref de])), (bu, .inr (0, [.ref bs, .int 0, .int 0, .int 0])), (de, .inl (cI, 3, .inl (fun _ => 1)))]) [0, 1, 2] (by decide) rfl
  have hKc := hK.sub (tys' := [(cI, .int)]) [0] rfl
  have hFc := va_free (wc := [(fb, .inr (5, [.ref di, .ref gr, .ref re, .ref rl, .ref bu, .ref de])), (bu, .inr (0, [.ref bs, .int 0, .int 0, .int 0])), (de, .inl (cI, 3, .inl (fun _ => 1)))]) hD hS hA [0, 1, 2] rfl
  refine xt_callV (As := [.int x, .int y]) (rest := []) ⟨hx, hb, hml, hown, hts⟩ (c_FB_pool_t l hfl  D fb bu de di gr re rl bs cI x y _ h) ⟨(callB_of 2 hts (x_good k_FB_pool) rfl rfl rfl (hts _ (List.mem_cons_of_mem _ tw_1)) (hts _ (List.mem_cons_of_mem _ tw_400)) (by decide +kernel) ⟨Nat.le_of_ble_eq_true rfl, Nat.le_of_ble_eq_true rfl⟩), (hts _ (List.mem_cons_of_mem _ tw_401)), (hts _ (List.mem_cons_of_mem _ tw_402))⟩ (xP_V (va_recv (ci := 5) (q0 := 0) hK hP rfl rfl) hPc hKc hDc hAm hTh hAs hS) rfl hl.1 rfl (Nat.le_of_ble_eq_true rfl) d_La_pool_3 ⟨Nat.le_of_ble_eq_true rfl, Nat.le_of_ble_eq_true rfl⟩ hS (fun q _ h => hFc q h) hFc (fun x9 cell H locs hx1 hx2 hx3 hx4 hz9 hk9 hS => ?_)
  refine xt_catch htab hown ⟨by decide, by decide, by decide, "java/lang/IllegalArgumentException", (hts _ (List.mem_cons_of_mem _ tw_235)), Or.inl ⟨rfl, va_Nw.use rfl (hAm.1 _ (List.mem_of_getElem? (i := 29) rfl))⟩⟩ hx2 hx3 hx4 ?_
  have hP : va_P D cl [] H := xP0
  have hD : va_D A [] := hD.sub (ws' := []) [] (by decide) rfl
  refine lv_astore_n hx hb d_La_pool_9 rfl hl (by decide) rfl (fun ls hl => ?_)
  have hl : lv_has ls 4 [(3, .ref x9), (0, .ref fb), (1, .int x), (2, .int y)] := hl
  refine lv_iconst (v := 1) hx hb d_La_pool_10 (by decide) ?_
  exact xriW () B d_La_pool_11 (rfl) (hP.sub (ws' := []) [] rfl) (hK.sub (tys' := []) [] rfl) (hD.sub (ws' := []) [] (by decide) rfl) hS (Nat.le_of_ble_eq_true rfl) (Nat.le_of_ble_eq_true rfl)
theorem d_La_write_0 : decode b_La_write 0 = .ok (.aload_n 0, 1) := by decide +kernel
theorem d_La_write_1 : decode b_La_write 1 = .ok (.iload_n 1, 1) := by decide +kernel
theorem d_La_write_2 : decode b_La_write 2 = .ok (.iload_n 2, 1) := by decide +kernel
theorem d_La_write_3 : decode b_La_write 3 = .ok (.invokevirtual 32, 3) := by decide +kernel
theorem d_La_write_6 : decode b_La_write 6 = .ok (.goto (9), 3) := by decide +kernel
theorem d_La_write_15 : decode b_La_write 15 = .ok (.iconst (0), 1) := by decide +kernel
theorem d_La_write_16 : decode b_La_write 16 = .ok (.ireturn, 1) := by decide +kernel
set_option maxRecDepth 20000 in
set_option maxHeartbeats 4000000 in
theorem c_La_write (l : Launch) (D : va_G) (fb : Nat) (gr : Nat) (bu : Nat) (di : Nat) (ct : Nat) (ti : Nat) (re : Nat) (rl : Nat) (de : Nat) (gc : Nat) (gf : Nat) (gp : Nat) (gb : Nat) (gl : Nat) (bs : Nat) (cI : ClassId) (x : Int32) (y : Int32) (sz : Nat) (h : xIn x 0 23 = 1) : xMi l y_La_write w_La_write { frames := 8, cells := 1, slots := 6, locals := 170 } D cl [.ref fb, .int x, .int y] sz [(cI, .int)] [(fb, .inr (5, [.ref di, .ref gr, .ref re, .ref rl, .ref bu, .ref de])), (gr, .inr (2, [.ref gc, .ref gf, .ref gp, .ref gb, .ref gl, .int 0])), (bu, .inr (0, [.ref bs, .int 0, .int 0, .int 0])), (di, .inr (1, [.ref ct, .ref ti, .int 0, .int 0])), (ct, .inl (cI, 24, .inl (fun _ => 0))), (ti, .inl (cI, 24, .inl (fun _ => 0)))] (fun (r : Int32) (_ : Unit) => r = 0) (fun _ => []) (fun _ => []) := by
  refine xMiW_of (by decide +kernel) rfl (Nat.le_of_ble_eq_true rfl) ?_
  intro p e s m args below meth c ls A B hAe hA hsz hP hK hD hS hAm hTh hAs hl
  obtain ⟨⟨hx, hb, hml, hown, hts⟩, hret, hlk, htab⟩ := id B
  have hl : lv_has ls 4 [(0, .ref fb), (1, .int x), (2, .int y)] := hl
  refine lv_aload_n hx hb d_La_write_0 rfl (lv_at hl 0 rfl) ?_
  refine lv_iload_n hx hb d_La_write_1 rfl (lv_at hl 1 rfl) ?_
  refine lv_iload_n hx hb d_La_write_2 rfl (lv_at hl 2 rfl) ?_
  have hPc := hP.sub (ws' := [(fb, .inr (5, [.ref di, .ref gr, .ref re, .ref rl, .ref bu, .ref de])), (gr, .inr (2, [.ref gc, .ref gf, .ref gp, .ref gb, .ref gl, .int 0])), (bu, .inr (0, [.ref bs, .int 0, .int 0, .int 0])), (di, .inr (1, [.ref ct, .ref ti, .int 0, .int 0])), (ct, .inl (cI, 24, .inl (fun _ => 0))), (ti, .inl (cI, 24, .inl (fun _ => 0)))]) [0, 1, 2, 3, 4, 5] rfl
  have hDc := hD.sub (ws' := [(fb, .inr (5, [.ref di, .ref gr, .ref re, .ref rl, .ref bu, .ref de])), (gr, .inr (2, [.ref gc, .ref gf, .ref gp, .ref gb, .ref gl, .int 0])), (bu, .inr (0, [.ref bs, .int 0, .int 0, .int 0])), (di, .inr (1, [.ref ct, .ref ti, .int 0, .int 0])), (ct, .inl (cI, 24, .inl (fun _ => 0))), (ti, .inl (cI, 24, .inl (fun _ => 0)))]) [0, 1, 2, 3, 4, 5] (by decide) rfl
  have hKc := hK.sub (tys' := [(cI, .int)]) [0] rfl
  refine xgv (wsC := [(fb, .inr (5, [.ref di, .ref gr, .ref re, .ref rl, .ref bu, .ref de])), (gr, .inr (2, [.ref gc, .ref gf, .ref gp, .ref gb, .ref gl, .int 0])), (bu, .inr (0, [.ref bs, .int 0, .int 0, .int 0])), (di, .inr (1, [.ref ct, .ref ti, .int 0, .int 0])), (ct, .inl (cI, 24, .inl (fun _ => 0))), (ti, .inl (cI, 24, .inl (fun _ => 0)))]) (wr := []) (va_runV (As := [.int x, .int y]) (rest := []) ⟨hx, hb, hml, hown, hts⟩ (c_FB_write l  D fb gr bu di ct ti re rl de gc gf gp gb gl bs cI x y _ h) ⟨(callB_of 2 hts (x_good k_FB_write) rfl rfl rfl (hts _ (List.mem_cons_of_mem _ tw_1)) (hts _ (List.mem_cons_of_mem _ tw_408)) (by decide +kernel) ⟨Nat.le_of_ble_eq_true rfl, Nat.le_of_ble_eq_true rfl⟩), (hts _ (List.mem_cons_of_mem _ tw_409)), (hts _ (List.mem_cons_of_mem _ tw_410))⟩ (xP_V (va_recv (ci := 5) (q0 := 0) hK hP rfl rfl) hPc hKc hDc hAm hTh hAs hS) rfl rfl hl.1 rfl (lv_room (Nat.le_of_ble_eq_true rfl)) d_La_write_3 ⟨Nat.le_of_ble_eq_true rfl, Nat.le_of_ble_eq_true rfl⟩) hP hD hK hS hA [0, 1, 2, 3, 4, 5] [] rfl rfl (by decide) (by decide) (fun _ H locs _ hP hD hK hS => ?_)
  have hK : va_K D cl [(cI, .int)] s := hK
  have hP : va_P D cl [] H := hP
  have hD : va_D A [] := hD
  refine lv_goto (tgt := 15) hx hb d_La_write_6 (by decide) ?_
  refine lv_iconst (v := 0) hx hb d_La_write_15 (by decide) ?_
  exact xriW () B d_La_write_16 (rfl) (hP.sub (ws' := []) [] rfl) (hK.sub (tys' := []) [] rfl) (hD.sub (ws' := []) [] (by decide) rfl) hS (Nat.le_of_ble_eq_true rfl) (Nat.le_of_ble_eq_true rfl)
theorem d_La_write_9 : decode b_La_write 9 = .ok (.astore_n 3, 1) := by decide +kernel
theorem d_La_write_10 : decode b_La_write 10 = .ok (.iconst (1), 1) := by decide +kernel
theorem d_La_write_11 : decode b_La_write 11 = .ok (.ireturn, 1) := by decide +kernel
set_option maxRecDepth 20000 in
set_option maxHeartbeats 4000000 in
theorem c_La_write_t (l : Launch) (hfl : l.flags = pinnedFlags ++ [noTraceFlag]) (D : va_G) (fb : Nat) (gr : Nat) (bu : Nat) (di : Nat) (ct : Nat) (ti : Nat) (re : Nat) (rl : Nat) (de : Nat) (gc : Nat) (gf : Nat) (gp : Nat) (gb : Nat) (gl : Nat) (bs : Nat) (cI : ClassId) (x : Int32) (y : Int32) (sz : Nat) (h : ¬ xIn x 0 23 = 1) : xMi l y_La_write w_La_write { frames := 8, cells := 1, slots := 6, locals := 170 } D cl [.ref fb, .int x, .int y] sz [(cI, .int)] [(fb, .inr (5, [.ref di, .ref gr, .ref re, .ref rl, .ref bu, .ref de])), (gr, .inr (2, [.ref gc, .ref gf, .ref gp, .ref gb, .ref gl, .int 0])), (bu, .inr (0, [.ref bs, .int 0, .int 0, .int 0])), (di, .inr (1, [.ref ct, .ref ti, .int 0, .int 0])), (ct, .inl (cI, 24, .inl (fun _ => 0))), (ti, .inl (cI, 24, .inl (fun _ => 0)))] (fun (r : Int32) (_ : Unit) => r = 1) (fun _ => []) (fun _ => []) := by
  refine xMiW_of (by decide +kernel) rfl (Nat.le_of_ble_eq_true rfl) ?_
  intro p e s m args below meth c ls A B hAe hA hsz hP hK hD hS hAm hTh hAs hl
  obtain ⟨⟨hx, hb, hml, hown, hts⟩, hret, hlk, htab⟩ := id B
  have hl : lv_has ls 4 [(0, .ref fb), (1, .int x), (2, .int y)] := hl
  refine lv_aload_n hx hb d_La_write_0 rfl (lv_at hl 0 rfl) ?_
  refine lv_iload_n hx hb d_La_write_1 rfl (lv_at hl 1 rfl) ?_
  refine lv_iload_n hx hb d_La_write_2 rfl (lv_at hl 2 rfl) ?_
  have hPc := hP.sub (ws' := [(fb, .inr (5, [.ref di, .ref gr, .ref re, .ref rl, .ref bu, .ref de])), (gr, .inr (2, [.ref gc, .ref gf, .ref gp, .ref gb, .ref gl, .int 0])), (bu, .inr (0, [.ref bs, .int 0, .int 0, .int 0])), (di, .inr (1, [.ref ct, .ref ti, .int 0, .int 0])), (ct, .inl (cI, 24, .inl (fun _ => 0))), (ti, .inl (cI, 24, .inl (fun _ => 0)))]) [0, 1, 2, 3, 4, 5] rfl
  have hDc := hD.sub (ws' := [(fb, .inr (5, [.ref di, .ref gr, .ref re, .ref rl, .ref bu, .ref de])), (gr, .inr (2, [.ref gc, .ref gf, .ref gp, .ref gb, .ref gl, .int 0])), (bu, .inr (0, [.ref bs, .int 0, .int 0, .int 0])), (di, .inr (1, [.ref ct, .ref ti, .int 0, .int 0])), (ct, .inl (cI, 24, .inl (fun _ => 0))), (ti, .inl (cI, 24, .inl (fun _ => 0)))]) [0, 1, 2, 3, 4, 5] (by decide) rfl
  have hKc := hK.sub (tys' := [(cI, .int)]) [0] rfl
  have hFc := va_free (wc := [(fb, .inr (5, [.ref di, .ref gr, .ref re, .ref rl, .ref bu, .ref de])), (gr, .inr (2, [.ref gc, .ref gf, .ref gp, .ref gb, .ref gl, .int 0])), (bu, .inr (0, [.ref bs, .int 0, .int 0, .int 0])), (di, .inr (1, [.ref ct, .ref ti, .int 0, .int 0])), (ct, .inl (cI, 24, .inl (fun _ => 0))), (ti, .inl (cI, 24, .inl (fun _ => 0)))]) hD hS hA [0, 1, 2, 3, 4, 5] rfl
  refine xt_callV (As := [.int x, .int y]) (rest := []) ⟨hx, hb, hml, hown, hts⟩ (c_FB_write_t l hfl  D fb gr bu di ct ti re rl de gc gf gp gb gl bs cI x y _ h) ⟨(callB_of 2 hts (x_good k_FB_write) rfl rfl rfl (hts _ (List.mem_cons_of_mem _ tw_1)) (hts _ (List.mem_cons_of_mem _ tw_408)) (by decide +kernel) ⟨Nat.le_of_ble_eq_true rfl, Nat.le_of_ble_eq_true rfl⟩), (hts _ (List.mem_cons_of_mem _ tw_409)), (hts _ (List.mem_cons_of_mem _ tw_410))⟩ (xP_V (va_recv (ci := 5) (q0 := 0) hK hP rfl rfl) hPc hKc hDc hAm hTh hAs hS) rfl hl.1 rfl (Nat.le_of_ble_eq_true rfl) d_La_write_3 ⟨Nat.le_of_ble_eq_true rfl, Nat.le_of_ble_eq_true rfl⟩ hS (fun q _ h => hFc q h) hFc (fun x9 cell H locs hx1 hx2 hx3 hx4 hz9 hk9 hS => ?_)
  refine xt_catch htab hown ⟨by decide, by decide, by decide, "java/lang/IllegalArgumentException", (hts _ (List.mem_cons_of_mem _ tw_235)), Or.inl ⟨rfl, va_Nw.use rfl (hAm.1 _ (List.mem_of_getElem? (i := 29) rfl))⟩⟩ hx2 hx3 hx4 ?_
  have hP : va_P D cl [] H := xP0
  have hD : va_D A [] := hD.sub (ws' := []) [] (by decide) rfl
  refine lv_astore_n hx hb d_La_write_9 rfl hl (by decide) rfl (fun ls hl => ?_)
  have hl : lv_has ls 4 [(3, .ref x9), (0, .ref fb), (1, .int x), (2, .int y)] := hl
  refine lv_iconst (v := 1) hx hb d_La_write_10 (by decide) ?_
  exact xriW () B d_La_write_11 (rfl) (hP.sub (ws' := []) [] rfl) (hK.sub (tys' := []) [] rfl) (hD.sub (ws' := []) [] (by decide) rfl) hS (Nat.le_of_ble_eq_true rfl) (Nat.le_of_ble_eq_true rfl)
theorem d_La_remove_0 : decode b_La_remove 0 = .ok (.aload_n 0, 1) := by decide +kernel
theorem d_La_remove_1 : decode b_La_remove 1 = .ok (.iload_n 1, 1) := by decide +kernel
theorem d_La_remove_2 : decode b_La_remove 2 = .ok (.invokevirtual 35, 3) := by decide +kernel
theorem d_La_remove_8 : decode b_La_remove 8 = .ok (.astore_n 2, 1) := by decide +kernel
theorem d_La_remove_9 : decode b_La_remove 9 = .ok (.iconst (1), 1) := by decide +kernel
theorem d_La_remove_10 : decode b_La_remove 10 = .ok (.ireturn, 1) := by decide +kernel
set_option maxRecDepth 20000 in
set_option maxHeartbeats 4000000 in
theorem c_La_remove_i (l : Launch) (hfl : l.flags = pinnedFlags ++ [noTraceFlag]) (D : va_G) (fb : Nat) (di : Nat) (gr : Nat) (re : Nat) (rl : Nat) (bu : Nat) (de : Nat) (ct : Nat) (ti : Nat) (x : Int32) (sz : Nat) (h : ¬ xIn x 0 23 = 1) : xMi l y_La_remove w_La_remove { frames := 8, cells := 1, slots := 6, locals := 170 } D cl [.ref fb, .int x] sz [] [(fb, .inr (5, [.ref di, .ref gr, .ref re, .ref rl, .ref bu, .ref de])), (di, .inr (1, [.ref ct, .ref ti, .int 0, .int 0]))] (fun (r : Int32) (_ : Unit) => r = 1) (fun _ => []) (fun _ => []) := by
  refine xMiW_of (by decide +kernel) rfl (Nat.le_of_ble_eq_true rfl) ?_
  intro p e s m args below meth c ls A B hAe hA hsz hP hK hD hS hAm hTh hAs hl
  obtain ⟨⟨hx, hb, hml, hown, hts⟩, hret, hlk, htab⟩ := id B
  have hl : lv_has ls 3 [(0, .ref fb), (1, .int x)] := hl
  refine lv_aload_n hx hb d_La_remove_0 rfl (lv_at hl 0 rfl) ?_
  refine lv_iload_n hx hb d_La_remove_1 rfl (lv_at hl 1 rfl) ?_
  have hPc := hP.sub (ws' := [(fb, .inr (5, [.ref di, .ref gr, .ref re, .ref rl, .ref bu, .ref de])), (di, .inr (1, [.ref ct, .ref ti, .int 0, .int 0]))]) [0, 1] rfl
  have hDc := hD.sub (ws' := [(fb, .inr (5, [.ref di, .ref gr, .ref re, .ref rl, .ref bu, .ref de])), (di, .inr (1, [.ref ct, .ref ti, .int 0, .int 0]))]) [0, 1] (by decide) rfl
  have hKc := hK.sub (tys' := []) [] rfl
  have hFc := va_free (wc := [(fb, .inr (5, [.ref di, .ref gr, .ref re, .ref rl, .ref bu, .ref de])), (di, .inr (1, [.ref ct, .ref ti, .int 0, .int 0]))]) hD hS hA [0, 1] rfl
  refine xt_callV (As := [.int x]) (rest := []) ⟨hx, hb, hml, hown, hts⟩ (c_FB_remove_i l hfl  D fb di gr re rl bu de ct ti x _ h) ⟨(callB_of 1 hts (x_good k_FB_remove) rfl rfl rfl (hts _ (List.mem_cons_of_mem _ tw_1)) (hts _ (List.mem_cons_of_mem _ tw_425)) (by decide +kernel) ⟨Nat.le_of_ble_eq_true rfl, Nat.le_of_ble_eq_true rfl⟩), (hts _ (List.mem_cons_of_mem _ tw_426)), (hts _ (List.mem_cons_of_mem _ tw_427))⟩ (xP_V (va_recv (ci := 5) (q0 := 0) hK hP rfl rfl) hPc hKc hDc hAm hTh hAs hS) rfl hl.1 rfl (Nat.le_of_ble_eq_true rfl) d_La_remove_2 ⟨Nat.le_of_ble_eq_true rfl, Nat.le_of_ble_eq_true rfl⟩ hS (fun q _ h => hFc q h) hFc (fun x9 cell H locs hx1 hx2 hx3 hx4 hz9 hk9 hS => ?_)
  refine xt_catch htab hown ⟨by decide, by decide, by decide, "java/lang/IllegalArgumentException", (hts _ (List.mem_cons_of_mem _ tw_235)), Or.inl ⟨rfl, va_Nw.use rfl (hAm.1 _ (List.mem_of_getElem? (i := 29) rfl))⟩⟩ hx2 hx3 hx4 ?_
  have hP : va_P D cl [] H := xP0
  have hD : va_D A [] := hD.sub (ws' := []) [] (by decide) rfl
  refine lv_astore_n hx hb d_La_remove_8 rfl hl (by decide) rfl (fun ls hl => ?_)
  have hl : lv_has ls 3 [(2, .ref x9), (0, .ref fb), (1, .int x)] := hl
  refine lv_iconst (v := 1) hx hb d_La_remove_9 (by decide) ?_
  exact xriW () B d_La_remove_10 (rfl) (hP.sub (ws' := []) [] rfl) (hK.sub (tys' := []) [] rfl) (hD.sub (ws' := []) [] (by decide) rfl) hS (Nat.le_of_ble_eq_true rfl) (Nat.le_of_ble_eq_true rfl)
theorem d_La_remove_11 : decode b_La_remove 11 = .ok (.astore_n 2, 1) := by decide +kernel
theorem d_La_remove_12 : decode b_La_remove 12 = .ok (.iconst (2), 1) := by decide +kernel
theorem d_La_remove_13 : decode b_La_remove 13 = .ok (.ireturn, 1) := by decide +kernel
set_option maxRecDepth 20000 in
set_option maxHeartbeats 4000000 in
theorem c_La_remove_n (l : Launch) (hfl : l.flags = pinnedFlags ++ [noTraceFlag]) (D : va_G) (fb : Nat) (di : Nat) (gr : Nat) (re : Nat) (rl : Nat) (bu : Nat) (de : Nat) (ct : Nat) (ti : Nat) (x : Int32) (sz : Nat) (h : xIn x 0 23 = 1) : xMi l y_La_remove w_La_remove { frames := 8, cells := 1, slots := 6, locals := 170 } D cl [.ref fb, .int x] sz [] [(fb, .inr (5, [.ref di, .ref gr, .ref re, .ref rl, .ref bu, .ref de])), (di, .inr (1, [.ref ct, .ref ti, .int 0, .int 0]))] (fun (r : Int32) (_ : Unit) => r = 2) (fun _ => []) (fun _ => []) := by
  refine xMiW_of (by decide +kernel) rfl (Nat.le_of_ble_eq_true rfl) ?_
  intro p e s m args below meth c ls A B hAe hA hsz hP hK hD hS hAm hTh hAs hl
  obtain ⟨⟨hx, hb, hml, hown, hts⟩, hret, hlk, htab⟩ := id B
  have hl : lv_has ls 3 [(0, .ref fb), (1, .int x)] := hl
  refine lv_aload_n hx hb d_La_remove_0 rfl (lv_at hl 0 rfl) ?_
  refine lv_iload_n hx hb d_La_remove_1 rfl (lv_at hl 1 rfl) ?_
  have hPc := hP.sub (ws' := [(fb, .inr (5, [.ref di, .ref gr, .ref re, .ref rl, .ref bu, .ref de])), (di, .inr (1, [.ref ct, .ref ti, .int 0, .int 0]))]) [0, 1] rfl
  have hDc := hD.sub (ws' := [(fb, .inr (5, [.ref di, .ref gr, .ref re, .ref rl, .ref bu, .ref de])), (di, .inr (1, [.ref ct, .ref ti, .int 0, .int 0]))]) [0, 1] (by decide) rfl
  have hKc := hK.sub (tys' := []) [] rfl
  have hFc := va_free (wc := [(fb, .inr (5, [.ref di, .ref gr, .ref re, .ref rl, .ref bu, .ref de])), (di, .inr (1, [.ref ct, .ref ti, .int 0, .int 0]))]) hD hS hA [0, 1] rfl
  refine xt_callV (As := [.int x]) (rest := []) ⟨hx, hb, hml, hown, hts⟩ (c_FB_remove_n l hfl  D fb di gr re rl bu de ct ti x _ h) ⟨(callB_of 1 hts (x_good k_FB_remove) rfl rfl rfl (hts _ (List.mem_cons_of_mem _ tw_1)) (hts _ (List.mem_cons_of_mem _ tw_425)) (by decide +kernel) ⟨Nat.le_of_ble_eq_true rfl, Nat.le_of_ble_eq_true rfl⟩), (hts _ (List.mem_cons_of_mem _ tw_426)), (hts _ (List.mem_cons_of_mem _ tw_427))⟩ (xP_V (va_recv (ci := 5) (q0 := 0) hK hP rfl rfl) hPc hKc hDc hAm hTh hAs hS) rfl hl.1 rfl (Nat.le_of_ble_eq_true rfl) d_La_remove_2 ⟨Nat.le_of_ble_eq_true rfl, Nat.le_of_ble_eq_true rfl⟩ hS (fun q _ h => hFc q h) hFc (fun x9 cell H locs hx1 hx2 hx3 hx4 hz9 hk9 hS => ?_)
  refine xt_catch htab hown ⟨by decide, by decide, by decide, "java/lang/IllegalArgumentException", (hts _ (List.mem_cons_of_mem _ tw_235)), Or.inr ⟨hAm.2.2.1, ⟨by decide, by decide, by decide, "java/util/NoSuchElementException", (hts _ (List.mem_cons_of_mem _ tw_424)), Or.inl ⟨rfl, va_Nw.use rfl (hAm.1 _ (List.mem_of_getElem? (i := 46) rfl))⟩⟩⟩⟩ hx2 hx3 hx4 ?_
  have hP : va_P D cl [] H := xP0
  have hD : va_D A [] := hD.sub (ws' := []) [] (by decide) rfl
  refine lv_astore_n hx hb d_La_remove_11 rfl hl (by decide) rfl (fun ls hl => ?_)
  have hl : lv_has ls 3 [(2, .ref x9), (0, .ref fb), (1, .int x)] := hl
  refine lv_iconst (v := 2) hx hb d_La_remove_12 (by decide) ?_
  exact xriW () B d_La_remove_13 (rfl) (hP.sub (ws' := []) [] rfl) (hK.sub (tys' := []) [] rfl) (hD.sub (ws' := []) [] (by decide) rfl) hS (Nat.le_of_ble_eq_true rfl) (Nat.le_of_ble_eq_true rfl)
theorem d_La_begin_0 : decode b_La_begin 0 = .ok (.aload 4, 2) := by decide +kernel
theorem d_La_begin_2 : decode b_La_begin 2 = .ok (.iconst (0), 1) := by decide +kernel
theorem d_La_begin_3 : decode b_La_begin 3 = .ok (.aload_n 0, 1) := by decide +kernel
theorem d_La_begin_4 : decode b_La_begin 4 = .ok (.iload_n 1, 1) := by decide +kernel
theorem d_La_begin_5 : decode b_La_begin 5 = .ok (.iload_n 2, 1) := by decide +kernel
theorem d_La_begin_6 : decode b_La_begin 6 = .ok (.iload_n 3, 1) := by decide +kernel
theorem d_La_begin_7 : decode b_La_begin 7 = .ok (.invokevirtual 41, 3) := by decide +kernel
theorem d_La_begin_15 : decode b_La_begin 15 = .ok (.astore 5, 2) := by decide +kernel
theorem d_La_begin_17 : decode b_La_begin 17 = .ok (.iconst (1), 1) := by decide +kernel
theorem d_La_begin_18 : decode b_La_begin 18 = .ok (.ireturn, 1) := by decide +kernel
set_option maxRecDepth 20000 in
set_option maxHeartbeats 4000000 in
theorem c_La_begin_i (l : Launch) (hfl : l.flags = pinnedFlags ++ [noTraceFlag]) (D : va_G) (fb : Nat) (gr : Nat) (bu : Nat) (di : Nat) (oa : Nat) (re : Nat) (rl : Nat) (de : Nat) (gc : Nat) (gf : Nat) (gp : Nat) (gb : Nat) (gl : Nat) (bs : Nat) (ct : Nat) (ti : Nat) (cJ : ClassId) (x : Int32) (y : Int32) (z : Int32) (sz : Nat) (h : ¬ xokB x y z) : xMi l y_La_begin w_La_begin { frames := 8, cells := 1, slots := 6, locals := 170 } D cl [.ref fb, .int x, .int y, .int z, .ref oa] sz [(cJ, .long)] [(fb, .inr (5, [.ref di, .ref gr, .ref re, .ref rl, .ref bu, .ref de])), (gr, .inr (2, [.ref gc, .ref gf, .ref gp, .ref gb, .ref gl, .int 0])), (bu, .inr (0, [.ref bs, .int 0, .int 0, .int 0])), (di, .inr (1, [.ref ct, .ref ti, .int 0, .int 0])), (oa, .inl (cJ, 1, .inr (.inl (fun _ => 0))))] (fun (r : Int32) (_ : Unit) => r = 1) (fun _ => []) (fun _ => []) := by
  refine xMiW_of (by decide +kernel) rfl (Nat.le_of_ble_eq_true rfl) ?_
  intro p e s m args below meth c ls A B hAe hA hsz hP hK hD hS hAm hTh hAs hl
  obtain ⟨⟨hx, hb, hml, hown, hts⟩, hret, hlk, htab⟩ := id B
  have hl : lv_has ls 6 [(0, .ref fb), (1, .int x), (2, .int y), (3, .int z), (4, .ref oa)] := hl
  refine lv_aload hx hb d_La_begin_0 (lv_at hl 4 rfl) ?_
  refine lv_iconst (v := 0) hx hb d_La_begin_2 (by decide) ?_
  refine lv_aload_n hx hb d_La_begin_3 rfl (lv_at hl 0 rfl) ?_
  refine lv_iload_n hx hb d_La_begin_4 rfl (lv_at hl 1 rfl) ?_
  refine lv_iload_n hx hb d_La_begin_5 rfl (lv_at hl 2 rfl) ?_
  refine lv_iload_n hx hb d_La_begin_6 rfl (lv_at hl 3 rfl) ?_
  have hPc := hP.sub (ws' := [(fb, .inr (5, [.ref di, .ref gr, .ref re, .ref rl, .ref bu, .ref de])), (gr, .inr (2, [.ref gc, .ref gf, .ref gp, .ref gb, .ref gl, .int 0])), (bu, .inr (0, [.ref bs, .int 0, .int 0, .int 0])), (di, .inr (1, [.ref ct, .ref ti, .int 0, .int 0]))]) [0, 1, 2, 3] rfl
  have hDc := hD.sub (ws' := [(fb, .inr (5, [.ref di, .ref gr, .ref re, .ref rl, .ref bu, .ref de])), (gr, .inr (2, [.ref gc, .ref gf, .ref gp, .ref gb, .ref gl, .int 0])), (bu, .inr (0, [.ref bs, .int 0, .int 0, .int 0])), (di, .inr (1, [.ref ct, .ref ti, .int 0, .int 0]))]) [0, 1, 2, 3] (by decide) rfl
  have hKc := hK.sub (tys' := []) [] rfl
  have hFc := va_free (wc := [(fb, .inr (5, [.ref di, .ref gr, .ref re, .ref rl, .ref bu, .ref de])), (gr, .inr (2, [.ref gc, .ref gf, .ref gp, .ref gb, .ref gl, .int 0])), (bu, .inr (0, [.ref bs, .int 0, .int 0, .int 0])), (di, .inr (1, [.ref ct, .ref ti, .int 0, .int 0]))]) hD hS hA [0, 1, 2, 3] rfl
  refine xt_callV (As := [.int x, .int y, .int z]) (rest := [.int 0, .ref oa]) ⟨hx, hb, hml, hown, hts⟩ (c_FB_begin_i l hfl  D fb gr bu di re rl de gc gf gp gb gl bs ct ti x y z _ h) ⟨(callB_of 3 hts (x_good k_FB_begin) rfl rfl rfl (hts _ (List.mem_cons_of_mem _ tw_1)) (hts _ (List.mem_cons_of_mem _ tw_454)) (by decide +kernel) ⟨Nat.le_of_ble_eq_true rfl, Nat.le_of_ble_eq_true rfl⟩), (hts _ (List.mem_cons_of_mem _ tw_455)), (hts _ (List.mem_cons_of_mem _ tw_456))⟩ (xP_V (va_recv (ci := 5) (q0 := 0) hK hP rfl rfl) hPc hKc hDc hAm hTh hAs hS) rfl hl.1 rfl (Nat.le_of_ble_eq_true rfl) d_La_begin_7 ⟨Nat.le_of_ble_eq_true rfl, Nat.le_of_ble_eq_true rfl⟩ hS (fun q _ h => hFc q h) hFc (fun x9 cell H locs hx1 hx2 hx3 hx4 hz9 hk9 hS => ?_)
  refine xt_catch htab hown ⟨by decide, by decide, by decide, "java/lang/IllegalArgumentException", (hts _ (List.mem_cons_of_mem _ tw_235)), Or.inl ⟨rfl, va_Nw.use rfl (hAm.1 _ (List.mem_of_getElem? (i := 29) rfl))⟩⟩ hx2 hx3 hx4 ?_
  have hP : va_P D cl [] H := xP0
  have hD : va_D A [] := hD.sub (ws' := []) [] (by decide) rfl
  refine lv_astore hx hb d_La_begin_15 hl (by decide) rfl (fun ls hl => ?_)
  have hl : lv_has ls 6 [(5, .ref x9), (0, .ref fb), (1, .int x), (2, .int y), (3, .int z), (4, .ref oa)] := hl
  refine lv_iconst (v := 1) hx hb d_La_begin_17 (by decide) ?_
  exact xriW () B d_La_begin_18 (rfl) (hP.sub (ws' := []) [] rfl) (hK.sub (tys' := []) [] rfl) (hD.sub (ws' := []) [] (by decide) rfl) hS (Nat.le_of_ble_eq_true rfl) (Nat.le_of_ble_eq_true rfl)
theorem d_La_begin_27 : decode b_La_begin 27 = .ok (.astore 5, 2) := by decide +kernel
theorem d_La_begin_29 : decode b_La_begin 29 = .ok (.iconst (4), 1) := by decide +kernel
theorem d_La_begin_30 : decode b_La_begin 30 = .ok (.ireturn, 1) := by decide +kernel
set_option maxRecDepth 20000 in
set_option maxHeartbeats 4000000 in
theorem c_La_begin_n (l : Launch) (hfl : l.flags = pinnedFlags ++ [noTraceFlag]) (D : va_G) (fb : Nat) (gr : Nat) (bu : Nat) (di : Nat) (oa : Nat) (re : Nat) (rl : Nat) (de : Nat) (gc : Nat) (gf : Nat) (gp : Nat) (gb : Nat) (gl : Nat) (bs : Nat) (ct : Nat) (ti : Nat) (cJ : ClassId) (x : Int32) (y : Int32) (z : Int32) (sz : Nat) (h : xokB x y z) : xMi l y_La_begin w_La_begin { frames := 8, cells := 1, slots := 6, locals := 170 } D cl [.ref fb, .int x, .int y, .int z, .ref oa] sz [(cJ, .long)] [(fb, .inr (5, [.ref di, .ref gr, .ref re, .ref rl, .ref bu, .ref de])), (gr, .inr (2, [.ref gc, .ref gf, .ref gp, .ref gb, .ref gl, .int 0])), (bu, .inr (0, [.ref bs, .int 0, .int 0, .int 0])), (di, .inr (1, [.ref ct, .ref ti, .int 0, .int 0])), (oa, .inl (cJ, 1, .inr (.inl (fun _ => 0))))] (fun (r : Int32) (_ : Unit) => r = 4) (fun _ => []) (fun _ => []) := by
  refine xMiW_of (by decide +kernel) rfl (Nat.le_of_ble_eq_true rfl) ?_
  intro p e s m args below meth c ls A B hAe hA hsz hP hK hD hS hAm hTh hAs hl
  obtain ⟨⟨hx, hb, hml, hown, hts⟩, hret, hlk, htab⟩ := id B
  have hl : lv_has ls 6 [(0, .ref fb), (1, .int x), (2, .int y), (3, .int z), (4, .ref oa)] := hl
  refine lv_aload hx hb d_La_begin_0 (lv_at hl 4 rfl) ?_
  refine lv_iconst (v := 0) hx hb d_La_begin_2 (by decide) ?_
  refine lv_aload_n hx hb d_La_begin_3 rfl (lv_at hl 0 rfl) ?_
  refine lv_iload_n hx hb d_La_begin_4 rfl (lv_at hl 1 rfl) ?_
  refine lv_iload_n hx hb d_La_begin_5 rfl (lv_at hl 2 rfl) ?_
  refine lv_iload_n hx hb d_La_begin_6 rfl (lv_at hl 3 rfl) ?_
  have hPc := hP.sub (ws' := [(fb, .inr (5, [.ref di, .ref gr, .ref re, .ref rl, .ref bu, .ref de])), (gr, .inr (2, [.ref gc, .ref gf, .ref gp, .ref gb, .ref gl, .int 0])), (bu, .inr (0, [.ref bs, .int 0, .int 0, .int 0])), (di, .inr (1, [.ref ct, .ref ti, .int 0, .int 0]))]) [0, 1, 2, 3] rfl
  have hDc := hD.sub (ws' := [(fb, .inr (5, [.ref di, .ref gr, .ref re, .ref rl, .ref bu, .ref de])), (gr, .inr (2, [.ref gc, .ref gf, .ref gp, .ref gb, .ref gl, .int 0])), (bu, .inr (0, [.ref bs, .int 0, .int 0, .int 0])), (di, .inr (1, [.ref ct, .ref ti, .int 0, .int 0]))]) [0, 1, 2, 3] (by decide) rfl
  have hKc := hK.sub (tys' := []) [] rfl
  have hFc := va_free (wc := [(fb, .inr (5, [.ref di, .ref gr, .ref re, .ref rl, .ref bu, .ref de])), (gr, .inr (2, [.ref gc, .ref gf, .ref gp, .ref gb, .ref gl, .int 0])), (bu, .inr (0, [.ref bs, .int 0, .int 0, .int 0])), (di, .inr (1, [.ref ct, .ref ti, .int 0, .int 0]))]) hD hS hA [0, 1, 2, 3] rfl
  refine xt_callV (As := [.int x, .int y, .int z]) (rest := [.int 0, .ref oa]) ⟨hx, hb, hml, hown, hts⟩ (c_FB_begin_n l hfl  D fb gr bu di re rl de gc gf gp gb gl bs ct ti x y z _ h) ⟨(callB_of 3 hts (x_good k_FB_begin) rfl rfl rfl (hts _ (List.mem_cons_of_mem _ tw_1)) (hts _ (List.mem_cons_of_mem _ tw_454)) (by decide +kernel) ⟨Nat.le_of_ble_eq_true rfl, Nat.le_of_ble_eq_true rfl⟩), (hts _ (List.mem_cons_of_mem _ tw_455)), (hts _ (List.mem_cons_of_mem _ tw_456))⟩ (xP_V (va_recv (ci := 5) (q0 := 0) hK hP rfl rfl) hPc hKc hDc hAm hTh hAs hS) rfl hl.1 rfl (Nat.le_of_ble_eq_true rfl) d_La_begin_7 ⟨Nat.le_of_ble_eq_true rfl, Nat.le_of_ble_eq_true rfl⟩ hS (fun q _ h => hFc q h) hFc (fun x9 cell H locs hx1 hx2 hx3 hx4 hz9 hk9 hS => ?_)
  refine xt_catch htab hown ⟨by decide, by decide, by decide, "java/lang/IllegalArgumentException", (hts _ (List.mem_cons_of_mem _ tw_235)), Or.inr ⟨hAm.2.2.1, ⟨by decide, by decide, by decide, "java/lang/IllegalStateException", (hts _ (List.mem_cons_of_mem _ tw_236)), Or.inr ⟨hAm.2.2.2.1, ⟨by decide, by decide, by decide, "java/lang/UnsupportedOperationException", (hts _ (List.mem_cons_of_mem _ tw_453)), Or.inr ⟨hAm.2.2.2.2.1, ⟨by decide, by decide, by decide, "java/util/NoSuchElementException", (hts _ (List.mem_cons_of_mem _ tw_424)), Or.inl ⟨rfl, va_Nw.use rfl (hAm.1 _ (List.mem_of_getElem? (i := 46) rfl))⟩⟩⟩⟩⟩⟩⟩⟩ hx2 hx3 hx4 ?_
  have hP : va_P D cl [] H := xP0
  have hD : va_D A [] := hD.sub (ws' := []) [] (by decide) rfl
  refine lv_astore hx hb d_La_begin_27 hl (by decide) rfl (fun ls hl => ?_)
  have hl : lv_has ls 6 [(5, .ref x9), (0, .ref fb), (1, .int x), (2, .int y), (3, .int z), (4, .ref oa)] := hl
  refine lv_iconst (v := 4) hx hb d_La_begin_29 (by decide) ?_
  exact xriW () B d_La_begin_30 (rfl) (hP.sub (ws' := []) [] rfl) (hK.sub (tys' := []) [] rfl) (hD.sub (ws' := []) [] (by decide) rfl) hS (Nat.le_of_ble_eq_true rfl) (Nat.le_of_ble_eq_true rfl)
theorem d_La_finish_0 : decode b_La_finish 0 = .ok (.aload_n 3, 1) := by decide +kernel
theorem d_La_finish_1 : decode b_La_finish 1 = .ok (.iconst (0), 1) := by decide +kernel
theorem d_La_finish_2 : decode b_La_finish 2 = .ok (.aload_n 0, 1) := by decide +kernel
theorem d_La_finish_3 : decode b_La_finish 3 = .ok (.iload_n 1, 1) := by decide +kernel
theorem d_La_finish_4 : decode b_La_finish 4 = .ok (.iload_n 2, 1) := by decide +kernel
theorem d_La_finish_5 : decode b_La_finish 5 = .ok (.invokevirtual 46, 3) := by decide +kernel
theorem d_La_finish_13 : decode b_La_finish 13 = .ok (.astore 4, 2) := by decide +kernel
theorem d_La_finish_15 : decode b_La_finish 15 = .ok (.iconst (1), 1) := by decide +kernel
theorem d_La_finish_16 : decode b_La_finish 16 = .ok (.ireturn, 1) := by decide +kernel
set_option maxRecDepth 20000 in
set_option maxHeartbeats 4000000 in
theorem c_La_finish_n (l : Launch) (hfl : l.flags = pinnedFlags ++ [noTraceFlag]) (D : va_G) (fb : Nat) (gr : Nat) (oa : Nat) (di : Nat) (re : Nat) (rl : Nat) (bu : Nat) (de : Nat) (gc : Nat) (gf : Nat) (gp : Nat) (gb : Nat) (gl : Nat) (cJ : ClassId) (x : Int32) (y : Int32) (sz : Nat)  : xMi l y_La_finish w_La_finish { frames := 8, cells := 1, slots := 6, locals := 170 } D cl [.ref fb, .int x, .int y, .ref oa] sz [(cJ, .long)] [(fb, .inr (5, [.ref di, .ref gr, .ref re, .ref rl, .ref bu, .ref de])), (gr, .inr (2, [.ref gc, .ref gf, .ref gp, .ref gb, .ref gl, .int 0])), (oa, .inl (cJ, 1, .inr (.inl (fun _ => 0))))] (fun (r : Int32) (_ : Unit) => r = 1) (fun _ => []) (fun _ => []) := by
  refine xMiW_of (by decide +kernel) rfl (Nat.le_of_ble_eq_true rfl) ?_
  intro p e s m args below meth c ls A B hAe hA hsz hP hK hD hS hAm hTh hAs hl
  obtain ⟨⟨hx, hb, hml, hown, hts⟩, hret, hlk, htab⟩ := id B
  have hl : lv_has ls 5 [(0, .ref fb), (1, .int x), (2, .int y), (3, .ref oa)] := hl
  refine lv_aload_n hx hb d_La_finish_0 rfl (lv_at hl 3 rfl) ?_
  refine lv_iconst (v := 0) hx hb d_La_finish_1 (by decide) ?_
  refine lv_aload_n hx hb d_La_finish_2 rfl (lv_at hl 0 rfl) ?_
  refine lv_iload_n hx hb d_La_finish_3 rfl (lv_at hl 1 rfl) ?_
  refine lv_iload_n hx hb d_La_finish_4 rfl (lv_at hl 2 rfl) ?_
  have hPc := hP.sub (ws' := [(fb, .inr (5, [.ref di, .ref gr, .ref re, .ref rl, .ref bu, .ref de])), (gr, .inr (2, [.ref gc, .ref gf, .ref gp, .ref gb, .ref gl, .int 0]))]) [0, 1] rfl
  have hDc := hD.sub (ws' := [(fb, .inr (5, [.ref di, .ref gr, .ref re, .ref rl, .ref bu, .ref de])), (gr, .inr (2, [.ref gc, .ref gf, .ref gp, .ref gb, .ref gl, .int 0]))]) [0, 1] (by decide) rfl
  have hKc := hK.sub (tys' := []) [] rfl
  have hFc := va_free (wc := [(fb, .inr (5, [.ref di, .ref gr, .ref re, .ref rl, .ref bu, .ref de])), (gr, .inr (2, [.ref gc, .ref gf, .ref gp, .ref gb, .ref gl, .int 0]))]) hD hS hA [0, 1] rfl
  refine xt_callV (As := [.int x, .int y]) (rest := [.int 0, .ref oa]) ⟨hx, hb, hml, hown, hts⟩ (c_FB_finish_n l hfl  D fb gr di re rl bu de gc gf gp gb gl x y _ ) ⟨(callB_of 2 hts (x_good k_FB_finish) rfl rfl rfl (hts _ (List.mem_cons_of_mem _ tw_1)) (hts _ (List.mem_cons_of_mem _ tw_553)) (by decide +kernel) ⟨Nat.le_of_ble_eq_true rfl, Nat.le_of_ble_eq_true rfl⟩), (hts _ (List.mem_cons_of_mem _ tw_554)), (hts _ (List.mem_cons_of_mem _ tw_555))⟩ (xP_V (va_recv (ci := 5) (q0 := 0) hK hP rfl rfl) hPc hKc hDc hAm hTh hAs hS) rfl hl.1 rfl (Nat.le_of_ble_eq_true rfl) d_La_finish_5 ⟨Nat.le_of_ble_eq_true rfl, Nat.le_of_ble_eq_true rfl⟩ hS (fun q _ h => hFc q h) hFc (fun x9 cell H locs hx1 hx2 hx3 hx4 hz9 hk9 hS => ?_)
  refine xt_catch htab hown ⟨by decide, by decide, by decide, "java/util/NoSuchElementException", (hts _ (List.mem_cons_of_mem _ tw_424)), Or.inl ⟨rfl, va_Nw.use rfl (hAm.1 _ (List.mem_of_getElem? (i := 46) rfl))⟩⟩ hx2 hx3 hx4 ?_
  have hP : va_P D cl [] H := xP0
  have hD : va_D A [] := hD.sub (ws' := []) [] (by decide) rfl
  refine lv_astore hx hb d_La_finish_13 hl (by decide) rfl (fun ls hl => ?_)
  have hl : lv_has ls 5 [(4, .ref x9), (0, .ref fb), (1, .int x), (2, .int y), (3, .ref oa)] := hl
  refine lv_iconst (v := 1) hx hb d_La_finish_15 (by decide) ?_
  exact xriW () B d_La_finish_16 (rfl) (hP.sub (ws' := []) [] rfl) (hK.sub (tys' := []) [] rfl) (hD.sub (ws' := []) [] (by decide) rfl) hS (Nat.le_of_ble_eq_true rfl) (Nat.le_of_ble_eq_true rfl)
theorem d_La_about_0 : decode b_La_about 0 = .ok (.aload_n 2, 1) := by decide +kernel
theorem d_La_about_1 : decode b_La_about 1 = .ok (.iconst (0), 1) := by decide +kernel
theorem d_La_about_2 : decode b_La_about 2 = .ok (.aload_n 0, 1) := by decide +kernel
theorem d_La_about_3 : decode b_La_about 3 = .ok (.iload_n 1, 1) := by decide +kernel
theorem d_La_about_4 : decode b_La_about 4 = .ok (.invokevirtual 50, 3) := by decide +kernel
theorem d_La_about_12 : decode b_La_about 12 = .ok (.astore_n 3, 1) := by decide +kernel
theorem d_La_about_13 : decode b_La_about 13 = .ok (.iconst (1), 1) := by decide +kernel
theorem d_La_about_14 : decode b_La_about 14 = .ok (.ireturn, 1) := by decide +kernel
set_option maxRecDepth 20000 in
set_option maxHeartbeats 4000000 in
theorem c_La_about_t (l : Launch) (hfl : l.flags = pinnedFlags ++ [noTraceFlag]) (D : va_G) (fb : Nat) (gr : Nat) (oa : Nat) (di : Nat) (re : Nat) (rl : Nat) (bu : Nat) (de : Nat) (gc : Nat) (gf : Nat) (gp : Nat) (gb : Nat) (gl : Nat) (cJ : ClassId) (x : Int32) (sz : Nat)  : xMi l y_La_about w_La_about { frames := 8, cells := 1, slots := 6, locals := 170 } D cl [.ref fb, .int x, .ref oa] sz [(cJ, .long)] [(fb, .inr (5, [.ref di, .ref gr, .ref re, .ref rl, .ref bu, .ref de])), (gr, .inr (2, [.ref gc, .ref gf, .ref gp, .ref gb, .ref gl, .int 0])), (oa, .inl (cJ, 1, .inr (.inl (fun _ => 0))))] (fun (r : Int32) (_ : Unit) => r = 1) (fun _ => []) (fun _ => []) := by
  refine xMiW_of (by decide +kernel) rfl (Nat.le_of_ble_eq_true rfl) ?_
  intro p e s m args below meth c ls A B hAe hA hsz hP hK hD hS hAm hTh hAs hl
  obtain ⟨⟨hx, hb, hml, hown, hts⟩, hret, hlk, htab⟩ := id B
  have hl : lv_has ls 4 [(0, .ref fb), (1, .int x), (2, .ref oa)] := hl
  refine lv_aload_n hx hb d_La_about_0 rfl (lv_at hl 2 rfl) ?_
  refine lv_iconst (v := 0) hx hb d_La_about_1 (by decide) ?_
  refine lv_aload_n hx hb d_La_about_2 rfl (lv_at hl 0 rfl) ?_
  refine lv_iload_n hx hb d_La_about_3 rfl (lv_at hl 1 rfl) ?_
  have hPc := hP.sub (ws' := [(fb, .inr (5, [.ref di, .ref gr, .ref re, .ref rl, .ref bu, .ref de])), (gr, .inr (2, [.ref gc, .ref gf, .ref gp, .ref gb, .ref gl, .int 0]))]) [0, 1] rfl
  have hDc := hD.sub (ws' := [(fb, .inr (5, [.ref di, .ref gr, .ref re, .ref rl, .ref bu, .ref de])), (gr, .inr (2, [.ref gc, .ref gf, .ref gp, .ref gb, .ref gl, .int 0]))]) [0, 1] (by decide) rfl
  have hKc := hK.sub (tys' := []) [] rfl
  have hFc := va_free (wc := [(fb, .inr (5, [.ref di, .ref gr, .ref re, .ref rl, .ref bu, .ref de])), (gr, .inr (2, [.ref gc, .ref gf, .ref gp, .ref gb, .ref gl, .int 0]))]) hD hS hA [0, 1] rfl
  refine xt_callV (As := [.int x]) (rest := [.int 0, .ref oa]) ⟨hx, hb, hml, hown, hts⟩ (c_FB_about_t l hfl  D fb gr di re rl bu de gc gf gp gb gl x _ ) ⟨(callB_of 1 hts (x_good k_FB_about) rfl rfl rfl (hts _ (List.mem_cons_of_mem _ tw_1)) (hts _ (List.mem_cons_of_mem _ tw_602)) (by decide +kernel) ⟨Nat.le_of_ble_eq_true rfl, Nat.le_of_ble_eq_true rfl⟩), (hts _ (List.mem_cons_of_mem _ tw_603)), (hts _ (List.mem_cons_of_mem _ tw_604))⟩ (xP_V (va_recv (ci := 5) (q0 := 0) hK hP rfl rfl) hPc hKc hDc hAm hTh hAs hS) rfl hl.1 rfl (Nat.le_of_ble_eq_true rfl) d_La_about_4 ⟨Nat.le_of_ble_eq_true rfl, Nat.le_of_ble_eq_true rfl⟩ hS (fun q _ h => hFc q h) hFc (fun x9 cell H locs hx1 hx2 hx3 hx4 hz9 hk9 hS => ?_)
  refine xt_catch htab hown ⟨by decide, by decide, by decide, "java/lang/IllegalArgumentException", (hts _ (List.mem_cons_of_mem _ tw_235)), Or.inl ⟨rfl, va_Nw.use rfl (hAm.1 _ (List.mem_of_getElem? (i := 29) rfl))⟩⟩ hx2 hx3 hx4 ?_
  have hP : va_P D cl [] H := xP0
  have hD : va_D A [] := hD.sub (ws' := []) [] (by decide) rfl
  refine lv_astore_n hx hb d_La_about_12 rfl hl (by decide) rfl (fun ls hl => ?_)
  have hl : lv_has ls 4 [(3, .ref x9), (0, .ref fb), (1, .int x), (2, .ref oa)] := hl
  refine lv_iconst (v := 1) hx hb d_La_about_13 (by decide) ?_
  exact xriW () B d_La_about_14 (rfl) (hP.sub (ws' := []) [] rfl) (hK.sub (tys' := []) [] rfl) (hD.sub (ws' := []) [] (by decide) rfl) hS (Nat.le_of_ble_eq_true rfl) (Nat.le_of_ble_eq_true rfl)
theorem d_La_commandOf_0 : decode b_La_commandOf 0 = .ok (.aload_n 2, 1) := by decide +kernel
theorem d_La_commandOf_1 : decode b_La_commandOf 1 = .ok (.iconst (0), 1) := by decide +kernel
theorem d_La_commandOf_2 : decode b_La_commandOf 2 = .ok (.aload_n 0, 1) := by decide +kernel
theorem d_La_commandOf_3 : decode b_La_commandOf 3 = .ok (.iload_n 1, 1) := by decide +kernel
theorem d_La_commandOf_4 : decode b_La_commandOf 4 = .ok (.invokevirtual 58, 3) := by decide +kernel
theorem d_La_commandOf_12 : decode b_La_commandOf 12 = .ok (.astore_n 3, 1) := by decide +kernel
theorem d_La_commandOf_13 : decode b_La_commandOf 13 = .ok (.iconst (1), 1) := by decide +kernel
theorem d_La_commandOf_14 : decode b_La_commandOf 14 = .ok (.ireturn, 1) := by decide +kernel
set_option maxRecDepth 20000 in
set_option maxHeartbeats 4000000 in
theorem c_La_commandOf_t (l : Launch) (hfl : l.flags = pinnedFlags ++ [noTraceFlag]) (D : va_G) (fb : Nat) (gr : Nat) (oa : Nat) (di : Nat) (re : Nat) (rl : Nat) (bu : Nat) (de : Nat) (gc : Nat) (gf : Nat) (gp : Nat) (gb : Nat) (gl : Nat) (cJ : ClassId) (x : Int32) (sz : Nat)  : xMi l y_La_commandOf w_La_commandOf { frames := 8, cells := 1, slots := 6, locals := 170 } D cl [.ref fb, .int x, .ref oa] sz [(cJ, .long)] [(fb, .inr (5, [.ref di, .ref gr, .ref re, .ref rl, .ref bu, .ref de])), (gr, .inr (2, [.ref gc, .ref gf, .ref gp, .ref gb, .ref gl, .int 0])), (oa, .inl (cJ, 1, .inr (.inl (fun _ => 0))))] (fun (r : Int32) (_ : Unit) => r = 1) (fun _ => []) (fun _ => []) := by
  refine xMiW_of (by decide +kernel) rfl (Nat.le_of_ble_eq_true rfl) ?_
  intro p e s m args below meth c ls A B hAe hA hsz hP hK hD hS hAm hTh hAs hl
  obtain ⟨⟨hx, hb, hml, hown, hts⟩, hret, hlk, htab⟩ := id B
  have hl : lv_has ls 4 [(0, .ref fb), (1, .int x), (2, .ref oa)] := hl
  refine lv_aload_n hx hb d_La_commandOf_0 rfl (lv_at hl 2 rfl) ?_
  refine lv_iconst (v := 0) hx hb d_La_commandOf_1 (by decide) ?_
  refine lv_aload_n hx hb d_La_commandOf_2 rfl (lv_at hl 0 rfl) ?_
  refine lv_iload_n hx hb d_La_commandOf_3 rfl (lv_at hl 1 rfl) ?_
  have hPc := hP.sub (ws' := [(fb, .inr (5, [.ref di, .ref gr, .ref re, .ref rl, .ref bu, .ref de])), (gr, .inr (2, [.ref gc, .ref gf, .ref gp, .ref gb, .ref gl, .int 0]))]) [0, 1] rfl
  have hDc := hD.sub (ws' := [(fb, .inr (5, [.ref di, .ref gr, .ref re, .ref rl, .ref bu, .ref de])), (gr, .inr (2, [.ref gc, .ref gf, .ref gp, .ref gb, .ref gl, .int 0]))]) [0, 1] (by decide) rfl
  have hKc := hK.sub (tys' := []) [] rfl
  have hFc := va_free (wc := [(fb, .inr (5, [.ref di, .ref gr, .ref re, .ref rl, .ref bu, .ref de])), (gr, .inr (2, [.ref gc, .ref gf, .ref gp, .ref gb, .ref gl, .int 0]))]) hD hS hA [0, 1] rfl
  refine xt_callV (As := [.int x]) (rest := [.int 0, .ref oa]) ⟨hx, hb, hml, hown, hts⟩ (c_FB_commandOf_t l hfl  D fb gr di re rl bu de gc gf gp gb gl x _ ) ⟨(callB_of 1 hts (x_good k_FB_commandOf) rfl rfl rfl (hts _ (List.mem_cons_of_mem _ tw_1)) (hts _ (List.mem_cons_of_mem _ tw_623)) (by decide +kernel) ⟨Nat.le_of_ble_eq_true rfl, Nat.le_of_ble_eq_true rfl⟩), (hts _ (List.mem_cons_of_mem _ tw_624)), (hts _ (List.mem_cons_of_mem _ tw_625))⟩ (xP_V (va_recv (ci := 5) (q0 := 0) hK hP rfl rfl) hPc hKc hDc hAm hTh hAs hS) rfl hl.1 rfl (Nat.le_of_ble_eq_true rfl) d_La_commandOf_4 ⟨Nat.le_of_ble_eq_true rfl, Nat.le_of_ble_eq_true rfl⟩ hS (fun q _ h => hFc q h) hFc (fun x9 cell H locs hx1 hx2 hx3 hx4 hz9 hk9 hS => ?_)
  refine xt_catch htab hown ⟨by decide, by decide, by decide, "java/lang/IllegalArgumentException", (hts _ (List.mem_cons_of_mem _ tw_235)), Or.inl ⟨rfl, va_Nw.use rfl (hAm.1 _ (List.mem_of_getElem? (i := 29) rfl))⟩⟩ hx2 hx3 hx4 ?_
  have hP : va_P D cl [] H := xP0
  have hD : va_D A [] := hD.sub (ws' := []) [] (by decide) rfl
  refine lv_astore_n hx hb d_La_commandOf_12 rfl hl (by decide) rfl (fun ls hl => ?_)
  have hl : lv_has ls 4 [(3, .ref x9), (0, .ref fb), (1, .int x), (2, .ref oa)] := hl
  refine lv_iconst (v := 1) hx hb d_La_commandOf_13 (by decide) ?_
  exact xriW () B d_La_commandOf_14 (rfl) (hP.sub (ws' := []) [] rfl) (hK.sub (tys' := []) [] rfl) (hD.sub (ws' := []) [] (by decide) rfl) hS (Nat.le_of_ble_eq_true rfl) (Nat.le_of_ble_eq_true rfl)
theorem d_La_file_0 : decode b_La_file 0 = .ok (.aload_n 3, 1) := by decide +kernel
theorem d_La_file_1 : decode b_La_file 1 = .ok (.iconst (0), 1) := by decide +kernel
theorem d_La_file_2 : decode b_La_file 2 = .ok (.aload_n 0, 1) := by decide +kernel
theorem d_La_file_3 : decode b_La_file 3 = .ok (.iload_n 1, 1) := by decide +kernel
theorem d_La_file_4 : decode b_La_file 4 = .ok (.iload_n 2, 1) := by decide +kernel
theorem d_La_file_5 : decode b_La_file 5 = .ok (.invokevirtual 54, 3) := by decide +kernel
theorem d_La_file_8 : decode b_La_file 8 = .ok (.i2l, 1) := by decide +kernel
theorem d_La_file_9 : decode b_La_file 9 = .ok (.lastore, 1) := by decide +kernel
theorem d_La_file_10 : decode b_La_file 10 = .ok (.goto (7), 3) := by decide +kernel
theorem d_La_file_17 : decode b_La_file 17 = .ok (.iconst (0), 1) := by decide +kernel
theorem d_La_file_18 : decode b_La_file 18 = .ok (.ireturn, 1) := by decide +kernel
set_option maxRecDepth 20000 in
set_option maxHeartbeats 4000000 in
theorem c_La_file_0 (l : Launch) (D : va_G) (fb : Nat) (di : Nat) (ct : Nat) (oa : Nat) (gr : Nat) (re : Nat) (rl : Nat) (bu : Nat) (de : Nat) (ti : Nat) (cI : ClassId) (cJ : ClassId) (x : Int32) (sz : Nat) (h : xIn x 0 23 = 1) : xMi l y_La_file w_La_file { frames := 8, cells := 1, slots := 6, locals := 170 } D cl [.ref fb, .int x, .int 0, .ref oa] sz [(cI, .int), (cJ, .long)] [(fb, .inr (5, [.ref di, .ref gr, .ref re, .ref rl, .ref bu, .ref de])), (di, .inr (1, [.ref ct, .ref ti, .int 0, .int 0])), (ct, .inl (cI, 24, .inl (fun _ => 0))), (oa, .inl (cJ, 1, .inr (.inl (fun _ => 0))))] (fun (r : Int32) (_ : Unit) => r = 0) (fun _ => [(oa, .inl (cJ, 1, .inr (.inl (vp_updL (fun _ => 0) (0 : Int32).toNatClampNeg ((0 : Int32).toInt64)))))]) (fun _ => []) := by
  refine xMiW_of (by decide +kernel) rfl (Nat.le_of_ble_eq_true rfl) ?_
  intro p e s m args below meth c ls A B hAe hA hsz hP hK hD hS hAm hTh hAs hl
  obtain ⟨⟨hx, hb, hml, hown, hts⟩, hret, hlk, htab⟩ := id B
  have hl : lv_has ls 5 [(0, .ref fb), (1, .int x), (2, .int 0), (3, .ref oa)] := hl
  refine lv_aload_n hx hb d_La_file_0 rfl (lv_at hl 3 rfl) ?_
  refine lv_iconst (v := 0) hx hb d_La_file_1 (by decide) ?_
  refine lv_aload_n hx hb d_La_file_2 rfl (lv_at hl 0 rfl) ?_
  refine lv_iload_n hx hb d_La_file_3 rfl (lv_at hl 1 rfl) ?_
  refine lv_iload_n hx hb d_La_file_4 rfl (lv_at hl 2 rfl) ?_
  have hPc := hP.sub (ws' := [(fb, .inr (5, [.ref di, .ref gr, .ref re, .ref rl, .ref bu, .ref de])), (di, .inr (1, [.ref ct, .ref ti, .int 0, .int 0])), (ct, .inl (cI, 24, .inl (fun _ => 0)))]) [0, 1, 2] rfl
  have hDc := hD.sub (ws' := [(fb, .inr (5, [.ref di, .ref gr, .ref re, .ref rl, .ref bu, .ref de])), (di, .inr (1, [.ref ct, .ref ti, .int 0, .int 0])), (ct, .inl (cI, 24, .inl (fun _ => 0)))]) [0, 1, 2] (by decide) rfl
  have hKc := hK.sub (tys' := [(cI, .int)]) [0] rfl
  refine xgi (wsC := [(fb, .inr (5, [.ref di, .ref gr, .ref re, .ref rl, .ref bu, .ref de])), (di, .inr (1, [.ref ct, .ref ti, .int 0, .int 0])), (ct, .inl (cI, 24, .inl (fun _ => 0)))]) (wr := [(oa, .inl (cJ, 1, .inr (.inl (fun _ => 0))))]) (va_runV (As := [.int x, .int 0]) (rest := [.int 0, .ref oa]) ⟨hx, hb, hml, hown, hts⟩ (c_FB_file_0 l  D fb di ct gr re rl bu de ti cI x _ h) ⟨(callB_of 2 hts (x_good k_FB_file) rfl rfl rfl (hts _ (List.mem_cons_of_mem _ tw_1)) (hts _ (List.mem_cons_of_mem _ tw_614)) (by decide +kernel) ⟨Nat.le_of_ble_eq_true rfl, Nat.le_of_ble_eq_true rfl⟩), (hts _ (List.mem_cons_of_mem _ tw_615)), (hts _ (List.mem_cons_of_mem _ tw_616))⟩ (xP_V (va_recv (ci := 5) (q0 := 0) hK hP rfl rfl) hPc hKc hDc hAm hTh hAs hS) rfl rfl hl.1 rfl (lv_room (Nat.le_of_ble_eq_true rfl)) d_La_file_5 ⟨Nat.le_of_ble_eq_true rfl, Nat.le_of_ble_eq_true rfl⟩) hP hD hK hS hA [0, 1, 2] [3] rfl rfl (by decide) (by decide) (fun r1 _ H locs er1 hP hD hK hS => ?_)
  have er1 : r1 = 0 := er1
  subst er1
  have hK : va_K D cl [(cI, .int), (cJ, .long)] s := hK
  have hP : va_P D cl [(oa, .inl (cJ, 1, .inr (.inl (fun _ => 0))))] H := hP
  have hD : va_D A [(oa, .inl (cJ, 1, .inr (.inl (fun _ => 0))))] := hD
  refine lv_i2l hx hb d_La_file_8 rfl ?_
  refine va_last hx hb hK hP hD hS 0 1 rfl rfl (by unfold vp_in; decide) d_La_file_9 (fun H locs hP hD hS => ?_)
  have hP : va_P D cl [(oa, .inl (cJ, 1, .inr (.inl (vp_updL (fun _ => 0) (0 : Int32).toNatClampNeg ((0 : Int32).toInt64)))))] H := hP
  have hD : va_D A [(oa, .inl (cJ, 1, .inr (.inl (vp_updL (fun _ => 0) (0 : Int32).toNatClampNeg ((0 : Int32).toInt64)))))] := hD
  refine lv_goto (tgt := 17) hx hb d_La_file_10 (by decide) ?_
  refine lv_iconst (v := 0) hx hb d_La_file_17 (by decide) ?_
  exact xriW () B d_La_file_18 (rfl) (hP.sub (ws' := [(oa, .inl (cJ, 1, .inr (.inl (vp_updL (fun _ => 0) (0 : Int32).toNatClampNeg ((0 : Int32).toInt64)))))]) [0] rfl) (hK.sub (tys' := []) [] rfl) (hD.sub (ws' := [(oa, .inl (cJ, 1, .inr (.inl (vp_updL (fun _ => 0) (0 : Int32).toNatClampNeg ((0 : Int32).toInt64)))))]) [0] (by decide) rfl) hS (Nat.le_of_ble_eq_true rfl) (Nat.le_of_ble_eq_true rfl)
set_option maxRecDepth 20000 in
set_option maxHeartbeats 4000000 in
theorem c_La_file_1 (l : Launch) (D : va_G) (fb : Nat) (di : Nat) (ti : Nat) (oa : Nat) (gr : Nat) (re : Nat) (rl : Nat) (bu : Nat) (de : Nat) (ct : Nat) (cI : ClassId) (cJ : ClassId) (x : Int32) (sz : Nat) (h : xIn x 0 23 = 1) : xMi l y_La_file w_La_file { frames := 8, cells := 1, slots := 6, locals := 170 } D cl [.ref fb, .int x, .int 1, .ref oa] sz [(cI, .int), (cJ, .long)] [(fb, .inr (5, [.ref di, .ref gr, .ref re, .ref rl, .ref bu, .ref de])), (di, .inr (1, [.ref ct, .ref ti, .int 0, .int 0])), (ti, .inl (cI, 24, .inl (fun _ => 0))), (oa, .inl (cJ, 1, .inr (.inl (fun _ => 0))))] (fun (r : Int32) (_ : Unit) => r = 0) (fun _ => [(oa, .inl (cJ, 1, .inr (.inl (vp_updL (fun _ => 0) (0 : Int32).toNatClampNeg ((0 : Int32).toInt64)))))]) (fun _ => []) := by
  refine xMiW_of (by decide +kernel) rfl (Nat.le_of_ble_eq_true rfl) ?_
  intro p e s m args below meth c ls A B hAe hA hsz hP hK hD hS hAm hTh hAs hl
  obtain ⟨⟨hx, hb, hml, hown, hts⟩, hret, hlk, htab⟩ := id B
  have hl : lv_has ls 5 [(0, .ref fb), (1, .int x), (2, .int 1), (3, .ref oa)] := hl
  refine lv_aload_n hx hb d_La_file_0 rfl (lv_at hl 3 rfl) ?_
  refine lv_iconst (v := 0) hx hb d_La_file_1 (by decide) ?_
  refine lv_aload_n hx hb d_La_file_2 rfl (lv_at hl 0 rfl) ?_
  refine lv_iload_n hx hb d_La_file_3 rfl (lv_at hl 1 rfl) ?_
  refine lv_iload_n hx hb d_La_file_4 rfl (lv_at hl 2 rfl) ?_
  have hPc := hP.sub (ws' := [(fb, .inr (5, [.ref di, .ref gr, .ref re, .ref rl, .ref bu, .ref de])), (di, .inr (1, [.ref ct, .ref ti, .int 0, .int 0])), (ti, .inl (cI, 24, .inl (fun _ => 0)))]) [0, 1, 2] rfl
  have hDc := hD.sub (ws' := [(fb, .inr (5, [.ref di, .ref gr, .ref re, .ref rl, .ref bu, .ref de])), (di, .inr (1, [.ref ct, .ref ti, .int 0, .int 0])), (ti, .inl (cI, 24, .inl (fun _ => 0)))]) [0, 1, 2] (by decide) rfl
  have hKc := hK.sub (tys' := [(cI, .int)]) [0] rfl
  refine xgi (wsC := [(fb, .inr (5, [.ref di, .ref gr, .ref re, .ref rl, .ref bu, .ref de])), (di, .inr (1, [.ref ct, .ref ti, .int 0, .int 0])), (ti, .inl (cI, 24, .inl (fun _ => 0)))]) (wr := [(oa, .inl (cJ, 1, .inr (.inl (fun _ => 0))))]) (va_runV (As := [.int x, .int 1]) (rest := [.int 0, .ref oa]) ⟨hx, hb, hml, hown, hts⟩ (c_FB_file_1 l  D fb di ti gr re rl bu de ct cI x _ h) ⟨(callB_of 2 hts (x_good k_FB_file) rfl rfl rfl (hts _ (List.mem_cons_of_mem _ tw_1)) (hts _ (List.mem_cons_of_mem _ tw_614)) (by decide +kernel) ⟨Nat.le_of_ble_eq_true rfl, Nat.le_of_ble_eq_true rfl⟩), (hts _ (List.mem_cons_of_mem _ tw_615)), (hts _ (List.mem_cons_of_mem _ tw_616))⟩ (xP_V (va_recv (ci := 5) (q0 := 0) hK hP rfl rfl) hPc hKc hDc hAm hTh hAs hS) rfl rfl hl.1 rfl (lv_room (Nat.le_of_ble_eq_true rfl)) d_La_file_5 ⟨Nat.le_of_ble_eq_true rfl, Nat.le_of_ble_eq_true rfl⟩) hP hD hK hS hA [0, 1, 2] [3] rfl rfl (by decide) (by decide) (fun r1 _ H locs er1 hP hD hK hS => ?_)
  have er1 : r1 = 0 := er1
  subst er1
  have hK : va_K D cl [(cI, .int), (cJ, .long)] s := hK
  have hP : va_P D cl [(oa, .inl (cJ, 1, .inr (.inl (fun _ => 0))))] H := hP
  have hD : va_D A [(oa, .inl (cJ, 1, .inr (.inl (fun _ => 0))))] := hD
  refine lv_i2l hx hb d_La_file_8 rfl ?_
  refine va_last hx hb hK hP hD hS 0 1 rfl rfl (by unfold vp_in; decide) d_La_file_9 (fun H locs hP hD hS => ?_)
  have hP : va_P D cl [(oa, .inl (cJ, 1, .inr (.inl (vp_updL (fun _ => 0) (0 : Int32).toNatClampNeg ((0 : Int32).toInt64)))))] H := hP
  have hD : va_D A [(oa, .inl (cJ, 1, .inr (.inl (vp_updL (fun _ => 0) (0 : Int32).toNatClampNeg ((0 : Int32).toInt64)))))] := hD
  refine lv_goto (tgt := 17) hx hb d_La_file_10 (by decide) ?_
  refine lv_iconst (v := 0) hx hb d_La_file_17 (by decide) ?_
  exact xriW () B d_La_file_18 (rfl) (hP.sub (ws' := [(oa, .inl (cJ, 1, .inr (.inl (vp_updL (fun _ => 0) (0 : Int32).toNatClampNeg ((0 : Int32).toInt64)))))]) [0] rfl) (hK.sub (tys' := []) [] rfl) (hD.sub (ws' := [(oa, .inl (cJ, 1, .inr (.inl (vp_updL (fun _ => 0) (0 : Int32).toNatClampNeg ((0 : Int32).toInt64)))))]) [0] (by decide) rfl) hS (Nat.le_of_ble_eq_true rfl) (Nat.le_of_ble_eq_true rfl)
set_option maxRecDepth 20000 in
set_option maxHeartbeats 4000000 in
theorem c_La_file_2 (l : Launch) (D : va_G) (fb : Nat) (rl : Nat) (rc : Nat) (oa : Nat) (di : Nat) (gr : Nat) (re : Nat) (bu : Nat) (de : Nat) (rb : Nat) (rt : Nat) (cI : ClassId) (cJ : ClassId) (x : Int32) (sz : Nat) (h : xIn x 0 23 = 1) : xMi l y_La_file w_La_file { frames := 8, cells := 1, slots := 6, locals := 170 } D cl [.ref fb, .int x, .int 2, .ref oa] sz [(cI, .int), (cJ, .long)] [(fb, .inr (5, [.ref di, .ref gr, .ref re, .ref rl, .ref bu, .ref de])), (rl, .inr (4, [.ref rb, .ref rc, .ref rt, .int 0])), (rc, .inl (cI, 24, .inl (fun _ => (-1)))), (oa, .inl (cJ, 1, .inr (.inl (fun _ => 0))))] (fun (r : Int32) (_ : Unit) => r = 0) (fun _ => [(oa, .inl (cJ, 1, .inr (.inl (vp_updL (fun _ => 0) (0 : Int32).toNatClampNeg ((-1 : Int32).toInt64)))))]) (fun _ => []) := by
  refine xMiW_of (by decide +kernel) rfl (Nat.le_of_ble_eq_true rfl) ?_
  intro p e s m args below meth c ls A B hAe hA hsz hP hK hD hS hAm hTh hAs hl
  obtain ⟨⟨hx, hb, hml, hown, hts⟩, hret, hlk, htab⟩ := id B
  have hl : lv_has ls 5 [(0, .ref fb), (1, .int x), (2, .int 2), (3, .ref oa)] := hl
  refine lv_aload_n hx hb d_La_file_0 rfl (lv_at hl 3 rfl) ?_
  refine lv_iconst (v := 0) hx hb d_La_file_1 (by decide) ?_
  refine lv_aload_n hx hb d_La_file_2 rfl (lv_at hl 0 rfl) ?_
  refine lv_iload_n hx hb d_La_file_3 rfl (lv_at hl 1 rfl) ?_
  refine lv_iload_n hx hb d_La_file_4 rfl (lv_at hl 2 rfl) ?_
  have hPc := hP.sub (ws' := [(fb, .inr (5, [.ref di, .ref gr, .ref re, .ref rl, .ref bu, .ref de])), (rl, .inr (4, [.ref rb, .ref rc, .ref rt, .int 0])), (rc, .inl (cI, 24, .inl (fun _ => (-1))))]) [0, 1, 2] rfl
  have hDc := hD.sub (ws' := [(fb, .inr (5, [.ref di, .ref gr, .ref re, .ref rl, .ref bu, .ref de])), (rl, .inr (4, [.ref rb, .ref rc, .ref rt, .int 0])), (rc, .inl (cI, 24, .inl (fun _ => (-1))))]) [0, 1, 2] (by decide) rfl
  have hKc := hK.sub (tys' := [(cI, .int)]) [0] rfl
  refine xgi (wsC := [(fb, .inr (5, [.ref di, .ref gr, .ref re, .ref rl, .ref bu, .ref de])), (rl, .inr (4, [.ref rb, .ref rc, .ref rt, .int 0])), (rc, .inl (cI, 24, .inl (fun _ => (-1))))]) (wr := [(oa, .inl (cJ, 1, .inr (.inl (fun _ => 0))))]) (va_runV (As := [.int x, .int 2]) (rest := [.int 0, .ref oa]) ⟨hx, hb, hml, hown, hts⟩ (c_FB_file_2 l  D fb rl rc di gr re bu de rb rt cI x _ h) ⟨(callB_of 2 hts (x_good k_FB_file) rfl rfl rfl (hts _ (List.mem_cons_of_mem _ tw_1)) (hts _ (List.mem_cons_of_mem _ tw_614)) (by decide +kernel) ⟨Nat.le_of_ble_eq_true rfl, Nat.le_of_ble_eq_true rfl⟩), (hts _ (List.mem_cons_of_mem _ tw_615)), (hts _ (List.mem_cons_of_mem _ tw_616))⟩ (xP_V (va_recv (ci := 5) (q0 := 0) hK hP rfl rfl) hPc hKc hDc hAm hTh hAs hS) rfl rfl hl.1 rfl (lv_room (Nat.le_of_ble_eq_true rfl)) d_La_file_5 ⟨Nat.le_of_ble_eq_true rfl, Nat.le_of_ble_eq_true rfl⟩) hP hD hK hS hA [0, 1, 2] [3] rfl rfl (by decide) (by decide) (fun r1 _ H locs er1 hP hD hK hS => ?_)
  have er1 : r1 = (-1) := er1
  subst er1
  have hK : va_K D cl [(cI, .int), (cJ, .long)] s := hK
  have hP : va_P D cl [(oa, .inl (cJ, 1, .inr (.inl (fun _ => 0))))] H := hP
  have hD : va_D A [(oa, .inl (cJ, 1, .inr (.inl (fun _ => 0))))] := hD
  refine lv_i2l hx hb d_La_file_8 rfl ?_
  refine va_last hx hb hK hP hD hS 0 1 rfl rfl (by unfold vp_in; decide) d_La_file_9 (fun H locs hP hD hS => ?_)
  have hP : va_P D cl [(oa, .inl (cJ, 1, .inr (.inl (vp_updL (fun _ => 0) (0 : Int32).toNatClampNeg ((-1 : Int32).toInt64)))))] H := hP
  have hD : va_D A [(oa, .inl (cJ, 1, .inr (.inl (vp_updL (fun _ => 0) (0 : Int32).toNatClampNeg ((-1 : Int32).toInt64)))))] := hD
  refine lv_goto (tgt := 17) hx hb d_La_file_10 (by decide) ?_
  refine lv_iconst (v := 0) hx hb d_La_file_17 (by decide) ?_
  exact xriW () B d_La_file_18 (rfl) (hP.sub (ws' := [(oa, .inl (cJ, 1, .inr (.inl (vp_updL (fun _ => 0) (0 : Int32).toNatClampNeg ((-1 : Int32).toInt64)))))]) [0] rfl) (hK.sub (tys' := []) [] rfl) (hD.sub (ws' := [(oa, .inl (cJ, 1, .inr (.inl (vp_updL (fun _ => 0) (0 : Int32).toNatClampNeg ((-1 : Int32).toInt64)))))]) [0] (by decide) rfl) hS (Nat.le_of_ble_eq_true rfl) (Nat.le_of_ble_eq_true rfl)
set_option maxRecDepth 20000 in
set_option maxHeartbeats 4000000 in
theorem c_La_file_3 (l : Launch) (D : va_G) (fb : Nat) (rl : Nat) (rc : Nat) (oa : Nat) (di : Nat) (gr : Nat) (re : Nat) (bu : Nat) (de : Nat) (rb : Nat) (rt : Nat) (cI : ClassId) (cJ : ClassId) (x : Int32) (sz : Nat) (h : xIn x 0 23 = 1) : xMi l y_La_file w_La_file { frames := 8, cells := 1, slots := 6, locals := 170 } D cl [.ref fb, .int x, .int 3, .ref oa] sz [(cI, .int), (cJ, .long)] [(fb, .inr (5, [.ref di, .ref gr, .ref re, .ref rl, .ref bu, .ref de])), (rl, .inr (4, [.ref rb, .ref rc, .ref rt, .int 0])), (rc, .inl (cI, 24, .inl (fun _ => (-1)))), (oa, .inl (cJ, 1, .inr (.inl (fun _ => 0))))] (fun (r : Int32) (_ : Unit) => r = 0) (fun _ => [(oa, .inl (cJ, 1, .inr (.inl (vp_updL (fun _ => 0) (0 : Int32).toNatClampNeg ((-1 : Int32).toInt64)))))]) (fun _ => []) := by
  refine xMiW_of (by decide +kernel) rfl (Nat.le_of_ble_eq_true rfl) ?_
  intro p e s m args below meth c ls A B hAe hA hsz hP hK hD hS hAm hTh hAs hl
  obtain ⟨⟨hx, hb, hml, hown, hts⟩, hret, hlk, htab⟩ := id B
  have hl : lv_has ls 5 [(0, .ref fb), (1, .int x), (2, .int 3), (3, .ref oa)] := hl
  refine lv_aload_n hx hb d_La_file_0 rfl (lv_at hl 3 rfl) ?_
  refine lv_iconst (v := 0) hx hb d_La_file_1 (by decide) ?_
  refine lv_aload_n hx hb d_La_file_2 rfl (lv_at hl 0 rfl) ?_
  refine lv_iload_n hx hb d_La_file_3 rfl (lv_at hl 1 rfl) ?_
  refine lv_iload_n hx hb d_La_file_4 rfl (lv_at hl 2 rfl) ?_
  have hPc := hP.sub (ws' := [(fb, .inr (5, [.ref di, .ref gr, .ref re, .ref rl, .ref bu, .ref de])), (rl, .inr (4, [.ref rb, .ref rc, .ref rt, .int 0])), (rc, .inl (cI, 24, .inl (fun _ => (-1))))]) [0, 1, 2] rfl
  have hDc := hD.sub (ws' := [(fb, .inr (5, [.ref di, .ref gr, .ref re, .ref rl, .ref bu, .ref de])), (rl, .inr (4, [.ref rb, .ref rc, .ref rt, .int 0])), (rc, .inl (cI, 24, .inl (fun _ => (-1))))]) [0, 1, 2] (by decide) rfl
  have hKc := hK.sub (tys' := [(cI, .int)]) [0] rfl
  refine xgi (wsC := [(fb, .inr (5, [.ref di, .ref gr, .ref re, .ref rl, .ref bu, .ref de])), (rl, .inr (4, [.ref rb, .ref rc, .ref rt, .int 0])), (rc, .inl (cI, 24, .inl (fun _ => (-1))))]) (wr := [(oa, .inl (cJ, 1, .inr (.inl (fun _ => 0))))]) (va_runV (As := [.int x, .int 3]) (rest := [.int 0, .ref oa]) ⟨hx, hb, hml, hown, hts⟩ (c_FB_file_3 l  D fb rl rc di gr re bu de rb rt cI x _ h) ⟨(callB_of 2 hts (x_good k_FB_file) rfl rfl rfl (hts _ (List.mem_cons_of_mem _ tw_1)) (hts _ (List.mem_cons_of_mem _ tw_614)) (by decide +kernel) ⟨Nat.le_of_ble_eq_true rfl, Nat.le_of_ble_eq_true rfl⟩), (hts _ (List.mem_cons_of_mem _ tw_615)), (hts _ (List.mem_cons_of_mem _ tw_616))⟩ (xP_V (va_recv (ci := 5) (q0 := 0) hK hP rfl rfl) hPc hKc hDc hAm hTh hAs hS) rfl rfl hl.1 rfl (lv_room (Nat.le_of_ble_eq_true rfl)) d_La_file_5 ⟨Nat.le_of_ble_eq_true rfl, Nat.le_of_ble_eq_true rfl⟩) hP hD hK hS hA [0, 1, 2] [3] rfl rfl (by decide) (by decide) (fun r1 _ H locs er1 hP hD hK hS => ?_)
  have er1 : r1 = (-1) := er1
  subst er1
  have hK : va_K D cl [(cI, .int), (cJ, .long)] s := hK
  have hP : va_P D cl [(oa, .inl (cJ, 1, .inr (.inl (fun _ => 0))))] H := hP
  have hD : va_D A [(oa, .inl (cJ, 1, .inr (.inl (fun _ => 0))))] := hD
  refine lv_i2l hx hb d_La_file_8 rfl ?_
  refine va_last hx hb hK hP hD hS 0 1 rfl rfl (by unfold vp_in; decide) d_La_file_9 (fun H locs hP hD hS => ?_)
  have hP : va_P D cl [(oa, .inl (cJ, 1, .inr (.inl (vp_updL (fun _ => 0) (0 : Int32).toNatClampNeg ((-1 : Int32).toInt64)))))] H := hP
  have hD : va_D A [(oa, .inl (cJ, 1, .inr (.inl (vp_updL (fun _ => 0) (0 : Int32).toNatClampNeg ((-1 : Int32).toInt64)))))] := hD
  refine lv_goto (tgt := 17) hx hb d_La_file_10 (by decide) ?_
  refine lv_iconst (v := 0) hx hb d_La_file_17 (by decide) ?_
  exact xriW () B d_La_file_18 (rfl) (hP.sub (ws' := [(oa, .inl (cJ, 1, .inr (.inl (vp_updL (fun _ => 0) (0 : Int32).toNatClampNeg ((-1 : Int32).toInt64)))))]) [0] rfl) (hK.sub (tys' := []) [] rfl) (hD.sub (ws' := [(oa, .inl (cJ, 1, .inr (.inl (vp_updL (fun _ => 0) (0 : Int32).toNatClampNeg ((-1 : Int32).toInt64)))))]) [0] (by decide) rfl) hS (Nat.le_of_ble_eq_true rfl) (Nat.le_of_ble_eq_true rfl)
theorem d_La_file_13 : decode b_La_file 13 = .ok (.astore 4, 2) := by decide +kernel
theorem d_La_file_15 : decode b_La_file 15 = .ok (.iconst (1), 1) := by decide +kernel
theorem d_La_file_16 : decode b_La_file 16 = .ok (.ireturn, 1) := by decide +kernel
set_option maxRecDepth 20000 in
set_option maxHeartbeats 4000000 in
theorem c_La_file_w (l : Launch) (hfl : l.flags = pinnedFlags ++ [noTraceFlag]) (D : va_G) (fb : Nat) (di : Nat) (oa : Nat) (gr : Nat) (re : Nat) (rl : Nat) (bu : Nat) (de : Nat) (ct : Nat) (ti : Nat) (cJ : ClassId) (x : Int32) (y : Int32) (sz : Nat) (h : xIn x 0 23 = 1) (h2 : ¬ xIn y 0 3 = 1) : xMi l y_La_file w_La_file { frames := 8, cells := 1, slots := 6, locals := 170 } D cl [.ref fb, .int x, .int y, .ref oa] sz [(cJ, .long)] [(fb, .inr (5, [.ref di, .ref gr, .ref re, .ref rl, .ref bu, .ref de])), (di, .inr (1, [.ref ct, .ref ti, .int 0, .int 0])), (oa, .inl (cJ, 1, .inr (.inl (fun _ => 0))))] (fun (r : Int32) (_ : Unit) => r = 1) (fun _ => []) (fun _ => []) := by
  refine xMiW_of (by decide +kernel) rfl (Nat.le_of_ble_eq_true rfl) ?_
  intro p e s m args below meth c ls A B hAe hA hsz hP hK hD hS hAm hTh hAs hl
  obtain ⟨⟨hx, hb, hml, hown, hts⟩, hret, hlk, htab⟩ := id B
  have hl : lv_has ls 5 [(0, .ref fb), (1, .int x), (2, .int y), (3, .ref oa)] := hl
  refine lv_aload_n hx hb d_La_file_0 rfl (lv_at hl 3 rfl) ?_
  refine lv_iconst (v := 0) hx hb d_La_file_1 (by decide) ?_
  refine lv_aload_n hx hb d_La_file_2 rfl (lv_at hl 0 rfl) ?_
  refine lv_iload_n hx hb d_La_file_3 rfl (lv_at hl 1 rfl) ?_
  refine lv_iload_n hx hb d_La_file_4 rfl (lv_at hl 2 rfl) ?_
  have hPc := hP.sub (ws' := [(fb, .inr (5, [.ref di, .ref gr, .ref re, .ref rl, .ref bu, .ref de])), (di, .inr (1, [.ref ct, .ref ti, .int 0, .int 0]))]) [0, 1] rfl
  have hDc := hD.sub (ws' := [(fb, .inr (5, [.ref di, .ref gr, .ref re, .ref rl, .ref bu, .ref de])), (di, .inr (1, [.ref ct, .ref ti, .int 0, .int 0]))]) [0, 1] (by decide) rfl
  have hKc := hK.sub (tys' := []) [] rfl
  have hFc := va_free (wc := [(fb, .inr (5, [.ref di, .ref gr, .ref re, .ref rl, .ref bu, .ref de])), (di, .inr (1, [.ref ct, .ref ti, .int 0, .int 0]))]) hD hS hA [0, 1] rfl
  refine xt_callV (As := [.int x, .int y]) (rest := [.int 0, .ref oa]) ⟨hx, hb, hml, hown, hts⟩ (c_FB_file_w l hfl  D fb di gr re rl bu de ct ti x y _ h h2) ⟨(callB_of 2 hts (x_good k_FB_file) rfl rfl rfl (hts _ (List.mem_cons_of_mem _ tw_1)) (hts _ (List.mem_cons_of_mem _ tw_614)) (by decide +kernel) ⟨Nat.le_of_ble_eq_true rfl, Nat.le_of_ble_eq_true rfl⟩), (hts _ (List.mem_cons_of_mem _ tw_615)), (hts _ (List.mem_cons_of_mem _ tw_616))⟩ (xP_V (va_recv (ci := 5) (q0 := 0) hK hP rfl rfl) hPc hKc hDc hAm hTh hAs hS) rfl hl.1 rfl (Nat.le_of_ble_eq_true rfl) d_La_file_5 ⟨Nat.le_of_ble_eq_true rfl, Nat.le_of_ble_eq_true rfl⟩ hS (fun q _ h => hFc q h) hFc (fun x9 cell H locs hx1 hx2 hx3 hx4 hz9 hk9 hS => ?_)
  refine xt_catch htab hown ⟨by decide, by decide, by decide, "java/lang/IllegalArgumentException", (hts _ (List.mem_cons_of_mem _ tw_235)), Or.inl ⟨rfl, va_Nw.use rfl (hAm.1 _ (List.mem_of_getElem? (i := 29) rfl))⟩⟩ hx2 hx3 hx4 ?_
  have hP : va_P D cl [] H := xP0
  have hD : va_D A [] := hD.sub (ws' := []) [] (by decide) rfl
  refine lv_astore hx hb d_La_file_13 hl (by decide) rfl (fun ls hl => ?_)
  have hl : lv_has ls 5 [(4, .ref x9), (0, .ref fb), (1, .int x), (2, .int y), (3, .ref oa)] := hl
  refine lv_iconst (v := 1) hx hb d_La_file_15 (by decide) ?_
  exact xriW () B d_La_file_16 (rfl) (hP.sub (ws' := []) [] rfl) (hK.sub (tys' := []) [] rfl) (hD.sub (ws' := []) [] (by decide) rfl) hS (Nat.le_of_ble_eq_true rfl) (Nat.le_of_ble_eq_true rfl)
set_option maxRecDepth 20000 in
set_option maxHeartbeats 4000000 in
theorem c_La_file_i (l : Launch) (hfl : l.flags = pinnedFlags ++ [noTraceFlag]) (D : va_G) (fb : Nat) (di : Nat) (oa : Nat) (gr : Nat) (re : Nat) (rl : Nat) (bu : Nat) (de : Nat) (ct : Nat) (ti : Nat) (cJ : ClassId) (x : Int32) (y : Int32) (sz : Nat) (h : ¬ xIn x 0 23 = 1) : xMi l y_La_file w_La_file { frames := 8, cells := 1, slots := 6, locals := 170 } D cl [.ref fb, .int x, .int y, .ref oa] sz [(cJ, .long)] [(fb, .inr (5, [.ref di, .ref gr, .ref re, .ref rl, .ref bu, .ref de])), (di, .inr (1, [.ref ct, .ref ti, .int 0, .int 0])), (oa, .inl (cJ, 1, .inr (.inl (fun _ => 0))))] (fun (r : Int32) (_ : Unit) => r = 1) (fun _ => []) (fun _ => []) := by
  refine xMiW_of (by decide +kernel) rfl (Nat.le_of_ble_eq_true rfl) ?_
  intro p e s m args below meth c ls A B hAe hA hsz hP hK hD hS hAm hTh hAs hl
  obtain ⟨⟨hx, hb, hml, hown, hts⟩, hret, hlk, htab⟩ := id B
  have hl : lv_has ls 5 [(0, .ref fb), (1, .int x), (2, .int y), (3, .ref oa)] := hl
  refine lv_aload_n hx hb d_La_file_0 rfl (lv_at hl 3 rfl) ?_
  refine lv_iconst (v := 0) hx hb d_La_file_1 (by decide) ?_
  refine lv_aload_n hx hb d_La_file_2 rfl (lv_at hl 0 rfl) ?_
  refine lv_iload_n hx hb d_La_file_3 rfl (lv_at hl 1 rfl) ?_
  refine lv_iload_n hx hb d_La_file_4 rfl (lv_at hl 2 rfl) ?_
  have hPc := hP.sub (ws' := [(fb, .inr (5, [.ref di, .ref gr, .ref re, .ref rl, .ref bu, .ref de])), (di, .inr (1, [.ref ct, .ref ti, .int 0, .int 0]))]) [0, 1] rfl
  have hDc := hD.sub (ws' := [(fb, .inr (5, [.ref di, .ref gr, .ref re, .ref rl, .ref bu, .ref de])), (di, .inr (1, [.ref ct, .ref ti, .int 0, .int 0]))]) [0, 1] (by decide) rfl
  have hKc := hK.sub (tys' := []) [] rfl
  have hFc := va_free (wc := [(fb, .inr (5, [.ref di, .ref gr, .ref re, .ref rl, .ref bu, .ref de])), (di, .inr (1, [.ref ct, .ref ti, .int 0, .int 0]))]) hD hS hA [0, 1] rfl
  refine xt_callV (As := [.int x, .int y]) (rest := [.int 0, .ref oa]) ⟨hx, hb, hml, hown, hts⟩ (c_FB_file_i l hfl  D fb di gr re rl bu de ct ti x y _ h) ⟨(callB_of 2 hts (x_good k_FB_file) rfl rfl rfl (hts _ (List.mem_cons_of_mem _ tw_1)) (hts _ (List.mem_cons_of_mem _ tw_614)) (by decide +kernel) ⟨Nat.le_of_ble_eq_true rfl, Nat.le_of_ble_eq_true rfl⟩), (hts _ (List.mem_cons_of_mem _ tw_615)), (hts _ (List.mem_cons_of_mem _ tw_616))⟩ (xP_V (va_recv (ci := 5) (q0 := 0) hK hP rfl rfl) hPc hKc hDc hAm hTh hAs hS) rfl hl.1 rfl (Nat.le_of_ble_eq_true rfl) d_La_file_5 ⟨Nat.le_of_ble_eq_true rfl, Nat.le_of_ble_eq_true rfl⟩ hS (fun q _ h => hFc q h) hFc (fun x9 cell H locs hx1 hx2 hx3 hx4 hz9 hk9 hS => ?_)
  refine xt_catch htab hown ⟨by decide, by decide, by decide, "java/lang/IllegalArgumentException", (hts _ (List.mem_cons_of_mem _ tw_235)), Or.inl ⟨rfl, va_Nw.use rfl (hAm.1 _ (List.mem_of_getElem? (i := 29) rfl))⟩⟩ hx2 hx3 hx4 ?_
  have hP : va_P D cl [] H := xP0
  have hD : va_D A [] := hD.sub (ws' := []) [] (by decide) rfl
  refine lv_astore hx hb d_La_file_13 hl (by decide) rfl (fun ls hl => ?_)
  have hl : lv_has ls 5 [(4, .ref x9), (0, .ref fb), (1, .int x), (2, .int y), (3, .ref oa)] := hl
  refine lv_iconst (v := 1) hx hb d_La_file_15 (by decide) ?_
  exact xriW () B d_La_file_16 (rfl) (hP.sub (ws' := []) [] rfl) (hK.sub (tys' := []) [] rfl) (hD.sub (ws' := []) [] (by decide) rfl) hS (Nat.le_of_ble_eq_true rfl) (Nat.le_of_ble_eq_true rfl)
theorem d_La_cut_0 : decode b_La_cut 0 = .ok (.aload_n 2, 1) := by decide +kernel
theorem d_La_cut_1 : decode b_La_cut 1 = .ok (.iconst (0), 1) := by decide +kernel
theorem d_La_cut_2 : decode b_La_cut 2 = .ok (.aload_n 0, 1) := by decide +kernel
theorem d_La_cut_3 : decode b_La_cut 3 = .ok (.iload_n 1, 1) := by decide +kernel
theorem d_La_cut_4 : decode b_La_cut 4 = .ok (.invokevirtual 61, 3) := by decide +kernel
theorem d_La_cut_7 : decode b_La_cut 7 = .ok (.i2l, 1) := by decide +kernel
theorem d_La_cut_8 : decode b_La_cut 8 = .ok (.lastore, 1) := by decide +kernel
theorem d_La_cut_9 : decode b_La_cut 9 = .ok (.goto (9), 3) := by decide +kernel
theorem d_La_cut_18 : decode b_La_cut 18 = .ok (.iconst (0), 1) := by decide +kernel
theorem d_La_cut_19 : decode b_La_cut 19 = .ok (.ireturn, 1) := by decide +kernel
set_option maxRecDepth 20000 in
set_option maxHeartbeats 4000000 in
theorem c_La_cut (l : Launch) (D : va_G) (fb : Nat) (bu : Nat) (bs : Nat) (re : Nat) (rr : Nat) (rk : Nat) (rl : Nat) (rc : Nat) (oa : Nat) (di : Nat) (gr : Nat) (de : Nat) (rb : Nat) (rt : Nat) (cI : ClassId) (cZ : ClassId) (cJ : ClassId) (x : Int32) (sz : Nat) (h : ¬ x < 0) : xMi l y_La_cut w_La_cut { frames := 8, cells := 1, slots := 6, locals := 170 } D cl [.ref fb, .int x, .ref oa] sz [(cI, .int), (cZ, .boolean), (cJ, .long)] [(fb, .inr (5, [.ref di, .ref gr, .ref re, .ref rl, .ref bu, .ref de])), (bu, .inr (0, [.ref bs, .int 0, .int 0, .int 0])), (bs, .inl (cI, 12, .inl (fun _ => 0))), (re, .inr (3, [.ref rr, .ref rk])), (rr, .inl (cI, 12, .inl (fun _ => 0))), (rk, .inl (cZ, 12, .inl (fun _ => 0))), (rl, .inr (4, [.ref rb, .ref rc, .ref rt, .int 0])), (rc, .inl (cI, 24, .inl (fun _ => (-1)))), (oa, .inl (cJ, 1, .inr (.inl (fun _ => 0))))] (fun (r : Int32) (_ : Unit) => r = 0) (fun _ => [(oa, .inl (cJ, 1, .inr (.inl (vp_updL (fun _ => 0) (0 : Int32).toNatClampNeg ((0 : Int32).toInt64)))))]) (fun _ => []) := by
  refine xMiW_of (by decide +kernel) rfl (Nat.le_of_ble_eq_true rfl) ?_
  intro p e s m args below meth c ls A B hAe hA hsz hP hK hD hS hAm hTh hAs hl
  obtain ⟨⟨hx, hb, hml, hown, hts⟩, hret, hlk, htab⟩ := id B
  have hl : lv_has ls 4 [(0, .ref fb), (1, .int x), (2, .ref oa)] := hl
  refine lv_aload_n hx hb d_La_cut_0 rfl (lv_at hl 2 rfl) ?_
  refine lv_iconst (v := 0) hx hb d_La_cut_1 (by decide) ?_
  refine lv_aload_n hx hb d_La_cut_2 rfl (lv_at hl 0 rfl) ?_
  refine lv_iload_n hx hb d_La_cut_3 rfl (lv_at hl 1 rfl) ?_
  have hPc := hP.sub (ws' := [(fb, .inr (5, [.ref di, .ref gr, .ref re, .ref rl, .ref bu, .ref de])), (bu, .inr (0, [.ref bs, .int 0, .int 0, .int 0])), (bs, .inl (cI, 12, .inl (fun _ => 0))), (re, .inr (3, [.ref rr, .ref rk])), (rr, .inl (cI, 12, .inl (fun _ => 0))), (rk, .inl (cZ, 12, .inl (fun _ => 0))), (rl, .inr (4, [.ref rb, .ref rc, .ref rt, .int 0])), (rc, .inl (cI, 24, .inl (fun _ => (-1))))]) [0, 1, 2, 3, 4, 5, 6, 7] rfl
  have hDc := hD.sub (ws' := [(fb, .inr (5, [.ref di, .ref gr, .ref re, .ref rl, .ref bu, .ref de])), (bu, .inr (0, [.ref bs, .int 0, .int 0, .int 0])), (bs, .inl (cI, 12, .inl (fun _ => 0))), (re, .inr (3, [.ref rr, .ref rk])), (rr, .inl (cI, 12, .inl (fun _ => 0))), (rk, .inl (cZ, 12, .inl (fun _ => 0))), (rl, .inr (4, [.ref rb, .ref rc, .ref rt, .int 0])), (rc, .inl (cI, 24, .inl (fun _ => (-1))))]) [0, 1, 2, 3, 4, 5, 6, 7] (by decide) rfl
  have hKc := hK.sub (tys' := [(cI, .int), (cZ, .boolean)]) [0, 1] rfl
  refine xgi (wsC := [(fb, .inr (5, [.ref di, .ref gr, .ref re, .ref rl, .ref bu, .ref de])), (bu, .inr (0, [.ref bs, .int 0, .int 0, .int 0])), (bs, .inl (cI, 12, .inl (fun _ => 0))), (re, .inr (3, [.ref rr, .ref rk])), (rr, .inl (cI, 12, .inl (fun _ => 0))), (rk, .inl (cZ, 12, .inl (fun _ => 0))), (rl, .inr (4, [.ref rb, .ref rc, .ref rt, .int 0])), (rc, .inl (cI, 24, .inl (fun _ => (-1))))]) (wr := [(oa, .inl (cJ, 1, .inr (.inl (fun _ => 0))))]) (va_runV (As := [.int x]) (rest := [.int 0, .ref oa]) ⟨hx, hb, hml, hown, hts⟩ (c_FB_cut l  D fb bu bs re rr rk rl rc di gr de rb rt cI cZ x _ h) ⟨(callB_of 1 hts (x_good k_FB_cut) rfl rfl rfl (hts _ (List.mem_cons_of_mem _ tw_1)) (hts _ (List.mem_cons_of_mem _ tw_630)) (by decide +kernel) ⟨Nat.le_of_ble_eq_true rfl, Nat.le_of_ble_eq_true rfl⟩), (hts _ (List.mem_cons_of_mem _ tw_631)), (hts _ (List.mem_cons_of_mem _ tw_632))⟩ (xP_V (va_recv (ci := 5) (q0 := 0) hK hP rfl rfl) hPc hKc hDc hAm hTh hAs hS) rfl rfl hl.1 rfl (lv_room (Nat.le_of_ble_eq_true rfl)) d_La_cut_4 ⟨Nat.le_of_ble_eq_true rfl, Nat.le_of_ble_eq_true rfl⟩) hP hD hK hS hA [0, 1, 2, 3, 4, 5, 6, 7] [8] rfl rfl (by decide) (by decide) (fun r1 _ H locs er1 hP hD hK hS => ?_)
  have er1 : r1 = 0 := er1
  subst er1
  have hK : va_K D cl [(cI, .int), (cZ, .boolean), (cJ, .long)] s := hK
  have hP : va_P D cl [(oa, .inl (cJ, 1, .inr (.inl (fun _ => 0))))] H := hP
  have hD : va_D A [(oa, .inl (cJ, 1, .inr (.inl (fun _ => 0))))] := hD
  refine lv_i2l hx hb d_La_cut_7 rfl ?_
  refine va_last hx hb hK hP hD hS 0 2 rfl rfl (by unfold vp_in; decide) d_La_cut_8 (fun H locs hP hD hS => ?_)
  have hP : va_P D cl [(oa, .inl (cJ, 1, .inr (.inl (vp_updL (fun _ => 0) (0 : Int32).toNatClampNeg ((0 : Int32).toInt64)))))] H := hP
  have hD : va_D A [(oa, .inl (cJ, 1, .inr (.inl (vp_updL (fun _ => 0) (0 : Int32).toNatClampNeg ((0 : Int32).toInt64)))))] := hD
  refine lv_goto (tgt := 18) hx hb d_La_cut_9 (by decide) ?_
  refine lv_iconst (v := 0) hx hb d_La_cut_18 (by decide) ?_
  exact xriW () B d_La_cut_19 (rfl) (hP.sub (ws' := [(oa, .inl (cJ, 1, .inr (.inl (vp_updL (fun _ => 0) (0 : Int32).toNatClampNeg ((0 : Int32).toInt64)))))]) [0] rfl) (hK.sub (tys' := []) [] rfl) (hD.sub (ws' := [(oa, .inl (cJ, 1, .inr (.inl (vp_updL (fun _ => 0) (0 : Int32).toNatClampNeg ((0 : Int32).toInt64)))))]) [0] (by decide) rfl) hS (Nat.le_of_ble_eq_true rfl) (Nat.le_of_ble_eq_true rfl)
theorem d_La_cut_12 : decode b_La_cut 12 = .ok (.astore_n 3, 1) := by decide +kernel
theorem d_La_cut_13 : decode b_La_cut 13 = .ok (.iconst (1), 1) := by decide +kernel
theorem d_La_cut_14 : decode b_La_cut 14 = .ok (.ireturn, 1) := by decide +kernel
set_option maxRecDepth 20000 in
set_option maxHeartbeats 4000000 in
theorem c_La_cut_t (l : Launch) (hfl : l.flags = pinnedFlags ++ [noTraceFlag]) (D : va_G) (fb : Nat) (bu : Nat) (oa : Nat) (di : Nat) (gr : Nat) (re : Nat) (rl : Nat) (de : Nat) (bs : Nat) (cJ : ClassId) (x : Int32) (sz : Nat) (h : x < 0) : xMi l y_La_cut w_La_cut { frames := 8, cells := 1, slots := 6, locals := 170 } D cl [.ref fb, .int x, .ref oa] sz [(cJ, .long)] [(fb, .inr (5, [.ref di, .ref gr, .ref re, .ref rl, .ref bu, .ref de])), (bu, .inr (0, [.ref bs, .int 0, .int 0, .int 0])), (oa, .inl (cJ, 1, .inr (.inl (fun _ => 0))))] (fun (r : Int32) (_ : Unit) => r = 1) (fun _ => []) (fun _ => []) := by
  refine xMiW_of (by decide +kernel) rfl (Nat.le_of_ble_eq_true rfl) ?_
  intro p e s m args below meth c ls A B hAe hA hsz hP hK hD hS hAm hTh hAs hl
  obtain ⟨⟨hx, hb, hml, hown, hts⟩, hret, hlk, htab⟩ := id B
  have hl : lv_has ls 4 [(0, .ref fb), (1, .int x), (2, .ref oa)] := hl
  refine lv_aload_n hx hb d_La_cut_0 rfl (lv_at hl 2 rfl) ?_
  refine lv_iconst (v := 0) hx hb d_La_cut_1 (by decide) ?_
  refine lv_aload_n hx hb d_La_cut_2 rfl (lv_at hl 0 rfl) ?_
  refine lv_iload_n hx hb d_La_cut_3 rfl (lv_at hl 1 rfl) ?_
  have hPc := hP.sub (ws' := [(fb, .inr (5, [.ref di, .ref gr, .ref re, .ref rl, .ref bu, .ref de])), (bu, .inr (0, [.ref bs, .int 0, .int 0, .int 0]))]) [0, 1] rfl
  have hDc := hD.sub (ws' := [(fb, .inr (5, [.ref di, .ref gr, .ref re, .ref rl, .ref bu, .ref de])), (bu, .inr (0, [.ref bs, .int 0, .int 0, .int 0]))]) [0, 1] (by decide) rfl
  have hKc := hK.sub (tys' := []) [] rfl
  have hFc := va_free (wc := [(fb, .inr (5, [.ref di, .ref gr, .ref re, .ref rl, .ref bu, .ref de])), (bu, .inr (0, [.ref bs, .int 0, .int 0, .int 0]))]) hD hS hA [0, 1] rfl
  refine xt_callV (As := [.int x]) (rest := [.int 0, .ref oa]) ⟨hx, hb, hml, hown, hts⟩ (c_FB_cut_t l hfl  D fb bu di gr re rl de bs x _ h) ⟨(callB_of 1 hts (x_good k_FB_cut) rfl rfl rfl (hts _ (List.mem_cons_of_mem _ tw_1)) (hts _ (List.mem_cons_of_mem _ tw_630)) (by decide +kernel) ⟨Nat.le_of_ble_eq_true rfl, Nat.le_of_ble_eq_true rfl⟩), (hts _ (List.mem_cons_of_mem _ tw_631)), (hts _ (List.mem_cons_of_mem _ tw_632))⟩ (xP_V (va_recv (ci := 5) (q0 := 0) hK hP rfl rfl) hPc hKc hDc hAm hTh hAs hS) rfl hl.1 rfl (Nat.le_of_ble_eq_true rfl) d_La_cut_4 ⟨Nat.le_of_ble_eq_true rfl, Nat.le_of_ble_eq_true rfl⟩ hS (fun q _ h => hFc q h) hFc (fun x9 cell H locs hx1 hx2 hx3 hx4 hz9 hk9 hS => ?_)
  refine xt_catch htab hown ⟨by decide, by decide, by decide, "java/lang/IllegalArgumentException", (hts _ (List.mem_cons_of_mem _ tw_235)), Or.inl ⟨rfl, va_Nw.use rfl (hAm.1 _ (List.mem_of_getElem? (i := 29) rfl))⟩⟩ hx2 hx3 hx4 ?_
  have hP : va_P D cl [] H := xP0
  have hD : va_D A [] := hD.sub (ws' := []) [] (by decide) rfl
  refine lv_astore_n hx hb d_La_cut_12 rfl hl (by decide) rfl (fun ls hl => ?_)
  have hl : lv_has ls 4 [(3, .ref x9), (0, .ref fb), (1, .int x), (2, .ref oa)] := hl
  refine lv_iconst (v := 1) hx hb d_La_cut_13 (by decide) ?_
  exact xriW () B d_La_cut_14 (rfl) (hP.sub (ws' := []) [] rfl) (hK.sub (tys' := []) [] rfl) (hD.sub (ws' := []) [] (by decide) rfl) hS (Nat.le_of_ble_eq_true rfl) (Nat.le_of_ble_eq_true rfl)
