/-! the forms of my contracts: worlds ahead and behind, and what surrounds every call (xAmb, of the part before) -/
theorem xAs {s : State} {D : va_G} {cl : List vw_C} {ws : va_W} {A : Nat → Prop} (hAe : va_A ws s.heap.size = A) (hP : va_P D cl ws s.heap) : ∀ q, A q → ∀ cell, s.heap[q]? = some cell → cell.vm.isStatics = false := by
  intro q h cell hc
  rw [← hAe] at h
  rcases h with ⟨k, e, hk⟩ | h
  · have h1 := hP k _ hk
    cases e with
    | inl x =>
      have h2 : s.heap[q]? = some (vp_cell x.1 x.2) := h1
      cases hc.symm.trans h2
      obtain ⟨cA, n, f | f | f | f | f⟩ := x <;> rfl
    | inr o =>
      obtain ⟨r, -, cell', g1, -, g3, -⟩ := h1
      cases hc.symm.trans g1
      rw [g3]
      rfl
  · have : s.heap[q]? = none := Array.getElem?_eq_none h
    rw [this] at hc
    cases hc
def xPc (D : va_G) (cl : List vw_C) (av : List Value) (sz : Nat) (tys : List (ClassId × FieldType)) (ws : va_W) : Array Value → State → Prop :=
  va_Pc av (fun U => U.heap.size = sz ∧ va_P D cl ws U.heap ∧ va_K D cl tys U ∧ va_D (fun _ => True) ws ∧ xAmb U ∧ xTh U U.heap)
theorem xP_blind {D : va_G} {cl : List vw_C} {av : List Value} {sz : Nat} {tys : List (ClassId × FieldType)} {ws : va_W} : FrameBlind (xPc D cl av sz tys ws) := fun a U g mk q => by
  obtain ⟨q0, q1, qP, qK, qD, qA, qT⟩ := q
  exact ⟨q0, q1, qP, va_K.moved (u := U) (U := U.calling g mk a) (Vm.Alike.refl U.vm) qK, qD, xAmb.warm (s := U) (U := U.calling g mk a) (State.WarmedH.refl U) qA, xTh.next (s := U) (U := U.calling g mk a) (A := fun _ => False) (H1 := U.heap) qT (fun _ _ _ => rfl) (fun _ h => h.elim) (Vm.Alike.refl U.vm)⟩
theorem xP_S {s : State} {H : Heap} {A : Nat → Prop} {locs : List Loc} {D : va_G} {cl : List vw_C} {av : List Value} {tys : List (ClassId × FieldType)} {ws : va_W} (hP : va_P D cl ws H) (hK : va_K D cl tys s) (hD : va_D A ws) (hAm : xAmb s) (hTh : xTh s s.heap) (hAs : ∀ q, A q → ∀ cell, s.heap[q]? = some cell → cell.vm.isStatics = false) (hS : va_S A s.heap H locs) : PreS s H (xPc D cl av H.size tys ws) av :=
  ⟨xP_blind, fun U hU hW => ⟨rfl, by rw [hU], by rw [hU]; exact hP, va_K.moved hW.alike hK, hD.weaken (fun _ _ _ _ => trivial), xAmb.warm hW hAm, by rw [hU]; exact xTh.next hTh hS.2.1 hAs hW.alike⟩⟩
theorem xP_V {s : State} {H : Heap} {A : Nat → Prop} {locs : List Loc} {D : va_G} {cl : List vw_C} {C : String} {b : Addr} {As : List Value} {tys : List (ClassId × FieldType)} {ws : va_W} (hr : ∃ cellB : Cell, H[b]? = some cellB ∧ cellB.vm.isStatics = false ∧ s.vm.findClass C = some cellB.cls) (hP : va_P D cl ws H) (hK : va_K D cl tys s) (hD : va_D A ws) (hAm : xAmb s) (hTh : xTh s s.heap) (hAs : ∀ q, A q → ∀ cell, s.heap[q]? = some cell → cell.vm.isStatics = false) (hS : va_S A s.heap H locs) : PreV s H C b (xPc D cl (.ref b :: As) H.size tys ws) As :=
  ⟨xP_blind, hr, fun U hU hW => ⟨rfl, by rw [hU], by rw [hU]; exact hP, va_K.moved hW.alike hK, hD.weaken (fun _ _ _ _ => trivial), xAmb.warm hW hAm, by rw [hU]; exact xTh.next hTh hS.2.1 hAs hW.alike⟩⟩
abbrev xBh (D : va_G) (cl : List vw_C) (A : Nat → Prop) {S : Type} (w1 : S → va_W) (t1 : S → List (ClassId × FieldType)) : S → State → Prop := fun u t => va_P D cl (w1 u) t.heap ∧ va_K D cl (t1 u) t ∧ va_D A (w1 u)
def xMi (l : Launch) (y : MethodName) (wy : List Cond) (rm : Room) (D : va_G) (cl : List vw_C) (av : List Value) (sz : Nat) (tys : List (ClassId × FieldType)) (ws : va_W) {S : Type} (post : Int32 → S → Prop) (w1 : S → va_W) (t1 : S → List (ClassId × FieldType)) : Prop :=
  Met l y wy rm (xPc D cl av sz tys ws) (va_Qi post (xBh D cl (va_A ws sz) w1 t1) (va_A ws sz)) rm.cells rm.slots (va_A ws sz)
def xMv (l : Launch) (y : MethodName) (wy : List Cond) (rm : Room) (D : va_G) (cl : List vw_C) (av : List Value) (sz : Nat) (tys : List (ClassId × FieldType)) (ws : va_W) {S : Type} (post : S → Prop) (w1 : S → va_W) (t1 : S → List (ClassId × FieldType)) : Prop :=
  Met l y wy rm (xPc D cl av sz tys ws) (va_Qv post (xBh D cl (va_A ws sz) w1 t1) (va_A ws sz)) rm.cells rm.slots (va_A ws sz)
def xMt (l : Launch) (y : MethodName) (wy : List Cond) (rm : Room) (D : va_G) (cl : List vw_C) (av : List Value) (sz : Nat) (tys : List (ClassId × FieldType)) (ws : va_W) (X : String) : Prop :=
  xt_Met l y wy rm (xPc D cl av sz tys ws) X rm.cells rm.slots (va_A ws sz)
/-- what a walk has of its own method -/
abbrev xB (p : Program) (s : State) (m : MethodId) (args : Array Value) (meth : Method) (c : Code) (cc : ByteArray) (nL : Nat) (Ts : List Cond) (own nm : String) (ret : Option FieldType) : Prop :=
  CallFix p m c cc nL s args Ts own ∧ meth.sig.returnType = ret ∧ meth.locks = false ∧ meth.name = nm ∧ c.exceptionTable.isEmpty = true
theorem xB_of {l : Launch} {y : MethodName} {ws ws' : List Cond} {rm : Room} {cc : ByteArray} {maxL : Nat} {ret : Option FieldType} (hw : ws = Cond.code y cc maxL ret :: ws')
    {p : Program} {e : Env} {s : State} {m : MethodId} {args : Array Value} {below : List Frame} {meth : Method} {c : Code} {s₁ : State} (B : BodyLoose p l y (headSpec ws rm) cc maxL ret e s m args below meth c s₁) (hml : c.maxLocals = maxL) :
    xB p s m args meth c cc maxL ws y.cls y.name ret := by
  have hts := atoms_spec (ws := ws) B.pre
  have hcd : (Cond.code y cc maxL ret).before args s = true := hts _ (by rw [hw]; exact List.mem_cons_self)
  exact ⟨⟨B.exec, B.bytes, hml, findClass_of_methodNamed B.named, hts⟩, B.returns, B.notSynchronized, (name_of_methodNamed B.named B.method).1, B.noHandlers hcd⟩
theorem xMi_of {l : Launch} {y : MethodName} {wy ws' : List Cond} {rm : Room} {cc : ByteArray} {maxL : Nat} {ret : Option FieldType} {D : va_G} {cl : List vw_C} {av : List Value} {sz : Nat} {tys : List (ClassId × FieldType)} {ws : va_W} {S : Type} {post : Int32 → S → Prop} {w1 : S → va_W} {t1 : S → List (ClassId × FieldType)}
    (hy : plainName y.cls = true) (hw : wy = Cond.code y cc maxL ret :: ws') (hav : (lg_sl av).length ≤ maxL)
    (body : ∀ (p : Program) (e : Env) (s : State) (m : MethodId) (args : Array Value) (below : List Frame) (meth : Method) (c : Code) (ls : Array Slot) (A : Nat → Prop), xB p s m args meth c cc maxL wy y.cls y.name ret → va_A ws s.heap.size = A → (∀ q, s.heap.size ≤ q → A q) → s.heap.size = sz → va_P D cl ws s.heap → va_K D cl tys s → va_D A ws → va_S A s.heap s.heap [] → xAmb s → xTh s s.heap → (∀ q, A q → ∀ cell, s.heap[q]? = some cell → cell.vm.isStatics = false) → lv_has ls maxL (lv_args 0 av) →
      W p l e rm s m args below meth c s.heap [] 0 0 (MQ below (va_Qi post (xBh D cl A w1 t1) A) args s rm.cells rm.slots A) (F0 m 0 ls [])) : xMi l y wy rm D cl av sz tys ws post w1 t1 := by
  refine Met.ofW (cc := cc) (maxL := maxL) (ret := ret) hy hw ?_
  intro p e s m args below meth c s₁ B hml hv
  obtain ⟨rfl, hsz, hP, hK, hD0, hAm, hTh⟩ := hv
  subst hsz
  have hl := lv_entry av (n := maxL) hav
  rw [lg_entry_eq]
  exact body p e s m _ below meth c _ _ (xB_of hw B hml) rfl (fun q h => Or.inr h) rfl hP hK hD0.self va_S.rf hAm hTh (xAs rfl hP) hl
theorem xMv_of {l : Launch} {y : MethodName} {wy ws' : List Cond} {rm : Room} {cc : ByteArray} {maxL : Nat} {ret : Option FieldType} {D : va_G} {cl : List vw_C} {av : List Value} {sz : Nat} {tys : List (ClassId × FieldType)} {ws : va_W} {S : Type} {post : S → Prop} {w1 : S → va_W} {t1 : S → List (ClassId × FieldType)}
    (hy : plainName y.cls = true) (hw : wy = Cond.code y cc maxL ret :: ws') (hav : (lg_sl av).length ≤ maxL)
    (body : ∀ (p : Program) (e : Env) (s : State) (m : MethodId) (args : Array Value) (below : List Frame) (meth : Method) (c : Code) (ls : Array Slot) (A : Nat → Prop), xB p s m args meth c cc maxL wy y.cls y.name ret → va_A ws s.heap.size = A → (∀ q, s.heap.size ≤ q → A q) → s.heap.size = sz → va_P D cl ws s.heap → va_K D cl tys s → va_D A ws → va_S A s.heap s.heap [] → xAmb s → xTh s s.heap → (∀ q, A q → ∀ cell, s.heap[q]? = some cell → cell.vm.isStatics = false) → lv_has ls maxL (lv_args 0 av) →
      W p l e rm s m args below meth c s.heap [] 0 0 (MQ below (va_Qv post (xBh D cl A w1 t1) A) args s rm.cells rm.slots A) (F0 m 0 ls [])) : xMv l y wy rm D cl av sz tys ws post w1 t1 := by
  refine Met.ofW (cc := cc) (maxL := maxL) (ret := ret) hy hw ?_
  intro p e s m args below meth c s₁ B hml hv
  obtain ⟨rfl, hsz, hP, hK, hD0, hAm, hTh⟩ := hv
  subst hsz
  have hl := lv_entry av (n := maxL) hav
  rw [lg_entry_eq]
  exact body p e s m _ below meth c _ _ (xB_of hw B hml) rfl (fun q h => Or.inr h) rfl hP hK hD0.self va_S.rf hAm hTh (xAs rfl hP) hl
theorem xMt_of {l : Launch} {y : MethodName} {wy ws' : List Cond} {rm : Room} {cc : ByteArray} {maxL : Nat} {ret : Option FieldType} {D : va_G} {cl : List vw_C} {av : List Value} {sz : Nat} {tys : List (ClassId × FieldType)} {ws : va_W} {X : String}
    (hy : plainName y.cls = true) (hw : wy = Cond.code y cc maxL ret :: ws') (hav : (lg_sl av).length ≤ maxL)
    (body : ∀ (p : Program) (e : Env) (s : State) (m : MethodId) (args : Array Value) (below : List Frame) (meth : Method) (c : Code) (ls : Array Slot) (A : Nat → Prop), xB p s m args meth c cc maxL wy y.cls y.name ret → va_A ws s.heap.size = A → (∀ q, s.heap.size ≤ q → A q) → s.heap.size = sz → va_P D cl ws s.heap → va_K D cl tys s → va_D A ws → va_S A s.heap s.heap [] → xAmb s → xTh s s.heap → (∀ q, A q → ∀ cell, s.heap[q]? = some cell → cell.vm.isStatics = false) → lv_has ls maxL (lv_args 0 av) →
      W p l e rm s m args below meth c s.heap [] 0 0 (xt_Q below X s rm.cells rm.slots A) (F0 m 0 ls [])) : xMt l y wy rm D cl av sz tys ws X := by
  refine xt_ofW (cc := cc) (maxL := maxL) (ret := ret) hy hw ?_
  intro p e s m args below meth c s₁ B hml hv
  obtain ⟨rfl, hsz, hP, hK, hD0, hAm, hTh⟩ := hv
  subst hsz
  have hl := lv_entry av (n := maxL) hav
  rw [lg_entry_eq]
  exact body p e s m _ below meth c _ _ (xB_of hw B hml) rfl (fun q h => Or.inr h) rfl hP hK hD0.self va_S.rf hAm hTh (xAs rfl hP) hl
section XR
variable {p : Program} {l : Launch} {e : Env} {R : Room} {s : State} {m : MethodId} {args : Array Value} {below : List Frame} {meth : Method} {c : Code} {H : Heap} {locs : List Loc} {cells slots : Nat} {Q : State → Prop}
variable {cc : ByteArray} {pc nL : Nat} {ls : Array Slot} {rest st0 : List Value} {A : Nat → Prop} {D : va_G} {cl : List vw_C} {Ts : List Cond} {own nm : String} {ret : Option FieldType} {mc ms : Nat}
theorem xri {S : Type} {post : Int32 → S → Prop} {w1 : S → va_W} {t1 : S → List (ClassId × FieldType)} {v : Int32} (u : S) (B : xB p s m args meth c cc nL Ts own nm (some .int)) (hd : decode cc pc = .ok (.ireturn, 1)) (hp : post v u) (hP : va_P D cl (w1 u) H) (hK : va_K D cl (t1 u) s) (hD : va_D A (w1 u)) (hS : va_S A s.heap H locs) (hc : cells ≤ mc) (hs : slots ≤ ms) :
    W p l e R s m args below meth c H locs cells slots (MQ below (va_Qi post (xBh D cl A w1 t1) A) args s mc ms A) (F0 m pc ls [.int v]) := by
  refine W.widen (k := mc) (n := ms) hc hs ?_
  exact W.iret B.1.1 B.1.2.1 B.2.1 (fun t ht hW => ⟨⟨v, u, rfl, hp, by rw [ht]; exact hP, va_K.moved hW.alike hK, hD⟩, hS.F ht⟩) hS.2.2 hd B.2.2.1
theorem xrz {S : Type} {post : Int32 → S → Prop} {w1 : S → va_W} {t1 : S → List (ClassId × FieldType)} {v : Int32} (u : S) (B : xB p s m args meth c cc nL Ts own nm (some .boolean)) (hd : decode cc pc = .ok (.ireturn, 1)) (hn : narrow .boolean (.int v) = .int v) (hp : post v u) (hP : va_P D cl (w1 u) H) (hK : va_K D cl (t1 u) s) (hD : va_D A (w1 u)) (hS : va_S A s.heap H locs) (hc : cells ≤ mc) (hs : slots ≤ ms) :
    W p l e R s m args below meth c H locs cells slots (MQ below (va_Qi post (xBh D cl A w1 t1) A) args s mc ms A) (F0 m pc ls [.int v]) := by
  refine W.widen (k := mc) (n := ms) hc hs ?_
  exact W.zret B.1.1 B.1.2.1 B.2.1 hn (fun t ht hW => ⟨⟨v, u, rfl, hp, by rw [ht]; exact hP, va_K.moved hW.alike hK, hD⟩, hS.F ht⟩) hS.2.2 hd B.2.2.1
theorem xrv {S : Type} {post : S → Prop} {w1 : S → va_W} {t1 : S → List (ClassId × FieldType)} (u : S) (B : xB p s m args meth c cc nL Ts own nm none) (hd : decode cc pc = .ok (.return_, 1)) (hp : post u) (hP : va_P D cl (w1 u) H) (hK : va_K D cl (t1 u) s) (hD : va_D A (w1 u)) (hS : va_S A s.heap H locs) (hc : cells ≤ mc) (hs : slots ≤ ms) :
    W p l e R s m args below meth c H locs cells slots (MQ below (va_Qv post (xBh D cl A w1 t1) A) args s mc ms A) (F0 m pc ls []) := by
  refine W.widen (k := mc) (n := ms) hc hs ?_
  exact W.vret B.1.1 B.1.2.1 B.2.1 (fun t ht hW => ⟨⟨u, rfl, hp, by rw [ht]; exact hP, va_K.moved hW.alike hK, hD⟩, hS.F ht⟩) hS.2.2 hd B.2.2.1
theorem xgi {S1 : Type} {post1 : Int32 → S1 → Prop} {w1 : S1 → va_W} {t1 : S1 → List (ClassId × FieldType)} {ws wsC wr : va_W} {tys : List (ClassId × FieldType)} {mc1 ms1 : Nat} {a : Array Value} {H0 : Heap}
    (hr : va_Run p l e R s m args below meth c H locs cells slots mc1 ms1 (F0 m pc ls st0) rest (va_Qi post1 (xBh D cl (va_A wsC H.size) w1 t1) (va_A wsC H.size) a) (va_A wsC H.size))
    (hP : va_P D cl ws H) (hD : va_D A ws) (hK : va_K D cl tys s) (hS : va_S A H0 H locs) (hA : ∀ q, H0.size ≤ q → A q)
    (isC isR : List Nat) (hC : isC.map (fun i => ws[i]?) = wsC.map some) (hR : isR.map (fun i => ws[i]?) = wr.map some) (hn : va_nd isR = true) (hdis : ∀ i ∈ isR, i ∉ isC)
    (kk : ∀ (r : Int32) (u : S1) (H1 : Heap) (locs1 : List Loc), post1 r u → va_P D cl (wr ++ w1 u) H1 → va_D A (wr ++ w1 u) → va_K D cl (tys ++ t1 u) s → va_S A H0 H1 locs1 → W p l e R s m args below meth c H1 locs1 (cells + mc1) (slots + ms1) Q (F0 m (pc + 3) ls (.int r :: rest))) :
    W p l e R s m args below meth c H locs cells slots Q (F0 m pc ls st0) := by
  have hFc := va_free hD hS hA isC hC
  refine va_calli hr hS (fun q _ h => hFc q h) hFc (fun r u t H1 locs1 ht hvm hp hB hz1 hk1 hS1 => ?_)
  obtain ⟨hP1, hK1, hD1⟩ := hB
  rw [ht] at hP1
  obtain ⟨hP2, hD2⟩ := va_join hP hD isC isR hC hR hn hdis hk1 hFc hP1 hD1
  exact kk r u H1 locs1 hp hP2 hD2 (hK.app (va_K.moved hvm.symm hK1)) hS1
theorem xgv {S1 : Type} {post1 : S1 → Prop} {w1 : S1 → va_W} {t1 : S1 → List (ClassId × FieldType)} {ws wsC wr : va_W} {tys : List (ClassId × FieldType)} {mc1 ms1 : Nat} {a : Array Value} {H0 : Heap}
    (hr : va_Run p l e R s m args below meth c H locs cells slots mc1 ms1 (F0 m pc ls st0) rest (va_Qv post1 (xBh D cl (va_A wsC H.size) w1 t1) (va_A wsC H.size) a) (va_A wsC H.size))
    (hP : va_P D cl ws H) (hD : va_D A ws) (hK : va_K D cl tys s) (hS : va_S A H0 H locs) (hA : ∀ q, H0.size ≤ q → A q)
    (isC isR : List Nat) (hC : isC.map (fun i => ws[i]?) = wsC.map some) (hR : isR.map (fun i => ws[i]?) = wr.map some) (hn : va_nd isR = true) (hdis : ∀ i ∈ isR, i ∉ isC)
    (kk : ∀ (u : S1) (H1 : Heap) (locs1 : List Loc), post1 u → va_P D cl (wr ++ w1 u) H1 → va_D A (wr ++ w1 u) → va_K D cl (tys ++ t1 u) s → va_S A H0 H1 locs1 → W p l e R s m args below meth c H1 locs1 (cells + mc1) (slots + ms1) Q (F0 m (pc + 3) ls rest)) :
    W p l e R s m args below meth c H locs cells slots Q (F0 m pc ls st0) := by
  have hFc := va_free hD hS hA isC hC
  refine va_callv hr hS (fun q _ h => hFc q h) hFc (fun u t H1 locs1 ht hvm hp hB hz1 hk1 hS1 => ?_)
  obtain ⟨hP1, hK1, hD1⟩ := hB
  rw [ht] at hP1
  obtain ⟨hP2, hD2⟩ := va_join hP hD isC isR hC hR hn hdis hk1 hFc hP1 hD1
  exact kk u H1 locs1 hp hP2 hD2 (hK.app (va_K.moved hvm.symm hK1)) hS1
end XR
