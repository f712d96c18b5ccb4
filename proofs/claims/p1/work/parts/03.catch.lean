/-! a thrown object caught by a handler whose catch types may still be unresolved -/
def xt_Go (e : Env) (s : State) (f : JFrame) (a : Addr) (t : List ExceptionTableEntry) (h : Handler) (vm' : Vm) : Prop :=
  ∀ (Q : Handler → Pre) (E : CtlPost) (d : Bool) (acts : List Action), wp (findHandler.go f a t) Q E e d acts s ↔ Q h d acts (s.setVm vm')
theorem xt_go_hit {e : Env} {s : State} {f : JFrame} {a : Addr} {x : ExceptionTableEntry} {t : List ExceptionTableEntry} {c : ClassId} {cell : Cell} {vm' : Vm}
    (hx : covers x f.pc = true) (h0 : x.catchType ≠ 0) (hg : (resolveClass f.method.cls x.catchType).Gives e.toSetting s.vm (.ok c) vm') (hsz : vm'.classes.size ≤ s.vm.classes.size)
    (hcell : s.heap[a]? = some cell) (hobj : ∀ k, cell.vm ≠ .statics k) (hk : ∃ k, vm'.classes[cell.cls]? = some k) (hc : ∃ k, vm'.classes[c]? = some k) (hfit : vm'.assignable cell.cls c = true) :
    xt_Go e s f a (x :: t) (.found x.handlerPc) vm' := by
  intro Q E d acts
  obtain ⟨ha, ht⟩ := hg.op (op := VmOp.resolveClass f.method.cls x.catchType) rfl
  simp only [covers] at hx
  simp [findHandler.go, hx, h0, ha, ht, hsz, hcell, hobj, hk, hc, hfit, VmOp.dirties, VmOp.acts]
theorem xt_go_pass {e : Env} {s : State} {f : JFrame} {a : Addr} {x : ExceptionTableEntry} {t : List ExceptionTableEntry} {c : ClassId} {cell : Cell} {vm' vm₂ : Vm} {h : Handler}
    (hx : covers x f.pc = true) (h0 : x.catchType ≠ 0) (hg : (resolveClass f.method.cls x.catchType).Gives e.toSetting s.vm (.ok c) vm') (hsz : vm'.classes.size ≤ s.vm.classes.size)
    (hcell : s.heap[a]? = some cell) (hobj : ∀ k, cell.vm ≠ .statics k) (hk : ∃ k, vm'.classes[cell.cls]? = some k) (hc : ∃ k, vm'.classes[c]? = some k) (hfit : vm'.assignable cell.cls c = false)
    (hr : xt_Go e (s.setVm vm') f a t h vm₂) : xt_Go e s f a (x :: t) h vm₂ := by
  intro Q E d acts
  obtain ⟨ha, ht⟩ := hg.op (op := VmOp.resolveClass f.method.cls x.catchType) rfl
  have e2 : (s.setVm vm').setVm vm₂ = s.setVm vm₂ := rfl
  have hr' := hr Q E d acts
  rw [e2] at hr'
  rw [← hr']
  simp only [covers] at hx
  simp [findHandler.go, hx, h0, ha, ht, hsz, hcell, hobj, hk, hc, hfit, VmOp.dirties, VmOp.acts]
/-- the clause that takes an X thrown at pc -/
def xt_Sel (own X : String) (pc : Nat) (args : Array Value) (s : State) : List (Nat × Nat × Nat × Nat) → Nat → Prop
  | [], _ => False
  | q :: t, h => q.1 ≤ pc ∧ pc < q.2.1 ∧ q.2.2.2 ≠ 0 ∧ ∃ C, (Cond.classLink own q.2.2.2 C).before args s = true ∧ ((q.2.2.1 = h ∧ (Cond.castable X C).before args s = true) ∨ (va_Nc X C s ∧ xt_Sel own X pc args s t h))
theorem xt_find {e : Env} {s : State} {m : MethodId} {args : Array Value} {own X : String} {pc h : Nat} {x : Addr} {cell : Cell} {f : JFrame} (hpl : e.platform.magicAccessors = ({} : Platform).magicAccessors) (hown : s.vm.findClass own = some m.cls) (hf : f.method = m) (hpc : f.pc = pc) (hx3 : cell.vm.isStatics = false) (hx4 : s.vm.findClass X = some cell.cls) :
    ∀ (hh : List (Nat × Nat × Nat × Nat)) (T : State), xt_Sel own X pc args s hh h → s.WarmedH T.vm → T.heap[x]? = some cell → ∃ vm', s.WarmedH vm' ∧ xt_Go e T f x (tableOf hh) (.found h) vm' := by
  intro hh
  induction hh with
  | nil => intro T hs _ _; exact hs.elim
  | cons q t ih =>
    intro T hs hW hcell
    obtain ⟨h1, h2, h0, C, hlink, hor⟩ := hs
    obtain ⟨c', hc', hcl⟩ := Cond.classLink_spec hown hlink e.platform hpl
    obtain ⟨dk, _, _, kt, hd, _, _, _, _, hkt, _, hopen⟩ := hcl.here
    have hcl₀ := hW.classLinks hcl
    have hW' : s.WarmedH (T.vm.noted m.cls q.2.2.2 (.cls c')) := hW.noted hd hopen (State.rightAt_cls hcl)
    obtain ⟨ks, hks, -⟩ := Vm.findClass_spec hx4
    obtain ⟨ks', hks', -⟩ := hW'.alike.2.2 _ _ hks
    obtain ⟨kt', hkt', -⟩ := hW'.alike.2.2 _ _ hkt
    have hcov : covers (⟨q.1, q.2.1, q.2.2.1, q.2.2.2⟩ : ExceptionTableEntry) f.pc = true := by
      simp only [covers, hpc, Bool.and_eq_true, decide_eq_true_eq]
      exact ⟨h1, h2⟩
    have hg : (resolveClass f.method.cls (⟨q.1, q.2.1, q.2.2.1, q.2.2.2⟩ : ExceptionTableEntry).catchType).Gives e.toSetting T.vm (.ok c') (T.vm.noted m.cls q.2.2.2 (.cls c')) := by
      rw [hf]; exact resolveClass_links e.toSetting hcl₀
    have hsz : (T.vm.noted m.cls q.2.2.2 (.cls c')).classes.size ≤ T.vm.classes.size := by no_record
    rcases hor with ⟨rfl, hcast⟩ | ⟨⟨c1, t1, n1, n2, n3⟩, hrest⟩
    · obtain ⟨c3, c4, hc3, hc4, hasg⟩ := Cond.castable_spec hcast
      cases hx4.symm.trans hc3
      cases hc'.symm.trans hc4
      refine ⟨_, hW', xt_go_hit hcov h0 hg hsz hcell (VmData.ne_statics_of hx3) ⟨ks', hks'⟩ ⟨kt', hkt'⟩ ?_⟩
      rw [hW'.alike.assignable]; exact hasg
    · cases hx4.symm.trans n1
      cases hc'.symm.trans n2
      obtain ⟨vm₂, hW₂, hgo⟩ := ih (T.setVm (T.vm.noted m.cls q.2.2.2 (.cls c'))) hrest hW' hcell
      refine ⟨vm₂, hW₂, xt_go_pass hcov h0 hg hsz hcell (VmData.ne_statics_of hx3) ⟨ks', hks'⟩ ⟨kt', hkt'⟩ ?_ hgo⟩
      rw [hW'.alike.assignable]; exact n3
theorem xt_stepCatch {e : Env} {s : State} {a : Addr} {f : JFrame} {r : List Frame} {pc : Nat} {vm' : Vm} (hfind : ∀ (Q : Handler → Pre) (E : CtlPost) (d : Bool) (acts : List Action), wp (findHandler f a) Q E e d acts s ↔ Q (.found pc) d acts (s.setVm vm')) :
    (stepThrowing e s a (.java f :: r)).Is ((s.setVm vm').setFrames (.java { f with pc := pc, stack := [.ref a] } :: r)) [] := by
  simp only [stepThrowing, searchFrame, vmDo]
  generalize hr : Sem.go _ e false [] s = res
  obtain ⟨as, rfl, ha⟩ := Sem.eq_ok_of hr (a := Handler.found pc) (s' := s.setVm vm') (acts' := []) (by simp [hfind _ _ _ _])
  exact ⟨rfl, ha⟩
theorem xt_caught {tb : Tables} {e : Env} {s target : State} {g : JFrame} {c : Code} {below : List Frame} {a : Addr} {vm' : Vm} (h : At s g.method c below) {pc : Nat}
    (hfind : ∀ (Q : Handler → Pre) (E : CtlPost) (d : Bool) (acts : List Action), wp (findHandler g a) Q E e d acts ((s.setTop g).pushFrame (.throwing a)) ↔ Q (.found pc) d acts (((s.setTop g).pushFrame (.throwing a)).setVm vm'))
    (hrest : Steps tb e below ((s.setVm vm').setTop { g with pc := pc, stack := [.ref a] }) target) : Steps tb e below ((s.setTop g).pushFrame (.throwing a)) target := by
  obtain ⟨hgo, hw⟩ := h.throwing a
  refine Steps.head hgo hw ?_
  rw [stepThread_throwing (frames_entered h.top _), (xt_stepCatch (s := (s.setTop g).pushFrame (.throwing a)) hfind).1]
  obtain ⟨g₀, hg⟩ := Option.isSome_iff_exists.mp h.top
  obtain ⟨r, hr⟩ := State.topJava?_eq_some.mp hg
  have hr2 : (s.setVm vm').frames = .java g₀ :: r := hr
  rw [State.setTop_of_frames _ hr2] at hrest
  have e1 : (((s.setTop g).pushFrame (.throwing a)).setVm vm').setFrames (.java { g with pc := pc, stack := [.ref a] } :: s.frames.tail) = (s.setVm vm').setFrames (.java { g with pc := pc, stack := [.ref a] } :: r) := by
    have e2 : ((s.setTop g).pushFrame (.throwing a)).setFrames (.java { g with pc := pc, stack := [.ref a] } :: s.frames.tail) = s.setFrames (.java { g with pc := pc, stack := [.ref a] } :: r) := by
      rw [State.pushFrame, State.setFrames_setFrames, State.setTop_of_frames _ hr, State.setFrames_setFrames, hr]
      rfl
    have e3 := congrArg (fun z : State => z.setVm vm') e2
    exact e3
  rw [e1]
  exact hrest
section XT2
variable {p : Program} {l : Launch} {e : Env} {R : Room} {s : State} {m : MethodId} {args : Array Value} {below : List Frame} {meth : Method} {c : Code} {H : Heap} {locs : List Loc} {cells slots : Nat} {Q : State → Prop}
variable {pc : Nat} {ls : Array Slot}
theorem xt_catch {own X : String} {hh : List (Nat × Nat × Nat × Nat)} {hpc : Nat} {x : Addr} {cell : Cell} {st : List Value} (htab : c.exceptionTable.toList = tableOf hh) (hown : s.vm.findClass own = some m.cls)
    (hsel : xt_Sel own X pc args s hh hpc) (hx2 : H[x]? = some cell) (hx3 : cell.vm.isStatics = false) (hx4 : s.vm.findClass X = some cell.cls)
    (k : W p l e R s m args below meth c H locs cells slots Q (F0 m hpc ls [.ref x])) : xt_W p l e R s m args below meth c H locs cells slots Q (F0 m pc ls st) x := by
  intro T hT X0
  have hpl : e.platform.magicAccessors = ({} : Platform).magicAccessors := by rw [X0.admits.platform]
  have hv0 := Stand.throwing_vm T (F0 m pc ls st) x
  have hh0 := Stand.throwing_heap T (F0 m pc ls st) x
  obtain ⟨vm', hW', hgo⟩ := xt_find (e := e) (x := x) (f := F0 m pc ls st) hpl hown rfl rfl hx3 hx4 hh ((T.setTop (F0 m pc ls st)).pushFrame (.throwing x)) hsel (by rw [hv0]; exact X0.warmed) (by rw [hh0, hT]; exact hx2)
  have hm' : ((T.setTop (F0 m pc ls st)).pushFrame (.throwing x)).vm.method? (F0 m pc ls st).method = some meth := by rw [hv0]; exact X0.method'
  obtain ⟨t, a1, b1⟩ := k (T.setVm vm') hT (X0.noted hW')
  refine ⟨t, xt_caught (g := F0 m pc ls st) (vm' := vm') X0.here (fun Q E d acts => ?_) a1, b1⟩
  rw [W.findHandler_eq hm' X0.code, htab]
  exact hgo Q E d acts
end XT2
