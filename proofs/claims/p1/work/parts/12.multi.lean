/-! new int[4][12] -/
def xro (comp : ClassId) : Cell := { cls := comp, slots := Array.replicate 12 (.int 0) }
def xou (c : ClassId) (a : Addr) : Nat → Cell
  | 0 => { cls := c, slots := Array.replicate 4 .null }
  | i + 1 => (xou c a i).setSlot i (.ref (a + 1 + i))
def xms (c comp : ClassId) (S : State) : Nat → State
  | 0 => S.pushCell (xou c S.heap.size 0)
  | i + 1 => ((xms c comp S i).pushCell (xro comp)).setCell S.heap.size (xou c S.heap.size (i + 1))
theorem xou_facts (c : ClassId) (a : Addr) : ∀ i, (xou c a i).cls = c ∧ (xou c a i).vm = .none ∧ (xou c a i).slots.size = 4
  | 0 => ⟨rfl, rfl, by simp [xou]⟩
  | i + 1 => by
    obtain ⟨h1, h2, h3⟩ := xou_facts c a i
    exact ⟨h1, h2, by simp [xou, Cell.setSlot, h3]⟩
theorem xms_facts (c comp : ClassId) (S : State) : ∀ i, (xms c comp S i).heap.size = S.heap.size + 1 + i ∧ (xms c comp S i).heap[S.heap.size]? = some (xou c S.heap.size i) ∧ (xms c comp S i).vm = S.vm ∧ (xms c comp S i).slotsUsed = S.slotsUsed + 4 + 12 * i ∧ (∀ q, q < S.heap.size → (xms c comp S i).heap[q]? = S.heap[q]?)
  | 0 => by
    refine ⟨by simp [xms, State.pushCell], by simp [xms, State.pushCell], rfl, by simp [xms, State.pushCell, xou], fun q hq => ?_⟩
    simp only [xms, State.pushCell]
    rw [Array.getElem?_push, if_neg (Nat.ne_of_lt hq)]
  | i + 1 => by
    obtain ⟨h1, h2, h3, h4, h5⟩ := xms_facts c comp S i
    refine ⟨by simp [xms, State.pushCell, State.setCell, h1]; omega, ?_, by simpa [xms, State.pushCell, State.setCell] using h3, by simp [xms, State.pushCell, State.setCell, h4, xro]; omega, fun q hq => ?_⟩
    · simp only [xms, State.pushCell, State.setCell]
      rw [Array.getElem?_setIfInBounds_self_of_lt (by simp [h1]; omega)]
    · simp only [xms, State.pushCell, State.setCell]
      rw [Array.getElem?_setIfInBounds_ne (Nat.ne_of_gt hq), Array.getElem?_push, if_neg (by omega)]
      exact h5 q hq
theorem xmk1 {Q : Addr → Pre} {E : CtlPost} {e : Env} {d : Bool} {acts : List Action} {S : State} {comp c0 : ClassId} {kc : Class} (hkc : S.vm.classes[comp]? = some kc) (hkindc : kc.kind = .array c0 .int) (hlim : e.platform.arrayLengthLimit = 2147483645) (hheap : 536870912 ≤ e.platform.maxHeapBytes) (hc : S.heap.size < e.platform.maxCells) (hs : S.slotsUsed + 12 ≤ e.platform.maxSlots)
    (hq : ∀ acts', Q S.heap.size d acts' (S.pushCell (xro comp))) : wp (Op.multianewarray.make comp [12]) Q E e d acts S := by
  have hn : (12 : Int32).toNatClampNeg = 12 := by decide
  rw [Op.multianewarray.make]
  simp only [show ¬ (12 : Int32) < 0 by decide, if_false, wp_bind', wp_pure', W.theClass, hkc, Option.some.injEq, exists_eq_left', hkindc, hn]
  refine W.newArray_of hkc hkindc (by rw [hlim]; decide) (by show ¬ 12 * 4 > _; omega) hc hs rfl hq
theorem xmk {Q : Addr → Pre} {E : CtlPost} {e : Env} {d : Bool} {acts : List Action} {S : State} {c comp c0 : ClassId} {k kc : Class} (hk : S.vm.classes[c]? = some k) (hkind : k.kind = .array comp (.array .int)) (hkc : S.vm.classes[comp]? = some kc) (hkindc : kc.kind = .array c0 .int) (hlim : e.platform.arrayLengthLimit = 2147483645) (hheap : 536870912 ≤ e.platform.maxHeapBytes) (hc : S.heap.size + 5 ≤ e.platform.maxCells) (hs : S.slotsUsed + 52 ≤ e.platform.maxSlots)
    (hq : ∀ d' acts', Q S.heap.size d' acts' (xms c comp S 4)) : wp (Op.multianewarray.make c [4, 12]) Q E e d acts S := by
  have hn : (4 : Int32).toNatClampNeg = 4 := by decide
  rw [Op.multianewarray.make]
  simp only [show ¬ (4 : Int32) < 0 by decide, if_false, wp_bind', wp_pure', W.theClass, hk, Option.some.injEq, exists_eq_left', hkind, hn]
  refine W.newArray_of hk hkind (by rw [hlim]; decide) (by show ¬ 4 * 4 > _; omega) (by omega) (by omega) rfl (fun acts1 => ?_)
  simp only [show ((4 : Int32) == 0) = false by decide, Bool.false_eq_true, if_false]
  have step : ∀ (i : Nat) (d : Bool) (acts : List Action) (P : ForInStep PUnit → Pre), i < 4 → (∀ d' acts', P (ForInStep.yield PUnit.unit) d' acts' (xms c comp S (i + 1))) → wp (do let r ← Op.multianewarray.make comp [12]; writeLoc S.heap.size i (Value.ref r); Pure.pure (ForInStep.yield PUnit.unit)) P E e d acts (xms c comp S i) := by
    intro i d acts P hi hP
    obtain ⟨h1, h2, h3, h4, h5⟩ := xms_facts c comp S i
    obtain ⟨o1, o2, o3⟩ := xou_facts c S.heap.size i
    rw [wp_bind']
    refine xmk1 (by rw [h3]; exact hkc) hkindc hlim hheap (by rw [h1]; omega) (by rw [h4]; omega) (fun acts' => ?_)
    rw [wp_bind', W.writeLoc]
    refine ⟨xou c S.heap.size i, ?_, by rw [o2]; decide, by rw [o3]; exact hi, ?_, ?_⟩
    · simp only [State.pushCell]
      rw [Array.getElem?_push, if_neg (by rw [h1]; omega)]
      exact h2
    · have hk2 : (xms c comp S i).vm.classes[c]? = some k := by rw [h3]; exact hk
      simp [State.fitsSlot, State.slotType?, o1, o2, hk2, hkind, fits]
    · have e1 : (xms c comp S i).heap.size = S.heap.size + 1 + i := h1
      rw [wp_pure', e1]
      exact hP _ _
  rw [Std.Legacy.Range.forIn_eq_forIn_range']
  have hrg : List.range' [:4].start [:4].size [:4].step = [0, 1, 2, 3] := by decide
  rw [hrg, wp_bind', List.forIn_cons, wp_bind']
  refine step 0 _ _ _ (by decide) (fun d1 a1 => ?_)
  dsimp only
  rw [List.forIn_cons, wp_bind']
  refine step 1 _ _ _ (by decide) (fun d2 a2 => ?_)
  dsimp only
  rw [List.forIn_cons, wp_bind']
  refine step 2 _ _ _ (by decide) (fun d3 a3 => ?_)
  dsimp only
  rw [List.forIn_cons, wp_bind']
  refine step 3 _ _ _ (by decide) (fun d4 a4 => ?_)
  dsimp only
  rw [List.forIn_nil, wp_pure', wp_pure']
  exact hq _ _
theorem xms_setTop (c comp : ClassId) (S : State) (g : JFrame) : ∀ i, xms c comp (S.setTop g) i = (xms c comp S i).setTop g
  | 0 => rfl
  | i + 1 => by
    show ((xms c comp (S.setTop g) i).pushCell (xro comp)).setCell S.heap.size (xou c S.heap.size (i + 1)) = _
    rw [xms_setTop c comp S g i]
    rfl
section XMU
variable {p : Program} {l : Launch} {e : Env} {R : Room} {s : State} {m : MethodId} {args : Array Value} {below : List Frame} {meth : Method} {c : Code} {H : Heap} {locs : List Loc} {cells slots : Nat} {Q : State → Prop}
variable {cc : ByteArray} {pc : Nat} {ls : Array Slot} {rest : List Value} {D : va_G} {cl : List vw_C} {A : Nat → Prop} {ws : va_W}
theorem xmu_stand {T : State} {ca comp : ClassId} (X : Stand p l e R s m args below meth c T locs cells slots) : ∀ i, i ≤ 4 → Stand p l e R s m args below meth c (xms ca comp T i) locs (cells + 1 + i) (slots + 4 + 12 * i)
  | 0, _ => by
    have h := X.pushed (xou ca T.heap.size 0)
    have e4 : (xou ca T.heap.size 0).slots.size = 4 := (xou_facts ca T.heap.size 0).2.2
    rw [e4] at h
    exact h
  | i + 1, hi => by
    have X1 := xmu_stand (ca := ca) (comp := comp) X i (by omega)
    obtain ⟨h1, h2, h3, h4, h5⟩ := xms_facts ca comp T i
    have X2 := X1.pushed (xro comp)
    have hc : ((xms ca comp T i).pushCell (xro comp)).heap[T.heap.size]? = some (xou ca T.heap.size i) := by
      simp only [State.pushCell]
      rw [Array.getElem?_push, if_neg (by rw [h1]; omega)]
      exact h2
    have X3 := X2.stored hc i (.ref (T.heap.size + 1 + i))
    have e4 : (xro comp).slots.size = 12 := by simp [xro]
    rw [e4] at X3
    have X4 := Stand.forget (extra := [⟨T.heap.size, i⟩]) X3 (fun y hy => by
      rw [List.mem_singleton] at hy
      rw [hy]
      exact X.same.2.1)
    have e5 : slots + 4 + 12 * i + 12 = slots + 4 + 12 * (i + 1) := by omega
    rw [e5] at X4
    exact X4
theorem xmulti (hexec : p.tables.exec = Jvm.exec) (hb : c.code = cc) {own : String} {index : Nat} (hown : s.vm.findClass own = some m.cls) (hlink : (Cond.classLink own index "[[I").before args s = true) (hMA : xMA s) (harr : (Cond.arrayClass .int).before args s = true)
    (hP : va_P D cl ws H) (hS : va_S A s.heap H locs) (hA : ∀ q, s.heap.size ≤ q → A q) (hcells : cells + 5 ≤ R.cells) (hslots : slots + 52 ≤ R.slots) (hdg : decode cc pc = .ok (.multianewarray index 2, 4))
    (kk : ∀ (q : Nat) (H1 : Heap), va_P D cl ws H1 → va_S A s.heap H1 locs → W p l e R s m args below meth c H1 locs (cells + 5) (slots + 52) Q (F0 m (pc + 4) ls (.ref q :: rest))) : W p l e R s m args below meth c H locs cells slots Q (F0 m pc ls (.int 12 :: .int 4 :: rest)) := by
  intro T hT X
  have hpl : e.platform.magicAccessors = ({} : Platform).magicAccessors := by rw [X.admits.platform]
  obtain ⟨c1, hf1, hcl⟩ := Cond.classLink_spec hown hlink e.platform hpl
  obtain ⟨comp, c2, k2, m1, m2, m3, m4⟩ := hMA
  cases hf1.symm.trans m2
  obtain ⟨cA, kA, c0, a1, a2, a3⟩ := Cond.arrayClass_spec harr
  have a1' : s.vm.findClass "[I" = some cA := by
    have e0 : "[" ++ FieldType.int.toString = "[I" := by decide +kernel
    rw [← e0]; exact a1
  cases m1.symm.trans a1'
  obtain ⟨hg₁, hwarm₁, hready₁⟩ := State.classEntry (e := e) X.warmed hcl
  generalize T.vm.noted m.cls index (.cls c1) = vm₁ at hg₁ hwarm₁ hready₁
  obtain ⟨k2', hk2', he2⟩ := hwarm₁.alike.2.2 _ _ m3
  obtain ⟨kA', hkA', heA⟩ := hwarm₁.alike.2.2 _ _ a2
  have X₁ := X.noted hwarm₁
  have X₄ := xmu_stand (ca := c1) (comp := comp) X₁ 4 (Nat.le_refl _)
  obtain ⟨g1, g2, g3, g4, g5⟩ := xms_facts c1 comp (T.setVm vm₁) 4
  have hTs : (T.setVm vm₁).heap = H := hT
  have hr1 := X.cellsAbove (n := 5) hcells
  have hr2 := X.slotsAbove (n := 52) hslots
  have hP' : va_P D cl ws (xms c1 comp (T.setVm vm₁) 4).heap := hP.kept (fun k9 x hx => by
    have := (hP k9 x hx).lt
    rw [g5 x.1 (by rw [hTs]; exact this), hTs])
  have hS' : va_S A s.heap (xms c1 comp (T.setVm vm₁) 4).heap locs := ⟨by rw [g1, hTs]; have := hS.1; omega, fun q h1 h2 => by
    have := hS.1
    rw [g5 q (by rw [hTs]; omega), hTs]
    exact hS.2.1 q h1 h2, hS.2.2⟩
  obtain ⟨t, b1, b2⟩ := kk T.heap.size _ hP' hS' _ rfl X₄
  refine ⟨t, ?_, b2⟩
  have hAt : At (T.setVm vm₁) m c below := X₁.here
  have hm0 : (T.setTop (F0 m pc ls (.int 12 :: .int 4 :: rest))).method? = some m := State.method?_setTop _ X.here.top
  jvm_step X.here [X.here.top, hexec, hb, hdg]
  simp only [Op.multianewarray.sem, wp_bind']
  rw [W.resolveClassAt_transfer (s := T.setTop (F0 m pc ls (.int 12 :: .int 4 :: rest))) hm0 hg₁ hready₁, W.resolveClassAt_ready (s := (T.setTop (F0 m pc ls (.int 12 :: .int 4 :: rest))).setVm vm₁) hm0 hready₁]
  rw [wp_bind', W.popN, if_neg (by decide)]
  have htop : ((T.setTop (F0 m pc ls (.int 12 :: .int 4 :: rest))).setVm vm₁).topJava? = some (F0 m pc ls (.int 12 :: .int 4 :: rest)) := State.topJava?_setTop' _ X.here.top
  refine ⟨_, htop, [.int 4, .int 12], rest, rfl, rfl, ?_⟩
  rw [wp_bind', List.mapM_cons, wp_bind', wp_pure', wp_bind', List.mapM_cons, wp_bind', wp_pure', wp_bind', List.mapM_nil, wp_pure', wp_pure', wp_pure', wp_bind']
  refine xmk (S := ((T.setTop (F0 m pc ls (.int 12 :: .int 4 :: rest))).setVm vm₁).setTop (F0 m pc ls rest)) (c := c1) (comp := comp) (c0 := c0) hk2' (by rw [he2]; exact m4) hkA' (by rw [heA]; exact a3) (Launch.admits_arrayLengthLimit X.admits) (by rw [Launch.admits_maxHeapBytes X.admits]; exact Nat.le_refl _) hr1 hr2 (fun d' acts' => ?_)
  have e1 : ((T.setTop (F0 m pc ls (.int 12 :: .int 4 :: rest))).setVm vm₁).setTop (F0 m pc ls rest) = (T.setVm vm₁).setTop (F0 m pc ls rest) := by
    show ((T.setVm vm₁).setTop (F0 m pc ls (.int 12 :: .int 4 :: rest))).setTop (F0 m pc ls rest) = _
    simp
  rw [e1, xms_setTop]
  have htop4 : (xms c1 comp (T.setVm vm₁) 4).topJava?.isSome := X₄.here.top
  have hsz4 : ((T.setVm vm₁).setTop (F0 m pc ls rest)).heap.size = T.heap.size := rfl
  rw [hsz4]
  simp [jvm, htop4]
  first | exact fun _ => b1 | exact b1
end XMU
