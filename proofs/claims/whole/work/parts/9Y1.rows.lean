/-! multianewarray, eight rows of four ints: the machine's own step, walked out -/
theorem mu_new {Q : Addr → Pre} {E : CtlPost} {e : Env} {d : Bool} {acts : List Action} {s : State} {c comp : ClassId} {n : Nat} {dv : Value} {k : Class} {type : FieldType} (hk : s.vm.classes[c]? = some k) (hkind : k.kind = .array comp type) (hfit : fits type dv = true) (hl : ¬ n > e.platform.arrayLengthLimit) (hh : ¬ n * componentBytes type > e.platform.maxHeapBytes) (h1 : s.heap.size < e.platform.maxCells) (h2 : s.slotsUsed + n ≤ e.platform.maxSlots) (hq : ∀ d acts, Q s.heap.size d acts (s.pushCell { cls := c, slots := Array.replicate n dv, vm := .none })) : wp (Jvm.newArray c n dv) Q E e d acts s := by
  have hf : ∀ i v, (Array.replicate n dv)[i]? = some v → s.fitsSlot c .none i v = true := by
    intro i v hv
    simp only [Array.getElem?_replicate] at hv
    split at hv
    · cases hv; simp [State.fitsSlot, State.slotType?, hk, hkind, hfit]
    · cases hv
  simp only [Jvm.newArray, Jvm.arrayFits, wp_bind', _root_.Jvm.W.ask, _root_.Jvm.W.ite, hl, if_false, wp_pure', _root_.Jvm.W.mark, _root_.Jvm.W.theClass, hk, hkind, hh, _root_.Jvm.W.alloc, _root_.Jvm.W.stop, Option.some.injEq, exists_eq_left', Array.size_replicate]
  rw [if_neg (by omega)]
  exact ⟨h1, h2, hf, hq _ _⟩
theorem mu_cold {Q : Unit → Pre} {E : CtlPost} {e : Env} {d : Bool} {acts : List Action} {s : State} {f : JFrame} {index dims c : Nat} {vm' : Vm} (hs : s.topJava?.isSome) (hg : (Jvm.resolveClass f.method.cls index).Gives e.toSetting s.vm (.ok c) vm') (hr : vm'.classReady f.method.cls index c) (hsz : vm'.classes.size ≤ s.vm.classes.size := by no_record) :
    wp (Jvm.Op.multianewarray.sem index dims) Q E e d acts (s.setTop f) ↔ wp (Jvm.Op.multianewarray.sem index dims) Q E e d acts ((s.setVm vm').setTop f) := by
  simp only [Jvm.Op.multianewarray.sem, wp_bind']
  exact _root_.Jvm.W.resolveClassAt_transfer (s := s.setTop f) (State.method?_setTop f hs) hg hr
/-- row i of eight is next -/
def ouC (c : ClassId) (q i : Nat) : Cell := arrV c 8 (fun j => if j < i then .ref (q + 1 + j) else .null)
def inC (c : ClassId) : Cell := arrV c 4 (fun _ => .int 0)
def rwS (T : State) (c comp : ClassId) : Nat → State
  | 0 => T.pushCell (ouC c T.heap.size 0)
  | i + 1 => ((rwS T c comp i).pushCell (inC comp)).setCell T.heap.size (ouC c T.heap.size (i + 1))
theorem ouC_0 (c : ClassId) (q : Nat) : ({ cls := c, slots := Array.replicate 8 .null, vm := .none } : Cell) = ouC c q 0 := by
  rw [arrV_new]
  exact arrV_ext (fun j _ => (if_neg (Nat.not_lt_zero j)).symm)
theorem inC_0 (c : ClassId) : ({ cls := c, slots := Array.replicate 4 (.int 0), vm := .none } : Cell) = inC c := arrV_new c 4 (.int 0)
theorem ouC_s (c : ClassId) (q i : Nat) : (ouC c q i).setSlot i (.ref (q + 1 + i)) = ouC c q (i + 1) := by
  unfold ouC
  rw [arrV_store]
  refine arrV_ext (fun j _ => ?_)
  unfold updV
  by_cases e : j = i
  · rw [if_pos e, if_pos (by omega), e]
  · rw [if_neg e]
    show (if j < i then Value.ref (q + 1 + j) else Value.null) = if j < i + 1 then Value.ref (q + 1 + j) else Value.null
    by_cases c1 : j < i
    · rw [if_pos c1, if_pos (by omega)]
    · rw [if_neg c1, if_neg (by omega)]
theorem rw_facts (T : State) (c comp : ClassId) : ∀ i, (rwS T c comp i).heap.size = T.heap.size + 1 + i ∧ (rwS T c comp i).heap[T.heap.size]? = some (ouC c T.heap.size i) ∧ (rwS T c comp i).vm = T.vm ∧ (rwS T c comp i).slotsUsed = T.slotsUsed + 8 + 4 * i ∧ (∀ a : Nat, a < T.heap.size → (rwS T c comp i).heap[a]? = T.heap[a]?) ∧ ∀ j, j < i → (rwS T c comp i).heap[T.heap.size + 1 + j]? = some (inC comp)
  | 0 => ⟨by simp [rwS], by simp [rwS], rfl, by simp [rwS, ouC, arrV], fun a ha => State.heap_pushCell_of_lt _ _ ha, fun j hj => absurd hj (Nat.not_lt_zero _)⟩
  | i + 1 => by
    obtain ⟨f1, f2, f3, f4, f5, f6⟩ := rw_facts T c comp i
    have k2 : ((rwS T c comp i).pushCell (inC comp)).heap[T.heap.size]? = some (ouC c T.heap.size i) := (State.heap_pushCell_of_lt _ _ (show T.heap.size < (rwS T c comp i).heap.size by rw [f1]; omega)).trans f2
    refine ⟨?_, State.heap_setCell_self k2, by simp [rwS, f3], ?_, fun a ha => ?_, fun j hj => ?_⟩
    · simp [rwS, State.setCell, f1]; omega
    · simp [rwS, f4, inC, arrV]; omega
    · show (((rwS T c comp i).pushCell (inC comp)).setCell T.heap.size _).heap[a]? = _
      rw [State.heap_setCell_other (Nat.ne_of_gt ha)]
      exact (State.heap_pushCell_of_lt _ _ (show a < (rwS T c comp i).heap.size by rw [f1]; omega)).trans (f5 a ha)
    · show (((rwS T c comp i).pushCell (inC comp)).setCell T.heap.size _).heap[T.heap.size + 1 + j]? = _
      rw [State.heap_setCell_other (show T.heap.size ≠ T.heap.size + 1 + j by omega)]
      rcases Nat.lt_or_ge j i with z | z
      · exact (State.heap_pushCell_of_lt _ _ (show T.heap.size + 1 + j < (rwS T c comp i).heap.size by rw [f1]; omega)).trans (f6 j z)
      · have e : j = i := by omega
        subst e
        rw [← f1]
        exact State.heap_pushCell_size _ _
theorem rw_stand {p : Program} {l : Launch} {e : Env} {R : Room} {s : State} {m : MethodId} {args : Array Value} {below : List Frame} {meth : Method} {c : Code} {T : State} {locs : List Loc} {cells slots : Nat} (X : Stand p l e R s m args below meth c T locs cells slots) (cA comp : ClassId) : ∀ i, i ≤ 8 → ∃ J : List Loc, (∀ x ∈ J, T.heap.size ≤ x.base) ∧ Stand p l e R s m args below meth c (rwS T cA comp i) (locs ++ J) (cells + 1 + i) (slots + 8 + 4 * i)
  | 0, _ => ⟨[], fun x hx => (by cases hx), by
    have k := X.pushed (ouC cA T.heap.size 0)
    rw [show (ouC cA T.heap.size 0).slots.size = 8 from arrV_size _ _ _] at k
    rw [List.append_nil]
    exact k⟩
  | i + 1, hi => by
    obtain ⟨J, hJ, Y⟩ := rw_stand X cA comp i (by omega)
    obtain ⟨f1, f2, -, -, -, -⟩ := rw_facts T cA comp i
    have k := Y.pushed (inC comp)
    rw [show (inC comp).slots.size = 4 from arrV_size _ _ _] at k
    have k2 : ((rwS T cA comp i).pushCell (inC comp)).heap[T.heap.size]? = some (ouC cA T.heap.size i) := (State.heap_pushCell_of_lt _ _ (show T.heap.size < (rwS T cA comp i).heap.size by rw [f1]; omega)).trans f2
    have k3 := k.stored k2 i (.ref (T.heap.size + 1 + i))
    rw [ouC_s, List.append_assoc] at k3
    refine ⟨J ++ [⟨T.heap.size, i⟩], fun x hx => ?_, ?_⟩
    · rcases List.mem_append.mp hx with z | z
      · exact hJ x z
      · rw [List.mem_singleton.mp z]; exact Nat.le_refl _
    · rw [show slots + 8 + 4 * (i + 1) = slots + 8 + 4 * i + 4 by omega]
      exact k3
/-- the loop over the rows -/
theorem mu_loop {Q : PUnit → Pre} {E : CtlPost} {e : Env} {d : Bool} {acts : List Action} {T : State} {g : JFrame} {cA comp : ClassId} {kA kC : Class} {c0 : ClassId} (hA : T.vm.classes[cA]? = some kA) (kAk : kA.kind = .array comp (.array .int)) (hC : T.vm.classes[comp]? = some kC) (kCk : kC.kind = .array c0 .int) (hl : 4 ≤ e.platform.arrayLengthLimit) (hh : 16 ≤ e.platform.maxHeapBytes) (h1 : T.heap.size + 9 ≤ e.platform.maxCells) (h2 : T.slotsUsed + 40 ≤ e.platform.maxSlots) (hq : ∀ d acts, Q PUnit.unit d acts ((rwS T cA comp 8).setTop g)) :
    wp (forIn (List.range' 0 8) PUnit.unit (fun i (_ : PUnit) => do
      let a ← Jvm.Op.multianewarray.make comp [nI 4]
      writeLoc T.heap.size i (.ref a)
      Pure.pure (ForInStep.yield PUnit.unit))) Q E e d acts ((rwS T cA comp 0).setTop g) := by
  refine wp_forIn_inv (fun rest s' => ∃ i, i ≤ 8 ∧ rest = List.range' i (8 - i) ∧ s' = (rwS T cA comp i).setTop g) _ _ ⟨0, Nat.zero_le _, rfl, rfl⟩ (fun x rest s' d' acts' Q' hI hQ => ?_) (fun s' d' acts' hI => ?_)
  · obtain ⟨i, hi, hr, rfl⟩ := hI
    obtain ⟨f1, f2, f3, f4, -, -⟩ := rw_facts T cA comp i
    have hi8 : i < 8 := by
      rcases Nat.lt_or_ge i 8 with z | z
      · exact z
      · rw [show 8 - i = 0 by omega] at hr; cases hr
    rw [show 8 - i = (8 - (i + 1)) + 1 by omega, List.range'_succ] at hr
    obtain ⟨hx, hrest⟩ := List.cons.inj hr
    subst hx hrest
    have e4 : (nI 4).toNatClampNeg = 4 := by decide
    have n4 : ¬ nI 4 < 0 := by decide
    simp only [Jvm.Op.multianewarray.make, wp_bind', _root_.Jvm.W.ite, if_neg n4, wp_pure', _root_.Jvm.W.theClass, State.vm_setTop, f3, hC, kCk, Option.some.injEq, exists_eq_left', e4]
    refine mu_new (s := (rwS T cA comp x).setTop g) (k := kC) (comp := c0) (type := .int) (by rw [State.vm_setTop, f3]; exact hC) kCk rfl (by omega) (by show ¬ 4 * 4 > _; omega) (by rw [State.heap_setTop, f1]; omega) (by rw [State.slotsUsed_setTop, f4]; omega) (fun d acts => ?_)
    have k0 : ({ cls := comp, slots := Array.replicate 4 (defaultValue FieldType.int) } : Cell) = inC comp := inC_0 comp
    rw [k0]
    have k2 : (((rwS T cA comp x).setTop g).pushCell (inC comp)).heap[T.heap.size]? = some (ouC cA T.heap.size x) := (State.heap_pushCell_of_lt _ _ (show T.heap.size < ((rwS T cA comp x).setTop g).heap.size by rw [State.heap_setTop, f1]; omega)).trans (by rw [State.heap_setTop]; exact f2)
    rw [wp_bind', _root_.Jvm.W.writeLoc]
    refine ⟨_, k2, fun z => (by cases z), by rw [show (ouC cA T.heap.size x).slots.size = 8 from arrV_size _ _ _]; exact hi8, ?_, ?_⟩
    · show State.fitsSlot _ cA .none x _ = true
      have kv : (rwS T cA comp x).vm.classes[cA]? = some kA := by
        rw [f3]
        exact hA
      simp [State.fitsSlot, State.slotType?, kv, kAk, fits]
    · rw [State.heap_setTop, f1, ouC_s, wp_pure']
      exact hQ _ _ _ ⟨x + 1, by omega, rfl, rfl⟩
  · obtain ⟨i, hi, hr, rfl⟩ := hI
    have e : i = 8 := by
      rcases Nat.lt_or_ge i 8 with z | z
      · rw [show 8 - i = (8 - (i + 1)) + 1 by omega, List.range'_succ] at hr; cases hr
      · omega
    subst e
    exact hq _ _
theorem mu_make {Q : Addr → Pre} {E : CtlPost} {e : Env} {d : Bool} {acts : List Action} {T : State} {g : JFrame} {cA comp c0 : ClassId} {kA kC : Class} (hA : T.vm.classes[cA]? = some kA) (kAk : kA.kind = .array comp (.array .int)) (hC : T.vm.classes[comp]? = some kC) (kCk : kC.kind = .array c0 .int) (hl : 8 ≤ e.platform.arrayLengthLimit) (hh : 32 ≤ e.platform.maxHeapBytes) (h1 : T.heap.size + 9 ≤ e.platform.maxCells) (h2 : T.slotsUsed + 40 ≤ e.platform.maxSlots) (hq : ∀ d acts, Q T.heap.size d acts ((rwS T cA comp 8).setTop g)) : wp (Jvm.Op.multianewarray.make cA [nI 8, nI 4]) Q E e d acts (T.setTop g) := by
  have n8 : ¬ nI 8 < 0 := by decide
  have e8 : (nI 8).toNatClampNeg = 8 := by decide
  have z8 : (nI 8 == 0) = false := by decide
  rw [Jvm.Op.multianewarray.make]
  simp only [wp_bind', _root_.Jvm.W.ite, if_neg n8, wp_pure', _root_.Jvm.W.theClass, State.vm_setTop, hA, kAk, Option.some.injEq, exists_eq_left', e8, z8, Bool.false_eq_true, if_false]
  refine mu_new (s := T.setTop g) (k := kA) (comp := comp) (type := .array .int) (by rw [State.vm_setTop]; exact hA) kAk rfl (by omega) (by show ¬ 8 * 4 > _; omega) (by rw [State.heap_setTop]; omega) (by rw [State.slotsUsed_setTop]; omega) (fun d acts => ?_)
  rw [ouC_0 cA T.heap.size, wp_bind', Std.Legacy.Range.forIn_eq_forIn_range']
  exact mu_loop hA kAk hC kCk (by omega) (by omega) h1 h2 (fun d acts => by rw [wp_pure']; exact hq d acts)
theorem rw_top (T : State) (c comp : ClassId) : ∀ i, (rwS T c comp i).topJava? = T.topJava?
  | 0 => rfl
  | i + 1 => rw_top T c comp i
theorem mu_wp {Q : Unit → Pre} {E : CtlPost} {e : Env} {d : Bool} {acts : List Action} {s : State} {f : JFrame} {index : Nat} {cA comp c0 : ClassId} {kA kC : Class} {rest : List Value} (hs : s.topJava?.isSome) (hr : s.vm.classReady f.method.cls index cA) (hA : s.vm.classes[cA]? = some kA) (kAk : kA.kind = .array comp (.array .int)) (hC : s.vm.classes[comp]? = some kC) (kCk : kC.kind = .array c0 .int) (hstack : f.stack = .int (nI 4) :: .int (nI 8) :: rest) (hl : 8 ≤ e.platform.arrayLengthLimit) (hh : 32 ≤ e.platform.maxHeapBytes) (h1 : s.heap.size + 9 ≤ e.platform.maxCells) (h2 : s.slotsUsed + 40 ≤ e.platform.maxSlots) (hq : ∀ acts, Q () true acts ((rwS s cA comp 8).setTop { f with stack := .ref s.heap.size :: rest })) : wp (Jvm.Op.multianewarray.sem index 2) Q E e d acts (s.setTop f) := by
  simp only [Jvm.Op.multianewarray.sem, wp_bind', _root_.Jvm.W.resolveClassAt_ready (State.method?_setTop f hs) hr, Jvm.popN, _root_.Jvm.W.pop, State.topJava?_setTop' _ hs, Option.some.injEq, exists_eq_left', hstack, List.cons.injEq, exists_cons_eq, State.setTop_setTop, wp_pure', List.nil_append, List.cons_append, List.mapM_cons, List.mapM_nil]
  refine mu_make hA kAk hC kCk hl hh h1 h2 (fun d acts => ?_)
  have ht : (rwS s cA comp 8).topJava?.isSome := by rw [rw_top]; exact hs
  simp only [wp_bind', _root_.Jvm.W.mark, _root_.Jvm.W.pushRef, State.topJava?_setTop' _ ht, Option.some.injEq, exists_eq_left', State.setTop_setTop]
  exact hq _
theorem ao_comp {s : State} {A : Array Value} (h : (Cond.arrayOver (.array .int)).before A s = true) : ∃ c k comp, s.vm.findClass ("[" ++ (FieldType.array .int).toString) = some c ∧ s.vm.findClass (FieldType.array .int).toString = some comp ∧ s.vm.classes[c]? = some k ∧ k.kind = .array comp (.array .int) := by
  simp only [Cond.before, Cond.holds, Cond.value] at h
  cases hf : s.vm.findClass (FieldType.array .int).toString with
  | none => rw [hf] at h; simp at h
  | some comp =>
    rw [hf] at h
    simp only [Option.bind_some] at h
    generalize hF : (s.vm.classes.findIdx? fun (x : Class) => match x.kind with | .array component _ => component == comp | _ => false) = fi at h
    cases fi with
    | none => simp at h
    | some i =>
      simp only [Option.bind_some] at h
      cases hk : s.vm.classes[i]? with
      | none => rw [hk] at h; simp at h
      | some k =>
        rw [hk] at h
        simp only [Option.map_some] at h
        cases hq : k.kind with
        | array c1 ty =>
          rw [hq] at h
          simp only [beq_iff_eq, Option.some.injEq, Bool.and_eq_true, decide_eq_true_eq] at h
          obtain ⟨hlt, hp, -⟩ := Array.findIdx?_eq_some_iff_getElem.mp hF
          have hkk : s.vm.classes[i] = k := by rw [Array.getElem?_eq_getElem hlt] at hk; exact Option.some.inj hk
          rw [hkk, hq] at hp
          have ec : c1 = comp := by simpa using hp
          exact ⟨i, k, comp, h.2, rfl, hk, by rw [hq, h.1, ec]⟩
        | _ => rw [hq] at h; simp at h
theorem mu_step {p : Program} {l : Launch} {e : Env} {R : Room} {s : State} {m : MethodId} {args : Array Value} {below : List Frame} {meth : Method} {c : Code} {T : State} {locs : List Loc} {cells slots : Nat} (X : Stand p l e R s m args below meth c T locs cells slots) (hexec : p.tables.exec = Jvm.exec) {own : String} {index : Nat} (hown : s.vm.findClass own = some m.cls) (hclink : (Cond.classLink own index "[[I").before args s = true) (hover : (Cond.arrayOver (.array .int)).before args s = true) (harr : (Cond.arrayClass .int).before args s = true) {g : JFrame} (hg : g.method = m) (hdg : decode c.code g.pc = .ok (.multianewarray index 2, 4)) {rest : List Value} (hstack : g.stack = .int (nI 4) :: .int (nI 8) :: rest) (hcells : cells + 9 ≤ R.cells) (hslots : slots + 40 ≤ R.slots) :
    ∃ (vm₁ : Vm) (cA comp : ClassId), s.WarmedH vm₁ ∧ s.vm.findClass "[[I" = some cA ∧ s.vm.findClass "[I" = some comp ∧ ∀ target, Steps p.tables e below ((rwS (T.setVm vm₁) cA comp 8).setTop { g with pc := g.pc + 4, stack := .ref T.heap.size :: rest }) target → Steps p.tables e below (T.setTop g) target := by
  subst hg
  have hpl : e.platform.magicAccessors = ({} : Platform).magicAccessors := by rw [X.admits.platform]
  obtain ⟨cA, kA, comp, hfA, hfC, hkA, hkindA⟩ := ao_comp hover
  have hfA : s.vm.findClass "[[I" = some cA := hfA
  have hfC : s.vm.findClass "[I" = some comp := hfC
  obtain ⟨cI, hI, hfI⟩ := arr_of harr
  have hfI : s.vm.findClass "[I" = some cI := hfI
  have eI : cI = comp := Option.some.inj (hfI.symm.trans hfC)
  subst eI
  obtain ⟨-, kC, hkC, c0, hkindC⟩ := hI 0 (fun _ => .null)
  have hkC : s.vm.classes[cI]? = some kC := hkC
  obtain ⟨cc, hfcc, hcl⟩ := Cond.classLink_spec hown hclink e.platform hpl
  cases hfA.symm.trans hfcc
  obtain ⟨hg₁, hwarm₁, hready₁⟩ := State.classEntry (e := e) X.warmed hcl
  generalize T.vm.noted g.method.cls index (.cls cA) = vm₁ at hg₁ hwarm₁ hready₁
  have hal : s.vm.Alike vm₁ := hwarm₁.alike
  obtain ⟨kA₁, hkA₁, heA⟩ := hal.2.2 _ _ hkA
  obtain ⟨kC₁, hkC₁, heC⟩ := hal.2.2 _ _ hkC
  have hkindA₁ : kA₁.kind = .array cI (.array .int) := by rw [heA]; exact hkindA
  have hkindC₁ : kC₁.kind = .array c0 .int := by rw [heC]; exact hkindC
  have hlimit : 8 ≤ e.platform.arrayLengthLimit := by rw [Launch.admits_arrayLengthLimit X.admits]; omega
  have hheap : 32 ≤ e.platform.maxHeapBytes := by rw [Launch.admits_maxHeapBytes X.admits]; omega
  obtain ⟨hr1, hr2⟩ := X.roomAbove hcells hslots
  refine ⟨vm₁, cA, cI, hwarm₁, hfA, hfC, fun target hrest => ?_⟩
  jvm_step X.here [hexec, hdg, mu_cold (e := e) (s := T) (f := g) X.here.top hg₁ hready₁]
  refine mu_wp (s := T.setVm vm₁) (f := g) X.here.top hready₁ hkA₁ hkindA₁ hkC₁ hkindC₁ hstack hlimit hheap hr1 hr2 (fun acts => ?_)
  intro acts'
  simp only [afterInstr_ok]
  exact hrest
