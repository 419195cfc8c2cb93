/-! ===== a callee's throw, caught in this method: the search through the table's rows, one by one ===== -/
/-- a row that covers the place, her link cold or warm: she takes the object, or the search goes on behind her -/
theorem b_go1 {Q : Handler → Pre} {E : CtlPost} {e : Env} {d : Bool} {acts : List Action} {U : State} {f : JFrame} {a : Addr} {y : ExceptionTableEntry} {t : List ExceptionTableEntry} {c : ClassId} {cell : Cell} (hy : covers y f.pc = true) (h0 : y.catchType ≠ 0) (hl : U.vm.ClassLinks e.platform f.method.cls y.catchType c) (hcell : U.heap[a]? = some cell) (hobj : ∀ k, cell.vm ≠ .statics k) (hk : ∃ k, U.vm.classes[cell.cls]? = some k) (hc : ∃ k, U.vm.classes[c]? = some k) :
    wp (findHandler.go f a (y :: t)) Q E e d acts U ↔ if U.vm.assignable cell.cls c = true then Q (.found y.handlerPc) d acts (U.setVm (U.vm.noted f.method.cls y.catchType (.cls c))) else wp (findHandler.go f a t) Q E e d acts (U.setVm (U.vm.noted f.method.cls y.catchType (.cls c))) := by
  simp only [covers] at hy
  obtain ⟨ha, ht⟩ := (resolveClass_links e.toSetting hl).op (op := VmOp.resolveClass f.method.cls y.catchType) rfl
  have hal : U.vm.Alike (U.vm.noted f.method.cls y.catchType (.cls c)) := (Vm.Alike.refl U.vm).noted _ _ _
  obtain ⟨k1, hk1⟩ := hk
  obtain ⟨k2, hk2⟩ := hc
  obtain ⟨k1', hk1', -⟩ := hal.2.2 _ _ hk1
  obtain ⟨k2', hk2', -⟩ := hal.2.2 _ _ hk2
  cases hfit : U.vm.assignable cell.cls c with
  | true =>
    have h9 : (U.vm.noted f.method.cls y.catchType (.cls c)).assignable cell.cls c = true := by rw [hal.assignable]; exact hfit
    simp [findHandler.go, hy, h0, ha, ht, hcell, hobj, hk1', hk2', h9, VmOp.dirties, VmOp.acts]
  | false =>
    have h9 : (U.vm.noted f.method.cls y.catchType (.cls c)).assignable cell.cls c = false := by rw [hal.assignable]; exact hfit
    simp [findHandler.go, hy, h0, ha, ht, hcell, hobj, hk1', hk2', h9, VmOp.dirties, VmOp.acts]
/-- what the tables say of a row's link: the class, as the method's own start sees it -/
def b_row (s : State) (pl : Platform) (d : ClassId) (y : ExceptionTableEntry) (c : ClassId) : Prop := y.catchType ≠ 0 ∧ s.vm.ClassLinks pl d y.catchType c
theorem b_rows {e : Env} {s : State} {f : JFrame} {a : Addr} {cell : Cell} (hobj : ∀ k, cell.vm ≠ .statics k) (hk0 : ∃ k, s.vm.classes[cell.cls]? = some k) (x : ExceptionTableEntry) (rest : List ExceptionTableEntry) (hx : covers x f.pc = true) {cx : ClassId} (hxl : b_row s e.platform f.method.cls x cx) (hxa : s.vm.assignable cell.cls cx = true) :
    ∀ (pre : List ExceptionTableEntry) (U : State), s.WarmedH U.vm → U.heap[a]? = some cell → (∀ y ∈ pre, covers y f.pc = true ∧ ∃ cy, b_row s e.platform f.method.cls y cy ∧ s.vm.assignable cell.cls cy = false) →
      ∃ vm', s.WarmedH vm' ∧ ∀ (Q : Handler → Pre) (E : CtlPost) (d : Bool) (acts : List Action), wp (findHandler.go f a (pre ++ x :: rest)) Q E e d acts U ↔ Q (.found x.handlerPc) d acts (U.setVm vm') := by
  obtain ⟨k0, hk0⟩ := hk0
  have one : ∀ (U : State), s.WarmedH U.vm → U.heap[a]? = some cell → ∀ (y : ExceptionTableEntry) (t : List ExceptionTableEntry) (c1 : ClassId), covers y f.pc = true → b_row s e.platform f.method.cls y c1 →
      s.WarmedH (U.vm.noted f.method.cls y.catchType (.cls c1)) ∧ ∀ (Q : Handler → Pre) (E : CtlPost) (d : Bool) (acts : List Action), wp (findHandler.go f a (y :: t)) Q E e d acts U ↔ if s.vm.assignable cell.cls c1 = true then Q (.found y.handlerPc) d acts (U.setVm (U.vm.noted f.method.cls y.catchType (.cls c1))) else wp (findHandler.go f a t) Q E e d acts (U.setVm (U.vm.noted f.method.cls y.catchType (.cls c1))) := by
    intro U hW hcell y t c1 hc1 hr
    obtain ⟨h0, hl⟩ := hr
    obtain ⟨dk, _, _, kt, hd, _, _, _, _, hkt, _, hopen⟩ := hl.here
    obtain ⟨k0', hk0', -⟩ := hW.alike.2.2 _ _ hk0
    obtain ⟨kt', hkt', -⟩ := hW.alike.2.2 _ _ hkt
    refine ⟨hW.noted hd hopen (State.rightAt_cls hl), fun Q E d acts => ?_⟩
    rw [b_go1 hc1 h0 (hW.classLinks hl) hcell hobj ⟨k0', hk0'⟩ ⟨kt', hkt'⟩, hW.alike.assignable]
  intro pre
  induction pre with
  | nil =>
    intro U hW hcell _
    obtain ⟨g1, g2⟩ := one U hW hcell x rest cx hx hxl
    refine ⟨_, g1, fun Q E d acts => ?_⟩
    rw [List.nil_append, g2, if_pos hxa]
  | cons y ys ih =>
    intro U hW hcell hp
    obtain ⟨hcov, c1, hr, hno⟩ := hp y (List.mem_cons_self ..)
    obtain ⟨g1, g2⟩ := one U hW hcell y (ys ++ x :: rest) c1 hcov hr
    obtain ⟨vm', hW', hq⟩ := ih (U.setVm (U.vm.noted f.method.cls y.catchType (.cls c1))) g1 hcell (fun w hw => hp w (List.mem_cons_of_mem _ hw))
    refine ⟨vm', hW', fun Q E d acts => ?_⟩
    rw [List.cons_append, g2, if_neg (by rw [hno]; decide)]
    exact hq Q E d acts
/-- the step into the handler -/
theorem b_into {tb : Tables} {e : Env} {U target : State} {g : JFrame} {c : Code} {below : List Frame} {a : Addr} (h : At U g.method c below) {hpc : Nat} {vm' : Vm} {meth : Method} (hm : U.vm.method? g.method = some meth) (hc : meth.code = some c)
    (hfind : ∀ (Q : Handler → Pre) (E : CtlPost) (d : Bool) (acts : List Action), wp (findHandler.go g a c.exceptionTable.toList) Q E e d acts ((U.setTop g).pushFrame (.throwing a)) ↔ Q (.found hpc) d acts (((U.setTop g).pushFrame (.throwing a)).setVm vm'))
    (hrest : Steps tb e below ((U.setVm vm').setTop { g with pc := hpc, stack := [.ref a] }) target) : Steps tb e below ((U.setTop g).pushFrame (.throwing a)) target := by
  obtain ⟨hgo, hw⟩ := h.throwing a
  have key : ∀ r : List Frame, (stepThrowing e ((U.setTop g).pushFrame (.throwing a)) a (.java g :: r)).Is ((((U.setTop g).pushFrame (.throwing a)).setVm vm').setFrames (.java { g with pc := hpc, stack := [.ref a] } :: r)) [] := by
    intro r
    simp only [stepThrowing, searchFrame, vmDo]
    generalize hr : Sem.go _ e false [] _ = res
    obtain ⟨as, rfl, ha⟩ := Sem.eq_ok_of hr (a := Handler.found hpc) (s' := ((U.setTop g).pushFrame (.throwing a)).setVm vm') (acts' := []) (by
      have hm' : ((U.setTop g).pushFrame (.throwing a)).vm.method? g.method = some meth := hm
      simp [W.findHandler_eq hm' hc, hfind])
    exact ⟨rfl, ha⟩
  refine Steps.head hgo hw ?_
  rw [stepThread_throwing (frames_entered h.top _), (key _).1]
  obtain ⟨g₀, hg⟩ := Option.isSome_iff_exists.mp h.top
  obtain ⟨r, hr⟩ := State.topJava?_eq_some.mp hg
  have hr' : (U.setVm vm').frames = .java g₀ :: r := hr
  rw [State.setTop_of_frames _ hr'] at hrest
  have e1 : ∀ (u : State) (F G : List Frame), ((u.setFrames F).setVm vm').setFrames G = (u.setVm vm').setFrames G := fun u F G => by
    have h1 : (u.setFrames F).setVm vm' = (u.setVm vm').setFrames F := rfl
    rw [h1, State.setFrames_setFrames]
  rw [hr, List.tail_cons, State.pushFrame, e1, State.setTop_of_frames _ hr, e1]
  exact hrest
/-- caught by the row x of this method's table, behind rows that cover the place and name other classes -/
theorem b_catch {p : Program} {l : Launch} {e : Env} {R : Room} {s : State} {m : MethodId} {args : Array Value} {below : List Frame} {meth : Method} {c : Code} {H : Heap} {locs : List Loc} {cells slots pc : Nat} {Q : State → Prop} {ls : Array Slot} {rest : List Value} {own name E : String} {cell : Cell} {q : Addr} (hown : s.vm.findClass own = some m.cls) (pre : List ExceptionTableEntry) (x : ExceptionTableEntry) (suf : List ExceptionTableEntry) (hsplit : c.exceptionTable.toList = pre ++ x :: suf)
    (hpass : ∀ y ∈ pre, covers y pc = true ∧ y.catchType ≠ 0 ∧ ∃ nm : String, (Cond.classLink own y.catchType nm).before args s = true ∧ va_Nc E nm s) (hx : covers x pc = true) (h0 : x.catchType ≠ 0) (hlink : (Cond.classLink own x.catchType name).before args s = true) (hcast : (Cond.castable E name).before args s = true) (hcell : H[q]? = some cell) (hv : cell.vm = .none) (hcl : s.vm.findClass E = some cell.cls)
    (kk : W p l e R s m args below meth c H locs cells slots Q (F0 m x.handlerPc ls [.ref q])) : vx_W p l e R s m args below meth c H locs cells slots Q (F0 m pc ls rest) q := by
  intro T hT X
  have hpl : e.platform.magicAccessors = ({} : Platform).magicAccessors := by rw [X.admits.platform]
  obtain ⟨c3, c4, hc3, hc4, hasg⟩ := Cond.castable_spec hcast
  cases Option.some.inj (hc3.symm.trans hcl)
  obtain ⟨c5, hc5, hcl5⟩ := Cond.classLink_spec hown hlink e.platform hpl
  cases Option.some.inj (hc4.symm.trans hc5)
  obtain ⟨k9, hk9, -⟩ := Vm.findClass_spec hcl
  obtain ⟨vm', hW', hf⟩ := b_rows (e := e) (s := s) (f := F0 m pc ls rest) (a := q) (cell := cell) (fun k h => by rw [hv] at h; cases h) ⟨k9, hk9⟩ x suf hx (cx := c4) ⟨h0, hcl5⟩ hasg pre ((T.setTop (F0 m pc ls rest)).pushFrame (.throwing q)) X.warmed (by show T.heap[q]? = _; rw [hT]; exact hcell) (fun y hy => by
    obtain ⟨a1, a2, nm, a3, c6, c7, b1, b2, b3⟩ := hpass y hy
    cases Option.some.inj (b1.symm.trans hcl)
    obtain ⟨c8, hc8, hcl8⟩ := Cond.classLink_spec hown a3 e.platform hpl
    cases Option.some.inj (b2.symm.trans hc8)
    exact ⟨a1, c7, ⟨a2, hcl8⟩, b3⟩)
  obtain ⟨t, a1, b1⟩ := kk (T.setVm vm') hT (X.noted hW')
  refine ⟨t, b_into (g := F0 m pc ls rest) (vm' := vm') X.here X.method' X.code ?_ a1, b1⟩
  intro Q E d acts
  rw [hsplit]
  exact hf Q E d acts
