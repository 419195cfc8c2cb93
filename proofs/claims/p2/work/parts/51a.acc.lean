/-! ===== accounts: contracts whose post tells how much room was used ===== -/
def a_Q (Qc : Nat → Nat → Array Value → State → Outcome → State → Prop) (XC : Nat → Nat → String → State → State → Prop) (free : Addr → Prop) : Array Value → State → Outcome → State → Prop := fun a st o t => ∃ uc us, vx_Q (Qc uc us) (XC uc us) uc us free a st o t
def a_Met (l : Launch) (y : MethodName) (ws : List Cond) (rm : Room) (Pc : Array Value → State → Prop) (Qc : Nat → Nat → Array Value → State → Outcome → State → Prop) (XC : Nat → Nat → String → State → State → Prop) (free : Addr → Prop) : Prop :=
  MetFree l y (headSpec ws rm) Pc (fun _ _ _ _ _ => True) (a_Q Qc XC free)
def a_PostOf (Qc : Nat → Nat → Array Value → State → Outcome → State → Prop) (free : Addr → Prop) : Pt → Array Value → Option Value → Pt → Prop := fun A a v B => ∃ uc us, PostOf (Qc uc us) uc us free A a v B
def a_Post (XC : Nat → Nat → String → State → State → Prop) (free : Addr → Prop) : Pt → Array Value → Addr → Pt → Prop := fun A a q B => ∃ uc us, vx_Post (XC uc us) uc us free A a q B
section APayer
variable {l : Launch} {R : Room} {p : Program} {e : Env} {below : List Frame} {s : State} {sargs : Array Value} {y : MethodName} {len W9 : Nat}
theorem a_back {ws : List Cond} {rm : Room} {Pc : Array Value → State → Prop} {Qc : Nat → Nat → Array Value → State → Outcome → State → Prop} {XC : Nat → Nat → String → State → State → Prop} {mc ms : Nat} {free : Addr → Prop} {bytes : ByteArray} {maxL : Nat} {ret : Option FieldType}
    (hM : a_Met l y ws rm Pc Qc XC free) (hblind : FrameBlind Pc) (hrc : rm.cells = mc) (hrs : rm.slots = ms)
    (hframes : rm.frames + 1 ≤ R.frames) (hlocals : W9 + (maxL + 11) + rm.locals ≤ R.locals)
    (hws : ∀ w ∈ ws, ∀ a' U, s.WarmedH U.vm → w.before a' U = true) (hcode : Cond.code y bytes maxL ret ∈ ws) (hinit : ∀ a' U, s.WarmedH U.vm → (Cond.initialized y.cls).before a' U = true) :
    vx_Back l R p e below s sargs y len W9 (PreOf R mc ms Pc) (a_PostOf Qc free) (a_Post XC free) := by
  intro m meth c A g ig mk a X hg hsize hdg hW hn hp
  have h1 : (headSpec ws rm).pre.before a A.U = true := atoms_intro fun w hw => hws w hw _ _ X.warmed
  have h2 : (Cond.code y bytes maxL ret).before a A.U = true := hws _ hcode _ _ X.warmed
  have h3 : (Cond.initialized y.cls).before a A.U = true := hinit _ _ X.warmed
  have h4 : A.cells + (headSpec ws rm).room.cells ≤ R.cells := by rw [show (headSpec ws rm).room.cells = mc from hrc]; exact hp.1
  have h5 : A.slots + (headSpec ws rm).room.slots ≤ R.slots := by rw [show (headSpec ws rm).room.slots = ms from hrs]; exact hp.2.1
  have hPc : Pc a (A.U.calling g mk a) := hblind _ _ _ _ hp.2.2
  obtain ⟨U, Ls, c0, s0⟩ := A
  dsimp only [Pt.U, Pt.locs, Pt.cells, Pt.slots] at h1 h2 h3 h4 h5 X hn hPc ⊢
  obtain ⟨methY, cY, hmY, hcY, -, hlY, -, -, -, -⟩ := Cond.code_spec hn h2
  obtain ⟨kY, hkY, -⟩ := className_of_methodNamed hn
  have hinitY : kY.init = .initialized := Cond.initialized_spec (findClass_of_methodNamed hn) hkY h3
  have h : At U g.method c below := by rw [hg]; exact X.here
  have hlocals9 : W9 + (maxL + 11) + (headSpec ws rm).room.locals ≤ R.locals := hlocals
  have happ : (headSpec ws rm).appliesLoose y e.platform (U.calling g mk a) = true :=
    Spec.appliesLoose_calling (g := g) h hdg hn hkY hinitY
      (X.room_calling (g := g) (R' := (headSpec ws rm).room) hsize hmY hcY hframes (by rw [hlY]; omega) h4 h5) h1
  obtain ⟨mid, hmid⟩ := h.above
  have hfr : (U.setTop g).frames = (.java g :: mid) ++ below := by rw [State.frames_setTop' g h.top, hmid]; rfl
  obtain ⟨o, s₂, hsteps, -, hend, hq⟩ := Steps.callFree hM p X.admits X.cas X.clock (acts := []) hfr happ hPc trivial
  obtain ⟨uc, us, hq'⟩ : ∃ uc us, vx_Q (Qc uc us) (XC uc us) uc us free a (U.calling g mk a) o s₂ := hq
  rw [State.frames_setTop' g h.top] at hend
  obtain ⟨g₀, hg0⟩ := Option.isSome_iff_exists.mp h.top
  obtain ⟨r, hr⟩ := State.topJava?_eq_some.mp hg0
  have hr' : (({ U with heap := s₂.heap, slotsUsed := s₂.slotsUsed } : State).setVm s₂.vm).frames = .java g₀ :: r := hr
  rcases hq' with ⟨hqc, L, hfe, hL⟩ | ⟨q, rfl, E, ce, L, hx, hce, hcv, hcl, hW₂, hsm, hL⟩
  · obtain ⟨⟨v, rfl⟩, hW₂, e2, q2, q3, q4, q5, q6⟩ := id hfe
    have e3 : s₂ = ({ (U.calling g mk a).setFrames s₂.frames with heap := s₂.heap, slotsUsed := s₂.slotsUsed } : State).setVm s₂.vm := by
      have : s₂ = ({ s₂ with vm := (U.calling g mk a).vm } : State).setVm s₂.vm := rfl
      rw [e2] at this
      exact this
    obtain ⟨c₂, i₂, len₂, hc₂, hd₂, hf₂⟩ := hend
    have hW' : U.WarmedH s₂.vm := hW₂
    have hcc : c₂ = c := by
      have h1 : s₂.code? g.method = U.code? g.method := by
        rw [State.code?_eq, State.code?_eq, hW'.alike.method?]
      exact Option.some.inj (hc₂.symm.trans (h1.trans h.code))
    subst hcc
    have hlen : len₂ = len := by rw [hdg] at hd₂; cases hd₂; rfl
    subst hlen
    have hs₂ : s₂ = (({ U with heap := s₂.heap, slotsUsed := s₂.slotsUsed } : State).setVm s₂.vm).setTop { g with pc := g.pc + len₂, stack := v.toList ++ g.stack } := by
      refine e3.trans ?_
      rw [hf₂, State.calling_eq h.top, State.setFrames_setFrames, State.setTop_of_frames _ hr', hr]
      rfl
    have hsame : U.sameButNew ({ U with heap := s₂.heap, slotsUsed := s₂.slotsUsed } : State) L uc us := by
      refine ⟨?_, q2, q3, q4, q5, q6⟩
      obtain ⟨t, ht, -⟩ := State.frames_cons hr
      show ({ U with heap := s₂.heap, slotsUsed := s₂.slotsUsed } : State) = { U.setFrames U.frames with heap := s₂.heap, slotsUsed := s₂.slotsUsed }
      rw [State.setFrames_self ht]
    subst hg
    refine Or.inl ⟨v, ⟨(({ U with heap := s₂.heap, slotsUsed := s₂.slotsUsed } : State).setVm s₂.vm), Ls ++ L, c0 + uc, s0 + us⟩,
      ⟨X.admits, X.cas, X.clock, X.frames, X.room, X.hears, X.method, X.code, (X.here.setHeapUsed s₂.heap s₂.slotsUsed).setVm hW'.alike, X.tail, State.WarmedH.trans X.warmed hW', X.limits, X.bytes, X.same.trans (hsame.setVm s.vm)⟩,
      ⟨uc, us, g, mk, s₂, L, rfl, rfl, hqc, rfl, hL, rfl, rfl⟩, ?_⟩
    show Steps p.tables e below _ ((({ U with heap := s₂.heap, slotsUsed := s₂.slotsUsed } : State).setVm s₂.vm).setTop { g with pc := g.pc + len₂, stack := v.toList ++ g.stack })
    rw [← hs₂]
    exact hsteps
  · obtain ⟨e2, q2, q3, q4, q5, q6⟩ := id hsm
    have e3 : s₂ = ({ (U.calling g mk a).setFrames s₂.frames with heap := s₂.heap, slotsUsed := s₂.slotsUsed } : State).setVm s₂.vm := by
      have : s₂ = ({ s₂ with vm := (U.calling g mk a).vm } : State).setVm s₂.vm := rfl
      rw [e2] at this
      exact this
    have hf₂ : s₂.frames = .throwing q :: .java g :: U.frames.tail := hend
    have hW' : U.WarmedH s₂.vm := hW₂
    have hs₂ : s₂ = ((({ U with heap := s₂.heap, slotsUsed := s₂.slotsUsed } : State).setVm s₂.vm).setTop g).pushFrame (.throwing q) := by
      refine e3.trans ?_
      rw [hf₂, State.calling_eq h.top, State.setFrames_setFrames, State.pushFrame, State.frames_setTop _ hr', State.setTop_of_frames _ hr', State.setFrames_setFrames, hr]
      rfl
    have hsame : U.sameButNew ({ U with heap := s₂.heap, slotsUsed := s₂.slotsUsed } : State) L uc us := by
      refine ⟨?_, q2, q3, q4, q5, q6⟩
      obtain ⟨t, ht, -⟩ := State.frames_cons hr
      show ({ U with heap := s₂.heap, slotsUsed := s₂.slotsUsed } : State) = { U.setFrames U.frames with heap := s₂.heap, slotsUsed := s₂.slotsUsed }
      rw [State.setFrames_self ht]
    subst hg
    refine Or.inr ⟨q, ⟨(({ U with heap := s₂.heap, slotsUsed := s₂.slotsUsed } : State).setVm s₂.vm), Ls ++ L, c0 + uc, s0 + us⟩,
      ⟨X.admits, X.cas, X.clock, X.frames, X.room, X.hears, X.method, X.code, (X.here.setHeapUsed s₂.heap s₂.slotsUsed).setVm hW'.alike, X.tail, State.WarmedH.trans X.warmed hW', X.limits, X.bytes, X.same.trans (hsame.setVm s.vm)⟩,
      ⟨uc, us, g, mk, s₂, L, E, ce, rfl, rfl, hx, hce, hcv, hcl, rfl, hL, rfl, rfl⟩, ?_⟩
    show Steps p.tables e below _ (((({ U with heap := s₂.heap, slotsUsed := s₂.slotsUsed } : State).setVm s₂.vm).setTop g).pushFrame (.throwing q))
    rw [← hs₂]
    exact hsteps
theorem a_backW {ws : List Cond} {rm : Room} {Pc : Array Value → State → Prop} {Qc : Nat → Nat → Array Value → State → Outcome → State → Prop} {XC : Nat → Nat → String → State → State → Prop} {mc ms : Nat} {free : Addr → Prop} {bytes : ByteArray} {maxL : Nat} {ret : Option FieldType} {hh : List (Nat × Nat × Nat × Nat)}
    (hM : a_Met l y ws rm Pc Qc XC free) (hblind : FrameBlind Pc) (hrc : rm.cells = mc) (hrs : rm.slots = ms)
    (hframes : rm.frames + 1 ≤ R.frames) (hlocals : W9 + (maxL + 11) + rm.locals ≤ R.locals)
    (hws : ∀ w ∈ ws, ∀ a' U, s.WarmedH U.vm → w.before a' U = true) (hcode : Cond.codeWith y bytes maxL ret hh ∈ ws) (hinit : ∀ a' U, s.WarmedH U.vm → (Cond.initialized y.cls).before a' U = true) :
    vx_Back l R p e below s sargs y len W9 (PreOf R mc ms Pc) (a_PostOf Qc free) (a_Post XC free) := by
  intro m meth c A g ig mk a X hg hsize hdg hW hn hp
  have h1 : (headSpec ws rm).pre.before a A.U = true := atoms_intro fun w hw => hws w hw _ _ X.warmed
  have h2 : (Cond.codeWith y bytes maxL ret hh).before a A.U = true := hws _ hcode _ _ X.warmed
  have h3 : (Cond.initialized y.cls).before a A.U = true := hinit _ _ X.warmed
  have h4 : A.cells + (headSpec ws rm).room.cells ≤ R.cells := by rw [show (headSpec ws rm).room.cells = mc from hrc]; exact hp.1
  have h5 : A.slots + (headSpec ws rm).room.slots ≤ R.slots := by rw [show (headSpec ws rm).room.slots = ms from hrs]; exact hp.2.1
  have hPc : Pc a (A.U.calling g mk a) := hblind _ _ _ _ hp.2.2
  obtain ⟨U, Ls, c0, s0⟩ := A
  dsimp only [Pt.U, Pt.locs, Pt.cells, Pt.slots] at h1 h2 h3 h4 h5 X hn hPc ⊢
  obtain ⟨m9, methY, cY, hn9, hmY, hcY, -, hlY, -⟩ := Cond.codeWith_spec h2
  cases Option.some.inj (hn9.symm.trans hn)
  obtain ⟨kY, hkY, -⟩ := className_of_methodNamed hn
  have hinitY : kY.init = .initialized := Cond.initialized_spec (findClass_of_methodNamed hn) hkY h3
  have h : At U g.method c below := by rw [hg]; exact X.here
  have hlocals9 : W9 + (maxL + 11) + (headSpec ws rm).room.locals ≤ R.locals := hlocals
  have happ : (headSpec ws rm).appliesLoose y e.platform (U.calling g mk a) = true :=
    Spec.appliesLoose_calling (g := g) h hdg hn hkY hinitY
      (X.room_calling (g := g) (R' := (headSpec ws rm).room) hsize hmY hcY hframes (by rw [hlY]; omega) h4 h5) h1
  obtain ⟨mid, hmid⟩ := h.above
  have hfr : (U.setTop g).frames = (.java g :: mid) ++ below := by rw [State.frames_setTop' g h.top, hmid]; rfl
  obtain ⟨o, s₂, hsteps, -, hend, hq⟩ := Steps.callFree hM p X.admits X.cas X.clock (acts := []) hfr happ hPc trivial
  obtain ⟨uc, us, hq'⟩ : ∃ uc us, vx_Q (Qc uc us) (XC uc us) uc us free a (U.calling g mk a) o s₂ := hq
  rw [State.frames_setTop' g h.top] at hend
  obtain ⟨g₀, hg0⟩ := Option.isSome_iff_exists.mp h.top
  obtain ⟨r, hr⟩ := State.topJava?_eq_some.mp hg0
  have hr' : (({ U with heap := s₂.heap, slotsUsed := s₂.slotsUsed } : State).setVm s₂.vm).frames = .java g₀ :: r := hr
  rcases hq' with ⟨hqc, L, hfe, hL⟩ | ⟨q, rfl, E, ce, L, hx, hce, hcv, hcl, hW₂, hsm, hL⟩
  · obtain ⟨⟨v, rfl⟩, hW₂, e2, q2, q3, q4, q5, q6⟩ := id hfe
    have e3 : s₂ = ({ (U.calling g mk a).setFrames s₂.frames with heap := s₂.heap, slotsUsed := s₂.slotsUsed } : State).setVm s₂.vm := by
      have : s₂ = ({ s₂ with vm := (U.calling g mk a).vm } : State).setVm s₂.vm := rfl
      rw [e2] at this
      exact this
    obtain ⟨c₂, i₂, len₂, hc₂, hd₂, hf₂⟩ := hend
    have hW' : U.WarmedH s₂.vm := hW₂
    have hcc : c₂ = c := by
      have h1 : s₂.code? g.method = U.code? g.method := by
        rw [State.code?_eq, State.code?_eq, hW'.alike.method?]
      exact Option.some.inj (hc₂.symm.trans (h1.trans h.code))
    subst hcc
    have hlen : len₂ = len := by rw [hdg] at hd₂; cases hd₂; rfl
    subst hlen
    have hs₂ : s₂ = (({ U with heap := s₂.heap, slotsUsed := s₂.slotsUsed } : State).setVm s₂.vm).setTop { g with pc := g.pc + len₂, stack := v.toList ++ g.stack } := by
      refine e3.trans ?_
      rw [hf₂, State.calling_eq h.top, State.setFrames_setFrames, State.setTop_of_frames _ hr', hr]
      rfl
    have hsame : U.sameButNew ({ U with heap := s₂.heap, slotsUsed := s₂.slotsUsed } : State) L uc us := by
      refine ⟨?_, q2, q3, q4, q5, q6⟩
      obtain ⟨t, ht, -⟩ := State.frames_cons hr
      show ({ U with heap := s₂.heap, slotsUsed := s₂.slotsUsed } : State) = { U.setFrames U.frames with heap := s₂.heap, slotsUsed := s₂.slotsUsed }
      rw [State.setFrames_self ht]
    subst hg
    refine Or.inl ⟨v, ⟨(({ U with heap := s₂.heap, slotsUsed := s₂.slotsUsed } : State).setVm s₂.vm), Ls ++ L, c0 + uc, s0 + us⟩,
      ⟨X.admits, X.cas, X.clock, X.frames, X.room, X.hears, X.method, X.code, (X.here.setHeapUsed s₂.heap s₂.slotsUsed).setVm hW'.alike, X.tail, State.WarmedH.trans X.warmed hW', X.limits, X.bytes, X.same.trans (hsame.setVm s.vm)⟩,
      ⟨uc, us, g, mk, s₂, L, rfl, rfl, hqc, rfl, hL, rfl, rfl⟩, ?_⟩
    show Steps p.tables e below _ ((({ U with heap := s₂.heap, slotsUsed := s₂.slotsUsed } : State).setVm s₂.vm).setTop { g with pc := g.pc + len₂, stack := v.toList ++ g.stack })
    rw [← hs₂]
    exact hsteps
  · obtain ⟨e2, q2, q3, q4, q5, q6⟩ := id hsm
    have e3 : s₂ = ({ (U.calling g mk a).setFrames s₂.frames with heap := s₂.heap, slotsUsed := s₂.slotsUsed } : State).setVm s₂.vm := by
      have : s₂ = ({ s₂ with vm := (U.calling g mk a).vm } : State).setVm s₂.vm := rfl
      rw [e2] at this
      exact this
    have hf₂ : s₂.frames = .throwing q :: .java g :: U.frames.tail := hend
    have hW' : U.WarmedH s₂.vm := hW₂
    have hs₂ : s₂ = ((({ U with heap := s₂.heap, slotsUsed := s₂.slotsUsed } : State).setVm s₂.vm).setTop g).pushFrame (.throwing q) := by
      refine e3.trans ?_
      rw [hf₂, State.calling_eq h.top, State.setFrames_setFrames, State.pushFrame, State.frames_setTop _ hr', State.setTop_of_frames _ hr', State.setFrames_setFrames, hr]
      rfl
    have hsame : U.sameButNew ({ U with heap := s₂.heap, slotsUsed := s₂.slotsUsed } : State) L uc us := by
      refine ⟨?_, q2, q3, q4, q5, q6⟩
      obtain ⟨t, ht, -⟩ := State.frames_cons hr
      show ({ U with heap := s₂.heap, slotsUsed := s₂.slotsUsed } : State) = { U.setFrames U.frames with heap := s₂.heap, slotsUsed := s₂.slotsUsed }
      rw [State.setFrames_self ht]
    subst hg
    refine Or.inr ⟨q, ⟨(({ U with heap := s₂.heap, slotsUsed := s₂.slotsUsed } : State).setVm s₂.vm), Ls ++ L, c0 + uc, s0 + us⟩,
      ⟨X.admits, X.cas, X.clock, X.frames, X.room, X.hears, X.method, X.code, (X.here.setHeapUsed s₂.heap s₂.slotsUsed).setVm hW'.alike, X.tail, State.WarmedH.trans X.warmed hW', X.limits, X.bytes, X.same.trans (hsame.setVm s.vm)⟩,
      ⟨uc, us, g, mk, s₂, L, E, ce, rfl, rfl, hx, hce, hcv, hcl, rfl, hL, rfl, rfl⟩, ?_⟩
    show Steps p.tables e below _ (((({ U with heap := s₂.heap, slotsUsed := s₂.slotsUsed } : State).setVm s₂.vm).setTop g).pushFrame (.throwing q))
    rw [← hs₂]
    exact hsteps
end APayer
def a_Run (p : Program) (l : Launch) (e : Env) (R : Room) (s : State) (m : MethodId) (args : Array Value) (below : List Frame) (meth : Method) (c : Code) (H : Heap) (locs : List Loc) (cells slots : Nat) (g : JFrame) (rest : List Value) (Qa : Nat → Nat → State → Outcome → State → Prop) (XC : Nat → Nat → String → State → State → Prop) (free : Addr → Prop) : Prop :=
  ∀ T : State, T.heap = H → Stand p l e R s m args below meth c T locs cells slots → ∃ uc us : Nat,
    (∃ (v : Option Value) (st₀ t T' : State) (L : List Loc), st₀.heap = H ∧ Stand p l e R s m args below meth c T' (locs ++ L) (cells + uc) (slots + us) ∧ (∀ q ∈ L, free q.base) ∧ T'.heap = t.heap ∧ T'.vm = t.vm ∧ Qa uc us st₀ (.returned v) t ∧
      Goes p e below T g T' { g with pc := g.pc + 3, stack := v.toList ++ rest }) ∨
    (∃ (q : Addr) (st₀ t T' : State) (L : List Loc) (E : String) (ce : Cell), st₀.heap = H ∧ Stand p l e R s m args below meth c T' (locs ++ L) (cells + uc) (slots + us) ∧ (∀ z ∈ L, free z.base) ∧ T'.heap = t.heap ∧ T'.vm = t.vm ∧ XC uc us E st₀ t ∧ t.heap[q]? = some ce ∧ ce.vm = .none ∧ s.vm.findClass E = some ce.cls ∧
      Steps p.tables e below (T.setTop g) ((T'.setTop { g with stack := rest }).pushFrame (.throwing q)))
section ARuns
variable {p : Program} {l : Launch} {e : Env} {R : Room} {s : State} {m : MethodId} {args : Array Value} {below : List Frame} {meth : Method} {c : Code} {H : Heap} {locs : List Loc} {cells slots : Nat}
variable {y : MethodName} {bytes cc : ByteArray} {maxL nL mc ms n index : Nat} {ret : Option FieldType} {ws : List Cond} {rm : Room} {Pc : Array Value → State → Prop} {Qc : Nat → Nat → Array Value → State → Outcome → State → Prop} {XC : Nat → Nat → String → State → State → Prop} {free : Addr → Prop} {Ts : List Cond} {own C : String} {b : Addr} {As rest : List Value} {g : JFrame}
theorem a_callBack (cb : CallB R s args own index y bytes maxL ret ws rm mc ms n) (hM : a_Met l y ws rm Pc Qc XC free) (hbl : FrameBlind Pc) : vx_Back l R p e below s args y 3 8 (PreOf R mc ms Pc) (a_PostOf Qc free) (a_Post XC free) := by
  obtain ⟨hrc, hrs, hfr, hlo, hws, hcw, -, hini, -⟩ := cb
  exact a_back (bytes := bytes) (maxL := maxL) (ret := ret) hM hbl hrc hrs hfr hlo hws hcw (fun a' U hW => word_at hW (Or.inl (by first | rfl | simp [Cond.onTables, Cond.keeps, Cond.steady])) hini)
theorem a_runV (S : CallFix p m c cc nL s args Ts own) (hM : a_Met l y ws rm Pc Qc XC free) (cw : CallW R s args own C index y bytes maxL ret ws rm mc ms n) (hp : PreV s H C b Pc As)
    (hg : g.method = m) (hn : As.length = n) (hsize : g.locals.size = nL) (hstack : g.stack = As.reverse ++ .ref b :: rest) (hW : 2 * g.monitorRoom + (rest.map fun v => v.category).sum ≤ 8) (hdg : decode cc g.pc = .ok (.invokevirtual index, 3)) (hf : cells + mc ≤ R.cells ∧ slots + ms ≤ R.slots) :
    a_Run p l e R s m args below meth c H locs cells slots g rest (fun uc us => Qc uc us (Value.ref b :: As).toArray) XC free := by
  have hK : vx_Back l R p e below s args y 3 8 (PreOf R mc ms Pc) (a_PostOf Qc free) (a_Post XC free) := a_callBack cw.1 hM hp.1
  obtain ⟨⟨-, -, -, -, -, -, hcode, -, hy, hlen, hl⟩, hin, hse⟩ := cw
  obtain ⟨hx, hb, hml, ho, -⟩ := S
  obtain ⟨-, ⟨cellB, hcB, hoB, hclB⟩, hPc⟩ := hp
  intro T hT X
  rcases vx_callV X hx (C := C) (bytes := bytes) (maxL := maxL) (ret := ret) ho hl hin hse hcode hy hK (by rw [hT]; exact hcB) hoB hclB hg (hsize.trans hml.symm) (argsL := As) (rest := rest) (fun sig h => hn.trans (hlen sig h)) hstack hW (by rw [hb]; exact hdg)
    (fun vm₁ hW₁ => ⟨hf.1, hf.2, hPc (T.setVm vm₁) hT hW₁⟩) with ⟨v, vm₁, ⟨U', l2, c2, s2⟩, hW₁, X', ⟨uc, us, g', mk, t, L, e1, e2, hq, h1, hL, h2, h3⟩, st⟩ | ⟨q, vm₁, ⟨U', l2, c2, s2⟩, hW₁, X', ⟨uc, us, g', mk, t, L, E, ce, e1, e2, hq, hce, hcv, hcl, h1, hL, h2, h3⟩, st⟩
  · dsimp only [Pt.U, Pt.locs, Pt.cells, Pt.slots] at X' e1 e2 h1 h2 h3 st
    subst h1; subst h2; subst h3
    exact ⟨uc, us, Or.inl ⟨v, (T.setVm vm₁).calling g' mk (Value.ref b :: As).toArray, t, U', L, hT, X', hL, e1, e2, hq, st⟩⟩
  · dsimp only [Pt.U, Pt.locs, Pt.cells, Pt.slots] at X' e1 e2 h1 h2 h3 st hcl
    subst h1; subst h2; subst h3
    exact ⟨uc, us, Or.inr ⟨q, (T.setVm vm₁).calling g' mk (Value.ref b :: As).toArray, t, U', L, E, ce, hT, X', hL, e1, e2, hq, hce, hcv, vx_cls hW₁ hcl, st⟩⟩
theorem a_runSX {hh : List (Nat × Nat × Nat × Nat)} (S : CallFix p m c cc nL s args Ts own) (hM : a_Met l y ws rm Pc Qc XC free) (cw : vx_CSW R s args own index y bytes maxL ret hh ws rm mc ms n) (hp : PreS s H Pc As)
    (hg : g.method = m) (hn : As.length = n) (hsize : g.locals.size = nL) (hstack : g.stack = As.reverse ++ rest) (hW : 2 * g.monitorRoom + (rest.map fun v => v.category).sum ≤ 8) (hdg : decode cc g.pc = .ok (.invokestatic index, 3)) (hf : cells + mc ≤ R.cells ∧ slots + ms ≤ R.slots) :
    a_Run p l e R s m args below meth c H locs cells slots g rest (fun uc us => Qc uc us As.toArray) XC free := by
  obtain ⟨⟨hrc, hrs, hfr, hlo, hws, hcw⟩, hcode, hini, hy, hlen, hl, hstt⟩ := cw
  have hK : vx_Back l R p e below s args y 3 8 (PreOf R mc ms Pc) (a_PostOf Qc free) (a_Post XC free) := a_backW (hh := hh) (bytes := bytes) (maxL := maxL) (ret := ret) hM hp.1 hrc hrs hfr hlo hws hcw (fun a' U hW => word_at hW (Or.inl (by first | rfl | simp [Cond.onTables, Cond.keeps, Cond.steady])) hini)
  obtain ⟨hx, hb, hml, ho, -⟩ := S
  intro T hT X
  rcases vx_callSX X hx (hh := hh) (bytes := bytes) (maxL := maxL) (ret := ret) ho hl hstt hini hcode hy hK hg (hsize.trans hml.symm) (argsL := As) (rest := rest) (fun sig h => hn.trans (hlen sig h)) hstack hW (by rw [hb]; exact hdg)
    (fun vm₁ hW₁ => ⟨hf.1, hf.2, hp.2 (T.setVm vm₁) hT hW₁⟩) with ⟨v, vm₁, ⟨U', l2, c2, s2⟩, hW₁, X', ⟨uc, us, g', mk, t, L, e1, e2, hq, h1, hL, h2, h3⟩, st⟩ | ⟨q, vm₁, ⟨U', l2, c2, s2⟩, hW₁, X', ⟨uc, us, g', mk, t, L, E, ce, e1, e2, hq, hce, hcv, hcl, h1, hL, h2, h3⟩, st⟩
  · dsimp only [Pt.U, Pt.locs, Pt.cells, Pt.slots] at X' e1 e2 h1 h2 h3 st
    subst h1; subst h2; subst h3
    exact ⟨uc, us, Or.inl ⟨v, (T.setVm vm₁).calling g' mk As.toArray, t, U', L, hT, X', hL, e1, e2, hq, st⟩⟩
  · dsimp only [Pt.U, Pt.locs, Pt.cells, Pt.slots] at X' e1 e2 h1 h2 h3 st hcl
    subst h1; subst h2; subst h3
    exact ⟨uc, us, Or.inr ⟨q, (T.setVm vm₁).calling g' mk As.toArray, t, U', L, E, ce, hT, X', hL, e1, e2, hq, hce, hcv, vx_cls hW₁ hcl, st⟩⟩
end ARuns
/-- what a body owes at its end -/
def a_MQ (below : List Frame) (Qc : Nat → Nat → Array Value → State → Outcome → State → Prop) (XC : Nat → Nat → String → State → State → Prop) (a : Array Value) (s : State) (free : Addr → Prop) : State → Prop := fun t =>
  ∃ o, t.status = .running ∧ Ended t below o ∧ a_Q Qc XC free a s o t
theorem a_ret {p : Program} {l : Launch} {e : Env} {R : Room} {s : State} {m : MethodId} {args : Array Value} {below : List Frame} {meth : Method} {c : Code} {H : Heap} {locs : List Loc} {cells slots uc us : Nat} {free : Addr → Prop} {Qc : Nat → Nat → Array Value → State → Outcome → State → Prop} {XC : Nat → Nat → String → State → State → Prop} {g : JFrame} (k : W p l e R s m args below meth c H locs cells slots (vx_MQ below (Qc uc us) (XC uc us) args s uc us free) g) : W p l e R s m args below meth c H locs cells slots (a_MQ below Qc XC args s free) g := by
  intro T hT X
  obtain ⟨t, a1, o, b1, b2, b3⟩ := k T hT X
  exact ⟨t, a1, o, b1, b2, uc, us, b3⟩
section ABodies
variable {l : Launch}
theorem a_ofW {y : MethodName} {ws ws' : List Cond} {rm : Room} {Pc : Array Value → State → Prop} {Qc : Nat → Nat → Array Value → State → Outcome → State → Prop} {XC : Nat → Nat → String → State → State → Prop} {free : Addr → Prop} {cc : ByteArray} {maxL : Nat} {ret : Option FieldType}
    (hy : plainName y.cls = true) (hw : ws = Cond.code y cc maxL ret :: ws')
    (body : ∀ p e s m args below meth c s₁, BodyLoose p l y (headSpec ws rm) cc maxL ret e s m args below meth c s₁ → c.maxLocals = maxL → (∀ x ∈ c.exceptionTable.toList, False) → Pc args s →
      W p l e (headSpec ws rm).room s m args below meth c s.heap [] 0 0 (a_MQ below Qc XC args s free) (entryFrame m args maxL)) : a_Met l y ws rm Pc Qc XC free := by
  refine MetFree.of_bodyS (code := cc) (maxLocals := maxL) (ret := ret) hy ?_ ?_
  · intro args s m h hn
    obtain ⟨meth, c, h1, h2, h3, h4, h5, h6, -, -⟩ := Cond.code_spec hn (atoms_spec (ws := ws) h _ (by rw [hw]; exact List.mem_cons_self))
    exact ⟨meth, c, h1, h2, h3, h4, h5, h6⟩
  · intro p e s m args below meth c s₁ B hml hP _
    have hh0 : s₁.heap = s.heap := by rw [B.state]; rfl
    have ht : ∀ x ∈ c.exceptionTable.toList, False := by
      obtain ⟨meth9, c9, h1, h2, -, -, -, -, h7, -⟩ := Cond.code_spec B.named (atoms_spec (ws := ws) B.pre _ (by rw [hw]; exact List.mem_cons_self))
      cases Option.some.inj (h1.symm.trans B.method)
      cases Option.some.inj (h2.symm.trans (Stand.of_body B).code)
      intro x hx
      rw [Array.isEmpty_iff.mp h7] at hx
      cases hx
    obtain ⟨t, a1, o, b1, b2, b3⟩ := body p e s m args below meth c s₁ B hml ht hP s₁ hh0 (Stand.of_body B)
    exact ⟨t, o, a1, b1, b2, b3⟩
end ABodies
theorem a_ofWH {l : Launch} {y : MethodName} {ws ws' : List Cond} {rm : Room} {Pc : Array Value → State → Prop} {Qc : Nat → Nat → Array Value → State → Outcome → State → Prop} {XC : Nat → Nat → String → State → State → Prop} {free : Addr → Prop} {cc : ByteArray} {maxL : Nat} {ret : Option FieldType} {hh : List (Nat × Nat × Nat × Nat)}
    (hy : plainName y.cls = true) (hw : ws = Cond.codeWith y cc maxL ret hh :: ws')
    (body : ∀ p e s m args below meth c s₁, BodyLoose p l y (headSpec ws rm) cc maxL ret e s m args below meth c s₁ → c.maxLocals = maxL → Pc args s →
      W p l e (headSpec ws rm).room s m args below meth c s.heap [] 0 0 (a_MQ below Qc XC args s free) (entryFrame m args maxL)) : a_Met l y ws rm Pc Qc XC free := by
  refine MetFree.of_bodyS (code := cc) (maxLocals := maxL) (ret := ret) hy ?_ ?_
  · intro args s m h hn
    obtain ⟨m9, meth, c, hn9, h1, h2, h3, h4, -, h5, h6, -⟩ := Cond.codeWith_spec (atoms_spec (ws := ws) h _ (by rw [hw]; exact List.mem_cons_self))
    cases hn.symm.trans hn9
    exact ⟨meth, c, h1, h2, h3, h4, h5, h6⟩
  · intro p e s m args below meth c s₁ B hml hP _
    have hh0 : s₁.heap = s.heap := by rw [B.state]; rfl
    obtain ⟨t, a1, o, b1, b2, b3⟩ := body p e s m args below meth c s₁ B hml hP s₁ hh0 (Stand.of_body B)
    exact ⟨t, o, a1, b1, b2, b3⟩
def a_Qc (D : va_G) (cy : Nat → ClassId) (B : Nat) (post : Option Value → b_M → Nat → Nat → Nat → Prop) : Nat → Nat → Array Value → State → Outcome → State → Prop := fun uc us => b_Qc D cy B (fun r S z => post r S z uc us)
def a_Xc (D : va_G) (cy : Nat → ClassId) (B : Nat) (px : String → b_M → Nat → Nat → Nat → Prop) : Nat → Nat → String → State → State → Prop := fun uc us => b_Xc D cy B (fun E S z => px E S z uc us)
def a_C (kn : Nat → Nat) (B : Nat) (y : MethodName) (bytes : ByteArray) (maxL : Nat) (ret : Option FieldType) (fr lo mc ms : Nat) (as : List Value) (S : b_M) (z : Nat) (post : Option Value → b_M → Nat → Nat → Nat → Prop) (px : String → b_M → Nat → Nat → Nat → Prop) : Prop :=
  ∀ (l : Launch) (D : va_G) (cy : Nat → ClassId), l.stackTraces = false → a_Met l y (b_W y bytes maxL ret) { frames := fr, cells := mc, slots := ms, locals := lo } (b_Pc kn D cy B as S z) (a_Qc D cy B post) (a_Xc D cy B px) (fun q => B ≤ q)
def a_End (X : b_T) (ret : Option FieldType) (post : Option Value → b_M → Nat → Nat → Nat → Prop) (px : String → b_M → Nat → Nat → Nat → Prop) : Prop := match X with
  | (p, l, e, R, s, m, args, below, meth, c, Q, D, cy, kn, B, nL) => Q = a_MQ below (a_Qc D cy B post) (a_Xc D cy B px) args s (fun q => B ≤ q) ∧ meth.sig.returnType = ret ∧ meth.locks = false ∧ ∀ x ∈ c.exceptionTable.toList, False
def a_CW (kn : Nat → Nat) (B : Nat) (y : MethodName) (bytes : ByteArray) (maxL : Nat) (ret : Option FieldType) (hh : List (Nat × Nat × Nat × Nat)) (fr lo mc ms : Nat) (as : List Value) (S : b_M) (z : Nat) (post : Option Value → b_M → Nat → Nat → Nat → Prop) (px : String → b_M → Nat → Nat → Nat → Prop) : Prop :=
  ∀ (l : Launch) (D : va_G) (cy : Nat → ClassId), l.stackTraces = false → a_Met l y (b_WW y bytes maxL ret hh) { frames := fr, cells := mc, slots := ms, locals := lo } (b_Pc kn D cy B as S z) (a_Qc D cy B post) (a_Xc D cy B px) (fun q => B ≤ q)
def a_EndW (X : b_T) (ret : Option FieldType) (post : Option Value → b_M → Nat → Nat → Nat → Prop) (px : String → b_M → Nat → Nat → Nat → Prop) (tab : List ExceptionTableEntry) : Prop := match X with
  | (p, l, e, R, s, m, args, below, meth, c, Q, D, cy, kn, B, nL) => Q = a_MQ below (a_Qc D cy B post) (a_Xc D cy B px) args s (fun q => B ≤ q) ∧ meth.sig.returnType = ret ∧ meth.locks = false ∧ c.exceptionTable.toList = tab
theorem a_enter {kn : Nat → Nat} {B : Nat} {y : MethodName} {bytes : ByteArray} {maxL : Nat} {ret : Option FieldType} {fr lo mc ms : Nat} {as : List Value} {S : b_M} {z : Nat} {post : Option Value → b_M → Nat → Nat → Nat → Prop} {px : String → b_M → Nat → Nat → Nat → Prop} (hy : plainName y.cls = true) (hlen : (lg_sl as).length ≤ maxL)
    (body : ∀ X : b_T, b_X X bytes y.cls fr lo mc ms → a_End X ret post px → b_n X = maxL → b_kn X = kn → b_B X = B → (y.name = "<init>" → b_I X) → b_V X S z 0 0 0 (lv_args 0 as) []) : a_C kn B y bytes maxL ret fr lo mc ms as S z post px := by
  intro l D cy hl
  refine a_ofW (cc := bytes) (maxL := maxL) (ret := ret) (ws := b_W y bytes maxL ret) hy rfl ?_
  intro p e s m args below meth c s₁ Bd hml ht hP
  obtain ⟨rfl, hR, hG⟩ := hP
  have hts := atoms_spec (ws := b_W y bytes maxL ret) Bd.pre
  have hown : s.vm.findClass y.cls = some m.cls := findClass_of_methodNamed Bd.named
  have h1 := body (p, l, e, { frames := fr, cells := mc, slots := ms, locals := lo }, s, m, as.toArray, below, meth, c, a_MQ below (a_Qc D cy B post) (a_Xc D cy B px) as.toArray s (fun q => B ≤ q), D, cy, kn, B, maxL)
    ⟨Bd.exec, Bd.bytes, hml, hown, fun w hw => hts w (List.mem_cons_of_mem _ hw), hG, rfl, hl⟩ ⟨rfl, Bd.returns, Bd.notSynchronized, ht⟩ rfl rfl rfl (fun hn => (name_of_methodNamed Bd.named Bd.method).1.trans hn)
  rw [lg_entry_eq]
  exact h1 s.heap [] _ hR va_S.rf (lv_entry as hlen)
theorem a_enterW {kn : Nat → Nat} {B : Nat} {y : MethodName} {bytes : ByteArray} {maxL : Nat} {ret : Option FieldType} {hh : List (Nat × Nat × Nat × Nat)} {fr lo mc ms : Nat} {as : List Value} {S : b_M} {z : Nat} {post : Option Value → b_M → Nat → Nat → Nat → Prop} {px : String → b_M → Nat → Nat → Nat → Prop} (hy : plainName y.cls = true) (hlen : (lg_sl as).length ≤ maxL)
    (body : ∀ X : b_T, b_X X bytes y.cls fr lo mc ms → a_EndW X ret post px (tableOf hh) → b_n X = maxL → b_kn X = kn → b_B X = B → b_V X S z 0 0 0 (lv_args 0 as) []) : a_CW kn B y bytes maxL ret hh fr lo mc ms as S z post px := by
  intro l D cy hl
  refine a_ofWH (cc := bytes) (maxL := maxL) (ret := ret) (hh := hh) (ws := b_WW y bytes maxL ret hh) hy rfl ?_
  intro p e s m args below meth c s₁ Bd hml hP
  obtain ⟨rfl, hR, hG⟩ := hP
  have hts := atoms_spec (ws := b_WW y bytes maxL ret hh) Bd.pre
  have hown : s.vm.findClass y.cls = some m.cls := findClass_of_methodNamed Bd.named
  have htab := vx_table (x := y) Bd (hts _ List.mem_cons_self)
  have h1 := body (p, l, e, { frames := fr, cells := mc, slots := ms, locals := lo }, s, m, as.toArray, below, meth, c, a_MQ below (a_Qc D cy B post) (a_Xc D cy B px) as.toArray s (fun q => B ≤ q), D, cy, kn, B, maxL)
    ⟨Bd.exec, Bd.bytes, hml, hown, fun w hw => hts w (List.mem_cons_of_mem _ hw), hG, rfl, hl⟩ ⟨rfl, Bd.returns, Bd.notSynchronized, htab⟩ rfl rfl rfl
  rw [lg_entry_eq]
  exact h1 s.heap [] _ hR va_S.rf (lv_entry as hlen)
section ACALL
variable {X : b_T} {cc : ByteArray} {own : String} {fr lo mc ms : Nat} {S : b_M} {z ce sl pc : Nat} {lv : List (Nat × Value)} {st : List Value}
variable {post : Option Value → b_M → Nat → Nat → Nat → Prop} {px : String → b_M → Nat → Nat → Nat → Prop}
theorem w_ireturn (hX : b_X X cc own fr lo mc ms) {v : Int32} (hE : a_End X (some .int) post px) (d : decode cc pc = .ok (.ireturn, 1)) (hp : post (some (.int v)) S z ce sl) : b_V X S z ce sl pc lv [.int v] := by
  obtain ⟨p, l, e, R, s, m, args, below, meth, c, Q, D, cy, kn, B, nL⟩ := X
  intro H locs ls hR hS hl
  obtain ⟨rfl, hr, hlocks, htb⟩ := hE
  refine a_ret (uc := ce) (us := sl) (vx_ret ?_)
  exact W.iret hX.1 hX.2.1 hr (fun t ht hW => ⟨(some (.int v)), S, z, rfl, hp, by rw [ht]; exact hR, hS.F ht⟩) hS.2.2 d
theorem w_zreturn (hX : b_X X cc own fr lo mc ms) {v : Int32} {ty : FieldType} (hn : narrow ty (.int v) = .int v) (hE : a_End X (some ty) post px) (d : decode cc pc = .ok (.ireturn, 1)) (hp : post (some (.int v)) S z ce sl) : b_V X S z ce sl pc lv [.int v] := by
  obtain ⟨p, l, e, R, s, m, args, below, meth, c, Q, D, cy, kn, B, nL⟩ := X
  intro H locs ls hR hS hl
  obtain ⟨rfl, hr, hlocks, htb⟩ := hE
  refine a_ret (uc := ce) (us := sl) (vx_ret ?_)
  exact W.zret hX.1 hX.2.1 hr hn (fun t ht hW => ⟨(some (.int v)), S, z, rfl, hp, by rw [ht]; exact hR, hS.F ht⟩) hS.2.2 d
theorem w_return (hX : b_X X cc own fr lo mc ms) (hE : a_End X (none) post px) (d : decode cc pc = .ok (.return_, 1)) (hp : post none S z ce sl) : b_V X S z ce sl pc lv [] := by
  obtain ⟨p, l, e, R, s, m, args, below, meth, c, Q, D, cy, kn, B, nL⟩ := X
  intro H locs ls hR hS hl
  obtain ⟨rfl, hr, hlocks, htb⟩ := hE
  refine a_ret (uc := ce) (us := sl) (vx_ret ?_)
  exact W.vret hX.1 hX.2.1 hr (fun t ht hW => ⟨none, S, z, rfl, hp, by rw [ht]; exact hR, hS.F ht⟩) hS.2.2 d
theorem w_ireturnW (hX : b_X X cc own fr lo mc ms) {v : Int32} {tab : List ExceptionTableEntry} (hE : a_EndW X (some .int) post px tab) (d : decode cc pc = .ok (.ireturn, 1)) (hp : post (some (.int v)) S z ce sl) : b_V X S z ce sl pc lv [.int v] := by
  obtain ⟨p, l, e, R, s, m, args, below, meth, c, Q, D, cy, kn, B, nL⟩ := X
  intro H locs ls hR hS hl
  obtain ⟨rfl, hr, hlocks, htb⟩ := hE
  refine a_ret (uc := ce) (us := sl) (vx_ret ?_)
  exact W.iret hX.1 hX.2.1 hr (fun t ht hW => ⟨(some (.int v)), S, z, rfl, hp, by rw [ht]; exact hR, hS.F ht⟩) hS.2.2 d
theorem a_call {p : Program} {l : Launch} {e : Env} {R : Room} {s : State} {m : MethodId} {args : Array Value} {below : List Frame} {meth : Method} {c : Code} {H : Heap} {locs : List Loc} {cells slots : Nat} {Q : State → Prop} {D : va_G} {cy : Nat → ClassId} {B : Nat} {a : Array Value} {ls : Array Slot} {st0 rest : List Value}
    (hr : a_Run p l e R s m args below meth c H locs cells slots (F0 m pc ls st0) rest (fun uc us => a_Qc D cy B post uc us a) (a_Xc D cy B px) (fun q => B ≤ q)) (hS : va_S (fun q => B ≤ q) s.heap H locs)
    (kk : ∀ (r : Option Value) (S : b_M) (z : Nat) (uc us : Nat) (H1 : Heap) (locs1 : List Loc), post r S z uc us → b_R D cy B S z H1 → va_S (fun q => B ≤ q) s.heap H1 locs1 → W p l e R s m args below meth c H1 locs1 (cells + uc) (slots + us) Q (F0 m (pc + 3) ls (r.toList ++ rest)))
    (kx : ∀ (E : String) (S : b_M) (z : Nat) (q : Addr) (ce : Cell) (uc us : Nat) (H1 : Heap) (locs1 : List Loc), px E S z uc us → b_R D cy B S z H1 → va_S (fun q => B ≤ q) s.heap H1 locs1 → H1[q]? = some ce → ce.vm = .none → s.vm.findClass E = some ce.cls → vx_W p l e R s m args below meth c H1 locs1 (cells + uc) (slots + us) Q (F0 m pc ls rest) q) :
    W p l e R s m args below meth c H locs cells slots Q (F0 m pc ls st0) := by
  intro T hT X
  obtain ⟨uc, us, hr1⟩ := hr T hT X
  rcases hr1 with ⟨v, st₀, t, T', L, h0, X', hL, e1, e2, ⟨r, S1, z1, hv, hp, hb, hF⟩, st⟩ | ⟨q, st₀, t, T', L, E, ce, h0, X', hL, e1, e2, ⟨S1, z1, hp, hb, hF⟩, hce, hcv, hcl, st⟩
  · have hv : v = r := Outcome.returned.inj hv
    subst hv
    obtain ⟨-, -, k3⟩ := vx_keep h0 e1 hS (fun _ _ h => h) (fun _ h => h) hL hF
    obtain ⟨t2, a1, b1⟩ := kk v S1 z1 uc us T'.heap (locs ++ L) hp (by rw [e1]; exact hb) k3 T' rfl X'
    exact ⟨t2, st t2 a1, b1⟩
  · obtain ⟨-, -, k3⟩ := vx_keep h0 e1 hS (fun _ _ h => h) (fun _ h => h) hL hF
    obtain ⟨t2, a1, b1⟩ := kx E S1 z1 q ce uc us T'.heap (locs ++ L) hp (by rw [e1]; exact hb) k3 (by rw [e1]; exact hce) hcv hcl T' rfl X'
    exact ⟨t2, st.trans a1, b1⟩
theorem w_callV (hX : b_X X cc own fr lo mc ms) {y : MethodName} {bytes : ByteArray} {maxL : Nat} {ret : Option FieldType} {fr1 lo1 mc1 ms1 a ci idx n : Nat} {As : List Value} {Tf : u_T} {N : Nat} (hM : a_C (b_kn X) (b_B X) y bytes maxL ret fr1 lo1 mc1 ms1 (.ref a :: As) S z post px) (hk : m_K S a = ci) (hc : vwCl[ci]? = some (y.cls, Tf, N)) (hci : ci < 12)
    (w1 : Cond.methodLink own idx y ∈ b_Ws) (w2 : Cond.instanceMethod y ∈ b_Ws) (w3 : Cond.selects y.cls y y ∈ b_Ws) (w4 : Cond.initialized y.cls ∈ b_Ws) (w5 : Cond.code y bytes maxL ret ∈ b_Ws)
    (hd : y.cls ≠ "java/lang/invoke/MethodHandle" ∧ y.cls ≠ "java/lang/invoke/VarHandle" ∧ (parseMethodDescriptor y.desc).map (fun d => d.parameters.length) = some n) (hn : As.length = n) (hroom : fr1 + 1 ≤ fr ∧ 8 + (maxL + 11) + lo1 ≤ lo) (hf : ce + mc1 ≤ mc ∧ sl + ms1 ≤ ms) (hW : (st.map fun v => v.category).sum ≤ 8) {st0 : List Value} (hst : st0 = As.reverse ++ .ref a :: st) (d : decode cc pc = .ok (.invokevirtual idx, 3))
    (kx : ∀ E S z uc us, px E S z uc us → False) (kk : ∀ r S z uc us, post r S z uc us → b_V X S z (ce + uc) (sl + us) (pc + 3) lv (r.toList ++ st)) : b_V X S z ce sl pc lv st0 := by
  obtain ⟨p, l, e, R, s, m, args, below, meth, c, Q, D, cy, kn, B, nL⟩ := X
  intro H locs ls hR hS hl
  obtain ⟨hx, hb, hml, hown, hts, hG, hR0, hst0⟩ := hX
  subst hR0
  have hw : ∀ w ∈ wsV own idx y.cls y (b_W y bytes maxL ret), w ∈ b_Ws ∧ ((w.onTables && w.keeps) = true ∨ ∃ ty, w = .arrayClass ty) := fun w h => by
    have h9 : w ∈ b_Ws := by
      unfold wsV at h
      simp only [List.mem_append, List.mem_cons, List.not_mem_nil, or_false] at h
      rcases h with (h | h | h | h) | h | h
      · rw [h]; exact w1
      · rw [h]; exact w2
      · rw [h]; exact w3
      · rw [h]; exact w4
      · rw [h]; exact w5
      · exact h
    exact ⟨h9, good_of_word (List.mem_filter.mp h9).2⟩
  refine a_call (a_runV (As := As) (rest := st) (g := F0 m pc ls st0) ⟨hx, hb, hml, hown, hts⟩ (hM l D cy hst0) (cwV n hts hw rfl rfl rfl ⟨rfl, hd⟩ hroom) ⟨b_blind, b_recv hG.1 hR hk hci hc, fun U hU hWm => ⟨rfl, by rw [hU]; exact hR, hG.at hS hU hWm⟩⟩ rfl hn hl.1 hst (lv_room hW) d hf) hS ?_ ?_
  · intro r S1 z1 uc us H1 locs1 hp hR1 hS1
    exact kk r S1 z1 uc us hp H1 locs1 ls hR1 hS1 hl
  · intro E S1 z1 q ce1 uc us H1 locs1 hp
    exact (kx E S1 z1 uc us hp).elim
theorem w_callVX (hX : b_X X cc own fr lo mc ms) {y : MethodName} {bytes : ByteArray} {maxL : Nat} {ret : Option FieldType} {fr1 lo1 mc1 ms1 a ci idx n : Nat} {As : List Value} {Tf : u_T} {N : Nat} (hM : a_C (b_kn X) (b_B X) y bytes maxL ret fr1 lo1 mc1 ms1 (.ref a :: As) S z post px) (hk : m_K S a = ci) (hc : vwCl[ci]? = some (y.cls, Tf, N)) (hci : ci < 12)
    (w1 : Cond.methodLink own idx y ∈ b_Ws) (w2 : Cond.instanceMethod y ∈ b_Ws) (w3 : Cond.selects y.cls y y ∈ b_Ws) (w4 : Cond.initialized y.cls ∈ b_Ws) (w5 : Cond.code y bytes maxL ret ∈ b_Ws)
    (hd : y.cls ≠ "java/lang/invoke/MethodHandle" ∧ y.cls ≠ "java/lang/invoke/VarHandle" ∧ (parseMethodDescriptor y.desc).map (fun d => d.parameters.length) = some n) (hn : As.length = n) (hroom : fr1 + 1 ≤ fr ∧ 8 + (maxL + 11) + lo1 ≤ lo) (hf : ce + mc1 ≤ mc ∧ sl + ms1 ≤ ms) (hW : (st.map fun v => v.category).sum ≤ 8) {st0 : List Value} (hst : st0 = As.reverse ++ .ref a :: st) (d : decode cc pc = .ok (.invokevirtual idx, 3))
    (kx : ∀ E S z q uc us, px E S z uc us → b_VX X E S z (ce + uc) (sl + us) pc lv st q) (kk : ∀ r S z uc us, post r S z uc us → b_V X S z (ce + uc) (sl + us) (pc + 3) lv (r.toList ++ st)) : b_V X S z ce sl pc lv st0 := by
  obtain ⟨p, l, e, R, s, m, args, below, meth, c, Q, D, cy, kn, B, nL⟩ := X
  intro H locs ls hR hS hl
  obtain ⟨hx, hb, hml, hown, hts, hG, hR0, hst0⟩ := hX
  subst hR0
  have hw : ∀ w ∈ wsV own idx y.cls y (b_W y bytes maxL ret), w ∈ b_Ws ∧ ((w.onTables && w.keeps) = true ∨ ∃ ty, w = .arrayClass ty) := fun w h => by
    have h9 : w ∈ b_Ws := by
      unfold wsV at h
      simp only [List.mem_append, List.mem_cons, List.not_mem_nil, or_false] at h
      rcases h with (h | h | h | h) | h | h
      · rw [h]; exact w1
      · rw [h]; exact w2
      · rw [h]; exact w3
      · rw [h]; exact w4
      · rw [h]; exact w5
      · exact h
    exact ⟨h9, good_of_word (List.mem_filter.mp h9).2⟩
  refine a_call (a_runV (As := As) (rest := st) (g := F0 m pc ls st0) ⟨hx, hb, hml, hown, hts⟩ (hM l D cy hst0) (cwV n hts hw rfl rfl rfl ⟨rfl, hd⟩ hroom) ⟨b_blind, b_recv hG.1 hR hk hci hc, fun U hU hWm => ⟨rfl, by rw [hU]; exact hR, hG.at hS hU hWm⟩⟩ rfl hn hl.1 hst (lv_room hW) d hf) hS ?_ ?_
  · intro r S1 z1 uc us H1 locs1 hp hR1 hS1
    exact kk r S1 z1 uc us hp H1 locs1 ls hR1 hS1 hl
  · intro E S1 z1 q ce1 uc us H1 locs1 hp hR1 hS1 hcell hv hcl
    exact kx E S1 z1 q uc us hp H1 locs1 ls ce1 hR1 hS1 hl hcell hv hcl
theorem w_callSW (hX : b_X X cc own fr lo mc ms) {y : MethodName} {bytes : ByteArray} {maxL : Nat} {ret : Option FieldType} {hh : List (Nat × Nat × Nat × Nat)} {fr1 lo1 mc1 ms1 idx n : Nat} {As : List Value} (hM : a_CW (b_kn X) (b_B X) y bytes maxL ret hh fr1 lo1 mc1 ms1 As S z post px)
    (w1 : Cond.methodLink own idx y ∈ b_Ws) (w2 : Cond.static y ∈ b_Ws) (w4 : Cond.initialized y.cls ∈ b_Ws) (w5 : Cond.codeWith y bytes maxL ret hh ∈ b_Ws)
    (hd : y.cls ≠ "java/lang/invoke/MethodHandle" ∧ y.cls ≠ "java/lang/invoke/VarHandle" ∧ (parseMethodDescriptor y.desc).map (fun d => d.parameters.length) = some n) (hn : As.length = n) (hroom : fr1 + 1 ≤ fr ∧ 8 + (maxL + 11) + lo1 ≤ lo) (hf : ce + mc1 ≤ mc ∧ sl + ms1 ≤ ms) (hW : (st.map fun v => v.category).sum ≤ 8) {st0 : List Value} (hst : st0 = As.reverse ++ st) (d : decode cc pc = .ok (.invokestatic idx, 3))
    (kx : ∀ E S z uc us, px E S z uc us → False) (kk : ∀ r S z uc us, post r S z uc us → b_V X S z (ce + uc) (sl + us) (pc + 3) lv (r.toList ++ st)) : b_V X S z ce sl pc lv st0 := by
  obtain ⟨p, l, e, R, s, m, args, below, meth, c, Q, D, cy, kn, B, nL⟩ := X
  intro H locs ls hR hS hl
  obtain ⟨hx, hb, hml, hown, hts, hG, hR0, hst0⟩ := hX
  subst hR0
  have hw : ∀ w ∈ va_wsS own idx y (b_WW y bytes maxL ret hh), w ∈ b_Ws ∧ ((w.onTables && w.keeps) = true ∨ ∃ ty, w = .arrayClass ty) := fun w h => by
    have h9 : w ∈ b_Ws := by
      unfold va_wsS at h
      simp only [List.mem_append, List.mem_cons, List.not_mem_nil, or_false] at h
      rcases h with (h | h | h) | h | h
      · rw [h]; exact w1
      · rw [h]; exact w2
      · rw [h]; exact w4
      · rw [h]; exact w5
      · exact h
    exact ⟨h9, good_of_word (List.mem_filter.mp h9).2⟩
  refine a_call (a_runSX (As := As) (rest := st) (g := F0 m pc ls st0) ⟨hx, hb, hml, hown, hts⟩ (hM l D cy hst0) (vx_cwSW n hts hw rfl rfl rfl hd hroom) ⟨b_blind, fun U hU hWm => ⟨rfl, by rw [hU]; exact hR, hG.at hS hU hWm⟩⟩ rfl hn hl.1 hst (lv_room hW) d hf) hS ?_ ?_
  · intro r S1 z1 uc us H1 locs1 hp hR1 hS1
    exact kk r S1 z1 uc us hp H1 locs1 ls hR1 hS1 hl
  · intro E S1 z1 q ce1 uc us H1 locs1 hp
    exact (kx E S1 z1 uc us hp).elim
theorem w_catch (hX : b_X X cc own fr lo mc ms) {ret : Option FieldType} {tab : List ExceptionTableEntry} (hE : a_EndW X ret post px tab) {E name : String} {q : Nat} (pre : List ExceptionTableEntry) (x : ExceptionTableEntry) (suf : List ExceptionTableEntry) (hsplit : tab = pre ++ x :: suf) (hpass : ∀ y ∈ pre, covers y pc = true ∧ y.catchType ≠ 0 ∧ ∃ nm : String, Cond.classLink own y.catchType nm ∈ b_Ws ∧ (E, nm) ∈ b_Nc) (hx : covers x pc = true) (h0 : x.catchType ≠ 0) (hlink : Cond.classLink own x.catchType name ∈ b_Ws) (hcast : (E, name) ∈ b_Cast) (kk : b_V X S z ce sl x.handlerPc lv [.ref q]) : b_VX X E S z ce sl pc lv st q := by
  obtain ⟨p, l, e, R, s, m, args, below, meth, c, Q, D, cy, kn, B, nL⟩ := X
  intro H locs ls cell hR hS hl hcell hv hcl
  obtain ⟨hx0, hb, hml, hown, hts, hG, hR0, hst0⟩ := hX
  obtain ⟨rfl, hr, hlocks, htb⟩ := hE
  exact b_catch hown pre x suf (htb.trans hsplit) (fun y hy => by
    obtain ⟨a1, a2, nm, a3, a4⟩ := hpass y hy
    exact ⟨a1, a2, nm, hts _ a3, hG.2.2.2.2.2.2.2.2 _ a4⟩) hx h0 (hts _ hlink) (va_Nw.use rfl (hG.2.2.2.2.1 _ hcast)) hcell hv hcl (kk H locs ls hR hS hl)
theorem w_throw (hX : b_X X cc own fr lo mc ms) {ret : Option FieldType} (hE : a_End X ret post px) {ik is ic : Nat} {cls text : String} (hcls : Bundle.fit cls = true) (hk : Cond.classLink own ik cls ∈ b_Ws) (hini : Cond.initialized cls ∈ b_Ws) (hstr : (own, is, text) ∈ b_Str) (hca : (cls, cls) ∈ b_Cast)
    (hat : ∀ w ∈ (vx_atS own ic cls ["java/lang/RuntimeException", "java/lang/Exception"]).filter goodWord, w ∈ b_Ws) (hat2 : ∀ w ∈ (vx_atS own ic cls ["java/lang/RuntimeException", "java/lang/Exception"]).filter (fun w => !goodWord w), w ∈ b_Xw cls)
    (hgood : ∀ w ∈ Cond.classLink own ik cls :: Cond.initialized cls :: vx_atS own ic cls ["java/lang/RuntimeException", "java/lang/Exception"], vx_ot w = true)
    (d0 : decode cc pc = .ok (.new ik, 3)) (d3 : decode cc (pc + 3) = .ok (.dup, 1)) (d4 : decode cc (pc + 4) = .ok (.ldc is, 2)) (d6 : decode cc (pc + 6) = .ok (.invokespecial ic, 3)) (d9 : decode cc (pc + 9) = .ok (.athrow, 1))
    (hfr : 5 < fr) (hlo : (st.map fun v => v.category).sum + 82 ≤ lo) (hce : ce + 1 ≤ mc) (hsl : sl + 6 ≤ ms) (hp : ∀ z', z ≤ z' → px cls S z' (ce + 1) (sl + 6)) : b_V X S z ce sl pc lv st := by
  obtain ⟨p, l, e, R, s, m, args, below, meth, c, Q, D, cy, kn, B, nL⟩ := X
  intro H locs ls hR hS hl
  obtain ⟨hx, hb, hml, hown, hts, hG, hR0, hst0⟩ := hX
  obtain ⟨rfl, hr, hlocks, htb⟩ := hE
  subst hR0
  obtain ⟨hK, hB, ⟨hZ1, hZ2, hZ3, hZ4⟩, hNe, hCa, hDe, hSt, hOv⟩ := hG
  obtain ⟨sa, hsa⟩ := hSt _ hstr
  refine a_ret (uc := ce + 1) (us := sl + 6) (vx_throwS hx hb hst0 (names := ["java/lang/RuntimeException", "java/lang/Exception"]) hown hcls (by decide +kernel) (hts _ hk) (hts _ hini) hsa (vx_hat (fun w hw => hts w (hat w hw)) hat2 ?_) hgood hZ2 hZ3 hS (hl.1.trans hml.symm) d0 d3 d4 d6 d9 (fun x hx => (htb x hx).elim) (by show 2 + 3 < fr; omega) (by show _ + (13 * (2 + 1) + 43) ≤ lo; omega) hce hsl hlocks ?_ hS.2.2 (Nat.le_refl _) (Nat.le_refl _))
  · intro w hw
    simp only [b_Xw, List.mem_cons, List.not_mem_nil, or_false] at hw
    rcases hw with h | h | h | h
    · rw [h]; exact va_Nw.use rfl (hCa _ hca)
    · rw [h]; exact va_Nw.use rfl (hDe _ (by simp [b_Decl]))
    · rw [h]; exact va_Nw.use rfl (hDe _ (by simp [b_Decl]))
    · rw [h]; exact va_Nw.use rfl (hDe _ (by simp [b_Decl]))
  · intro t hvm hz hk9
    refine ⟨S, t.heap.size, hp _ (by rw [← hR.1]; exact hz), ⟨rfl, fun a ha => ?_⟩, Nat.le_trans hS.1 hz, fun q h1 h2 => (hk9 q (Nat.lt_of_lt_of_le h1 hS.1)).trans (hS.2.1 q h1 h2)⟩
    obtain ⟨g1, g2⟩ := hR.2 a ha
    exact ⟨g1, g2.kept (hk9 a g2.lt) rfl (fun _ => rfl) (fun _ => rfl) (fun _ => rfl) rfl (fun _ => rfl) (fun _ => rfl) (fun _ => rfl)⟩
end ACALL
theorem b_C.acc {kn : Nat → Nat} {B : Nat} {y : MethodName} {bytes : ByteArray} {maxL : Nat} {ret : Option FieldType} {fr lo mc ms : Nat} {as : List Value} {S : b_M} {z : Nat} {post : Option Value → b_M → Nat → Prop} {px : String → b_M → Nat → Prop} (h : b_C kn B y bytes maxL ret fr lo mc ms as S z post px) : a_C kn B y bytes maxL ret fr lo mc ms as S z (fun r S z uc us => post r S z ∧ uc = mc ∧ us = ms) (fun E S z uc us => px E S z ∧ uc = mc ∧ us = ms) := fun l D cy hl =>
  MetFree.mono (h l D cy hl) (fun _ _ h => h) (fun _ _ _ _ _ h => h) (fun a s o t _ hq => ⟨mc, ms, by
    rcases hq with ⟨⟨r, S1, z1, a1, a2, a3, a4⟩, a5⟩ | ⟨q, a1, E, ce, L, ⟨S1, z1, a2, a3, a4⟩, a5⟩
    · exact Or.inl ⟨⟨r, S1, z1, a1, ⟨a2, rfl, rfl⟩, a3, a4⟩, a5⟩
    · exact Or.inr ⟨q, a1, E, ce, L, ⟨S1, z1, ⟨a2, rfl, rfl⟩, a3, a4⟩, a5⟩⟩)
theorem a_C.mono {kn : Nat → Nat} {B : Nat} {y : MethodName} {bytes : ByteArray} {maxL : Nat} {ret : Option FieldType} {fr lo mc ms : Nat} {as : List Value} {S : b_M} {z : Nat} {post post' : Option Value → b_M → Nat → Nat → Nat → Prop} {px px' : String → b_M → Nat → Nat → Nat → Prop} (h : a_C kn B y bytes maxL ret fr lo mc ms as S z post px) (h1 : ∀ r S z c s, post r S z c s → post' r S z c s) (h2 : ∀ E S z c s, px E S z c s → px' E S z c s) : a_C kn B y bytes maxL ret fr lo mc ms as S z post' px' := fun l D cy hl =>
  MetFree.mono (h l D cy hl) (fun _ _ h => h) (fun _ _ _ _ _ h => h) (fun a s o t _ hq => by
    obtain ⟨uc, us, hq⟩ := hq
    refine ⟨uc, us, ?_⟩
    rcases hq with ⟨⟨r, S1, z1, a1, a2, a3, a4⟩, a5⟩ | ⟨q, a1, E, ce, L, ⟨S1, z1, a2, a3, a4⟩, a5⟩
    · exact Or.inl ⟨⟨r, S1, z1, a1, h1 _ _ _ _ _ a2, a3, a4⟩, a5⟩
    · exact Or.inr ⟨q, a1, E, ce, L, ⟨S1, z1, h2 _ _ _ _ _ a2, a3, a4⟩, a5⟩)
