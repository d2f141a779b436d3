/-! The layer: contracts of methods that may throw (gx_Met), a call's two ways on, catching and leaving; worlds as a function from addresses to cells (gx_H), so that a callee's world is its caller's. -/
/-- the end of an invocation, returned or thrown: warmer tables, the places L written, at most k new cells of n slots -/
def gx_End (st t : State) (L : List Loc) (k n : Nat) : Prop := st.WarmedH t.vm ∧ st.sameButNew ({ t with vm := st.vm } : State) L k n
/-- a contract whose outcome is either way -/
def gx_Met (l : Launch) (y : MethodName) (ws : List Cond) (rm : Room) (Pc : Array Value → State → Prop) (Qc : Array Value → State → Outcome → State → Prop) (mc ms : Nat) (free : Addr → Prop) : Prop :=
  MetFree l y (headSpec ws rm) Pc (fun _ _ _ _ _ => True) (fun a st o t => Qc a st o t ∧ ∃ L, gx_End st t L mc ms ∧ ∀ q ∈ L, free q.base)
def gx_MQ (below : List Frame) (Qc : Array Value → State → Outcome → State → Prop) (a : Array Value) (s : State) (mc ms : Nat) (free : Addr → Prop) : State → Prop := fun t =>
  ∃ o, t.status = .running ∧ Ended t below o ∧ Qc a s o t ∧ ∃ L, gx_End s t L mc ms ∧ ∀ q ∈ L, free q.base
section GX
variable {p : Program} {l : Launch} {e : Env} {R : Room} {s : State} {m : MethodId} {args : Array Value} {below : List Frame} {meth : Method} {c : Code} {H : Heap} {locs : List Loc} {cells slots : Nat} {Q : State → Prop}
theorem gx_mono {Q' : State → Prop} {g : JFrame} (h : ∀ t, Q' t → Q t) (k : W p l e R s m args below meth c H locs cells slots Q' g) : W p l e R s m args below meth c H locs cells slots Q g := by
  intro T hT X
  obtain ⟨t, a, b⟩ := k T hT X
  exact ⟨t, a, h t b⟩
theorem gx_MQ_of {Qc : Array Value → State → Outcome → State → Prop} {mc ms : Nat} {free : Addr → Prop} (t : State) (h : MQ below Qc args s mc ms free t) : gx_MQ below Qc args s mc ms free t := by
  obtain ⟨o, h1, h2, h3, L, hF, hL⟩ := h
  exact ⟨o, h1, h2, h3, L, ⟨hF.2.1, hF.2.2⟩, hL⟩
/-- a method without handlers -/
theorem gx_ofW {y : MethodName} {ws ws' : List Cond} {rm : Room} {Pc : Array Value → State → Prop} {Qc : Array Value → State → Outcome → State → Prop} {mc ms : Nat} {free : Addr → Prop} {cc : ByteArray} {maxL : Nat} {ret : Option FieldType}
    (hy : plainName y.cls = true) (hw : ws = Cond.code y cc maxL ret :: ws')
    (body : ∀ p e s m args below meth c s₁, BodyLoose p l y (headSpec ws rm) cc maxL ret e s m args below meth c s₁ → c.maxLocals = maxL → (∀ x ∈ c.exceptionTable.toList, ∀ pc, covers x pc = false) → Pc args s →
      W p l e rm s m args below meth c s.heap [] 0 0 (gx_MQ below Qc args s mc ms free) (entryFrame m args maxL)) : gx_Met l y ws rm Pc Qc mc ms free := by
  refine MetFree.of_bodyS (code := cc) (maxLocals := maxL) (ret := ret) hy ?_ ?_
  · intro args s m h hn
    obtain ⟨meth, c, h1, h2, h3, h4, h5, h6, -, -⟩ := Cond.code_spec hn (atoms_spec (ws := ws) h _ (by rw [hw]; exact List.mem_cons_self))
    exact ⟨meth, c, h1, h2, h3, h4, h5, h6⟩
  · intro p e s m args below meth c s₁ B hml hP _
    have hh0 : s₁.heap = s.heap := by rw [B.state]; rfl
    have hno : c.exceptionTable.isEmpty = true := B.noHandlers (atoms_spec (ws := ws) B.pre _ (by rw [hw]; exact List.mem_cons_self))
    have hno2 : ∀ x ∈ c.exceptionTable.toList, ∀ pc, covers x pc = false := by
      intro x hx
      have h0 : c.exceptionTable = #[] := by simpa using hno
      rw [h0] at hx
      exact absurd hx (by simp)
    obtain ⟨t, a1, o, b1, b2, b3⟩ := body p e s m args below meth c s₁ B hml hno2 hP s₁ hh0 (Stand.of_body B)
    exact ⟨t, o, a1, b1, b2, ⟨b3.1, b3.2⟩⟩
/-- a method with handlers -/
theorem gx_ofWh {y : MethodName} {ws ws' : List Cond} {rm : Room} {Pc : Array Value → State → Prop} {Qc : Array Value → State → Outcome → State → Prop} {mc ms : Nat} {free : Addr → Prop} {cc : ByteArray} {maxL : Nat} {ret : Option FieldType} {hs : List (Nat × Nat × Nat × Nat)}
    (hy : plainName y.cls = true) (hw : ws = Cond.codeWith y cc maxL ret hs :: ws')
    (body : ∀ p e s m args below meth c s₁, BodyLoose p l y (headSpec ws rm) cc maxL ret e s m args below meth c s₁ → c.maxLocals = maxL → c.exceptionTable.toList = tableOf hs → Pc args s →
      W p l e rm s m args below meth c s.heap [] 0 0 (gx_MQ below Qc args s mc ms free) (entryFrame m args maxL)) : gx_Met l y ws rm Pc Qc mc ms free := by
  refine MetFree.of_bodyS (code := cc) (maxLocals := maxL) (ret := ret) hy ?_ ?_
  · intro args s m h hn
    obtain ⟨m', meth, c, h0, h1, h2, h3, h4, -, h5, h6, -⟩ := Cond.codeWith_spec (atoms_spec (ws := ws) h _ (by rw [hw]; exact List.mem_cons_self))
    cases hn.symm.trans h0
    exact ⟨meth, c, h1, h2, h3, h4, h5, h6⟩
  · intro p e s m args below meth c s₁ B hml hP _
    have hh0 : s₁.heap = s.heap := by rw [B.state]; rfl
    obtain ⟨m', meth', c', h0, h1, h2, -, -, ht, -⟩ := Cond.codeWith_spec (atoms_spec (ws := ws) B.pre _ (by rw [hw]; exact List.mem_cons_self))
    cases B.named.symm.trans h0
    cases B.method.symm.trans h1
    cases (Stand.of_body B).code.symm.trans h2
    obtain ⟨t, a1, o, b1, b2, b3⟩ := body p e s m args below meth c s₁ B hml (by rw [← ht, table_eq]) hP s₁ hh0 (Stand.of_body B)
    exact ⟨t, o, a1, b1, b2, ⟨b3.1, b3.2⟩⟩
/-- the machine, the frame g on top and the object a being thrown over it -/
def gx_WT (p : Program) (l : Launch) (e : Env) (R : Room) (s : State) (m : MethodId) (args : Array Value) (below : List Frame) (meth : Method) (c : Code) (H : Heap) (locs : List Loc) (cells slots : Nat) (Q : State → Prop) (g : JFrame) (a : Addr) : Prop :=
  ∀ T : State, T.heap = H → Stand p l e R s m args below meth c T locs cells slots → ∃ t, Steps p.tables e below ((T.setTop g).pushFrame (.throwing a)) t ∧ Q t
/-- thrown out of the method -/
theorem gx_leave {Qc : Array Value → State → Outcome → State → Prop} {free : Addr → Prop} {a : Addr} {pc : Nat} {ls : Array Slot} {st : List Value} (hout : ∀ x ∈ c.exceptionTable.toList, covers x pc = false) (hlocks : meth.locks = false)
    (hq : ∀ t : State, t.heap = H → s.WarmedH t.vm → Qc args s (.threw a) t) (hf : ∀ q ∈ locs, free q.base) :
    gx_WT p l e R s m args below meth c H locs cells slots (gx_MQ below Qc args s cells slots free) (F0 m pc ls st) a := by
  intro T hT X
  obtain ⟨h1, h2, h3, h4, h5⟩ := X.leaveThrown a (g := F0 m pc ls st) rfl rfl rfl hout hlocks
  exact ⟨_, h1, .threw a, h2, h3, hq _ hT h4, locs, ⟨h4, h5⟩, hf⟩
/-- athrow, no handler there -/
theorem gx_athrow {cc : ByteArray} {Qc : Array Value → State → Outcome → State → Prop} {free : Addr → Prop} {a : Addr} {pc : Nat} {ls : Array Slot} {st : List Value} (hexec : p.tables.exec = Jvm.exec) (hb : c.code = cc) (hout : ∀ x ∈ c.exceptionTable.toList, covers x pc = false) (hlocks : meth.locks = false)
    (hdg : decode cc pc = .ok (.athrow, 1)) (hq : ∀ t : State, t.heap = H → s.WarmedH t.vm → Qc args s (.threw a) t) (hf : ∀ q ∈ locs, free q.base) :
    W p l e R s m args below meth c H locs cells slots (gx_MQ below Qc args s cells slots free) (F0 m pc ls (.ref a :: st)) := by
  intro T hT X
  subst hb
  obtain ⟨h1, h2, h3, h4, h5⟩ := X.athrowLeaves hexec (g := F0 m pc ls (.ref a :: st)) rfl rfl rfl hout rfl hdg hlocks
  exact ⟨_, h1, .threw a, h2, h3, hq _ hT h4, locs, ⟨h4, h5⟩, hf⟩
/-- caught in the method -/
theorem gx_catch {a : Addr} {pc pc' : Nat} {ls : Array Slot} {st : List Value} (hfind : ∀ T : State, T.heap = H → s.WarmedH T.vm → T.vm.method? m = some meth → meth.code = some c → Finds e ((T.setTop (F0 m pc ls st)).pushFrame (.throwing a)) (F0 m pc ls st) a (.found pc'))
    (k : W p l e R s m args below meth c H locs cells slots Q (F0 m pc' ls [.ref a])) : gx_WT p l e R s m args below meth c H locs cells slots Q (F0 m pc ls st) a := by
  intro T hT X
  obtain ⟨t, a1, b1⟩ := k T hT X
  exact ⟨t, X.catchAt a (g := F0 m pc ls st) rfl (hfind T hT X.warmed X.method' X.code) a1, b1⟩
/-- what a call comes to -/
def gx_Run (p : Program) (l : Launch) (e : Env) (R : Room) (s : State) (m : MethodId) (args : Array Value) (below : List Frame) (meth : Method) (c : Code) (H : Heap) (locs : List Loc) (cells slots mc ms : Nat) (g : JFrame) (rest : List Value) (Qa : State → Outcome → State → Prop) (free : Addr → Prop) : Prop :=
  ∀ T : State, T.heap = H → Stand p l e R s m args below meth c T locs cells slots → ∃ (o : Outcome) (st₀ t T' : State) (L : List Loc), st₀.heap = H ∧ s.WarmedH st₀.vm ∧ Stand p l e R s m args below meth c T' (locs ++ L) (cells + mc) (slots + ms) ∧ (∀ q ∈ L, free q.base) ∧ T'.heap = t.heap ∧ T'.vm = t.vm ∧ Qa st₀ o t ∧
    match o with
    | .returned v => ∀ tg, Steps p.tables e below (T'.setTop { g with pc := g.pc + 3, stack := v.toList ++ rest }) tg → Steps p.tables e below (T.setTop g) tg
    | .threw x => ∀ tg, Steps p.tables e below ((T'.setTop { g with stack := rest }).pushFrame (.throwing x)) tg → Steps p.tables e below (T.setTop g) tg
end GX
section GY
variable {p : Program} {l : Launch} {e : Env} {R : Room} {s : State} {m : MethodId} {args : Array Value} {below : List Frame} {meth : Method} {c : Code} {locs : List Loc} {cells slots : Nat} {T : State}
theorem gx_back (X : Stand p l e R s m args below meth c T locs cells slots) {y : MethodName} {ws : List Cond} {rm : Room} {Pc : Array Value → State → Prop} {Qc : Array Value → State → Outcome → State → Prop} {mc ms : Nat} {free : Addr → Prop}
    (hM : gx_Met l y ws rm Pc Qc mc ms free) {maxL : Nat} (hrc : rm.cells = mc) (hrs : rm.slots = ms) (hframes : rm.frames + 1 ≤ R.frames) (hlocals : 8 + (maxL + 11) + rm.locals ≤ R.locals)
    {g : JFrame} (hg : g.method = m) (hsize : g.locals.size = c.maxLocals) {ig : Instr} {len : Nat} (hdg : decode c.code g.pc = .ok (ig, len)) (hW : 2 * g.monitorRoom + (g.stack.map fun v => v.category).sum ≤ 8)
    {mk : MethodId} (hn : T.methodNamed? y = some mk) {a : Array Value} (hpre : ∀ w ∈ ws, w.before a T = true) (hini : (Cond.initialized y.cls).before a T = true)
    (hmeth : ∃ (methY : Method) (cY : Code), T.vm.method? mk = some methY ∧ methY.code = some cY ∧ cY.maxLocals = maxL) (hcells : cells + mc ≤ R.cells) (hslots : slots + ms ≤ R.slots) (hP : Pc a (T.calling g mk a)) :
    ∃ (o : Outcome) (t T' : State) (L : List Loc), Stand p l e R s m args below meth c T' (locs ++ L) (cells + mc) (slots + ms) ∧ (∀ q ∈ L, free q.base) ∧ T'.heap = t.heap ∧ T'.vm = t.vm ∧ Qc a (T.calling g mk a) o t ∧
      match o with
      | .returned v => Steps p.tables e below (doInvoke e (T.setTop g) [] mk a).1 (T'.setTop { g with pc := g.pc + len, stack := v.toList ++ g.stack })
      | .threw x => Steps p.tables e below (doInvoke e (T.setTop g) [] mk a).1 ((T'.setTop g).pushFrame (.throwing x)) := by
  obtain ⟨methY, cY, hmY, hcY, hlY⟩ := hmeth
  obtain ⟨kY, hkY, -⟩ := className_of_methodNamed hn
  have hinitY : kY.init = .initialized := Cond.initialized_spec (findClass_of_methodNamed hn) hkY hini
  have h : At T g.method c below := by rw [hg]; exact X.here
  have happ : (headSpec ws rm).appliesLoose y e.platform (T.calling g mk a) = true :=
    Spec.appliesLoose_calling (g := g) h hdg hn hkY hinitY
      (X.room_calling (g := g) (R' := (headSpec ws rm).room) hsize hmY hcY hframes (by rw [hlY]; show _ + _ + rm.locals ≤ _; omega) (by show cells + rm.cells ≤ _; rw [hrc]; exact hcells) (by show slots + rm.slots ≤ _; rw [hrs]; exact hslots)) (atoms_intro hpre)
  obtain ⟨mid, hmid⟩ := h.above
  have hfr : (T.setTop g).frames = (.java g :: mid) ++ below := by rw [State.frames_setTop' g h.top, hmid]; rfl
  obtain ⟨o, s₂, hsteps, -, hend, hq⟩ := Steps.callFree hM p X.admits X.cas X.clock (acts := []) hfr happ hP trivial
  have hq0 : Qc a (T.calling g mk a) o s₂ ∧ ∃ L, gx_End (T.calling g mk a) s₂ L mc ms ∧ ∀ q ∈ L, free q.base := hq
  obtain ⟨hq', L, ⟨hW₂, e2, q2, q3, q4, q5, q6⟩, hL⟩ := hq0
  rw [State.frames_setTop' g h.top] at hend
  have e3 : s₂ = ({ (T.calling g mk a).setFrames s₂.frames with heap := s₂.heap, slotsUsed := s₂.slotsUsed } : State).setVm s₂.vm := by
    have : s₂ = ({ s₂ with vm := (T.calling g mk a).vm } : State).setVm s₂.vm := rfl
    rw [e2] at this
    exact this
  have hW' : T.WarmedH s₂.vm := hW₂
  obtain ⟨g₀, hg0⟩ := Option.isSome_iff_exists.mp h.top
  obtain ⟨r, hr⟩ := State.topJava?_eq_some.mp hg0
  have hr' : (({ T with heap := s₂.heap, slotsUsed := s₂.slotsUsed } : State).setVm s₂.vm).frames = .java g₀ :: r := hr
  have hsame : T.sameButNew ({ T with heap := s₂.heap, slotsUsed := s₂.slotsUsed } : State) L mc ms := by
    refine ⟨?_, q2, q3, q4, q5, q6⟩
    obtain ⟨t, ht, -⟩ := State.frames_cons hr
    show ({ T with heap := s₂.heap, slotsUsed := s₂.slotsUsed } : State) = { T.setFrames T.frames with heap := s₂.heap, slotsUsed := s₂.slotsUsed }
    rw [State.setFrames_self ht]
  have X' : Stand p l e R s m args below meth c (({ T with heap := s₂.heap, slotsUsed := s₂.slotsUsed } : State).setVm s₂.vm) (locs ++ L) (cells + mc) (slots + ms) :=
    ⟨X.admits, X.cas, X.clock, X.frames, X.room, X.hears, X.method, X.code, (X.here.setHeapUsed s₂.heap s₂.slotsUsed).setVm hW'.alike, X.tail, State.WarmedH.trans X.warmed hW', X.limits, X.bytes, X.same.trans (hsame.setVm s.vm)⟩
  cases o with
  | returned v =>
    obtain ⟨c₂, i₂, len₂, hc₂, hd₂, hf₂⟩ := hend
    have hcc : c₂ = c := by
      have h1 : s₂.code? g.method = T.code? g.method := by
        rw [State.code?_eq, State.code?_eq, hW'.alike.method?]
      exact Option.some.inj (hc₂.symm.trans (h1.trans h.code))
    subst hcc
    have hlen : len₂ = len := by rw [hdg] at hd₂; cases hd₂; rfl
    subst hlen
    have hs₂ : s₂ = (({ T with heap := s₂.heap, slotsUsed := s₂.slotsUsed } : State).setVm s₂.vm).setTop { g with pc := g.pc + len₂, stack := v.toList ++ g.stack } := by
      refine e3.trans ?_
      rw [hf₂, State.calling_eq h.top, State.setFrames_setFrames, State.setTop_of_frames _ hr', hr]
      rfl
    refine ⟨.returned v, s₂, _, L, X', hL, rfl, rfl, hq', ?_⟩
    show Steps p.tables e below _ ((({ T with heap := s₂.heap, slotsUsed := s₂.slotsUsed } : State).setVm s₂.vm).setTop { g with pc := g.pc + len₂, stack := v.toList ++ g.stack })
    rw [← hs₂]
    exact hsteps
  | threw x =>
    have hf₂ : s₂.frames = .throwing x :: .java g :: T.frames.tail := hend
    have hs₂ : s₂ = ((({ T with heap := s₂.heap, slotsUsed := s₂.slotsUsed } : State).setVm s₂.vm).setTop g).pushFrame (.throwing x) := by
      refine e3.trans ?_
      rw [hf₂, State.calling_eq h.top, State.setFrames_setFrames, State.pushFrame, State.frames_setTop _ hr', State.setTop_of_frames _ hr', State.setFrames_setFrames, hr]
      rfl
    refine ⟨.threw x, s₂, _, L, X', hL, rfl, rfl, hq', ?_⟩
    show Steps p.tables e below _ (((({ T with heap := s₂.heap, slotsUsed := s₂.slotsUsed } : State).setVm s₂.vm).setTop g).pushFrame (.throwing x))
    rw [← hs₂]
    exact hsteps
end GY
/-- what is known of a callee: its code (its head in ws), its words, its room -/
def gx_Call (R : Room) (s : State) (args : Array Value) (y : MethodName) (maxL : Nat) (ws : List Cond) (rm : Room) (mc ms n : Nat) : Prop :=
  rm.cells = mc ∧ rm.slots = ms ∧ rm.frames + 1 ≤ R.frames ∧ 8 + (maxL + 11) + rm.locals ≤ R.locals ∧ (∀ w ∈ ws, ∀ (a' : Array Value) (U : State), s.WarmedH U.vm → w.before a' U = true) ∧
  (∃ (mk : MethodId) (methY : Method) (cY : Code), s.methodNamed? y = some mk ∧ s.vm.method? mk = some methY ∧ methY.code = some cY ∧ cY.maxLocals = maxL ∧ parseMethodDescriptor y.desc = some methY.sig) ∧
  (Cond.initialized y.cls).before args s = true ∧ (y.cls ≠ "java/lang/invoke/MethodHandle" ∧ y.cls ≠ "java/lang/invoke/VarHandle") ∧ (∀ sig, parseMethodDescriptor y.desc = some sig → n = sig.parameters.length)
section GZ
variable {p : Program} {l : Launch} {e : Env} {R : Room} {s : State} {m : MethodId} {args : Array Value} {below : List Frame} {meth : Method} {c : Code} {H : Heap} {locs : List Loc} {cells slots : Nat} {Q : State → Prop}
  {y : MethodName} {cc : ByteArray} {maxL nL mc ms n index : Nat} {ws : List Cond} {rm : Room} {Pc : Array Value → State → Prop} {Qc : Array Value → State → Outcome → State → Prop} {free : Addr → Prop} {own C : String} {b : Addr} {As rest : List Value} {g : JFrame}
theorem gx_runS (hx : p.tables.exec = Jvm.exec) (hb : c.code = cc) (hml : c.maxLocals = nL) (ho : s.vm.findClass own = some m.cls) (hM : gx_Met l y ws rm Pc Qc mc ms free) (cw : gx_Call R s args y maxL ws rm mc ms n) (hl : (Cond.methodLink own index y).before args s = true) (hst : (Cond.static y).before args s = true)
    (hbl : FrameBlind Pc) (hp : ∀ U : State, U.heap = H → s.WarmedH U.vm → Pc As.toArray U)
    (hg : g.method = m) (hn : As.length = n) (hsize : g.locals.size = nL) (hstack : g.stack = As.reverse ++ rest) (hW : 2 * g.monitorRoom + (rest.map fun v => v.category).sum ≤ 8) (hdg : decode cc g.pc = .ok (.invokestatic index, 3)) (hf : cells + mc ≤ R.cells ∧ slots + ms ≤ R.slots) :
    gx_Run p l e R s m args below meth c H locs cells slots mc ms g rest (Qc As.toArray) free := by
  obtain ⟨hrc, hrs, hfr, hlo, hws, ⟨mk, methM, cM, hnamed, hmethM, hcM, hlM, hsigM⟩, hinit, hy, hlen⟩ := cw
  subst hb
  intro T hT X
  have hstatic : methM.isStatic = true := Cond.static_spec hnamed hmethM hst
  obtain ⟨kP, hkP, -⟩ := className_of_methodNamed hnamed
  have hinitP : kP.init = .initialized := Cond.initialized_spec (findClass_of_methodNamed hnamed) hkP hinit
  obtain ⟨vm₁, X₁, hstep₁⟩ := X.invokestatic hx ho hl hnamed hmethM hstatic hkP hinitP hy (g := g) hg (argsL := As) (rest := rest) (hn.trans (hlen _ hsigM)) hstack hdg
  have hini1 : (Cond.initialized y.cls).before As.toArray (T.setVm vm₁) = true := word_at X₁.warmed (Or.inl (by first | rfl | simp [Cond.onTables, Cond.keeps, Cond.steady])) hinit
  obtain ⟨o, t, T', L, X', hL, e1, e2, hq, hs⟩ := gx_back X₁ hM hrc hrs hfr hlo (g := { g with stack := rest }) hg (hsize.trans hml.symm) hdg hW (X₁.named hnamed) (a := As.toArray) (fun w hw => hws w hw _ _ X₁.warmed) hini1
    ⟨methM, cM, by rw [X₁.warmed.alike.method?]; exact hmethM, hcM, hlM⟩ hf.1 hf.2 (hbl _ _ _ _ (hp (T.setVm vm₁) hT X₁.warmed))
  refine ⟨o, _, t, T', L, ?_, ?_, X', hL, e1, e2, hq, ?_⟩
  · exact hT
  · exact X₁.warmed
  · cases o with
    | returned v => exact fun tg h => hstep₁ _ fun acts => by rw [doInvoke_state]; exact Steps.trans hs h
    | threw x => exact fun tg h => hstep₁ _ fun acts => by rw [doInvoke_state]; exact Steps.trans hs h
theorem gx_runV (hx : p.tables.exec = Jvm.exec) (hb : c.code = cc) (hml : c.maxLocals = nL) (ho : s.vm.findClass own = some m.cls) (hM : gx_Met l y ws rm Pc Qc mc ms free) (cw : gx_Call R s args y maxL ws rm mc ms n) (hl : (Cond.methodLink own index y).before args s = true) (hin : (Cond.instanceMethod y).before args s = true) (hse : (Cond.selects C y y).before args s = true)
    (hbl : FrameBlind Pc) (hcell : ∃ cellB : Cell, H[b]? = some cellB ∧ cellB.vm.isStatics = false ∧ s.vm.findClass C = some cellB.cls) (hp : ∀ U : State, U.heap = H → s.WarmedH U.vm → Pc (Value.ref b :: As).toArray U)
    (hg : g.method = m) (hn : As.length = n) (hsize : g.locals.size = nL) (hstack : g.stack = As.reverse ++ .ref b :: rest) (hW : 2 * g.monitorRoom + (rest.map fun v => v.category).sum ≤ 8) (hdg : decode cc g.pc = .ok (.invokevirtual index, 3)) (hf : cells + mc ≤ R.cells ∧ slots + ms ≤ R.slots) :
    gx_Run p l e R s m args below meth c H locs cells slots mc ms g rest (Qc (Value.ref b :: As).toArray) free := by
  obtain ⟨hrc, hrs, hfr, hlo, hws, ⟨mk, methM, cM, hnamed, hmethM, hcM, hlM, hsigM⟩, hinit, hy, hlen⟩ := cw
  obtain ⟨cellB, hcB, hoB, hclB⟩ := hcell
  subst hb
  intro T hT X
  obtain ⟨mk', methM', hnamed', hmethM', hstM, habM⟩ := Cond.instanceMethod_spec hin
  cases hnamed.symm.trans hnamed'
  cases hmethM.symm.trans hmethM'
  obtain ⟨c2, r2, m2, q1, q2, q3, q4, kP, hkP, hkPi⟩ := Cond.selects_spec hse
  cases hclB.symm.trans q1
  cases (State.methodFound?_of_named hnamed hy).symm.trans q2
  cases hnamed.symm.trans q3
  have hselP : selectMethod e.platform s.vm cellB.cls mk = .method mk := by rw [Launch.admits_selectMethod X.admits]; exact q4
  obtain ⟨vm₁, X₁, hstep₁⟩ := X.invokevirtual hx ho hl hnamed hmethM hstM hkP hkPi hy (a := b) (cell := cellB) (by rw [hT]; exact hcB)
    (fun z h => by rw [h] at hoB; cases hoB) hselP hmethM habM hkP hkPi (g := g) hg (argsL := As) (rest := rest) (hn.trans (hlen _ hsigM)) hstack hdg
  have hini1 : (Cond.initialized y.cls).before (Value.ref b :: As).toArray (T.setVm vm₁) = true := word_at X₁.warmed (Or.inl (by first | rfl | simp [Cond.onTables, Cond.keeps, Cond.steady])) hinit
  obtain ⟨o, t, T', L, X', hL, e1, e2, hq, hs⟩ := gx_back X₁ hM hrc hrs hfr hlo (g := { g with stack := rest }) hg (hsize.trans hml.symm) hdg hW (X₁.named hnamed) (a := (Value.ref b :: As).toArray) (fun w hw => hws w hw _ _ X₁.warmed) hini1
    ⟨methM, cM, by rw [X₁.warmed.alike.method?]; exact hmethM, hcM, hlM⟩ hf.1 hf.2 (hbl _ _ _ _ (hp (T.setVm vm₁) hT X₁.warmed))
  refine ⟨o, _, t, T', L, ?_, ?_, X', hL, e1, e2, hq, ?_⟩
  · exact hT
  · exact X₁.warmed
  · cases o with
    | returned v => exact fun tg h => hstep₁ _ fun acts => by rw [doInvoke_state]; exact Steps.trans hs h
    | threw x => exact fun tg h => hstep₁ _ fun acts => by rw [doInvoke_state]; exact Steps.trans hs h
theorem gx_runI (hx : p.tables.exec = Jvm.exec) (hb : c.code = cc) (hml : c.maxLocals = nL) (ho : s.vm.findClass own = some m.cls) (hM : gx_Met l y ws rm Pc Qc mc ms free) (cw : gx_Call R s args y maxL ws rm mc ms n) (hl : (Cond.methodLink own index y).before args s = true) (hin : (Cond.instanceMethod y).before args s = true) (hy1 : y.name = "<init>") {bytes : ByteArray} (hcode : (Cond.code y bytes maxL none).before args s = true)
    (hbl : FrameBlind Pc) (hp : ∀ U : State, U.heap = H → s.WarmedH U.vm → Pc (Value.ref b :: As).toArray U)
    (hg : g.method = m) (hn : As.length = n) (hsize : g.locals.size = nL) (hstack : g.stack = As.reverse ++ .ref b :: rest) (hW : 2 * g.monitorRoom + (rest.map fun v => v.category).sum ≤ 8) (hdg : decode cc g.pc = .ok (.invokespecial index, 3)) (hf : cells + mc ≤ R.cells ∧ slots + ms ≤ R.slots) :
    gx_Run p l e R s m args below meth c H locs cells slots mc ms g rest (Qc (Value.ref b :: As).toArray) free := by
  obtain ⟨hrc, hrs, hfr, hlo, hws, ⟨mk, methM, cM, hnamed, hmethM, hcM, hlM, hsigM⟩, hinit, hy, hlen⟩ := cw
  subst hb
  subst hg
  intro T hT X
  have hpl : e.platform.magicAccessors = ({} : Platform).magicAccessors := by rw [X.admits.platform]
  obtain ⟨mk', methM', cM', kP, vm₁, hnamed', hmethM', hcodeM, -, hlocalsM, -, hkP, -, hW₁, hstep₁⟩ := Steps.initColdArgs (e := e) X.here hx X.warmed hpl ho hy1 hy hl hin hcode (f := g) rfl (fun sig h => hn.trans (hlen sig h)) hstack hdg
  cases hnamed.symm.trans hnamed'
  have X₁ := X.noted hW₁
  have hini1 : (Cond.initialized y.cls).before (Value.ref b :: As).toArray (T.setVm vm₁) = true := word_at X₁.warmed (Or.inl (by first | rfl | simp [Cond.onTables, Cond.keeps, Cond.steady])) hinit
  obtain ⟨o, t, T', L, X', hL, e1, e2, hq, hs⟩ := gx_back X₁ hM hrc hrs hfr hlo (g := { g with stack := rest }) rfl (hsize.trans hml.symm) hdg hW (X₁.named hnamed) (a := (Value.ref b :: As).toArray) (fun w hw => hws w hw _ _ X₁.warmed) hini1
    ⟨methM, cM, by rw [X₁.warmed.alike.method?]; exact hmethM, hcM, hlM⟩ hf.1 hf.2 (hbl _ _ _ _ (hp (T.setVm vm₁) hT X₁.warmed))
  refine ⟨o, _, t, T', L, ?_, ?_, X', hL, e1, e2, hq, ?_⟩
  · exact hT
  · exact X₁.warmed
  · cases o with
    | returned v => exact fun tg h => hstep₁ _ fun acts => by rw [doInvoke_state]; exact Steps.trans hs h
    | threw x => exact fun tg h => hstep₁ _ fun acts => by rw [doInvoke_state]; exact Steps.trans hs h
end GZ
abbrev gh_M : Type := Nat → Option va_E
def gh_up (h : gh_M) (a : Nat) (e : va_E) : gh_M := fun q => if q = a then some e else h q
theorem gh_self (h : gh_M) (a : Nat) (e : va_E) : gh_up h a e a = some e := if_pos rfl
theorem gh_ne {h : gh_M} {a q : Nat} {e : va_E} (hq : q ≠ a) : gh_up h a e q = h q := if_neg hq
theorem gh_uu {h : gh_M} {a : Nat} {e e' : va_E} : gh_up (gh_up h a e) a e' = gh_up h a e' := by
  funext q
  by_cases hq : q = a
  · subst hq; rw [gh_self, gh_self]
  · rw [gh_ne hq, gh_ne hq, gh_ne hq]
theorem gh_id {h : gh_M} {a : Nat} {e : va_E} (h0 : h a = some e) : gh_up h a e = h := by
  funext q
  by_cases hq : q = a
  · subst hq; rw [gh_self, h0]
  · rw [gh_ne hq]
theorem gh_keep {h : gh_M} {a q : Nat} {e e0 x : va_E} (h0 : h a = some e0) (hq : h q = some x) (hne : x ≠ e0) : gh_up h a e q = some x := by
  rw [gh_ne (fun k => ?_)]
  · exact hq
  · subst k
    exact hne (Option.some.inj (hq.symm.trans h0))
theorem gh_keepN {h : gh_M} {a q : Nat} {e x : va_E} (h0 : h a = none) (hq : h q = some x) : gh_up h a e q = some x := by
  rw [gh_ne (fun k => ?_)]
  · exact hq
  · subst k
    rw [h0] at hq
    cases hq
/-- h says just what the list ws says -/
def gh_L (h : gh_M) (ws : va_W) : Prop := ∀ (a : Nat) (x : va_E), h a = some x ↔ ∃ k : Nat, ws[k]? = some (a, x)
theorem gh_L.set {A : Nat → Prop} {h : gh_M} {ws : va_W} {a k : Nat} {x x1 : va_E} (hL : gh_L h ws) (hD : va_D A ws) (hk : ws[k]? = some (a, x)) : gh_L (gh_up h a x1) (ws.set k (a, x1)) := by
  have hlt : k < ws.length := (List.getElem?_eq_some_iff.mp hk).1
  intro b y
  by_cases hb : b = a
  · subst hb
    rw [gh_self]
    constructor
    · intro q
      cases q
      exact ⟨k, by rw [List.getElem?_set_self hlt]⟩
    · rintro ⟨j, hj⟩
      by_cases hjk : k = j
      · subst hjk
        rw [List.getElem?_set_self hlt] at hj
        cases hj
        rfl
      · rw [List.getElem?_set_ne hjk] at hj
        exact absurd (hD.1 k j _ _ hk hj rfl) hjk
  · rw [gh_ne hb, hL b y]
    constructor
    · rintro ⟨j, hj⟩
      have hjk : k ≠ j := by
        intro q
        subst q
        rw [hk] at hj
        cases hj
        exact hb rfl
      exact ⟨j, by rw [List.getElem?_set_ne hjk]; exact hj⟩
    · rintro ⟨j, hj⟩
      by_cases hjk : k = j
      · subst hjk
        rw [List.getElem?_set_self hlt] at hj
        cases hj
        exact absurd rfl hb
      · rw [List.getElem?_set_ne hjk] at hj
        exact ⟨j, hj⟩
theorem gh_L.fresh {A : Nat → Prop} {h : gh_M} {ws : va_W} {a : Nat} {x : va_E} (hL : gh_L h ws) (hD : va_D A (ws ++ [(a, x)])) : h a = none := by
  cases hh : h a with
  | none => rfl
  | some y =>
    obtain ⟨j, hj⟩ := (hL a y).mp hh
    have hlt : j < ws.length := (List.getElem?_eq_some_iff.mp hj).1
    have e1 := hD.1 j ws.length (a, y) (a, x) (by rw [List.getElem?_append_left hlt]; exact hj) (by rw [List.getElem?_append_right (Nat.le_refl _), Nat.sub_self]; rfl) rfl
    omega
theorem gh_L.push {A : Nat → Prop} {h : gh_M} {ws : va_W} {a : Nat} {x : va_E} (hL : gh_L h ws) (hD : va_D A (ws ++ [(a, x)])) : gh_L (gh_up h a x) (ws ++ [(a, x)]) := by
  have hf := hL.fresh hD
  intro b y
  by_cases hb : b = a
  · subst hb
    rw [gh_self]
    constructor
    · intro q
      cases q
      exact ⟨ws.length, by rw [List.getElem?_append_right (Nat.le_refl _), Nat.sub_self]; rfl⟩
    · rintro ⟨j, hj⟩
      by_cases hlt : j < ws.length
      · rw [List.getElem?_append_left hlt] at hj
        have := (hL b y).mpr ⟨j, hj⟩
        rw [hf] at this
        cases this
      · rw [List.getElem?_append_right (by omega)] at hj
        have hz : j - ws.length < 1 := (List.getElem?_eq_some_iff.mp hj).1
        rw [show j - ws.length = 0 by omega] at hj
        cases hj
        rfl
  · rw [gh_ne hb, hL b y]
    constructor
    · rintro ⟨j, hj⟩
      exact ⟨j, by rw [List.getElem?_append_left (List.getElem?_eq_some_iff.mp hj).1]; exact hj⟩
    · rintro ⟨j, hj⟩
      by_cases hlt : j < ws.length
      · rw [List.getElem?_append_left hlt] at hj
        exact ⟨j, hj⟩
      · rw [List.getElem?_append_right (by omega)] at hj
        have hz : j - ws.length < 1 := (List.getElem?_eq_some_iff.mp hj).1
        rw [show j - ws.length = 0 by omega] at hj
        cases hj
        exact absurd rfl hb
/-- the heap H holds what h says, all of it from b0 on; below b0 it is as H0 was; what was written lies from b0 on -/
def gh_P (D : va_G) (cl : List vw_C) (b0 : Nat) (h : gh_M) (H0 H : Heap) (locs : List Loc) : Prop :=
  ∃ ws : va_W, gh_L h ws ∧ va_P D cl ws H ∧ va_D (fun q => b0 ≤ q) ws ∧ va_S (fun q => b0 ≤ q) H0 H locs ∧ b0 ≤ H0.size
section GH
variable {p : Program} {l : Launch} {e : Env} {R : Room} {s : State} {m : MethodId} {args : Array Value} {below : List Frame} {meth : Method} {c : Code} {H : Heap} {locs : List Loc} {cells slots : Nat} {Q : State → Prop}
  {D : va_G} {cl : List vw_C} {tys : List (ClassId × FieldType)} {b0 : Nat} {h : gh_M} {cc : ByteArray} {pc : Nat} {ls : Array Slot} {rest : List Value} {H0 : Heap}
theorem gh_get (hexec : p.tables.exec = Jvm.exec) (hb : c.code = cc) {own ref C : String} {T : u_T} {N ci index : Nat} {Ts : List Cond} (hts : ∀ w ∈ Ts, w.before args s = true) (hin : ∀ w ∈ u_ws C T N, w ∈ Ts) (hown : s.vm.findClass own = some m.cls) (hK : va_K D cl tys s) (hG : gh_P D cl b0 h H0 H locs) {a : Nat} {fs : List Value} (he : h a = some (.inr (ci, fs))) (hc : cl[ci]? = some (C, T, N)) (k : Nat) (hk : k < N)
    (hlink : (Cond.fieldLink own index ref (T k).2.1 (T k).2.2.1).before args s = true) (hsame : ∀ x, s.fieldFound? (T k).1 (T k).2.1 (T k).2.2.1 = some x → s.fieldFound? ref (T k).2.1 (T k).2.2.1 = some x) {v : Value} (hv : fs[k]? = some v) (hdg : decode cc pc = .ok (.getfield index, 3))
    (kk : W p l e R s m args below meth c H locs cells slots Q (F0 m (pc + 3) ls (v :: rest))) : W p l e R s m args below meth c H locs cells slots Q (F0 m pc ls (.ref a :: rest)) := by
  obtain ⟨ws, hL, hP, -⟩ := hG
  obtain ⟨k0, hk0⟩ := (hL a _).mp he
  exact va_get hexec hb hts hin hown hK hP k0 hk0 hc k hk hlink hsame hv hdg kk
theorem gh_getN (hexec : p.tables.exec = Jvm.exec) (hb : c.code = cc) {own ref C host : String} {T : u_T} {N ci index : Nat} {Ts : List Cond} (hts : ∀ w ∈ Ts, w.before args s = true) (hin : ∀ w ∈ u_ws C T N, w ∈ Ts) (hown : s.vm.findClass own = some m.cls) (hK : va_K D cl tys s) (hG : gh_P D cl b0 h H0 H locs) {a : Nat} {fs : List Value} (he : h a = some (.inr (ci, fs))) (hc : cl[ci]? = some (C, T, N)) (k : Nat) (hk : k < N)
    (hlink : (Cond.fieldLinkNest own index ref (T k).2.1 (T k).2.2.1 host).before args s = true) (hsame : ∀ x, s.fieldFound? (T k).1 (T k).2.1 (T k).2.2.1 = some x → s.fieldFound? ref (T k).2.1 (T k).2.2.1 = some x) {v : Value} (hv : fs[k]? = some v) (hdg : decode cc pc = .ok (.getfield index, 3))
    (kk : W p l e R s m args below meth c H locs cells slots Q (F0 m (pc + 3) ls (v :: rest))) : W p l e R s m args below meth c H locs cells slots Q (F0 m pc ls (.ref a :: rest)) := by
  obtain ⟨ws, hL, hP, -⟩ := hG
  obtain ⟨k0, hk0⟩ := (hL a _).mp he
  exact va_getN hexec hb hts hin hown hK hP k0 hk0 hc k hk hlink hsame hv hdg kk
theorem gh_put (hexec : p.tables.exec = Jvm.exec) (hb : c.code = cc) {own ref C : String} {T : u_T} {N ci index : Nat} {Ts : List Cond} (hts : ∀ w ∈ Ts, w.before args s = true) (hin : ∀ w ∈ u_ws C T N, w ∈ Ts) (ty0 : Nat → FieldType) (hty : ∀ k, k < N → parseFieldDescriptor (T k).2.2.1 = some (ty0 k)) (hnm : ∀ a, a < N → ∀ b, b < N → a ≠ b → (T a).2.1 ≠ (T b).2.1) (hown : s.vm.findClass own = some m.cls) (hK : va_K D cl tys s) (hG : gh_P D cl b0 h H0 H locs) {a : Nat} {fs : List Value} (he : h a = some (.inr (ci, fs))) (hc : cl[ci]? = some (C, T, N)) (k : Nat) (hk : k < N)
    (hlink : (Cond.fieldLink own index ref (T k).2.1 (T k).2.2.1).before args s = true) (hsame : ∀ x, s.fieldFound? (T k).1 (T k).2.1 (T k).2.2.1 = some x → s.fieldFound? ref (T k).2.1 (T k).2.2.1 = some x) (hfin : (T k).2.2.2 = false) {ty : FieldType} {v : Value} (hd : parseFieldDescriptor (T k).2.2.1 = some ty) (hn : narrow ty v = v) (hfit : fits ty v = true) (hl : k < fs.length)
    (hdg : decode cc pc = .ok (.putfield index, 3)) (kk : ∀ (H1 : Heap) (locs1 : List Loc), gh_P D cl b0 (gh_up h a (.inr (ci, fs.set k v))) H0 H1 locs1 → W p l e R s m args below meth c H1 locs1 cells slots Q (F0 m (pc + 3) ls rest)) : W p l e R s m args below meth c H locs cells slots Q (F0 m pc ls (v :: .ref a :: rest)) := by
  obtain ⟨ws, hL, hP, hD, hS, hb0⟩ := hG
  obtain ⟨k0, hk0⟩ := (hL a _).mp he
  exact va_put hexec hb hts hin ty0 hty hnm hown hK hP hD hS k0 hk0 hc k hk hlink hsame hfin hd hn hfit hl hdg (fun H1 locs1 hP1 hD1 hS1 => kk H1 locs1 ⟨_, hL.set hD hk0, hP1, hD1, hS1, hb0⟩)
theorem gh_putF (hexec : p.tables.exec = Jvm.exec) (hb : c.code = cc) {own ref C : String} {T : u_T} {N ci index : Nat} {Ts : List Cond} (hts : ∀ w ∈ Ts, w.before args s = true) (hin : ∀ w ∈ u_ws C T N, w ∈ Ts) (ty0 : Nat → FieldType) (hty : ∀ k, k < N → parseFieldDescriptor (T k).2.2.1 = some (ty0 k)) (hnm : ∀ a, a < N → ∀ b, b < N → a ≠ b → (T a).2.1 ≠ (T b).2.1) (hown : s.vm.findClass own = some m.cls) (hK : va_K D cl tys s) (hG : gh_P D cl b0 h H0 H locs) {a : Nat} {fs : List Value} (he : h a = some (.inr (ci, fs))) (hc : cl[ci]? = some (C, T, N)) (k : Nat) (hk : k < N)
    (hlink : (Cond.fieldLink own index ref (T k).2.1 (T k).2.2.1).before args s = true) (hsame : ∀ x, s.fieldFound? (T k).1 (T k).2.1 (T k).2.2.1 = some x → s.fieldFound? ref (T k).2.1 (T k).2.2.1 = some x) (hfin : (T k).2.2.2 = true) (hin2 : meth.name = "<init>") (hdecl : (T k).1 = own) {ty : FieldType} {v : Value} (hd : parseFieldDescriptor (T k).2.2.1 = some ty) (hn : narrow ty v = v) (hfit : fits ty v = true) (hl : k < fs.length)
    (hdg : decode cc pc = .ok (.putfield index, 3)) (kk : ∀ (H1 : Heap) (locs1 : List Loc), gh_P D cl b0 (gh_up h a (.inr (ci, fs.set k v))) H0 H1 locs1 → W p l e R s m args below meth c H1 locs1 cells slots Q (F0 m (pc + 3) ls rest)) : W p l e R s m args below meth c H locs cells slots Q (F0 m pc ls (v :: .ref a :: rest)) := by
  obtain ⟨ws, hL, hP, hD, hS, hb0⟩ := hG
  obtain ⟨k0, hk0⟩ := (hL a _).mp he
  exact va_putF hexec hb hts hin ty0 hty hnm hown hK hP hD hS k0 hk0 hc k hk hlink hsame hfin hin2 hdecl hd hn hfit hl hdg (fun H1 locs1 hP1 hD1 hS1 => kk H1 locs1 ⟨_, hL.set hD hk0, hP1, hD1, hS1, hb0⟩)
theorem gh_iald (hexec : p.tables.exec = Jvm.exec) (hb : c.code = cc) (hK : va_K D cl tys s) (hG : gh_P D cl b0 h H0 H locs) (t0 : Nat) {a : Nat} {cA : ClassId} {n : Nat} {f : Nat → Int32} (ha : h a = some (.inl (cA, n, .inl f))) (ht : tys[t0]? = some (cA, .int)) {i : Int32} {v : Int32} (hin : vp_in i n) (hv : f i.toNatClampNeg = v) (hdg : decode cc pc = .ok (.iaload, 1))
    (kk : W p l e R s m args below meth c H locs cells slots Q (F0 m (pc + 1) ls (.int v :: rest))) : W p l e R s m args below meth c H locs cells slots Q (F0 m pc ls (.int i :: .ref a :: rest)) := by
  obtain ⟨ws, hL, hP, -⟩ := hG
  obtain ⟨k0, hk0⟩ := (hL a _).mp ha
  refine va_iald hexec hb hK hP k0 t0 hk0 ht hin hdg ?_
  rw [hv]
  exact kk
theorem gh_lald (hexec : p.tables.exec = Jvm.exec) (hb : c.code = cc) (hK : va_K D cl tys s) (hG : gh_P D cl b0 h H0 H locs) (t0 : Nat) {a : Nat} {cA : ClassId} {n : Nat} {f : Nat → Int64} (ha : h a = some (.inl (cA, n, .inr (.inl f)))) (ht : tys[t0]? = some (cA, .long)) {i : Int32} {v : Int64} (hin : vp_in i n) (hv : f i.toNatClampNeg = v) (hdg : decode cc pc = .ok (.laload, 1))
    (kk : W p l e R s m args below meth c H locs cells slots Q (F0 m (pc + 1) ls (.long v :: rest))) : W p l e R s m args below meth c H locs cells slots Q (F0 m pc ls (.int i :: .ref a :: rest)) := by
  obtain ⟨ws, hL, hP, -⟩ := hG
  obtain ⟨k0, hk0⟩ := (hL a _).mp ha
  refine va_lald hexec hb hK hP k0 t0 hk0 ht hin hdg ?_
  rw [hv]
  exact kk
theorem gh_aald (hexec : p.tables.exec = Jvm.exec) (hb : c.code = cc) (hK : va_K D cl tys s) (hG : gh_P D cl b0 h H0 H locs) (t0 : Nat) {a : Nat} {cA : ClassId} {C : String} {n : Nat} {f : Nat → Option Nat} (ha : h a = some (.inl (cA, n, .inr (.inr (.inr (.inr f)))))) (ht : tys[t0]? = some (cA, .object C)) {i : Int32} {v : Nat} (hin : vp_in i n) (hv : f i.toNatClampNeg = some v) (hdg : decode cc pc = .ok (.aaload, 1))
    (kk : W p l e R s m args below meth c H locs cells slots Q (F0 m (pc + 1) ls (.ref v :: rest))) : W p l e R s m args below meth c H locs cells slots Q (F0 m pc ls (.int i :: .ref a :: rest)) := by
  obtain ⟨ws, hL, hP, -⟩ := hG
  obtain ⟨k0, hk0⟩ := (hL a _).mp ha
  refine va_aldq hexec hb hK hP k0 t0 hk0 ht hin hdg ?_
  rw [hv]
  exact kk
theorem gh_iast (hexec : p.tables.exec = Jvm.exec) (hb : c.code = cc) (hK : va_K D cl tys s) (hG : gh_P D cl b0 h H0 H locs) (t0 : Nat) {a : Nat} {cA : ClassId} {n : Nat} {f : Nat → Int32} (ha : h a = some (.inl (cA, n, .inl f))) (ht : tys[t0]? = some (cA, .int)) {i : Int32} {x : Int32} (hin : vp_in i n) (hdg : decode cc pc = .ok (.iastore, 1))
    (kk : ∀ (H1 : Heap) (locs1 : List Loc), gh_P D cl b0 (gh_up h a (.inl (cA, n, .inl (upd f i.toNatClampNeg x)))) H0 H1 locs1 → W p l e R s m args below meth c H1 locs1 cells slots Q (F0 m (pc + 1) ls rest)) : W p l e R s m args below meth c H locs cells slots Q (F0 m pc ls (.int x :: .int i :: .ref a :: rest)) := by
  obtain ⟨ws, hL, hP, hD, hS, hb0⟩ := hG
  obtain ⟨k0, hk0⟩ := (hL a _).mp ha
  exact va_iast hexec hb hK hP hD hS k0 t0 hk0 ht hin hdg (fun H1 locs1 hP1 hD1 hS1 => kk H1 locs1 ⟨_, hL.set hD hk0, hP1, hD1, hS1, hb0⟩)
theorem gh_last (hexec : p.tables.exec = Jvm.exec) (hb : c.code = cc) (hK : va_K D cl tys s) (hG : gh_P D cl b0 h H0 H locs) (t0 : Nat) {a : Nat} {cA : ClassId} {n : Nat} {f : Nat → Int64} (ha : h a = some (.inl (cA, n, .inr (.inl f)))) (ht : tys[t0]? = some (cA, .long)) {i : Int32} {x : Int64} (hin : vp_in i n) (hdg : decode cc pc = .ok (.lastore, 1))
    (kk : ∀ (H1 : Heap) (locs1 : List Loc), gh_P D cl b0 (gh_up h a (.inl (cA, n, .inr (.inl (vp_updL f i.toNatClampNeg x))))) H0 H1 locs1 → W p l e R s m args below meth c H1 locs1 cells slots Q (F0 m (pc + 1) ls rest)) : W p l e R s m args below meth c H locs cells slots Q (F0 m pc ls (.long x :: .int i :: .ref a :: rest)) := by
  obtain ⟨ws, hL, hP, hD, hS, hb0⟩ := hG
  obtain ⟨k0, hk0⟩ := (hL a _).mp ha
  exact va_last hexec hb hK hP hD hS k0 t0 hk0 ht hin hdg (fun H1 locs1 hP1 hD1 hS1 => kk H1 locs1 ⟨_, hL.set hD hk0, hP1, hD1, hS1, hb0⟩)
theorem gh_aast (hexec : p.tables.exec = Jvm.exec) (hb : c.code = cc) (hK : va_K D cl tys s) (hG : gh_P D cl b0 h H0 H locs) (t0 ci : Nat) {a v n : Nat} {cA : ClassId} {r : vw_C} {vs : List Value} {f : Nat → Option Nat} (ha : h a = some (.inl (cA, n, .inr (.inr (.inr (.inr f)))))) (ht : tys[t0]? = some (cA, .object r.1)) (hv : h v = some (.inr (ci, vs))) (hc : cl[ci]? = some r) {i : Int32} (hin : vp_in i n) (hdg : decode cc pc = .ok (.aastore, 1))
    (kk : ∀ (H1 : Heap) (locs1 : List Loc), gh_P D cl b0 (gh_up h a (.inl (cA, n, .inr (.inr (.inr (.inr (va_up f i.toNatClampNeg (some v)))))))) H0 H1 locs1 → W p l e R s m args below meth c H1 locs1 cells slots Q (F0 m (pc + 1) ls rest)) : W p l e R s m args below meth c H locs cells slots Q (F0 m pc ls (.ref v :: .int i :: .ref a :: rest)) := by
  obtain ⟨ws, hL, hP, hD, hS, hb0⟩ := hG
  obtain ⟨k0, hk0⟩ := (hL a _).mp ha
  obtain ⟨k1, hk1⟩ := (hL v _).mp hv
  exact va_astq hexec hb hK hP hD hS k0 t0 k1 ci hk0 ht hk1 hc hin hdg (fun H1 locs1 hP1 hD1 hS1 => kk H1 locs1 ⟨_, hL.set hD hk0, hP1, hD1, hS1, hb0⟩)
theorem gh_new (hexec : p.tables.exec = Jvm.exec) (hb : c.code = cc) {own C : String} {T : u_T} {N ci index : Nat} {Ts : List Cond} (hts : ∀ w ∈ Ts, w.before args s = true) (hin : ∀ w ∈ u_ws C T N, w ∈ Ts) (ty : Nat → FieldType) (hty : ∀ k, k < N → parseFieldDescriptor (T k).2.2.1 = some (ty k)) (hown : s.vm.findClass own = some m.cls) (hcl : (Cond.classLink own index C).before args s = true) (hinst : (Cond.instantiable C N).before args s = true) (hini : (Cond.initialized C).before args s = true)
    (hK : va_K D cl tys s) (hG : gh_P D cl b0 h H0 H locs) (hc : cl[ci]? = some (C, T, N)) {fs : List Value} (hfs : ∀ j, j < N → defaultValue (ty j) = vp_V fs j) (hcells : cells + 1 ≤ R.cells) (hslots : slots + N ≤ R.slots) (hdg : decode cc pc = .ok (.new index, 3))
    (kk : ∀ (q : Nat) (H1 : Heap), h q = none → gh_P D cl b0 (gh_up h q (.inr (ci, fs))) H0 H1 locs → W p l e R s m args below meth c H1 locs (cells + 1) (slots + N) Q (F0 m (pc + 3) ls (.ref q :: rest))) : W p l e R s m args below meth c H locs cells slots Q (F0 m pc ls rest) := by
  obtain ⟨ws, hL, hP, hD, hS, hb0⟩ := hG
  exact va_new hexec hb hts hin ty hty hown hcl hinst hini hK hP hD hS (fun q hq => Nat.le_trans hb0 hq) hc hfs hcells hslots hdg (fun q H1 hP1 hD1 hS1 => kk q H1 (hL.fresh hD1) ⟨_, hL.push hD1, hP1, hD1, hS1, hb0⟩)
/-- the class of an array type is one -/
theorem gh_cA {tys : List (ClassId × FieldType)} (hK : va_K D cl tys s) {t0 t1 : Nat} {cA cB : ClassId} {ty : FieldType} (h0 : tys[t0]? = some (cA, ty)) (h1 : tys[t1]? = some (cB, ty)) : cA = cB := by
  have a := (hK.2 t0 _ h0).2
  have b := (hK.2 t1 _ h1).2
  cases ty with
  | object C =>
    obtain ⟨_, _, -, -, -, a4⟩ := a
    obtain ⟨_, _, -, -, -, b4⟩ := b
    exact Option.some.inj (a4.symm.trans b4)
  | _ => exact Option.some.inj (a.symm.trans b)
theorem gh_newa (hexec : p.tables.exec = Jvm.exec) (hb : c.code = cc) {atype : ArrayType} (harr : (Cond.arrayClass (newarray.typeOf atype)).before args s = true) {ty : FieldType} (hty : newarray.typeOf atype = ty) (hK : va_K D cl tys s) (hG : gh_P D cl b0 h H0 H locs) (t0 : Nat) {cA : ClassId} (ht : tys[t0]? = some (cA, ty))
    {n : Int32} {N' : Nat} {a0 : vp_A} (ha : ∀ cA : ClassId, vp_cell cA a0 = arrV cA N' (fun _ => defaultValue ty)) (hn : ¬ n < 0) (hN : n.toNatClampNeg = N') (hbytes : N' * componentBytes ty ≤ 536870912) (hcells : cells + 1 ≤ R.cells) (hslots : slots + N' ≤ R.slots) (hdg : decode cc pc = .ok (.newarray atype, 2))
    (kk : ∀ (q : Nat) (H1 : Heap), h q = none → gh_P D cl b0 (gh_up h q (.inl (cA, a0))) H0 H1 locs →
      W p l e R s m args below meth c H1 locs (cells + 1) (slots + N') Q (F0 m (pc + 2) ls (.ref q :: rest))) : W p l e R s m args below meth c H locs cells slots Q (F0 m pc ls (.int n :: rest)) := by
  obtain ⟨ws, hL, hP, hD, hS, hb0⟩ := hG
  refine va_newa hexec hb harr hty hK hP hD hS (fun q hq => Nat.le_trans hb0 hq) ha hn hN hbytes hcells hslots hdg (fun q cA' H1 hK1 hP1 hD1 hS1 => ?_)
  have he : cA = cA' := gh_cA hK1 (t0 := t0) (t1 := tys.length) (by rw [List.getElem?_append_left (List.getElem?_eq_some_iff.mp ht).1]; exact ht) (by rw [List.getElem?_append_right (Nat.le_refl _), Nat.sub_self]; rfl)
  subst he
  exact kk q H1 (hL.fresh hD1) ⟨_, hL.push hD1, hP1, hD1, hS1, hb0⟩
theorem gh_newq (hexec : p.tables.exec = Jvm.exec) (hb : c.code = cc) {own C : String} {index : Nat} (hown : s.vm.findClass own = some m.cls) (hclink : (Cond.classLink own index C).before args s = true) (hover : va_AO C s) (hK : va_K D cl tys s) (hG : gh_P D cl b0 h H0 H locs) (t0 : Nat) {cA : ClassId} (ht : tys[t0]? = some (cA, .object C))
    {n : Int32} {N' : Nat} (hn : ¬ n < 0) (hN : n.toNatClampNeg = N') (hbytes : N' * 4 ≤ 536870912) (hcells : cells + 1 ≤ R.cells) (hslots : slots + N' ≤ R.slots) (hdg : decode cc pc = .ok (.anewarray index, 3))
    (kk : ∀ (q : Nat) (H1 : Heap), h q = none → gh_P D cl b0 (gh_up h q (.inl (cA, N', .inr (.inr (.inr (.inr (fun _ => none))))))) H0 H1 locs →
      W p l e R s m args below meth c H1 locs (cells + 1) (slots + N') Q (F0 m (pc + 3) ls (.ref q :: rest))) : W p l e R s m args below meth c H locs cells slots Q (F0 m pc ls (.int n :: rest)) := by
  obtain ⟨ws, hL, hP, hD, hS, hb0⟩ := hG
  refine va_newq hexec hb hown hclink hover hK hP hD hS (fun q hq => Nat.le_trans hb0 hq) hn hN hbytes hcells hslots hdg (fun q cA' H1 hK1 hP1 hD1 hS1 => ?_)
  have he : cA = cA' := gh_cA hK1 (t0 := t0) (t1 := tys.length) (by rw [List.getElem?_append_left (List.getElem?_eq_some_iff.mp ht).1]; exact ht) (by rw [List.getElem?_append_right (Nat.le_refl _), Nat.sub_self]; rfl)
  subst he
  exact kk q H1 (hL.fresh hD1) ⟨_, hL.push hD1, hP1, hD1, hS1, hb0⟩
/-- the receiver of a call -/
theorem gh_recv (hK : va_K D cl tys s) (hG : gh_P D cl b0 h H0 H locs) {a ci : Nat} {q : vw_C} {fs : List Value} (hc : cl[ci]? = some q) (he : h a = some (.inr (ci, fs))) : ∃ cell : Cell, H[a]? = some cell ∧ cell.vm.isStatics = false ∧ s.vm.findClass q.1 = some cell.cls := by
  obtain ⟨ws, hL, hP, -⟩ := hG
  obtain ⟨k0, hk0⟩ := (hL a _).mp he
  exact va_recv hK hP hc hk0
end GH
/-- what an invocation begins with, of the world h -/
def gh_Pc (D : va_G) (cl : List vw_C) (tys : List (ClassId × FieldType)) (XF : State → Prop) (b0 : Nat) (av : List Value) (h : gh_M) : Array Value → State → Prop :=
  va_Pc av (fun U => gh_P D cl b0 h U.heap U.heap [] ∧ va_K D cl tys U ∧ XF U)
/-- what it ends with -/
def gh_Qc (D : va_G) (cl : List vw_C) (b0 : Nat) (post : Outcome → gh_M → Prop) : Array Value → State → Outcome → State → Prop :=
  fun _ st oc t => ∃ h' : gh_M, post oc h' ∧ gh_P D cl b0 h' st.heap t.heap []
/-- a fact that lives in the tables and in the old heap -/
def gh_X (b0 : Nat) (XF : State → Prop) : Prop := ∀ U V : State, U.WarmedH V.vm → b0 ≤ U.heap.size → (∀ q : Nat, q < b0 → V.heap[q]? = U.heap[q]?) → XF U → XF V
def gh_C (l : Launch) (D : va_G) (cl : List vw_C) (tys : List (ClassId × FieldType)) (XF : State → Prop) (b0 : Nat) (y : MethodName) (ws : List Cond) (rm : Room) (av : List Value) (h : gh_M) (post : Outcome → gh_M → Prop) : Prop :=
  gx_Met l y ws rm (gh_Pc D cl tys XF b0 av h) (gh_Qc D cl b0 post) rm.cells rm.slots (fun q => b0 ≤ q)
section GI
variable {p : Program} {l : Launch} {e : Env} {R : Room} {s : State} {m : MethodId} {args : Array Value} {below : List Frame} {meth : Method} {c : Code} {H : Heap} {locs : List Loc} {cells slots : Nat} {Q : State → Prop}
  {D : va_G} {cl : List vw_C} {tys : List (ClassId × FieldType)} {XF : State → Prop} {b0 : Nat} {h : gh_M} {cc : ByteArray} {pc : Nat} {ls : Array Slot} {rest : List Value} {H0 : Heap}
theorem gh_P.start (hG : gh_P D cl b0 h H0 H locs) : gh_P D cl b0 h H H [] := by
  obtain ⟨ws, hL, hP, hD, hS, hb0⟩ := hG
  exact ⟨ws, hL, hP, hD, va_S.rf, Nat.le_trans hb0 hS.1⟩
theorem gh_P.size0 (hG : gh_P D cl b0 h H0 H locs) : b0 ≤ H0.size := by
  obtain ⟨ws, hL, hP, hD, hS, hb0⟩ := hG
  exact hb0
theorem gh_P.size (hG : gh_P D cl b0 h H0 H locs) : b0 ≤ H.size := by
  obtain ⟨ws, hL, hP, hD, hS, hb0⟩ := hG
  exact Nat.le_trans hb0 hS.1
theorem gh_P.old (hG : gh_P D cl b0 h H0 H locs) : ∀ q : Nat, q < b0 → H[q]? = H0[q]? := by
  obtain ⟨ws, hL, hP, hD, hS, hb0⟩ := hG
  exact fun q hq => hS.2.1 q (Nat.lt_of_lt_of_le hq hb0) (by omega)
theorem gh_P.wr (hG : gh_P D cl b0 h H0 H locs) : ∀ x ∈ locs, b0 ≤ x.base := by
  obtain ⟨ws, hL, hP, hD, hS, hb0⟩ := hG
  exact hS.2.2
theorem gh_P.low (hG : gh_P D cl b0 h H0 H locs) {a : Nat} {x : va_E} (ha : h a = some x) : b0 ≤ a := by
  obtain ⟨ws, hL, hP, hD, hS, hb0⟩ := hG
  obtain ⟨k, hk⟩ := (hL a x).mp ha
  exact hD.2 k _ hk
theorem gh_P.then {h1 : gh_M} {H1 : Heap} {L : List Loc} (hG : gh_P D cl b0 h H0 H locs) (hG1 : gh_P D cl b0 h1 H H1 []) (hL : ∀ q ∈ L, b0 ≤ q.base) : gh_P D cl b0 h1 H0 H1 (locs ++ L) := by
  obtain ⟨ws, -, -, -, hS, hb0⟩ := hG
  obtain ⟨ws1, hL1, hP1, hD1, hS1, hb1⟩ := hG1
  refine ⟨ws1, hL1, hP1, hD1, ⟨Nat.le_trans hS.1 hS1.1, fun q hq hn => (hS1.2.1 q (Nat.lt_of_lt_of_le hq hS.1) hn).trans (hS.2.1 q hq hn), fun x hx => ?_⟩, hb0⟩
  rcases List.mem_append.mp hx with h1 | h1
  · exact hS.2.2 x h1
  · exact hL x h1
theorem gh_P.ends (hG : gh_P D cl b0 h H0 H locs) : gh_P D cl b0 h H0 H [] := by
  obtain ⟨ws, hL, hP, hD, hS, hb0⟩ := hG
  exact ⟨ws, hL, hP, hD, ⟨hS.1, hS.2.1, fun _ h => absurd h List.not_mem_nil⟩, hb0⟩
theorem gh_blind {av : List Value} (hXF : gh_X b0 XF) : FrameBlind (gh_Pc D cl tys XF b0 av h) := by
  intro a U g mk q
  obtain ⟨q0, qG, qK, qX⟩ := q
  exact ⟨q0, qG, va_K.moved (u := U) (U := U.calling g mk a) (Vm.Alike.refl U.vm) qK, hXF U (U.calling g mk a) (State.WarmedH.refl U) qG.size (fun _ _ => rfl) qX⟩
theorem gh_pre {av : List Value} (hXF : gh_X b0 XF) (hG : gh_P D cl b0 h s.heap H locs) (hK : va_K D cl tys s) (hX : XF s) : ∀ U : State, U.heap = H → s.WarmedH U.vm → gh_Pc D cl tys XF b0 av h av.toArray U := by
  intro U hU hW
  exact ⟨rfl, by rw [hU]; exact hG.start, va_K.moved hW.alike hK, hXF s U hW hG.size0 (by rw [hU]; exact hG.old) hX⟩
theorem gh_go {mc ms : Nat} {st0 : List Value} {post : Outcome → gh_M → Prop} {a : Array Value} (hr : gx_Run p l e R s m args below meth c H locs cells slots mc ms (F0 m pc ls st0) rest (gh_Qc D cl b0 post a) (fun q => b0 ≤ q)) (hG : gh_P D cl b0 h s.heap H locs)
    (kr : ∀ (v : Option Value) (h' : gh_M) (H' : Heap) (locs' : List Loc), post (.returned v) h' → gh_P D cl b0 h' s.heap H' locs' → W p l e R s m args below meth c H' locs' (cells + mc) (slots + ms) Q (F0 m (pc + 3) ls (v.toList ++ rest)))
    (kt : ∀ (x : Addr) (h' : gh_M) (H' : Heap) (locs' : List Loc), post (.threw x) h' → gh_P D cl b0 h' s.heap H' locs' → gx_WT p l e R s m args below meth c H' locs' (cells + mc) (slots + ms) Q (F0 m pc ls rest) x) : W p l e R s m args below meth c H locs cells slots Q (F0 m pc ls st0) := by
  intro T hT X
  obtain ⟨o, st₀, t, T', L, e0, hW0, X', hL, e1, e2, ⟨h', hp, hG'⟩, st⟩ := hr T hT X
  rw [e0] at hG'
  have hG2 := hG.then hG' hL
  cases o with
  | returned v =>
    obtain ⟨t2, a1, b1⟩ := kr v h' t.heap (locs ++ L) hp hG2 T' e1 X'
    exact ⟨t2, st t2 a1, b1⟩
  | threw x =>
    obtain ⟨t2, a1, b1⟩ := kt x h' t.heap (locs ++ L) hp hG2 T' e1 X'
    exact ⟨t2, st t2 a1, b1⟩
/-- invokestatic by contract -/
theorem gh_cS {y : MethodName} {maxL nL n index : Nat} {ws : List Cond} {rm : Room} {own : String} {As st0 : List Value} {post : Outcome → gh_M → Prop} (hXF : gh_X b0 XF) (hx : p.tables.exec = Jvm.exec) (hb : c.code = cc) (hml : c.maxLocals = nL) (ho : s.vm.findClass own = some m.cls) (hK : va_K D cl tys s) (hX : XF s) (hG : gh_P D cl b0 h s.heap H locs)
    (hC : gh_C l D cl tys XF b0 y ws rm As h post) (cw : gx_Call R s args y maxL ws rm rm.cells rm.slots n) (hl : (Cond.methodLink own index y).before args s = true) (hst : (Cond.static y).before args s = true) (hn : As.length = n) (hsize : ls.size = nL) (hs0 : st0 = As.reverse ++ rest) (hW : (rest.map fun v => v.category).sum ≤ 8) (hdg : decode cc pc = .ok (.invokestatic index, 3)) (hf : cells + rm.cells ≤ R.cells ∧ slots + rm.slots ≤ R.slots)
    (kr : ∀ (v : Option Value) (h' : gh_M) (H' : Heap) (locs' : List Loc), post (.returned v) h' → gh_P D cl b0 h' s.heap H' locs' → W p l e R s m args below meth c H' locs' (cells + rm.cells) (slots + rm.slots) Q (F0 m (pc + 3) ls (v.toList ++ rest)))
    (kt : ∀ (x : Addr) (h' : gh_M) (H' : Heap) (locs' : List Loc), post (.threw x) h' → gh_P D cl b0 h' s.heap H' locs' → gx_WT p l e R s m args below meth c H' locs' (cells + rm.cells) (slots + rm.slots) Q (F0 m pc ls rest) x) : W p l e R s m args below meth c H locs cells slots Q (F0 m pc ls st0) :=
  gh_go (gx_runS hx hb hml ho hC cw hl hst (gh_blind hXF) (gh_pre hXF hG hK hX) rfl hn hsize hs0 (lv_room hW) hdg hf) hG kr kt
/-- invokevirtual by contract -/
theorem gh_cV {y : MethodName} {maxL nL n index ci b : Nat} {ws : List Cond} {rm : Room} {own : String} {q : vw_C} {fs : List Value} {As st0 : List Value} {post : Outcome → gh_M → Prop} (hXF : gh_X b0 XF) (hx : p.tables.exec = Jvm.exec) (hb : c.code = cc) (hml : c.maxLocals = nL) (ho : s.vm.findClass own = some m.cls) (hK : va_K D cl tys s) (hX : XF s) (hG : gh_P D cl b0 h s.heap H locs) (hc : cl[ci]? = some q) (he : h b = some (.inr (ci, fs)))
    (hC : gh_C l D cl tys XF b0 y ws rm (.ref b :: As) h post) (cw : gx_Call R s args y maxL ws rm rm.cells rm.slots n) (hl : (Cond.methodLink own index y).before args s = true) (hin : (Cond.instanceMethod y).before args s = true) (hse : (Cond.selects q.1 y y).before args s = true) (hn : As.length = n) (hsize : ls.size = nL) (hs0 : st0 = As.reverse ++ .ref b :: rest) (hW : (rest.map fun v => v.category).sum ≤ 8) (hdg : decode cc pc = .ok (.invokevirtual index, 3)) (hf : cells + rm.cells ≤ R.cells ∧ slots + rm.slots ≤ R.slots)
    (kr : ∀ (v : Option Value) (h' : gh_M) (H' : Heap) (locs' : List Loc), post (.returned v) h' → gh_P D cl b0 h' s.heap H' locs' → W p l e R s m args below meth c H' locs' (cells + rm.cells) (slots + rm.slots) Q (F0 m (pc + 3) ls (v.toList ++ rest)))
    (kt : ∀ (x : Addr) (h' : gh_M) (H' : Heap) (locs' : List Loc), post (.threw x) h' → gh_P D cl b0 h' s.heap H' locs' → gx_WT p l e R s m args below meth c H' locs' (cells + rm.cells) (slots + rm.slots) Q (F0 m pc ls rest) x) : W p l e R s m args below meth c H locs cells slots Q (F0 m pc ls st0) :=
  gh_go (gx_runV hx hb hml ho hC cw hl hin hse (gh_blind hXF) (gh_recv hK hG hc he) (gh_pre hXF hG hK hX) rfl hn hsize hs0 (lv_room hW) hdg hf) hG kr kt
/-- invokespecial <init> by contract -/
theorem gh_cI {y : MethodName} {maxL nL n index b : Nat} {ws : List Cond} {rm : Room} {own : String} {bytes : ByteArray} {As st0 : List Value} {post : Outcome → gh_M → Prop} (hXF : gh_X b0 XF) (hx : p.tables.exec = Jvm.exec) (hb : c.code = cc) (hml : c.maxLocals = nL) (ho : s.vm.findClass own = some m.cls) (hK : va_K D cl tys s) (hX : XF s) (hG : gh_P D cl b0 h s.heap H locs)
    (hC : gh_C l D cl tys XF b0 y ws rm (.ref b :: As) h post) (cw : gx_Call R s args y maxL ws rm rm.cells rm.slots n) (hl : (Cond.methodLink own index y).before args s = true) (hin : (Cond.instanceMethod y).before args s = true) (hy1 : y.name = "<init>") (hcode : (Cond.code y bytes maxL none).before args s = true) (hn : As.length = n) (hsize : ls.size = nL) (hs0 : st0 = As.reverse ++ .ref b :: rest) (hW : (rest.map fun v => v.category).sum ≤ 8) (hdg : decode cc pc = .ok (.invokespecial index, 3)) (hf : cells + rm.cells ≤ R.cells ∧ slots + rm.slots ≤ R.slots)
    (kr : ∀ (v : Option Value) (h' : gh_M) (H' : Heap) (locs' : List Loc), post (.returned v) h' → gh_P D cl b0 h' s.heap H' locs' → W p l e R s m args below meth c H' locs' (cells + rm.cells) (slots + rm.slots) Q (F0 m (pc + 3) ls (v.toList ++ rest)))
    (kt : ∀ (x : Addr) (h' : gh_M) (H' : Heap) (locs' : List Loc), post (.threw x) h' → gh_P D cl b0 h' s.heap H' locs' → gx_WT p l e R s m args below meth c H' locs' (cells + rm.cells) (slots + rm.slots) Q (F0 m pc ls rest) x) : W p l e R s m args below meth c H locs cells slots Q (F0 m pc ls st0) :=
  gh_go (gx_runI hx hb hml ho hC cw hl hin hy1 hcode (gh_blind hXF) (gh_pre hXF hG hK hX) rfl hn hsize hs0 (lv_room hW) hdg hf) hG kr kt
/-- the ends -/
theorem gh_iret {post : Outcome → gh_M → Prop} {v : Int32} {ty : FieldType} (hx : p.tables.exec = Jvm.exec) (hb : c.code = cc) (hr : meth.sig.returnType = some ty) (hlocks : meth.locks = false) (hn : narrow ty (.int v) = .int v) (hG : gh_P D cl b0 h s.heap H locs) (hdg : decode cc pc = .ok (.ireturn, 1)) (hp : post (.returned (some (.int v))) h) :
    W p l e R s m args below meth c H locs cells slots (gx_MQ below (gh_Qc D cl b0 post) args s cells slots (fun q => b0 ≤ q)) (F0 m pc ls [.int v]) :=
  gx_mono gx_MQ_of (W.zret hx hb hr hn (fun t ht _ => ⟨h, hp, by rw [ht]; exact hG.ends⟩) hG.wr hdg hlocks)
theorem gh_lret {post : Outcome → gh_M → Prop} {v : Int64} (hx : p.tables.exec = Jvm.exec) (hb : c.code = cc) (hr : meth.sig.returnType = some .long) (hlocks : meth.locks = false) (hG : gh_P D cl b0 h s.heap H locs) (hdg : decode cc pc = .ok (.lreturn, 1)) (hp : post (.returned (some (.long v))) h) :
    W p l e R s m args below meth c H locs cells slots (gx_MQ below (gh_Qc D cl b0 post) args s cells slots (fun q => b0 ≤ q)) (F0 m pc ls [.long v]) :=
  gx_mono gx_MQ_of (W.lret hx hb hr (fun t ht _ => ⟨h, hp, by rw [ht]; exact hG.ends⟩) hG.wr hdg hlocks)
theorem gh_aret {post : Outcome → gh_M → Prop} {a : Nat} {rt : FieldType} (hx : p.tables.exec = Jvm.exec) (hb : c.code = cc) (hr : meth.sig.returnType = some rt) (hlocks : meth.locks = false) (hrt : (∃ n, rt = .object n) ∨ ∃ t, rt = .array t) (hG : gh_P D cl b0 h s.heap H locs) (hdg : decode cc pc = .ok (.areturn, 1)) (hp : post (.returned (some (.ref a))) h) :
    W p l e R s m args below meth c H locs cells slots (gx_MQ below (gh_Qc D cl b0 post) args s cells slots (fun q => b0 ≤ q)) (F0 m pc ls [.ref a]) :=
  gx_mono gx_MQ_of (W.aret hx hb hr hrt (Or.inr ⟨a, rfl⟩) (fun t ht _ => ⟨h, hp, by rw [ht]; exact hG.ends⟩) hG.wr hdg hlocks)
theorem gh_vret {post : Outcome → gh_M → Prop} (hx : p.tables.exec = Jvm.exec) (hb : c.code = cc) (hr : meth.sig.returnType = none) (hlocks : meth.locks = false) (hG : gh_P D cl b0 h s.heap H locs) (hdg : decode cc pc = .ok (.return_, 1)) (hp : post (.returned none) h) :
    W p l e R s m args below meth c H locs cells slots (gx_MQ below (gh_Qc D cl b0 post) args s cells slots (fun q => b0 ≤ q)) (F0 m pc ls []) :=
  gx_mono gx_MQ_of (W.vret hx hb hr (fun t ht _ => ⟨h, hp, by rw [ht]; exact hG.ends⟩) hG.wr hdg hlocks)
theorem gh_tret {post : Outcome → gh_M → Prop} {a : Nat} {st : List Value} (hx : p.tables.exec = Jvm.exec) (hb : c.code = cc) (hlocks : meth.locks = false) (hout : ∀ x ∈ c.exceptionTable.toList, covers x pc = false) (hG : gh_P D cl b0 h s.heap H locs) (hdg : decode cc pc = .ok (.athrow, 1)) (hp : post (.threw a) h) :
    W p l e R s m args below meth c H locs cells slots (gx_MQ below (gh_Qc D cl b0 post) args s cells slots (fun q => b0 ≤ q)) (F0 m pc ls (.ref a :: st)) :=
  gx_athrow hx hb hout hlocks hdg (fun t ht _ => ⟨h, hp, by rw [ht]; exact hG.ends⟩) hG.wr
theorem gh_pass {post : Outcome → gh_M → Prop} {a : Nat} {st : List Value} (hlocks : meth.locks = false) (hout : ∀ x ∈ c.exceptionTable.toList, covers x pc = false) (hG : gh_P D cl b0 h s.heap H locs) (hp : post (.threw a) h) :
    gx_WT p l e R s m args below meth c H locs cells slots (gx_MQ below (gh_Qc D cl b0 post) args s cells slots (fun q => b0 ≤ q)) (F0 m pc ls st) a :=
  gx_leave hout hlocks (fun t ht _ => ⟨h, hp, by rw [ht]; exact hG.ends⟩) hG.wr
end GI
/-- outcomes -/
def rI (r : Int32) (h : gh_M) : Outcome → gh_M → Prop := fun oc h' => oc = .returned (some (.int r)) ∧ h' = h
def rL (r : Int64) (h : gh_M) : Outcome → gh_M → Prop := fun oc h' => oc = .returned (some (.long r)) ∧ h' = h
def rA (r : Nat) (h : gh_M) : Outcome → gh_M → Prop := fun oc h' => oc = .returned (some (.ref r)) ∧ h' = h
def rV (h : gh_M) : Outcome → gh_M → Prop := fun oc h' => oc = .returned none ∧ h' = h
/-- what is fixed while a method runs -/
def gh_ctx (p : Program) (s : State) (m : MethodId) (args : Array Value) (meth : Method) (c : Code) (cc : ByteArray) (nL : Nat) (ret : Option FieldType) (y : MethodName) (ws : List Cond) : Prop :=
  p.tables.exec = Jvm.exec ∧ c.code = cc ∧ meth.sig.returnType = ret ∧ c.maxLocals = nL ∧ s.vm.findClass y.cls = some m.cls ∧ meth.locks = false ∧ (∀ w ∈ ws, w.before args s = true) ∧ meth.name = y.name
theorem gh_ofW {l : Launch} {D : va_G} {cl : List vw_C} {tys : List (ClassId × FieldType)} {XF : State → Prop} {b0 : Nat} {y : MethodName} {ws : List Cond} {rm : Room} {av : List Value} {h : gh_M} {post : Outcome → gh_M → Prop} {cc : ByteArray} {maxL : Nat} {ret : Option FieldType} (hy : plainName y.cls = true) (hlen : (lg_sl av).length ≤ maxL)
    (body : ∀ p e s m below meth c ls, gh_ctx p s m av.toArray meth c cc maxL ret y (Cond.code y cc maxL ret :: ws) → (∀ x ∈ c.exceptionTable.toList, ∀ pc, covers x pc = false) → lv_has ls maxL (lv_args 0 av) → gh_P D cl b0 h s.heap s.heap [] → va_K D cl tys s → XF s →
      W p l e rm s m av.toArray below meth c s.heap [] 0 0 (gx_MQ below (gh_Qc D cl b0 post) av.toArray s rm.cells rm.slots (fun q => b0 ≤ q)) (F0 m 0 ls [])) : gh_C l D cl tys XF b0 y (Cond.code y cc maxL ret :: ws) rm av h post := by
  refine gx_ofW (cc := cc) (maxL := maxL) (ret := ret) hy rfl ?_
  intro p e s m args below meth c s₁ B hml hno hv
  obtain ⟨rfl, hG, hK, hX⟩ := hv
  have hl := lv_entry av (n := maxL) hlen
  rw [lg_entry_eq]
  exact body p e s m below meth c _ ⟨B.exec, B.bytes, B.returns, hml, findClass_of_methodNamed B.named, B.notSynchronized, atoms_spec (ws := Cond.code y cc maxL ret :: ws) B.pre, (name_of_methodNamed B.named B.method).1⟩ hno hl hG hK hX
theorem gh_ofWh {l : Launch} {D : va_G} {cl : List vw_C} {tys : List (ClassId × FieldType)} {XF : State → Prop} {b0 : Nat} {y : MethodName} {ws : List Cond} {rm : Room} {av : List Value} {h : gh_M} {post : Outcome → gh_M → Prop} {cc : ByteArray} {maxL : Nat} {ret : Option FieldType} {hs : List (Nat × Nat × Nat × Nat)} (hy : plainName y.cls = true) (hlen : (lg_sl av).length ≤ maxL)
    (body : ∀ p e s m below meth c ls, gh_ctx p s m av.toArray meth c cc maxL ret y (Cond.codeWith y cc maxL ret hs :: ws) → c.exceptionTable.toList = tableOf hs → lv_has ls maxL (lv_args 0 av) → gh_P D cl b0 h s.heap s.heap [] → va_K D cl tys s → XF s →
      W p l e rm s m av.toArray below meth c s.heap [] 0 0 (gx_MQ below (gh_Qc D cl b0 post) av.toArray s rm.cells rm.slots (fun q => b0 ≤ q)) (F0 m 0 ls [])) : gh_C l D cl tys XF b0 y (Cond.codeWith y cc maxL ret hs :: ws) rm av h post := by
  refine gx_ofWh (cc := cc) (maxL := maxL) (ret := ret) hy rfl ?_
  intro p e s m args below meth c s₁ B hml hno hv
  obtain ⟨rfl, hG, hK, hX⟩ := hv
  have hl := lv_entry av (n := maxL) hlen
  rw [lg_entry_eq]
  exact body p e s m below meth c _ ⟨B.exec, B.bytes, B.returns, hml, findClass_of_methodNamed B.named, B.notSynchronized, atoms_spec (ws := Cond.codeWith y cc maxL ret hs :: ws) B.pre, (name_of_methodNamed B.named B.method).1⟩ hno hl hG hK hX
