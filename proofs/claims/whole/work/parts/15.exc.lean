/-! An exception with a message is made: the call of its constructor, traces being off. -/
section XC
variable {p : Program} {l : Launch} {e : Env} {R : Room} {s : State} {m : MethodId} {args : Array Value} {below : List Frame} {meth : Method} {c : Code} {H : Heap} {locs : List Loc} {cells slots : Nat} {Q : State → Prop}
/-- traces are off on this launch -/
def xc_off (l : Launch) : Prop := ∀ e : Env, l.admits e → e.platform.stackTraces = false
/-- the words of an exception's making, its constructors' chain apart -/
def xcA (own : String) (ic : Nat) (X : String) : List Cond :=
  Bundle.throwableAtoms ++ Bundle.throwableSAtoms ++
  [.methodLink own ic (Bundle.initS X), .instantiable X 6, .castable X X, .selects X Bundle.tFill0 Bundle.tFill0, .selects X Bundle.tFill Bundle.tFill,
   .lays X Bundle.tN "cause" "Ljava/lang/Throwable;", .lays X Bundle.tN "stackTrace" Bundle.steD, .lays X Bundle.tN "suppressedExceptions" Bundle.listD, .lays X Bundle.tN "detailMessage" "Ljava/lang/String;",
   .isRef (.static Bundle.tN "UNASSIGNED_STACK" Bundle.steD), .isRef (.static Bundle.tN "SUPPRESSED_SENTINEL" Bundle.listD),
   .fieldLink Bundle.tN 198 Bundle.tN "backtrace" "Ljava/lang/Object;", .lays Bundle.tN Bundle.tN "backtrace" "Ljava/lang/Object;", .lays X Bundle.tN "backtrace" "Ljava/lang/Object;"]
/-- the chain: the first constructor by its own bytes, the rest as the library has it -/
theorem xc_chain {pl : Platform} (hpl : pl.magicAccessors = ({} : Platform).magicAccessors) {top : MethodId} (htop : s.methodNamed? (Bundle.initS Bundle.tN) = some top) {X Y : String} {r : List String} {index : Nat} {bytes : ByteArray} (hX : Bundle.fit X = true) (hY : Bundle.fit Y = true) (hr : ∀ n ∈ r, Bundle.fit n = true)
    (h0 : decode bytes 0 = .ok (.aload_n 0, 1)) (h1 : decode bytes 1 = .ok (.aload_n 1, 1)) (h2 : decode bytes 2 = .ok (.invokespecial index, 3)) (h5 : decode bytes 5 = .ok (.return_, 1))
    (ha : ∀ c ∈ Bundle.passSAtoms X Y index bytes, c.before args s = true) (hb : ∀ c ∈ Bundle.chainSAtoms Y r, c.before args s = true) :
    ∃ (P1 : PassC) (Ps : List PassC), Ps.length = r.length + 1 ∧ P1.LinksS pl s ∧ (∀ P, P ∈ Ps → P.LinksS pl s) ∧ s.methodNamed? (Bundle.initS X) = some P1.m ∧ P1.sup = firstOf top (Ps.map (·.toPassT)) ∧ PassesOn top (Ps.map (·.toPassT)) := by
  obtain ⟨P, L, hm, hs⟩ := PassC.ofS_atoms (args := args) (s := s) hpl (X := X) (Y := Y) (Bundle.fit_spec hX).1 (Bundle.fit_spec hY).2 h0 h1 h2 h5 ha
  obtain ⟨P', Ps, hlen, L', hL, hm', hsup, hpass⟩ := Bundle.chainS (args := args) hpl htop r Y hY hr hb
  refine ⟨P, P' :: Ps, by simp [hlen], L, ?_, hm, Option.some.inj (hs.symm.trans hm'), hsup, hpass⟩
  intro Q hQ
  rcases List.mem_cons.mp hQ with rfl | hQ
  · exact L'
  · exact hL Q hQ
set_option maxHeartbeats 4000000 in
theorem xc_init {cc : ByteArray} (hexec : p.tables.exec = Jvm.exec) (hb : c.code = cc) (htr : xc_off l) {own cls sup : String} {names : List String} {ic index : Nat} {bytes : ByteArray}
    (hown : s.vm.findClass own = some m.cls) (hcls : Jvm.Bundle.fit cls = true) (hsup : Jvm.Bundle.fit sup = true) (hnames : ∀ n ∈ names, Jvm.Bundle.fit n = true)
    (b0 : decode bytes 0 = .ok (.aload_n 0, 1)) (b1 : decode bytes 1 = .ok (.aload_n 1, 1)) (b2 : decode bytes 2 = .ok (.invokespecial index, 3)) (b5 : decode bytes 5 = .ok (.return_, 1))
    (h : ∀ a ∈ xcA own ic cls, a.before args s = true) (hpa : ∀ a ∈ Bundle.passSAtoms cls sup index bytes, a.before args s = true) (hch : ∀ a ∈ Bundle.chainSAtoms sup names, a.before args s = true)
    {A : Nat → Prop} (hlocs : ∀ x ∈ locs, A x.base) (hL0 : vx_L Bundle.tN "UNASSIGNED_STACK" Bundle.steD A s s.heap)
    {a : Addr} {cX : ClassId} {kX : Class} (hfoundX : s.vm.findClass cls = some cX) (hkX : s.vm.classes[cX]? = some kX) (hcell : H[a]? = some (freshCell cX kX)) (hnew : s.heap.size ≤ a)
    {msg : Value} (hmsg : msg.isRef = true) {pc : Nat} {ls : Array Slot} {rest : List Value} (hsize : ls.size = c.maxLocals)
    (hd6 : decode cc pc = .ok (.invokespecial ic, 3))
    (hRframes : names.length + 4 < R.frames) (hRlocals : (rest.map fun v => v.category).sum + (13 * (names.length + 2) + 42) ≤ R.locals)
    (kk : ∀ (H1 : Heap) (ce : Cell), H1[a]? = some ce → ce.cls = cX → ce.vm = .none → H1.size = H.size → (∀ q : Nat, q ≠ a → H1[q]? = H[q]?) → W p l e R s m args below meth c H1 locs cells slots Q (F0 m (pc + 3) ls rest)) :
    W p l e R s m args below meth c H locs cells slots Q (F0 m pc ls (msg :: .ref a :: rest)) := by
  intro V hV X
  subst hV
  subst hb
  have htr := htr e X.admits
  have howns : e.platform.frameOwnsMonitors = true := by rw [X.admits.platform]
  have hfin : e.platform.finalization = false := by rw [X.admits.platform]
  have hpl : e.platform.magicAccessors = ({} : Platform).magicAccessors := by rw [X.admits.platform]
  have a' : ∀ x, x ∈ xcA own ic cls → x.holds args s none s [] = true := fun x hx => h x hx
  obtain ⟨T, Z0, L, -, Y⟩ := ThrowableC.of_atoms (args := args) howns hfin hpl (fun x hx => h x (by simp [xcA, hx]))
  obtain ⟨Z, M, LZ, LM, hnZ⟩ := Init0T.ofS_atoms (args := args) hpl L Y (fun x hx => h x (by simp [xcA, hx]))
  obtain ⟨P1, Ps, hlen, L1, hL, hP1m, hlink1, hlink⟩ := xc_chain (args := args) hpl hnZ hcls hsup hnames b0 b1 b2 b5 hpa hch
  have hfound : s.vm.findClass cls = some P1.m.cls := findClass_of_methodNamed hP1m
  cases Option.some.inj (hfoundX.symm.trans hfound)
  obtain ⟨c1, kX', hc1, hk, hord, -, -, hn6⟩ := Cond.instantiable_spec (a' (.instantiable cls 6) (by simp [xcA]))
  cases Option.some.inj (hc1.symm.trans hfound)
  cases Option.some.inj (hkX.symm.trans hk)
  have hsel : ∀ (f : MethodName) (fm : MethodId), (Cond.selects cls f f) ∈ xcA own ic cls → s.methodNamed? f = some fm → (f.cls ≠ "java/lang/invoke/MethodHandle" ∧ f.cls ≠ "java/lang/invoke/VarHandle") → selectMethod e.platform s.vm P1.m.cls fm = .method fm := by
    intro f fm hf hn hne
    obtain ⟨c2, r2, m2, q1, q2, q3, q4, -⟩ := Cond.selects_spec (a' _ hf)
    cases Option.some.inj (q1.symm.trans hfound)
    cases Option.some.inj (q2.symm.trans (State.methodFound?_of_named hn hne))
    cases Option.some.inj (q3.symm.trans hn)
    rw [Launch.admits_selectMethod X.admits]; exact q4
  have hsel0 := hsel Jvm.Bundle.tFill0 T.fill0 (by simp [xcA]) Y.fill0 (by decide)
  have hselF := hsel Jvm.Bundle.tFill T.fill (by simp [xcA]) Y.fill (by decide)
  obtain ⟨cellS0, hcS0, hiss⟩ := Y.statics
  obtain ⟨u0, hu0⟩ := Cond.staticRefV Y.unassigned L.unassignedStatic L.statics hcS0 hiss (a' (.isRef (.static Jvm.Bundle.tN "UNASSIGNED_STACK" Jvm.Bundle.steD)) (by simp [xcA]))
  obtain ⟨sen, hsen⟩ := Cond.staticRefV Y.sentinel L.sentinelStatic L.statics hcS0 hiss (a' (.isRef (.static Jvm.Bundle.tN "SUPPRESSED_SENTINEL" Jvm.Bundle.listD)) (by simp [xcA]))
  obtain ⟨ci198, i198, fB, hk198, hg198, ha198, hsB, -, hnB, htB, hffB⟩ := Cond.ownField (t := .object "java/lang/Object") Y.found L.cls (by decide +kernel) (a' (.fieldLink Jvm.Bundle.tN 198 Jvm.Bundle.tN "backtrace" "Ljava/lang/Object;") (by simp [xcA])) (a' (.lays Jvm.Bundle.tN Jvm.Bundle.tN "backtrace" "Ljava/lang/Object;") (by simp [xcA])) e.platform hpl
  obtain ⟨cellS, hcS', heS, -, hkeep⟩ := X.same.2.2.2.2.2 T.aS cellS0 hcS0
  have hcellS : V.heap[T.aS]? = some cellS := hcS'
  have hout' : ∀ i, (⟨T.aS, i⟩ : Loc) ∉ locs := fun i hmem => by
    obtain ⟨c9, k9, i9, f9, a9, cell9, g1, g2, g3, g4, -, -, -, -, -, g10⟩ := hL0
    have e9 := g2.symm.trans Y.unassigned
    simp only [Option.some.injEq, Prod.mk.injEq] at e9
    have e8 : some a9 = some T.aS := by rw [← g4, e9.2.1]; exact L.statics
    cases e8
    exact g10 (hlocs _ hmem)
  have hknownS : cellS.vm ≠ .unknown := by
    rw [heS]; intro hu
    rw [show cellS0.vm = .unknown from hu] at hiss
    cases hiss
  have hneS : T.aS ≠ a := Nat.ne_of_lt (Nat.lt_of_lt_of_le (Array.getElem?_eq_some_iff.mp hcS0).1 hnew)
  obtain ⟨iM, hffM⟩ := Y.msg
  obtain ⟨tyC, dC, hdC, hdnC⟩ := Cond.laysAt hfound hk Y.cause (a' (.lays cls Jvm.Bundle.tN "cause" "Ljava/lang/Throwable;") (by simp [xcA]))
  obtain ⟨tyS, dS, hdS, hdnS⟩ := Cond.laysAt hfound hk Y.stack (a' (.lays cls Jvm.Bundle.tN "stackTrace" Jvm.Bundle.steD) (by simp [xcA]))
  obtain ⟨tyP, dP, hdP, hdnP⟩ := Cond.laysAt hfound hk Y.supp (a' (.lays cls Jvm.Bundle.tN "suppressedExceptions" Jvm.Bundle.listD) (by simp [xcA]))
  obtain ⟨tyM, dM, hdM, hdnM⟩ := Cond.laysAt hfound hk hffM (a' (.lays cls Jvm.Bundle.tN "detailMessage" "Ljava/lang/String;") (by simp [xcA]))
  obtain ⟨tyB, dB, hdB, hdnB⟩ := Cond.laysAt hfound hk hffB (a' (.lays cls Jvm.Bundle.tN "backtrace" "Ljava/lang/Object;") (by simp [xcA]))
  have bC := Cond.laysApart hdB hdC hdnB hdnC (by rw [hnB, Y.causeName]; decide)
  have bS := Cond.laysApart hdB hdS hdnB hdnS (by rw [hnB, Y.stackName]; decide)
  have bP := Cond.laysApart hdB hdP hdnB hdnP (by rw [hnB, Y.suppName]; decide)
  have hskip : SkipFacts T e.platform s (fun u => u) u0 ((preparedCellV T.toThrowableT (freshCell P1.m.cls kX) a u0 sen).withEntry V.cur) :=
    ⟨{ ci198 := ci198, i198 := i198, fBack := fB }, ⟨hk198, hg198, ha198, hsB⟩, by
      have := fresh_default (c := P1.m.cls) tyB
      rw [htB] at this
      simpa [preparedCellV, Cell.setSlot, Cell.withEntry, Array.getElem?_setIfInBounds, bC, bS, bP, bC.symm, bS.symm, bP.symm, defaultValue] using this, fun _ _ => rfl⟩
  obtain ⟨tm, methC, cdC, kC, vm₁, hnC, -, -, -, -, -, -, -, hW₁, st1⟩ := Steps.initColdS (tb := p.tables) (e := e) (below := below) (s := s) (U := V) X.here hexec X.warmed hpl hown (t := Jvm.Bundle.initS cls) rfl rfl (Jvm.Bundle.fit_spec hcls).2
    (a' (.methodLink own ic (Jvm.Bundle.initS cls)) (by simp [xcA])) (hpa (.instanceMethod (Jvm.Bundle.initS cls)) (by simp [Bundle.passSAtoms])) (bytes := bytes) (maxL := 2) (hpa (.code (Jvm.Bundle.initS cls) bytes 2 none) (by simp [Bundle.passSAtoms]))
    (f := F0 m pc ls (msg :: .ref a :: rest)) rfl (a := a) (msg := msg) (rest := rest) rfl hd6
  cases Option.some.inj (hnC.symm.trans hP1m)
  have X₁ := X.noted hW₁
  obtain ⟨vm₂, X₂, st2⟩ := X₁.ctorMessageOffV hexec (g := F0 m pc ls rest) rfl hsize T L Z LZ M LM (P1 :: Ps)
    (fun P hP => by rcases List.mem_cons.mp hP with rfl | hP; exact L1; exact hL P hP) ⟨hlink1, hlink⟩ (u0 := u0) (sen := sen) (self := a) hmsg (cell := freshCell P1.m.cls kX) (cellS := cellS)
    hcell (fun _ => by simp) (by simp) rfl rfl hsel0 hselF hcellS hneS hknownS (by rw [hkeep _ (hout' _)]; exact hu0) (by rw [hkeep _ (hout' _)]; exact hsen)
    (Takes.of_laid hk hord tyC (by rw [Y.causeType]; rfl)) (Takes.of_laid hk hord tyS (by rw [Y.stackType]; exact fits_refV_array _ u0)) (Takes.of_laid hk hord tyP (by rw [Y.suppType]; exact fits_refV_object _ sen))
    (Takes.of_laid hk hord tyM (by rw [Y.msgType]; exact fits_refV_object _ ⟨msg, hmsg⟩)) Y.objLocals hskip htr [] hd6
    (by simp only [List.length_cons, hlen]; omega) (by simp only [List.length_cons, hlen]; show 2 * 0 + _ + _ ≤ _; omega)
  have hlt : a < ((V.setVm vm₁).setVm vm₂).heap.size := (Array.getElem?_eq_some_iff.mp hcell).1
  have hU := heapAt_setCell_self (s := (V.setVm vm₁).setVm vm₂) (plainBareV T.toThrowableT (freshCell P1.m.cls kX) a u0 sen msg) hlt
  have X₃ := X₂.forget (fun y hy => by
    simp only [List.mem_cons, List.not_mem_nil, or_false] at hy
    rcases hy with rfl | rfl | rfl | rfl | rfl <;> exact hnew)
  obtain ⟨t, q1, q2⟩ := kk _ _ hU rfl rfl (size_setCell _ _ _) (fun q hq => heapAt_setCell_ne _ (Ne.symm hq)) _ rfl X₃
  refine ⟨t, st1 _ (fun acts => ?_), q2⟩
  rw [doInvoke_state]
  exact st2 _ q1
/-- the words of the exceptions that stay good by themselves -/
def xB : List Cond := xE.map (fun E => Cond.castable E E) ++ xD.map Cond.declares
theorem xB_ok {b0 : Nat} (hX : xF b0 s) : ∀ w ∈ xB, w.before args s = true := by
  intro w hw
  rcases List.mem_append.mp hw with h | h
  · obtain ⟨E, hE, rfl⟩ := List.mem_map.mp h
    exact va_Nw.use rfl (hX.2.2.2.1 E hE)
  · obtain ⟨y, hy, rfl⟩ := List.mem_map.mp h
    exact va_Nw.use rfl (hX.2.2.2.2.2.1 y hy)
abbrev xN : List String := ["java/lang/Exception"]
abbrev xR : String := "java/lang/RuntimeException"
/-- the words of a throw of X, but those that speak of the heap -/
def xcB (own : String) (ic : Nat) (X : String) (index : Nat) (bytes : ByteArray) : List Cond := (xcA own ic X ++ (Bundle.passSAtoms X xR index bytes ++ Bundle.chainSAtoms xR xN)).filter vx_no
set_option maxRecDepth 100000 in
theorem at_IA : ∀ w ∈ xcB R_X 38 R_IA 7 Bundle.six, w ∈ tB ∨ w ∈ xB := by decide +kernel
set_option maxRecDepth 100000 in
theorem at_IS : ∀ w ∈ xcB R_X 59 R_IS 7 Bundle.six, w ∈ tB ∨ w ∈ xB := by decide +kernel
set_option maxRecDepth 100000 in
theorem at_IO : ∀ w ∈ xcB R_X 96 R_IO 7 Bundle.six, w ∈ tB ∨ w ∈ xB := by decide +kernel
set_option maxRecDepth 100000 in
theorem at_NS : ∀ w ∈ xcB R_X 127 R_NS 13 prog_16_method_4_code, w ∈ tB ∨ w ∈ xB := by decide +kernel
set_option maxHeartbeats 4000000 in
/-- throw new E("text") in a method of the class -/
theorem gh_thr {D : va_G} {tys : List (ClassId × FieldType)} {b0 : Nat} {h : gh_M} {cc : ByteArray} {pc nL ci ik is ic : Nat} {ls : Array Slot} {rest : List Value} {post : Outcome → gh_M → Prop} {E text : String} (hx : p.tables.exec = Jvm.exec) (hb : c.code = cc) (htr : xc_off l) (hlk : meth.locks = false) (hno : ∀ x ∈ c.exceptionTable.toList, ∀ pc, covers x pc = false) (hml : c.maxLocals = nL) (hsize : ls.size = nL) (hown : s.vm.findClass R_X = some m.cls)
    (htb : ∀ w ∈ tB, w.before args s = true) (hK : va_K D vC tys s) (hX : xF b0 s) (hG : gh_P D vC b0 h s.heap H locs) (hci : vC[ci]? = some (E, T_0, 0)) (hfit : Bundle.fit E = true) (hk : Cond.classLink R_X ik E ∈ tB) (hini : Cond.initialized E ∈ tB) (hins : Cond.instantiable E 6 ∈ tB) (hstr : (is, text) ∈ xS) {index : Nat} {bytes : ByteArray} (b0' : decode bytes 0 = .ok (.aload_n 0, 1)) (b1' : decode bytes 1 = .ok (.aload_n 1, 1)) (b2' : decode bytes 2 = .ok (.invokespecial index, 3)) (b5' : decode bytes 5 = .ok (.return_, 1)) (hat : ∀ w ∈ xcB R_X ic E index bytes, w ∈ tB ∨ w ∈ xB)
    (d0 : decode cc pc = .ok (.new ik, 3)) (d3 : decode cc (pc + 3) = .ok (.dup, 1)) (d4 : decode cc (pc + 4) = .ok (.ldc is, 2)) (d6 : decode cc (pc + 6) = .ok (.invokespecial ic, 3)) (d9 : decode cc (pc + 9) = .ok (.athrow, 1))
    (hRframes : 5 < R.frames) (hRlocals : (rest.map fun v => v.category).sum + 82 ≤ R.locals) (hRcells : cells + 1 ≤ R.cells) (hRslots : slots + 6 ≤ R.slots)
    (hp : ∀ q : Nat, h q = none → post (.threw q) (gh_up h q (.inr (ci, [])))) :
    W p l e R s m args below meth c H locs cells slots (gx_MQ below (gh_Qc D vC b0 post) args s (cells + 1) (slots + 6) (fun q => b0 ≤ q)) (F0 m pc ls rest) := by
  have hown' : ∀ w ∈ xcA R_X ic E ++ (Bundle.passSAtoms E xR index bytes ++ Bundle.chainSAtoms xR xN), w.before args s = true := vx_own (fun w hw => (hat w hw).elim (htb w) (xB_ok hX w)) (vx_isRefq hX.2.2.2.2.2.2.1.1.1) (vx_isRefq hX.2.2.2.2.2.2.1.2.1) hX.2.2.2.2.2.2.1.1.2.word hX.2.2.2.2.2.2.1.2.2.word
  have hKn := hK.1 ci _ hci
  have hcl : s.vm.findClass E = some (D.1 ci) := hKn.2.1
  refine W.newcK hx hb hown (htb _ hk) (htb _ hins) (htb _ hini) rfl d0 hRcells hRslots hcl rfl fun H1 kC hkC e1 z1 o1 => ?_
  refine W.eq (g2 := F0 m (pc + 3) ls (.ref H.size :: rest)) rfl ?_
  refine lv_dup hx hb d3 rfl ?_
  obtain ⟨sa, hsa⟩ := hX.2.2.2.2.2.2.2 (is, text) hstr
  refine va_ldcS hx hb hown hsa d4 ?_
  obtain ⟨ws, hL, hP, hD, hS, hb0⟩ := hG
  refine xc_init (names := xN) (sup := xR) (A := fun q => b0 ≤ q) hx hb htr hown hfit (by decide +kernel) (by decide +kernel) b0' b1' b2' b5' (fun w hw => hown' w (List.mem_append_left _ hw)) (fun w hw => hown' w (List.mem_append_right _ (List.mem_append_left _ hw))) (fun w hw => hown' w (List.mem_append_right _ (List.mem_append_right _ hw))) hS.2.2 hX.2.2.2.2.2.2.1.1.2 hcl hkC (a := H.size) e1 hS.1 rfl (hsize.trans hml.symm) d6 (by simpa using hRframes) (by simp only [List.map_cons, List.sum_cons]; show 1 + _ + (13 * 3 + 42) ≤ _; omega) fun H2 ce f1 f2 f3 f4 f5 => ?_
  have hfr : h H.size = none := by
    cases hh : h H.size with
    | none => rfl
    | some x =>
      obtain ⟨j, hj⟩ := (hL _ _).mp hh
      exact absurd (hP j _ hj).lt (Nat.lt_irrefl _)
  have hD2 : va_D (fun q => b0 ≤ q) (ws ++ [(H.size, .inr (ci, []))]) := hD.push hP rfl (Nat.le_trans hb0 hS.1)
  have hk2 : ∀ (k : Nat) (x : Nat × va_E), ws[k]? = some x → H2[x.1]? = H[x.1]? := fun k x hx9 => by
    have hlt := (hP k x hx9).lt
    rw [f5 x.1 (Nat.ne_of_lt hlt)]
    exact o1 x.1 hlt
  have hP2 : va_P D vC (ws ++ [(H.size, .inr (ci, []))]) H2 := (hP.kept hk2).app (fun k x hx9 => by
    have hz : k < 1 := (List.getElem?_eq_some_iff.mp hx9).1
    rw [show k = 0 by omega] at hx9
    cases hx9
    exact ⟨_, hci, ce, f1, f2, f3, fun j hj => absurd hj (Nat.not_lt_zero j)⟩)
  have hS2 : va_S (fun q => b0 ≤ q) s.heap H2 locs := ⟨by rw [f4, z1]; exact Nat.le_trans hS.1 (Nat.le_succ _), fun x h1 h2 => by
    rw [f5 x (by have := hS.1; omega), o1 x (Nat.lt_of_lt_of_le h1 hS.1)]
    exact hS.2.1 x h1 h2, hS.2.2⟩
  exact gh_tret hx hb hlk (fun x hx9 => hno x hx9 _) ⟨_, hL.push hD2, hP2, hD2, hS2, hb0⟩ d9 (hp H.size hfr)
end XC
