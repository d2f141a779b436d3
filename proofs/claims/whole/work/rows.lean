section
-- ===== PART A: goes FIRST, ahead of the names: the tables' words, and 'selects' of the private methods out of them =====
/-- a private method of a class that the tables say can be made, by its rows of tables_1 -/
def lw_okq (q : MethodName × Nat) : Prop := (q.1.cls ≠ "java/lang/invoke/MethodHandle" ∧ q.1.cls ≠ "java/lang/invoke/VarHandle") ∧ Cond.instantiable q.1.cls q.2 ∈ tables_1 ∧ Cond.privateMethod q.1 ∈ tables_1 ∧ Cond.instanceMethod q.1 ∈ tables_1
theorem lw_p0 : lw_okq (⟨"CarvedSolids$Planes", "firstOneWith", "(LCarvedSolids$Plane;)I"⟩, 3) := ⟨⟨by decide +kernel, by decide +kernel⟩, List.mem_of_getElem? (i := 24) (by decide +kernel), List.mem_of_getElem? (i := 56) (by decide +kernel), List.mem_of_getElem? (i := 57) (by decide +kernel)⟩
theorem lw_p1 : lw_okq (⟨"java/lang/Throwable", "fillInStackTrace", "(I)Ljava/lang/Throwable;"⟩, 6) := ⟨⟨by decide +kernel, by decide +kernel⟩, List.mem_of_getElem? (i := 183) (by decide +kernel), List.mem_of_getElem? (i := 181) (by decide +kernel), List.mem_of_getElem? (i := 182) (by decide +kernel)⟩
theorem lw_p2 : lw_okq (⟨"CarvedSolids", "requireRoom", "()V"⟩, 4) := ⟨⟨by decide +kernel, by decide +kernel⟩, List.mem_of_getElem? (i := 16) (by decide +kernel), List.mem_of_getElem? (i := 247) (by decide +kernel), List.mem_of_getElem? (i := 248) (by decide +kernel)⟩
theorem lw_p3 : lw_okq (⟨"CarvedSolids", "requireSolid", "()V"⟩, 4) := ⟨⟨by decide +kernel, by decide +kernel⟩, List.mem_of_getElem? (i := 16) (by decide +kernel), List.mem_of_getElem? (i := 280) (by decide +kernel), List.mem_of_getElem? (i := 281) (by decide +kernel)⟩
theorem lw_p4 : lw_okq (⟨"CarvedSolids", "topHas", "(I)Z"⟩, 4) := ⟨⟨by decide +kernel, by decide +kernel⟩, List.mem_of_getElem? (i := 16) (by decide +kernel), List.mem_of_getElem? (i := 352) (by decide +kernel), List.mem_of_getElem? (i := 353) (by decide +kernel)⟩
theorem lw_p5 : lw_okq (⟨"CarvedSolids", "lookAtSpot", "(I)I"⟩, 4) := ⟨⟨by decide +kernel, by decide +kernel⟩, List.mem_of_getElem? (i := 16) (by decide +kernel), List.mem_of_getElem? (i := 394) (by decide +kernel), List.mem_of_getElem? (i := 395) (by decide +kernel)⟩
theorem lw_p6 : lw_okq (⟨"CarvedSolids$Planes", "halfSpacesAlong", "(IZ)I"⟩, 3) := ⟨⟨by decide +kernel, by decide +kernel⟩, List.mem_of_getElem? (i := 24) (by decide +kernel), List.mem_of_getElem? (i := 403) (by decide +kernel), List.mem_of_getElem? (i := 404) (by decide +kernel)⟩
theorem lw_p7 : lw_okq (⟨"CarvedSolids", "isEntry", "(IIII)Z"⟩, 4) := ⟨⟨by decide +kernel, by decide +kernel⟩, List.mem_of_getElem? (i := 16) (by decide +kernel), List.mem_of_getElem? (i := 432) (by decide +kernel), List.mem_of_getElem? (i := 433) (by decide +kernel)⟩
theorem lw_p8 : lw_okq (⟨"CarvedSolidsModel", "look", "(IIII)V"⟩, 9) := ⟨⟨by decide +kernel, by decide +kernel⟩, List.mem_of_getElem? (i := 458) (by decide +kernel), List.mem_of_getElem? (i := 541) (by decide +kernel), List.mem_of_getElem? (i := 542) (by decide +kernel)⟩
theorem lw_p9 : lw_okq (⟨"CarvedSolidsModel", "isOnGiven", "()Z"⟩, 9) := ⟨⟨by decide +kernel, by decide +kernel⟩, List.mem_of_getElem? (i := 458) (by decide +kernel), List.mem_of_getElem? (i := 545) (by decide +kernel), List.mem_of_getElem? (i := 546) (by decide +kernel)⟩
theorem lw_p10 : lw_okq (⟨"CarvedSolidsModel", "choice", "()I"⟩, 9) := ⟨⟨by decide +kernel, by decide +kernel⟩, List.mem_of_getElem? (i := 458) (by decide +kernel), List.mem_of_getElem? (i := 552) (by decide +kernel), List.mem_of_getElem? (i := 553) (by decide +kernel)⟩
theorem lw_p11 : lw_okq (⟨"CarvedSolidsModel", "topHas", "(I)Z"⟩, 9) := ⟨⟨by decide +kernel, by decide +kernel⟩, List.mem_of_getElem? (i := 458) (by decide +kernel), List.mem_of_getElem? (i := 556) (by decide +kernel), List.mem_of_getElem? (i := 557) (by decide +kernel)⟩
theorem lw_p12 : lw_okq (⟨"CarvedSolidsModel", "sideOf", "(IIII)I"⟩, 9) := ⟨⟨by decide +kernel, by decide +kernel⟩, List.mem_of_getElem? (i := 458) (by decide +kernel), List.mem_of_getElem? (i := 564) (by decide +kernel), List.mem_of_getElem? (i := 565) (by decide +kernel)⟩
theorem lw_p13 : lw_okq (⟨"CarvedSolidsModel", "alike", "(II)I"⟩, 9) := ⟨⟨by decide +kernel, by decide +kernel⟩, List.mem_of_getElem? (i := 458) (by decide +kernel), List.mem_of_getElem? (i := 568) (by decide +kernel), List.mem_of_getElem? (i := 569) (by decide +kernel)⟩
theorem lw_p14 : lw_okq (⟨"CarvedSolidsModel", "normal", "(II)I"⟩, 9) := ⟨⟨by decide +kernel, by decide +kernel⟩, List.mem_of_getElem? (i := 458) (by decide +kernel), List.mem_of_getElem? (i := 572) (by decide +kernel), List.mem_of_getElem? (i := 573) (by decide +kernel)⟩
theorem lw_p15 : lw_okq (⟨"CarvedSolidsModel", "choiceAt", "(IZ)I"⟩, 9) := ⟨⟨by decide +kernel, by decide +kernel⟩, List.mem_of_getElem? (i := 458) (by decide +kernel), List.mem_of_getElem? (i := 576) (by decide +kernel), List.mem_of_getElem? (i := 577) (by decide +kernel)⟩
def lw_privs_1 : List (MethodName × Nat) := [(⟨"CarvedSolids$Planes", "firstOneWith", "(LCarvedSolids$Plane;)I"⟩, 3), (⟨"java/lang/Throwable", "fillInStackTrace", "(I)Ljava/lang/Throwable;"⟩, 6), (⟨"CarvedSolids", "requireRoom", "()V"⟩, 4), (⟨"CarvedSolids", "requireSolid", "()V"⟩, 4), (⟨"CarvedSolids", "topHas", "(I)Z"⟩, 4), (⟨"CarvedSolids", "lookAtSpot", "(I)I"⟩, 4), (⟨"CarvedSolids$Planes", "halfSpacesAlong", "(IZ)I"⟩, 3), (⟨"CarvedSolids", "isEntry", "(IIII)Z"⟩, 4), (⟨"CarvedSolidsModel", "look", "(IIII)V"⟩, 9), (⟨"CarvedSolidsModel", "isOnGiven", "()Z"⟩, 9), (⟨"CarvedSolidsModel", "choice", "()I"⟩, 9), (⟨"CarvedSolidsModel", "topHas", "(I)Z"⟩, 9), (⟨"CarvedSolidsModel", "sideOf", "(IIII)I"⟩, 9), (⟨"CarvedSolidsModel", "alike", "(II)I"⟩, 9), (⟨"CarvedSolidsModel", "normal", "(II)I"⟩, 9), (⟨"CarvedSolidsModel", "choiceAt", "(IZ)I"⟩, 9)]
theorem lw_r1 : ∀ q ∈ lw_privs_1, lw_okq q := List.forall_mem_cons.mpr ⟨lw_p0, List.forall_mem_cons.mpr ⟨lw_p1, List.forall_mem_cons.mpr ⟨lw_p2, List.forall_mem_cons.mpr ⟨lw_p3, List.forall_mem_cons.mpr ⟨lw_p4, List.forall_mem_cons.mpr ⟨lw_p5, List.forall_mem_cons.mpr ⟨lw_p6, List.forall_mem_cons.mpr ⟨lw_p7, List.forall_mem_cons.mpr ⟨lw_p8, List.forall_mem_cons.mpr ⟨lw_p9, List.forall_mem_cons.mpr ⟨lw_p10, List.forall_mem_cons.mpr ⟨lw_p11, List.forall_mem_cons.mpr ⟨lw_p12, List.forall_mem_cons.mpr ⟨lw_p13, List.forall_mem_cons.mpr ⟨lw_p14, List.forall_mem_cons.mpr ⟨lw_p15, fun _ h => absurd h List.not_mem_nil⟩⟩⟩⟩⟩⟩⟩⟩⟩⟩⟩⟩⟩⟩⟩⟩
theorem lw_p16 : lw_okq (⟨"CarvedSolidsModel", "meet", "(III)Z"⟩, 9) := ⟨⟨by decide +kernel, by decide +kernel⟩, List.mem_of_getElem? (i := 458) (by decide +kernel), List.mem_of_getElem? (i := 584) (by decide +kernel), List.mem_of_getElem? (i := 585) (by decide +kernel)⟩
theorem lw_p17 : lw_okq (⟨"CarvedSolidsModel", "isCrossed", "(I)Z"⟩, 9) := ⟨⟨by decide +kernel, by decide +kernel⟩, List.mem_of_getElem? (i := 458) (by decide +kernel), List.mem_of_getElem? (i := 588) (by decide +kernel), List.mem_of_getElem? (i := 589) (by decide +kernel)⟩
theorem lw_p18 : lw_okq (⟨"CarvedSolidsModel", "isInBox", "(I)Z"⟩, 9) := ⟨⟨by decide +kernel, by decide +kernel⟩, List.mem_of_getElem? (i := 458) (by decide +kernel), List.mem_of_getElem? (i := 592) (by decide +kernel), List.mem_of_getElem? (i := 593) (by decide +kernel)⟩
theorem lw_p19 : lw_okq (⟨"CarvedSolidsModel", "choiceBehind", "(IJJ)I"⟩, 9) := ⟨⟨by decide +kernel, by decide +kernel⟩, List.mem_of_getElem? (i := 458) (by decide +kernel), List.mem_of_getElem? (i := 601) (by decide +kernel), List.mem_of_getElem? (i := 602) (by decide +kernel)⟩
def lw_privs_2 : List (MethodName × Nat) := [(⟨"CarvedSolidsModel", "meet", "(III)Z"⟩, 9), (⟨"CarvedSolidsModel", "isCrossed", "(I)Z"⟩, 9), (⟨"CarvedSolidsModel", "isInBox", "(I)Z"⟩, 9), (⟨"CarvedSolidsModel", "choiceBehind", "(IJJ)I"⟩, 9)]
theorem lw_r2 : ∀ q ∈ lw_privs_2, lw_okq q := List.forall_mem_cons.mpr ⟨lw_p16, List.forall_mem_cons.mpr ⟨lw_p17, List.forall_mem_cons.mpr ⟨lw_p18, List.forall_mem_cons.mpr ⟨lw_p19, fun _ h => absurd h List.not_mem_nil⟩⟩⟩⟩
def lw_privs : List (MethodName × Nat) := lw_privs_1 ++ (lw_privs_2)
def lw_tbl : List Cond := k2_sels lw_privs ++ tables_1
theorem lw_privs_ok : ∀ q ∈ lw_privs, lw_okq q := by
  show ∀ q ∈ lw_privs_1 ++ (lw_privs_2), lw_okq q
  exact List.forall_mem_append.mpr ⟨lw_r1, lw_r2⟩
end
section
/-! ===== BEGIN words of one list among another's, by their places ===== -/
theorem goodIn_r {big : List Cond} (ws : List Cond) (ps : List Nat) (hp : ws = ps.filterMap (fun i => big[i]?)) (h : ws.all goodWord = true) : GoodIn big ws := by
  intro w hw
  have h1 := List.all_eq_true.mp h w hw
  rw [hp] at hw
  obtain ⟨i, -, hi⟩ := List.mem_filterMap.mp hw
  have hm : w ∈ big := by first | exact List.mem_of_getElem? hi | exact List.getElem?_mem hi
  exact ⟨hm, good_of_word h1⟩
theorem goodIn_app {big a b : List Cond} (ha : GoodIn big a) (hb : GoodIn big b) : GoodIn big (a ++ b) := fun w h => (List.mem_append.mp h).elim (ha w) (hb w)
theorem goodIn_ca {big a b : List Cond} {c : Cond} (ha : GoodIn big (c :: a)) (hb : GoodIn big b) : GoodIn big (c :: (a ++ b)) := fun w h => (List.mem_cons.mp h).elim (fun e => ha w (List.mem_cons.mpr (Or.inl e))) (fun h => (List.mem_append.mp h).elim (fun h => ha w (List.mem_cons.mpr (Or.inr h))) (hb w))
theorem goodIn_sub {big ws : List Cond} (hm : ∀ w ∈ ws, w ∈ big) (h : ws.all goodWord = true) : GoodIn big ws := fun w hw => ⟨hm w hw, good_of_word (List.all_eq_true.mp h w hw)⟩
/-! ===== END ===== -/

/-! ===== BEGIN exceptions that leave a method, and their catching by the caller (launches without stack traces) ===== -/
section VXA
/-! The laws vx_back, vx_callV, vx_callS, vx_callSW, vx_throw0, vx_throwS follow proofs of the library, with one case more: JvmDerived/Free/Laws.lean (Back.of_free), Shelf42/LK1.lean (callV, callS), Shelf/KitTraced.lean (throwNew0V, throwNewS). -/
/-- where a method has thrown q: the class by its name, the cell, what was written, the world -/
def vx_T (XC : String → State → State → Prop) (st : State) (q : Addr) (t : State) (mc ms : Nat) (free : Addr → Prop) : Prop :=
  ∃ (E : String) (ce : Cell) (L : List Loc), XC E st t ∧ t.heap[q]? = some ce ∧ ce.vm = .none ∧ st.vm.findClass E = some ce.cls ∧ st.WarmedH t.vm ∧ st.sameButNew ({ t with vm := st.vm } : State) L mc ms ∧ ∀ z ∈ L, free z.base
def vx_Q (Qc : Array Value → State → Outcome → State → Prop) (XC : String → State → State → Prop) (mc ms : Nat) (free : Addr → Prop) : Array Value → State → Outcome → State → Prop := fun a st o t =>
  (Qc a st o t ∧ ∃ L, FrameEnd st o t L mc ms ∧ ∀ q ∈ L, free q.base) ∨ ∃ q, o = .threw q ∧ vx_T XC st q t mc ms free
/-- a callee that returns or throws -/
def vx_Met (l : Launch) (y : MethodName) (ws : List Cond) (rm : Room) (Pc : Array Value → State → Prop) (Qc : Array Value → State → Outcome → State → Prop) (XC : String → State → State → Prop) (mc ms : Nat) (free : Addr → Prop) : Prop :=
  MetFree l y (headSpec ws rm) Pc (fun _ _ _ _ _ => True) (vx_Q Qc XC mc ms free)
def vx_Post (XC : String → State → State → Prop) (mc ms : Nat) (free : Addr → Prop) : Pt → Array Value → Addr → Pt → Prop := fun A a q B =>
  ∃ (g : JFrame) (mk : MethodId) (t : State) (L : List Loc) (E : String) (ce : Cell), B.U.heap = t.heap ∧ B.U.vm = t.vm ∧ XC E (A.U.calling g mk a) t ∧ t.heap[q]? = some ce ∧ ce.vm = .none ∧ A.U.vm.findClass E = some ce.cls ∧ B.locs = A.locs ++ L ∧ (∀ z ∈ L, free z.base) ∧ B.cells = A.cells + mc ∧ B.slots = A.slots + ms
def vx_Back (l : Launch) (R : Room) (p : Program) (e : Env) (below : List Frame) (s : State) (sargs : Array Value) (y : MethodName) (len W9 : Nat)
    (Pre : Pt → Array Value → Prop) (Post : Pt → Array Value → Option Value → Pt → Prop) (PostX : Pt → Array Value → Addr → Pt → Prop) : Prop :=
  ∀ (m : MethodId) (meth : Method) (c : Code) (A : Pt) (g : JFrame) (ig : Instr) (mk : MethodId) (a : Array Value),
    Stand p l e R s m sargs below meth c A.U A.locs A.cells A.slots → g.method = m → g.locals.size = c.maxLocals → decode c.code g.pc = .ok (ig, len) →
    2 * g.monitorRoom + (g.stack.map fun v => v.category).sum ≤ W9 → A.U.methodNamed? y = some mk → Pre A a →
    (∃ (v : Option Value) (B : Pt), Stand p l e R s m sargs below meth c B.U B.locs B.cells B.slots ∧ Post A a v B ∧
      Steps p.tables e below (doInvoke e (A.U.setTop g) [] mk a).1 (B.U.setTop { g with pc := g.pc + len, stack := v.toList ++ g.stack })) ∨
    (∃ (q : Addr) (B : Pt), Stand p l e R s m sargs below meth c B.U B.locs B.cells B.slots ∧ PostX A a q B ∧
      Steps p.tables e below (doInvoke e (A.U.setTop g) [] mk a).1 ((B.U.setTop g).pushFrame (.throwing q)))
section Payer
variable {l : Launch} {R : Room} {p : Program} {e : Env} {below : List Frame} {s : State} {sargs : Array Value} {y : MethodName} {len W9 : Nat}
theorem vx_back {ws : List Cond} {rm : Room} {Pc : Array Value → State → Prop} {Qc : Array Value → State → Outcome → State → Prop} {XC : String → State → State → Prop} {mc ms : Nat} {free : Addr → Prop} {bytes : ByteArray} {maxL : Nat} {ret : Option FieldType}
    (hM : vx_Met l y ws rm Pc Qc XC mc ms free) (hblind : FrameBlind Pc) (hrc : rm.cells = mc) (hrs : rm.slots = ms)
    (hframes : rm.frames + 1 ≤ R.frames) (hlocals : W9 + (maxL + 11) + rm.locals ≤ R.locals)
    (hws : ∀ w ∈ ws, ∀ a' U, s.WarmedH U.vm → w.before a' U = true) (hcode : Cond.code y bytes maxL ret ∈ ws) (hinit : ∀ a' U, s.WarmedH U.vm → (Cond.initialized y.cls).before a' U = true) :
    vx_Back l R p e below s sargs y len W9 (PreOf R mc ms Pc) (PostOf Qc mc ms free) (vx_Post XC mc ms free) := by
  intro m meth c A g ig mk a X hg hsize hdg hW hn hp
  have h1 : (headSpec ws rm).pre.before a A.U = true := atoms_intro fun w hw => hws w hw _ _ X.warmed
  have h2 : (Cond.code y bytes maxL ret).before a A.U = true := hws _ hcode _ _ X.warmed
  have h3 : (Cond.initialized y.cls).before a A.U = true := hinit _ _ X.warmed
  have h4 : A.cells + (headSpec ws rm).room.cells ≤ R.cells := by rw [show (headSpec ws rm).room.cells = mc from hrc]; exact hp.1
  have h5 : A.slots + (headSpec ws rm).room.slots ≤ R.slots := by rw [show (headSpec ws rm).room.slots = ms from hrs]; exact hp.2.1
  have hPc : Pc a (A.U.calling g mk a) := hblind _ _ _ _ hp.2.2
  obtain ⟨U, Ls, c0, s0⟩ := A
  dsimp only [Pt.U, Pt.locs, Pt.cells, Pt.slots] at h1 h2 h3 h4 h5 X hn hPc ⊢
  obtain ⟨methY, cY, hmY, hcY, -, hlY, -, -, -, -⟩ := Cond.code_spec hn h2
  obtain ⟨kY, hkY, -⟩ := className_of_methodNamed hn
  have hinitY : kY.init = .initialized := Cond.initialized_spec (findClass_of_methodNamed hn) hkY h3
  have h : At U g.method c below := by rw [hg]; exact X.here
  have hlocals9 : W9 + (maxL + 11) + (headSpec ws rm).room.locals ≤ R.locals := hlocals
  have happ : (headSpec ws rm).appliesLoose y e.platform (U.calling g mk a) = true :=
    Spec.appliesLoose_calling (g := g) h hdg hn hkY hinitY
      (X.room_calling (g := g) (R' := (headSpec ws rm).room) hsize hmY hcY hframes (by rw [hlY]; omega) h4 h5) h1
  obtain ⟨mid, hmid⟩ := h.above
  have hfr : (U.setTop g).frames = (.java g :: mid) ++ below := by rw [State.frames_setTop' g h.top, hmid]; rfl
  obtain ⟨o, s₂, hsteps, -, hend, hq⟩ := Steps.callFree hM p X.admits X.cas X.clock (acts := []) hfr happ hPc trivial
  have hq' : vx_Q Qc XC mc ms free a (U.calling g mk a) o s₂ := hq
  rw [State.frames_setTop' g h.top] at hend
  obtain ⟨g₀, hg0⟩ := Option.isSome_iff_exists.mp h.top
  obtain ⟨r, hr⟩ := State.topJava?_eq_some.mp hg0
  have hr' : (({ U with heap := s₂.heap, slotsUsed := s₂.slotsUsed } : State).setVm s₂.vm).frames = .java g₀ :: r := hr
  rcases hq' with ⟨hqc, L, hfe, hL⟩ | ⟨q, rfl, E, ce, L, hx, hce, hcv, hcl, hW₂, hsm, hL⟩
  · obtain ⟨⟨v, rfl⟩, hW₂, e2, q2, q3, q4, q5, q6⟩ := id hfe
    have e3 : s₂ = ({ (U.calling g mk a).setFrames s₂.frames with heap := s₂.heap, slotsUsed := s₂.slotsUsed } : State).setVm s₂.vm := by
      have : s₂ = ({ s₂ with vm := (U.calling g mk a).vm } : State).setVm s₂.vm := rfl
      rw [e2] at this
      exact this
    obtain ⟨c₂, i₂, len₂, hc₂, hd₂, hf₂⟩ := hend
    have hW' : U.WarmedH s₂.vm := hW₂
    have hcc : c₂ = c := by
      have h1 : s₂.code? g.method = U.code? g.method := by
        rw [State.code?_eq, State.code?_eq, hW'.alike.method?]
      exact Option.some.inj (hc₂.symm.trans (h1.trans h.code))
    subst hcc
    have hlen : len₂ = len := by rw [hdg] at hd₂; cases hd₂; rfl
    subst hlen
    have hs₂ : s₂ = (({ U with heap := s₂.heap, slotsUsed := s₂.slotsUsed } : State).setVm s₂.vm).setTop { g with pc := g.pc + len₂, stack := v.toList ++ g.stack } := by
      refine e3.trans ?_
      rw [hf₂, State.calling_eq h.top, State.setFrames_setFrames, State.setTop_of_frames _ hr', hr]
      rfl
    have hsame : U.sameButNew ({ U with heap := s₂.heap, slotsUsed := s₂.slotsUsed } : State) L mc ms := by
      refine ⟨?_, q2, q3, q4, q5, q6⟩
      obtain ⟨t, ht, -⟩ := State.frames_cons hr
      show ({ U with heap := s₂.heap, slotsUsed := s₂.slotsUsed } : State) = { U.setFrames U.frames with heap := s₂.heap, slotsUsed := s₂.slotsUsed }
      rw [State.setFrames_self ht]
    subst hg
    refine Or.inl ⟨v, ⟨(({ U with heap := s₂.heap, slotsUsed := s₂.slotsUsed } : State).setVm s₂.vm), Ls ++ L, c0 + mc, s0 + ms⟩,
      ⟨X.admits, X.cas, X.clock, X.frames, X.room, X.hears, X.method, X.code, (X.here.setHeapUsed s₂.heap s₂.slotsUsed).setVm hW'.alike, X.tail, State.WarmedH.trans X.warmed hW', X.limits, X.bytes, X.same.trans (hsame.setVm s.vm)⟩,
      ⟨g, mk, s₂, L, rfl, rfl, hqc, rfl, hL, rfl, rfl⟩, ?_⟩
    show Steps p.tables e below _ ((({ U with heap := s₂.heap, slotsUsed := s₂.slotsUsed } : State).setVm s₂.vm).setTop { g with pc := g.pc + len₂, stack := v.toList ++ g.stack })
    rw [← hs₂]
    exact hsteps
  · obtain ⟨e2, q2, q3, q4, q5, q6⟩ := id hsm
    have e3 : s₂ = ({ (U.calling g mk a).setFrames s₂.frames with heap := s₂.heap, slotsUsed := s₂.slotsUsed } : State).setVm s₂.vm := by
      have : s₂ = ({ s₂ with vm := (U.calling g mk a).vm } : State).setVm s₂.vm := rfl
      rw [e2] at this
      exact this
    have hf₂ : s₂.frames = .throwing q :: .java g :: U.frames.tail := hend
    have hW' : U.WarmedH s₂.vm := hW₂
    have hs₂ : s₂ = ((({ U with heap := s₂.heap, slotsUsed := s₂.slotsUsed } : State).setVm s₂.vm).setTop g).pushFrame (.throwing q) := by
      refine e3.trans ?_
      rw [hf₂, State.calling_eq h.top, State.setFrames_setFrames, State.pushFrame, State.frames_setTop _ hr', State.setTop_of_frames _ hr', State.setFrames_setFrames, hr]
      rfl
    have hsame : U.sameButNew ({ U with heap := s₂.heap, slotsUsed := s₂.slotsUsed } : State) L mc ms := by
      refine ⟨?_, q2, q3, q4, q5, q6⟩
      obtain ⟨t, ht, -⟩ := State.frames_cons hr
      show ({ U with heap := s₂.heap, slotsUsed := s₂.slotsUsed } : State) = { U.setFrames U.frames with heap := s₂.heap, slotsUsed := s₂.slotsUsed }
      rw [State.setFrames_self ht]
    subst hg
    refine Or.inr ⟨q, ⟨(({ U with heap := s₂.heap, slotsUsed := s₂.slotsUsed } : State).setVm s₂.vm), Ls ++ L, c0 + mc, s0 + ms⟩,
      ⟨X.admits, X.cas, X.clock, X.frames, X.room, X.hears, X.method, X.code, (X.here.setHeapUsed s₂.heap s₂.slotsUsed).setVm hW'.alike, X.tail, State.WarmedH.trans X.warmed hW', X.limits, X.bytes, X.same.trans (hsame.setVm s.vm)⟩,
      ⟨g, mk, s₂, L, E, ce, rfl, rfl, hx, hce, hcv, hcl, rfl, hL, rfl, rfl⟩, ?_⟩
    show Steps p.tables e below _ (((({ U with heap := s₂.heap, slotsUsed := s₂.slotsUsed } : State).setVm s₂.vm).setTop g).pushFrame (.throwing q))
    rw [← hs₂]
    exact hsteps
end Payer
section Calls
variable {p : Program} {l : Launch} {e : Env} {R : Room} {s : State} {m : MethodId} {args : Array Value} {below : List Frame} {meth : Method} {c : Code} {T : State} {locs : List Loc} {cells slots : Nat}
theorem vx_callV (X : Stand p l e R s m args below meth c T locs cells slots) (hexec : p.tables.exec = Jvm.exec) {own C : String} {index : Nat} {y : MethodName} {bytes : ByteArray} {maxL : Nat} {ret : Option FieldType}
    (hown : s.vm.findClass own = some m.cls) (hlink : (Cond.methodLink own index y).before args s = true) (hinst : (Cond.instanceMethod y).before args s = true) (hsel : (Cond.selects C y y).before args s = true)
    (hcode : (Cond.code y bytes maxL ret).before args s = true) (hy : y.cls ≠ "java/lang/invoke/MethodHandle" ∧ y.cls ≠ "java/lang/invoke/VarHandle")
    {W9 : Nat} {Pre : Pt → Array Value → Prop} {Post : Pt → Array Value → Option Value → Pt → Prop} {PostX : Pt → Array Value → Addr → Pt → Prop} (hK : vx_Back l R p e below s args y 3 W9 Pre Post PostX)
    {b : Addr} {cellB : Cell} (hcell : T.heap[b]? = some cellB) (hobj : cellB.vm.isStatics = false) (hcls : s.vm.findClass C = some cellB.cls)
    {g : JFrame} (hg : g.method = m) (hsize : g.locals.size = c.maxLocals) {argsL rest : List Value} (hlen : ∀ sig, parseMethodDescriptor y.desc = some sig → argsL.length = sig.parameters.length)
    (hstack : g.stack = argsL.reverse ++ .ref b :: rest) (hW : 2 * g.monitorRoom + (rest.map fun v => v.category).sum ≤ W9) (hdg : decode c.code g.pc = .ok (.invokevirtual index, 3))
    (hpre : ∀ vm₁, s.WarmedH vm₁ → Pre ⟨T.setVm vm₁, locs, cells, slots⟩ (Value.ref b :: argsL).toArray) :
    (∃ (v : Option Value) (vm₁ : Vm) (B : Pt), s.WarmedH vm₁ ∧ Stand p l e R s m args below meth c B.U B.locs B.cells B.slots ∧ Post ⟨T.setVm vm₁, locs, cells, slots⟩ (Value.ref b :: argsL).toArray v B ∧
      ∀ target, Steps p.tables e below (B.U.setTop { g with pc := g.pc + 3, stack := v.toList ++ rest }) target → Steps p.tables e below (T.setTop g) target) ∨
    (∃ (q : Addr) (vm₁ : Vm) (B : Pt), s.WarmedH vm₁ ∧ Stand p l e R s m args below meth c B.U B.locs B.cells B.slots ∧ PostX ⟨T.setVm vm₁, locs, cells, slots⟩ (Value.ref b :: argsL).toArray q B ∧
      Steps p.tables e below (T.setTop g) ((B.U.setTop { g with stack := rest }).pushFrame (.throwing q))) := by
  obtain ⟨mk, methM, hnamed, hmethM, hstM, habM⟩ := Cond.instanceMethod_spec hinst
  obtain ⟨methM', cM, hmethM', -, -, -, -, -, -, hsigM⟩ := Cond.code_spec hnamed hcode
  cases hmethM.symm.trans hmethM'
  obtain ⟨c2, r2, m2, q1, q2, q3, q4, kP, hkP, hkPi⟩ := Cond.selects_spec hsel
  cases hcls.symm.trans q1
  cases (State.methodFound?_of_named hnamed hy).symm.trans q2
  cases hnamed.symm.trans q3
  have hselP : selectMethod e.platform s.vm cellB.cls mk = .method mk := by rw [Launch.admits_selectMethod X.admits]; exact q4
  obtain ⟨vm₁, X₁, hstep₁⟩ := X.invokevirtual hexec hown hlink hnamed hmethM hstM hkP hkPi hy (a := b) (cell := cellB) hcell
    (fun z h => by rw [h] at hobj; cases hobj) hselP hmethM habM hkP hkPi (g := g) hg (argsL := argsL) (rest := rest) (hlen _ hsigM) hstack hdg
  rcases hK m meth c ⟨T.setVm vm₁, locs, cells, slots⟩ { g with stack := rest } (.invokevirtual index) mk (Value.ref b :: argsL).toArray X₁ hg hsize hdg hW (X₁.named hnamed) (hpre vm₁ X₁.warmed) with ⟨v, B, X', hpost, hsteps⟩ | ⟨q, B, X', hpost, hsteps⟩
  · exact Or.inl ⟨v, vm₁, B, X₁.warmed, X', hpost, fun target h => hstep₁ _ fun acts => by rw [doInvoke_state]; exact hsteps.trans h⟩
  · exact Or.inr ⟨q, vm₁, B, X₁.warmed, X', hpost, hstep₁ _ fun acts => by rw [doInvoke_state]; exact hsteps⟩
theorem vx_callS (X : Stand p l e R s m args below meth c T locs cells slots) (hexec : p.tables.exec = Jvm.exec) {own : String} {index : Nat} {y : MethodName} {bytes : ByteArray} {maxL : Nat} {ret : Option FieldType}
    (hown : s.vm.findClass own = some m.cls) (hlink : (Cond.methodLink own index y).before args s = true) (hstat : (Cond.static y).before args s = true) (hinit : (Cond.initialized y.cls).before args s = true)
    (hcode : (Cond.code y bytes maxL ret).before args s = true) (hy : y.cls ≠ "java/lang/invoke/MethodHandle" ∧ y.cls ≠ "java/lang/invoke/VarHandle")
    {W9 : Nat} {Pre : Pt → Array Value → Prop} {Post : Pt → Array Value → Option Value → Pt → Prop} {PostX : Pt → Array Value → Addr → Pt → Prop} (hK : vx_Back l R p e below s args y 3 W9 Pre Post PostX)
    {g : JFrame} (hg : g.method = m) (hsize : g.locals.size = c.maxLocals) {argsL rest : List Value} (hlen : ∀ sig, parseMethodDescriptor y.desc = some sig → argsL.length = sig.parameters.length)
    (hstack : g.stack = argsL.reverse ++ rest) (hW : 2 * g.monitorRoom + (rest.map fun v => v.category).sum ≤ W9) (hdg : decode c.code g.pc = .ok (.invokestatic index, 3))
    (hpre : ∀ vm₁, s.WarmedH vm₁ → Pre ⟨T.setVm vm₁, locs, cells, slots⟩ argsL.toArray) :
    (∃ (v : Option Value) (vm₁ : Vm) (B : Pt), s.WarmedH vm₁ ∧ Stand p l e R s m args below meth c B.U B.locs B.cells B.slots ∧ Post ⟨T.setVm vm₁, locs, cells, slots⟩ argsL.toArray v B ∧
      ∀ target, Steps p.tables e below (B.U.setTop { g with pc := g.pc + 3, stack := v.toList ++ rest }) target → Steps p.tables e below (T.setTop g) target) ∨
    (∃ (q : Addr) (vm₁ : Vm) (B : Pt), s.WarmedH vm₁ ∧ Stand p l e R s m args below meth c B.U B.locs B.cells B.slots ∧ PostX ⟨T.setVm vm₁, locs, cells, slots⟩ argsL.toArray q B ∧
      Steps p.tables e below (T.setTop g) ((B.U.setTop { g with stack := rest }).pushFrame (.throwing q))) := by
  obtain ⟨mk, hnamed⟩ := Cond.code_named hcode
  obtain ⟨methM, cM, hmethM, -, -, -, -, -, -, hsigM⟩ := Cond.code_spec hnamed hcode
  have hstatic : methM.isStatic = true := Cond.static_spec hnamed hmethM hstat
  obtain ⟨kP, hkP, -⟩ := className_of_methodNamed hnamed
  have hinitP : kP.init = .initialized := Cond.initialized_spec (findClass_of_methodNamed hnamed) hkP hinit
  obtain ⟨vm₁, X₁, hstep₁⟩ := X.invokestatic hexec hown hlink hnamed hmethM hstatic hkP hinitP hy (g := g) hg (argsL := argsL) (rest := rest) (hlen _ hsigM) hstack hdg
  rcases hK m meth c ⟨T.setVm vm₁, locs, cells, slots⟩ { g with stack := rest } (.invokestatic index) mk argsL.toArray X₁ hg hsize hdg hW (X₁.named hnamed) (hpre vm₁ X₁.warmed) with ⟨v, B, X', hpost, hsteps⟩ | ⟨q, B, X', hpost, hsteps⟩
  · exact Or.inl ⟨v, vm₁, B, X₁.warmed, X', hpost, fun target h => hstep₁ _ fun acts => by rw [doInvoke_state]; exact hsteps.trans h⟩
  · exact Or.inr ⟨q, vm₁, B, X₁.warmed, X', hpost, hstep₁ _ fun acts => by rw [doInvoke_state]; exact hsteps⟩
end Calls
theorem vx_cls {s : State} {T : State} {vm₁ : Vm} {E : String} {k : ClassId} (hW : s.WarmedH vm₁) (h : (T.setVm vm₁).vm.findClass E = some k) : s.vm.findClass E = some k := by
  have h1 : vm₁.findClass E = some k := h
  rw [hW.alike.findClass] at h1
  exact h1
/-- the method's frame g, with q thrown over it -/
def vx_W (p : Program) (l : Launch) (e : Env) (R : Room) (s : State) (m : MethodId) (args : Array Value) (below : List Frame) (meth : Method) (c : Code) (H : Heap) (locs : List Loc) (cells slots : Nat) (Q : State → Prop) (g : JFrame) (q : Addr) : Prop :=
  ∀ T : State, T.heap = H → Stand p l e R s m args below meth c T locs cells slots → ∃ t, Steps p.tables e below ((T.setTop g).pushFrame (.throwing q)) t ∧ Q t
def vx_Run (p : Program) (l : Launch) (e : Env) (R : Room) (s : State) (m : MethodId) (args : Array Value) (below : List Frame) (meth : Method) (c : Code) (H : Heap) (locs : List Loc) (cells slots mc ms : Nat) (g : JFrame) (rest : List Value) (Qa : State → Outcome → State → Prop) (XC : String → State → State → Prop) (free : Addr → Prop) : Prop :=
  ∀ T : State, T.heap = H → Stand p l e R s m args below meth c T locs cells slots →
    (∃ (v : Option Value) (st₀ t T' : State) (L : List Loc), st₀.heap = H ∧ Stand p l e R s m args below meth c T' (locs ++ L) (cells + mc) (slots + ms) ∧ (∀ q ∈ L, free q.base) ∧ T'.heap = t.heap ∧ T'.vm = t.vm ∧ Qa st₀ (.returned v) t ∧
      Goes p e below T g T' { g with pc := g.pc + 3, stack := v.toList ++ rest }) ∨
    (∃ (q : Addr) (st₀ t T' : State) (L : List Loc) (E : String) (ce : Cell), st₀.heap = H ∧ Stand p l e R s m args below meth c T' (locs ++ L) (cells + mc) (slots + ms) ∧ (∀ z ∈ L, free z.base) ∧ T'.heap = t.heap ∧ T'.vm = t.vm ∧ XC E st₀ t ∧ t.heap[q]? = some ce ∧ ce.vm = .none ∧ s.vm.findClass E = some ce.cls ∧
      Steps p.tables e below (T.setTop g) ((T'.setTop { g with stack := rest }).pushFrame (.throwing q)))
def vx_X {S : Type} (px : S → Prop) (B : String → S → State → Prop) (A : Nat → Prop) : String → State → State → Prop := fun E st t => ∃ u : S, px u ∧ B E u t ∧ va_F A st t
section Runs
variable {p : Program} {l : Launch} {e : Env} {R : Room} {s : State} {m : MethodId} {args : Array Value} {below : List Frame} {meth : Method} {c : Code} {H : Heap} {locs : List Loc} {cells slots : Nat}
variable {y : MethodName} {bytes cc : ByteArray} {maxL nL mc ms n index : Nat} {ret : Option FieldType} {ws : List Cond} {rm : Room} {Pc : Array Value → State → Prop} {Qc : Array Value → State → Outcome → State → Prop} {XC : String → State → State → Prop} {free : Addr → Prop} {Ts : List Cond} {own C : String} {b : Addr} {As rest : List Value} {g : JFrame}
theorem vx_callBack (cb : CallB R s args own index y bytes maxL ret ws rm mc ms n) (hM : vx_Met l y ws rm Pc Qc XC mc ms free) (hbl : FrameBlind Pc) : vx_Back l R p e below s args y 3 8 (PreOf R mc ms Pc) (PostOf Qc mc ms free) (vx_Post XC mc ms free) := by
  obtain ⟨hrc, hrs, hfr, hlo, hws, hcw, -, hini, -⟩ := cb
  exact vx_back (bytes := bytes) (maxL := maxL) (ret := ret) hM hbl hrc hrs hfr hlo hws hcw (fun a' U hW => word_at hW (Or.inl (by first | rfl | simp [Cond.onTables, Cond.keeps, Cond.steady])) hini)
theorem vx_runV (S : CallFix p m c cc nL s args Ts own) (hM : vx_Met l y ws rm Pc Qc XC mc ms free) (cw : CallW R s args own C index y bytes maxL ret ws rm mc ms n) (hp : PreV s H C b Pc As)
    (hg : g.method = m) (hn : As.length = n) (hsize : g.locals.size = nL) (hstack : g.stack = As.reverse ++ .ref b :: rest) (hW : 2 * g.monitorRoom + (rest.map fun v => v.category).sum ≤ 8) (hdg : decode cc g.pc = .ok (.invokevirtual index, 3)) (hf : cells + mc ≤ R.cells ∧ slots + ms ≤ R.slots) :
    vx_Run p l e R s m args below meth c H locs cells slots mc ms g rest (Qc (Value.ref b :: As).toArray) XC free := by
  have hK : vx_Back l R p e below s args y 3 8 (PreOf R mc ms Pc) (PostOf Qc mc ms free) (vx_Post XC mc ms free) := vx_callBack cw.1 hM hp.1
  obtain ⟨⟨-, -, -, -, -, -, hcode, -, hy, hlen, hl⟩, hin, hse⟩ := cw
  obtain ⟨hx, hb, hml, ho, -⟩ := S
  obtain ⟨-, ⟨cellB, hcB, hoB, hclB⟩, hPc⟩ := hp
  intro T hT X
  rcases vx_callV X hx (C := C) (bytes := bytes) (maxL := maxL) (ret := ret) ho hl hin hse hcode hy hK (by rw [hT]; exact hcB) hoB hclB hg (hsize.trans hml.symm) (argsL := As) (rest := rest) (fun sig h => hn.trans (hlen sig h)) hstack hW (by rw [hb]; exact hdg)
    (fun vm₁ hW₁ => ⟨hf.1, hf.2, hPc (T.setVm vm₁) hT hW₁⟩) with ⟨v, vm₁, ⟨U', l2, c2, s2⟩, hW₁, X', ⟨g', mk, t, L, e1, e2, hq, h1, hL, h2, h3⟩, st⟩ | ⟨q, vm₁, ⟨U', l2, c2, s2⟩, hW₁, X', ⟨g', mk, t, L, E, ce, e1, e2, hq, hce, hcv, hcl, h1, hL, h2, h3⟩, st⟩
  · dsimp only [Pt.U, Pt.locs, Pt.cells, Pt.slots] at X' e1 e2 h1 h2 h3 st
    subst h1; subst h2; subst h3
    exact Or.inl ⟨v, (T.setVm vm₁).calling g' mk (Value.ref b :: As).toArray, t, U', L, hT, X', hL, e1, e2, hq, st⟩
  · dsimp only [Pt.U, Pt.locs, Pt.cells, Pt.slots] at X' e1 e2 h1 h2 h3 st hcl
    subst h1; subst h2; subst h3
    exact Or.inr ⟨q, (T.setVm vm₁).calling g' mk (Value.ref b :: As).toArray, t, U', L, E, ce, hT, X', hL, e1, e2, hq, hce, hcv, vx_cls hW₁ hcl, st⟩
theorem vx_runS (S : CallFix p m c cc nL s args Ts own) (hM : vx_Met l y ws rm Pc Qc XC mc ms free) (cw : CallB R s args own index y bytes maxL ret ws rm mc ms n ∧ (Cond.static y).before args s = true) (hp : PreS s H Pc As)
    (hg : g.method = m) (hn : As.length = n) (hsize : g.locals.size = nL) (hstack : g.stack = As.reverse ++ rest) (hW : 2 * g.monitorRoom + (rest.map fun v => v.category).sum ≤ 8) (hdg : decode cc g.pc = .ok (.invokestatic index, 3)) (hf : cells + mc ≤ R.cells ∧ slots + ms ≤ R.slots) :
    vx_Run p l e R s m args below meth c H locs cells slots mc ms g rest (Qc As.toArray) XC free := by
  have hK : vx_Back l R p e below s args y 3 8 (PreOf R mc ms Pc) (PostOf Qc mc ms free) (vx_Post XC mc ms free) := vx_callBack cw.1 hM hp.1
  obtain ⟨⟨-, -, -, -, -, -, hcode, hini, hy, hlen, hl⟩, hstt⟩ := cw
  obtain ⟨hx, hb, hml, ho, -⟩ := S
  intro T hT X
  rcases vx_callS X hx (bytes := bytes) (maxL := maxL) (ret := ret) ho hl hstt hini hcode hy hK hg (hsize.trans hml.symm) (argsL := As) (rest := rest) (fun sig h => hn.trans (hlen sig h)) hstack hW (by rw [hb]; exact hdg)
    (fun vm₁ hW₁ => ⟨hf.1, hf.2, hp.2 (T.setVm vm₁) hT hW₁⟩) with ⟨v, vm₁, ⟨U', l2, c2, s2⟩, hW₁, X', ⟨g', mk, t, L, e1, e2, hq, h1, hL, h2, h3⟩, st⟩ | ⟨q, vm₁, ⟨U', l2, c2, s2⟩, hW₁, X', ⟨g', mk, t, L, E, ce, e1, e2, hq, hce, hcv, hcl, h1, hL, h2, h3⟩, st⟩
  · dsimp only [Pt.U, Pt.locs, Pt.cells, Pt.slots] at X' e1 e2 h1 h2 h3 st
    subst h1; subst h2; subst h3
    exact Or.inl ⟨v, (T.setVm vm₁).calling g' mk As.toArray, t, U', L, hT, X', hL, e1, e2, hq, st⟩
  · dsimp only [Pt.U, Pt.locs, Pt.cells, Pt.slots] at X' e1 e2 h1 h2 h3 st hcl
    subst h1; subst h2; subst h3
    exact Or.inr ⟨q, (T.setVm vm₁).calling g' mk As.toArray, t, U', L, E, ce, hT, X', hL, e1, e2, hq, hce, hcv, vx_cls hW₁ hcl, st⟩
end Runs
section Rows
variable {p : Program} {l : Launch} {e : Env} {R : Room} {s : State} {m : MethodId} {args : Array Value} {below : List Frame} {meth : Method} {c : Code} {H : Heap} {locs : List Loc} {cells slots : Nat} {Q : State → Prop}
variable {mc ms : Nat} {free : Addr → Prop} {A0 A1 : Nat → Prop} {H0 : Heap} {a : Array Value} {pc : Nat} {ls : Array Slot} {st0 rest : List Value}
theorem vx_keep {st₀ t T' : State} {L : List Loc} (h0 : st₀.heap = H) (e1 : T'.heap = t.heap) (hS : va_S A0 H0 H locs) (hA : ∀ q, q < H.size → A1 q → A0 q) (hf : ∀ q, free q → A0 q) (hL : ∀ q ∈ L, free q.base) (hF : va_F A1 st₀ t) :
    H.size ≤ T'.heap.size ∧ (∀ q : Nat, q < H.size → ¬ A1 q → T'.heap[q]? = H[q]?) ∧ va_S A0 H0 T'.heap (locs ++ L) := by
  obtain ⟨hz, hk⟩ := hF
  rw [h0] at hz hk
  exact ⟨by rw [e1]; exact hz, fun q h1 h2 => by rw [e1]; exact hk q h1 h2,
    ⟨Nat.le_trans hS.1 (by rw [e1]; exact hz), fun q h1 h2 => by rw [e1, hk q (Nat.lt_of_lt_of_le h1 hS.1) (fun z => h2 (hA q (Nat.lt_of_lt_of_le h1 hS.1) z))]; exact hS.2.1 q h1 h2, fun q hq => by
      rcases List.mem_append.mp hq with h | h
      · exact hS.2.2 q h
      · exact hf _ (hL q h)⟩⟩
theorem vx_calli {S SX : Type} {post : Int32 → S → Prop} {px : SX → Prop} {B : S → State → Prop} {BX : String → SX → State → Prop} {AX : Nat → Prop} (hr : vx_Run p l e R s m args below meth c H locs cells slots mc ms (F0 m pc ls st0) rest (va_Qi post B A1 a) (vx_X px BX AX) free) (hS : va_S A0 H0 H locs) (hA : ∀ q, q < H.size → A1 q → A0 q) (hf : ∀ q, free q → A0 q) (hAX : ∀ q, q < H.size → AX q → A0 q)
    (kx : ∀ (E : String) (ce : Cell) (q9 : Addr) (u : SX) (t : State) (H1 : Heap) (locs1 : List Loc), t.heap = H1 → s.vm.Alike t.vm → px u → BX E u t → H.size ≤ H1.size → (∀ q : Nat, q < H.size → ¬ AX q → H1[q]? = H[q]?) → va_S A0 H0 H1 locs1 → H1[q9]? = some ce → ce.vm = .none → s.vm.findClass E = some ce.cls → vx_W p l e R s m args below meth c H1 locs1 (cells + mc) (slots + ms) Q (F0 m pc ls rest) q9)
    (kk : ∀ (r : Int32) (u : S) (t : State) (H1 : Heap) (locs1 : List Loc), t.heap = H1 → s.vm.Alike t.vm → post r u → B u t → H.size ≤ H1.size → (∀ q : Nat, q < H.size → ¬ A1 q → H1[q]? = H[q]?) → va_S A0 H0 H1 locs1 → W p l e R s m args below meth c H1 locs1 (cells + mc) (slots + ms) Q (F0 m (pc + 3) ls (.int r :: rest))) : W p l e R s m args below meth c H locs cells slots Q (F0 m pc ls st0) := by
  intro T hT X
  rcases hr T hT X with ⟨v, st₀, t, T', L, h0, X', hL, e1, e2, ⟨⟨r, u, hv, hp, hb⟩, hF⟩, st⟩ | ⟨q, st₀, t, T', L, E, ce, h0, X', hL, e1, e2, ⟨u, hp, hb, hF⟩, hce, hcv, hcl, st⟩
  · cases hv
    obtain ⟨k1, k2, k3⟩ := vx_keep h0 e1 hS hA hf hL hF
    obtain ⟨t2, a1, b1⟩ := kk r u t T'.heap (locs ++ L) e1.symm (by rw [← e2]; exact X'.warmed.alike) hp hb k1 k2 k3 T' rfl X'
    exact ⟨t2, st t2 a1, b1⟩
  · obtain ⟨k1, k2, k3⟩ := vx_keep h0 e1 hS hAX hf hL hF
    obtain ⟨t2, a1, b1⟩ := kx E ce q u t T'.heap (locs ++ L) e1.symm (by rw [← e2]; exact X'.warmed.alike) hp hb k1 k2 k3 (by rw [e1]; exact hce) hcv hcl T' rfl X'
    exact ⟨t2, st.trans a1, b1⟩
theorem vx_calll {S SX : Type} {post : Int64 → S → Prop} {px : SX → Prop} {B : S → State → Prop} {BX : String → SX → State → Prop} {AX : Nat → Prop} (hr : vx_Run p l e R s m args below meth c H locs cells slots mc ms (F0 m pc ls st0) rest (va_Ql post B A1 a) (vx_X px BX AX) free) (hS : va_S A0 H0 H locs) (hA : ∀ q, q < H.size → A1 q → A0 q) (hf : ∀ q, free q → A0 q) (hAX : ∀ q, q < H.size → AX q → A0 q)
    (kx : ∀ (E : String) (ce : Cell) (q9 : Addr) (u : SX) (t : State) (H1 : Heap) (locs1 : List Loc), t.heap = H1 → s.vm.Alike t.vm → px u → BX E u t → H.size ≤ H1.size → (∀ q : Nat, q < H.size → ¬ AX q → H1[q]? = H[q]?) → va_S A0 H0 H1 locs1 → H1[q9]? = some ce → ce.vm = .none → s.vm.findClass E = some ce.cls → vx_W p l e R s m args below meth c H1 locs1 (cells + mc) (slots + ms) Q (F0 m pc ls rest) q9)
    (kk : ∀ (r : Int64) (u : S) (t : State) (H1 : Heap) (locs1 : List Loc), t.heap = H1 → s.vm.Alike t.vm → post r u → B u t → H.size ≤ H1.size → (∀ q : Nat, q < H.size → ¬ A1 q → H1[q]? = H[q]?) → va_S A0 H0 H1 locs1 → W p l e R s m args below meth c H1 locs1 (cells + mc) (slots + ms) Q (F0 m (pc + 3) ls (.long r :: rest))) : W p l e R s m args below meth c H locs cells slots Q (F0 m pc ls st0) := by
  intro T hT X
  rcases hr T hT X with ⟨v, st₀, t, T', L, h0, X', hL, e1, e2, ⟨⟨r, u, hv, hp, hb⟩, hF⟩, st⟩ | ⟨q, st₀, t, T', L, E, ce, h0, X', hL, e1, e2, ⟨u, hp, hb, hF⟩, hce, hcv, hcl, st⟩
  · cases hv
    obtain ⟨k1, k2, k3⟩ := vx_keep h0 e1 hS hA hf hL hF
    obtain ⟨t2, a1, b1⟩ := kk r u t T'.heap (locs ++ L) e1.symm (by rw [← e2]; exact X'.warmed.alike) hp hb k1 k2 k3 T' rfl X'
    exact ⟨t2, st t2 a1, b1⟩
  · obtain ⟨k1, k2, k3⟩ := vx_keep h0 e1 hS hAX hf hL hF
    obtain ⟨t2, a1, b1⟩ := kx E ce q u t T'.heap (locs ++ L) e1.symm (by rw [← e2]; exact X'.warmed.alike) hp hb k1 k2 k3 (by rw [e1]; exact hce) hcv hcl T' rfl X'
    exact ⟨t2, st.trans a1, b1⟩
theorem vx_callf {S SX : Type} {post : UInt32 → S → Prop} {px : SX → Prop} {B : S → State → Prop} {BX : String → SX → State → Prop} {AX : Nat → Prop} (hr : vx_Run p l e R s m args below meth c H locs cells slots mc ms (F0 m pc ls st0) rest (va_Qf post B A1 a) (vx_X px BX AX) free) (hS : va_S A0 H0 H locs) (hA : ∀ q, q < H.size → A1 q → A0 q) (hf : ∀ q, free q → A0 q) (hAX : ∀ q, q < H.size → AX q → A0 q)
    (kx : ∀ (E : String) (ce : Cell) (q9 : Addr) (u : SX) (t : State) (H1 : Heap) (locs1 : List Loc), t.heap = H1 → s.vm.Alike t.vm → px u → BX E u t → H.size ≤ H1.size → (∀ q : Nat, q < H.size → ¬ AX q → H1[q]? = H[q]?) → va_S A0 H0 H1 locs1 → H1[q9]? = some ce → ce.vm = .none → s.vm.findClass E = some ce.cls → vx_W p l e R s m args below meth c H1 locs1 (cells + mc) (slots + ms) Q (F0 m pc ls rest) q9)
    (kk : ∀ (r : UInt32) (u : S) (t : State) (H1 : Heap) (locs1 : List Loc), t.heap = H1 → s.vm.Alike t.vm → post r u → B u t → H.size ≤ H1.size → (∀ q : Nat, q < H.size → ¬ A1 q → H1[q]? = H[q]?) → va_S A0 H0 H1 locs1 → W p l e R s m args below meth c H1 locs1 (cells + mc) (slots + ms) Q (F0 m (pc + 3) ls (.float r :: rest))) : W p l e R s m args below meth c H locs cells slots Q (F0 m pc ls st0) := by
  intro T hT X
  rcases hr T hT X with ⟨v, st₀, t, T', L, h0, X', hL, e1, e2, ⟨⟨r, u, hv, hp, hb⟩, hF⟩, st⟩ | ⟨q, st₀, t, T', L, E, ce, h0, X', hL, e1, e2, ⟨u, hp, hb, hF⟩, hce, hcv, hcl, st⟩
  · cases hv
    obtain ⟨k1, k2, k3⟩ := vx_keep h0 e1 hS hA hf hL hF
    obtain ⟨t2, a1, b1⟩ := kk r u t T'.heap (locs ++ L) e1.symm (by rw [← e2]; exact X'.warmed.alike) hp hb k1 k2 k3 T' rfl X'
    exact ⟨t2, st t2 a1, b1⟩
  · obtain ⟨k1, k2, k3⟩ := vx_keep h0 e1 hS hAX hf hL hF
    obtain ⟨t2, a1, b1⟩ := kx E ce q u t T'.heap (locs ++ L) e1.symm (by rw [← e2]; exact X'.warmed.alike) hp hb k1 k2 k3 (by rw [e1]; exact hce) hcv hcl T' rfl X'
    exact ⟨t2, st.trans a1, b1⟩
theorem vx_calld {S SX : Type} {post : UInt64 → S → Prop} {px : SX → Prop} {B : S → State → Prop} {BX : String → SX → State → Prop} {AX : Nat → Prop} (hr : vx_Run p l e R s m args below meth c H locs cells slots mc ms (F0 m pc ls st0) rest (va_Qd post B A1 a) (vx_X px BX AX) free) (hS : va_S A0 H0 H locs) (hA : ∀ q, q < H.size → A1 q → A0 q) (hf : ∀ q, free q → A0 q) (hAX : ∀ q, q < H.size → AX q → A0 q)
    (kx : ∀ (E : String) (ce : Cell) (q9 : Addr) (u : SX) (t : State) (H1 : Heap) (locs1 : List Loc), t.heap = H1 → s.vm.Alike t.vm → px u → BX E u t → H.size ≤ H1.size → (∀ q : Nat, q < H.size → ¬ AX q → H1[q]? = H[q]?) → va_S A0 H0 H1 locs1 → H1[q9]? = some ce → ce.vm = .none → s.vm.findClass E = some ce.cls → vx_W p l e R s m args below meth c H1 locs1 (cells + mc) (slots + ms) Q (F0 m pc ls rest) q9)
    (kk : ∀ (r : UInt64) (u : S) (t : State) (H1 : Heap) (locs1 : List Loc), t.heap = H1 → s.vm.Alike t.vm → post r u → B u t → H.size ≤ H1.size → (∀ q : Nat, q < H.size → ¬ A1 q → H1[q]? = H[q]?) → va_S A0 H0 H1 locs1 → W p l e R s m args below meth c H1 locs1 (cells + mc) (slots + ms) Q (F0 m (pc + 3) ls (.double r :: rest))) : W p l e R s m args below meth c H locs cells slots Q (F0 m pc ls st0) := by
  intro T hT X
  rcases hr T hT X with ⟨v, st₀, t, T', L, h0, X', hL, e1, e2, ⟨⟨r, u, hv, hp, hb⟩, hF⟩, st⟩ | ⟨q, st₀, t, T', L, E, ce, h0, X', hL, e1, e2, ⟨u, hp, hb, hF⟩, hce, hcv, hcl, st⟩
  · cases hv
    obtain ⟨k1, k2, k3⟩ := vx_keep h0 e1 hS hA hf hL hF
    obtain ⟨t2, a1, b1⟩ := kk r u t T'.heap (locs ++ L) e1.symm (by rw [← e2]; exact X'.warmed.alike) hp hb k1 k2 k3 T' rfl X'
    exact ⟨t2, st t2 a1, b1⟩
  · obtain ⟨k1, k2, k3⟩ := vx_keep h0 e1 hS hAX hf hL hF
    obtain ⟨t2, a1, b1⟩ := kx E ce q u t T'.heap (locs ++ L) e1.symm (by rw [← e2]; exact X'.warmed.alike) hp hb k1 k2 k3 (by rw [e1]; exact hce) hcv hcl T' rfl X'
    exact ⟨t2, st.trans a1, b1⟩
theorem vx_callv {S SX : Type} {post : S → Prop} {px : SX → Prop} {B : S → State → Prop} {BX : String → SX → State → Prop} {AX : Nat → Prop} (hr : vx_Run p l e R s m args below meth c H locs cells slots mc ms (F0 m pc ls st0) rest (va_Qv post B A1 a) (vx_X px BX AX) free) (hS : va_S A0 H0 H locs) (hA : ∀ q, q < H.size → A1 q → A0 q) (hf : ∀ q, free q → A0 q) (hAX : ∀ q, q < H.size → AX q → A0 q)
    (kx : ∀ (E : String) (ce : Cell) (q9 : Addr) (u : SX) (t : State) (H1 : Heap) (locs1 : List Loc), t.heap = H1 → s.vm.Alike t.vm → px u → BX E u t → H.size ≤ H1.size → (∀ q : Nat, q < H.size → ¬ AX q → H1[q]? = H[q]?) → va_S A0 H0 H1 locs1 → H1[q9]? = some ce → ce.vm = .none → s.vm.findClass E = some ce.cls → vx_W p l e R s m args below meth c H1 locs1 (cells + mc) (slots + ms) Q (F0 m pc ls rest) q9)
    (kk : ∀ (u : S) (t : State) (H1 : Heap) (locs1 : List Loc), t.heap = H1 → s.vm.Alike t.vm → post u → B u t → H.size ≤ H1.size → (∀ q : Nat, q < H.size → ¬ A1 q → H1[q]? = H[q]?) → va_S A0 H0 H1 locs1 → W p l e R s m args below meth c H1 locs1 (cells + mc) (slots + ms) Q (F0 m (pc + 3) ls (rest))) : W p l e R s m args below meth c H locs cells slots Q (F0 m pc ls st0) := by
  intro T hT X
  rcases hr T hT X with ⟨v, st₀, t, T', L, h0, X', hL, e1, e2, ⟨⟨u, hv, hp, hb⟩, hF⟩, st⟩ | ⟨q, st₀, t, T', L, E, ce, h0, X', hL, e1, e2, ⟨u, hp, hb, hF⟩, hce, hcv, hcl, st⟩
  · cases hv
    obtain ⟨k1, k2, k3⟩ := vx_keep h0 e1 hS hA hf hL hF
    obtain ⟨t2, a1, b1⟩ := kk u t T'.heap (locs ++ L) e1.symm (by rw [← e2]; exact X'.warmed.alike) hp hb k1 k2 k3 T' rfl X'
    exact ⟨t2, st t2 a1, b1⟩
  · obtain ⟨k1, k2, k3⟩ := vx_keep h0 e1 hS hAX hf hL hF
    obtain ⟨t2, a1, b1⟩ := kx E ce q u t T'.heap (locs ++ L) e1.symm (by rw [← e2]; exact X'.warmed.alike) hp hb k1 k2 k3 (by rw [e1]; exact hce) hcv hcl T' rfl X'
    exact ⟨t2, st.trans a1, b1⟩
/-- caught by the row x of this method's table; the rows ahead don't take it -/
theorem vx_catch {own name : String} {E : String} {ce : Cell} {q : Addr} (hown : s.vm.findClass own = some m.cls) (pre : List ExceptionTableEntry) (x : ExceptionTableEntry) (suf : List ExceptionTableEntry) (hsplit : c.exceptionTable.toList = pre ++ x :: suf)
    (hpass : ∀ z ∈ pre, covers z pc = false ∨ (z.catchType ≠ 0 ∧ ∃ nm : String, (Cond.classLink own z.catchType nm).before args s = true ∧ va_Nc E nm s)) (hx : covers x pc = true) (h0 : x.catchType ≠ 0)
    (hlink : (Cond.classLink own x.catchType name).before args s = true) (hcast : (Cond.castable E name).before args s = true) (hcell : H[q]? = some ce) (hv : ce.vm = .none) (hcl : s.vm.findClass E = some ce.cls)
    (kk : W p l e R s m args below meth c H locs cells slots Q (F0 m x.handlerPc ls [.ref q])) : vx_W p l e R s m args below meth c H locs cells slots Q (F0 m pc ls rest) q := by
  intro T hT X
  have hpl : e.platform.magicAccessors = ({} : Platform).magicAccessors := by rw [X.admits.platform]
  obtain ⟨c3, c4, hc3, hc4, hasg⟩ := Cond.castable_spec hcast
  cases Option.some.inj (hc3.symm.trans hcl)
  obtain ⟨c5, hc5, hcl5⟩ := Cond.classLink_spec hown hlink e.platform hpl
  cases Option.some.inj (hc4.symm.trans hc5)
  obtain ⟨vm', X', st⟩ := X.thenCaughtThrough q (g := F0 m pc ls rest) rfl (Steps.refl _) (by rw [hT]; exact hcell) (by rw [hv]; rfl) (by obtain ⟨k9, h9, -⟩ := Vm.findClass_spec hcl; exact ⟨k9, h9⟩) pre x suf hsplit
    (fun z hz => by
      rcases hpass z hz with h | ⟨hz0, nm, hl1, hn1⟩
      · exact Or.inl h
      · obtain ⟨c6, hc6, hcl6⟩ := Cond.classLink_spec hown hl1 e.platform hpl
        obtain ⟨a8, b8, h1, h2, h3⟩ := hn1
        cases Option.some.inj (h1.symm.trans hcl)
        cases Option.some.inj (h2.symm.trans hc6)
        exact Or.inr ⟨hz0, _, hcl6, h3⟩) hx (Or.inr ⟨h0, c4, hcl5, hasg⟩)
  obtain ⟨t, a1, b1⟩ := kk (T.setVm vm') hT X'
  exact ⟨t, st.trans a1, b1⟩
end Rows
section Ends
variable {p : Program} {l : Launch} {e : Env} {R : Room} {s : State} {m : MethodId} {args : Array Value} {below : List Frame} {meth : Method} {c : Code} {H : Heap} {locs : List Loc} {cells slots : Nat} {Q : State → Prop}
variable {mc ms : Nat} {free : Addr → Prop} {A0 A1 : Nat → Prop} {H0 : Heap} {a : Array Value} {ls : Array Slot} {st0 rest : List Value}
variable {Qc : Array Value → State → Outcome → State → Prop} {XC : String → State → State → Prop}
/-- what a body that may throw owes at its end -/
def vx_MQ (below : List Frame) (Qc : Array Value → State → Outcome → State → Prop) (XC : String → State → State → Prop) (a : Array Value) (s : State) (mc ms : Nat) (free : Addr → Prop) : State → Prop := fun t =>
  ∃ o, t.status = .running ∧ Ended t below o ∧ vx_Q Qc XC mc ms free a s o t
theorem vx_ret {g : JFrame} {mc ms : Nat} (k : W p l e R s m args below meth c H locs cells slots (MQ below Qc args s mc ms free) g) : W p l e R s m args below meth c H locs cells slots (vx_MQ below Qc XC args s mc ms free) g := by
  intro T hT X
  obtain ⟨t, a1, o, b1, b2, b3, b4⟩ := k T hT X
  exact ⟨t, a1, o, b1, b2, Or.inl ⟨b3, b4⟩⟩
/-- not caught here: it goes on to the caller -/
theorem vx_widen {g : JFrame} {q : Addr} {k n : Nat} (h1 : cells ≤ k) (h2 : slots ≤ n) (kk : vx_W p l e R s m args below meth c H locs k n Q g q) : vx_W p l e R s m args below meth c H locs cells slots Q g q := fun T hT X => kk T hT (stand_widen X h1 h2)
theorem vx_out {pc : Nat} {E : String} {ce : Cell} {q : Addr} {mc ms : Nat} (hout : ∀ x ∈ c.exceptionTable.toList, covers x pc = false) (hlocks : meth.locks = false) (hcell : H[q]? = some ce) (hv : ce.vm = .none) (hcl : s.vm.findClass E = some ce.cls)
    (hx : ∀ t : State, t.heap = H → s.vm.Alike t.vm → XC E s t) (hf : ∀ z ∈ locs, free z.base) (hc : cells ≤ mc) (hs : slots ≤ ms) :
    vx_W p l e R s m args below meth c H locs cells slots (vx_MQ below Qc XC args s mc ms free) (F0 m pc ls rest) q := by
  intro T hT X
  obtain ⟨st1, hrun, hend, hW, hsm⟩ := X.leaveThrown q (g := F0 m pc ls rest) rfl rfl rfl hout hlocks
  have hcell9 : (T.setFrames (.throwing q :: below)).heap[q]? = some ce := by
    show T.heap[q]? = some ce
    rw [hT]; exact hcell
  exact ⟨_, st1, .threw q, hrun, hend, Or.inr ⟨q, rfl, E, ce, locs, hx _ hT hW.alike, hcell9, hv, hcl, hW, hsm.mono hc hs, hf⟩⟩
theorem vx_frame {U : State} {k n : Nat} (h : s.sameButNew ({ U with vm := s.vm } : State) locs k n) : s.heap.size ≤ U.heap.size ∧ ∀ q : Nat, q < s.heap.size → (∀ z ∈ locs, z.base ≠ q) → U.heap[q]? = s.heap[q]? := by
  obtain ⟨-, h2, -, -, -, h6⟩ := h
  refine ⟨h2, fun q hq hz => ?_⟩
  obtain ⟨c9, e1, e2, e3, e4⟩ := h6 q _ (Array.getElem?_eq_getElem hq)
  have hs : c9.slots = (s.heap[q]).slots := Array.ext_getElem? fun i => e4 i fun hm => hz _ hm rfl
  have h9 : c9 = s.heap[q] := by
    rw [hs] at e2
    exact e2
  have e5 : U.heap[q]? = some c9 := e1
  rw [e5, h9, Array.getElem?_eq_getElem hq]
/-- the words of a throw but the four that speak of the heap -/
def vx_no (w : Cond) : Bool := decide (w ≠ .isRef (.static Bundle.tN "UNASSIGNED_STACK" Bundle.steD)) && decide (w ≠ .isRef (.static Bundle.tN "SUPPRESSED_SENTINEL" Bundle.listD)) && decide (w ≠ .laysStatic Bundle.tN "UNASSIGNED_STACK" Bundle.steD) && decide (w ≠ .laysStatic Bundle.tN "SUPPRESSED_SENTINEL" Bundle.listD)
def vx_at0 (own : String) (ic : Nat) (X : String) (names : List String) : List Cond := (Bundle.ownAtoms0 own ic X names).filter vx_no
def vx_atS (own : String) (ic : Nat) (X : String) (names : List String) : List Cond := (Bundle.ownAtoms own ic X names).filter vx_no
/-- a word that the tables alone decide, or a good one -/
def vx_ot (w : Cond) : Bool := w.onTables || goodWord w
theorem vx_ot_at {args a' : Array Value} {s U : State} {w : Cond} (hW : s.WarmedH U.vm) (hvm : s.vm = U.vm) (hg : vx_ot w = true) (h : w.before args s = true) : w.before a' U = true := by
  simp only [vx_ot, Bool.or_eq_true] at hg
  rcases hg with hg | hg
  · exact va_tabs hg hvm h
  · exact word_at hW (good_of_word hg) h
/-- a list's words: the good ones out of the method's own list, the others by premises of their own -/
theorem vx_hat {args : Array Value} {s : State} {L B : List Cond} (h1 : ∀ w ∈ L.filter goodWord, w.before args s = true) (h2 : ∀ w ∈ L.filter (fun w => !goodWord w), w ∈ B) (h3 : ∀ w ∈ B, w.before args s = true) : ∀ w ∈ L, w.before args s = true := by
  intro w hw
  by_cases g : goodWord w = true
  · exact h1 w (List.mem_filter.mpr ⟨hw, g⟩)
  · refine h3 w (h2 w (List.mem_filter.mpr ⟨hw, ?_⟩))
    show (!goodWord w) = true
    cases hgw : goodWord w
    · rfl
    · exact absurd hgw g
theorem vx_c {args : Array Value} {s : State} {w : Cond} {B : List Cond} (h : w.before args s = true) (t : ∀ w ∈ B, w.before args s = true) : ∀ w' ∈ w :: B, w'.before args s = true := fun w' h' => (List.mem_cons.mp h').elim (fun e => by rw [e]; exact h) (t w')
theorem vx_n {args : Array Value} {s : State} : ∀ w ∈ ([] : List Cond), w.before args s = true := fun _ h => nomatch h
theorem vx_own {args : Array Value} {s : State} {L : List Cond} (h1 : ∀ w ∈ L.filter vx_no, w.before args s = true)
    (hU : (Cond.isRef (.static Bundle.tN "UNASSIGNED_STACK" Bundle.steD)).before args s = true) (hN : (Cond.isRef (.static Bundle.tN "SUPPRESSED_SENTINEL" Bundle.listD)).before args s = true)
    (lU : (Cond.laysStatic Bundle.tN "UNASSIGNED_STACK" Bundle.steD).before args s = true) (lN : (Cond.laysStatic Bundle.tN "SUPPRESSED_SENTINEL" Bundle.listD).before args s = true) : ∀ w ∈ L, w.before args s = true := by
  intro w hw
  by_cases e1 : w = .isRef (.static Bundle.tN "UNASSIGNED_STACK" Bundle.steD)
  · rw [e1]; exact hU
  · by_cases e2 : w = .isRef (.static Bundle.tN "SUPPRESSED_SENTINEL" Bundle.listD)
    · rw [e2]; exact hN
    · by_cases e3 : w = .laysStatic Bundle.tN "UNASSIGNED_STACK" Bundle.steD
      · rw [e3]; exact lU
      · by_cases e4 : w = .laysStatic Bundle.tN "SUPPRESSED_SENTINEL" Bundle.listD
        · rw [e4]; exact lN
        · exact h1 w (List.mem_filter.mpr ⟨hw, by unfold vx_no; rw [decide_eq_true e1, decide_eq_true e2, decide_eq_true e3, decide_eq_true e4]; rfl⟩)
/-- where a static field lies, its class's statics cell in H -/
def vx_L (C n d : String) (A : Nat → Prop) (U : State) (H : Heap) : Prop := ∃ (c : ClassId) (k : Class) (i : Nat) (f : Field) (a : Nat) (cell : Cell), U.vm.findClass C = some c ∧ U.fieldFound? C n d = some (c, k, i, f) ∧ f.isStatic = true ∧ k.statics = some a ∧ H[a]? = some cell ∧ cell.vm.isStatics = true ∧ cell.cls = c ∧ f.slot < cell.slots.size ∧ k.staticTypes[f.slot]? = some f.type ∧ ¬ A a
theorem vx_L.moved {C n d : String} {A : Nat → Prop} {u U : State} {H : Heap} (hvm : u.vm.Alike U.vm) (h : vx_L C n d A u H) : vx_L C n d A U H := by
  obtain ⟨c, k, i, f, a, cell, h1, h2, h3, h4, h5, h6, h7, h8, h9, h10⟩ := h
  obtain ⟨k', hi', he⟩ := State.fieldFound?_setVm hvm h2
  exact ⟨c, k', i, f, a, cell, by rw [hvm.findClass]; exact h1, hi', h3, by rw [he]; exact h4, h5, h6, h7, h8, by rw [he]; exact h9, h10⟩
theorem vx_L.kept {C n d : String} {A : Nat → Prop} {U : State} {H H1 : Heap} (h : vx_L C n d A U H) (hq : ∀ a : Nat, a < H.size → ¬ A a → H1[a]? = H[a]?) : vx_L C n d A U H1 := by
  obtain ⟨c, k, i, f, a, cell, h1, h2, h3, h4, h5, h6, h7, h8, h9, h10⟩ := h
  exact ⟨c, k, i, f, a, cell, h1, h2, h3, h4, by rw [hq a (Array.getElem?_eq_some_iff.mp h5).1 h10]; exact h5, h6, h7, h8, h9, h10⟩
theorem vx_L.narrow {C n d : String} {A B : Nat → Prop} {U : State} {H : Heap} (h : vx_L C n d A U H) (hAB : ∀ q, B q → A q) : vx_L C n d B U H := by
  obtain ⟨c, k, i, f, a, cell, h1, h2, h3, h4, h5, h6, h7, h8, h9, h10⟩ := h
  exact ⟨c, k, i, f, a, cell, h1, h2, h3, h4, h5, h6, h7, h8, h9, fun z => h10 (hAB _ z)⟩
theorem vx_L.word {C n d : String} {A : Nat → Prop} {s : State} {args : Array Value} (h : vx_L C n d A s s.heap) : (Cond.laysStatic C n d).before args s = true := by
  obtain ⟨c, k, i, f, a, cell, h1, h2, h3, h4, h5, h6, h7, h8, h9, -⟩ := h
  show (Cond.laysStatic C n d).holds args s none s [] = true
  exact Cond.laysStatic_of h1 h2 h3 h4 h5 h6 h7 h8 h9
/-- .. and what it holds: null or some reference -/
def vx_Zq (C n d : String) (A : Nat → Prop) (U : State) (H : Heap) : Prop := va_Zq C n d A U H ∧ vx_L C n d A U H
theorem vx_Zq.moved {C n d : String} {A : Nat → Prop} {u U : State} {H : Heap} (hvm : u.vm.Alike U.vm) (h : vx_Zq C n d A u H) : vx_Zq C n d A U H := ⟨va_Zq.moved hvm h.1, vx_L.moved hvm h.2⟩
theorem vx_Zq.kept {C n d : String} {A : Nat → Prop} {U : State} {H H1 : Heap} (h : vx_Zq C n d A U H) (hq : ∀ a : Nat, a < H.size → ¬ A a → H1[a]? = H[a]?) : vx_Zq C n d A U H1 := ⟨va_Zq.kept h.1 hq, vx_L.kept h.2 hq⟩
theorem vx_Zq.narrow {C n d : String} {A B : Nat → Prop} {U : State} {H : Heap} (h : vx_Zq C n d A U H) (hAB : ∀ q, B q → A q) : vx_Zq C n d B U H := ⟨va_Zq.narrow h.1 hAB, vx_L.narrow h.2 hAB⟩
theorem vx_Zqof {args : Array Value} {s : State} {C n d : String} {A : Nat → Prop} (hl : (Cond.laysStatic C n d).before args s = true) (hini : (Cond.initialized C).before args s = true) (h : (Cond.isRef (.static C n d)).before args s = true) (hA : ∀ a : Nat, a < s.heap.size → ¬ A a) : vx_Zq C n d A s s.heap := by
  refine ⟨va_Zqof hl hini h hA, ?_⟩
  obtain ⟨c, k, i, f, a, cell, h1, h2, h3, h4, h5, h6, h7, h8, h9⟩ := Cond.laysStatic_spec hl
  exact ⟨c, k, i, f, a, cell, h1, h2, h3, h4, h5, h6, h7, h8, h9, hA a (Array.getElem?_eq_some_iff.mp h5).1⟩
theorem vx_isRef {C n d : String} {v : Value} {A : Nat → Prop} {s : State} {args : Array Value} (h : va_Z C n d v A s s.heap) (hv : v.isRef = true) : (Cond.isRef (.static C n d)).before args s = true := by
  obtain ⟨cf, kf, fi, f, a, cell, h1, h2, h3, h4, h5, h6, h7, -⟩ := h
  have he : (Term.static C n d).eval args s none [] s = some v := by
    simp [Term.eval, State.fieldNamed?, h1, h2, h4, h5, h6, h7]
  simp only [Cond.before, Cond.holds, Cond.value, he]
  cases v <;> simp_all [Value.isRef]
theorem vx_isRefq {C n d : String} {A : Nat → Prop} {s : State} {args : Array Value} (h : va_Zq C n d A s s.heap) : (Cond.isRef (.static C n d)).before args s = true := by
  rcases h with h | ⟨t, h⟩
  · exact vx_isRef h rfl
  · exact vx_isRef h rfl
/-- the same frame, seen from here: as if the method were called anew in this heap -/
theorem vx_rebase {T : State} (X : Stand p l e R s m args below meth c T locs cells slots) {R' : Room} (hf : R'.frames ≤ R.frames) (hl : R'.locals ≤ R.locals) (hc : cells + R'.cells ≤ R.cells) (hs : slots + R'.slots ≤ R.slots) :
    Stand p l e R' ((T.setVm s.vm).setFrames (.invoking m args :: below)) m args below meth c T [] 0 0 := by
  have htop : (T.setVm s.vm).topJava?.isSome := X.here.top
  have hF : ((T.setVm s.vm).setFrames (.invoking m args :: below)).frames = .invoking m args :: below := State.frames_setFrames _ (State.cur_lt_of_top htop)
  obtain ⟨g₀, hg0⟩ := Option.isSome_iff_exists.mp htop
  obtain ⟨r, hr⟩ := State.topJava?_eq_some.mp hg0
  have hl9 : e.platform.stackLimits (T.setVm s.vm).me = e.platform.stackLimits s.me := X.limits
  have hb9 : (T.setVm s.vm).me.stackBytes = s.me.stackBytes := X.bytes
  refine ⟨X.admits, X.cas, X.clock, hF, ?_, X.hears, X.method, X.code, X.here, X.tail, X.warmed, ?_, ?_, ?_⟩
  · have h := X.room
    have hU : ((T.setVm s.vm).setFrames (.invoking m args :: below)).localsInUse = s.localsInUse := by
      rw [State.localsInUse_invoking hF (meth := meth) (c := c) X.method X.code, State.localsInUse_invoking X.frames X.method X.code]
    simp only [State.hasRoom, Bool.and_eq_true, decide_eq_true_eq] at h ⊢
    obtain ⟨⟨⟨⟨h1, h2, h3, h4, h5, h6⟩, h7⟩, h8⟩, h9⟩ := h
    rw [X.frames, List.length_cons] at h2 h3
    have q1 := X.heapSize
    have q2 := X.used
    simp only [hF, hU, List.length_cons, State.stackLimits_setFrames, State.stackBytes_setFrames, hl9, hb9]
    refine ⟨⟨⟨⟨by omega, by omega, by omega, by omega, by omega, h6⟩, ?_⟩, ?_⟩, X.book⟩
    · show T.heap.size + R'.cells ≤ e.platform.maxCells
      omega
    · show T.slotsUsed + R'.slots ≤ e.platform.maxSlots
      omega
  · rw [State.stackLimits_setFrames]; rfl
  · rw [State.stackBytes_setFrames]; rfl
  · refine ⟨?_, Nat.le_refl _, Nat.le_refl _, ?_, ?_, fun a c9 h9 => ⟨c9, h9, rfl, rfl, fun _ _ => rfl⟩⟩
    · obtain ⟨t, ht, -⟩ := State.frames_cons hr
      show T.setVm s.vm = { ((T.setVm s.vm).setFrames (.invoking m args :: below)).setFrames (T.setVm s.vm).frames with heap := T.heap, slotsUsed := T.slotsUsed }
      rw [State.setFrames_setFrames, State.setFrames_self ht]
      rfl
    · show T.slotsUsed = T.slotsUsed + ((T.heap.toList.drop T.heap.size).map (·.slots.size)).sum
      rw [List.drop_eq_nil_of_le (Nat.le_of_eq Array.length_toList)]
      rfl
    · show ((T.heap.toList.drop T.heap.size).map (·.slots.size)).sum ≤ 0
      rw [List.drop_eq_nil_of_le (Nat.le_of_eq Array.length_toList)]
      exact Nat.le_refl _
/-- 'throw new E()': new; dup; invokespecial; athrow -/
theorem vx_throw0 {cc : ByteArray} {pc : Nat} (hexec : p.tables.exec = Jvm.exec) (hb : c.code = cc) (hl : l.stackTraces = false) {own cls : String} {names : List String} {ik ic mc ms : Nat} {A : Nat → Prop}
    (hown : s.vm.findClass own = some m.cls) (hcls : Bundle.fit cls = true) (hnames : ∀ n ∈ names, Bundle.fit n = true)
    (hk : (Cond.classLink own ik cls).before args s = true) (hini : (Cond.initialized cls).before args s = true) (hat : ∀ w ∈ vx_at0 own ic cls names, w.before args s = true)
    (hgood : ∀ w ∈ Cond.classLink own ik cls :: Cond.initialized cls :: vx_at0 own ic cls names, vx_ot w = true)
    (hU : vx_Zq Bundle.tN "UNASSIGNED_STACK" Bundle.steD A s s.heap) (hN : vx_Zq Bundle.tN "SUPPRESSED_SENTINEL" Bundle.listD A s s.heap) (hS : va_S A s.heap H locs) (hsize : ls.size = c.maxLocals)
    (d0 : decode cc pc = .ok (.new ik, 3)) (d3 : decode cc (pc + 3) = .ok (.dup, 1)) (d4 : decode cc (pc + 4) = .ok (.invokespecial ic, 3)) (d7 : decode cc (pc + 7) = .ok (.athrow, 1))
    (hout : ∀ x ∈ c.exceptionTable.toList, covers x (pc + 7) = false)
    (hRframes : names.length + 3 < R.frames) (hRlocals : (rest.map fun v => v.category).sum + (13 * (names.length + 1) + 42) ≤ R.locals) (hRcells : cells + 1 ≤ R.cells) (hRslots : slots + 6 ≤ R.slots) (hlocks : meth.locks = false)
    (hx : ∀ t : State, s.vm.Alike t.vm → H.size ≤ t.heap.size → (∀ q : Nat, q < H.size → t.heap[q]? = H[q]?) → XC cls s t)
    (hf : ∀ z ∈ locs, free z.base) (hc : cells + 1 ≤ mc) (hs : slots + 6 ≤ ms) :
    W p l e R s m args below meth c H locs cells slots (vx_MQ below Qc XC args s mc ms free) (F0 m pc ls rest) := by
  intro T hT X
  have htr : e.platform.stackTraces = false := (show e.platform.stackTraces = l.stackTraces by rw [X.admits.platform]).trans hl
  have Y := vx_rebase X (R' := { frames := R.frames, locals := R.locals, cells := 1, slots := 6 }) (Nat.le_refl _) (Nat.le_refl _) hRcells hRslots
  obtain ⟨s', hA⟩ : ∃ z, z = (T.setVm s.vm).setFrames (.invoking m args :: below) := ⟨_, rfl⟩
  rw [← hA] at Y
  have hvm : s'.vm = s.vm := by rw [hA]; rfl
  have hhp : s'.heap = H := by rw [hA]; exact hT
  have hW0 : s.WarmedH s'.vm := by rw [hvm]; exact State.WarmedH.refl s
  have hat' : ∀ w ∈ vx_at0 own ic cls names, w.before args s' = true := fun w hw => vx_ot_at hW0 hvm.symm (hgood w (List.mem_cons_of_mem _ (List.mem_cons_of_mem _ hw))) (hat w hw)
  have hk' : (Cond.classLink own ik cls).before args s' = true := vx_ot_at hW0 hvm.symm (hgood _ List.mem_cons_self) hk
  have hini' : (Cond.initialized cls).before args s' = true := vx_ot_at hW0 hvm.symm (hgood _ (List.mem_cons_of_mem _ List.mem_cons_self)) hini
  have hU' : vx_Zq Bundle.tN "UNASSIGNED_STACK" Bundle.steD A s' s'.heap := by rw [hhp]; exact vx_Zq.moved hW0.alike (hU.kept hS.2.1)
  have hN' : vx_Zq Bundle.tN "SUPPRESSED_SENTINEL" Bundle.listD A s' s'.heap := by rw [hhp]; exact vx_Zq.moved hW0.alike (hN.kept hS.2.1)
  have h : ∀ w ∈ Bundle.ownAtoms0 own ic cls names, w.before args s' = true := vx_own hat' (vx_isRefq hU'.1) (vx_isRefq hN'.1) hU'.2.word hN'.2.word
  have hown' : s'.vm.findClass own = some m.cls := by rw [hvm]; exact hown
  have hins : (Cond.instantiable cls 6).before args s' = true := h _ (by simp [Bundle.ownAtoms0])
  obtain ⟨vm₁, cX, kX, hfX, hkX, -, -, X₁, st1⟩ := Y.newCold hexec (own := own) (C := cls) (index := ik) (n := 6) hown' hk' hins hini'
    (g := F0 m pc ls rest) rfl (by rw [hb]; exact d0) (Nat.le_refl _) (Nat.le_refl _)
  generalize hT1 : (T.setVm vm₁).pushCell { cls := cX, slots := kX.instanceTypes.map defaultValue, vm := .none } = T1 at X₁ st1
  have hcat : (Value.ref T.heap.size).category = 1 := rfl
  have hcellA : T1.heap[T.heap.size]? = some (freshCell cX kX) := by rw [← hT1]; exact State.heap_pushCell_size _ _
  have d3' : decode c.code (pc + 3) = .ok (.dup, 1) := by rw [hb]; exact d3
  obtain ⟨U, hsteps, hrun, hend, hW, hsame, ce, hce, hO⟩ := X₁.ctorThrow0 hexec htr (own := own) (cls := cls) (names := names) (ic := ic) hown' hcls hnames h (fun x hx => nomatch hx) hfX hkX hcellA (by rw [hhp, hT]; exact Nat.le_refl _)
    (g := { method := m, pc := pc + 4, locals := ls, stack := .ref T.heap.size :: .ref T.heap.size :: rest, locked := none }) rfl hsize rfl rfl (rest := rest) rfl
    (by rw [hb]; exact d4) (by rw [hb]; exact d7) hout hRframes (by simp only [List.map_cons, List.sum_cons, hcat]; omega) hlocks
  obtain ⟨f1, f2⟩ := vx_frame hsame
  rw [hhp] at f1 f2
  have hWs : s.WarmedH U.vm := State.WarmedH.trans hW0 hW
  have hcl : s.vm.findClass cls = some ce.cls := by
    have h9 := hO.cls
    rw [hvm] at h9
    exact h9
  have hall : s.sameButNew ({ U with vm := s.vm } : State) locs mc ms := by
    subst hA
    obtain ⟨e1, e2⟩ := hsame
    rw [State.setFrames_setFrames] at e1
    have h2 : (T.setVm s.vm).sameButNew ({ U with vm := s.vm } : State) [] (0 + 1) (0 + 6) := ⟨e1, e2⟩
    have h3 := X.same.trans h2
    rw [List.append_nil] at h3
    exact h3.mono hc hs
  refine ⟨U, ?_, .threw T.heap.size, hrun, hend, Or.inr ⟨T.heap.size, rfl, cls, ce, locs, hx U hWs.alike f1 (fun q hq => f2 q hq (fun z hz => nomatch hz)), hce, hO.vm, hcl, hWs, hall, hf⟩⟩
  refine st1 _ ?_
  show Steps p.tables e below (T1.setTop { method := m, pc := pc + 3, locals := ls, stack := .ref T.heap.size :: rest, locked := none }) _
  jvm_step X₁.here [X₁.here.top, hexec, d3', Value.category]
  exact hsteps
/-- 'throw new E("text")': new; dup; ldc; invokespecial; athrow -/
theorem vx_throwS {cc : ByteArray} {pc : Nat} (hexec : p.tables.exec = Jvm.exec) (hb : c.code = cc) (hl : l.stackTraces = false) {own cls text : String} {names : List String} {ik is ic mc ms sa : Nat} {A : Nat → Prop}
    (hown : s.vm.findClass own = some m.cls) (hcls : Bundle.fit cls = true) (hnames : ∀ n ∈ names, Bundle.fit n = true)
    (hk : (Cond.classLink own ik cls).before args s = true) (hini : (Cond.initialized cls).before args s = true) (hstr : vk_R own is text sa s) (hat : ∀ w ∈ vx_atS own ic cls names, w.before args s = true)
    (hgood : ∀ w ∈ Cond.classLink own ik cls :: Cond.initialized cls :: vx_atS own ic cls names, vx_ot w = true)
    (hU : vx_Zq Bundle.tN "UNASSIGNED_STACK" Bundle.steD A s s.heap) (hN : vx_Zq Bundle.tN "SUPPRESSED_SENTINEL" Bundle.listD A s s.heap) (hS : va_S A s.heap H locs) (hsize : ls.size = c.maxLocals)
    (d0 : decode cc pc = .ok (.new ik, 3)) (d3 : decode cc (pc + 3) = .ok (.dup, 1)) (d4 : decode cc (pc + 4) = .ok (.ldc is, 2)) (d6 : decode cc (pc + 6) = .ok (.invokespecial ic, 3)) (d9 : decode cc (pc + 9) = .ok (.athrow, 1))
    (hout : ∀ x ∈ c.exceptionTable.toList, covers x (pc + 9) = false)
    (hRframes : names.length + 3 < R.frames) (hRlocals : (rest.map fun v => v.category).sum + (13 * (names.length + 1) + 43) ≤ R.locals) (hRcells : cells + 1 ≤ R.cells) (hRslots : slots + 6 ≤ R.slots) (hlocks : meth.locks = false)
    (hx : ∀ t : State, s.vm.Alike t.vm → H.size ≤ t.heap.size → (∀ q : Nat, q < H.size → t.heap[q]? = H[q]?) → XC cls s t)
    (hf : ∀ z ∈ locs, free z.base) (hc : cells + 1 ≤ mc) (hs : slots + 6 ≤ ms) :
    W p l e R s m args below meth c H locs cells slots (vx_MQ below Qc XC args s mc ms free) (F0 m pc ls rest) := by
  intro T hT X
  have htr : e.platform.stackTraces = false := (show e.platform.stackTraces = l.stackTraces by rw [X.admits.platform]).trans hl
  have Y := vx_rebase X (R' := { frames := R.frames, locals := R.locals, cells := 1, slots := 6 }) (Nat.le_refl _) (Nat.le_refl _) hRcells hRslots
  obtain ⟨s', hA⟩ : ∃ z, z = (T.setVm s.vm).setFrames (.invoking m args :: below) := ⟨_, rfl⟩
  rw [← hA] at Y
  have hvm : s'.vm = s.vm := by rw [hA]; rfl
  have hhp : s'.heap = H := by rw [hA]; exact hT
  have hW0 : s.WarmedH s'.vm := by rw [hvm]; exact State.WarmedH.refl s
  have hat' : ∀ w ∈ vx_atS own ic cls names, w.before args s' = true := fun w hw => vx_ot_at hW0 hvm.symm (hgood w (List.mem_cons_of_mem _ (List.mem_cons_of_mem _ hw))) (hat w hw)
  have hk' : (Cond.classLink own ik cls).before args s' = true := vx_ot_at hW0 hvm.symm (hgood _ List.mem_cons_self) hk
  have hini' : (Cond.initialized cls).before args s' = true := vx_ot_at hW0 hvm.symm (hgood _ (List.mem_cons_of_mem _ List.mem_cons_self)) hini
  have hU' : vx_Zq Bundle.tN "UNASSIGNED_STACK" Bundle.steD A s' s'.heap := by rw [hhp]; exact vx_Zq.moved hW0.alike (hU.kept hS.2.1)
  have hN' : vx_Zq Bundle.tN "SUPPRESSED_SENTINEL" Bundle.listD A s' s'.heap := by rw [hhp]; exact vx_Zq.moved hW0.alike (hN.kept hS.2.1)
  have h : ∀ w ∈ Bundle.ownAtoms own ic cls names, w.before args s' = true := vx_own hat' (vx_isRefq hU'.1) (vx_isRefq hN'.1) hU'.2.word hN'.2.word
  have hown' : s'.vm.findClass own = some m.cls := by rw [hvm]; exact hown
  have hins : (Cond.instantiable cls 6).before args s' = true := h _ (by simp [Bundle.ownAtoms])
  obtain ⟨vm₁, cX, kX, hfX, hkX, -, -, X₁, st1⟩ := Y.newCold hexec (own := own) (C := cls) (index := ik) (n := 6) hown' hk' hins hini'
    (g := F0 m pc ls rest) rfl (by rw [hb]; exact d0) (Nat.le_refl _) (Nat.le_refl _)
  generalize hT1 : (T.setVm vm₁).pushCell { cls := cX, slots := kX.instanceTypes.map defaultValue, vm := .none } = T1 at X₁ st1
  have hcat : (Value.ref T.heap.size).category = 1 := rfl
  have hcellA : T1.heap[T.heap.size]? = some (freshCell cX kX) := by rw [← hT1]; exact State.heap_pushCell_size _ _
  have d3' : decode c.code (pc + 3) = .ok (.dup, 1) := by rw [hb]; exact d3
  have d4' : decode c.code (pc + 4) = .ok (.ldc is, 2) := by rw [hb]; exact d4
  have hstr' : vk_R own is text sa s' := vk_R.warm hW0 hstr
  obtain ⟨U, hsteps, hrun, hend, hW, hsame, ce, hce, hO⟩ := X₁.ctorThrowS hexec htr (own := own) (cls := cls) (names := names) (ic := ic) hown' hcls hnames h (fun x hx => nomatch hx) hfX hkX hcellA (by rw [hhp, hT]; exact Nat.le_refl _) (msg := .ref sa) rfl
    (g := { method := m, pc := pc + 6, locals := ls, stack := .ref sa :: .ref T.heap.size :: .ref T.heap.size :: rest, locked := none }) rfl hsize rfl rfl (rest := rest) rfl
    (by rw [hb]; exact d6) (by rw [hb]; exact d9) hout hRframes (by simp only [List.map_cons, List.sum_cons, hcat]; omega) hlocks
  obtain ⟨f1, f2⟩ := vx_frame hsame
  rw [hhp] at f1 f2
  have hWs : s.WarmedH U.vm := State.WarmedH.trans hW0 hW
  have hcl : s.vm.findClass cls = some ce.cls := by
    have h9 := hO.cls
    rw [hvm] at h9
    exact h9
  have hall : s.sameButNew ({ U with vm := s.vm } : State) locs mc ms := by
    subst hA
    obtain ⟨e1, e2⟩ := hsame
    rw [State.setFrames_setFrames] at e1
    have h2 : (T.setVm s.vm).sameButNew ({ U with vm := s.vm } : State) [] (0 + 1) (0 + 6) := ⟨e1, e2⟩
    have h3 := X.same.trans h2
    rw [List.append_nil] at h3
    exact h3.mono hc hs
  refine ⟨U, ?_, .threw T.heap.size, hrun, hend, Or.inr ⟨T.heap.size, rfl, cls, ce, locs, hx U hWs.alike f1 (fun q hq => f2 q hq (fun z hz => nomatch hz)), hce, hO.vm, hcl, hWs, hall, hf⟩⟩
  refine st1 _ ?_
  show Steps p.tables e below (T1.setTop { method := m, pc := pc + 3, locals := ls, stack := .ref T.heap.size :: rest, locked := none }) _
  jvm_step X₁.here [X₁.here.top, hexec, d3', Value.category]
  exact X₁.ldcString hexec (own := own) (text := text) (index := is) (a := sa) hown' hstr'.1 hstr'.2
    (g := { method := m, pc := pc + 4, locals := ls, stack := .ref T.heap.size :: .ref T.heap.size :: rest, locked := none }) rfl d4' _ hsteps
/-- 'throw new E("text")', the text by a wide index -/
theorem vx_throwSW {cc : ByteArray} {pc : Nat} (hexec : p.tables.exec = Jvm.exec) (hb : c.code = cc) (hl : l.stackTraces = false) {own cls text : String} {names : List String} {ik is ic mc ms sa : Nat} {A : Nat → Prop}
    (hown : s.vm.findClass own = some m.cls) (hcls : Bundle.fit cls = true) (hnames : ∀ n ∈ names, Bundle.fit n = true)
    (hk : (Cond.classLink own ik cls).before args s = true) (hini : (Cond.initialized cls).before args s = true) (hstr : vk_R own is text sa s) (hat : ∀ w ∈ vx_atS own ic cls names, w.before args s = true)
    (hgood : ∀ w ∈ Cond.classLink own ik cls :: Cond.initialized cls :: vx_atS own ic cls names, vx_ot w = true)
    (hU : vx_Zq Bundle.tN "UNASSIGNED_STACK" Bundle.steD A s s.heap) (hN : vx_Zq Bundle.tN "SUPPRESSED_SENTINEL" Bundle.listD A s s.heap) (hS : va_S A s.heap H locs) (hsize : ls.size = c.maxLocals)
    (d0 : decode cc pc = .ok (.new ik, 3)) (d3 : decode cc (pc + 3) = .ok (.dup, 1)) (d4 : decode cc (pc + 4) = .ok (.ldc_w is, 3)) (d7 : decode cc (pc + 7) = .ok (.invokespecial ic, 3)) (d10 : decode cc (pc + 10) = .ok (.athrow, 1))
    (hout : ∀ x ∈ c.exceptionTable.toList, covers x (pc + 10) = false)
    (hRframes : names.length + 3 < R.frames) (hRlocals : (rest.map fun v => v.category).sum + (13 * (names.length + 1) + 43) ≤ R.locals) (hRcells : cells + 1 ≤ R.cells) (hRslots : slots + 6 ≤ R.slots) (hlocks : meth.locks = false)
    (hx : ∀ t : State, s.vm.Alike t.vm → H.size ≤ t.heap.size → (∀ q : Nat, q < H.size → t.heap[q]? = H[q]?) → XC cls s t)
    (hf : ∀ z ∈ locs, free z.base) (hc : cells + 1 ≤ mc) (hs : slots + 6 ≤ ms) :
    W p l e R s m args below meth c H locs cells slots (vx_MQ below Qc XC args s mc ms free) (F0 m pc ls rest) := by
  intro T hT X
  have htr : e.platform.stackTraces = false := (show e.platform.stackTraces = l.stackTraces by rw [X.admits.platform]).trans hl
  have Y := vx_rebase X (R' := { frames := R.frames, locals := R.locals, cells := 1, slots := 6 }) (Nat.le_refl _) (Nat.le_refl _) hRcells hRslots
  obtain ⟨s', hA⟩ : ∃ z, z = (T.setVm s.vm).setFrames (.invoking m args :: below) := ⟨_, rfl⟩
  rw [← hA] at Y
  have hvm : s'.vm = s.vm := by rw [hA]; rfl
  have hhp : s'.heap = H := by rw [hA]; exact hT
  have hW0 : s.WarmedH s'.vm := by rw [hvm]; exact State.WarmedH.refl s
  have hat' : ∀ w ∈ vx_atS own ic cls names, w.before args s' = true := fun w hw => vx_ot_at hW0 hvm.symm (hgood w (List.mem_cons_of_mem _ (List.mem_cons_of_mem _ hw))) (hat w hw)
  have hk' : (Cond.classLink own ik cls).before args s' = true := vx_ot_at hW0 hvm.symm (hgood _ List.mem_cons_self) hk
  have hini' : (Cond.initialized cls).before args s' = true := vx_ot_at hW0 hvm.symm (hgood _ (List.mem_cons_of_mem _ List.mem_cons_self)) hini
  have hU' : vx_Zq Bundle.tN "UNASSIGNED_STACK" Bundle.steD A s' s'.heap := by rw [hhp]; exact vx_Zq.moved hW0.alike (hU.kept hS.2.1)
  have hN' : vx_Zq Bundle.tN "SUPPRESSED_SENTINEL" Bundle.listD A s' s'.heap := by rw [hhp]; exact vx_Zq.moved hW0.alike (hN.kept hS.2.1)
  have h : ∀ w ∈ Bundle.ownAtoms own ic cls names, w.before args s' = true := vx_own hat' (vx_isRefq hU'.1) (vx_isRefq hN'.1) hU'.2.word hN'.2.word
  have hown' : s'.vm.findClass own = some m.cls := by rw [hvm]; exact hown
  have hins : (Cond.instantiable cls 6).before args s' = true := h _ (by simp [Bundle.ownAtoms])
  obtain ⟨vm₁, cX, kX, hfX, hkX, -, -, X₁, st1⟩ := Y.newCold hexec (own := own) (C := cls) (index := ik) (n := 6) hown' hk' hins hini'
    (g := F0 m pc ls rest) rfl (by rw [hb]; exact d0) (Nat.le_refl _) (Nat.le_refl _)
  generalize hT1 : (T.setVm vm₁).pushCell { cls := cX, slots := kX.instanceTypes.map defaultValue, vm := .none } = T1 at X₁ st1
  have hcat : (Value.ref T.heap.size).category = 1 := rfl
  have hcellA : T1.heap[T.heap.size]? = some (freshCell cX kX) := by rw [← hT1]; exact State.heap_pushCell_size _ _
  have d3' : decode c.code (pc + 3) = .ok (.dup, 1) := by rw [hb]; exact d3
  have d4' : decode c.code (pc + 4) = .ok (.ldc_w is, 3) := by rw [hb]; exact d4
  have hstr' : vk_R own is text sa s' := vk_R.warm hW0 hstr
  obtain ⟨U, hsteps, hrun, hend, hW, hsame, ce, hce, hO⟩ := X₁.ctorThrowS hexec htr (own := own) (cls := cls) (names := names) (ic := ic) hown' hcls hnames h (fun x hx => nomatch hx) hfX hkX hcellA (by rw [hhp, hT]; exact Nat.le_refl _) (msg := .ref sa) rfl
    (g := { method := m, pc := pc + 7, locals := ls, stack := .ref sa :: .ref T.heap.size :: .ref T.heap.size :: rest, locked := none }) rfl hsize rfl rfl (rest := rest) rfl
    (by rw [hb]; exact d7) (by rw [hb]; exact d10) hout hRframes (by simp only [List.map_cons, List.sum_cons, hcat]; omega) hlocks
  obtain ⟨f1, f2⟩ := vx_frame hsame
  rw [hhp] at f1 f2
  have hWs : s.WarmedH U.vm := State.WarmedH.trans hW0 hW
  have hcl : s.vm.findClass cls = some ce.cls := by
    have h9 := hO.cls
    rw [hvm] at h9
    exact h9
  have hall : s.sameButNew ({ U with vm := s.vm } : State) locs mc ms := by
    subst hA
    obtain ⟨e1, e2⟩ := hsame
    rw [State.setFrames_setFrames] at e1
    have h2 : (T.setVm s.vm).sameButNew ({ U with vm := s.vm } : State) [] (0 + 1) (0 + 6) := ⟨e1, e2⟩
    have h3 := X.same.trans h2
    rw [List.append_nil] at h3
    exact h3.mono hc hs
  refine ⟨U, ?_, .threw T.heap.size, hrun, hend, Or.inr ⟨T.heap.size, rfl, cls, ce, locs, hx U hWs.alike f1 (fun q hq => f2 q hq (fun z hz => nomatch hz)), hce, hO.vm, hcl, hWs, hall, hf⟩⟩
  refine st1 _ ?_
  show Steps p.tables e below (T1.setTop { method := m, pc := pc + 3, locals := ls, stack := .ref T.heap.size :: rest, locked := none }) _
  jvm_step X₁.here [X₁.here.top, hexec, d3', Value.category]
  exact X₁.ldcStringW hexec (own := own) (text := text) (index := is) (a := sa) hown' hstr'.1 hstr'.2
    (g := { method := m, pc := pc + 4, locals := ls, stack := .ref T.heap.size :: .ref T.heap.size :: rest, locked := none }) rfl d4' _ hsteps
end Ends
section Bodies
variable {l : Launch}
theorem vx_ofW {y : MethodName} {ws ws' : List Cond} {rm : Room} {Pc : Array Value → State → Prop} {Qc : Array Value → State → Outcome → State → Prop} {XC : String → State → State → Prop} {mc ms : Nat} {free : Addr → Prop} {cc : ByteArray} {maxL : Nat} {ret : Option FieldType}
    (hy : plainName y.cls = true) (hw : ws = Cond.code y cc maxL ret :: ws')
    (body : ∀ p e s m args below meth c s₁, BodyLoose p l y (headSpec ws rm) cc maxL ret e s m args below meth c s₁ → c.maxLocals = maxL → (∀ x ∈ c.exceptionTable.toList, False) → Pc args s →
      W p l e (headSpec ws rm).room s m args below meth c s.heap [] 0 0 (vx_MQ below Qc XC args s mc ms free) (entryFrame m args maxL)) : vx_Met l y ws rm Pc Qc XC mc ms free := by
  refine MetFree.of_bodyS (code := cc) (maxLocals := maxL) (ret := ret) hy ?_ ?_
  · intro args s m h hn
    obtain ⟨meth, c, h1, h2, h3, h4, h5, h6, -, -⟩ := Cond.code_spec hn (atoms_spec (ws := ws) h _ (by rw [hw]; exact List.mem_cons_self))
    exact ⟨meth, c, h1, h2, h3, h4, h5, h6⟩
  · intro p e s m args below meth c s₁ B hml hP _
    have hh0 : s₁.heap = s.heap := by rw [B.state]; rfl
    have ht : ∀ x ∈ c.exceptionTable.toList, False := by
      obtain ⟨meth9, c9, h1, h2, -, -, -, -, h7, -⟩ := Cond.code_spec B.named (atoms_spec (ws := ws) B.pre _ (by rw [hw]; exact List.mem_cons_self))
      cases Option.some.inj (h1.symm.trans B.method)
      cases Option.some.inj (h2.symm.trans (Stand.of_body B).code)
      intro x hx
      rw [Array.isEmpty_iff.mp h7] at hx
      cases hx
    obtain ⟨t, a1, o, b1, b2, b3⟩ := body p e s m args below meth c s₁ B hml ht hP s₁ hh0 (Stand.of_body B)
    exact ⟨t, o, a1, b1, b2, b3⟩
/-- the table of a body with handlers -/
theorem vx_table {p : Program} {x y : MethodName} {S : Spec} {cc bytes : ByteArray} {maxL maxL' : Nat} {ret ret' : Option FieldType} {e : Env} {s s₁ : State} {m : MethodId} {args : Array Value} {below : List Frame} {meth : Method} {c : Code} {hh : List (Nat × Nat × Nat × Nat)}
    (B : BodyLoose p l y S cc maxL ret e s m args below meth c s₁) (h : (Cond.codeWith y bytes maxL' ret' hh).before args s = true) : c.exceptionTable.toList = tableOf hh := by
  obtain ⟨m9, meth9, c9, hn9, h1, h2, -, -, h6, -⟩ := Cond.codeWith_spec h
  cases Option.some.inj (hn9.symm.trans B.named)
  cases Option.some.inj (h1.symm.trans B.method)
  cases Option.some.inj (h2.symm.trans (Stand.of_body B).code)
  rw [← h6, table_eq]
end Bodies
end VXA
/-! ===== END ===== -/
/-! ===== BEGIN a static call of a method with an exception table ===== -/
section VXS
variable {p : Program} {l : Launch} {e : Env} {R : Room} {s : State} {m : MethodId} {args : Array Value} {below : List Frame} {meth : Method} {c : Code} {T : State} {H : Heap} {locs : List Loc} {cells slots : Nat}
abbrev vx_CSW (R : Room) (s : State) (args : Array Value) (own : String) (index : Nat) (y : MethodName) (bytes : ByteArray) (maxL : Nat) (ret : Option FieldType) (hh : List (Nat × Nat × Nat × Nat)) (ws : List Cond) (rm : Room) (mc ms n : Nat) : Prop :=
  (rm.cells = mc ∧ rm.slots = ms ∧ rm.frames + 1 ≤ R.frames ∧ 8 + (maxL + 11) + rm.locals ≤ R.locals ∧ (∀ w ∈ ws, ∀ (a' : Array Value) (U : State), s.WarmedH U.vm → w.before a' U = true) ∧ Cond.codeWith y bytes maxL ret hh ∈ ws) ∧
  (Cond.codeWith y bytes maxL ret hh).before args s = true ∧ (Cond.initialized y.cls).before args s = true ∧ (y.cls ≠ "java/lang/invoke/MethodHandle" ∧ y.cls ≠ "java/lang/invoke/VarHandle") ∧
  (∀ sig, parseMethodDescriptor y.desc = some sig → n = sig.parameters.length) ∧ (Cond.methodLink own index y).before args s = true ∧ (Cond.static y).before args s = true
theorem vx_cwSW {own : String} {index maxL mc ms : Nat} {y : MethodName} {bytes : ByteArray} {ret : Option FieldType} {hh : List (Nat × Nat × Nat × Nat)} {Ts ws ws' : List Cond} {rm : Room} (n : Nat) (ht : ∀ w ∈ Ts, w.before args s = true) (hT : GoodIn Ts (va_wsS own index y ws)) (hw : ws = Cond.codeWith y bytes maxL ret hh :: ws') (hrc : rm.cells = mc) (hrs : rm.slots = ms)
    (hd : y.cls ≠ "java/lang/invoke/MethodHandle" ∧ y.cls ≠ "java/lang/invoke/VarHandle" ∧ (parseMethodDescriptor y.desc).map (fun d => d.parameters.length) = some n) (hR : rm.frames + 1 ≤ R.frames ∧ 8 + (maxL + 11) + rm.locals ≤ R.locals) :
    vx_CSW R s args own index y bytes maxL ret hh ws rm mc ms n := by
  have ok : ∀ w ∈ va_wsS own index y ws, w.before args s = true := fun w h => ht w (hT w h).1
  have hG : GoodIn Ts ws := fun w h => hT w (by unfold va_wsS; exact List.mem_append_right _ h)
  have hc : Cond.codeWith y bytes maxL ret hh ∈ ws := by rw [hw]; exact List.mem_cons_self
  refine ⟨⟨hrc, hrs, hR.1, hR.2, pay_in ht hG, hc⟩, ht _ (hG _ hc).1, ok _ (by simp [va_wsS]), ⟨hd.1, hd.2.1⟩, fun sig h => ?_, ok _ (by simp [va_wsS]), ok _ (by simp [va_wsS])⟩
  have h2 := hd.2.2
  rw [h] at h2
  exact (Option.some.inj h2).symm
theorem vx_callSW (X : Stand p l e R s m args below meth c T locs cells slots) (hexec : p.tables.exec = Jvm.exec) {own : String} {index : Nat} {y : MethodName} {bytes : ByteArray} {maxL : Nat} {ret : Option FieldType} {hh : List (Nat × Nat × Nat × Nat)}
    (hown : s.vm.findClass own = some m.cls) (hlink : (Cond.methodLink own index y).before args s = true) (hstat : (Cond.static y).before args s = true) (hinit : (Cond.initialized y.cls).before args s = true)
    (hcode : (Cond.codeWith y bytes maxL ret hh).before args s = true) (hy : y.cls ≠ "java/lang/invoke/MethodHandle" ∧ y.cls ≠ "java/lang/invoke/VarHandle")
    {W9 : Nat} {Pre : Pt → Array Value → Prop} {Post : Pt → Array Value → Option Value → Pt → Prop} (hK : Back l R p e below s args y 3 W9 Pre Post)
    {g : JFrame} (hg : g.method = m) (hsize : g.locals.size = c.maxLocals) {argsL rest : List Value} (hlen : ∀ sig, parseMethodDescriptor y.desc = some sig → argsL.length = sig.parameters.length)
    (hstack : g.stack = argsL.reverse ++ rest) (hW : 2 * g.monitorRoom + (rest.map fun v => v.category).sum ≤ W9) (hdg : decode c.code g.pc = .ok (.invokestatic index, 3))
    (hpre : ∀ vm₁, s.WarmedH vm₁ → Pre ⟨T.setVm vm₁, locs, cells, slots⟩ argsL.toArray) :
    ∃ (v : Option Value) (vm₁ : Vm) (B : Pt), s.WarmedH vm₁ ∧ Stand p l e R s m args below meth c B.U B.locs B.cells B.slots ∧ Post ⟨T.setVm vm₁, locs, cells, slots⟩ argsL.toArray v B ∧
      ∀ target, Steps p.tables e below (B.U.setTop { g with pc := g.pc + 3, stack := v.toList ++ rest }) target → Steps p.tables e below (T.setTop g) target := by
  obtain ⟨mk, methM, cM, hnamed, hmethM, -, -, -, -, -, -, hsigM⟩ := Cond.codeWith_spec hcode
  have hstatic : methM.isStatic = true := Cond.static_spec hnamed hmethM hstat
  obtain ⟨kP, hkP, -⟩ := className_of_methodNamed hnamed
  have hinitP : kP.init = .initialized := Cond.initialized_spec (findClass_of_methodNamed hnamed) hkP hinit
  obtain ⟨vm₁, X₁, hstep₁⟩ := X.invokestatic hexec hown hlink hnamed hmethM hstatic hkP hinitP hy (g := g) hg (argsL := argsL) (rest := rest) (hlen _ hsigM) hstack hdg
  obtain ⟨v, B, X', hpost, hsteps⟩ := hK m meth c ⟨T.setVm vm₁, locs, cells, slots⟩ { g with stack := rest } (.invokestatic index) mk argsL.toArray X₁ hg hsize hdg hW (X₁.named hnamed) (hpre vm₁ X₁.warmed)
  exact ⟨v, vm₁, B, X₁.warmed, X', hpost, fun target h => hstep₁ _ fun acts => by rw [doInvoke_state]; exact hsteps.trans h⟩
theorem vx_runSW {y : MethodName} {bytes cc : ByteArray} {maxL nL mc ms n index : Nat} {ret : Option FieldType} {hh : List (Nat × Nat × Nat × Nat)} {ws : List Cond} {rm : Room} {Pc : Array Value → State → Prop} {Qc : Array Value → State → Outcome → State → Prop} {free : Addr → Prop} {Ts : List Cond} {own : String} {As rest : List Value} {g : JFrame}
    (S : CallFix p m c cc nL s args Ts own) (hM : Met l y ws rm Pc Qc mc ms free) (cw : vx_CSW R s args own index y bytes maxL ret hh ws rm mc ms n) (hp : PreS s H Pc As)
    (hg : g.method = m) (hn : As.length = n) (hsize : g.locals.size = nL) (hstack : g.stack = As.reverse ++ rest) (hW : 2 * g.monitorRoom + (rest.map fun v => v.category).sum ≤ 8) (hdg : decode cc g.pc = .ok (.invokestatic index, 3)) (hf : cells + mc ≤ R.cells ∧ slots + ms ≤ R.slots) :
    va_Run p l e R s m args below meth c H locs cells slots mc ms g rest (Qc As.toArray) (free) := by
  obtain ⟨⟨hrc, hrs, hfr, hlo, hws, hcw⟩, hcode, hini, hy, hlen, hl, hstt⟩ := cw
  have hK : Back l R p e below s args y 3 8 (PreOf R mc ms Pc) (PostOf Qc mc ms free) := va_backW (hh := hh) (bytes := bytes) (maxL := maxL) (ret := ret) hM hp.1 hrc hrs hfr hlo hws hcw (fun a' U hW => word_at hW (Or.inl (by first | rfl | simp [Cond.onTables, Cond.keeps, Cond.steady])) hini)
  obtain ⟨hx, hb, hml, ho, -⟩ := S
  intro T hT X
  obtain ⟨v, vm₁, ⟨U', l2, c2, s2⟩, hW₁, X', ⟨g', mk, t, L, e1, e2, hq, h1, hL, h2, h3⟩, st⟩ := vx_callSW X hx (hh := hh) (bytes := bytes) (maxL := maxL) (ret := ret) ho hl hstt hini hcode hy hK hg (hsize.trans hml.symm) (argsL := As) (rest := rest) (fun sig h => hn.trans (hlen sig h)) hstack hW (by rw [hb]; exact hdg)
    (fun vm₁ hW₁ => ⟨hf.1, hf.2, hp.2 (T.setVm vm₁) hT hW₁⟩)
  dsimp only [Pt.U, Pt.locs, Pt.cells, Pt.slots] at X' e1 e2 h1 h2 h3 st
  subst h1; subst h2; subst h3
  exact ⟨v, (T.setVm vm₁).calling g' mk As.toArray, t, U', L, hT, X', hL, e1, e2, hq, st⟩
/-- not caught here, past rows that name other classes: it goes on to the caller -/
theorem vx_outP {p : Program} {l : Launch} {e : Env} {R : Room} {s : State} {m : MethodId} {args : Array Value} {below : List Frame} {meth : Method} {c : Code} {H : Heap} {locs : List Loc} {cells slots : Nat} {free : Addr → Prop} {ls : Array Slot} {rest : List Value} {Qc : Array Value → State → Outcome → State → Prop} {XC : String → State → State → Prop}
    {pc : Nat} {own E : String} {ce : Cell} {q : Addr} {mc ms : Nat} (hown : s.vm.findClass own = some m.cls) (hlocks : meth.locks = false)
    (hpass : ∀ z ∈ c.exceptionTable.toList, covers z pc = false ∨ (z.catchType ≠ 0 ∧ ∃ nm : String, (Cond.classLink own z.catchType nm).before args s = true ∧ va_Nc E nm s)) (hcell : H[q]? = some ce) (hv : ce.vm = .none) (hcl : s.vm.findClass E = some ce.cls)
    (hx : ∀ t : State, t.heap = H → s.vm.Alike t.vm → XC E s t) (hf : ∀ z ∈ locs, free z.base) (hc : cells ≤ mc) (hs : slots ≤ ms) :
    vx_W p l e R s m args below meth c H locs cells slots (vx_MQ below Qc XC args s mc ms free) (F0 m pc ls rest) q := by
  intro T hT X
  have hpl : e.platform.magicAccessors = ({} : Platform).magicAccessors := by rw [X.admits.platform]
  obtain ⟨vm', hW', X', st⟩ := X.outThrough hlocks q (g := F0 m pc ls rest) rfl rfl rfl (cell := ce) (by rw [hT]; exact hcell) (by rw [hv]; rfl)
    (by obtain ⟨k9, h9, -⟩ := Vm.findClass_spec hcl; exact ⟨k9, h9⟩) (fun z hz => by
      rcases hpass z hz with h | ⟨hz0, nm, hl1, hn1⟩
      · exact Or.inl h
      · obtain ⟨c6, hc6, hcl6⟩ := Cond.classLink_spec hown hl1 e.platform hpl
        obtain ⟨a8, b8, h1, h2, h3⟩ := hn1
        cases Option.some.inj (h1.symm.trans hcl)
        cases Option.some.inj (h2.symm.trans hc6)
        exact Or.inr ⟨hz0, _, hcl6, h3⟩)
  obtain ⟨g₀, hfr⟩ := X'.frames_eq
  have hcell9 : ((T.setVm vm').setFrames (.throwing q :: below)).heap[q]? = some ce := by
    show T.heap[q]? = some ce
    rw [hT]; exact hcell
  have hend : Ended ((T.setVm vm').setFrames (.throwing q :: below)) below (.threw q) := State.frames_setFrames _ (State.cur_lt_of_frames hfr)
  refine ⟨(T.setVm vm').setFrames (.throwing q :: below), ?_, .threw q, X'.here.running, hend, Or.inr ⟨q, rfl, E, ce, locs, hx _ hT (X'.ends _).1.alike, hcell9, hv, hcl, (X'.ends _).1, (X'.ends _).2.mono hc hs, hf⟩⟩
  rw [X.pushThrowing_eq]
  exact st
/-- a thing of a world lies in the heap -/
theorem vx_lt {D : va_G} {cl : List vw_C} {ws : va_W} {H1 : Heap} (h : va_P D cl ws H1) {k : Nat} {q : Nat × va_E} (hk : ws[k]? = some q) : q.1 < H1.size := (h k q hk).lt
end VXS
/-! ===== END ===== -/
/-! ===== BEGIN methods with a table of their own: called by a name, returning or throwing ===== -/
section VXH
/-! vx_backW, vx_callVX, vx_callSX, vx_callVW, vx_runVW, vx_runVX, vx_runSX, vx_ofWH follow the same proofs as their sisters above (Free/Laws.lean, Shelf42/LK1.lean); vx_outP calls Shelf42/NT130.lean (outThrough). -/
section
variable {l : Launch} {R : Room} {p : Program} {e : Env} {below : List Frame} {s : State} {sargs : Array Value} {y : MethodName} {len W9 : Nat}
theorem vx_backW {ws : List Cond} {rm : Room} {Pc : Array Value → State → Prop} {Qc : Array Value → State → Outcome → State → Prop} {XC : String → State → State → Prop} {mc ms : Nat} {free : Addr → Prop} {bytes : ByteArray} {maxL : Nat} {ret : Option FieldType} {hh : List (Nat × Nat × Nat × Nat)}
    (hM : vx_Met l y ws rm Pc Qc XC mc ms free) (hblind : FrameBlind Pc) (hrc : rm.cells = mc) (hrs : rm.slots = ms)
    (hframes : rm.frames + 1 ≤ R.frames) (hlocals : W9 + (maxL + 11) + rm.locals ≤ R.locals)
    (hws : ∀ w ∈ ws, ∀ a' U, s.WarmedH U.vm → w.before a' U = true) (hcode : Cond.codeWith y bytes maxL ret hh ∈ ws) (hinit : ∀ a' U, s.WarmedH U.vm → (Cond.initialized y.cls).before a' U = true) :
    vx_Back l R p e below s sargs y len W9 (PreOf R mc ms Pc) (PostOf Qc mc ms free) (vx_Post XC mc ms free) := by
  intro m meth c A g ig mk a X hg hsize hdg hW hn hp
  have h1 : (headSpec ws rm).pre.before a A.U = true := atoms_intro fun w hw => hws w hw _ _ X.warmed
  have h2 : (Cond.codeWith y bytes maxL ret hh).before a A.U = true := hws _ hcode _ _ X.warmed
  have h3 : (Cond.initialized y.cls).before a A.U = true := hinit _ _ X.warmed
  have h4 : A.cells + (headSpec ws rm).room.cells ≤ R.cells := by rw [show (headSpec ws rm).room.cells = mc from hrc]; exact hp.1
  have h5 : A.slots + (headSpec ws rm).room.slots ≤ R.slots := by rw [show (headSpec ws rm).room.slots = ms from hrs]; exact hp.2.1
  have hPc : Pc a (A.U.calling g mk a) := hblind _ _ _ _ hp.2.2
  obtain ⟨U, Ls, c0, s0⟩ := A
  dsimp only [Pt.U, Pt.locs, Pt.cells, Pt.slots] at h1 h2 h3 h4 h5 X hn hPc ⊢
  obtain ⟨m9, methY, cY, hn9, hmY, hcY, -, hlY, -⟩ := Cond.codeWith_spec h2
  cases Option.some.inj (hn9.symm.trans hn)
  obtain ⟨kY, hkY, -⟩ := className_of_methodNamed hn
  have hinitY : kY.init = .initialized := Cond.initialized_spec (findClass_of_methodNamed hn) hkY h3
  have h : At U g.method c below := by rw [hg]; exact X.here
  have hlocals9 : W9 + (maxL + 11) + (headSpec ws rm).room.locals ≤ R.locals := hlocals
  have happ : (headSpec ws rm).appliesLoose y e.platform (U.calling g mk a) = true :=
    Spec.appliesLoose_calling (g := g) h hdg hn hkY hinitY
      (X.room_calling (g := g) (R' := (headSpec ws rm).room) hsize hmY hcY hframes (by rw [hlY]; omega) h4 h5) h1
  obtain ⟨mid, hmid⟩ := h.above
  have hfr : (U.setTop g).frames = (.java g :: mid) ++ below := by rw [State.frames_setTop' g h.top, hmid]; rfl
  obtain ⟨o, s₂, hsteps, -, hend, hq⟩ := Steps.callFree hM p X.admits X.cas X.clock (acts := []) hfr happ hPc trivial
  have hq' : vx_Q Qc XC mc ms free a (U.calling g mk a) o s₂ := hq
  rw [State.frames_setTop' g h.top] at hend
  obtain ⟨g₀, hg0⟩ := Option.isSome_iff_exists.mp h.top
  obtain ⟨r, hr⟩ := State.topJava?_eq_some.mp hg0
  have hr' : (({ U with heap := s₂.heap, slotsUsed := s₂.slotsUsed } : State).setVm s₂.vm).frames = .java g₀ :: r := hr
  rcases hq' with ⟨hqc, L, hfe, hL⟩ | ⟨q, rfl, E, ce, L, hx, hce, hcv, hcl, hW₂, hsm, hL⟩
  · obtain ⟨⟨v, rfl⟩, hW₂, e2, q2, q3, q4, q5, q6⟩ := id hfe
    have e3 : s₂ = ({ (U.calling g mk a).setFrames s₂.frames with heap := s₂.heap, slotsUsed := s₂.slotsUsed } : State).setVm s₂.vm := by
      have : s₂ = ({ s₂ with vm := (U.calling g mk a).vm } : State).setVm s₂.vm := rfl
      rw [e2] at this
      exact this
    obtain ⟨c₂, i₂, len₂, hc₂, hd₂, hf₂⟩ := hend
    have hW' : U.WarmedH s₂.vm := hW₂
    have hcc : c₂ = c := by
      have h1 : s₂.code? g.method = U.code? g.method := by
        rw [State.code?_eq, State.code?_eq, hW'.alike.method?]
      exact Option.some.inj (hc₂.symm.trans (h1.trans h.code))
    subst hcc
    have hlen : len₂ = len := by rw [hdg] at hd₂; cases hd₂; rfl
    subst hlen
    have hs₂ : s₂ = (({ U with heap := s₂.heap, slotsUsed := s₂.slotsUsed } : State).setVm s₂.vm).setTop { g with pc := g.pc + len₂, stack := v.toList ++ g.stack } := by
      refine e3.trans ?_
      rw [hf₂, State.calling_eq h.top, State.setFrames_setFrames, State.setTop_of_frames _ hr', hr]
      rfl
    have hsame : U.sameButNew ({ U with heap := s₂.heap, slotsUsed := s₂.slotsUsed } : State) L mc ms := by
      refine ⟨?_, q2, q3, q4, q5, q6⟩
      obtain ⟨t, ht, -⟩ := State.frames_cons hr
      show ({ U with heap := s₂.heap, slotsUsed := s₂.slotsUsed } : State) = { U.setFrames U.frames with heap := s₂.heap, slotsUsed := s₂.slotsUsed }
      rw [State.setFrames_self ht]
    subst hg
    refine Or.inl ⟨v, ⟨(({ U with heap := s₂.heap, slotsUsed := s₂.slotsUsed } : State).setVm s₂.vm), Ls ++ L, c0 + mc, s0 + ms⟩,
      ⟨X.admits, X.cas, X.clock, X.frames, X.room, X.hears, X.method, X.code, (X.here.setHeapUsed s₂.heap s₂.slotsUsed).setVm hW'.alike, X.tail, State.WarmedH.trans X.warmed hW', X.limits, X.bytes, X.same.trans (hsame.setVm s.vm)⟩,
      ⟨g, mk, s₂, L, rfl, rfl, hqc, rfl, hL, rfl, rfl⟩, ?_⟩
    show Steps p.tables e below _ ((({ U with heap := s₂.heap, slotsUsed := s₂.slotsUsed } : State).setVm s₂.vm).setTop { g with pc := g.pc + len₂, stack := v.toList ++ g.stack })
    rw [← hs₂]
    exact hsteps
  · obtain ⟨e2, q2, q3, q4, q5, q6⟩ := id hsm
    have e3 : s₂ = ({ (U.calling g mk a).setFrames s₂.frames with heap := s₂.heap, slotsUsed := s₂.slotsUsed } : State).setVm s₂.vm := by
      have : s₂ = ({ s₂ with vm := (U.calling g mk a).vm } : State).setVm s₂.vm := rfl
      rw [e2] at this
      exact this
    have hf₂ : s₂.frames = .throwing q :: .java g :: U.frames.tail := hend
    have hW' : U.WarmedH s₂.vm := hW₂
    have hs₂ : s₂ = ((({ U with heap := s₂.heap, slotsUsed := s₂.slotsUsed } : State).setVm s₂.vm).setTop g).pushFrame (.throwing q) := by
      refine e3.trans ?_
      rw [hf₂, State.calling_eq h.top, State.setFrames_setFrames, State.pushFrame, State.frames_setTop _ hr', State.setTop_of_frames _ hr', State.setFrames_setFrames, hr]
      rfl
    have hsame : U.sameButNew ({ U with heap := s₂.heap, slotsUsed := s₂.slotsUsed } : State) L mc ms := by
      refine ⟨?_, q2, q3, q4, q5, q6⟩
      obtain ⟨t, ht, -⟩ := State.frames_cons hr
      show ({ U with heap := s₂.heap, slotsUsed := s₂.slotsUsed } : State) = { U.setFrames U.frames with heap := s₂.heap, slotsUsed := s₂.slotsUsed }
      rw [State.setFrames_self ht]
    subst hg
    refine Or.inr ⟨q, ⟨(({ U with heap := s₂.heap, slotsUsed := s₂.slotsUsed } : State).setVm s₂.vm), Ls ++ L, c0 + mc, s0 + ms⟩,
      ⟨X.admits, X.cas, X.clock, X.frames, X.room, X.hears, X.method, X.code, (X.here.setHeapUsed s₂.heap s₂.slotsUsed).setVm hW'.alike, X.tail, State.WarmedH.trans X.warmed hW', X.limits, X.bytes, X.same.trans (hsame.setVm s.vm)⟩,
      ⟨g, mk, s₂, L, E, ce, rfl, rfl, hx, hce, hcv, hcl, rfl, hL, rfl, rfl⟩, ?_⟩
    show Steps p.tables e below _ (((({ U with heap := s₂.heap, slotsUsed := s₂.slotsUsed } : State).setVm s₂.vm).setTop g).pushFrame (.throwing q))
    rw [← hs₂]
    exact hsteps
end
variable {p : Program} {l : Launch} {e : Env} {R : Room} {s : State} {m : MethodId} {args : Array Value} {below : List Frame} {meth : Method} {c : Code} {T : State} {H : Heap} {locs : List Loc} {cells slots : Nat}
theorem vx_callVX (X : Stand p l e R s m args below meth c T locs cells slots) (hexec : p.tables.exec = Jvm.exec) {own C : String} {index : Nat} {y : MethodName} {bytes : ByteArray} {maxL : Nat} {ret : Option FieldType} {hh : List (Nat × Nat × Nat × Nat)}
    (hown : s.vm.findClass own = some m.cls) (hlink : (Cond.methodLink own index y).before args s = true) (hinst : (Cond.instanceMethod y).before args s = true) (hsel : (Cond.selects C y y).before args s = true)
    (hcode : (Cond.codeWith y bytes maxL ret hh).before args s = true) (hy : y.cls ≠ "java/lang/invoke/MethodHandle" ∧ y.cls ≠ "java/lang/invoke/VarHandle")
    {W9 : Nat} {Pre : Pt → Array Value → Prop} {Post : Pt → Array Value → Option Value → Pt → Prop} {PostX : Pt → Array Value → Addr → Pt → Prop} (hK : vx_Back l R p e below s args y 3 W9 Pre Post PostX)
    {b : Addr} {cellB : Cell} (hcell : T.heap[b]? = some cellB) (hobj : cellB.vm.isStatics = false) (hcls : s.vm.findClass C = some cellB.cls)
    {g : JFrame} (hg : g.method = m) (hsize : g.locals.size = c.maxLocals) {argsL rest : List Value} (hlen : ∀ sig, parseMethodDescriptor y.desc = some sig → argsL.length = sig.parameters.length)
    (hstack : g.stack = argsL.reverse ++ .ref b :: rest) (hW : 2 * g.monitorRoom + (rest.map fun v => v.category).sum ≤ W9) (hdg : decode c.code g.pc = .ok (.invokevirtual index, 3))
    (hpre : ∀ vm₁, s.WarmedH vm₁ → Pre ⟨T.setVm vm₁, locs, cells, slots⟩ (Value.ref b :: argsL).toArray) :
    (∃ (v : Option Value) (vm₁ : Vm) (B : Pt), s.WarmedH vm₁ ∧ Stand p l e R s m args below meth c B.U B.locs B.cells B.slots ∧ Post ⟨T.setVm vm₁, locs, cells, slots⟩ (Value.ref b :: argsL).toArray v B ∧
      ∀ target, Steps p.tables e below (B.U.setTop { g with pc := g.pc + 3, stack := v.toList ++ rest }) target → Steps p.tables e below (T.setTop g) target) ∨
    (∃ (q : Addr) (vm₁ : Vm) (B : Pt), s.WarmedH vm₁ ∧ Stand p l e R s m args below meth c B.U B.locs B.cells B.slots ∧ PostX ⟨T.setVm vm₁, locs, cells, slots⟩ (Value.ref b :: argsL).toArray q B ∧
      Steps p.tables e below (T.setTop g) ((B.U.setTop { g with stack := rest }).pushFrame (.throwing q))) := by
  obtain ⟨mk, methM, hnamed, hmethM, hstM, habM⟩ := Cond.instanceMethod_spec hinst
  obtain ⟨m8, methM', cM, hn8, hmethM', -, -, -, -, -, -, hsigM⟩ := Cond.codeWith_spec hcode
  cases Option.some.inj (hn8.symm.trans hnamed)
  cases hmethM.symm.trans hmethM'
  obtain ⟨c2, r2, m2, q1, q2, q3, q4, kP, hkP, hkPi⟩ := Cond.selects_spec hsel
  cases hcls.symm.trans q1
  cases (State.methodFound?_of_named hnamed hy).symm.trans q2
  cases hnamed.symm.trans q3
  have hselP : selectMethod e.platform s.vm cellB.cls mk = .method mk := by rw [Launch.admits_selectMethod X.admits]; exact q4
  obtain ⟨vm₁, X₁, hstep₁⟩ := X.invokevirtual hexec hown hlink hnamed hmethM hstM hkP hkPi hy (a := b) (cell := cellB) hcell
    (fun z h => by rw [h] at hobj; cases hobj) hselP hmethM habM hkP hkPi (g := g) hg (argsL := argsL) (rest := rest) (hlen _ hsigM) hstack hdg
  rcases hK m meth c ⟨T.setVm vm₁, locs, cells, slots⟩ { g with stack := rest } (.invokevirtual index) mk (Value.ref b :: argsL).toArray X₁ hg hsize hdg hW (X₁.named hnamed) (hpre vm₁ X₁.warmed) with ⟨v, B, X', hpost, hsteps⟩ | ⟨q, B, X', hpost, hsteps⟩
  · exact Or.inl ⟨v, vm₁, B, X₁.warmed, X', hpost, fun target h => hstep₁ _ fun acts => by rw [doInvoke_state]; exact hsteps.trans h⟩
  · exact Or.inr ⟨q, vm₁, B, X₁.warmed, X', hpost, hstep₁ _ fun acts => by rw [doInvoke_state]; exact hsteps⟩
theorem vx_callSX (X : Stand p l e R s m args below meth c T locs cells slots) (hexec : p.tables.exec = Jvm.exec) {own : String} {index : Nat} {y : MethodName} {bytes : ByteArray} {maxL : Nat} {ret : Option FieldType} {hh : List (Nat × Nat × Nat × Nat)}
    (hown : s.vm.findClass own = some m.cls) (hlink : (Cond.methodLink own index y).before args s = true) (hstat : (Cond.static y).before args s = true) (hinit : (Cond.initialized y.cls).before args s = true)
    (hcode : (Cond.codeWith y bytes maxL ret hh).before args s = true) (hy : y.cls ≠ "java/lang/invoke/MethodHandle" ∧ y.cls ≠ "java/lang/invoke/VarHandle")
    {W9 : Nat} {Pre : Pt → Array Value → Prop} {Post : Pt → Array Value → Option Value → Pt → Prop} {PostX : Pt → Array Value → Addr → Pt → Prop} (hK : vx_Back l R p e below s args y 3 W9 Pre Post PostX)
    {g : JFrame} (hg : g.method = m) (hsize : g.locals.size = c.maxLocals) {argsL rest : List Value} (hlen : ∀ sig, parseMethodDescriptor y.desc = some sig → argsL.length = sig.parameters.length)
    (hstack : g.stack = argsL.reverse ++ rest) (hW : 2 * g.monitorRoom + (rest.map fun v => v.category).sum ≤ W9) (hdg : decode c.code g.pc = .ok (.invokestatic index, 3))
    (hpre : ∀ vm₁, s.WarmedH vm₁ → Pre ⟨T.setVm vm₁, locs, cells, slots⟩ argsL.toArray) :
    (∃ (v : Option Value) (vm₁ : Vm) (B : Pt), s.WarmedH vm₁ ∧ Stand p l e R s m args below meth c B.U B.locs B.cells B.slots ∧ Post ⟨T.setVm vm₁, locs, cells, slots⟩ argsL.toArray v B ∧
      ∀ target, Steps p.tables e below (B.U.setTop { g with pc := g.pc + 3, stack := v.toList ++ rest }) target → Steps p.tables e below (T.setTop g) target) ∨
    (∃ (q : Addr) (vm₁ : Vm) (B : Pt), s.WarmedH vm₁ ∧ Stand p l e R s m args below meth c B.U B.locs B.cells B.slots ∧ PostX ⟨T.setVm vm₁, locs, cells, slots⟩ argsL.toArray q B ∧
      Steps p.tables e below (T.setTop g) ((B.U.setTop { g with stack := rest }).pushFrame (.throwing q))) := by
  obtain ⟨mk, methM, cM, hnamed, hmethM, -, -, -, -, -, -, hsigM⟩ := Cond.codeWith_spec hcode
  have hstatic : methM.isStatic = true := Cond.static_spec hnamed hmethM hstat
  obtain ⟨kP, hkP, -⟩ := className_of_methodNamed hnamed
  have hinitP : kP.init = .initialized := Cond.initialized_spec (findClass_of_methodNamed hnamed) hkP hinit
  obtain ⟨vm₁, X₁, hstep₁⟩ := X.invokestatic hexec hown hlink hnamed hmethM hstatic hkP hinitP hy (g := g) hg (argsL := argsL) (rest := rest) (hlen _ hsigM) hstack hdg
  rcases hK m meth c ⟨T.setVm vm₁, locs, cells, slots⟩ { g with stack := rest } (.invokestatic index) mk argsL.toArray X₁ hg hsize hdg hW (X₁.named hnamed) (hpre vm₁ X₁.warmed) with ⟨v, B, X', hpost, hsteps⟩ | ⟨q, B, X', hpost, hsteps⟩
  · exact Or.inl ⟨v, vm₁, B, X₁.warmed, X', hpost, fun target h => hstep₁ _ fun acts => by rw [doInvoke_state]; exact hsteps.trans h⟩
  · exact Or.inr ⟨q, vm₁, B, X₁.warmed, X', hpost, hstep₁ _ fun acts => by rw [doInvoke_state]; exact hsteps⟩
theorem vx_callVW (X : Stand p l e R s m args below meth c T locs cells slots) (hexec : p.tables.exec = Jvm.exec) {own C : String} {index : Nat} {y : MethodName} {bytes : ByteArray} {maxL : Nat} {ret : Option FieldType} {hh : List (Nat × Nat × Nat × Nat)}
    (hown : s.vm.findClass own = some m.cls) (hlink : (Cond.methodLink own index y).before args s = true) (hinst : (Cond.instanceMethod y).before args s = true) (hsel : (Cond.selects C y y).before args s = true)
    (hcode : (Cond.codeWith y bytes maxL ret hh).before args s = true) (hy : y.cls ≠ "java/lang/invoke/MethodHandle" ∧ y.cls ≠ "java/lang/invoke/VarHandle")
    {W9 : Nat} {Pre : Pt → Array Value → Prop} {Post : Pt → Array Value → Option Value → Pt → Prop} (hK : Back l R p e below s args y 3 W9 Pre Post)
    {b : Addr} {cellB : Cell} (hcell : T.heap[b]? = some cellB) (hobj : cellB.vm.isStatics = false) (hcls : s.vm.findClass C = some cellB.cls)
    {g : JFrame} (hg : g.method = m) (hsize : g.locals.size = c.maxLocals) {argsL rest : List Value} (hlen : ∀ sig, parseMethodDescriptor y.desc = some sig → argsL.length = sig.parameters.length)
    (hstack : g.stack = argsL.reverse ++ .ref b :: rest) (hW : 2 * g.monitorRoom + (rest.map fun v => v.category).sum ≤ W9) (hdg : decode c.code g.pc = .ok (.invokevirtual index, 3))
    (hpre : ∀ vm₁, s.WarmedH vm₁ → Pre ⟨T.setVm vm₁, locs, cells, slots⟩ (Value.ref b :: argsL).toArray) :
    ∃ (v : Option Value) (vm₁ : Vm) (B : Pt), s.WarmedH vm₁ ∧ Stand p l e R s m args below meth c B.U B.locs B.cells B.slots ∧ Post ⟨T.setVm vm₁, locs, cells, slots⟩ (Value.ref b :: argsL).toArray v B ∧
      ∀ target, Steps p.tables e below (B.U.setTop { g with pc := g.pc + 3, stack := v.toList ++ rest }) target → Steps p.tables e below (T.setTop g) target := by
  obtain ⟨mk, methM, hnamed, hmethM, hstM, habM⟩ := Cond.instanceMethod_spec hinst
  obtain ⟨m8, methM', cM, hn8, hmethM', -, -, -, -, -, -, hsigM⟩ := Cond.codeWith_spec hcode
  cases Option.some.inj (hn8.symm.trans hnamed)
  cases hmethM.symm.trans hmethM'
  obtain ⟨c2, r2, m2, q1, q2, q3, q4, kP, hkP, hkPi⟩ := Cond.selects_spec hsel
  cases hcls.symm.trans q1
  cases (State.methodFound?_of_named hnamed hy).symm.trans q2
  cases hnamed.symm.trans q3
  have hselP : selectMethod e.platform s.vm cellB.cls mk = .method mk := by rw [Launch.admits_selectMethod X.admits]; exact q4
  obtain ⟨vm₁, X₁, hstep₁⟩ := X.invokevirtual hexec hown hlink hnamed hmethM hstM hkP hkPi hy (a := b) (cell := cellB) hcell
    (fun z h => by rw [h] at hobj; cases hobj) hselP hmethM habM hkP hkPi (g := g) hg (argsL := argsL) (rest := rest) (hlen _ hsigM) hstack hdg
  obtain ⟨v, B, X', hpost, hsteps⟩ := hK m meth c ⟨T.setVm vm₁, locs, cells, slots⟩ { g with stack := rest } (.invokevirtual index) mk (Value.ref b :: argsL).toArray X₁ hg hsize hdg hW (X₁.named hnamed) (hpre vm₁ X₁.warmed)
  exact ⟨v, vm₁, B, X₁.warmed, X', hpost, fun target h => hstep₁ _ fun acts => by rw [doInvoke_state]; exact hsteps.trans h⟩
abbrev vx_CVW (R : Room) (s : State) (args : Array Value) (own C : String) (index : Nat) (y : MethodName) (bytes : ByteArray) (maxL : Nat) (ret : Option FieldType) (hh : List (Nat × Nat × Nat × Nat)) (ws : List Cond) (rm : Room) (mc ms n : Nat) : Prop :=
  (rm.cells = mc ∧ rm.slots = ms ∧ rm.frames + 1 ≤ R.frames ∧ 8 + (maxL + 11) + rm.locals ≤ R.locals ∧ (∀ w ∈ ws, ∀ (a' : Array Value) (U : State), s.WarmedH U.vm → w.before a' U = true) ∧ Cond.codeWith y bytes maxL ret hh ∈ ws) ∧
  (Cond.codeWith y bytes maxL ret hh).before args s = true ∧ (Cond.initialized y.cls).before args s = true ∧ (y.cls ≠ "java/lang/invoke/MethodHandle" ∧ y.cls ≠ "java/lang/invoke/VarHandle") ∧
  (∀ sig, parseMethodDescriptor y.desc = some sig → n = sig.parameters.length) ∧ (Cond.methodLink own index y).before args s = true ∧ (Cond.instanceMethod y).before args s = true ∧ (Cond.selects C y y).before args s = true
theorem vx_cwVW {own C : String} {index maxL mc ms : Nat} {y : MethodName} {bytes : ByteArray} {ret : Option FieldType} {hh : List (Nat × Nat × Nat × Nat)} {Ts ws ws' : List Cond} {rm : Room} (n : Nat) (ht : ∀ w ∈ Ts, w.before args s = true) (hT : GoodIn Ts (wsV own index C y ws)) (hw : ws = Cond.codeWith y bytes maxL ret hh :: ws') (hrc : rm.cells = mc) (hrs : rm.slots = ms)
    (hd : y.cls = C ∧ y.cls ≠ "java/lang/invoke/MethodHandle" ∧ y.cls ≠ "java/lang/invoke/VarHandle" ∧ (parseMethodDescriptor y.desc).map (fun d => d.parameters.length) = some n) (hR : rm.frames + 1 ≤ R.frames ∧ 8 + (maxL + 11) + rm.locals ≤ R.locals) :
    vx_CVW R s args own C index y bytes maxL ret hh ws rm mc ms n := by
  obtain ⟨hC, hd⟩ := hd
  subst hC
  have ok : ∀ w ∈ wsV own index y.cls y ws, w.before args s = true := fun w h => ht w (hT w h).1
  have hG : GoodIn Ts ws := fun w h => hT w (by unfold wsV; exact List.mem_append_right _ h)
  have hc : Cond.codeWith y bytes maxL ret hh ∈ ws := by rw [hw]; exact List.mem_cons_self
  refine ⟨⟨hrc, hrs, hR.1, hR.2, pay_in ht hG, hc⟩, ht _ (hG _ hc).1, ok _ (by simp [wsV]), ⟨hd.1, hd.2.1⟩, fun sig h => ?_, ok _ (by simp [wsV]), ok _ (by simp [wsV]), ok _ (by simp [wsV])⟩
  have h2 := hd.2.2
  rw [h] at h2
  exact (Option.some.inj h2).symm
theorem vx_runVW {y : MethodName} {bytes cc : ByteArray} {maxL nL mc ms n index : Nat} {ret : Option FieldType} {hh : List (Nat × Nat × Nat × Nat)} {ws : List Cond} {rm : Room} {Pc : Array Value → State → Prop} {Qc : Array Value → State → Outcome → State → Prop} {free : Addr → Prop} {Ts : List Cond} {own C : String} {b : Addr} {As rest : List Value} {g : JFrame}
    (S : CallFix p m c cc nL s args Ts own) (hM : Met l y ws rm Pc Qc mc ms free) (cw : vx_CVW R s args own C index y bytes maxL ret hh ws rm mc ms n) (hp : PreV s H C b Pc As)
    (hg : g.method = m) (hn : As.length = n) (hsize : g.locals.size = nL) (hstack : g.stack = As.reverse ++ .ref b :: rest) (hW : 2 * g.monitorRoom + (rest.map fun v => v.category).sum ≤ 8) (hdg : decode cc g.pc = .ok (.invokevirtual index, 3)) (hf : cells + mc ≤ R.cells ∧ slots + ms ≤ R.slots) :
    va_Run p l e R s m args below meth c H locs cells slots mc ms g rest (Qc (Value.ref b :: As).toArray) free := by
  obtain ⟨⟨hrc, hrs, hfr, hlo, hws, hcw⟩, hcode, hini, hy, hlen, hl, hin, hse⟩ := cw
  have hK : Back l R p e below s args y 3 8 (PreOf R mc ms Pc) (PostOf Qc mc ms free) := va_backW (hh := hh) (bytes := bytes) (maxL := maxL) (ret := ret) hM hp.1 hrc hrs hfr hlo hws hcw (fun a' U hW => word_at hW (Or.inl (by first | rfl | simp [Cond.onTables, Cond.keeps, Cond.steady])) hini)
  obtain ⟨hx, hb, hml, ho, -⟩ := S
  obtain ⟨-, ⟨cellB, hcB, hoB, hclB⟩, hPc⟩ := hp
  intro T hT X
  obtain ⟨v, vm₁, ⟨U', l2, c2, s2⟩, hW₁, X', ⟨g', mk, t, L, e1, e2, hq, h1, hL, h2, h3⟩, st⟩ := vx_callVW X hx (C := C) (hh := hh) (bytes := bytes) (maxL := maxL) (ret := ret) ho hl hin hse hcode hy hK (by rw [hT]; exact hcB) hoB hclB hg (hsize.trans hml.symm) (argsL := As) (rest := rest) (fun sig h => hn.trans (hlen sig h)) hstack hW (by rw [hb]; exact hdg)
    (fun vm₁ hW₁ => ⟨hf.1, hf.2, hPc (T.setVm vm₁) hT hW₁⟩)
  dsimp only [Pt.U, Pt.locs, Pt.cells, Pt.slots] at X' e1 e2 h1 h2 h3 st
  subst h1; subst h2; subst h3
  exact ⟨v, (T.setVm vm₁).calling g' mk (Value.ref b :: As).toArray, t, U', L, hT, X', hL, e1, e2, hq, st⟩
section
variable {y : MethodName} {bytes cc : ByteArray} {maxL nL mc ms n index : Nat} {ret : Option FieldType} {ws : List Cond} {rm : Room} {Pc : Array Value → State → Prop} {Qc : Array Value → State → Outcome → State → Prop} {XC : String → State → State → Prop} {free : Addr → Prop} {Ts : List Cond} {own C : String} {b : Addr} {As rest : List Value} {g : JFrame}
theorem vx_runVX {hh : List (Nat × Nat × Nat × Nat)} (S : CallFix p m c cc nL s args Ts own) (hM : vx_Met l y ws rm Pc Qc XC mc ms free) (cw : vx_CVW R s args own C index y bytes maxL ret hh ws rm mc ms n) (hp : PreV s H C b Pc As)
    (hg : g.method = m) (hn : As.length = n) (hsize : g.locals.size = nL) (hstack : g.stack = As.reverse ++ .ref b :: rest) (hW : 2 * g.monitorRoom + (rest.map fun v => v.category).sum ≤ 8) (hdg : decode cc g.pc = .ok (.invokevirtual index, 3)) (hf : cells + mc ≤ R.cells ∧ slots + ms ≤ R.slots) :
    vx_Run p l e R s m args below meth c H locs cells slots mc ms g rest (Qc (Value.ref b :: As).toArray) XC free := by
  obtain ⟨⟨hrc, hrs, hfr, hlo, hws, hcw⟩, hcode, hini, hy, hlen, hl, hin, hse⟩ := cw
  have hK : vx_Back l R p e below s args y 3 8 (PreOf R mc ms Pc) (PostOf Qc mc ms free) (vx_Post XC mc ms free) := vx_backW (hh := hh) (bytes := bytes) (maxL := maxL) (ret := ret) hM hp.1 hrc hrs hfr hlo hws hcw (fun a' U hW => word_at hW (Or.inl (by first | rfl | simp [Cond.onTables, Cond.keeps, Cond.steady])) hini)
  obtain ⟨hx, hb, hml, ho, -⟩ := S
  obtain ⟨-, ⟨cellB, hcB, hoB, hclB⟩, hPc⟩ := hp
  intro T hT X
  rcases vx_callVX X hx (C := C) (hh := hh) (bytes := bytes) (maxL := maxL) (ret := ret) ho hl hin hse hcode hy hK (by rw [hT]; exact hcB) hoB hclB hg (hsize.trans hml.symm) (argsL := As) (rest := rest) (fun sig h => hn.trans (hlen sig h)) hstack hW (by rw [hb]; exact hdg)
    (fun vm₁ hW₁ => ⟨hf.1, hf.2, hPc (T.setVm vm₁) hT hW₁⟩) with ⟨v, vm₁, ⟨U', l2, c2, s2⟩, hW₁, X', ⟨g', mk, t, L, e1, e2, hq, h1, hL, h2, h3⟩, st⟩ | ⟨q, vm₁, ⟨U', l2, c2, s2⟩, hW₁, X', ⟨g', mk, t, L, E, ce, e1, e2, hq, hce, hcv, hcl, h1, hL, h2, h3⟩, st⟩
  · dsimp only [Pt.U, Pt.locs, Pt.cells, Pt.slots] at X' e1 e2 h1 h2 h3 st
    subst h1; subst h2; subst h3
    exact Or.inl ⟨v, (T.setVm vm₁).calling g' mk (Value.ref b :: As).toArray, t, U', L, hT, X', hL, e1, e2, hq, st⟩
  · dsimp only [Pt.U, Pt.locs, Pt.cells, Pt.slots] at X' e1 e2 h1 h2 h3 st hcl
    subst h1; subst h2; subst h3
    exact Or.inr ⟨q, (T.setVm vm₁).calling g' mk (Value.ref b :: As).toArray, t, U', L, E, ce, hT, X', hL, e1, e2, hq, hce, hcv, vx_cls hW₁ hcl, st⟩
theorem vx_runSX {hh : List (Nat × Nat × Nat × Nat)} (S : CallFix p m c cc nL s args Ts own) (hM : vx_Met l y ws rm Pc Qc XC mc ms free) (cw : vx_CSW R s args own index y bytes maxL ret hh ws rm mc ms n) (hp : PreS s H Pc As)
    (hg : g.method = m) (hn : As.length = n) (hsize : g.locals.size = nL) (hstack : g.stack = As.reverse ++ rest) (hW : 2 * g.monitorRoom + (rest.map fun v => v.category).sum ≤ 8) (hdg : decode cc g.pc = .ok (.invokestatic index, 3)) (hf : cells + mc ≤ R.cells ∧ slots + ms ≤ R.slots) :
    vx_Run p l e R s m args below meth c H locs cells slots mc ms g rest (Qc As.toArray) XC free := by
  obtain ⟨⟨hrc, hrs, hfr, hlo, hws, hcw⟩, hcode, hini, hy, hlen, hl, hstt⟩ := cw
  have hK : vx_Back l R p e below s args y 3 8 (PreOf R mc ms Pc) (PostOf Qc mc ms free) (vx_Post XC mc ms free) := vx_backW (hh := hh) (bytes := bytes) (maxL := maxL) (ret := ret) hM hp.1 hrc hrs hfr hlo hws hcw (fun a' U hW => word_at hW (Or.inl (by first | rfl | simp [Cond.onTables, Cond.keeps, Cond.steady])) hini)
  obtain ⟨hx, hb, hml, ho, -⟩ := S
  intro T hT X
  rcases vx_callSX X hx (hh := hh) (bytes := bytes) (maxL := maxL) (ret := ret) ho hl hstt hini hcode hy hK hg (hsize.trans hml.symm) (argsL := As) (rest := rest) (fun sig h => hn.trans (hlen sig h)) hstack hW (by rw [hb]; exact hdg)
    (fun vm₁ hW₁ => ⟨hf.1, hf.2, hp.2 (T.setVm vm₁) hT hW₁⟩) with ⟨v, vm₁, ⟨U', l2, c2, s2⟩, hW₁, X', ⟨g', mk, t, L, e1, e2, hq, h1, hL, h2, h3⟩, st⟩ | ⟨q, vm₁, ⟨U', l2, c2, s2⟩, hW₁, X', ⟨g', mk, t, L, E, ce, e1, e2, hq, hce, hcv, hcl, h1, hL, h2, h3⟩, st⟩
  · dsimp only [Pt.U, Pt.locs, Pt.cells, Pt.slots] at X' e1 e2 h1 h2 h3 st
    subst h1; subst h2; subst h3
    exact Or.inl ⟨v, (T.setVm vm₁).calling g' mk As.toArray, t, U', L, hT, X', hL, e1, e2, hq, st⟩
  · dsimp only [Pt.U, Pt.locs, Pt.cells, Pt.slots] at X' e1 e2 h1 h2 h3 st hcl
    subst h1; subst h2; subst h3
    exact Or.inr ⟨q, (T.setVm vm₁).calling g' mk As.toArray, t, U', L, E, ce, hT, X', hL, e1, e2, hq, hce, hcv, vx_cls hW₁ hcl, st⟩
end
end VXH
theorem vx_ofWH {l : Launch} {y : MethodName} {ws ws' : List Cond} {rm : Room} {Pc : Array Value → State → Prop} {Qc : Array Value → State → Outcome → State → Prop} {XC : String → State → State → Prop} {mc ms : Nat} {free : Addr → Prop} {cc : ByteArray} {maxL : Nat} {ret : Option FieldType} {hh : List (Nat × Nat × Nat × Nat)}
    (hy : plainName y.cls = true) (hw : ws = Cond.codeWith y cc maxL ret hh :: ws')
    (body : ∀ p e s m args below meth c s₁, BodyLoose p l y (headSpec ws rm) cc maxL ret e s m args below meth c s₁ → c.maxLocals = maxL → Pc args s →
      W p l e (headSpec ws rm).room s m args below meth c s.heap [] 0 0 (vx_MQ below Qc XC args s mc ms free) (entryFrame m args maxL)) : vx_Met l y ws rm Pc Qc XC mc ms free := by
  refine MetFree.of_bodyS (code := cc) (maxLocals := maxL) (ret := ret) hy ?_ ?_
  · intro args s m h hn
    obtain ⟨m9, meth, c, hn9, h1, h2, h3, h4, -, h5, h6, -⟩ := Cond.codeWith_spec (atoms_spec (ws := ws) h _ (by rw [hw]; exact List.mem_cons_self))
    cases hn.symm.trans hn9
    exact ⟨meth, c, h1, h2, h3, h4, h5, h6⟩
  · intro p e s m args below meth c s₁ B hml hP _
    have hh0 : s₁.heap = s.heap := by rw [B.state]; rfl
    obtain ⟨t, a1, o, b1, b2, b3⟩ := body p e s m args below meth c s₁ B hml hP s₁ hh0 (Stand.of_body B)
    exact ⟨t, o, a1, b1, b2, b3⟩
/-! ===== END ===== -/
end
section
/-! The names: by program out of the listing. -/
def R_X : String := "CarvedSolids"
def T_X : u_T := fun k => match k with
  | 0 => ("CarvedSolids", "space", "LCarvedSolids$Planes;", true)
  | 1 => ("CarvedSolids", "stack", "[LCarvedSolids$Solid;", true)
  | 2 => ("CarvedSolids", "spot", "LCarvedSolids$Point;", true)
  | _ => ("CarvedSolids", "height", "I", false)
def t_X : Nat → FieldType := fun k => match k with
  | 0 => .object "CarvedSolids$Planes"
  | 1 => .array (.object "CarvedSolids$Solid")
  | 2 => .object "CarvedSolids$Point"
  | _ => .int
theorem nm_X : ∀ a, a < 4 → ∀ b, b < 4 → a ≠ b → (T_X a).2.1 ≠ (T_X b).2.1 := by decide +kernel
theorem ty_X : ∀ k, k < 4 → parseFieldDescriptor (T_X k).2.2.1 = some (t_X k) := by decide +kernel
def R_Pl : String := "CarvedSolids$Plane"
def T_Pl : u_T := fun k => match k with
  | 0 => ("CarvedSolids$Plane", "a", "J", true)
  | 1 => ("CarvedSolids$Plane", "b", "J", true)
  | 2 => ("CarvedSolids$Plane", "c", "J", true)
  | _ => ("CarvedSolids$Plane", "d", "J", true)
def t_Pl : Nat → FieldType := fun k => match k with
  | 0 => .long
  | 1 => .long
  | 2 => .long
  | _ => .long
theorem nm_Pl : ∀ a, a < 4 → ∀ b, b < 4 → a ≠ b → (T_Pl a).2.1 ≠ (T_Pl b).2.1 := by decide +kernel
theorem ty_Pl : ∀ k, k < 4 → parseFieldDescriptor (T_Pl k).2.2.1 = some (t_Pl k) := by decide +kernel
def R_Ps : String := "CarvedSolids$Planes"
def T_Ps : u_T := fun k => match k with
  | 0 => ("CarvedSolids$Planes", "all", "[LCarvedSolids$Plane;", true)
  | 1 => ("CarvedSolids$Planes", "first", "[I", true)
  | _ => ("CarvedSolids$Planes", "count", "I", false)
def t_Ps : Nat → FieldType := fun k => match k with
  | 0 => .array (.object "CarvedSolids$Plane")
  | 1 => .array (.int)
  | _ => .int
theorem nm_Ps : ∀ a, a < 3 → ∀ b, b < 3 → a ≠ b → (T_Ps a).2.1 ≠ (T_Ps b).2.1 := by decide +kernel
theorem ty_Ps : ∀ k, k < 3 → parseFieldDescriptor (T_Ps k).2.2.1 = some (t_Ps k) := by decide +kernel
def R_Pt : String := "CarvedSolids$Point"
def T_Pt : u_T := fun k => match k with
  | 0 => ("CarvedSolids$Point", "x", "J", false)
  | 1 => ("CarvedSolids$Point", "y", "J", false)
  | 2 => ("CarvedSolids$Point", "z", "J", false)
  | _ => ("CarvedSolids$Point", "w", "J", false)
def t_Pt : Nat → FieldType := fun k => match k with
  | 0 => .long
  | 1 => .long
  | 2 => .long
  | _ => .long
theorem nm_Pt : ∀ a, a < 4 → ∀ b, b < 4 → a ≠ b → (T_Pt a).2.1 ≠ (T_Pt b).2.1 := by decide +kernel
theorem ty_Pt : ∀ k, k < 4 → parseFieldDescriptor (T_Pt k).2.2.1 = some (t_Pt k) := by decide +kernel
def R_So : String := "CarvedSolids$Solid"
def T_So : u_T := fun k => match k with
  | _ => ("CarvedSolids$Solid", "words", "[J", true)
def t_So : Nat → FieldType := fun k => match k with
  | _ => .array (.long)
theorem nm_So : ∀ a, a < 1 → ∀ b, b < 1 → a ≠ b → (T_So a).2.1 ≠ (T_So b).2.1 := by decide +kernel
theorem ty_So : ∀ k, k < 1 → parseFieldDescriptor (T_So k).2.2.1 = some (t_So k) := by decide +kernel
def R_Mo : String := "CarvedSolidsModel"
def T_Mo : u_T := fun k => match k with
  | 0 => ("CarvedSolidsModel", "thrown", "I", false)
  | 1 => ("CarvedSolidsModel", "given", "I", false)
  | 2 => ("CarvedSolidsModel", "normals", "[I", true)
  | 3 => ("CarvedSolidsModel", "far", "[I", true)
  | 4 => ("CarvedSolidsModel", "many", "I", false)
  | 5 => ("CarvedSolidsModel", "has", "[J", true)
  | 6 => ("CarvedSolidsModel", "values", "[J", true)
  | 7 => ("CarvedSolidsModel", "tops", "[J", true)
  | _ => ("CarvedSolidsModel", "downs", "[J", true)
def t_Mo : Nat → FieldType := fun k => match k with
  | 0 => .int
  | 1 => .int
  | 2 => .array (.int)
  | 3 => .array (.int)
  | 4 => .int
  | 5 => .array (.long)
  | 6 => .array (.long)
  | 7 => .array (.long)
  | _ => .array (.long)
theorem nm_Mo : ∀ a, a < 9 → ∀ b, b < 9 → a ≠ b → (T_Mo a).2.1 ≠ (T_Mo b).2.1 := by decide +kernel
theorem ty_Mo : ∀ k, k < 9 → parseFieldDescriptor (T_Mo k).2.2.1 = some (t_Mo k) := by decide +kernel
def T_0 : u_T := fun _ => ("", "", "", false)
def R_IA : String := "java/lang/IllegalArgumentException"
def R_IS : String := "java/lang/IllegalStateException"
def R_IO : String := "java/lang/IndexOutOfBoundsException"
def R_NS : String := "java/util/NoSuchElementException"
def R_La : String := "CarvedSolidsLaw"
/-- the classes whose objects the worlds hold -/
abbrev vC : List vw_C := [(R_X, T_X, 4), (R_Pl, T_Pl, 4), (R_Ps, T_Ps, 3), (R_Pt, T_Pt, 4), (R_So, T_So, 1), (R_Mo, T_Mo, 9), (R_IA, T_0, 0), (R_IS, T_0, 0), (R_IO, T_0, 0), (R_NS, T_0, 0)]
abbrev b_X_init : ByteArray := prog_1_method_1_code
def y_X_init : MethodName := ⟨R_X, "<init>", "()V"⟩
abbrev b_X_plane : ByteArray := prog_1_method_2_code
def y_X_plane : MethodName := ⟨R_X, "plane", "(IIII)I"⟩
abbrev b_X_planes : ByteArray := prog_1_method_3_code
def y_X_planes : MethodName := ⟨R_X, "planes", "()I"⟩
abbrev b_X_convex : ByteArray := prog_1_method_4_code
def y_X_convex : MethodName := ⟨R_X, "convex", "(I)I"⟩
abbrev b_X_join : ByteArray := prog_1_method_5_code
def y_X_join : MethodName := ⟨R_X, "join", "(I)I"⟩
abbrev b_X_turn : ByteArray := prog_1_method_6_code
def y_X_turn : MethodName := ⟨R_X, "turn", "()V"⟩
abbrev b_X_copy : ByteArray := prog_1_method_7_code
def y_X_copy : MethodName := ⟨R_X, "copy", "(I)I"⟩
abbrev b_X_drop : ByteArray := prog_1_method_8_code
def y_X_drop : MethodName := ⟨R_X, "drop", "()I"⟩
abbrev b_X_solids : ByteArray := prog_1_method_9_code
def y_X_solids : MethodName := ⟨R_X, "solids", "()I"⟩
abbrev b_X_inside : ByteArray := prog_1_method_10_code
def y_X_inside : MethodName := ⟨R_X, "inside", "(IIII)I"⟩
abbrev b_X_side : ByteArray := prog_1_method_11_code
def y_X_side : MethodName := ⟨R_X, "side", "(IIII)I"⟩
abbrev b_X_enters : ByteArray := prog_1_method_12_code
def y_X_enters : MethodName := ⟨R_X, "enters", "(III)I"⟩
abbrev b_X_isEntry : ByteArray := prog_1_method_13_code
def y_X_isEntry : MethodName := ⟨R_X, "isEntry", "(IIII)Z"⟩
abbrev b_X_lookAtSpot : ByteArray := prog_1_method_14_code
def y_X_lookAtSpot : MethodName := ⟨R_X, "lookAtSpot", "(I)I"⟩
abbrev b_X_topHas : ByteArray := prog_1_method_15_code
def y_X_topHas : MethodName := ⟨R_X, "topHas", "(I)Z"⟩
abbrev b_X_requireRoom : ByteArray := prog_1_method_16_code
def y_X_requireRoom : MethodName := ⟨R_X, "requireRoom", "()V"⟩
abbrev b_X_requireSolid : ByteArray := prog_1_method_17_code
def y_X_requireSolid : MethodName := ⟨R_X, "requireSolid", "()V"⟩
abbrev b_X_requirePoint : ByteArray := prog_1_method_18_code
def y_X_requirePoint : MethodName := ⟨R_X, "requirePoint", "(IIII)V"⟩
abbrev b_X_isBeyond : ByteArray := prog_1_method_19_code
def y_X_isBeyond : MethodName := ⟨R_X, "isBeyond", "(II)Z"⟩
abbrev b_Mo_init : ByteArray := prog_7_method_1_code
def y_Mo_init : MethodName := ⟨R_Mo, "<init>", "()V"⟩
abbrev b_Mo_thrown : ByteArray := prog_7_method_2_code
def y_Mo_thrown : MethodName := ⟨R_Mo, "thrown", "()I"⟩
abbrev b_Mo_within : ByteArray := prog_7_method_3_code
def y_Mo_within : MethodName := ⟨R_Mo, "within", "(II)Z"⟩
abbrev b_Mo_plane : ByteArray := prog_7_method_4_code
def y_Mo_plane : MethodName := ⟨R_Mo, "plane", "(IIII)I"⟩
abbrev b_Mo_planes : ByteArray := prog_7_method_5_code
def y_Mo_planes : MethodName := ⟨R_Mo, "planes", "()I"⟩
abbrev b_Mo_convex : ByteArray := prog_7_method_6_code
def y_Mo_convex : MethodName := ⟨R_Mo, "convex", "(I)I"⟩
abbrev b_Mo_join : ByteArray := prog_7_method_7_code
def y_Mo_join : MethodName := ⟨R_Mo, "join", "(I)I"⟩
abbrev b_Mo_turn : ByteArray := prog_7_method_8_code
def y_Mo_turn : MethodName := ⟨R_Mo, "turn", "()V"⟩
abbrev b_Mo_copy : ByteArray := prog_7_method_9_code
def y_Mo_copy : MethodName := ⟨R_Mo, "copy", "(I)I"⟩
abbrev b_Mo_drop : ByteArray := prog_7_method_10_code
def y_Mo_drop : MethodName := ⟨R_Mo, "drop", "()I"⟩
abbrev b_Mo_solids : ByteArray := prog_7_method_11_code
def y_Mo_solids : MethodName := ⟨R_Mo, "solids", "()I"⟩
abbrev b_Mo_topHas : ByteArray := prog_7_method_12_code
def y_Mo_topHas : MethodName := ⟨R_Mo, "topHas", "(I)Z"⟩
abbrev b_Mo_isPoint : ByteArray := prog_7_method_13_code
def y_Mo_isPoint : MethodName := ⟨R_Mo, "isPoint", "(IIII)Z"⟩
abbrev b_Mo_look : ByteArray := prog_7_method_14_code
def y_Mo_look : MethodName := ⟨R_Mo, "look", "(IIII)V"⟩
abbrev b_Mo_lies : ByteArray := prog_7_method_15_code
def y_Mo_lies : MethodName := ⟨R_Mo, "lies", "(II)I"⟩
abbrev b_Mo_choice : ByteArray := prog_7_method_16_code
def y_Mo_choice : MethodName := ⟨R_Mo, "choice", "()I"⟩
abbrev b_Mo_isOnGiven : ByteArray := prog_7_method_17_code
def y_Mo_isOnGiven : MethodName := ⟨R_Mo, "isOnGiven", "()Z"⟩
abbrev b_Mo_inside : ByteArray := prog_7_method_18_code
def y_Mo_inside : MethodName := ⟨R_Mo, "inside", "(IIII)I"⟩
abbrev b_Mo_normal : ByteArray := prog_7_method_19_code
def y_Mo_normal : MethodName := ⟨R_Mo, "normal", "(II)I"⟩
abbrev b_Mo_alike : ByteArray := prog_7_method_20_code
def y_Mo_alike : MethodName := ⟨R_Mo, "alike", "(II)I"⟩
abbrev b_Mo_choiceAt : ByteArray := prog_7_method_21_code
def y_Mo_choiceAt : MethodName := ⟨R_Mo, "choiceAt", "(IZ)I"⟩
abbrev b_Mo_sideOf : ByteArray := prog_7_method_22_code
def y_Mo_sideOf : MethodName := ⟨R_Mo, "sideOf", "(IIII)I"⟩
abbrev b_Mo_side : ByteArray := prog_7_method_23_code
def y_Mo_side : MethodName := ⟨R_Mo, "side", "(IIII)I"⟩
abbrev b_Mo_compare : ByteArray := prog_7_method_24_code
def y_Mo_compare : MethodName := ⟨R_Mo, "compare", "(JJJJ)I"⟩
abbrev b_Mo_meet : ByteArray := prog_7_method_25_code
def y_Mo_meet : MethodName := ⟨R_Mo, "meet", "(III)Z"⟩
abbrev b_Mo_isInBox : ByteArray := prog_7_method_26_code
def y_Mo_isInBox : MethodName := ⟨R_Mo, "isInBox", "(I)Z"⟩
abbrev b_Mo_isCrossed : ByteArray := prog_7_method_27_code
def y_Mo_isCrossed : MethodName := ⟨R_Mo, "isCrossed", "(I)Z"⟩
abbrev b_Mo_choiceBehind : ByteArray := prog_7_method_28_code
def y_Mo_choiceBehind : MethodName := ⟨R_Mo, "choiceBehind", "(IJJ)I"⟩
abbrev b_Mo_enters : ByteArray := prog_7_method_29_code
def y_Mo_enters : MethodName := ⟨R_Mo, "enters", "(III)I"⟩
abbrev b_Pl_init : ByteArray := prog_2_method_1_code
def y_Pl_init : MethodName := ⟨R_Pl, "<init>", "(JJJJ)V"⟩
abbrev b_Pl_factor : ByteArray := prog_2_method_2_code
def y_Pl_factor : MethodName := ⟨R_Pl, "factor", "(I)J"⟩
abbrev b_Pl_excess : ByteArray := prog_2_method_3_code
def y_Pl_excess : MethodName := ⟨R_Pl, "excess", "(LCarvedSolids$Point;)J"⟩
abbrev b_Pl_isOneWith : ByteArray := prog_2_method_4_code
def y_Pl_isOneWith : MethodName := ⟨R_Pl, "isOneWith", "(LCarvedSolids$Plane;)Z"⟩
abbrev b_Pl_looksLike : ByteArray := prog_2_method_5_code
def y_Pl_looksLike : MethodName := ⟨R_Pl, "looksLike", "(LCarvedSolids$Plane;)Z"⟩
abbrev b_Ps_init : ByteArray := prog_3_method_1_code
def y_Ps_init : MethodName := ⟨R_Ps, "<init>", "()V"⟩
abbrev b_Ps_isCellInBox : ByteArray := prog_3_method_2_code
def y_Ps_isCellInBox : MethodName := ⟨R_Ps, "isCellInBox", "(I)Z"⟩
abbrev b_Ps_givenOfCell : ByteArray := prog_3_method_3_code
def y_Ps_givenOfCell : MethodName := ⟨R_Ps, "givenOfCell", "(I)I"⟩
abbrev b_Ps_add : ByteArray := prog_3_method_4_code
def y_Ps_add : MethodName := ⟨R_Ps, "add", "(LCarvedSolids$Plane;)V"⟩
abbrev b_Ps_firstOneWith : ByteArray := prog_3_method_5_code
def y_Ps_firstOneWith : MethodName := ⟨R_Ps, "firstOneWith", "(LCarvedSolids$Plane;)I"⟩
abbrev b_Ps_count : ByteArray := prog_3_method_6_code
def y_Ps_count : MethodName := ⟨R_Ps, "count", "()I"⟩
abbrev b_Ps_given : ByteArray := prog_3_method_7_code
def y_Ps_given : MethodName := ⟨R_Ps, "given", "()I"⟩
abbrev b_Ps_get : ByteArray := prog_3_method_8_code
def y_Ps_get : MethodName := ⟨R_Ps, "get", "(I)LCarvedSolids$Plane;"⟩
abbrev b_Ps_isFirst : ByteArray := prog_3_method_9_code
def y_Ps_isFirst : MethodName := ⟨R_Ps, "isFirst", "(I)Z"⟩
abbrev b_Ps_isInBox : ByteArray := prog_3_method_10_code
def y_Ps_isInBox : MethodName := ⟨R_Ps, "isInBox", "(LCarvedSolids$Point;)Z"⟩
abbrev b_Ps_isOnAny : ByteArray := prog_3_method_11_code
def y_Ps_isOnAny : MethodName := ⟨R_Ps, "isOnAny", "(LCarvedSolids$Point;)Z"⟩
abbrev b_Ps_onlyOneAt : ByteArray := prog_3_method_12_code
def y_Ps_onlyOneAt : MethodName := ⟨R_Ps, "onlyOneAt", "(LCarvedSolids$Point;)I"⟩
abbrev b_Ps_cellOf : ByteArray := prog_3_method_13_code
def y_Ps_cellOf : MethodName := ⟨R_Ps, "cellOf", "(LCarvedSolids$Point;)I"⟩
abbrev b_Ps_cellWhereLess : ByteArray := prog_3_method_14_code
def y_Ps_cellWhereLess : MethodName := ⟨R_Ps, "cellWhereLess", "(LCarvedSolids$Point;I)I"⟩
abbrev b_Ps_cellWhereMore : ByteArray := prog_3_method_15_code
def y_Ps_cellWhereMore : MethodName := ⟨R_Ps, "cellWhereMore", "(LCarvedSolids$Point;I)I"⟩
abbrev b_Ps_halfSpacesAlong : ByteArray := prog_3_method_16_code
def y_Ps_halfSpacesAlong : MethodName := ⟨R_Ps, "halfSpacesAlong", "(IZ)I"⟩
abbrev b_Pt_init : ByteArray := prog_4_method_1_code
def y_Pt_init : MethodName := ⟨R_Pt, "<init>", "()V"⟩
abbrev b_Pt_place : ByteArray := prog_4_method_2_code
def y_Pt_place : MethodName := ⟨R_Pt, "place", "(JJJJ)V"⟩
abbrev b_Pt_placeOnAxis : ByteArray := prog_4_method_3_code
def y_Pt_placeOnAxis : MethodName := ⟨R_Pt, "placeOnAxis", "(IJJJJ)V"⟩
abbrev b_So_init : ByteArray := prog_5_method_1_code
def y_So_init : MethodName := ⟨R_So, "<init>", "()V"⟩
abbrev b_So_has : ByteArray := prog_5_method_2_code
def y_So_has : MethodName := ⟨R_So, "has", "(I)Z"⟩
abbrev b_So_becomeConvex : ByteArray := prog_5_method_3_code
def y_So_becomeConvex : MethodName := ⟨R_So, "becomeConvex", "(I)V"⟩
abbrev b_So_becomeLike : ByteArray := prog_5_method_4_code
def y_So_becomeLike : MethodName := ⟨R_So, "becomeLike", "(LCarvedSolids$Solid;)V"⟩
abbrev b_So_becomeItsRest : ByteArray := prog_5_method_5_code
def y_So_becomeItsRest : MethodName := ⟨R_So, "becomeItsRest", "()V"⟩
abbrev b_So_joinWith : ByteArray := prog_5_method_6_code
def y_So_joinWith : MethodName := ⟨R_So, "joinWith", "(LCarvedSolids$Solid;I)V"⟩
abbrev b_So_joined : ByteArray := prog_5_method_7_code
def y_So_joined : MethodName := ⟨R_So, "joined", "(JJI)J"⟩
abbrev b_La_plane : ByteArray := method_3_code
def y_La_plane : MethodName := ⟨R_La, "plane", "(LCarvedSolids;IIII[J)I"⟩
abbrev b_La_convex : ByteArray := method_4_code
def y_La_convex : MethodName := ⟨R_La, "convex", "(LCarvedSolids;I[J)I"⟩
abbrev b_La_join : ByteArray := method_5_code
def y_La_join : MethodName := ⟨R_La, "join", "(LCarvedSolids;I[J)I"⟩
abbrev b_La_turn : ByteArray := method_6_code
def y_La_turn : MethodName := ⟨R_La, "turn", "(LCarvedSolids;)I"⟩
abbrev b_La_copy : ByteArray := method_7_code
def y_La_copy : MethodName := ⟨R_La, "copy", "(LCarvedSolids;I[J)I"⟩
abbrev b_La_drop : ByteArray := method_8_code
def y_La_drop : MethodName := ⟨R_La, "drop", "(LCarvedSolids;[J)I"⟩
abbrev b_La_inside : ByteArray := method_9_code
def y_La_inside : MethodName := ⟨R_La, "inside", "(LCarvedSolids;IIII[J)I"⟩
abbrev b_La_side : ByteArray := method_10_code
def y_La_side : MethodName := ⟨R_La, "side", "(LCarvedSolids;IIII[J)I"⟩
abbrev b_La_enters : ByteArray := method_11_code
def y_La_enters : MethodName := ⟨R_La, "enters", "(LCarvedSolids;III[J)I"⟩
abbrev b_La_law : ByteArray := code
def y_La_law : MethodName := ⟨R_La, "law", "([I)Z"⟩
/-- the words of the tables that stay good -/
def tB : List Cond := lw_tbl.filter goodWord
theorem mB {w : Cond} (h : w ∈ lw_tbl) (g : goodWord w = true) : w ∈ tB := List.mem_filter.mpr ⟨h, g⟩
theorem mB1 (i : Nat) {w : Cond} (h : tables_1_1[i]? = some w) (g : goodWord w = true) : w ∈ tB := mB (List.mem_append_right _ (List.mem_append_left _ (List.mem_of_getElem? h))) g
theorem mB2 (i : Nat) {w : Cond} (h : tables_1_2[i]? = some w) (g : goodWord w = true) : w ∈ tB := mB (List.mem_append_right _ (List.mem_append_right _ (List.mem_append_left _ (List.mem_of_getElem? h)))) g
theorem mB3 (i : Nat) {w : Cond} (h : tables_1_3[i]? = some w) (g : goodWord w = true) : w ∈ tB := mB (List.mem_append_right _ (List.mem_append_right _ (List.mem_append_right _ (List.mem_of_getElem? h)))) g
theorem mBs (i : Nat) {y : MethodName} {n : Nat} (h : lw_privs[i]? = some (y, n)) : Cond.selects y.cls y y ∈ tB := mB (List.mem_append_left _ (List.mem_map.mpr ⟨(y, n), List.mem_of_getElem? h, rfl⟩)) rfl
theorem good_tB : ∀ w ∈ tB, (w.onTables && w.keeps) = true ∨ ∃ ty, w = .arrayClass ty := fun w h => good_of_word (List.mem_filter.mp h).2
end
section
/-! The words, a row each. -/
theorem k_1_0 : Cond.initialized R_La ∈ tB := mB1 0 rfl rfl
theorem k_1_1 : Cond.initialized R_X ∈ tB := mB1 1 rfl rfl
theorem k_1_2 : Cond.initialized R_Ps ∈ tB := mB1 2 rfl rfl
theorem k_1_3 : Cond.initialized R_Pl ∈ tB := mB1 3 rfl rfl
theorem k_1_4 : Cond.initialized R_So ∈ tB := mB1 4 rfl rfl
theorem k_1_5 : Cond.initialized R_Pt ∈ tB := mB1 5 rfl rfl
theorem k_1_6 : Cond.initialized R_Mo ∈ tB := mB1 6 rfl rfl
theorem k_1_7 : Cond.initialized "java/lang/Throwable" ∈ tB := mB1 7 rfl rfl
theorem k_1_8 : Cond.initialized "java/lang/Exception" ∈ tB := mB1 8 rfl rfl
theorem k_1_9 : Cond.initialized "java/lang/RuntimeException" ∈ tB := mB1 9 rfl rfl
theorem k_1_10 : Cond.initialized R_IA ∈ tB := mB1 10 rfl rfl
theorem k_1_11 : Cond.initialized R_IS ∈ tB := mB1 11 rfl rfl
theorem k_1_12 : Cond.initialized R_IO ∈ tB := mB1 12 rfl rfl
theorem k_1_13 : Cond.initialized R_NS ∈ tB := mB1 13 rfl rfl
theorem k_1_14 : Cond.initialized "java/lang/Math" ∈ tB := mB1 14 rfl rfl
theorem k_1_15 : Cond.classLink R_La 8 R_X ∈ tB := mB1 15 rfl rfl
theorem k_1_16 : Cond.instantiable R_X 4 ∈ tB := mB1 16 rfl rfl
theorem k_1_17 : Cond.methodLink R_La 48 y_X_init ∈ tB := mB1 17 rfl rfl
theorem k_1_18 : Cond.instanceMethod y_X_init ∈ tB := mB1 18 rfl rfl
theorem k_1_19 : Cond.code y_X_init b_X_init 2 none ∈ tB := mB1 19 rfl rfl
theorem k_1_20 : Cond.methodLink R_X 1 objectInit ∈ tB := mB1 20 rfl rfl
theorem k_1_21 : Cond.instanceMethod objectInit ∈ tB := mB1 21 rfl rfl
theorem k_1_22 : Cond.code objectInit ⟨#[0xb1]⟩ 1 none ∈ tB := mB1 22 rfl rfl
theorem k_1_23 : Cond.classLink R_X 7 R_Ps ∈ tB := mB1 23 rfl rfl
theorem k_1_24 : Cond.instantiable R_Ps 3 ∈ tB := mB1 24 rfl rfl
theorem k_1_25 : Cond.methodLink R_X 9 y_Ps_init ∈ tB := mB1 25 rfl rfl
theorem k_1_26 : Cond.instanceMethod y_Ps_init ∈ tB := mB1 26 rfl rfl
theorem k_1_27 : Cond.code y_Ps_init b_Ps_init 1 none ∈ tB := mB1 27 rfl rfl
theorem k_1_28 : Cond.methodLink R_Ps 3 objectInit ∈ tB := mB1 28 rfl rfl
theorem k_1_29 : Cond.classLink R_Ps 9 R_Pl ∈ tB := mB1 29 rfl rfl
theorem k_1_30 : Cond.arrayOver (.object R_Pl) ∈ lw_tbl := List.mem_append_right _ (List.mem_append_left _ (List.mem_of_getElem? (i := 30) rfl))
theorem k_1_31 : Cond.instantiable R_Pl 4 ∈ tB := mB1 31 rfl rfl
theorem k_1_32 : Cond.constantLong R_Ps 23 1000 ∈ tB := mB1 32 rfl rfl
theorem k_1_33 : Cond.methodLink R_Ps 25 y_Pl_init ∈ tB := mB1 33 rfl rfl
theorem k_1_34 : Cond.instanceMethod y_Pl_init ∈ tB := mB1 34 rfl rfl
theorem k_1_35 : Cond.code y_Pl_init b_Pl_init 9 none ∈ tB := mB1 35 rfl rfl
theorem k_1_36 : Cond.methodLink R_Pl 1 objectInit ∈ tB := mB1 36 rfl rfl
theorem k_1_37 : Cond.fieldLink R_Pl 7 R_Pl "a" "J" ∈ tB := mB1 37 rfl rfl
theorem k_1_38 : Cond.fieldLink R_Pl 13 R_Pl "b" "J" ∈ tB := mB1 38 rfl rfl
theorem k_1_39 : Cond.fieldLink R_Pl 16 R_Pl "c" "J" ∈ tB := mB1 39 rfl rfl
theorem k_1_40 : Cond.fieldLink R_Pl 19 R_Pl "d" "J" ∈ tB := mB1 40 rfl rfl
theorem k_1_50 : Cond.arrayClass .int ∈ tB := mB1 50 rfl rfl
theorem k_1_51 : Cond.methodLink R_Ps 28 y_Ps_add ∈ tB := mB1 51 rfl rfl
theorem k_1_52 : Cond.instanceMethod y_Ps_add ∈ tB := mB1 52 rfl rfl
theorem k_1_53 : Cond.selects R_Ps y_Ps_add y_Ps_add ∈ tB := mB1 53 rfl rfl
theorem k_1_54 : Cond.code y_Ps_add b_Ps_add 2 none ∈ tB := mB1 54 rfl rfl
theorem k_1_55 : Cond.methodLink R_Ps 34 y_Ps_firstOneWith ∈ tB := mB1 55 rfl rfl
theorem k_1_57 : Cond.instanceMethod y_Ps_firstOneWith ∈ tB := mB1 57 rfl rfl
theorem k_1_58 : Cond.code y_Ps_firstOneWith b_Ps_firstOneWith 3 (some .int) ∈ tB := mB1 58 rfl rfl
theorem k_1_59 : Cond.methodLink R_Ps 38 y_Pl_isOneWith ∈ tB := mB1 59 rfl rfl
theorem k_1_60 : Cond.instanceMethod y_Pl_isOneWith ∈ tB := mB1 60 rfl rfl
theorem k_1_61 : Cond.selects R_Pl y_Pl_isOneWith y_Pl_isOneWith ∈ tB := mB1 61 rfl rfl
theorem k_1_62 : Cond.code y_Pl_isOneWith b_Pl_isOneWith 2 (some .boolean) ∈ tB := mB1 62 rfl rfl
theorem k_1_63 : Cond.constantLong R_Ps 32 (-1) ∈ tB := mB1 63 rfl rfl
theorem k_1_64 : Cond.fieldLink R_Ps 11 R_Ps "all" "[LCarvedSolids$Plane;" ∈ tB := mB1 64 rfl rfl
theorem k_1_65 : Cond.fieldLink R_Ps 15 R_Ps "first" "[I" ∈ tB := mB1 65 rfl rfl
theorem k_1_66 : Cond.fieldLink R_Ps 19 R_Ps "count" "I" ∈ tB := mB1 66 rfl rfl
theorem k_1_74 : Cond.classLink R_X 16 R_So ∈ tB := mB1 74 rfl rfl
theorem k_1_75 : Cond.arrayOver (.object R_So) ∈ lw_tbl := List.mem_append_right _ (List.mem_append_left _ (List.mem_of_getElem? (i := 75) rfl))
theorem k_1_76 : Cond.instantiable R_So 1 ∈ tB := mB1 76 rfl rfl
theorem k_1_77 : Cond.methodLink R_X 22 y_So_init ∈ tB := mB1 77 rfl rfl
theorem k_1_78 : Cond.instanceMethod y_So_init ∈ tB := mB1 78 rfl rfl
theorem k_1_79 : Cond.code y_So_init b_So_init 1 none ∈ tB := mB1 79 rfl rfl
theorem k_1_80 : Cond.methodLink R_So 5 objectInit ∈ tB := mB1 80 rfl rfl
theorem k_1_81 : Cond.fieldLink R_So 11 R_So "words" "[J" ∈ tB := mB1 81 rfl rfl
theorem k_1_85 : Cond.arrayClass .long ∈ tB := mB1 85 rfl rfl
theorem k_1_86 : Cond.classLink R_X 23 R_Pt ∈ tB := mB1 86 rfl rfl
theorem k_1_87 : Cond.instantiable R_Pt 4 ∈ tB := mB1 87 rfl rfl
theorem k_1_88 : Cond.methodLinkNest R_X 25 y_Pt_init R_X ∈ lw_tbl := List.mem_append_right _ (List.mem_append_left _ (List.mem_of_getElem? (i := 88) rfl))
theorem k_1_89 : Cond.instanceMethod y_Pt_init ∈ tB := mB1 89 rfl rfl
theorem k_1_90 : Cond.code y_Pt_init b_Pt_init 1 none ∈ tB := mB1 90 rfl rfl
theorem k_1_91 : Cond.methodLink R_Pt 1 objectInit ∈ tB := mB1 91 rfl rfl
theorem k_1_92 : Cond.fieldLink R_Pt 7 R_Pt "x" "J" ∈ tB := mB1 92 rfl rfl
theorem k_1_93 : Cond.fieldLinkNest R_Pl 22 R_Pt "x" "J" R_X ∈ lw_tbl := List.mem_append_right _ (List.mem_append_left _ (List.mem_of_getElem? (i := 93) rfl))
theorem k_1_94 : Cond.fieldLink R_Pt 13 R_Pt "y" "J" ∈ tB := mB1 94 rfl rfl
theorem k_1_95 : Cond.fieldLinkNest R_Pl 27 R_Pt "y" "J" R_X ∈ lw_tbl := List.mem_append_right _ (List.mem_append_left _ (List.mem_of_getElem? (i := 95) rfl))
theorem k_1_96 : Cond.fieldLink R_Pt 16 R_Pt "z" "J" ∈ tB := mB1 96 rfl rfl
theorem k_1_97 : Cond.fieldLinkNest R_Pl 30 R_Pt "z" "J" R_X ∈ lw_tbl := List.mem_append_right _ (List.mem_append_left _ (List.mem_of_getElem? (i := 97) rfl))
theorem k_1_98 : Cond.fieldLink R_Pt 19 R_Pt "w" "J" ∈ tB := mB1 98 rfl rfl
theorem k_1_99 : Cond.fieldLinkNest R_Pl 33 R_Pt "w" "J" R_X ∈ lw_tbl := List.mem_append_right _ (List.mem_append_left _ (List.mem_of_getElem? (i := 99) rfl))
theorem k_1_109 : Cond.fieldLink R_X 10 R_X "space" "LCarvedSolids$Planes;" ∈ tB := mB1 109 rfl rfl
theorem k_1_110 : Cond.fieldLink R_X 18 R_X "stack" "[LCarvedSolids$Solid;" ∈ tB := mB1 110 rfl rfl
theorem k_1_111 : Cond.fieldLink R_X 26 R_X "spot" "LCarvedSolids$Point;" ∈ tB := mB1 111 rfl rfl
theorem k_1_112 : Cond.fieldLink R_X 30 R_X "height" "I" ∈ tB := mB1 112 rfl rfl
theorem k_1_122 : Cond.methodLink R_La 61 y_X_planes ∈ tB := mB1 122 rfl rfl
theorem k_1_123 : Cond.instanceMethod y_X_planes ∈ tB := mB1 123 rfl rfl
theorem k_1_124 : Cond.selects R_X y_X_planes y_X_planes ∈ tB := mB1 124 rfl rfl
theorem k_1_125 : Cond.code y_X_planes b_X_planes 1 (some .int) ∈ tB := mB1 125 rfl rfl
theorem k_1_126 : Cond.methodLink R_X 51 y_Ps_given ∈ tB := mB1 126 rfl rfl
theorem k_1_127 : Cond.instanceMethod y_Ps_given ∈ tB := mB1 127 rfl rfl
theorem k_1_128 : Cond.selects R_Ps y_Ps_given y_Ps_given ∈ tB := mB1 128 rfl rfl
theorem k_1_129 : Cond.code y_Ps_given b_Ps_given 1 (some .int) ∈ tB := mB1 129 rfl rfl
theorem k_1_130 : Cond.methodLink R_La 83 y_X_solids ∈ tB := mB1 130 rfl rfl
theorem k_1_131 : Cond.instanceMethod y_X_solids ∈ tB := mB1 131 rfl rfl
theorem k_1_132 : Cond.selects R_X y_X_solids y_X_solids ∈ tB := mB1 132 rfl rfl
theorem k_1_133 : Cond.code y_X_solids b_X_solids 1 (some .int) ∈ tB := mB1 133 rfl rfl
theorem k_1_134 : Cond.methodLink R_La 52 y_La_plane ∈ tB := mB1 134 rfl rfl
theorem k_1_135 : Cond.static y_La_plane ∈ tB := mB1 135 rfl rfl
theorem k_1_136 : Cond.codeWith y_La_plane b_La_plane 7 (some .int) [(0, 14, 17, 13), (0, 14, 21, 15)] ∈ tB := mB1 136 rfl rfl
theorem k_1_137 : Cond.classLink R_La 13 R_IA ∈ tB := mB1 137 rfl rfl
theorem k_1_138 : Cond.classLink R_La 15 R_IS ∈ tB := mB1 138 rfl rfl
theorem k_1_139 : Cond.methodLink R_La 7 y_X_plane ∈ tB := mB1 139 rfl rfl
theorem k_1_140 : Cond.instanceMethod y_X_plane ∈ tB := mB1 140 rfl rfl
theorem k_1_141 : Cond.selects R_X y_X_plane y_X_plane ∈ tB := mB1 141 rfl rfl
theorem k_1_142 : Cond.code y_X_plane b_X_plane 6 (some .int) ∈ tB := mB1 142 rfl rfl
theorem k_1_143 : Cond.classLink R_X 34 R_IA ∈ tB := mB1 143 rfl rfl
theorem k_1_144 : Cond.instantiable R_IA 6 ∈ tB := mB1 144 rfl rfl
theorem k_1_145 : Cond.castable R_IA R_IA ∈ lw_tbl := List.mem_append_right _ (List.mem_append_left _ (List.mem_of_getElem? (i := 145) rfl))
theorem k_1_146 : Cond.declares ⟨"java/lang/RuntimeException", "<init>", "()V"⟩ ∈ lw_tbl := List.mem_append_right _ (List.mem_append_left _ (List.mem_of_getElem? (i := 146) rfl))
theorem k_1_147 : Cond.declares ⟨"java/lang/RuntimeException", "<init>", "(Ljava/lang/String;)V"⟩ ∈ lw_tbl := List.mem_append_right _ (List.mem_append_left _ (List.mem_of_getElem? (i := 147) rfl))
theorem k_1_148 : Cond.declares ⟨"java/lang/Exception", "<init>", "()V"⟩ ∈ lw_tbl := List.mem_append_right _ (List.mem_append_left _ (List.mem_of_getElem? (i := 148) rfl))
theorem k_1_149 : Cond.declares ⟨"java/lang/Exception", "<init>", "(Ljava/lang/String;)V"⟩ ∈ lw_tbl := List.mem_append_right _ (List.mem_append_left _ (List.mem_of_getElem? (i := 149) rfl))
theorem k_1_150 : Cond.declares ⟨"java/lang/Throwable", "<init>", "()V"⟩ ∈ lw_tbl := List.mem_append_right _ (List.mem_append_left _ (List.mem_of_getElem? (i := 150) rfl))
theorem k_1_151 : Cond.declares ⟨"java/lang/Throwable", "<init>", "(Ljava/lang/String;)V"⟩ ∈ lw_tbl := List.mem_append_right _ (List.mem_append_left _ (List.mem_of_getElem? (i := 151) rfl))
theorem k_1_152 : Cond.selects R_IA ⟨"java/lang/Throwable", "fillInStackTrace", "(I)Ljava/lang/Throwable;"⟩ ⟨"java/lang/Throwable", "fillInStackTrace", "(I)Ljava/lang/Throwable;"⟩ ∈ tB := mB1 152 rfl rfl
theorem k_1_153 : Cond.selects R_IA ⟨"java/lang/Throwable", "fillInStackTrace", "()Ljava/lang/Throwable;"⟩ ⟨"java/lang/Throwable", "fillInStackTrace", "()Ljava/lang/Throwable;"⟩ ∈ tB := mB1 153 rfl rfl
theorem k_1_164 : Cond.fieldLink "java/lang/Throwable" 198 "java/lang/Throwable" "backtrace" "Ljava/lang/Object;" ∈ tB := mB1 164 rfl rfl
theorem k_1_166 : Cond.instanceMethod ⟨"java/lang/Throwable", "<init>", "()V"⟩ ∈ tB := mB1 166 rfl rfl
theorem k_1_168 : Cond.methodLink "java/lang/Throwable" 1 objectInit ∈ tB := mB1 168 rfl rfl
theorem k_1_169 : Cond.fieldLink "java/lang/Throwable" 13 "java/lang/Throwable" "UNASSIGNED_STACK" "[Ljava/lang/StackTraceElement;" ∈ tB := mB1 169 rfl rfl
theorem k_1_171 : Cond.fieldLink "java/lang/Throwable" 20 "java/lang/Throwable" "SUPPRESSED_SENTINEL" "Ljava/util/List;" ∈ tB := mB1 171 rfl rfl
theorem k_1_173 : Cond.methodLink "java/lang/Throwable" 27 ⟨"java/lang/Throwable", "fillInStackTrace", "()Ljava/lang/Throwable;"⟩ ∈ tB := mB1 173 rfl rfl
theorem k_1_174 : Cond.instanceMethod ⟨"java/lang/Throwable", "fillInStackTrace", "()Ljava/lang/Throwable;"⟩ ∈ tB := mB1 174 rfl rfl
theorem k_1_176 : Cond.selects R_IS ⟨"java/lang/Throwable", "fillInStackTrace", "()Ljava/lang/Throwable;"⟩ ⟨"java/lang/Throwable", "fillInStackTrace", "()Ljava/lang/Throwable;"⟩ ∈ tB := mB1 176 rfl rfl
theorem k_1_177 : Cond.selects R_IO ⟨"java/lang/Throwable", "fillInStackTrace", "()Ljava/lang/Throwable;"⟩ ⟨"java/lang/Throwable", "fillInStackTrace", "()Ljava/lang/Throwable;"⟩ ∈ tB := mB1 177 rfl rfl
theorem k_1_178 : Cond.selects R_NS ⟨"java/lang/Throwable", "fillInStackTrace", "()Ljava/lang/Throwable;"⟩ ⟨"java/lang/Throwable", "fillInStackTrace", "()Ljava/lang/Throwable;"⟩ ∈ tB := mB1 178 rfl rfl
theorem k_1_180 : Cond.methodLink "java/lang/Throwable" 202 ⟨"java/lang/Throwable", "fillInStackTrace", "(I)Ljava/lang/Throwable;"⟩ ∈ tB := mB1 180 rfl rfl
theorem k_1_182 : Cond.instanceMethod ⟨"java/lang/Throwable", "fillInStackTrace", "(I)Ljava/lang/Throwable;"⟩ ∈ tB := mB1 182 rfl rfl
theorem k_1_183 : Cond.instantiable "java/lang/Throwable" 6 ∈ tB := mB1 183 rfl rfl
theorem k_1_186 : Cond.methodLink R_X 38 ⟨R_IA, "<init>", "(Ljava/lang/String;)V"⟩ ∈ tB := mB1 186 rfl rfl
theorem k_1_187 : Cond.instanceMethod ⟨R_IA, "<init>", "(Ljava/lang/String;)V"⟩ ∈ tB := mB1 187 rfl rfl
theorem k_1_189 : Cond.methodLink R_IA 7 ⟨"java/lang/RuntimeException", "<init>", "(Ljava/lang/String;)V"⟩ ∈ tB := mB1 189 rfl rfl
theorem k_1_190 : Cond.instanceMethod ⟨"java/lang/RuntimeException", "<init>", "(Ljava/lang/String;)V"⟩ ∈ tB := mB1 190 rfl rfl
theorem k_1_192 : Cond.methodLink "java/lang/RuntimeException" 7 ⟨"java/lang/Exception", "<init>", "(Ljava/lang/String;)V"⟩ ∈ tB := mB1 192 rfl rfl
theorem k_1_193 : Cond.instanceMethod ⟨"java/lang/Exception", "<init>", "(Ljava/lang/String;)V"⟩ ∈ tB := mB1 193 rfl rfl
theorem k_1_195 : Cond.methodLink "java/lang/Exception" 7 ⟨"java/lang/Throwable", "<init>", "(Ljava/lang/String;)V"⟩ ∈ tB := mB1 195 rfl rfl
theorem k_1_196 : Cond.instanceMethod ⟨"java/lang/Throwable", "<init>", "(Ljava/lang/String;)V"⟩ ∈ tB := mB1 196 rfl rfl
theorem k_1_199 : Cond.fieldLink "java/lang/Throwable" 31 "java/lang/Throwable" "detailMessage" "Ljava/lang/String;" ∈ tB := mB1 199 rfl rfl
theorem k_1_200 : Cond.fieldLink "java/lang/Throwable" 7 "java/lang/Throwable" "cause" "Ljava/lang/Throwable;" ∈ tB := mB1 200 rfl rfl
theorem k_1_201 : Cond.fieldLink "java/lang/Throwable" 17 "java/lang/Throwable" "stackTrace" "[Ljava/lang/StackTraceElement;" ∈ tB := mB1 201 rfl rfl
theorem k_1_202 : Cond.fieldLink "java/lang/Throwable" 24 "java/lang/Throwable" "suppressedExceptions" "Ljava/util/List;" ∈ tB := mB1 202 rfl rfl
theorem k_1_212 : Cond.constant R_X 41 1000000 ∈ tB := mB1 212 rfl rfl
theorem k_1_213 : Cond.methodLink R_X 42 y_X_isBeyond ∈ tB := mB1 213 rfl rfl
theorem k_1_214 : Cond.static y_X_isBeyond ∈ tB := mB1 214 rfl rfl
theorem k_1_215 : Cond.code y_X_isBeyond b_X_isBeyond 2 (some .boolean) ∈ tB := mB1 215 rfl rfl
theorem k_1_217 : Cond.constant R_X 48 1000000000 ∈ tB := mB1 217 rfl rfl
theorem k_1_219 : Cond.classLink R_X 55 R_IS ∈ tB := mB1 219 rfl rfl
theorem k_1_220 : Cond.instantiable R_IS 6 ∈ tB := mB1 220 rfl rfl
theorem k_1_221 : Cond.castable R_IS R_IS ∈ lw_tbl := List.mem_append_right _ (List.mem_append_left _ (List.mem_of_getElem? (i := 221) rfl))
theorem k_1_222 : Cond.selects R_IS ⟨"java/lang/Throwable", "fillInStackTrace", "(I)Ljava/lang/Throwable;"⟩ ⟨"java/lang/Throwable", "fillInStackTrace", "(I)Ljava/lang/Throwable;"⟩ ∈ tB := mB1 222 rfl rfl
theorem k_1_229 : Cond.methodLink R_X 59 ⟨R_IS, "<init>", "(Ljava/lang/String;)V"⟩ ∈ tB := mB1 229 rfl rfl
theorem k_1_230 : Cond.instanceMethod ⟨R_IS, "<init>", "(Ljava/lang/String;)V"⟩ ∈ tB := mB1 230 rfl rfl
theorem k_1_232 : Cond.methodLink R_IS 7 ⟨"java/lang/RuntimeException", "<init>", "(Ljava/lang/String;)V"⟩ ∈ tB := mB1 232 rfl rfl
theorem k_1_235 : Cond.classLink R_X 60 R_Pl ∈ tB := mB1 235 rfl rfl
theorem k_1_236 : Cond.methodLink R_X 62 y_Pl_init ∈ tB := mB1 236 rfl rfl
theorem k_1_237 : Cond.methodLink R_X 65 y_Ps_add ∈ tB := mB1 237 rfl rfl
theorem k_1_238 : Cond.methodLink R_La 65 y_La_convex ∈ tB := mB1 238 rfl rfl
theorem k_1_239 : Cond.static y_La_convex ∈ tB := mB1 239 rfl rfl
theorem k_2_0 : Cond.codeWith y_La_convex b_La_convex 4 (some .int) [(0, 9, 12, 13), (0, 9, 15, 15)] ∈ tB := mB2 0 rfl rfl
theorem k_2_1 : Cond.methodLink R_La 17 y_X_convex ∈ tB := mB2 1 rfl rfl
theorem k_2_2 : Cond.instanceMethod y_X_convex ∈ tB := mB2 2 rfl rfl
theorem k_2_3 : Cond.selects R_X y_X_convex y_X_convex ∈ tB := mB2 3 rfl rfl
theorem k_2_4 : Cond.code y_X_convex b_X_convex 2 (some .int) ∈ tB := mB2 4 rfl rfl
theorem k_2_6 : Cond.methodLink R_X 71 y_X_requireRoom ∈ tB := mB2 6 rfl rfl
theorem k_2_8 : Cond.instanceMethod y_X_requireRoom ∈ tB := mB2 8 rfl rfl
theorem k_2_9 : Cond.code y_X_requireRoom b_X_requireRoom 1 none ∈ tB := mB2 9 rfl rfl
theorem k_2_11 : Cond.methodLink R_X 74 y_So_becomeConvex ∈ tB := mB2 11 rfl rfl
theorem k_2_12 : Cond.instanceMethod y_So_becomeConvex ∈ tB := mB2 12 rfl rfl
theorem k_2_13 : Cond.selects R_So y_So_becomeConvex y_So_becomeConvex ∈ tB := mB2 13 rfl rfl
theorem k_2_14 : Cond.code y_So_becomeConvex b_So_becomeConvex 3 none ∈ tB := mB2 14 rfl rfl
theorem k_2_15 : Cond.methodLink R_La 69 y_La_join ∈ tB := mB2 15 rfl rfl
theorem k_2_16 : Cond.static y_La_join ∈ tB := mB2 16 rfl rfl
theorem k_2_17 : Cond.codeWith y_La_join b_La_join 4 (some .int) [(0, 9, 12, 13), (0, 9, 15, 15)] ∈ tB := mB2 17 rfl rfl
theorem k_2_18 : Cond.methodLink R_La 21 y_X_join ∈ tB := mB2 18 rfl rfl
theorem k_2_19 : Cond.instanceMethod y_X_join ∈ tB := mB2 19 rfl rfl
theorem k_2_20 : Cond.selects R_X y_X_join y_X_join ∈ tB := mB2 20 rfl rfl
theorem k_2_21 : Cond.code y_X_join b_X_join 2 (some .int) ∈ tB := mB2 21 rfl rfl
theorem k_2_24 : Cond.methodLink R_X 82 y_So_joinWith ∈ tB := mB2 24 rfl rfl
theorem k_2_25 : Cond.instanceMethod y_So_joinWith ∈ tB := mB2 25 rfl rfl
theorem k_2_26 : Cond.selects R_So y_So_joinWith y_So_joinWith ∈ tB := mB2 26 rfl rfl
theorem k_2_27 : Cond.code y_So_joinWith b_So_joinWith 4 none ∈ tB := mB2 27 rfl rfl
theorem k_2_28 : Cond.methodLink R_So 17 y_So_joined ∈ tB := mB2 28 rfl rfl
theorem k_2_29 : Cond.static y_So_joined ∈ tB := mB2 29 rfl rfl
theorem k_2_30 : Cond.code y_So_joined b_So_joined 5 (some .long) ∈ tB := mB2 30 rfl rfl
theorem k_2_31 : Cond.constantLong R_So 15 (-1) ∈ tB := mB2 31 rfl rfl
theorem k_2_32 : Cond.methodLink R_La 72 y_La_turn ∈ tB := mB2 32 rfl rfl
theorem k_2_33 : Cond.static y_La_turn ∈ tB := mB2 33 rfl rfl
theorem k_2_34 : Cond.codeWith y_La_turn b_La_turn 2 (some .int) [(0, 4, 7, 15)] ∈ tB := mB2 34 rfl rfl
theorem k_2_35 : Cond.methodLink R_La 24 y_X_turn ∈ tB := mB2 35 rfl rfl
theorem k_2_36 : Cond.instanceMethod y_X_turn ∈ tB := mB2 36 rfl rfl
theorem k_2_37 : Cond.selects R_X y_X_turn y_X_turn ∈ tB := mB2 37 rfl rfl
theorem k_2_38 : Cond.code y_X_turn b_X_turn 1 none ∈ tB := mB2 38 rfl rfl
theorem k_2_39 : Cond.methodLink R_X 86 y_X_requireSolid ∈ tB := mB2 39 rfl rfl
theorem k_2_41 : Cond.instanceMethod y_X_requireSolid ∈ tB := mB2 41 rfl rfl
theorem k_2_42 : Cond.code y_X_requireSolid b_X_requireSolid 1 none ∈ tB := mB2 42 rfl rfl
theorem k_2_44 : Cond.methodLink R_X 89 y_So_becomeItsRest ∈ tB := mB2 44 rfl rfl
theorem k_2_45 : Cond.instanceMethod y_So_becomeItsRest ∈ tB := mB2 45 rfl rfl
theorem k_2_46 : Cond.selects R_So y_So_becomeItsRest y_So_becomeItsRest ∈ tB := mB2 46 rfl rfl
theorem k_2_47 : Cond.code y_So_becomeItsRest b_So_becomeItsRest 2 none ∈ tB := mB2 47 rfl rfl
theorem k_2_48 : Cond.methodLink R_La 76 y_La_copy ∈ tB := mB2 48 rfl rfl
theorem k_2_49 : Cond.static y_La_copy ∈ tB := mB2 49 rfl rfl
theorem k_2_50 : Cond.codeWith y_La_copy b_La_copy 4 (some .int) [(0, 9, 12, 30), (0, 9, 15, 15)] ∈ tB := mB2 50 rfl rfl
theorem k_2_51 : Cond.classLink R_La 30 R_IO ∈ tB := mB2 51 rfl rfl
theorem k_2_52 : Cond.methodLink R_La 27 y_X_copy ∈ tB := mB2 52 rfl rfl
theorem k_2_53 : Cond.instanceMethod y_X_copy ∈ tB := mB2 53 rfl rfl
theorem k_2_54 : Cond.selects R_X y_X_copy y_X_copy ∈ tB := mB2 54 rfl rfl
theorem k_2_55 : Cond.code y_X_copy b_X_copy 2 (some .int) ∈ tB := mB2 55 rfl rfl
theorem k_2_56 : Cond.classLink R_X 92 R_IO ∈ tB := mB2 56 rfl rfl
theorem k_2_57 : Cond.instantiable R_IO 6 ∈ tB := mB2 57 rfl rfl
theorem k_2_58 : Cond.castable R_IO R_IO ∈ lw_tbl := List.mem_append_right _ (List.mem_append_right _ (List.mem_append_left _ (List.mem_of_getElem? (i := 58) rfl)))
theorem k_2_59 : Cond.selects R_IO ⟨"java/lang/Throwable", "fillInStackTrace", "(I)Ljava/lang/Throwable;"⟩ ⟨"java/lang/Throwable", "fillInStackTrace", "(I)Ljava/lang/Throwable;"⟩ ∈ tB := mB2 59 rfl rfl
theorem k_2_66 : Cond.methodLink R_X 96 ⟨R_IO, "<init>", "(Ljava/lang/String;)V"⟩ ∈ tB := mB2 66 rfl rfl
theorem k_2_67 : Cond.instanceMethod ⟨R_IO, "<init>", "(Ljava/lang/String;)V"⟩ ∈ tB := mB2 67 rfl rfl
theorem k_2_69 : Cond.methodLink R_IO 7 ⟨"java/lang/RuntimeException", "<init>", "(Ljava/lang/String;)V"⟩ ∈ tB := mB2 69 rfl rfl
theorem k_2_72 : Cond.methodLink R_X 97 y_So_becomeLike ∈ tB := mB2 72 rfl rfl
theorem k_2_73 : Cond.instanceMethod y_So_becomeLike ∈ tB := mB2 73 rfl rfl
theorem k_2_74 : Cond.selects R_So y_So_becomeLike y_So_becomeLike ∈ tB := mB2 74 rfl rfl
theorem k_2_75 : Cond.code y_So_becomeLike b_So_becomeLike 3 none ∈ tB := mB2 75 rfl rfl
theorem k_2_76 : Cond.methodLink R_La 79 y_La_drop ∈ tB := mB2 76 rfl rfl
theorem k_2_77 : Cond.static y_La_drop ∈ tB := mB2 77 rfl rfl
theorem k_2_78 : Cond.codeWith y_La_drop b_La_drop 3 (some .int) [(0, 8, 11, 15)] ∈ tB := mB2 78 rfl rfl
theorem k_2_79 : Cond.methodLink R_La 32 y_X_drop ∈ tB := mB2 79 rfl rfl
theorem k_2_80 : Cond.instanceMethod y_X_drop ∈ tB := mB2 80 rfl rfl
theorem k_2_81 : Cond.selects R_X y_X_drop y_X_drop ∈ tB := mB2 81 rfl rfl
theorem k_2_82 : Cond.code y_X_drop b_X_drop 1 (some .int) ∈ tB := mB2 82 rfl rfl
theorem k_2_83 : Cond.methodLink R_La 87 y_La_inside ∈ tB := mB2 83 rfl rfl
theorem k_2_84 : Cond.static y_La_inside ∈ tB := mB2 84 rfl rfl
theorem k_2_85 : Cond.codeWith y_La_inside b_La_inside 7 (some .int) [(0, 14, 17, 13), (0, 14, 21, 15)] ∈ tB := mB2 85 rfl rfl
theorem k_2_86 : Cond.methodLink R_La 36 y_X_inside ∈ tB := mB2 86 rfl rfl
theorem k_2_87 : Cond.instanceMethod y_X_inside ∈ tB := mB2 87 rfl rfl
theorem k_2_88 : Cond.selects R_X y_X_inside y_X_inside ∈ tB := mB2 88 rfl rfl
theorem k_2_89 : Cond.code y_X_inside b_X_inside 5 (some .int) ∈ tB := mB2 89 rfl rfl
theorem k_2_90 : Cond.methodLink R_X 101 y_X_requirePoint ∈ tB := mB2 90 rfl rfl
theorem k_2_91 : Cond.static y_X_requirePoint ∈ tB := mB2 91 rfl rfl
theorem k_2_92 : Cond.code y_X_requirePoint b_X_requirePoint 4 none ∈ tB := mB2 92 rfl rfl
theorem k_2_95 : Cond.methodLink R_X 105 y_Pt_place ∈ tB := mB2 95 rfl rfl
theorem k_2_96 : Cond.instanceMethod y_Pt_place ∈ tB := mB2 96 rfl rfl
theorem k_2_97 : Cond.selects R_Pt y_Pt_place y_Pt_place ∈ tB := mB2 97 rfl rfl
theorem k_2_98 : Cond.code y_Pt_place b_Pt_place 9 none ∈ tB := mB2 98 rfl rfl
theorem k_2_99 : Cond.methodLink R_X 108 y_Ps_isOnAny ∈ tB := mB2 99 rfl rfl
theorem k_2_100 : Cond.instanceMethod y_Ps_isOnAny ∈ tB := mB2 100 rfl rfl
theorem k_2_101 : Cond.selects R_Ps y_Ps_isOnAny y_Ps_isOnAny ∈ tB := mB2 101 rfl rfl
theorem k_2_102 : Cond.code y_Ps_isOnAny b_Ps_isOnAny 3 (some .boolean) ∈ tB := mB2 102 rfl rfl
theorem k_2_103 : Cond.methodLink R_Ps 42 y_Pl_excess ∈ tB := mB2 103 rfl rfl
theorem k_2_104 : Cond.instanceMethod y_Pl_excess ∈ tB := mB2 104 rfl rfl
theorem k_2_105 : Cond.selects R_Pl y_Pl_excess y_Pl_excess ∈ tB := mB2 105 rfl rfl
theorem k_2_106 : Cond.code y_Pl_excess b_Pl_excess 2 (some .long) ∈ tB := mB2 106 rfl rfl
theorem k_2_107 : Cond.methodLink R_X 112 y_Ps_cellOf ∈ tB := mB2 107 rfl rfl
theorem k_2_108 : Cond.instanceMethod y_Ps_cellOf ∈ tB := mB2 108 rfl rfl
theorem k_2_109 : Cond.selects R_Ps y_Ps_cellOf y_Ps_cellOf ∈ tB := mB2 109 rfl rfl
theorem k_2_110 : Cond.code y_Ps_cellOf b_Ps_cellOf 4 (some .int) ∈ tB := mB2 110 rfl rfl
theorem k_2_111 : Cond.methodLink R_X 116 y_X_topHas ∈ tB := mB2 111 rfl rfl
theorem k_2_113 : Cond.instanceMethod y_X_topHas ∈ tB := mB2 113 rfl rfl
theorem k_2_114 : Cond.code y_X_topHas b_X_topHas 2 (some .boolean) ∈ tB := mB2 114 rfl rfl
theorem k_2_115 : Cond.methodLink R_X 180 y_Ps_isCellInBox ∈ tB := mB2 115 rfl rfl
theorem k_2_116 : Cond.static y_Ps_isCellInBox ∈ tB := mB2 116 rfl rfl
theorem k_2_117 : Cond.code y_Ps_isCellInBox b_Ps_isCellInBox 1 (some .boolean) ∈ tB := mB2 117 rfl rfl
theorem k_2_118 : Cond.methodLink R_X 183 y_Ps_givenOfCell ∈ tB := mB2 118 rfl rfl
theorem k_2_119 : Cond.static y_Ps_givenOfCell ∈ tB := mB2 119 rfl rfl
theorem k_2_120 : Cond.code y_Ps_givenOfCell b_Ps_givenOfCell 1 (some .int) ∈ tB := mB2 120 rfl rfl
theorem k_2_121 : Cond.methodLink R_X 186 y_So_has ∈ tB := mB2 121 rfl rfl
theorem k_2_122 : Cond.instanceMethod y_So_has ∈ tB := mB2 122 rfl rfl
theorem k_2_123 : Cond.selects R_So y_So_has y_So_has ∈ tB := mB2 123 rfl rfl
theorem k_2_124 : Cond.code y_So_has b_So_has 2 (some .boolean) ∈ tB := mB2 124 rfl rfl
theorem k_2_125 : Cond.methodLink R_La 90 y_La_side ∈ tB := mB2 125 rfl rfl
theorem k_2_126 : Cond.static y_La_side ∈ tB := mB2 126 rfl rfl
theorem k_2_127 : Cond.codeWith y_La_side b_La_side 7 (some .int) [(0, 14, 17, 13), (0, 14, 21, 15), (0, 14, 25, 42)] ∈ tB := mB2 127 rfl rfl
theorem k_2_128 : Cond.classLink R_La 42 R_NS ∈ tB := mB2 128 rfl rfl
theorem k_2_129 : Cond.methodLink R_La 39 y_X_side ∈ tB := mB2 129 rfl rfl
theorem k_2_130 : Cond.instanceMethod y_X_side ∈ tB := mB2 130 rfl rfl
theorem k_2_131 : Cond.selects R_X y_X_side y_X_side ∈ tB := mB2 131 rfl rfl
theorem k_2_132 : Cond.code y_X_side b_X_side 6 (some .int) ∈ tB := mB2 132 rfl rfl
theorem k_2_133 : Cond.methodLink R_X 120 y_Ps_onlyOneAt ∈ tB := mB2 133 rfl rfl
theorem k_2_134 : Cond.instanceMethod y_Ps_onlyOneAt ∈ tB := mB2 134 rfl rfl
theorem k_2_135 : Cond.selects R_Ps y_Ps_onlyOneAt y_Ps_onlyOneAt ∈ tB := mB2 135 rfl rfl
theorem k_2_136 : Cond.code y_Ps_onlyOneAt b_Ps_onlyOneAt 4 (some .int) ∈ tB := mB2 136 rfl rfl
theorem k_2_137 : Cond.classLink R_X 123 R_NS ∈ tB := mB2 137 rfl rfl
theorem k_2_138 : Cond.instantiable R_NS 6 ∈ tB := mB2 138 rfl rfl
theorem k_2_139 : Cond.castable R_NS R_NS ∈ lw_tbl := List.mem_append_right _ (List.mem_append_right _ (List.mem_append_left _ (List.mem_of_getElem? (i := 139) rfl)))
theorem k_2_140 : Cond.selects R_NS ⟨"java/lang/Throwable", "fillInStackTrace", "(I)Ljava/lang/Throwable;"⟩ ⟨"java/lang/Throwable", "fillInStackTrace", "(I)Ljava/lang/Throwable;"⟩ ∈ tB := mB2 140 rfl rfl
theorem k_2_147 : Cond.methodLink R_X 127 ⟨R_NS, "<init>", "(Ljava/lang/String;)V"⟩ ∈ tB := mB2 147 rfl rfl
theorem k_2_148 : Cond.instanceMethod ⟨R_NS, "<init>", "(Ljava/lang/String;)V"⟩ ∈ tB := mB2 148 rfl rfl
theorem k_2_150 : Cond.methodLink R_NS 13 ⟨"java/lang/RuntimeException", "<init>", "(Ljava/lang/String;)V"⟩ ∈ tB := mB2 150 rfl rfl
theorem k_2_153 : Cond.methodLink R_X 128 y_X_lookAtSpot ∈ tB := mB2 153 rfl rfl
theorem k_2_155 : Cond.instanceMethod y_X_lookAtSpot ∈ tB := mB2 155 rfl rfl
theorem k_2_156 : Cond.code y_X_lookAtSpot b_X_lookAtSpot 4 (some .int) ∈ tB := mB2 156 rfl rfl
theorem k_2_157 : Cond.methodLink R_X 173 y_Ps_cellWhereLess ∈ tB := mB2 157 rfl rfl
theorem k_2_158 : Cond.instanceMethod y_Ps_cellWhereLess ∈ tB := mB2 158 rfl rfl
theorem k_2_159 : Cond.selects R_Ps y_Ps_cellWhereLess y_Ps_cellWhereLess ∈ tB := mB2 159 rfl rfl
theorem k_2_160 : Cond.code y_Ps_cellWhereLess b_Ps_cellWhereLess 3 (some .int) ∈ tB := mB2 160 rfl rfl
theorem k_2_161 : Cond.methodLink R_Ps 46 y_Ps_cellOf ∈ tB := mB2 161 rfl rfl
theorem k_2_162 : Cond.methodLink R_Ps 50 y_Ps_halfSpacesAlong ∈ tB := mB2 162 rfl rfl
theorem k_2_164 : Cond.instanceMethod y_Ps_halfSpacesAlong ∈ tB := mB2 164 rfl rfl
theorem k_2_165 : Cond.code y_Ps_halfSpacesAlong b_Ps_halfSpacesAlong 5 (some .int) ∈ tB := mB2 165 rfl rfl
theorem k_2_166 : Cond.methodLink R_Ps 54 y_Pl_looksLike ∈ tB := mB2 166 rfl rfl
theorem k_2_167 : Cond.instanceMethod y_Pl_looksLike ∈ tB := mB2 167 rfl rfl
theorem k_2_168 : Cond.selects R_Pl y_Pl_looksLike y_Pl_looksLike ∈ tB := mB2 168 rfl rfl
theorem k_2_169 : Cond.code y_Pl_looksLike b_Pl_looksLike 2 (some .boolean) ∈ tB := mB2 169 rfl rfl
theorem k_2_170 : Cond.methodLink R_X 177 y_Ps_cellWhereMore ∈ tB := mB2 170 rfl rfl
theorem k_2_171 : Cond.instanceMethod y_Ps_cellWhereMore ∈ tB := mB2 171 rfl rfl
theorem k_2_172 : Cond.selects R_Ps y_Ps_cellWhereMore y_Ps_cellWhereMore ∈ tB := mB2 172 rfl rfl
theorem k_2_173 : Cond.code y_Ps_cellWhereMore b_Ps_cellWhereMore 3 (some .int) ∈ tB := mB2 173 rfl rfl
theorem k_2_174 : Cond.methodLink R_La 93 y_La_enters ∈ tB := mB2 174 rfl rfl
theorem k_2_175 : Cond.static y_La_enters ∈ tB := mB2 175 rfl rfl
theorem k_2_176 : Cond.codeWith y_La_enters b_La_enters 6 (some .int) [(0, 12, 15, 13), (0, 12, 19, 15), (0, 12, 23, 42)] ∈ tB := mB2 176 rfl rfl
theorem k_2_177 : Cond.methodLink R_La 44 y_X_enters ∈ tB := mB2 177 rfl rfl
theorem k_2_178 : Cond.instanceMethod y_X_enters ∈ tB := mB2 178 rfl rfl
theorem k_2_179 : Cond.selects R_X y_X_enters y_X_enters ∈ tB := mB2 179 rfl rfl
theorem k_2_180 : Cond.code y_X_enters b_X_enters 6 (some .int) ∈ tB := mB2 180 rfl rfl
theorem k_2_183 : Cond.methodLink R_X 136 y_Ps_count ∈ tB := mB2 183 rfl rfl
theorem k_2_184 : Cond.instanceMethod y_Ps_count ∈ tB := mB2 184 rfl rfl
theorem k_2_185 : Cond.selects R_Ps y_Ps_count y_Ps_count ∈ tB := mB2 185 rfl rfl
theorem k_2_186 : Cond.code y_Ps_count b_Ps_count 1 (some .int) ∈ tB := mB2 186 rfl rfl
theorem k_2_187 : Cond.methodLink R_X 139 y_Ps_isFirst ∈ tB := mB2 187 rfl rfl
theorem k_2_188 : Cond.instanceMethod y_Ps_isFirst ∈ tB := mB2 188 rfl rfl
theorem k_2_189 : Cond.selects R_Ps y_Ps_isFirst y_Ps_isFirst ∈ tB := mB2 189 rfl rfl
theorem k_2_190 : Cond.code y_Ps_isFirst b_Ps_isFirst 2 (some .boolean) ∈ tB := mB2 190 rfl rfl
theorem k_2_191 : Cond.methodLink R_X 142 y_X_isEntry ∈ tB := mB2 191 rfl rfl
theorem k_2_193 : Cond.instanceMethod y_X_isEntry ∈ tB := mB2 193 rfl rfl
theorem k_2_194 : Cond.code y_X_isEntry b_X_isEntry 10 (some .boolean) ∈ tB := mB2 194 rfl rfl
theorem k_2_195 : Cond.methodLink R_X 146 y_Ps_get ∈ tB := mB2 195 rfl rfl
theorem k_2_196 : Cond.instanceMethod y_Ps_get ∈ tB := mB2 196 rfl rfl
theorem k_2_197 : Cond.selects R_Ps y_Ps_get y_Ps_get ∈ tB := mB2 197 rfl rfl
theorem k_2_198 : Cond.code y_Ps_get b_Ps_get 2 (some (.object "CarvedSolids$Plane")) ∈ tB := mB2 198 rfl rfl
theorem k_2_199 : Cond.methodLink R_X 150 y_Pl_factor ∈ tB := mB2 199 rfl rfl
theorem k_2_200 : Cond.instanceMethod y_Pl_factor ∈ tB := mB2 200 rfl rfl
theorem k_2_201 : Cond.selects R_Pl y_Pl_factor y_Pl_factor ∈ tB := mB2 201 rfl rfl
theorem k_2_202 : Cond.code y_Pl_factor b_Pl_factor 2 (some .long) ∈ tB := mB2 202 rfl rfl
theorem k_2_203 : Cond.methodLink R_X 154 y_Pt_placeOnAxis ∈ tB := mB2 203 rfl rfl
theorem k_2_204 : Cond.instanceMethod y_Pt_placeOnAxis ∈ tB := mB2 204 rfl rfl
theorem k_2_205 : Cond.selects R_Pt y_Pt_placeOnAxis y_Pt_placeOnAxis ∈ tB := mB2 205 rfl rfl
theorem k_2_206 : Cond.code y_Pt_placeOnAxis b_Pt_placeOnAxis 14 none ∈ tB := mB2 206 rfl rfl
theorem k_2_207 : Cond.methodLink R_Pt 22 y_Pt_place ∈ tB := mB2 207 rfl rfl
theorem k_2_208 : Cond.methodLink R_X 158 y_Pl_excess ∈ tB := mB2 208 rfl rfl
theorem k_2_209 : Cond.methodLink R_X 162 ⟨"java/lang/Math", "abs", "(J)J"⟩ ∈ tB := mB2 209 rfl rfl
theorem k_2_210 : Cond.static ⟨"java/lang/Math", "abs", "(J)J"⟩ ∈ tB := mB2 210 rfl rfl
theorem k_2_212 : Cond.methodLink R_X 168 y_Ps_isInBox ∈ tB := mB2 212 rfl rfl
theorem k_2_213 : Cond.instanceMethod y_Ps_isInBox ∈ tB := mB2 213 rfl rfl
theorem k_2_214 : Cond.selects R_Ps y_Ps_isInBox y_Ps_isInBox ∈ tB := mB2 214 rfl rfl
theorem k_2_215 : Cond.code y_Ps_isInBox b_Ps_isInBox 3 (some .boolean) ∈ tB := mB2 215 rfl rfl
theorem k_2_217 : Cond.classLink R_La 49 R_Mo ∈ tB := mB2 217 rfl rfl
theorem k_2_218 : Cond.instantiable R_Mo 9 ∈ tB := mB2 218 rfl rfl
theorem k_2_219 : Cond.methodLink R_La 51 y_Mo_init ∈ tB := mB2 219 rfl rfl
theorem k_2_220 : Cond.instanceMethod y_Mo_init ∈ tB := mB2 220 rfl rfl
theorem k_2_221 : Cond.code y_Mo_init b_Mo_init 1 none ∈ tB := mB2 221 rfl rfl
theorem k_2_222 : Cond.methodLink R_Mo 1 objectInit ∈ tB := mB2 222 rfl rfl
theorem k_2_223 : Cond.fieldLink R_Mo 29 R_Mo "thrown" "I" ∈ tB := mB2 223 rfl rfl
theorem k_2_224 : Cond.fieldLink R_Mo 39 R_Mo "given" "I" ∈ tB := mB2 224 rfl rfl
theorem k_2_225 : Cond.fieldLink R_Mo 7 R_Mo "normals" "[I" ∈ tB := mB2 225 rfl rfl
theorem k_2_226 : Cond.fieldLink R_Mo 13 R_Mo "far" "[I" ∈ tB := mB2 226 rfl rfl
theorem k_2_227 : Cond.fieldLink R_Mo 42 R_Mo "many" "I" ∈ tB := mB2 227 rfl rfl
theorem k_2_228 : Cond.fieldLink R_Mo 16 R_Mo "has" "[J" ∈ tB := mB2 228 rfl rfl
theorem k_2_229 : Cond.fieldLink R_Mo 20 R_Mo "values" "[J" ∈ tB := mB2 229 rfl rfl
theorem k_2_230 : Cond.fieldLink R_Mo 23 R_Mo "tops" "[J" ∈ tB := mB2 230 rfl rfl
theorem k_2_231 : Cond.fieldLink R_Mo 26 R_Mo "downs" "[J" ∈ tB := mB2 231 rfl rfl
theorem k_3_11 : Cond.methodLink R_La 58 y_Mo_thrown ∈ tB := mB3 11 rfl rfl
theorem k_3_12 : Cond.instanceMethod y_Mo_thrown ∈ tB := mB3 12 rfl rfl
theorem k_3_13 : Cond.selects R_Mo y_Mo_thrown y_Mo_thrown ∈ tB := mB3 13 rfl rfl
theorem k_3_14 : Cond.code y_Mo_thrown b_Mo_thrown 1 (some .int) ∈ tB := mB3 14 rfl rfl
theorem k_3_15 : Cond.methodLink R_La 57 y_Mo_plane ∈ tB := mB3 15 rfl rfl
theorem k_3_16 : Cond.instanceMethod y_Mo_plane ∈ tB := mB3 16 rfl rfl
theorem k_3_17 : Cond.selects R_Mo y_Mo_plane y_Mo_plane ∈ tB := mB3 17 rfl rfl
theorem k_3_18 : Cond.code y_Mo_plane b_Mo_plane 6 (some .int) ∈ tB := mB3 18 rfl rfl
theorem k_3_19 : Cond.constant R_Mo 33 1000000 ∈ tB := mB3 19 rfl rfl
theorem k_3_20 : Cond.methodLink R_Mo 34 y_Mo_within ∈ tB := mB3 20 rfl rfl
theorem k_3_21 : Cond.static y_Mo_within ∈ tB := mB3 21 rfl rfl
theorem k_3_22 : Cond.code y_Mo_within b_Mo_within 2 (some .boolean) ∈ tB := mB3 22 rfl rfl
theorem k_3_23 : Cond.constant R_Mo 38 1000000000 ∈ tB := mB3 23 rfl rfl
theorem k_3_24 : Cond.methodLink R_La 64 y_Mo_planes ∈ tB := mB3 24 rfl rfl
theorem k_3_25 : Cond.instanceMethod y_Mo_planes ∈ tB := mB3 25 rfl rfl
theorem k_3_26 : Cond.selects R_Mo y_Mo_planes y_Mo_planes ∈ tB := mB3 26 rfl rfl
theorem k_3_27 : Cond.code y_Mo_planes b_Mo_planes 1 (some .int) ∈ tB := mB3 27 rfl rfl
theorem k_3_28 : Cond.methodLink R_La 68 y_Mo_convex ∈ tB := mB3 28 rfl rfl
theorem k_3_29 : Cond.instanceMethod y_Mo_convex ∈ tB := mB3 29 rfl rfl
theorem k_3_30 : Cond.selects R_Mo y_Mo_convex y_Mo_convex ∈ tB := mB3 30 rfl rfl
theorem k_3_31 : Cond.code y_Mo_convex b_Mo_convex 3 (some .int) ∈ tB := mB3 31 rfl rfl
theorem k_3_32 : Cond.methodLink R_La 71 y_Mo_join ∈ tB := mB3 32 rfl rfl
theorem k_3_33 : Cond.instanceMethod y_Mo_join ∈ tB := mB3 33 rfl rfl
theorem k_3_34 : Cond.selects R_Mo y_Mo_join y_Mo_join ∈ tB := mB3 34 rfl rfl
theorem k_3_35 : Cond.code y_Mo_join b_Mo_join 7 (some .int) ∈ tB := mB3 35 rfl rfl
theorem k_3_36 : Cond.constantLong R_Mo 45 (-1) ∈ tB := mB3 36 rfl rfl
theorem k_3_37 : Cond.methodLink R_La 75 y_Mo_turn ∈ tB := mB3 37 rfl rfl
theorem k_3_38 : Cond.instanceMethod y_Mo_turn ∈ tB := mB3 38 rfl rfl
theorem k_3_39 : Cond.selects R_Mo y_Mo_turn y_Mo_turn ∈ tB := mB3 39 rfl rfl
theorem k_3_40 : Cond.code y_Mo_turn b_Mo_turn 2 none ∈ tB := mB3 40 rfl rfl
theorem k_3_41 : Cond.methodLink R_La 78 y_Mo_copy ∈ tB := mB3 41 rfl rfl
theorem k_3_42 : Cond.instanceMethod y_Mo_copy ∈ tB := mB3 42 rfl rfl
theorem k_3_43 : Cond.selects R_Mo y_Mo_copy y_Mo_copy ∈ tB := mB3 43 rfl rfl
theorem k_3_44 : Cond.code y_Mo_copy b_Mo_copy 3 (some .int) ∈ tB := mB3 44 rfl rfl
theorem k_3_45 : Cond.methodLink R_La 82 y_Mo_drop ∈ tB := mB3 45 rfl rfl
theorem k_3_46 : Cond.instanceMethod y_Mo_drop ∈ tB := mB3 46 rfl rfl
theorem k_3_47 : Cond.selects R_Mo y_Mo_drop y_Mo_drop ∈ tB := mB3 47 rfl rfl
theorem k_3_48 : Cond.code y_Mo_drop b_Mo_drop 1 (some .int) ∈ tB := mB3 48 rfl rfl
theorem k_3_49 : Cond.methodLink R_La 86 y_Mo_solids ∈ tB := mB3 49 rfl rfl
theorem k_3_50 : Cond.instanceMethod y_Mo_solids ∈ tB := mB3 50 rfl rfl
theorem k_3_51 : Cond.selects R_Mo y_Mo_solids y_Mo_solids ∈ tB := mB3 51 rfl rfl
theorem k_3_52 : Cond.code y_Mo_solids b_Mo_solids 1 (some .int) ∈ tB := mB3 52 rfl rfl
theorem k_3_53 : Cond.methodLink R_La 89 y_Mo_inside ∈ tB := mB3 53 rfl rfl
theorem k_3_54 : Cond.instanceMethod y_Mo_inside ∈ tB := mB3 54 rfl rfl
theorem k_3_55 : Cond.selects R_Mo y_Mo_inside y_Mo_inside ∈ tB := mB3 55 rfl rfl
theorem k_3_56 : Cond.code y_Mo_inside b_Mo_inside 6 (some .int) ∈ tB := mB3 56 rfl rfl
theorem k_3_57 : Cond.methodLink R_Mo 47 y_Mo_isPoint ∈ tB := mB3 57 rfl rfl
theorem k_3_58 : Cond.static y_Mo_isPoint ∈ tB := mB3 58 rfl rfl
theorem k_3_59 : Cond.code y_Mo_isPoint b_Mo_isPoint 4 (some .boolean) ∈ tB := mB3 59 rfl rfl
theorem k_3_60 : Cond.methodLink R_Mo 51 y_Mo_look ∈ tB := mB3 60 rfl rfl
theorem k_3_62 : Cond.instanceMethod y_Mo_look ∈ tB := mB3 62 rfl rfl
theorem k_3_63 : Cond.code y_Mo_look b_Mo_look 6 none ∈ tB := mB3 63 rfl rfl
theorem k_3_64 : Cond.methodLink R_Mo 55 y_Mo_isOnGiven ∈ tB := mB3 64 rfl rfl
theorem k_3_66 : Cond.instanceMethod y_Mo_isOnGiven ∈ tB := mB3 66 rfl rfl
theorem k_3_67 : Cond.code y_Mo_isOnGiven b_Mo_isOnGiven 3 (some .boolean) ∈ tB := mB3 67 rfl rfl
theorem k_3_68 : Cond.methodLink R_Mo 59 y_Mo_lies ∈ tB := mB3 68 rfl rfl
theorem k_3_69 : Cond.static y_Mo_lies ∈ tB := mB3 69 rfl rfl
theorem k_3_70 : Cond.code y_Mo_lies b_Mo_lies 3 (some .int) ∈ tB := mB3 70 rfl rfl
theorem k_3_71 : Cond.methodLink R_Mo 63 y_Mo_choice ∈ tB := mB3 71 rfl rfl
theorem k_3_73 : Cond.instanceMethod y_Mo_choice ∈ tB := mB3 73 rfl rfl
theorem k_3_74 : Cond.code y_Mo_choice b_Mo_choice 3 (some .int) ∈ tB := mB3 74 rfl rfl
theorem k_3_75 : Cond.methodLink R_Mo 67 y_Mo_topHas ∈ tB := mB3 75 rfl rfl
theorem k_3_77 : Cond.instanceMethod y_Mo_topHas ∈ tB := mB3 77 rfl rfl
theorem k_3_78 : Cond.code y_Mo_topHas b_Mo_topHas 2 (some .boolean) ∈ tB := mB3 78 rfl rfl
theorem k_3_79 : Cond.methodLink R_La 92 y_Mo_side ∈ tB := mB3 79 rfl rfl
theorem k_3_80 : Cond.instanceMethod y_Mo_side ∈ tB := mB3 80 rfl rfl
theorem k_3_81 : Cond.selects R_Mo y_Mo_side y_Mo_side ∈ tB := mB3 81 rfl rfl
theorem k_3_82 : Cond.code y_Mo_side b_Mo_side 9 (some .int) ∈ tB := mB3 82 rfl rfl
theorem k_3_83 : Cond.methodLink R_Mo 77 y_Mo_sideOf ∈ tB := mB3 83 rfl rfl
theorem k_3_85 : Cond.instanceMethod y_Mo_sideOf ∈ tB := mB3 85 rfl rfl
theorem k_3_86 : Cond.code y_Mo_sideOf b_Mo_sideOf 9 (some .int) ∈ tB := mB3 86 rfl rfl
theorem k_3_87 : Cond.methodLink R_Mo 74 y_Mo_alike ∈ tB := mB3 87 rfl rfl
theorem k_3_89 : Cond.instanceMethod y_Mo_alike ∈ tB := mB3 89 rfl rfl
theorem k_3_90 : Cond.code y_Mo_alike b_Mo_alike 9 (some .int) ∈ tB := mB3 90 rfl rfl
theorem k_3_91 : Cond.methodLink R_Mo 71 y_Mo_normal ∈ tB := mB3 91 rfl rfl
theorem k_3_93 : Cond.instanceMethod y_Mo_normal ∈ tB := mB3 93 rfl rfl
theorem k_3_94 : Cond.code y_Mo_normal b_Mo_normal 3 (some .int) ∈ tB := mB3 94 rfl rfl
theorem k_3_95 : Cond.methodLink R_Mo 81 y_Mo_choiceAt ∈ tB := mB3 95 rfl rfl
theorem k_3_97 : Cond.instanceMethod y_Mo_choiceAt ∈ tB := mB3 97 rfl rfl
theorem k_3_98 : Cond.code y_Mo_choiceAt b_Mo_choiceAt 6 (some .int) ∈ tB := mB3 98 rfl rfl
theorem k_3_99 : Cond.methodLink R_La 96 y_Mo_enters ∈ tB := mB3 99 rfl rfl
theorem k_3_100 : Cond.instanceMethod y_Mo_enters ∈ tB := mB3 100 rfl rfl
theorem k_3_101 : Cond.selects R_Mo y_Mo_enters y_Mo_enters ∈ tB := mB3 101 rfl rfl
theorem k_3_102 : Cond.code y_Mo_enters b_Mo_enters 16 (some .int) ∈ tB := mB3 102 rfl rfl
theorem k_3_103 : Cond.methodLink R_Mo 96 y_Mo_meet ∈ tB := mB3 103 rfl rfl
theorem k_3_105 : Cond.instanceMethod y_Mo_meet ∈ tB := mB3 105 rfl rfl
theorem k_3_106 : Cond.code y_Mo_meet b_Mo_meet 11 (some .boolean) ∈ tB := mB3 106 rfl rfl
theorem k_3_107 : Cond.methodLink R_Mo 100 y_Mo_isCrossed ∈ tB := mB3 107 rfl rfl
theorem k_3_109 : Cond.instanceMethod y_Mo_isCrossed ∈ tB := mB3 109 rfl rfl
theorem k_3_110 : Cond.code y_Mo_isCrossed b_Mo_isCrossed 6 (some .boolean) ∈ tB := mB3 110 rfl rfl
theorem k_3_111 : Cond.methodLink R_Mo 93 y_Mo_isInBox ∈ tB := mB3 111 rfl rfl
theorem k_3_113 : Cond.instanceMethod y_Mo_isInBox ∈ tB := mB3 113 rfl rfl
theorem k_3_114 : Cond.code y_Mo_isInBox b_Mo_isInBox 2 (some .boolean) ∈ tB := mB3 114 rfl rfl
theorem k_3_115 : Cond.constantLong R_Mo 85 (-1000) ∈ tB := mB3 115 rfl rfl
theorem k_3_116 : Cond.methodLink R_Mo 87 y_Mo_compare ∈ tB := mB3 116 rfl rfl
theorem k_3_117 : Cond.static y_Mo_compare ∈ tB := mB3 117 rfl rfl
theorem k_3_118 : Cond.code y_Mo_compare b_Mo_compare 12 (some .int) ∈ tB := mB3 118 rfl rfl
theorem k_3_119 : Cond.constantLong R_Mo 91 1000 ∈ tB := mB3 119 rfl rfl
theorem k_3_120 : Cond.methodLink R_Mo 103 y_Mo_choiceBehind ∈ tB := mB3 120 rfl rfl
theorem k_3_122 : Cond.instanceMethod y_Mo_choiceBehind ∈ tB := mB3 122 rfl rfl
theorem k_3_123 : Cond.code y_Mo_choiceBehind b_Mo_choiceBehind 10 (some .int) ∈ tB := mB3 123 rfl rfl
theorem k_s_Ps_firstOneWith : Cond.selects R_Ps y_Ps_firstOneWith y_Ps_firstOneWith ∈ tB := mBs 0 (n := 3) rfl
theorem k_s_X_requireRoom : Cond.selects R_X y_X_requireRoom y_X_requireRoom ∈ tB := mBs 2 (n := 4) rfl
theorem k_s_X_requireSolid : Cond.selects R_X y_X_requireSolid y_X_requireSolid ∈ tB := mBs 3 (n := 4) rfl
theorem k_s_X_topHas : Cond.selects R_X y_X_topHas y_X_topHas ∈ tB := mBs 4 (n := 4) rfl
theorem k_s_X_lookAtSpot : Cond.selects R_X y_X_lookAtSpot y_X_lookAtSpot ∈ tB := mBs 5 (n := 4) rfl
theorem k_s_Ps_halfSpacesAlong : Cond.selects R_Ps y_Ps_halfSpacesAlong y_Ps_halfSpacesAlong ∈ tB := mBs 6 (n := 3) rfl
theorem k_s_X_isEntry : Cond.selects R_X y_X_isEntry y_X_isEntry ∈ tB := mBs 7 (n := 4) rfl
theorem k_s_Mo_look : Cond.selects R_Mo y_Mo_look y_Mo_look ∈ tB := mBs 8 (n := 9) rfl
theorem k_s_Mo_isOnGiven : Cond.selects R_Mo y_Mo_isOnGiven y_Mo_isOnGiven ∈ tB := mBs 9 (n := 9) rfl
theorem k_s_Mo_choice : Cond.selects R_Mo y_Mo_choice y_Mo_choice ∈ tB := mBs 10 (n := 9) rfl
theorem k_s_Mo_topHas : Cond.selects R_Mo y_Mo_topHas y_Mo_topHas ∈ tB := mBs 11 (n := 9) rfl
theorem k_s_Mo_sideOf : Cond.selects R_Mo y_Mo_sideOf y_Mo_sideOf ∈ tB := mBs 12 (n := 9) rfl
theorem k_s_Mo_alike : Cond.selects R_Mo y_Mo_alike y_Mo_alike ∈ tB := mBs 13 (n := 9) rfl
theorem k_s_Mo_normal : Cond.selects R_Mo y_Mo_normal y_Mo_normal ∈ tB := mBs 14 (n := 9) rfl
theorem k_s_Mo_choiceAt : Cond.selects R_Mo y_Mo_choiceAt y_Mo_choiceAt ∈ tB := mBs 15 (n := 9) rfl
theorem k_s_Mo_meet : Cond.selects R_Mo y_Mo_meet y_Mo_meet ∈ tB := mBs 16 (n := 9) rfl
theorem k_s_Mo_isCrossed : Cond.selects R_Mo y_Mo_isCrossed y_Mo_isCrossed ∈ tB := mBs 17 (n := 9) rfl
theorem k_s_Mo_isInBox : Cond.selects R_Mo y_Mo_isInBox y_Mo_isInBox ∈ tB := mBs 18 (n := 9) rfl
theorem k_s_Mo_choiceBehind : Cond.selects R_Mo y_Mo_choiceBehind y_Mo_choiceBehind ∈ tB := mBs 19 (n := 9) rfl
theorem in_X : ∀ w ∈ u_ws R_X T_X 4, w ∈ tB := by decide +kernel
theorem in_Pl : ∀ w ∈ u_ws R_Pl T_Pl 4, w ∈ tB := by decide +kernel
theorem in_Ps : ∀ w ∈ u_ws R_Ps T_Ps 3, w ∈ tB := by decide +kernel
theorem in_Pt : ∀ w ∈ u_ws R_Pt T_Pt 4, w ∈ tB := by decide +kernel
theorem in_So : ∀ w ∈ u_ws R_So T_So 1, w ∈ tB := by decide +kernel
theorem in_Mo : ∀ w ∈ u_ws R_Mo T_Mo 9, w ∈ tB := by decide +kernel
end
section
/-! The layer: contracts of methods that may throw (gx_Met), a call's two ways on, catching and leaving; worlds as a function from addresses to cells (gx_H), so that a callee's world is its caller's. -/
/-- the end of an invocation, returned or thrown: warmer tables, the places L written, at most k new cells of n slots -/
def gx_End (st t : State) (L : List Loc) (k n : Nat) : Prop := st.WarmedH t.vm ∧ st.sameButNew ({ t with vm := st.vm } : State) L k n
/-- a contract whose outcome is either way -/
def gx_Met (l : Launch) (y : MethodName) (ws : List Cond) (rm : Room) (Pc : Array Value → State → Prop) (Qc : Array Value → State → Outcome → State → Prop) (mc ms : Nat) (free : Addr → Prop) : Prop :=
  MetFree l y (headSpec ws rm) Pc (fun _ _ _ _ _ => True) (fun a st o t => Qc a st o t ∧ ∃ L, gx_End st t L mc ms ∧ ∀ q ∈ L, free q.base)
def gx_MQ (below : List Frame) (Qc : Array Value → State → Outcome → State → Prop) (a : Array Value) (s : State) (mc ms : Nat) (free : Addr → Prop) : State → Prop := fun t =>
  ∃ o, t.status = .running ∧ Ended t below o ∧ Qc a s o t ∧ ∃ L, gx_End s t L mc ms ∧ ∀ q ∈ L, free q.base
section GX
variable {p : Program} {l : Launch} {e : Env} {R : Room} {s : State} {m : MethodId} {args : Array Value} {below : List Frame} {meth : Method} {c : Code} {H : Heap} {locs : List Loc} {cells slots : Nat} {Q : State → Prop}
theorem gx_mono {Q' : State → Prop} {g : JFrame} (h : ∀ t, Q' t → Q t) (k : W p l e R s m args below meth c H locs cells slots Q' g) : W p l e R s m args below meth c H locs cells slots Q g := by
  intro T hT X
  obtain ⟨t, a, b⟩ := k T hT X
  exact ⟨t, a, h t b⟩
theorem gx_MQ_of {Qc : Array Value → State → Outcome → State → Prop} {mc ms : Nat} {free : Addr → Prop} (t : State) (h : MQ below Qc args s mc ms free t) : gx_MQ below Qc args s mc ms free t := by
  obtain ⟨o, h1, h2, h3, L, hF, hL⟩ := h
  exact ⟨o, h1, h2, h3, L, ⟨hF.2.1, hF.2.2⟩, hL⟩
/-- a method without handlers -/
theorem gx_ofW {y : MethodName} {ws ws' : List Cond} {rm : Room} {Pc : Array Value → State → Prop} {Qc : Array Value → State → Outcome → State → Prop} {mc ms : Nat} {free : Addr → Prop} {cc : ByteArray} {maxL : Nat} {ret : Option FieldType}
    (hy : plainName y.cls = true) (hw : ws = Cond.code y cc maxL ret :: ws')
    (body : ∀ p e s m args below meth c s₁, BodyLoose p l y (headSpec ws rm) cc maxL ret e s m args below meth c s₁ → c.maxLocals = maxL → (∀ x ∈ c.exceptionTable.toList, ∀ pc, covers x pc = false) → Pc args s →
      W p l e rm s m args below meth c s.heap [] 0 0 (gx_MQ below Qc args s mc ms free) (entryFrame m args maxL)) : gx_Met l y ws rm Pc Qc mc ms free := by
  refine MetFree.of_bodyS (code := cc) (maxLocals := maxL) (ret := ret) hy ?_ ?_
  · intro args s m h hn
    obtain ⟨meth, c, h1, h2, h3, h4, h5, h6, -, -⟩ := Cond.code_spec hn (atoms_spec (ws := ws) h _ (by rw [hw]; exact List.mem_cons_self))
    exact ⟨meth, c, h1, h2, h3, h4, h5, h6⟩
  · intro p e s m args below meth c s₁ B hml hP _
    have hh0 : s₁.heap = s.heap := by rw [B.state]; rfl
    have hno : c.exceptionTable.isEmpty = true := B.noHandlers (atoms_spec (ws := ws) B.pre _ (by rw [hw]; exact List.mem_cons_self))
    have hno2 : ∀ x ∈ c.exceptionTable.toList, ∀ pc, covers x pc = false := by
      intro x hx
      have h0 : c.exceptionTable = #[] := by simpa using hno
      rw [h0] at hx
      exact absurd hx (by simp)
    obtain ⟨t, a1, o, b1, b2, b3⟩ := body p e s m args below meth c s₁ B hml hno2 hP s₁ hh0 (Stand.of_body B)
    exact ⟨t, o, a1, b1, b2, ⟨b3.1, b3.2⟩⟩
/-- a method with handlers -/
theorem gx_ofWh {y : MethodName} {ws ws' : List Cond} {rm : Room} {Pc : Array Value → State → Prop} {Qc : Array Value → State → Outcome → State → Prop} {mc ms : Nat} {free : Addr → Prop} {cc : ByteArray} {maxL : Nat} {ret : Option FieldType} {hs : List (Nat × Nat × Nat × Nat)}
    (hy : plainName y.cls = true) (hw : ws = Cond.codeWith y cc maxL ret hs :: ws')
    (body : ∀ p e s m args below meth c s₁, BodyLoose p l y (headSpec ws rm) cc maxL ret e s m args below meth c s₁ → c.maxLocals = maxL → c.exceptionTable.toList = tableOf hs → Pc args s →
      W p l e rm s m args below meth c s.heap [] 0 0 (gx_MQ below Qc args s mc ms free) (entryFrame m args maxL)) : gx_Met l y ws rm Pc Qc mc ms free := by
  refine MetFree.of_bodyS (code := cc) (maxLocals := maxL) (ret := ret) hy ?_ ?_
  · intro args s m h hn
    obtain ⟨m', meth, c, h0, h1, h2, h3, h4, -, h5, h6, -⟩ := Cond.codeWith_spec (atoms_spec (ws := ws) h _ (by rw [hw]; exact List.mem_cons_self))
    cases hn.symm.trans h0
    exact ⟨meth, c, h1, h2, h3, h4, h5, h6⟩
  · intro p e s m args below meth c s₁ B hml hP _
    have hh0 : s₁.heap = s.heap := by rw [B.state]; rfl
    obtain ⟨m', meth', c', h0, h1, h2, -, -, ht, -⟩ := Cond.codeWith_spec (atoms_spec (ws := ws) B.pre _ (by rw [hw]; exact List.mem_cons_self))
    cases B.named.symm.trans h0
    cases B.method.symm.trans h1
    cases (Stand.of_body B).code.symm.trans h2
    obtain ⟨t, a1, o, b1, b2, b3⟩ := body p e s m args below meth c s₁ B hml (by rw [← ht, table_eq]) hP s₁ hh0 (Stand.of_body B)
    exact ⟨t, o, a1, b1, b2, ⟨b3.1, b3.2⟩⟩
/-- the machine, the frame g on top and the object a being thrown over it -/
def gx_WT (p : Program) (l : Launch) (e : Env) (R : Room) (s : State) (m : MethodId) (args : Array Value) (below : List Frame) (meth : Method) (c : Code) (H : Heap) (locs : List Loc) (cells slots : Nat) (Q : State → Prop) (g : JFrame) (a : Addr) : Prop :=
  ∀ T : State, T.heap = H → Stand p l e R s m args below meth c T locs cells slots → ∃ t, Steps p.tables e below ((T.setTop g).pushFrame (.throwing a)) t ∧ Q t
/-- thrown out of the method -/
theorem gx_leave {Qc : Array Value → State → Outcome → State → Prop} {free : Addr → Prop} {a : Addr} {pc : Nat} {ls : Array Slot} {st : List Value} (hout : ∀ x ∈ c.exceptionTable.toList, covers x pc = false) (hlocks : meth.locks = false)
    (hq : ∀ t : State, t.heap = H → s.WarmedH t.vm → Qc args s (.threw a) t) (hf : ∀ q ∈ locs, free q.base) :
    gx_WT p l e R s m args below meth c H locs cells slots (gx_MQ below Qc args s cells slots free) (F0 m pc ls st) a := by
  intro T hT X
  obtain ⟨h1, h2, h3, h4, h5⟩ := X.leaveThrown a (g := F0 m pc ls st) rfl rfl rfl hout hlocks
  exact ⟨_, h1, .threw a, h2, h3, hq _ hT h4, locs, ⟨h4, h5⟩, hf⟩
/-- athrow, no handler there -/
theorem gx_athrow {cc : ByteArray} {Qc : Array Value → State → Outcome → State → Prop} {free : Addr → Prop} {a : Addr} {pc : Nat} {ls : Array Slot} {st : List Value} (hexec : p.tables.exec = Jvm.exec) (hb : c.code = cc) (hout : ∀ x ∈ c.exceptionTable.toList, covers x pc = false) (hlocks : meth.locks = false)
    (hdg : decode cc pc = .ok (.athrow, 1)) (hq : ∀ t : State, t.heap = H → s.WarmedH t.vm → Qc args s (.threw a) t) (hf : ∀ q ∈ locs, free q.base) :
    W p l e R s m args below meth c H locs cells slots (gx_MQ below Qc args s cells slots free) (F0 m pc ls (.ref a :: st)) := by
  intro T hT X
  subst hb
  obtain ⟨h1, h2, h3, h4, h5⟩ := X.athrowLeaves hexec (g := F0 m pc ls (.ref a :: st)) rfl rfl rfl hout rfl hdg hlocks
  exact ⟨_, h1, .threw a, h2, h3, hq _ hT h4, locs, ⟨h4, h5⟩, hf⟩
/-- caught in the method -/
theorem gx_catch {a : Addr} {pc pc' : Nat} {ls : Array Slot} {st : List Value} (hfind : ∀ T : State, T.heap = H → s.WarmedH T.vm → T.vm.method? m = some meth → meth.code = some c → Finds e ((T.setTop (F0 m pc ls st)).pushFrame (.throwing a)) (F0 m pc ls st) a (.found pc'))
    (k : W p l e R s m args below meth c H locs cells slots Q (F0 m pc' ls [.ref a])) : gx_WT p l e R s m args below meth c H locs cells slots Q (F0 m pc ls st) a := by
  intro T hT X
  obtain ⟨t, a1, b1⟩ := k T hT X
  exact ⟨t, X.catchAt a (g := F0 m pc ls st) rfl (hfind T hT X.warmed X.method' X.code) a1, b1⟩
/-- what a call comes to -/
def gx_Run (p : Program) (l : Launch) (e : Env) (R : Room) (s : State) (m : MethodId) (args : Array Value) (below : List Frame) (meth : Method) (c : Code) (H : Heap) (locs : List Loc) (cells slots mc ms : Nat) (g : JFrame) (rest : List Value) (Qa : State → Outcome → State → Prop) (free : Addr → Prop) : Prop :=
  ∀ T : State, T.heap = H → Stand p l e R s m args below meth c T locs cells slots → ∃ (o : Outcome) (st₀ t T' : State) (L : List Loc), st₀.heap = H ∧ s.WarmedH st₀.vm ∧ Stand p l e R s m args below meth c T' (locs ++ L) (cells + mc) (slots + ms) ∧ (∀ q ∈ L, free q.base) ∧ T'.heap = t.heap ∧ T'.vm = t.vm ∧ Qa st₀ o t ∧
    match o with
    | .returned v => ∀ tg, Steps p.tables e below (T'.setTop { g with pc := g.pc + 3, stack := v.toList ++ rest }) tg → Steps p.tables e below (T.setTop g) tg
    | .threw x => ∀ tg, Steps p.tables e below ((T'.setTop { g with stack := rest }).pushFrame (.throwing x)) tg → Steps p.tables e below (T.setTop g) tg
end GX
section GY
variable {p : Program} {l : Launch} {e : Env} {R : Room} {s : State} {m : MethodId} {args : Array Value} {below : List Frame} {meth : Method} {c : Code} {locs : List Loc} {cells slots : Nat} {T : State}
theorem gx_back (X : Stand p l e R s m args below meth c T locs cells slots) {y : MethodName} {ws : List Cond} {rm : Room} {Pc : Array Value → State → Prop} {Qc : Array Value → State → Outcome → State → Prop} {mc ms : Nat} {free : Addr → Prop}
    (hM : gx_Met l y ws rm Pc Qc mc ms free) {maxL : Nat} (hrc : rm.cells = mc) (hrs : rm.slots = ms) (hframes : rm.frames + 1 ≤ R.frames) (hlocals : 8 + (maxL + 11) + rm.locals ≤ R.locals)
    {g : JFrame} (hg : g.method = m) (hsize : g.locals.size = c.maxLocals) {ig : Instr} {len : Nat} (hdg : decode c.code g.pc = .ok (ig, len)) (hW : 2 * g.monitorRoom + (g.stack.map fun v => v.category).sum ≤ 8)
    {mk : MethodId} (hn : T.methodNamed? y = some mk) {a : Array Value} (hpre : ∀ w ∈ ws, w.before a T = true) (hini : (Cond.initialized y.cls).before a T = true)
    (hmeth : ∃ (methY : Method) (cY : Code), T.vm.method? mk = some methY ∧ methY.code = some cY ∧ cY.maxLocals = maxL) (hcells : cells + mc ≤ R.cells) (hslots : slots + ms ≤ R.slots) (hP : Pc a (T.calling g mk a)) :
    ∃ (o : Outcome) (t T' : State) (L : List Loc), Stand p l e R s m args below meth c T' (locs ++ L) (cells + mc) (slots + ms) ∧ (∀ q ∈ L, free q.base) ∧ T'.heap = t.heap ∧ T'.vm = t.vm ∧ Qc a (T.calling g mk a) o t ∧
      match o with
      | .returned v => Steps p.tables e below (doInvoke e (T.setTop g) [] mk a).1 (T'.setTop { g with pc := g.pc + len, stack := v.toList ++ g.stack })
      | .threw x => Steps p.tables e below (doInvoke e (T.setTop g) [] mk a).1 ((T'.setTop g).pushFrame (.throwing x)) := by
  obtain ⟨methY, cY, hmY, hcY, hlY⟩ := hmeth
  obtain ⟨kY, hkY, -⟩ := className_of_methodNamed hn
  have hinitY : kY.init = .initialized := Cond.initialized_spec (findClass_of_methodNamed hn) hkY hini
  have h : At T g.method c below := by rw [hg]; exact X.here
  have happ : (headSpec ws rm).appliesLoose y e.platform (T.calling g mk a) = true :=
    Spec.appliesLoose_calling (g := g) h hdg hn hkY hinitY
      (X.room_calling (g := g) (R' := (headSpec ws rm).room) hsize hmY hcY hframes (by rw [hlY]; show _ + _ + rm.locals ≤ _; omega) (by show cells + rm.cells ≤ _; rw [hrc]; exact hcells) (by show slots + rm.slots ≤ _; rw [hrs]; exact hslots)) (atoms_intro hpre)
  obtain ⟨mid, hmid⟩ := h.above
  have hfr : (T.setTop g).frames = (.java g :: mid) ++ below := by rw [State.frames_setTop' g h.top, hmid]; rfl
  obtain ⟨o, s₂, hsteps, -, hend, hq⟩ := Steps.callFree hM p X.admits X.cas X.clock (acts := []) hfr happ hP trivial
  have hq0 : Qc a (T.calling g mk a) o s₂ ∧ ∃ L, gx_End (T.calling g mk a) s₂ L mc ms ∧ ∀ q ∈ L, free q.base := hq
  obtain ⟨hq', L, ⟨hW₂, e2, q2, q3, q4, q5, q6⟩, hL⟩ := hq0
  rw [State.frames_setTop' g h.top] at hend
  have e3 : s₂ = ({ (T.calling g mk a).setFrames s₂.frames with heap := s₂.heap, slotsUsed := s₂.slotsUsed } : State).setVm s₂.vm := by
    have : s₂ = ({ s₂ with vm := (T.calling g mk a).vm } : State).setVm s₂.vm := rfl
    rw [e2] at this
    exact this
  have hW' : T.WarmedH s₂.vm := hW₂
  obtain ⟨g₀, hg0⟩ := Option.isSome_iff_exists.mp h.top
  obtain ⟨r, hr⟩ := State.topJava?_eq_some.mp hg0
  have hr' : (({ T with heap := s₂.heap, slotsUsed := s₂.slotsUsed } : State).setVm s₂.vm).frames = .java g₀ :: r := hr
  have hsame : T.sameButNew ({ T with heap := s₂.heap, slotsUsed := s₂.slotsUsed } : State) L mc ms := by
    refine ⟨?_, q2, q3, q4, q5, q6⟩
    obtain ⟨t, ht, -⟩ := State.frames_cons hr
    show ({ T with heap := s₂.heap, slotsUsed := s₂.slotsUsed } : State) = { T.setFrames T.frames with heap := s₂.heap, slotsUsed := s₂.slotsUsed }
    rw [State.setFrames_self ht]
  have X' : Stand p l e R s m args below meth c (({ T with heap := s₂.heap, slotsUsed := s₂.slotsUsed } : State).setVm s₂.vm) (locs ++ L) (cells + mc) (slots + ms) :=
    ⟨X.admits, X.cas, X.clock, X.frames, X.room, X.hears, X.method, X.code, (X.here.setHeapUsed s₂.heap s₂.slotsUsed).setVm hW'.alike, X.tail, State.WarmedH.trans X.warmed hW', X.limits, X.bytes, X.same.trans (hsame.setVm s.vm)⟩
  cases o with
  | returned v =>
    obtain ⟨c₂, i₂, len₂, hc₂, hd₂, hf₂⟩ := hend
    have hcc : c₂ = c := by
      have h1 : s₂.code? g.method = T.code? g.method := by
        rw [State.code?_eq, State.code?_eq, hW'.alike.method?]
      exact Option.some.inj (hc₂.symm.trans (h1.trans h.code))
    subst hcc
    have hlen : len₂ = len := by rw [hdg] at hd₂; cases hd₂; rfl
    subst hlen
    have hs₂ : s₂ = (({ T with heap := s₂.heap, slotsUsed := s₂.slotsUsed } : State).setVm s₂.vm).setTop { g with pc := g.pc + len₂, stack := v.toList ++ g.stack } := by
      refine e3.trans ?_
      rw [hf₂, State.calling_eq h.top, State.setFrames_setFrames, State.setTop_of_frames _ hr', hr]
      rfl
    refine ⟨.returned v, s₂, _, L, X', hL, rfl, rfl, hq', ?_⟩
    show Steps p.tables e below _ ((({ T with heap := s₂.heap, slotsUsed := s₂.slotsUsed } : State).setVm s₂.vm).setTop { g with pc := g.pc + len₂, stack := v.toList ++ g.stack })
    rw [← hs₂]
    exact hsteps
  | threw x =>
    have hf₂ : s₂.frames = .throwing x :: .java g :: T.frames.tail := hend
    have hs₂ : s₂ = ((({ T with heap := s₂.heap, slotsUsed := s₂.slotsUsed } : State).setVm s₂.vm).setTop g).pushFrame (.throwing x) := by
      refine e3.trans ?_
      rw [hf₂, State.calling_eq h.top, State.setFrames_setFrames, State.pushFrame, State.frames_setTop _ hr', State.setTop_of_frames _ hr', State.setFrames_setFrames, hr]
      rfl
    refine ⟨.threw x, s₂, _, L, X', hL, rfl, rfl, hq', ?_⟩
    show Steps p.tables e below _ (((({ T with heap := s₂.heap, slotsUsed := s₂.slotsUsed } : State).setVm s₂.vm).setTop g).pushFrame (.throwing x))
    rw [← hs₂]
    exact hsteps
end GY
/-- what is known of a callee: its code (its head in ws), its words, its room -/
def gx_Call (R : Room) (s : State) (args : Array Value) (y : MethodName) (maxL : Nat) (ws : List Cond) (rm : Room) (mc ms n : Nat) : Prop :=
  rm.cells = mc ∧ rm.slots = ms ∧ rm.frames + 1 ≤ R.frames ∧ 8 + (maxL + 11) + rm.locals ≤ R.locals ∧ (∀ w ∈ ws, ∀ (a' : Array Value) (U : State), s.WarmedH U.vm → w.before a' U = true) ∧
  (∃ (mk : MethodId) (methY : Method) (cY : Code), s.methodNamed? y = some mk ∧ s.vm.method? mk = some methY ∧ methY.code = some cY ∧ cY.maxLocals = maxL ∧ parseMethodDescriptor y.desc = some methY.sig) ∧
  (Cond.initialized y.cls).before args s = true ∧ (y.cls ≠ "java/lang/invoke/MethodHandle" ∧ y.cls ≠ "java/lang/invoke/VarHandle") ∧ (∀ sig, parseMethodDescriptor y.desc = some sig → n = sig.parameters.length)
section GZ
variable {p : Program} {l : Launch} {e : Env} {R : Room} {s : State} {m : MethodId} {args : Array Value} {below : List Frame} {meth : Method} {c : Code} {H : Heap} {locs : List Loc} {cells slots : Nat} {Q : State → Prop}
  {y : MethodName} {cc : ByteArray} {maxL nL mc ms n index : Nat} {ws : List Cond} {rm : Room} {Pc : Array Value → State → Prop} {Qc : Array Value → State → Outcome → State → Prop} {free : Addr → Prop} {own C : String} {b : Addr} {As rest : List Value} {g : JFrame}
theorem gx_runS (hx : p.tables.exec = Jvm.exec) (hb : c.code = cc) (hml : c.maxLocals = nL) (ho : s.vm.findClass own = some m.cls) (hM : gx_Met l y ws rm Pc Qc mc ms free) (cw : gx_Call R s args y maxL ws rm mc ms n) (hl : (Cond.methodLink own index y).before args s = true) (hst : (Cond.static y).before args s = true)
    (hbl : FrameBlind Pc) (hp : ∀ U : State, U.heap = H → s.WarmedH U.vm → Pc As.toArray U)
    (hg : g.method = m) (hn : As.length = n) (hsize : g.locals.size = nL) (hstack : g.stack = As.reverse ++ rest) (hW : 2 * g.monitorRoom + (rest.map fun v => v.category).sum ≤ 8) (hdg : decode cc g.pc = .ok (.invokestatic index, 3)) (hf : cells + mc ≤ R.cells ∧ slots + ms ≤ R.slots) :
    gx_Run p l e R s m args below meth c H locs cells slots mc ms g rest (Qc As.toArray) free := by
  obtain ⟨hrc, hrs, hfr, hlo, hws, ⟨mk, methM, cM, hnamed, hmethM, hcM, hlM, hsigM⟩, hinit, hy, hlen⟩ := cw
  subst hb
  intro T hT X
  have hstatic : methM.isStatic = true := Cond.static_spec hnamed hmethM hst
  obtain ⟨kP, hkP, -⟩ := className_of_methodNamed hnamed
  have hinitP : kP.init = .initialized := Cond.initialized_spec (findClass_of_methodNamed hnamed) hkP hinit
  obtain ⟨vm₁, X₁, hstep₁⟩ := X.invokestatic hx ho hl hnamed hmethM hstatic hkP hinitP hy (g := g) hg (argsL := As) (rest := rest) (hn.trans (hlen _ hsigM)) hstack hdg
  have hini1 : (Cond.initialized y.cls).before As.toArray (T.setVm vm₁) = true := word_at X₁.warmed (Or.inl (by first | rfl | simp [Cond.onTables, Cond.keeps, Cond.steady])) hinit
  obtain ⟨o, t, T', L, X', hL, e1, e2, hq, hs⟩ := gx_back X₁ hM hrc hrs hfr hlo (g := { g with stack := rest }) hg (hsize.trans hml.symm) hdg hW (X₁.named hnamed) (a := As.toArray) (fun w hw => hws w hw _ _ X₁.warmed) hini1
    ⟨methM, cM, by rw [X₁.warmed.alike.method?]; exact hmethM, hcM, hlM⟩ hf.1 hf.2 (hbl _ _ _ _ (hp (T.setVm vm₁) hT X₁.warmed))
  refine ⟨o, _, t, T', L, ?_, ?_, X', hL, e1, e2, hq, ?_⟩
  · exact hT
  · exact X₁.warmed
  · cases o with
    | returned v => exact fun tg h => hstep₁ _ fun acts => by rw [doInvoke_state]; exact Steps.trans hs h
    | threw x => exact fun tg h => hstep₁ _ fun acts => by rw [doInvoke_state]; exact Steps.trans hs h
theorem gx_runV (hx : p.tables.exec = Jvm.exec) (hb : c.code = cc) (hml : c.maxLocals = nL) (ho : s.vm.findClass own = some m.cls) (hM : gx_Met l y ws rm Pc Qc mc ms free) (cw : gx_Call R s args y maxL ws rm mc ms n) (hl : (Cond.methodLink own index y).before args s = true) (hin : (Cond.instanceMethod y).before args s = true) (hse : (Cond.selects C y y).before args s = true)
    (hbl : FrameBlind Pc) (hcell : ∃ cellB : Cell, H[b]? = some cellB ∧ cellB.vm.isStatics = false ∧ s.vm.findClass C = some cellB.cls) (hp : ∀ U : State, U.heap = H → s.WarmedH U.vm → Pc (Value.ref b :: As).toArray U)
    (hg : g.method = m) (hn : As.length = n) (hsize : g.locals.size = nL) (hstack : g.stack = As.reverse ++ .ref b :: rest) (hW : 2 * g.monitorRoom + (rest.map fun v => v.category).sum ≤ 8) (hdg : decode cc g.pc = .ok (.invokevirtual index, 3)) (hf : cells + mc ≤ R.cells ∧ slots + ms ≤ R.slots) :
    gx_Run p l e R s m args below meth c H locs cells slots mc ms g rest (Qc (Value.ref b :: As).toArray) free := by
  obtain ⟨hrc, hrs, hfr, hlo, hws, ⟨mk, methM, cM, hnamed, hmethM, hcM, hlM, hsigM⟩, hinit, hy, hlen⟩ := cw
  obtain ⟨cellB, hcB, hoB, hclB⟩ := hcell
  subst hb
  intro T hT X
  obtain ⟨mk', methM', hnamed', hmethM', hstM, habM⟩ := Cond.instanceMethod_spec hin
  cases hnamed.symm.trans hnamed'
  cases hmethM.symm.trans hmethM'
  obtain ⟨c2, r2, m2, q1, q2, q3, q4, kP, hkP, hkPi⟩ := Cond.selects_spec hse
  cases hclB.symm.trans q1
  cases (State.methodFound?_of_named hnamed hy).symm.trans q2
  cases hnamed.symm.trans q3
  have hselP : selectMethod e.platform s.vm cellB.cls mk = .method mk := by rw [Launch.admits_selectMethod X.admits]; exact q4
  obtain ⟨vm₁, X₁, hstep₁⟩ := X.invokevirtual hx ho hl hnamed hmethM hstM hkP hkPi hy (a := b) (cell := cellB) (by rw [hT]; exact hcB)
    (fun z h => by rw [h] at hoB; cases hoB) hselP hmethM habM hkP hkPi (g := g) hg (argsL := As) (rest := rest) (hn.trans (hlen _ hsigM)) hstack hdg
  have hini1 : (Cond.initialized y.cls).before (Value.ref b :: As).toArray (T.setVm vm₁) = true := word_at X₁.warmed (Or.inl (by first | rfl | simp [Cond.onTables, Cond.keeps, Cond.steady])) hinit
  obtain ⟨o, t, T', L, X', hL, e1, e2, hq, hs⟩ := gx_back X₁ hM hrc hrs hfr hlo (g := { g with stack := rest }) hg (hsize.trans hml.symm) hdg hW (X₁.named hnamed) (a := (Value.ref b :: As).toArray) (fun w hw => hws w hw _ _ X₁.warmed) hini1
    ⟨methM, cM, by rw [X₁.warmed.alike.method?]; exact hmethM, hcM, hlM⟩ hf.1 hf.2 (hbl _ _ _ _ (hp (T.setVm vm₁) hT X₁.warmed))
  refine ⟨o, _, t, T', L, ?_, ?_, X', hL, e1, e2, hq, ?_⟩
  · exact hT
  · exact X₁.warmed
  · cases o with
    | returned v => exact fun tg h => hstep₁ _ fun acts => by rw [doInvoke_state]; exact Steps.trans hs h
    | threw x => exact fun tg h => hstep₁ _ fun acts => by rw [doInvoke_state]; exact Steps.trans hs h
theorem gx_runI (hx : p.tables.exec = Jvm.exec) (hb : c.code = cc) (hml : c.maxLocals = nL) (ho : s.vm.findClass own = some m.cls) (hM : gx_Met l y ws rm Pc Qc mc ms free) (cw : gx_Call R s args y maxL ws rm mc ms n) (hl : (Cond.methodLink own index y).before args s = true) (hin : (Cond.instanceMethod y).before args s = true) (hy1 : y.name = "<init>") {bytes : ByteArray} (hcode : (Cond.code y bytes maxL none).before args s = true)
    (hbl : FrameBlind Pc) (hp : ∀ U : State, U.heap = H → s.WarmedH U.vm → Pc (Value.ref b :: As).toArray U)
    (hg : g.method = m) (hn : As.length = n) (hsize : g.locals.size = nL) (hstack : g.stack = As.reverse ++ .ref b :: rest) (hW : 2 * g.monitorRoom + (rest.map fun v => v.category).sum ≤ 8) (hdg : decode cc g.pc = .ok (.invokespecial index, 3)) (hf : cells + mc ≤ R.cells ∧ slots + ms ≤ R.slots) :
    gx_Run p l e R s m args below meth c H locs cells slots mc ms g rest (Qc (Value.ref b :: As).toArray) free := by
  obtain ⟨hrc, hrs, hfr, hlo, hws, ⟨mk, methM, cM, hnamed, hmethM, hcM, hlM, hsigM⟩, hinit, hy, hlen⟩ := cw
  subst hb
  subst hg
  intro T hT X
  have hpl : e.platform.magicAccessors = ({} : Platform).magicAccessors := by rw [X.admits.platform]
  obtain ⟨mk', methM', cM', kP, vm₁, hnamed', hmethM', hcodeM, -, hlocalsM, -, hkP, -, hW₁, hstep₁⟩ := Steps.initColdArgs (e := e) X.here hx X.warmed hpl ho hy1 hy hl hin hcode (f := g) rfl (fun sig h => hn.trans (hlen sig h)) hstack hdg
  cases hnamed.symm.trans hnamed'
  have X₁ := X.noted hW₁
  have hini1 : (Cond.initialized y.cls).before (Value.ref b :: As).toArray (T.setVm vm₁) = true := word_at X₁.warmed (Or.inl (by first | rfl | simp [Cond.onTables, Cond.keeps, Cond.steady])) hinit
  obtain ⟨o, t, T', L, X', hL, e1, e2, hq, hs⟩ := gx_back X₁ hM hrc hrs hfr hlo (g := { g with stack := rest }) rfl (hsize.trans hml.symm) hdg hW (X₁.named hnamed) (a := (Value.ref b :: As).toArray) (fun w hw => hws w hw _ _ X₁.warmed) hini1
    ⟨methM, cM, by rw [X₁.warmed.alike.method?]; exact hmethM, hcM, hlM⟩ hf.1 hf.2 (hbl _ _ _ _ (hp (T.setVm vm₁) hT X₁.warmed))
  refine ⟨o, _, t, T', L, ?_, ?_, X', hL, e1, e2, hq, ?_⟩
  · exact hT
  · exact X₁.warmed
  · cases o with
    | returned v => exact fun tg h => hstep₁ _ fun acts => by rw [doInvoke_state]; exact Steps.trans hs h
    | threw x => exact fun tg h => hstep₁ _ fun acts => by rw [doInvoke_state]; exact Steps.trans hs h
end GZ
abbrev gh_M : Type := Nat → Option va_E
def gh_up (h : gh_M) (a : Nat) (e : va_E) : gh_M := fun q => if q = a then some e else h q
theorem gh_self (h : gh_M) (a : Nat) (e : va_E) : gh_up h a e a = some e := if_pos rfl
theorem gh_ne {h : gh_M} {a q : Nat} {e : va_E} (hq : q ≠ a) : gh_up h a e q = h q := if_neg hq
theorem gh_uu {h : gh_M} {a : Nat} {e e' : va_E} : gh_up (gh_up h a e) a e' = gh_up h a e' := by
  funext q
  by_cases hq : q = a
  · subst hq; rw [gh_self, gh_self]
  · rw [gh_ne hq, gh_ne hq, gh_ne hq]
theorem gh_id {h : gh_M} {a : Nat} {e : va_E} (h0 : h a = some e) : gh_up h a e = h := by
  funext q
  by_cases hq : q = a
  · subst hq; rw [gh_self, h0]
  · rw [gh_ne hq]
theorem gh_keep {h : gh_M} {a q : Nat} {e e0 x : va_E} (h0 : h a = some e0) (hq : h q = some x) (hne : x ≠ e0) : gh_up h a e q = some x := by
  rw [gh_ne (fun k => ?_)]
  · exact hq
  · subst k
    exact hne (Option.some.inj (hq.symm.trans h0))
theorem gh_keepN {h : gh_M} {a q : Nat} {e x : va_E} (h0 : h a = none) (hq : h q = some x) : gh_up h a e q = some x := by
  rw [gh_ne (fun k => ?_)]
  · exact hq
  · subst k
    rw [h0] at hq
    cases hq
/-- h says just what the list ws says -/
def gh_L (h : gh_M) (ws : va_W) : Prop := ∀ (a : Nat) (x : va_E), h a = some x ↔ ∃ k : Nat, ws[k]? = some (a, x)
theorem gh_L.set {A : Nat → Prop} {h : gh_M} {ws : va_W} {a k : Nat} {x x1 : va_E} (hL : gh_L h ws) (hD : va_D A ws) (hk : ws[k]? = some (a, x)) : gh_L (gh_up h a x1) (ws.set k (a, x1)) := by
  have hlt : k < ws.length := (List.getElem?_eq_some_iff.mp hk).1
  intro b y
  by_cases hb : b = a
  · subst hb
    rw [gh_self]
    constructor
    · intro q
      cases q
      exact ⟨k, by rw [List.getElem?_set_self hlt]⟩
    · rintro ⟨j, hj⟩
      by_cases hjk : k = j
      · subst hjk
        rw [List.getElem?_set_self hlt] at hj
        cases hj
        rfl
      · rw [List.getElem?_set_ne hjk] at hj
        exact absurd (hD.1 k j _ _ hk hj rfl) hjk
  · rw [gh_ne hb, hL b y]
    constructor
    · rintro ⟨j, hj⟩
      have hjk : k ≠ j := by
        intro q
        subst q
        rw [hk] at hj
        cases hj
        exact hb rfl
      exact ⟨j, by rw [List.getElem?_set_ne hjk]; exact hj⟩
    · rintro ⟨j, hj⟩
      by_cases hjk : k = j
      · subst hjk
        rw [List.getElem?_set_self hlt] at hj
        cases hj
        exact absurd rfl hb
      · rw [List.getElem?_set_ne hjk] at hj
        exact ⟨j, hj⟩
theorem gh_L.fresh {A : Nat → Prop} {h : gh_M} {ws : va_W} {a : Nat} {x : va_E} (hL : gh_L h ws) (hD : va_D A (ws ++ [(a, x)])) : h a = none := by
  cases hh : h a with
  | none => rfl
  | some y =>
    obtain ⟨j, hj⟩ := (hL a y).mp hh
    have hlt : j < ws.length := (List.getElem?_eq_some_iff.mp hj).1
    have e1 := hD.1 j ws.length (a, y) (a, x) (by rw [List.getElem?_append_left hlt]; exact hj) (by rw [List.getElem?_append_right (Nat.le_refl _), Nat.sub_self]; rfl) rfl
    omega
theorem gh_L.push {A : Nat → Prop} {h : gh_M} {ws : va_W} {a : Nat} {x : va_E} (hL : gh_L h ws) (hD : va_D A (ws ++ [(a, x)])) : gh_L (gh_up h a x) (ws ++ [(a, x)]) := by
  have hf := hL.fresh hD
  intro b y
  by_cases hb : b = a
  · subst hb
    rw [gh_self]
    constructor
    · intro q
      cases q
      exact ⟨ws.length, by rw [List.getElem?_append_right (Nat.le_refl _), Nat.sub_self]; rfl⟩
    · rintro ⟨j, hj⟩
      by_cases hlt : j < ws.length
      · rw [List.getElem?_append_left hlt] at hj
        have := (hL b y).mpr ⟨j, hj⟩
        rw [hf] at this
        cases this
      · rw [List.getElem?_append_right (by omega)] at hj
        have hz : j - ws.length < 1 := (List.getElem?_eq_some_iff.mp hj).1
        rw [show j - ws.length = 0 by omega] at hj
        cases hj
        rfl
  · rw [gh_ne hb, hL b y]
    constructor
    · rintro ⟨j, hj⟩
      exact ⟨j, by rw [List.getElem?_append_left (List.getElem?_eq_some_iff.mp hj).1]; exact hj⟩
    · rintro ⟨j, hj⟩
      by_cases hlt : j < ws.length
      · rw [List.getElem?_append_left hlt] at hj
        exact ⟨j, hj⟩
      · rw [List.getElem?_append_right (by omega)] at hj
        have hz : j - ws.length < 1 := (List.getElem?_eq_some_iff.mp hj).1
        rw [show j - ws.length = 0 by omega] at hj
        cases hj
        exact absurd rfl hb
/-- the heap H holds what h says, all of it from b0 on; below b0 it is as H0 was; what was written lies from b0 on -/
def gh_P (D : va_G) (cl : List vw_C) (b0 : Nat) (h : gh_M) (H0 H : Heap) (locs : List Loc) : Prop :=
  ∃ ws : va_W, gh_L h ws ∧ va_P D cl ws H ∧ va_D (fun q => b0 ≤ q) ws ∧ va_S (fun q => b0 ≤ q) H0 H locs ∧ b0 ≤ H0.size
section GH
variable {p : Program} {l : Launch} {e : Env} {R : Room} {s : State} {m : MethodId} {args : Array Value} {below : List Frame} {meth : Method} {c : Code} {H : Heap} {locs : List Loc} {cells slots : Nat} {Q : State → Prop}
  {D : va_G} {cl : List vw_C} {tys : List (ClassId × FieldType)} {b0 : Nat} {h : gh_M} {cc : ByteArray} {pc : Nat} {ls : Array Slot} {rest : List Value} {H0 : Heap}
theorem gh_get (hexec : p.tables.exec = Jvm.exec) (hb : c.code = cc) {own ref C : String} {T : u_T} {N ci index : Nat} {Ts : List Cond} (hts : ∀ w ∈ Ts, w.before args s = true) (hin : ∀ w ∈ u_ws C T N, w ∈ Ts) (hown : s.vm.findClass own = some m.cls) (hK : va_K D cl tys s) (hG : gh_P D cl b0 h H0 H locs) {a : Nat} {fs : List Value} (he : h a = some (.inr (ci, fs))) (hc : cl[ci]? = some (C, T, N)) (k : Nat) (hk : k < N)
    (hlink : (Cond.fieldLink own index ref (T k).2.1 (T k).2.2.1).before args s = true) (hsame : ∀ x, s.fieldFound? (T k).1 (T k).2.1 (T k).2.2.1 = some x → s.fieldFound? ref (T k).2.1 (T k).2.2.1 = some x) {v : Value} (hv : fs[k]? = some v) (hdg : decode cc pc = .ok (.getfield index, 3))
    (kk : W p l e R s m args below meth c H locs cells slots Q (F0 m (pc + 3) ls (v :: rest))) : W p l e R s m args below meth c H locs cells slots Q (F0 m pc ls (.ref a :: rest)) := by
  obtain ⟨ws, hL, hP, -⟩ := hG
  obtain ⟨k0, hk0⟩ := (hL a _).mp he
  exact va_get hexec hb hts hin hown hK hP k0 hk0 hc k hk hlink hsame hv hdg kk
theorem gh_getN (hexec : p.tables.exec = Jvm.exec) (hb : c.code = cc) {own ref C host : String} {T : u_T} {N ci index : Nat} {Ts : List Cond} (hts : ∀ w ∈ Ts, w.before args s = true) (hin : ∀ w ∈ u_ws C T N, w ∈ Ts) (hown : s.vm.findClass own = some m.cls) (hK : va_K D cl tys s) (hG : gh_P D cl b0 h H0 H locs) {a : Nat} {fs : List Value} (he : h a = some (.inr (ci, fs))) (hc : cl[ci]? = some (C, T, N)) (k : Nat) (hk : k < N)
    (hlink : (Cond.fieldLinkNest own index ref (T k).2.1 (T k).2.2.1 host).before args s = true) (hsame : ∀ x, s.fieldFound? (T k).1 (T k).2.1 (T k).2.2.1 = some x → s.fieldFound? ref (T k).2.1 (T k).2.2.1 = some x) {v : Value} (hv : fs[k]? = some v) (hdg : decode cc pc = .ok (.getfield index, 3))
    (kk : W p l e R s m args below meth c H locs cells slots Q (F0 m (pc + 3) ls (v :: rest))) : W p l e R s m args below meth c H locs cells slots Q (F0 m pc ls (.ref a :: rest)) := by
  obtain ⟨ws, hL, hP, -⟩ := hG
  obtain ⟨k0, hk0⟩ := (hL a _).mp he
  exact va_getN hexec hb hts hin hown hK hP k0 hk0 hc k hk hlink hsame hv hdg kk
theorem gh_put (hexec : p.tables.exec = Jvm.exec) (hb : c.code = cc) {own ref C : String} {T : u_T} {N ci index : Nat} {Ts : List Cond} (hts : ∀ w ∈ Ts, w.before args s = true) (hin : ∀ w ∈ u_ws C T N, w ∈ Ts) (ty0 : Nat → FieldType) (hty : ∀ k, k < N → parseFieldDescriptor (T k).2.2.1 = some (ty0 k)) (hnm : ∀ a, a < N → ∀ b, b < N → a ≠ b → (T a).2.1 ≠ (T b).2.1) (hown : s.vm.findClass own = some m.cls) (hK : va_K D cl tys s) (hG : gh_P D cl b0 h H0 H locs) {a : Nat} {fs : List Value} (he : h a = some (.inr (ci, fs))) (hc : cl[ci]? = some (C, T, N)) (k : Nat) (hk : k < N)
    (hlink : (Cond.fieldLink own index ref (T k).2.1 (T k).2.2.1).before args s = true) (hsame : ∀ x, s.fieldFound? (T k).1 (T k).2.1 (T k).2.2.1 = some x → s.fieldFound? ref (T k).2.1 (T k).2.2.1 = some x) (hfin : (T k).2.2.2 = false) {ty : FieldType} {v : Value} (hd : parseFieldDescriptor (T k).2.2.1 = some ty) (hn : narrow ty v = v) (hfit : fits ty v = true) (hl : k < fs.length)
    (hdg : decode cc pc = .ok (.putfield index, 3)) (kk : ∀ (H1 : Heap) (locs1 : List Loc), gh_P D cl b0 (gh_up h a (.inr (ci, fs.set k v))) H0 H1 locs1 → W p l e R s m args below meth c H1 locs1 cells slots Q (F0 m (pc + 3) ls rest)) : W p l e R s m args below meth c H locs cells slots Q (F0 m pc ls (v :: .ref a :: rest)) := by
  obtain ⟨ws, hL, hP, hD, hS, hb0⟩ := hG
  obtain ⟨k0, hk0⟩ := (hL a _).mp he
  exact va_put hexec hb hts hin ty0 hty hnm hown hK hP hD hS k0 hk0 hc k hk hlink hsame hfin hd hn hfit hl hdg (fun H1 locs1 hP1 hD1 hS1 => kk H1 locs1 ⟨_, hL.set hD hk0, hP1, hD1, hS1, hb0⟩)
theorem gh_putF (hexec : p.tables.exec = Jvm.exec) (hb : c.code = cc) {own ref C : String} {T : u_T} {N ci index : Nat} {Ts : List Cond} (hts : ∀ w ∈ Ts, w.before args s = true) (hin : ∀ w ∈ u_ws C T N, w ∈ Ts) (ty0 : Nat → FieldType) (hty : ∀ k, k < N → parseFieldDescriptor (T k).2.2.1 = some (ty0 k)) (hnm : ∀ a, a < N → ∀ b, b < N → a ≠ b → (T a).2.1 ≠ (T b).2.1) (hown : s.vm.findClass own = some m.cls) (hK : va_K D cl tys s) (hG : gh_P D cl b0 h H0 H locs) {a : Nat} {fs : List Value} (he : h a = some (.inr (ci, fs))) (hc : cl[ci]? = some (C, T, N)) (k : Nat) (hk : k < N)
    (hlink : (Cond.fieldLink own index ref (T k).2.1 (T k).2.2.1).before args s = true) (hsame : ∀ x, s.fieldFound? (T k).1 (T k).2.1 (T k).2.2.1 = some x → s.fieldFound? ref (T k).2.1 (T k).2.2.1 = some x) (hfin : (T k).2.2.2 = true) (hin2 : meth.name = "<init>") (hdecl : (T k).1 = own) {ty : FieldType} {v : Value} (hd : parseFieldDescriptor (T k).2.2.1 = some ty) (hn : narrow ty v = v) (hfit : fits ty v = true) (hl : k < fs.length)
    (hdg : decode cc pc = .ok (.putfield index, 3)) (kk : ∀ (H1 : Heap) (locs1 : List Loc), gh_P D cl b0 (gh_up h a (.inr (ci, fs.set k v))) H0 H1 locs1 → W p l e R s m args below meth c H1 locs1 cells slots Q (F0 m (pc + 3) ls rest)) : W p l e R s m args below meth c H locs cells slots Q (F0 m pc ls (v :: .ref a :: rest)) := by
  obtain ⟨ws, hL, hP, hD, hS, hb0⟩ := hG
  obtain ⟨k0, hk0⟩ := (hL a _).mp he
  exact va_putF hexec hb hts hin ty0 hty hnm hown hK hP hD hS k0 hk0 hc k hk hlink hsame hfin hin2 hdecl hd hn hfit hl hdg (fun H1 locs1 hP1 hD1 hS1 => kk H1 locs1 ⟨_, hL.set hD hk0, hP1, hD1, hS1, hb0⟩)
theorem gh_iald (hexec : p.tables.exec = Jvm.exec) (hb : c.code = cc) (hK : va_K D cl tys s) (hG : gh_P D cl b0 h H0 H locs) (t0 : Nat) {a : Nat} {cA : ClassId} {n : Nat} {f : Nat → Int32} (ha : h a = some (.inl (cA, n, .inl f))) (ht : tys[t0]? = some (cA, .int)) {i : Int32} {v : Int32} (hin : vp_in i n) (hv : f i.toNatClampNeg = v) (hdg : decode cc pc = .ok (.iaload, 1))
    (kk : W p l e R s m args below meth c H locs cells slots Q (F0 m (pc + 1) ls (.int v :: rest))) : W p l e R s m args below meth c H locs cells slots Q (F0 m pc ls (.int i :: .ref a :: rest)) := by
  obtain ⟨ws, hL, hP, -⟩ := hG
  obtain ⟨k0, hk0⟩ := (hL a _).mp ha
  refine va_iald hexec hb hK hP k0 t0 hk0 ht hin hdg ?_
  rw [hv]
  exact kk
theorem gh_lald (hexec : p.tables.exec = Jvm.exec) (hb : c.code = cc) (hK : va_K D cl tys s) (hG : gh_P D cl b0 h H0 H locs) (t0 : Nat) {a : Nat} {cA : ClassId} {n : Nat} {f : Nat → Int64} (ha : h a = some (.inl (cA, n, .inr (.inl f)))) (ht : tys[t0]? = some (cA, .long)) {i : Int32} {v : Int64} (hin : vp_in i n) (hv : f i.toNatClampNeg = v) (hdg : decode cc pc = .ok (.laload, 1))
    (kk : W p l e R s m args below meth c H locs cells slots Q (F0 m (pc + 1) ls (.long v :: rest))) : W p l e R s m args below meth c H locs cells slots Q (F0 m pc ls (.int i :: .ref a :: rest)) := by
  obtain ⟨ws, hL, hP, -⟩ := hG
  obtain ⟨k0, hk0⟩ := (hL a _).mp ha
  refine va_lald hexec hb hK hP k0 t0 hk0 ht hin hdg ?_
  rw [hv]
  exact kk
theorem gh_aald (hexec : p.tables.exec = Jvm.exec) (hb : c.code = cc) (hK : va_K D cl tys s) (hG : gh_P D cl b0 h H0 H locs) (t0 : Nat) {a : Nat} {cA : ClassId} {C : String} {n : Nat} {f : Nat → Option Nat} (ha : h a = some (.inl (cA, n, .inr (.inr (.inr (.inr f)))))) (ht : tys[t0]? = some (cA, .object C)) {i : Int32} {v : Nat} (hin : vp_in i n) (hv : f i.toNatClampNeg = some v) (hdg : decode cc pc = .ok (.aaload, 1))
    (kk : W p l e R s m args below meth c H locs cells slots Q (F0 m (pc + 1) ls (.ref v :: rest))) : W p l e R s m args below meth c H locs cells slots Q (F0 m pc ls (.int i :: .ref a :: rest)) := by
  obtain ⟨ws, hL, hP, -⟩ := hG
  obtain ⟨k0, hk0⟩ := (hL a _).mp ha
  refine va_aldq hexec hb hK hP k0 t0 hk0 ht hin hdg ?_
  rw [hv]
  exact kk
theorem gh_iast (hexec : p.tables.exec = Jvm.exec) (hb : c.code = cc) (hK : va_K D cl tys s) (hG : gh_P D cl b0 h H0 H locs) (t0 : Nat) {a : Nat} {cA : ClassId} {n : Nat} {f : Nat → Int32} (ha : h a = some (.inl (cA, n, .inl f))) (ht : tys[t0]? = some (cA, .int)) {i : Int32} {x : Int32} (hin : vp_in i n) (hdg : decode cc pc = .ok (.iastore, 1))
    (kk : ∀ (H1 : Heap) (locs1 : List Loc), gh_P D cl b0 (gh_up h a (.inl (cA, n, .inl (upd f i.toNatClampNeg x)))) H0 H1 locs1 → W p l e R s m args below meth c H1 locs1 cells slots Q (F0 m (pc + 1) ls rest)) : W p l e R s m args below meth c H locs cells slots Q (F0 m pc ls (.int x :: .int i :: .ref a :: rest)) := by
  obtain ⟨ws, hL, hP, hD, hS, hb0⟩ := hG
  obtain ⟨k0, hk0⟩ := (hL a _).mp ha
  exact va_iast hexec hb hK hP hD hS k0 t0 hk0 ht hin hdg (fun H1 locs1 hP1 hD1 hS1 => kk H1 locs1 ⟨_, hL.set hD hk0, hP1, hD1, hS1, hb0⟩)
theorem gh_last (hexec : p.tables.exec = Jvm.exec) (hb : c.code = cc) (hK : va_K D cl tys s) (hG : gh_P D cl b0 h H0 H locs) (t0 : Nat) {a : Nat} {cA : ClassId} {n : Nat} {f : Nat → Int64} (ha : h a = some (.inl (cA, n, .inr (.inl f)))) (ht : tys[t0]? = some (cA, .long)) {i : Int32} {x : Int64} (hin : vp_in i n) (hdg : decode cc pc = .ok (.lastore, 1))
    (kk : ∀ (H1 : Heap) (locs1 : List Loc), gh_P D cl b0 (gh_up h a (.inl (cA, n, .inr (.inl (vp_updL f i.toNatClampNeg x))))) H0 H1 locs1 → W p l e R s m args below meth c H1 locs1 cells slots Q (F0 m (pc + 1) ls rest)) : W p l e R s m args below meth c H locs cells slots Q (F0 m pc ls (.long x :: .int i :: .ref a :: rest)) := by
  obtain ⟨ws, hL, hP, hD, hS, hb0⟩ := hG
  obtain ⟨k0, hk0⟩ := (hL a _).mp ha
  exact va_last hexec hb hK hP hD hS k0 t0 hk0 ht hin hdg (fun H1 locs1 hP1 hD1 hS1 => kk H1 locs1 ⟨_, hL.set hD hk0, hP1, hD1, hS1, hb0⟩)
theorem gh_aast (hexec : p.tables.exec = Jvm.exec) (hb : c.code = cc) (hK : va_K D cl tys s) (hG : gh_P D cl b0 h H0 H locs) (t0 ci : Nat) {a v n : Nat} {cA : ClassId} {r : vw_C} {vs : List Value} {f : Nat → Option Nat} (ha : h a = some (.inl (cA, n, .inr (.inr (.inr (.inr f)))))) (ht : tys[t0]? = some (cA, .object r.1)) (hv : h v = some (.inr (ci, vs))) (hc : cl[ci]? = some r) {i : Int32} (hin : vp_in i n) (hdg : decode cc pc = .ok (.aastore, 1))
    (kk : ∀ (H1 : Heap) (locs1 : List Loc), gh_P D cl b0 (gh_up h a (.inl (cA, n, .inr (.inr (.inr (.inr (va_up f i.toNatClampNeg (some v)))))))) H0 H1 locs1 → W p l e R s m args below meth c H1 locs1 cells slots Q (F0 m (pc + 1) ls rest)) : W p l e R s m args below meth c H locs cells slots Q (F0 m pc ls (.ref v :: .int i :: .ref a :: rest)) := by
  obtain ⟨ws, hL, hP, hD, hS, hb0⟩ := hG
  obtain ⟨k0, hk0⟩ := (hL a _).mp ha
  obtain ⟨k1, hk1⟩ := (hL v _).mp hv
  exact va_astq hexec hb hK hP hD hS k0 t0 k1 ci hk0 ht hk1 hc hin hdg (fun H1 locs1 hP1 hD1 hS1 => kk H1 locs1 ⟨_, hL.set hD hk0, hP1, hD1, hS1, hb0⟩)
theorem gh_new (hexec : p.tables.exec = Jvm.exec) (hb : c.code = cc) {own C : String} {T : u_T} {N ci index : Nat} {Ts : List Cond} (hts : ∀ w ∈ Ts, w.before args s = true) (hin : ∀ w ∈ u_ws C T N, w ∈ Ts) (ty : Nat → FieldType) (hty : ∀ k, k < N → parseFieldDescriptor (T k).2.2.1 = some (ty k)) (hown : s.vm.findClass own = some m.cls) (hcl : (Cond.classLink own index C).before args s = true) (hinst : (Cond.instantiable C N).before args s = true) (hini : (Cond.initialized C).before args s = true)
    (hK : va_K D cl tys s) (hG : gh_P D cl b0 h H0 H locs) (hc : cl[ci]? = some (C, T, N)) {fs : List Value} (hfs : ∀ j, j < N → defaultValue (ty j) = vp_V fs j) (hcells : cells + 1 ≤ R.cells) (hslots : slots + N ≤ R.slots) (hdg : decode cc pc = .ok (.new index, 3))
    (kk : ∀ (q : Nat) (H1 : Heap), h q = none → gh_P D cl b0 (gh_up h q (.inr (ci, fs))) H0 H1 locs → W p l e R s m args below meth c H1 locs (cells + 1) (slots + N) Q (F0 m (pc + 3) ls (.ref q :: rest))) : W p l e R s m args below meth c H locs cells slots Q (F0 m pc ls rest) := by
  obtain ⟨ws, hL, hP, hD, hS, hb0⟩ := hG
  exact va_new hexec hb hts hin ty hty hown hcl hinst hini hK hP hD hS (fun q hq => Nat.le_trans hb0 hq) hc hfs hcells hslots hdg (fun q H1 hP1 hD1 hS1 => kk q H1 (hL.fresh hD1) ⟨_, hL.push hD1, hP1, hD1, hS1, hb0⟩)
/-- the class of an array type is one -/
theorem gh_cA {tys : List (ClassId × FieldType)} (hK : va_K D cl tys s) {t0 t1 : Nat} {cA cB : ClassId} {ty : FieldType} (h0 : tys[t0]? = some (cA, ty)) (h1 : tys[t1]? = some (cB, ty)) : cA = cB := by
  have a := (hK.2 t0 _ h0).2
  have b := (hK.2 t1 _ h1).2
  cases ty with
  | object C =>
    obtain ⟨_, _, -, -, -, a4⟩ := a
    obtain ⟨_, _, -, -, -, b4⟩ := b
    exact Option.some.inj (a4.symm.trans b4)
  | _ => exact Option.some.inj (a.symm.trans b)
theorem gh_newa (hexec : p.tables.exec = Jvm.exec) (hb : c.code = cc) {atype : ArrayType} (harr : (Cond.arrayClass (newarray.typeOf atype)).before args s = true) {ty : FieldType} (hty : newarray.typeOf atype = ty) (hK : va_K D cl tys s) (hG : gh_P D cl b0 h H0 H locs) (t0 : Nat) {cA : ClassId} (ht : tys[t0]? = some (cA, ty))
    {n : Int32} {N' : Nat} {a0 : vp_A} (ha : ∀ cA : ClassId, vp_cell cA a0 = arrV cA N' (fun _ => defaultValue ty)) (hn : ¬ n < 0) (hN : n.toNatClampNeg = N') (hbytes : N' * componentBytes ty ≤ 536870912) (hcells : cells + 1 ≤ R.cells) (hslots : slots + N' ≤ R.slots) (hdg : decode cc pc = .ok (.newarray atype, 2))
    (kk : ∀ (q : Nat) (H1 : Heap), h q = none → gh_P D cl b0 (gh_up h q (.inl (cA, a0))) H0 H1 locs →
      W p l e R s m args below meth c H1 locs (cells + 1) (slots + N') Q (F0 m (pc + 2) ls (.ref q :: rest))) : W p l e R s m args below meth c H locs cells slots Q (F0 m pc ls (.int n :: rest)) := by
  obtain ⟨ws, hL, hP, hD, hS, hb0⟩ := hG
  refine va_newa hexec hb harr hty hK hP hD hS (fun q hq => Nat.le_trans hb0 hq) ha hn hN hbytes hcells hslots hdg (fun q cA' H1 hK1 hP1 hD1 hS1 => ?_)
  have he : cA = cA' := gh_cA hK1 (t0 := t0) (t1 := tys.length) (by rw [List.getElem?_append_left (List.getElem?_eq_some_iff.mp ht).1]; exact ht) (by rw [List.getElem?_append_right (Nat.le_refl _), Nat.sub_self]; rfl)
  subst he
  exact kk q H1 (hL.fresh hD1) ⟨_, hL.push hD1, hP1, hD1, hS1, hb0⟩
theorem gh_newq (hexec : p.tables.exec = Jvm.exec) (hb : c.code = cc) {own C : String} {index : Nat} (hown : s.vm.findClass own = some m.cls) (hclink : (Cond.classLink own index C).before args s = true) (hover : va_AO C s) (hK : va_K D cl tys s) (hG : gh_P D cl b0 h H0 H locs) (t0 : Nat) {cA : ClassId} (ht : tys[t0]? = some (cA, .object C))
    {n : Int32} {N' : Nat} (hn : ¬ n < 0) (hN : n.toNatClampNeg = N') (hbytes : N' * 4 ≤ 536870912) (hcells : cells + 1 ≤ R.cells) (hslots : slots + N' ≤ R.slots) (hdg : decode cc pc = .ok (.anewarray index, 3))
    (kk : ∀ (q : Nat) (H1 : Heap), h q = none → gh_P D cl b0 (gh_up h q (.inl (cA, N', .inr (.inr (.inr (.inr (fun _ => none))))))) H0 H1 locs →
      W p l e R s m args below meth c H1 locs (cells + 1) (slots + N') Q (F0 m (pc + 3) ls (.ref q :: rest))) : W p l e R s m args below meth c H locs cells slots Q (F0 m pc ls (.int n :: rest)) := by
  obtain ⟨ws, hL, hP, hD, hS, hb0⟩ := hG
  refine va_newq hexec hb hown hclink hover hK hP hD hS (fun q hq => Nat.le_trans hb0 hq) hn hN hbytes hcells hslots hdg (fun q cA' H1 hK1 hP1 hD1 hS1 => ?_)
  have he : cA = cA' := gh_cA hK1 (t0 := t0) (t1 := tys.length) (by rw [List.getElem?_append_left (List.getElem?_eq_some_iff.mp ht).1]; exact ht) (by rw [List.getElem?_append_right (Nat.le_refl _), Nat.sub_self]; rfl)
  subst he
  exact kk q H1 (hL.fresh hD1) ⟨_, hL.push hD1, hP1, hD1, hS1, hb0⟩
/-- the receiver of a call -/
theorem gh_recv (hK : va_K D cl tys s) (hG : gh_P D cl b0 h H0 H locs) {a ci : Nat} {q : vw_C} {fs : List Value} (hc : cl[ci]? = some q) (he : h a = some (.inr (ci, fs))) : ∃ cell : Cell, H[a]? = some cell ∧ cell.vm.isStatics = false ∧ s.vm.findClass q.1 = some cell.cls := by
  obtain ⟨ws, hL, hP, -⟩ := hG
  obtain ⟨k0, hk0⟩ := (hL a _).mp he
  exact va_recv hK hP hc hk0
end GH
/-- what an invocation begins with, of the world h -/
def gh_Pc (D : va_G) (cl : List vw_C) (tys : List (ClassId × FieldType)) (XF : State → Prop) (b0 : Nat) (av : List Value) (h : gh_M) : Array Value → State → Prop :=
  va_Pc av (fun U => gh_P D cl b0 h U.heap U.heap [] ∧ va_K D cl tys U ∧ XF U)
/-- what it ends with -/
def gh_Qc (D : va_G) (cl : List vw_C) (b0 : Nat) (post : Outcome → gh_M → Prop) : Array Value → State → Outcome → State → Prop :=
  fun _ st oc t => ∃ h' : gh_M, post oc h' ∧ gh_P D cl b0 h' st.heap t.heap []
/-- a fact that lives in the tables and in the old heap -/
def gh_X (b0 : Nat) (XF : State → Prop) : Prop := ∀ U V : State, U.WarmedH V.vm → b0 ≤ U.heap.size → (∀ q : Nat, q < b0 → V.heap[q]? = U.heap[q]?) → XF U → XF V
def gh_C (l : Launch) (D : va_G) (cl : List vw_C) (tys : List (ClassId × FieldType)) (XF : State → Prop) (b0 : Nat) (y : MethodName) (ws : List Cond) (rm : Room) (av : List Value) (h : gh_M) (post : Outcome → gh_M → Prop) : Prop :=
  gx_Met l y ws rm (gh_Pc D cl tys XF b0 av h) (gh_Qc D cl b0 post) rm.cells rm.slots (fun q => b0 ≤ q)
section GI
variable {p : Program} {l : Launch} {e : Env} {R : Room} {s : State} {m : MethodId} {args : Array Value} {below : List Frame} {meth : Method} {c : Code} {H : Heap} {locs : List Loc} {cells slots : Nat} {Q : State → Prop}
  {D : va_G} {cl : List vw_C} {tys : List (ClassId × FieldType)} {XF : State → Prop} {b0 : Nat} {h : gh_M} {cc : ByteArray} {pc : Nat} {ls : Array Slot} {rest : List Value} {H0 : Heap}
theorem gh_P.start (hG : gh_P D cl b0 h H0 H locs) : gh_P D cl b0 h H H [] := by
  obtain ⟨ws, hL, hP, hD, hS, hb0⟩ := hG
  exact ⟨ws, hL, hP, hD, va_S.rf, Nat.le_trans hb0 hS.1⟩
theorem gh_P.size0 (hG : gh_P D cl b0 h H0 H locs) : b0 ≤ H0.size := by
  obtain ⟨ws, hL, hP, hD, hS, hb0⟩ := hG
  exact hb0
theorem gh_P.size (hG : gh_P D cl b0 h H0 H locs) : b0 ≤ H.size := by
  obtain ⟨ws, hL, hP, hD, hS, hb0⟩ := hG
  exact Nat.le_trans hb0 hS.1
theorem gh_P.old (hG : gh_P D cl b0 h H0 H locs) : ∀ q : Nat, q < b0 → H[q]? = H0[q]? := by
  obtain ⟨ws, hL, hP, hD, hS, hb0⟩ := hG
  exact fun q hq => hS.2.1 q (Nat.lt_of_lt_of_le hq hb0) (by omega)
theorem gh_P.wr (hG : gh_P D cl b0 h H0 H locs) : ∀ x ∈ locs, b0 ≤ x.base := by
  obtain ⟨ws, hL, hP, hD, hS, hb0⟩ := hG
  exact hS.2.2
theorem gh_P.low (hG : gh_P D cl b0 h H0 H locs) {a : Nat} {x : va_E} (ha : h a = some x) : b0 ≤ a := by
  obtain ⟨ws, hL, hP, hD, hS, hb0⟩ := hG
  obtain ⟨k, hk⟩ := (hL a x).mp ha
  exact hD.2 k _ hk
theorem gh_P.then {h1 : gh_M} {H1 : Heap} {L : List Loc} (hG : gh_P D cl b0 h H0 H locs) (hG1 : gh_P D cl b0 h1 H H1 []) (hL : ∀ q ∈ L, b0 ≤ q.base) : gh_P D cl b0 h1 H0 H1 (locs ++ L) := by
  obtain ⟨ws, -, -, -, hS, hb0⟩ := hG
  obtain ⟨ws1, hL1, hP1, hD1, hS1, hb1⟩ := hG1
  refine ⟨ws1, hL1, hP1, hD1, ⟨Nat.le_trans hS.1 hS1.1, fun q hq hn => (hS1.2.1 q (Nat.lt_of_lt_of_le hq hS.1) hn).trans (hS.2.1 q hq hn), fun x hx => ?_⟩, hb0⟩
  rcases List.mem_append.mp hx with h1 | h1
  · exact hS.2.2 x h1
  · exact hL x h1
theorem gh_P.ends (hG : gh_P D cl b0 h H0 H locs) : gh_P D cl b0 h H0 H [] := by
  obtain ⟨ws, hL, hP, hD, hS, hb0⟩ := hG
  exact ⟨ws, hL, hP, hD, ⟨hS.1, hS.2.1, fun _ h => absurd h List.not_mem_nil⟩, hb0⟩
theorem gh_blind {av : List Value} (hXF : gh_X b0 XF) : FrameBlind (gh_Pc D cl tys XF b0 av h) := by
  intro a U g mk q
  obtain ⟨q0, qG, qK, qX⟩ := q
  exact ⟨q0, qG, va_K.moved (u := U) (U := U.calling g mk a) (Vm.Alike.refl U.vm) qK, hXF U (U.calling g mk a) (State.WarmedH.refl U) qG.size (fun _ _ => rfl) qX⟩
theorem gh_pre {av : List Value} (hXF : gh_X b0 XF) (hG : gh_P D cl b0 h s.heap H locs) (hK : va_K D cl tys s) (hX : XF s) : ∀ U : State, U.heap = H → s.WarmedH U.vm → gh_Pc D cl tys XF b0 av h av.toArray U := by
  intro U hU hW
  exact ⟨rfl, by rw [hU]; exact hG.start, va_K.moved hW.alike hK, hXF s U hW hG.size0 (by rw [hU]; exact hG.old) hX⟩
theorem gh_go {mc ms : Nat} {st0 : List Value} {post : Outcome → gh_M → Prop} {a : Array Value} (hr : gx_Run p l e R s m args below meth c H locs cells slots mc ms (F0 m pc ls st0) rest (gh_Qc D cl b0 post a) (fun q => b0 ≤ q)) (hG : gh_P D cl b0 h s.heap H locs)
    (kr : ∀ (v : Option Value) (h' : gh_M) (H' : Heap) (locs' : List Loc), post (.returned v) h' → gh_P D cl b0 h' s.heap H' locs' → W p l e R s m args below meth c H' locs' (cells + mc) (slots + ms) Q (F0 m (pc + 3) ls (v.toList ++ rest)))
    (kt : ∀ (x : Addr) (h' : gh_M) (H' : Heap) (locs' : List Loc), post (.threw x) h' → gh_P D cl b0 h' s.heap H' locs' → gx_WT p l e R s m args below meth c H' locs' (cells + mc) (slots + ms) Q (F0 m pc ls rest) x) : W p l e R s m args below meth c H locs cells slots Q (F0 m pc ls st0) := by
  intro T hT X
  obtain ⟨o, st₀, t, T', L, e0, hW0, X', hL, e1, e2, ⟨h', hp, hG'⟩, st⟩ := hr T hT X
  rw [e0] at hG'
  have hG2 := hG.then hG' hL
  cases o with
  | returned v =>
    obtain ⟨t2, a1, b1⟩ := kr v h' t.heap (locs ++ L) hp hG2 T' e1 X'
    exact ⟨t2, st t2 a1, b1⟩
  | threw x =>
    obtain ⟨t2, a1, b1⟩ := kt x h' t.heap (locs ++ L) hp hG2 T' e1 X'
    exact ⟨t2, st t2 a1, b1⟩
/-- invokestatic by contract -/
theorem gh_cS {y : MethodName} {maxL nL n index : Nat} {ws : List Cond} {rm : Room} {own : String} {As st0 : List Value} {post : Outcome → gh_M → Prop} (hXF : gh_X b0 XF) (hx : p.tables.exec = Jvm.exec) (hb : c.code = cc) (hml : c.maxLocals = nL) (ho : s.vm.findClass own = some m.cls) (hK : va_K D cl tys s) (hX : XF s) (hG : gh_P D cl b0 h s.heap H locs)
    (hC : gh_C l D cl tys XF b0 y ws rm As h post) (cw : gx_Call R s args y maxL ws rm rm.cells rm.slots n) (hl : (Cond.methodLink own index y).before args s = true) (hst : (Cond.static y).before args s = true) (hn : As.length = n) (hsize : ls.size = nL) (hs0 : st0 = As.reverse ++ rest) (hW : (rest.map fun v => v.category).sum ≤ 8) (hdg : decode cc pc = .ok (.invokestatic index, 3)) (hf : cells + rm.cells ≤ R.cells ∧ slots + rm.slots ≤ R.slots)
    (kr : ∀ (v : Option Value) (h' : gh_M) (H' : Heap) (locs' : List Loc), post (.returned v) h' → gh_P D cl b0 h' s.heap H' locs' → W p l e R s m args below meth c H' locs' (cells + rm.cells) (slots + rm.slots) Q (F0 m (pc + 3) ls (v.toList ++ rest)))
    (kt : ∀ (x : Addr) (h' : gh_M) (H' : Heap) (locs' : List Loc), post (.threw x) h' → gh_P D cl b0 h' s.heap H' locs' → gx_WT p l e R s m args below meth c H' locs' (cells + rm.cells) (slots + rm.slots) Q (F0 m pc ls rest) x) : W p l e R s m args below meth c H locs cells slots Q (F0 m pc ls st0) :=
  gh_go (gx_runS hx hb hml ho hC cw hl hst (gh_blind hXF) (gh_pre hXF hG hK hX) rfl hn hsize hs0 (lv_room hW) hdg hf) hG kr kt
/-- invokevirtual by contract -/
theorem gh_cV {y : MethodName} {maxL nL n index ci b : Nat} {ws : List Cond} {rm : Room} {own : String} {q : vw_C} {fs : List Value} {As st0 : List Value} {post : Outcome → gh_M → Prop} (hXF : gh_X b0 XF) (hx : p.tables.exec = Jvm.exec) (hb : c.code = cc) (hml : c.maxLocals = nL) (ho : s.vm.findClass own = some m.cls) (hK : va_K D cl tys s) (hX : XF s) (hG : gh_P D cl b0 h s.heap H locs) (hc : cl[ci]? = some q) (he : h b = some (.inr (ci, fs)))
    (hC : gh_C l D cl tys XF b0 y ws rm (.ref b :: As) h post) (cw : gx_Call R s args y maxL ws rm rm.cells rm.slots n) (hl : (Cond.methodLink own index y).before args s = true) (hin : (Cond.instanceMethod y).before args s = true) (hse : (Cond.selects q.1 y y).before args s = true) (hn : As.length = n) (hsize : ls.size = nL) (hs0 : st0 = As.reverse ++ .ref b :: rest) (hW : (rest.map fun v => v.category).sum ≤ 8) (hdg : decode cc pc = .ok (.invokevirtual index, 3)) (hf : cells + rm.cells ≤ R.cells ∧ slots + rm.slots ≤ R.slots)
    (kr : ∀ (v : Option Value) (h' : gh_M) (H' : Heap) (locs' : List Loc), post (.returned v) h' → gh_P D cl b0 h' s.heap H' locs' → W p l e R s m args below meth c H' locs' (cells + rm.cells) (slots + rm.slots) Q (F0 m (pc + 3) ls (v.toList ++ rest)))
    (kt : ∀ (x : Addr) (h' : gh_M) (H' : Heap) (locs' : List Loc), post (.threw x) h' → gh_P D cl b0 h' s.heap H' locs' → gx_WT p l e R s m args below meth c H' locs' (cells + rm.cells) (slots + rm.slots) Q (F0 m pc ls rest) x) : W p l e R s m args below meth c H locs cells slots Q (F0 m pc ls st0) :=
  gh_go (gx_runV hx hb hml ho hC cw hl hin hse (gh_blind hXF) (gh_recv hK hG hc he) (gh_pre hXF hG hK hX) rfl hn hsize hs0 (lv_room hW) hdg hf) hG kr kt
/-- invokespecial <init> by contract -/
theorem gh_cI {y : MethodName} {maxL nL n index b : Nat} {ws : List Cond} {rm : Room} {own : String} {bytes : ByteArray} {As st0 : List Value} {post : Outcome → gh_M → Prop} (hXF : gh_X b0 XF) (hx : p.tables.exec = Jvm.exec) (hb : c.code = cc) (hml : c.maxLocals = nL) (ho : s.vm.findClass own = some m.cls) (hK : va_K D cl tys s) (hX : XF s) (hG : gh_P D cl b0 h s.heap H locs)
    (hC : gh_C l D cl tys XF b0 y ws rm (.ref b :: As) h post) (cw : gx_Call R s args y maxL ws rm rm.cells rm.slots n) (hl : (Cond.methodLink own index y).before args s = true) (hin : (Cond.instanceMethod y).before args s = true) (hy1 : y.name = "<init>") (hcode : (Cond.code y bytes maxL none).before args s = true) (hn : As.length = n) (hsize : ls.size = nL) (hs0 : st0 = As.reverse ++ .ref b :: rest) (hW : (rest.map fun v => v.category).sum ≤ 8) (hdg : decode cc pc = .ok (.invokespecial index, 3)) (hf : cells + rm.cells ≤ R.cells ∧ slots + rm.slots ≤ R.slots)
    (kr : ∀ (v : Option Value) (h' : gh_M) (H' : Heap) (locs' : List Loc), post (.returned v) h' → gh_P D cl b0 h' s.heap H' locs' → W p l e R s m args below meth c H' locs' (cells + rm.cells) (slots + rm.slots) Q (F0 m (pc + 3) ls (v.toList ++ rest)))
    (kt : ∀ (x : Addr) (h' : gh_M) (H' : Heap) (locs' : List Loc), post (.threw x) h' → gh_P D cl b0 h' s.heap H' locs' → gx_WT p l e R s m args below meth c H' locs' (cells + rm.cells) (slots + rm.slots) Q (F0 m pc ls rest) x) : W p l e R s m args below meth c H locs cells slots Q (F0 m pc ls st0) :=
  gh_go (gx_runI hx hb hml ho hC cw hl hin hy1 hcode (gh_blind hXF) (gh_pre hXF hG hK hX) rfl hn hsize hs0 (lv_room hW) hdg hf) hG kr kt
/-- the ends -/
theorem gh_iret {post : Outcome → gh_M → Prop} {v : Int32} {ty : FieldType} (hx : p.tables.exec = Jvm.exec) (hb : c.code = cc) (hr : meth.sig.returnType = some ty) (hlocks : meth.locks = false) (hn : narrow ty (.int v) = .int v) (hG : gh_P D cl b0 h s.heap H locs) (hdg : decode cc pc = .ok (.ireturn, 1)) (hp : post (.returned (some (.int v))) h) :
    W p l e R s m args below meth c H locs cells slots (gx_MQ below (gh_Qc D cl b0 post) args s cells slots (fun q => b0 ≤ q)) (F0 m pc ls [.int v]) :=
  gx_mono gx_MQ_of (W.zret hx hb hr hn (fun t ht _ => ⟨h, hp, by rw [ht]; exact hG.ends⟩) hG.wr hdg hlocks)
theorem gh_lret {post : Outcome → gh_M → Prop} {v : Int64} (hx : p.tables.exec = Jvm.exec) (hb : c.code = cc) (hr : meth.sig.returnType = some .long) (hlocks : meth.locks = false) (hG : gh_P D cl b0 h s.heap H locs) (hdg : decode cc pc = .ok (.lreturn, 1)) (hp : post (.returned (some (.long v))) h) :
    W p l e R s m args below meth c H locs cells slots (gx_MQ below (gh_Qc D cl b0 post) args s cells slots (fun q => b0 ≤ q)) (F0 m pc ls [.long v]) :=
  gx_mono gx_MQ_of (W.lret hx hb hr (fun t ht _ => ⟨h, hp, by rw [ht]; exact hG.ends⟩) hG.wr hdg hlocks)
theorem gh_aret {post : Outcome → gh_M → Prop} {a : Nat} {rt : FieldType} (hx : p.tables.exec = Jvm.exec) (hb : c.code = cc) (hr : meth.sig.returnType = some rt) (hlocks : meth.locks = false) (hrt : (∃ n, rt = .object n) ∨ ∃ t, rt = .array t) (hG : gh_P D cl b0 h s.heap H locs) (hdg : decode cc pc = .ok (.areturn, 1)) (hp : post (.returned (some (.ref a))) h) :
    W p l e R s m args below meth c H locs cells slots (gx_MQ below (gh_Qc D cl b0 post) args s cells slots (fun q => b0 ≤ q)) (F0 m pc ls [.ref a]) :=
  gx_mono gx_MQ_of (W.aret hx hb hr hrt (Or.inr ⟨a, rfl⟩) (fun t ht _ => ⟨h, hp, by rw [ht]; exact hG.ends⟩) hG.wr hdg hlocks)
theorem gh_vret {post : Outcome → gh_M → Prop} (hx : p.tables.exec = Jvm.exec) (hb : c.code = cc) (hr : meth.sig.returnType = none) (hlocks : meth.locks = false) (hG : gh_P D cl b0 h s.heap H locs) (hdg : decode cc pc = .ok (.return_, 1)) (hp : post (.returned none) h) :
    W p l e R s m args below meth c H locs cells slots (gx_MQ below (gh_Qc D cl b0 post) args s cells slots (fun q => b0 ≤ q)) (F0 m pc ls []) :=
  gx_mono gx_MQ_of (W.vret hx hb hr (fun t ht _ => ⟨h, hp, by rw [ht]; exact hG.ends⟩) hG.wr hdg hlocks)
theorem gh_tret {post : Outcome → gh_M → Prop} {a : Nat} {st : List Value} (hx : p.tables.exec = Jvm.exec) (hb : c.code = cc) (hlocks : meth.locks = false) (hout : ∀ x ∈ c.exceptionTable.toList, covers x pc = false) (hG : gh_P D cl b0 h s.heap H locs) (hdg : decode cc pc = .ok (.athrow, 1)) (hp : post (.threw a) h) :
    W p l e R s m args below meth c H locs cells slots (gx_MQ below (gh_Qc D cl b0 post) args s cells slots (fun q => b0 ≤ q)) (F0 m pc ls (.ref a :: st)) :=
  gx_athrow hx hb hout hlocks hdg (fun t ht _ => ⟨h, hp, by rw [ht]; exact hG.ends⟩) hG.wr
theorem gh_pass {post : Outcome → gh_M → Prop} {a : Nat} {st : List Value} (hlocks : meth.locks = false) (hout : ∀ x ∈ c.exceptionTable.toList, covers x pc = false) (hG : gh_P D cl b0 h s.heap H locs) (hp : post (.threw a) h) :
    gx_WT p l e R s m args below meth c H locs cells slots (gx_MQ below (gh_Qc D cl b0 post) args s cells slots (fun q => b0 ≤ q)) (F0 m pc ls st) a :=
  gx_leave hout hlocks (fun t ht _ => ⟨h, hp, by rw [ht]; exact hG.ends⟩) hG.wr
end GI
/-- outcomes -/
def rI (r : Int32) (h : gh_M) : Outcome → gh_M → Prop := fun oc h' => oc = .returned (some (.int r)) ∧ h' = h
def rL (r : Int64) (h : gh_M) : Outcome → gh_M → Prop := fun oc h' => oc = .returned (some (.long r)) ∧ h' = h
def rA (r : Nat) (h : gh_M) : Outcome → gh_M → Prop := fun oc h' => oc = .returned (some (.ref r)) ∧ h' = h
def rV (h : gh_M) : Outcome → gh_M → Prop := fun oc h' => oc = .returned none ∧ h' = h
/-- what is fixed while a method runs -/
def gh_ctx (p : Program) (s : State) (m : MethodId) (args : Array Value) (meth : Method) (c : Code) (cc : ByteArray) (nL : Nat) (ret : Option FieldType) (y : MethodName) (ws : List Cond) : Prop :=
  p.tables.exec = Jvm.exec ∧ c.code = cc ∧ meth.sig.returnType = ret ∧ c.maxLocals = nL ∧ s.vm.findClass y.cls = some m.cls ∧ meth.locks = false ∧ (∀ w ∈ ws, w.before args s = true) ∧ meth.name = y.name
theorem gh_ofW {l : Launch} {D : va_G} {cl : List vw_C} {tys : List (ClassId × FieldType)} {XF : State → Prop} {b0 : Nat} {y : MethodName} {ws : List Cond} {rm : Room} {av : List Value} {h : gh_M} {post : Outcome → gh_M → Prop} {cc : ByteArray} {maxL : Nat} {ret : Option FieldType} (hy : plainName y.cls = true) (hlen : (lg_sl av).length ≤ maxL)
    (body : ∀ p e s m below meth c ls, gh_ctx p s m av.toArray meth c cc maxL ret y (Cond.code y cc maxL ret :: ws) → (∀ x ∈ c.exceptionTable.toList, ∀ pc, covers x pc = false) → lv_has ls maxL (lv_args 0 av) → gh_P D cl b0 h s.heap s.heap [] → va_K D cl tys s → XF s →
      W p l e rm s m av.toArray below meth c s.heap [] 0 0 (gx_MQ below (gh_Qc D cl b0 post) av.toArray s rm.cells rm.slots (fun q => b0 ≤ q)) (F0 m 0 ls [])) : gh_C l D cl tys XF b0 y (Cond.code y cc maxL ret :: ws) rm av h post := by
  refine gx_ofW (cc := cc) (maxL := maxL) (ret := ret) hy rfl ?_
  intro p e s m args below meth c s₁ B hml hno hv
  obtain ⟨rfl, hG, hK, hX⟩ := hv
  have hl := lv_entry av (n := maxL) hlen
  rw [lg_entry_eq]
  exact body p e s m below meth c _ ⟨B.exec, B.bytes, B.returns, hml, findClass_of_methodNamed B.named, B.notSynchronized, atoms_spec (ws := Cond.code y cc maxL ret :: ws) B.pre, (name_of_methodNamed B.named B.method).1⟩ hno hl hG hK hX
theorem gh_ofWh {l : Launch} {D : va_G} {cl : List vw_C} {tys : List (ClassId × FieldType)} {XF : State → Prop} {b0 : Nat} {y : MethodName} {ws : List Cond} {rm : Room} {av : List Value} {h : gh_M} {post : Outcome → gh_M → Prop} {cc : ByteArray} {maxL : Nat} {ret : Option FieldType} {hs : List (Nat × Nat × Nat × Nat)} (hy : plainName y.cls = true) (hlen : (lg_sl av).length ≤ maxL)
    (body : ∀ p e s m below meth c ls, gh_ctx p s m av.toArray meth c cc maxL ret y (Cond.codeWith y cc maxL ret hs :: ws) → c.exceptionTable.toList = tableOf hs → lv_has ls maxL (lv_args 0 av) → gh_P D cl b0 h s.heap s.heap [] → va_K D cl tys s → XF s →
      W p l e rm s m av.toArray below meth c s.heap [] 0 0 (gx_MQ below (gh_Qc D cl b0 post) av.toArray s rm.cells rm.slots (fun q => b0 ≤ q)) (F0 m 0 ls [])) : gh_C l D cl tys XF b0 y (Cond.codeWith y cc maxL ret hs :: ws) rm av h post := by
  refine gx_ofWh (cc := cc) (maxL := maxL) (ret := ret) hy rfl ?_
  intro p e s m args below meth c s₁ B hml hno hv
  obtain ⟨rfl, hG, hK, hX⟩ := hv
  have hl := lv_entry av (n := maxL) hlen
  rw [lg_entry_eq]
  exact body p e s m below meth c _ ⟨B.exec, B.bytes, B.returns, hml, findClass_of_methodNamed B.named, B.notSynchronized, atoms_spec (ws := Cond.codeWith y cc maxL ret hs :: ws) B.pre, (name_of_methodNamed B.named B.method).1⟩ hno hl hG hK hX
end
