section
-- ===== PART A: goes FIRST, ahead of the names: the tables' words, and 'selects' of the private methods out of them =====
/-- a private method of a class that the tables say can be made, by its rows of tables_1 -/
def lw_okq (q : MethodName × Nat) : Prop := (q.1.cls ≠ "java/lang/invoke/MethodHandle" ∧ q.1.cls ≠ "java/lang/invoke/VarHandle") ∧ Cond.instantiable q.1.cls q.2 ∈ tables_1 ∧ Cond.privateMethod q.1 ∈ tables_1 ∧ Cond.instanceMethod q.1 ∈ tables_1
theorem lw_p0 : lw_okq (⟨"CarvedSolids$Planes", "firstOneWith", "(LCarvedSolids$Plane;)I"⟩, 3) := ⟨⟨by decide +kernel, by decide +kernel⟩, List.mem_of_getElem? (i := 24) (by decide +kernel), List.mem_of_getElem? (i := 56) (by decide +kernel), List.mem_of_getElem? (i := 57) (by decide +kernel)⟩
theorem lw_p1 : lw_okq (⟨"java/lang/Throwable", "fillInStackTrace", "(I)Ljava/lang/Throwable;"⟩, 6) := ⟨⟨by decide +kernel, by decide +kernel⟩, List.mem_of_getElem? (i := 183) (by decide +kernel), List.mem_of_getElem? (i := 181) (by decide +kernel), List.mem_of_getElem? (i := 182) (by decide +kernel)⟩
theorem lw_p2 : lw_okq (⟨"CarvedSolids", "requireRoom", "()V"⟩, 4) := ⟨⟨by decide +kernel, by decide +kernel⟩, List.mem_of_getElem? (i := 16) (by decide +kernel), List.mem_of_getElem? (i := 247) (by decide +kernel), List.mem_of_getElem? (i := 248) (by decide +kernel)⟩
theorem lw_p3 : lw_okq (⟨"CarvedSolids", "requireSolid", "()V"⟩, 4) := ⟨⟨by decide +kernel, by decide +kernel⟩, List.mem_of_getElem? (i := 16) (by decide +kernel), List.mem_of_getElem? (i := 280) (by decide +kernel), List.mem_of_getElem? (i := 281) (by decide +kernel)⟩
theorem lw_p4 : lw_okq (⟨"CarvedSolids", "topHas", "(I)Z"⟩, 4) := ⟨⟨by decide +kernel, by decide +kernel⟩, List.mem_of_getElem? (i := 16) (by decide +kernel), List.mem_of_getElem? (i := 352) (by decide +kernel), List.mem_of_getElem? (i := 353) (by decide +kernel)⟩
theorem lw_p5 : lw_okq (⟨"CarvedSolids", "lookAtSpot", "(I)I"⟩, 4) := ⟨⟨by decide +kernel, by decide +kernel⟩, List.mem_of_getElem? (i := 16) (by decide +kernel), List.mem_of_getElem? (i := 394) (by decide +kernel), List.mem_of_getElem? (i := 395) (by decide +kernel)⟩
theorem lw_p6 : lw_okq (⟨"CarvedSolids$Planes", "halfSpacesAlong", "(IZ)I"⟩, 3) := ⟨⟨by decide +kernel, by decide +kernel⟩, List.mem_of_getElem? (i := 24) (by decide +kernel), List.mem_of_getElem? (i := 403) (by decide +kernel), List.mem_of_getElem? (i := 404) (by decide +kernel)⟩
theorem lw_p7 : lw_okq (⟨"CarvedSolids", "isEntry", "(IIII)Z"⟩, 4) := ⟨⟨by decide +kernel, by decide +kernel⟩, List.mem_of_getElem? (i := 16) (by decide +kernel), List.mem_of_getElem? (i := 432) (by decide +kernel), List.mem_of_getElem? (i := 433) (by decide +kernel)⟩
theorem lw_p8 : lw_okq (⟨"CarvedSolidsModel", "look", "(IIII)V"⟩, 9) := ⟨⟨by decide +kernel, by decide +kernel⟩, List.mem_of_getElem? (i := 458) (by decide +kernel), List.mem_of_getElem? (i := 541) (by decide +kernel), List.mem_of_getElem? (i := 542) (by decide +kernel)⟩
theorem lw_p9 : lw_okq (⟨"CarvedSolidsModel", "isOnGiven", "()Z"⟩, 9) := ⟨⟨by decide +kernel, by decide +kernel⟩, List.mem_of_getElem? (i := 458) (by decide +kernel), List.mem_of_getElem? (i := 545) (by decide +kernel), List.mem_of_getElem? (i := 546) (by decide +kernel)⟩
theorem lw_p10 : lw_okq (⟨"CarvedSolidsModel", "choice", "()I"⟩, 9) := ⟨⟨by decide +kernel, by decide +kernel⟩, List.mem_of_getElem? (i := 458) (by decide +kernel), List.mem_of_getElem? (i := 552) (by decide +kernel), List.mem_of_getElem? (i := 553) (by decide +kernel)⟩
theorem lw_p11 : lw_okq (⟨"CarvedSolidsModel", "topHas", "(I)Z"⟩, 9) := ⟨⟨by decide +kernel, by decide +kernel⟩, List.mem_of_getElem? (i := 458) (by decide +kernel), List.mem_of_getElem? (i := 556) (by decide +kernel), List.mem_of_getElem? (i := 557) (by decide +kernel)⟩
theorem lw_p12 : lw_okq (⟨"CarvedSolidsModel", "sideOf", "(IIII)I"⟩, 9) := ⟨⟨by decide +kernel, by decide +kernel⟩, List.mem_of_getElem? (i := 458) (by decide +kernel), List.mem_of_getElem? (i := 564) (by decide +kernel), List.mem_of_getElem? (i := 565) (by decide +kernel)⟩
theorem lw_p13 : lw_okq (⟨"CarvedSolidsModel", "alike", "(II)I"⟩, 9) := ⟨⟨by decide +kernel, by decide +kernel⟩, List.mem_of_getElem? (i := 458) (by decide +kernel), List.mem_of_getElem? (i := 568) (by decide +kernel), List.mem_of_getElem? (i := 569) (by decide +kernel)⟩
theorem lw_p14 : lw_okq (⟨"CarvedSolidsModel", "normal", "(II)I"⟩, 9) := ⟨⟨by decide +kernel, by decide +kernel⟩, List.mem_of_getElem? (i := 458) (by decide +kernel), List.mem_of_getElem? (i := 572) (by decide +kernel), List.mem_of_getElem? (i := 573) (by decide +kernel)⟩
theorem lw_p15 : lw_okq (⟨"CarvedSolidsModel", "choiceAt", "(IZ)I"⟩, 9) := ⟨⟨by decide +kernel, by decide +kernel⟩, List.mem_of_getElem? (i := 458) (by decide +kernel), List.mem_of_getElem? (i := 576) (by decide +kernel), List.mem_of_getElem? (i := 577) (by decide +kernel)⟩
def lw_privs_1 : List (MethodName × Nat) := [(⟨"CarvedSolids$Planes", "firstOneWith", "(LCarvedSolids$Plane;)I"⟩, 3), (⟨"java/lang/Throwable", "fillInStackTrace", "(I)Ljava/lang/Throwable;"⟩, 6), (⟨"CarvedSolids", "requireRoom", "()V"⟩, 4), (⟨"CarvedSolids", "requireSolid", "()V"⟩, 4), (⟨"CarvedSolids", "topHas", "(I)Z"⟩, 4), (⟨"CarvedSolids", "lookAtSpot", "(I)I"⟩, 4), (⟨"CarvedSolids$Planes", "halfSpacesAlong", "(IZ)I"⟩, 3), (⟨"CarvedSolids", "isEntry", "(IIII)Z"⟩, 4), (⟨"CarvedSolidsModel", "look", "(IIII)V"⟩, 9), (⟨"CarvedSolidsModel", "isOnGiven", "()Z"⟩, 9), (⟨"CarvedSolidsModel", "choice", "()I"⟩, 9), (⟨"CarvedSolidsModel", "topHas", "(I)Z"⟩, 9), (⟨"CarvedSolidsModel", "sideOf", "(IIII)I"⟩, 9), (⟨"CarvedSolidsModel", "alike", "(II)I"⟩, 9), (⟨"CarvedSolidsModel", "normal", "(II)I"⟩, 9), (⟨"CarvedSolidsModel", "choiceAt", "(IZ)I"⟩, 9)]
theorem lw_r1 : ∀ q ∈ lw_privs_1, lw_okq q := List.forall_mem_cons.mpr ⟨lw_p0, List.forall_mem_cons.mpr ⟨lw_p1, List.forall_mem_cons.mpr ⟨lw_p2, List.forall_mem_cons.mpr ⟨lw_p3, List.forall_mem_cons.mpr ⟨lw_p4, List.forall_mem_cons.mpr ⟨lw_p5, List.forall_mem_cons.mpr ⟨lw_p6, List.forall_mem_cons.mpr ⟨lw_p7, List.forall_mem_cons.mpr ⟨lw_p8, List.forall_mem_cons.mpr ⟨lw_p9, List.forall_mem_cons.mpr ⟨lw_p10, List.forall_mem_cons.mpr ⟨lw_p11, List.forall_mem_cons.mpr ⟨lw_p12, List.forall_mem_cons.mpr ⟨lw_p13, List.forall_mem_cons.mpr ⟨lw_p14, List.forall_mem_cons.mpr ⟨lw_p15, fun _ h => absurd h List.not_mem_nil⟩⟩⟩⟩⟩⟩⟩⟩⟩⟩⟩⟩⟩⟩⟩⟩
theorem lw_p16 : lw_okq (⟨"CarvedSolidsModel", "meet", "(III)Z"⟩, 9) := ⟨⟨by decide +kernel, by decide +kernel⟩, List.mem_of_getElem? (i := 458) (by decide +kernel), List.mem_of_getElem? (i := 584) (by decide +kernel), List.mem_of_getElem? (i := 585) (by decide +kernel)⟩
theorem lw_p17 : lw_okq (⟨"CarvedSolidsModel", "isCrossed", "(I)Z"⟩, 9) := ⟨⟨by decide +kernel, by decide +kernel⟩, List.mem_of_getElem? (i := 458) (by decide +kernel), List.mem_of_getElem? (i := 588) (by decide +kernel), List.mem_of_getElem? (i := 589) (by decide +kernel)⟩
theorem lw_p18 : lw_okq (⟨"CarvedSolidsModel", "isInBox", "(I)Z"⟩, 9) := ⟨⟨by decide +kernel, by decide +kernel⟩, List.mem_of_getElem? (i := 458) (by decide +kernel), List.mem_of_getElem? (i := 592) (by decide +kernel), List.mem_of_getElem? (i := 593) (by decide +kernel)⟩
theorem lw_p19 : lw_okq (⟨"CarvedSolidsModel", "choiceBehind", "(IJJ)I"⟩, 9) := ⟨⟨by decide +kernel, by decide +kernel⟩, List.mem_of_getElem? (i := 458) (by decide +kernel), List.mem_of_getElem? (i := 601) (by decide +kernel), List.mem_of_getElem? (i := 602) (by decide +kernel)⟩
def lw_privs_2 : List (MethodName × Nat) := [(⟨"CarvedSolidsModel", "meet", "(III)Z"⟩, 9), (⟨"CarvedSolidsModel", "isCrossed", "(I)Z"⟩, 9), (⟨"CarvedSolidsModel", "isInBox", "(I)Z"⟩, 9), (⟨"CarvedSolidsModel", "choiceBehind", "(IJJ)I"⟩, 9)]
theorem lw_r2 : ∀ q ∈ lw_privs_2, lw_okq q := List.forall_mem_cons.mpr ⟨lw_p16, List.forall_mem_cons.mpr ⟨lw_p17, List.forall_mem_cons.mpr ⟨lw_p18, List.forall_mem_cons.mpr ⟨lw_p19, fun _ h => absurd h List.not_mem_nil⟩⟩⟩⟩
def lw_privs : List (MethodName × Nat) := lw_privs_1 ++ (lw_privs_2)
def lw_tbl : List Cond := k2_sels lw_privs ++ tables_1
theorem lw_privs_ok : ∀ q ∈ lw_privs, lw_okq q := by
  show ∀ q ∈ lw_privs_1 ++ (lw_privs_2), lw_okq q
  exact List.forall_mem_append.mpr ⟨lw_r1, lw_r2⟩
end
section
/-! ===== BEGIN words of one list among another's, by their places ===== -/
theorem goodIn_r {big : List Cond} (ws : List Cond) (ps : List Nat) (hp : ws = ps.filterMap (fun i => big[i]?)) (h : ws.all goodWord = true) : GoodIn big ws := by
  intro w hw
  have h1 := List.all_eq_true.mp h w hw
  rw [hp] at hw
  obtain ⟨i, -, hi⟩ := List.mem_filterMap.mp hw
  have hm : w ∈ big := by first | exact List.mem_of_getElem? hi | exact List.getElem?_mem hi
  exact ⟨hm, good_of_word h1⟩
theorem goodIn_app {big a b : List Cond} (ha : GoodIn big a) (hb : GoodIn big b) : GoodIn big (a ++ b) := fun w h => (List.mem_append.mp h).elim (ha w) (hb w)
theorem goodIn_ca {big a b : List Cond} {c : Cond} (ha : GoodIn big (c :: a)) (hb : GoodIn big b) : GoodIn big (c :: (a ++ b)) := fun w h => (List.mem_cons.mp h).elim (fun e => ha w (List.mem_cons.mpr (Or.inl e))) (fun h => (List.mem_append.mp h).elim (fun h => ha w (List.mem_cons.mpr (Or.inr h))) (hb w))
theorem goodIn_sub {big ws : List Cond} (hm : ∀ w ∈ ws, w ∈ big) (h : ws.all goodWord = true) : GoodIn big ws := fun w hw => ⟨hm w hw, good_of_word (List.all_eq_true.mp h w hw)⟩
/-! ===== END ===== -/

/-! ===== BEGIN exceptions that leave a method, and their catching by the caller (launches without stack traces) ===== -/
section VXA
/-! The laws vx_back, vx_callV, vx_callS, vx_callSW, vx_throw0, vx_throwS follow proofs of the library, with one case more: JvmDerived/Free/Laws.lean (Back.of_free), Shelf42/LK1.lean (callV, callS), Shelf/KitTraced.lean (throwNew0V, throwNewS). -/
/-- where a method has thrown q: the class by its name, the cell, what was written, the world -/
def vx_T (XC : String → State → State → Prop) (st : State) (q : Addr) (t : State) (mc ms : Nat) (free : Addr → Prop) : Prop :=
  ∃ (E : String) (ce : Cell) (L : List Loc), XC E st t ∧ t.heap[q]? = some ce ∧ ce.vm = .none ∧ st.vm.findClass E = some ce.cls ∧ st.WarmedH t.vm ∧ st.sameButNew ({ t with vm := st.vm } : State) L mc ms ∧ ∀ z ∈ L, free z.base
def vx_Q (Qc : Array Value → State → Outcome → State → Prop) (XC : String → State → State → Prop) (mc ms : Nat) (free : Addr → Prop) : Array Value → State → Outcome → State → Prop := fun a st o t =>
  (Qc a st o t ∧ ∃ L, FrameEnd st o t L mc ms ∧ ∀ q ∈ L, free q.base) ∨ ∃ q, o = .threw q ∧ vx_T XC st q t mc ms free
/-- a callee that returns or throws -/
def vx_Met (l : Launch) (y : MethodName) (ws : List Cond) (rm : Room) (Pc : Array Value → State → Prop) (Qc : Array Value → State → Outcome → State → Prop) (XC : String → State → State → Prop) (mc ms : Nat) (free : Addr → Prop) : Prop :=
  MetFree l y (headSpec ws rm) Pc (fun _ _ _ _ _ => True) (vx_Q Qc XC mc ms free)
def vx_Post (XC : String → State → State → Prop) (mc ms : Nat) (free : Addr → Prop) : Pt → Array Value → Addr → Pt → Prop := fun A a q B =>
  ∃ (g : JFrame) (mk : MethodId) (t : State) (L : List Loc) (E : String) (ce : Cell), B.U.heap = t.heap ∧ B.U.vm = t.vm ∧ XC E (A.U.calling g mk a) t ∧ t.heap[q]? = some ce ∧ ce.vm = .none ∧ A.U.vm.findClass E = some ce.cls ∧ B.locs = A.locs ++ L ∧ (∀ z ∈ L, free z.base) ∧ B.cells = A.cells + mc ∧ B.slots = A.slots + ms
def vx_Back (l : Launch) (R : Room) (p : Program) (e : Env) (below : List Frame) (s : State) (sargs : Array Value) (y : MethodName) (len W9 : Nat)
    (Pre : Pt → Array Value → Prop) (Post : Pt → Array Value → Option Value → Pt → Prop) (PostX : Pt → Array Value → Addr → Pt → Prop) : Prop :=
  ∀ (m : MethodId) (meth : Method) (c : Code) (A : Pt) (g : JFrame) (ig : Instr) (mk : MethodId) (a : Array Value),
    Stand p l e R s m sargs below meth c A.U A.locs A.cells A.slots → g.method = m → g.locals.size = c.maxLocals → decode c.code g.pc = .ok (ig, len) →
    2 * g.monitorRoom + (g.stack.map fun v => v.category).sum ≤ W9 → A.U.methodNamed? y = some mk → Pre A a →
    (∃ (v : Option Value) (B : Pt), Stand p l e R s m sargs below meth c B.U B.locs B.cells B.slots ∧ Post A a v B ∧
      Steps p.tables e below (doInvoke e (A.U.setTop g) [] mk a).1 (B.U.setTop { g with pc := g.pc + len, stack := v.toList ++ g.stack })) ∨
    (∃ (q : Addr) (B : Pt), Stand p l e R s m sargs below meth c B.U B.locs B.cells B.slots ∧ PostX A a q B ∧
      Steps p.tables e below (doInvoke e (A.U.setTop g) [] mk a).1 ((B.U.setTop g).pushFrame (.throwing q)))
section Payer
variable {l : Launch} {R : Room} {p : Program} {e : Env} {below : List Frame} {s : State} {sargs : Array Value} {y : MethodName} {len W9 : Nat}
theorem vx_back {ws : List Cond} {rm : Room} {Pc : Array Value → State → Prop} {Qc : Array Value → State → Outcome → State → Prop} {XC : String → State → State → Prop} {mc ms : Nat} {free : Addr → Prop} {bytes : ByteArray} {maxL : Nat} {ret : Option FieldType}
    (hM : vx_Met l y ws rm Pc Qc XC mc ms free) (hblind : FrameBlind Pc) (hrc : rm.cells = mc) (hrs : rm.slots = ms)
    (hframes : rm.frames + 1 ≤ R.frames) (hlocals : W9 + (maxL + 11) + rm.locals ≤ R.locals)
    (hws : ∀ w ∈ ws, ∀ a' U, s.WarmedH U.vm → w.before a' U = true) (hcode : Cond.code y bytes maxL ret ∈ ws) (hinit : ∀ a' U, s.WarmedH U.vm → (Cond.initialized y.cls).before a' U = true) :
    vx_Back l R p e below s sargs y len W9 (PreOf R mc ms Pc) (PostOf Qc mc ms free) (vx_Post XC mc ms free) := by
  intro m meth c A g ig mk a X hg hsize hdg hW hn hp
  have h1 : (headSpec ws rm).pre.before a A.U = true := atoms_intro fun w hw => hws w hw _ _ X.warmed
  have h2 : (Cond.code y bytes maxL ret).before a A.U = true := hws _ hcode _ _ X.warmed
  have h3 : (Cond.initialized y.cls).before a A.U = true := hinit _ _ X.warmed
  have h4 : A.cells + (headSpec ws rm).room.cells ≤ R.cells := by rw [show (headSpec ws rm).room.cells = mc from hrc]; exact hp.1
  have h5 : A.slots + (headSpec ws rm).room.slots ≤ R.slots := by rw [show (headSpec ws rm).room.slots = ms from hrs]; exact hp.2.1
  have hPc : Pc a (A.U.calling g mk a) := hblind _ _ _ _ hp.2.2
  obtain ⟨U, Ls, c0, s0⟩ := A
  dsimp only [Pt.U, Pt.locs, Pt.cells, Pt.slots] at h1 h2 h3 h4 h5 X hn hPc ⊢
  obtain ⟨methY, cY, hmY, hcY, -, hlY, -, -, -, -⟩ := Cond.code_spec hn h2
  obtain ⟨kY, hkY, -⟩ := className_of_methodNamed hn
  have hinitY : kY.init = .initialized := Cond.initialized_spec (findClass_of_methodNamed hn) hkY h3
  have h : At U g.method c below := by rw [hg]; exact X.here
  have hlocals9 : W9 + (maxL + 11) + (headSpec ws rm).room.locals ≤ R.locals := hlocals
  have happ : (headSpec ws rm).appliesLoose y e.platform (U.calling g mk a) = true :=
    Spec.appliesLoose_calling (g := g) h hdg hn hkY hinitY
      (X.room_calling (g := g) (R' := (headSpec ws rm).room) hsize hmY hcY hframes (by rw [hlY]; omega) h4 h5) h1
  obtain ⟨mid, hmid⟩ := h.above
  have hfr : (U.setTop g).frames = (.java g :: mid) ++ below := by rw [State.frames_setTop' g h.top, hmid]; rfl
  obtain ⟨o, s₂, hsteps, -, hend, hq⟩ := Steps.callFree hM p X.admits X.cas X.clock (acts := []) hfr happ hPc trivial
  have hq' : vx_Q Qc XC mc ms free a (U.calling g mk a) o s₂ := hq
  rw [State.frames_setTop' g h.top] at hend
  obtain ⟨g₀, hg0⟩ := Option.isSome_iff_exists.mp h.top
  obtain ⟨r, hr⟩ := State.topJava?_eq_some.mp hg0
  have hr' : (({ U with heap := s₂.heap, slotsUsed := s₂.slotsUsed } : State).setVm s₂.vm).frames = .java g₀ :: r := hr
  rcases hq' with ⟨hqc, L, hfe, hL⟩ | ⟨q, rfl, E, ce, L, hx, hce, hcv, hcl, hW₂, hsm, hL⟩
  · obtain ⟨⟨v, rfl⟩, hW₂, e2, q2, q3, q4, q5, q6⟩ := id hfe
    have e3 : s₂ = ({ (U.calling g mk a).setFrames s₂.frames with heap := s₂.heap, slotsUsed := s₂.slotsUsed } : State).setVm s₂.vm := by
      have : s₂ = ({ s₂ with vm := (U.calling g mk a).vm } : State).setVm s₂.vm := rfl
      rw [e2] at this
      exact this
    obtain ⟨c₂, i₂, len₂, hc₂, hd₂, hf₂⟩ := hend
    have hW' : U.WarmedH s₂.vm := hW₂
    have hcc : c₂ = c := by
      have h1 : s₂.code? g.method = U.code? g.method := by
        rw [State.code?_eq, State.code?_eq, hW'.alike.method?]
      exact Option.some.inj (hc₂.symm.trans (h1.trans h.code))
    subst hcc
    have hlen : len₂ = len := by rw [hdg] at hd₂; cases hd₂; rfl
    subst hlen
    have hs₂ : s₂ = (({ U with heap := s₂.heap, slotsUsed := s₂.slotsUsed } : State).setVm s₂.vm).setTop { g with pc := g.pc + len₂, stack := v.toList ++ g.stack } := by
      refine e3.trans ?_
      rw [hf₂, State.calling_eq h.top, State.setFrames_setFrames, State.setTop_of_frames _ hr', hr]
      rfl
    have hsame : U.sameButNew ({ U with heap := s₂.heap, slotsUsed := s₂.slotsUsed } : State) L mc ms := by
      refine ⟨?_, q2, q3, q4, q5, q6⟩
      obtain ⟨t, ht, -⟩ := State.frames_cons hr
      show ({ U with heap := s₂.heap, slotsUsed := s₂.slotsUsed } : State) = { U.setFrames U.frames with heap := s₂.heap, slotsUsed := s₂.slotsUsed }
      rw [State.setFrames_self ht]
    subst hg
    refine Or.inl ⟨v, ⟨(({ U with heap := s₂.heap, slotsUsed := s₂.slotsUsed } : State).setVm s₂.vm), Ls ++ L, c0 + mc, s0 + ms⟩,
      ⟨X.admits, X.cas, X.clock, X.frames, X.room, X.hears, X.method, X.code, (X.here.setHeapUsed s₂.heap s₂.slotsUsed).setVm hW'.alike, X.tail, State.WarmedH.trans X.warmed hW', X.limits, X.bytes, X.same.trans (hsame.setVm s.vm)⟩,
      ⟨g, mk, s₂, L, rfl, rfl, hqc, rfl, hL, rfl, rfl⟩, ?_⟩
    show Steps p.tables e below _ ((({ U with heap := s₂.heap, slotsUsed := s₂.slotsUsed } : State).setVm s₂.vm).setTop { g with pc := g.pc + len₂, stack := v.toList ++ g.stack })
    rw [← hs₂]
    exact hsteps
  · obtain ⟨e2, q2, q3, q4, q5, q6⟩ := id hsm
    have e3 : s₂ = ({ (U.calling g mk a).setFrames s₂.frames with heap := s₂.heap, slotsUsed := s₂.slotsUsed } : State).setVm s₂.vm := by
      have : s₂ = ({ s₂ with vm := (U.calling g mk a).vm } : State).setVm s₂.vm := rfl
      rw [e2] at this
      exact this
    have hf₂ : s₂.frames = .throwing q :: .java g :: U.frames.tail := hend
    have hW' : U.WarmedH s₂.vm := hW₂
    have hs₂ : s₂ = ((({ U with heap := s₂.heap, slotsUsed := s₂.slotsUsed } : State).setVm s₂.vm).setTop g).pushFrame (.throwing q) := by
      refine e3.trans ?_
      rw [hf₂, State.calling_eq h.top, State.setFrames_setFrames, State.pushFrame, State.frames_setTop _ hr', State.setTop_of_frames _ hr', State.setFrames_setFrames, hr]
      rfl
    have hsame : U.sameButNew ({ U with heap := s₂.heap, slotsUsed := s₂.slotsUsed } : State) L mc ms := by
      refine ⟨?_, q2, q3, q4, q5, q6⟩
      obtain ⟨t, ht, -⟩ := State.frames_cons hr
      show ({ U with heap := s₂.heap, slotsUsed := s₂.slotsUsed } : State) = { U.setFrames U.frames with heap := s₂.heap, slotsUsed := s₂.slotsUsed }
      rw [State.setFrames_self ht]
    subst hg
    refine Or.inr ⟨q, ⟨(({ U with heap := s₂.heap, slotsUsed := s₂.slotsUsed } : State).setVm s₂.vm), Ls ++ L, c0 + mc, s0 + ms⟩,
      ⟨X.admits, X.cas, X.clock, X.frames, X.room, X.hears, X.method, X.code, (X.here.setHeapUsed s₂.heap s₂.slotsUsed).setVm hW'.alike, X.tail, State.WarmedH.trans X.warmed hW', X.limits, X.bytes, X.same.trans (hsame.setVm s.vm)⟩,
      ⟨g, mk, s₂, L, E, ce, rfl, rfl, hx, hce, hcv, hcl, rfl, hL, rfl, rfl⟩, ?_⟩
    show Steps p.tables e below _ (((({ U with heap := s₂.heap, slotsUsed := s₂.slotsUsed } : State).setVm s₂.vm).setTop g).pushFrame (.throwing q))
    rw [← hs₂]
    exact hsteps
end Payer
section Calls
variable {p : Program} {l : Launch} {e : Env} {R : Room} {s : State} {m : MethodId} {args : Array Value} {below : List Frame} {meth : Method} {c : Code} {T : State} {locs : List Loc} {cells slots : Nat}
theorem vx_callV (X : Stand p l e R s m args below meth c T locs cells slots) (hexec : p.tables.exec = Jvm.exec) {own C : String} {index : Nat} {y : MethodName} {bytes : ByteArray} {maxL : Nat} {ret : Option FieldType}
    (hown : s.vm.findClass own = some m.cls) (hlink : (Cond.methodLink own index y).before args s = true) (hinst : (Cond.instanceMethod y).before args s = true) (hsel : (Cond.selects C y y).before args s = true)
    (hcode : (Cond.code y bytes maxL ret).before args s = true) (hy : y.cls ≠ "java/lang/invoke/MethodHandle" ∧ y.cls ≠ "java/lang/invoke/VarHandle")
    {W9 : Nat} {Pre : Pt → Array Value → Prop} {Post : Pt → Array Value → Option Value → Pt → Prop} {PostX : Pt → Array Value → Addr → Pt → Prop} (hK : vx_Back l R p e below s args y 3 W9 Pre Post PostX)
    {b : Addr} {cellB : Cell} (hcell : T.heap[b]? = some cellB) (hobj : cellB.vm.isStatics = false) (hcls : s.vm.findClass C = some cellB.cls)
    {g : JFrame} (hg : g.method = m) (hsize : g.locals.size = c.maxLocals) {argsL rest : List Value} (hlen : ∀ sig, parseMethodDescriptor y.desc = some sig → argsL.length = sig.parameters.length)
    (hstack : g.stack = argsL.reverse ++ .ref b :: rest) (hW : 2 * g.monitorRoom + (rest.map fun v => v.category).sum ≤ W9) (hdg : decode c.code g.pc = .ok (.invokevirtual index, 3))
    (hpre : ∀ vm₁, s.WarmedH vm₁ → Pre ⟨T.setVm vm₁, locs, cells, slots⟩ (Value.ref b :: argsL).toArray) :
    (∃ (v : Option Value) (vm₁ : Vm) (B : Pt), s.WarmedH vm₁ ∧ Stand p l e R s m args below meth c B.U B.locs B.cells B.slots ∧ Post ⟨T.setVm vm₁, locs, cells, slots⟩ (Value.ref b :: argsL).toArray v B ∧
      ∀ target, Steps p.tables e below (B.U.setTop { g with pc := g.pc + 3, stack := v.toList ++ rest }) target → Steps p.tables e below (T.setTop g) target) ∨
    (∃ (q : Addr) (vm₁ : Vm) (B : Pt), s.WarmedH vm₁ ∧ Stand p l e R s m args below meth c B.U B.locs B.cells B.slots ∧ PostX ⟨T.setVm vm₁, locs, cells, slots⟩ (Value.ref b :: argsL).toArray q B ∧
      Steps p.tables e below (T.setTop g) ((B.U.setTop { g with stack := rest }).pushFrame (.throwing q))) := by
  obtain ⟨mk, methM, hnamed, hmethM, hstM, habM⟩ := Cond.instanceMethod_spec hinst
  obtain ⟨methM', cM, hmethM', -, -, -, -, -, -, hsigM⟩ := Cond.code_spec hnamed hcode
  cases hmethM.symm.trans hmethM'
  obtain ⟨c2, r2, m2, q1, q2, q3, q4, kP, hkP, hkPi⟩ := Cond.selects_spec hsel
  cases hcls.symm.trans q1
  cases (State.methodFound?_of_named hnamed hy).symm.trans q2
  cases hnamed.symm.trans q3
  have hselP : selectMethod e.platform s.vm cellB.cls mk = .method mk := by rw [Launch.admits_selectMethod X.admits]; exact q4
  obtain ⟨vm₁, X₁, hstep₁⟩ := X.invokevirtual hexec hown hlink hnamed hmethM hstM hkP hkPi hy (a := b) (cell := cellB) hcell
    (fun z h => by rw [h] at hobj; cases hobj) hselP hmethM habM hkP hkPi (g := g) hg (argsL := argsL) (rest := rest) (hlen _ hsigM) hstack hdg
  rcases hK m meth c ⟨T.setVm vm₁, locs, cells, slots⟩ { g with stack := rest } (.invokevirtual index) mk (Value.ref b :: argsL).toArray X₁ hg hsize hdg hW (X₁.named hnamed) (hpre vm₁ X₁.warmed) with ⟨v, B, X', hpost, hsteps⟩ | ⟨q, B, X', hpost, hsteps⟩
  · exact Or.inl ⟨v, vm₁, B, X₁.warmed, X', hpost, fun target h => hstep₁ _ fun acts => by rw [doInvoke_state]; exact hsteps.trans h⟩
  · exact Or.inr ⟨q, vm₁, B, X₁.warmed, X', hpost, hstep₁ _ fun acts => by rw [doInvoke_state]; exact hsteps⟩
theorem vx_callS (X : Stand p l e R s m args below meth c T locs cells slots) (hexec : p.tables.exec = Jvm.exec) {own : String} {index : Nat} {y : MethodName} {bytes : ByteArray} {maxL : Nat} {ret : Option FieldType}
    (hown : s.vm.findClass own = some m.cls) (hlink : (Cond.methodLink own index y).before args s = true) (hstat : (Cond.static y).before args s = true) (hinit : (Cond.initialized y.cls).before args s = true)
    (hcode : (Cond.code y bytes maxL ret).before args s = true) (hy : y.cls ≠ "java/lang/invoke/MethodHandle" ∧ y.cls ≠ "java/lang/invoke/VarHandle")
    {W9 : Nat} {Pre : Pt → Array Value → Prop} {Post : Pt → Array Value → Option Value → Pt → Prop} {PostX : Pt → Array Value → Addr → Pt → Prop} (hK : vx_Back l R p e below s args y 3 W9 Pre Post PostX)
    {g : JFrame} (hg : g.method = m) (hsize : g.locals.size = c.maxLocals) {argsL rest : List Value} (hlen : ∀ sig, parseMethodDescriptor y.desc = some sig → argsL.length = sig.parameters.length)
    (hstack : g.stack = argsL.reverse ++ rest) (hW : 2 * g.monitorRoom + (rest.map fun v => v.category).sum ≤ W9) (hdg : decode c.code g.pc = .ok (.invokestatic index, 3))
    (hpre : ∀ vm₁, s.WarmedH vm₁ → Pre ⟨T.setVm vm₁, locs, cells, slots⟩ argsL.toArray) :
    (∃ (v : Option Value) (vm₁ : Vm) (B : Pt), s.WarmedH vm₁ ∧ Stand p l e R s m args below meth c B.U B.locs B.cells B.slots ∧ Post ⟨T.setVm vm₁, locs, cells, slots⟩ argsL.toArray v B ∧
      ∀ target, Steps p.tables e below (B.U.setTop { g with pc := g.pc + 3, stack := v.toList ++ rest }) target → Steps p.tables e below (T.setTop g) target) ∨
    (∃ (q : Addr) (vm₁ : Vm) (B : Pt), s.WarmedH vm₁ ∧ Stand p l e R s m args below meth c B.U B.locs B.cells B.slots ∧ PostX ⟨T.setVm vm₁, locs, cells, slots⟩ argsL.toArray q B ∧
      Steps p.tables e below (T.setTop g) ((B.U.setTop { g with stack := rest }).pushFrame (.throwing q))) := by
  obtain ⟨mk, hnamed⟩ := Cond.code_named hcode
  obtain ⟨methM, cM, hmethM, -, -, -, -, -, -, hsigM⟩ := Cond.code_spec hnamed hcode
  have hstatic : methM.isStatic = true := Cond.static_spec hnamed hmethM hstat
  obtain ⟨kP, hkP, -⟩ := className_of_methodNamed hnamed
  have hinitP : kP.init = .initialized := Cond.initialized_spec (findClass_of_methodNamed hnamed) hkP hinit
  obtain ⟨vm₁, X₁, hstep₁⟩ := X.invokestatic hexec hown hlink hnamed hmethM hstatic hkP hinitP hy (g := g) hg (argsL := argsL) (rest := rest) (hlen _ hsigM) hstack hdg
  rcases hK m meth c ⟨T.setVm vm₁, locs, cells, slots⟩ { g with stack := rest } (.invokestatic index) mk argsL.toArray X₁ hg hsize hdg hW (X₁.named hnamed) (hpre vm₁ X₁.warmed) with ⟨v, B, X', hpost, hsteps⟩ | ⟨q, B, X', hpost, hsteps⟩
  · exact Or.inl ⟨v, vm₁, B, X₁.warmed, X', hpost, fun target h => hstep₁ _ fun acts => by rw [doInvoke_state]; exact hsteps.trans h⟩
  · exact Or.inr ⟨q, vm₁, B, X₁.warmed, X', hpost, hstep₁ _ fun acts => by rw [doInvoke_state]; exact hsteps⟩
end Calls
theorem vx_cls {s : State} {T : State} {vm₁ : Vm} {E : String} {k : ClassId} (hW : s.WarmedH vm₁) (h : (T.setVm vm₁).vm.findClass E = some k) : s.vm.findClass E = some k := by
  have h1 : vm₁.findClass E = some k := h
  rw [hW.alike.findClass] at h1
  exact h1
/-- the method's frame g, with q thrown over it -/
def vx_W (p : Program) (l : Launch) (e : Env) (R : Room) (s : State) (m : MethodId) (args : Array Value) (below : List Frame) (meth : Method) (c : Code) (H : Heap) (locs : List Loc) (cells slots : Nat) (Q : State → Prop) (g : JFrame) (q : Addr) : Prop :=
  ∀ T : State, T.heap = H → Stand p l e R s m args below meth c T locs cells slots → ∃ t, Steps p.tables e below ((T.setTop g).pushFrame (.throwing q)) t ∧ Q t
def vx_Run (p : Program) (l : Launch) (e : Env) (R : Room) (s : State) (m : MethodId) (args : Array Value) (below : List Frame) (meth : Method) (c : Code) (H : Heap) (locs : List Loc) (cells slots mc ms : Nat) (g : JFrame) (rest : List Value) (Qa : State → Outcome → State → Prop) (XC : String → State → State → Prop) (free : Addr → Prop) : Prop :=
  ∀ T : State, T.heap = H → Stand p l e R s m args below meth c T locs cells slots →
    (∃ (v : Option Value) (st₀ t T' : State) (L : List Loc), st₀.heap = H ∧ Stand p l e R s m args below meth c T' (locs ++ L) (cells + mc) (slots + ms) ∧ (∀ q ∈ L, free q.base) ∧ T'.heap = t.heap ∧ T'.vm = t.vm ∧ Qa st₀ (.returned v) t ∧
      Goes p e below T g T' { g with pc := g.pc + 3, stack := v.toList ++ rest }) ∨
    (∃ (q : Addr) (st₀ t T' : State) (L : List Loc) (E : String) (ce : Cell), st₀.heap = H ∧ Stand p l e R s m args below meth c T' (locs ++ L) (cells + mc) (slots + ms) ∧ (∀ z ∈ L, free z.base) ∧ T'.heap = t.heap ∧ T'.vm = t.vm ∧ XC E st₀ t ∧ t.heap[q]? = some ce ∧ ce.vm = .none ∧ s.vm.findClass E = some ce.cls ∧
      Steps p.tables e below (T.setTop g) ((T'.setTop { g with stack := rest }).pushFrame (.throwing q)))
def vx_X {S : Type} (px : S → Prop) (B : String → S → State → Prop) (A : Nat → Prop) : String → State → State → Prop := fun E st t => ∃ u : S, px u ∧ B E u t ∧ va_F A st t
section Runs
variable {p : Program} {l : Launch} {e : Env} {R : Room} {s : State} {m : MethodId} {args : Array Value} {below : List Frame} {meth : Method} {c : Code} {H : Heap} {locs : List Loc} {cells slots : Nat}
variable {y : MethodName} {bytes cc : ByteArray} {maxL nL mc ms n index : Nat} {ret : Option FieldType} {ws : List Cond} {rm : Room} {Pc : Array Value → State → Prop} {Qc : Array Value → State → Outcome → State → Prop} {XC : String → State → State → Prop} {free : Addr → Prop} {Ts : List Cond} {own C : String} {b : Addr} {As rest : List Value} {g : JFrame}
theorem vx_callBack (cb : CallB R s args own index y bytes maxL ret ws rm mc ms n) (hM : vx_Met l y ws rm Pc Qc XC mc ms free) (hbl : FrameBlind Pc) : vx_Back l R p e below s args y 3 8 (PreOf R mc ms Pc) (PostOf Qc mc ms free) (vx_Post XC mc ms free) := by
  obtain ⟨hrc, hrs, hfr, hlo, hws, hcw, -, hini, -⟩ := cb
  exact vx_back (bytes := bytes) (maxL := maxL) (ret := ret) hM hbl hrc hrs hfr hlo hws hcw (fun a' U hW => word_at hW (Or.inl (by first | rfl | simp [Cond.onTables, Cond.keeps, Cond.steady])) hini)
theorem vx_runV (S : CallFix p m c cc nL s args Ts own) (hM : vx_Met l y ws rm Pc Qc XC mc ms free) (cw : CallW R s args own C index y bytes maxL ret ws rm mc ms n) (hp : PreV s H C b Pc As)
    (hg : g.method = m) (hn : As.length = n) (hsize : g.locals.size = nL) (hstack : g.stack = As.reverse ++ .ref b :: rest) (hW : 2 * g.monitorRoom + (rest.map fun v => v.category).sum ≤ 8) (hdg : decode cc g.pc = .ok (.invokevirtual index, 3)) (hf : cells + mc ≤ R.cells ∧ slots + ms ≤ R.slots) :
    vx_Run p l e R s m args below meth c H locs cells slots mc ms g rest (Qc (Value.ref b :: As).toArray) XC free := by
  have hK : vx_Back l R p e below s args y 3 8 (PreOf R mc ms Pc) (PostOf Qc mc ms free) (vx_Post XC mc ms free) := vx_callBack cw.1 hM hp.1
  obtain ⟨⟨-, -, -, -, -, -, hcode, -, hy, hlen, hl⟩, hin, hse⟩ := cw
  obtain ⟨hx, hb, hml, ho, -⟩ := S
  obtain ⟨-, ⟨cellB, hcB, hoB, hclB⟩, hPc⟩ := hp
  intro T hT X
  rcases vx_callV X hx (C := C) (bytes := bytes) (maxL := maxL) (ret := ret) ho hl hin hse hcode hy hK (by rw [hT]; exact hcB) hoB hclB hg (hsize.trans hml.symm) (argsL := As) (rest := rest) (fun sig h => hn.trans (hlen sig h)) hstack hW (by rw [hb]; exact hdg)
    (fun vm₁ hW₁ => ⟨hf.1, hf.2, hPc (T.setVm vm₁) hT hW₁⟩) with ⟨v, vm₁, ⟨U', l2, c2, s2⟩, hW₁, X', ⟨g', mk, t, L, e1, e2, hq, h1, hL, h2, h3⟩, st⟩ | ⟨q, vm₁, ⟨U', l2, c2, s2⟩, hW₁, X', ⟨g', mk, t, L, E, ce, e1, e2, hq, hce, hcv, hcl, h1, hL, h2, h3⟩, st⟩
  · dsimp only [Pt.U, Pt.locs, Pt.cells, Pt.slots] at X' e1 e2 h1 h2 h3 st
    subst h1; subst h2; subst h3
    exact Or.inl ⟨v, (T.setVm vm₁).calling g' mk (Value.ref b :: As).toArray, t, U', L, hT, X', hL, e1, e2, hq, st⟩
  · dsimp only [Pt.U, Pt.locs, Pt.cells, Pt.slots] at X' e1 e2 h1 h2 h3 st hcl
    subst h1; subst h2; subst h3
    exact Or.inr ⟨q, (T.setVm vm₁).calling g' mk (Value.ref b :: As).toArray, t, U', L, E, ce, hT, X', hL, e1, e2, hq, hce, hcv, vx_cls hW₁ hcl, st⟩
theorem vx_runS (S : CallFix p m c cc nL s args Ts own) (hM : vx_Met l y ws rm Pc Qc XC mc ms free) (cw : CallB R s args own index y bytes maxL ret ws rm mc ms n ∧ (Cond.static y).before args s = true) (hp : PreS s H Pc As)
    (hg : g.method = m) (hn : As.length = n) (hsize : g.locals.size = nL) (hstack : g.stack = As.reverse ++ rest) (hW : 2 * g.monitorRoom + (rest.map fun v => v.category).sum ≤ 8) (hdg : decode cc g.pc = .ok (.invokestatic index, 3)) (hf : cells + mc ≤ R.cells ∧ slots + ms ≤ R.slots) :
    vx_Run p l e R s m args below meth c H locs cells slots mc ms g rest (Qc As.toArray) XC free := by
  have hK : vx_Back l R p e below s args y 3 8 (PreOf R mc ms Pc) (PostOf Qc mc ms free) (vx_Post XC mc ms free) := vx_callBack cw.1 hM hp.1
  obtain ⟨⟨-, -, -, -, -, -, hcode, hini, hy, hlen, hl⟩, hstt⟩ := cw
  obtain ⟨hx, hb, hml, ho, -⟩ := S
  intro T hT X
  rcases vx_callS X hx (bytes := bytes) (maxL := maxL) (ret := ret) ho hl hstt hini hcode hy hK hg (hsize.trans hml.symm) (argsL := As) (rest := rest) (fun sig h => hn.trans (hlen sig h)) hstack hW (by rw [hb]; exact hdg)
    (fun vm₁ hW₁ => ⟨hf.1, hf.2, hp.2 (T.setVm vm₁) hT hW₁⟩) with ⟨v, vm₁, ⟨U', l2, c2, s2⟩, hW₁, X', ⟨g', mk, t, L, e1, e2, hq, h1, hL, h2, h3⟩, st⟩ | ⟨q, vm₁, ⟨U', l2, c2, s2⟩, hW₁, X', ⟨g', mk, t, L, E, ce, e1, e2, hq, hce, hcv, hcl, h1, hL, h2, h3⟩, st⟩
  · dsimp only [Pt.U, Pt.locs, Pt.cells, Pt.slots] at X' e1 e2 h1 h2 h3 st
    subst h1; subst h2; subst h3
    exact Or.inl ⟨v, (T.setVm vm₁).calling g' mk As.toArray, t, U', L, hT, X', hL, e1, e2, hq, st⟩
  · dsimp only [Pt.U, Pt.locs, Pt.cells, Pt.slots] at X' e1 e2 h1 h2 h3 st hcl
    subst h1; subst h2; subst h3
    exact Or.inr ⟨q, (T.setVm vm₁).calling g' mk As.toArray, t, U', L, E, ce, hT, X', hL, e1, e2, hq, hce, hcv, vx_cls hW₁ hcl, st⟩
end Runs
section Rows
variable {p : Program} {l : Launch} {e : Env} {R : Room} {s : State} {m : MethodId} {args : Array Value} {below : List Frame} {meth : Method} {c : Code} {H : Heap} {locs : List Loc} {cells slots : Nat} {Q : State → Prop}
variable {mc ms : Nat} {free : Addr → Prop} {A0 A1 : Nat → Prop} {H0 : Heap} {a : Array Value} {pc : Nat} {ls : Array Slot} {st0 rest : List Value}
theorem vx_keep {st₀ t T' : State} {L : List Loc} (h0 : st₀.heap = H) (e1 : T'.heap = t.heap) (hS : va_S A0 H0 H locs) (hA : ∀ q, q < H.size → A1 q → A0 q) (hf : ∀ q, free q → A0 q) (hL : ∀ q ∈ L, free q.base) (hF : va_F A1 st₀ t) :
    H.size ≤ T'.heap.size ∧ (∀ q : Nat, q < H.size → ¬ A1 q → T'.heap[q]? = H[q]?) ∧ va_S A0 H0 T'.heap (locs ++ L) := by
  obtain ⟨hz, hk⟩ := hF
  rw [h0] at hz hk
  exact ⟨by rw [e1]; exact hz, fun q h1 h2 => by rw [e1]; exact hk q h1 h2,
    ⟨Nat.le_trans hS.1 (by rw [e1]; exact hz), fun q h1 h2 => by rw [e1, hk q (Nat.lt_of_lt_of_le h1 hS.1) (fun z => h2 (hA q (Nat.lt_of_lt_of_le h1 hS.1) z))]; exact hS.2.1 q h1 h2, fun q hq => by
      rcases List.mem_append.mp hq with h | h
      · exact hS.2.2 q h
      · exact hf _ (hL q h)⟩⟩
theorem vx_calli {S SX : Type} {post : Int32 → S → Prop} {px : SX → Prop} {B : S → State → Prop} {BX : String → SX → State → Prop} {AX : Nat → Prop} (hr : vx_Run p l e R s m args below meth c H locs cells slots mc ms (F0 m pc ls st0) rest (va_Qi post B A1 a) (vx_X px BX AX) free) (hS : va_S A0 H0 H locs) (hA : ∀ q, q < H.size → A1 q → A0 q) (hf : ∀ q, free q → A0 q) (hAX : ∀ q, q < H.size → AX q → A0 q)
    (kx : ∀ (E : String) (ce : Cell) (q9 : Addr) (u : SX) (t : State) (H1 : Heap) (locs1 : List Loc), t.heap = H1 → s.vm.Alike t.vm → px u → BX E u t → H.size ≤ H1.size → (∀ q : Nat, q < H.size → ¬ AX q → H1[q]? = H[q]?) → va_S A0 H0 H1 locs1 → H1[q9]? = some ce → ce.vm = .none → s.vm.findClass E = some ce.cls → vx_W p l e R s m args below meth c H1 locs1 (cells + mc) (slots + ms) Q (F0 m pc ls rest) q9)
    (kk : ∀ (r : Int32) (u : S) (t : State) (H1 : Heap) (locs1 : List Loc), t.heap = H1 → s.vm.Alike t.vm → post r u → B u t → H.size ≤ H1.size → (∀ q : Nat, q < H.size → ¬ A1 q → H1[q]? = H[q]?) → va_S A0 H0 H1 locs1 → W p l e R s m args below meth c H1 locs1 (cells + mc) (slots + ms) Q (F0 m (pc + 3) ls (.int r :: rest))) : W p l e R s m args below meth c H locs cells slots Q (F0 m pc ls st0) := by
  intro T hT X
  rcases hr T hT X with ⟨v, st₀, t, T', L, h0, X', hL, e1, e2, ⟨⟨r, u, hv, hp, hb⟩, hF⟩, st⟩ | ⟨q, st₀, t, T', L, E, ce, h0, X', hL, e1, e2, ⟨u, hp, hb, hF⟩, hce, hcv, hcl, st⟩
  · cases hv
    obtain ⟨k1, k2, k3⟩ := vx_keep h0 e1 hS hA hf hL hF
    obtain ⟨t2, a1, b1⟩ := kk r u t T'.heap (locs ++ L) e1.symm (by rw [← e2]; exact X'.warmed.alike) hp hb k1 k2 k3 T' rfl X'
    exact ⟨t2, st t2 a1, b1⟩
  · obtain ⟨k1, k2, k3⟩ := vx_keep h0 e1 hS hAX hf hL hF
    obtain ⟨t2, a1, b1⟩ := kx E ce q u t T'.heap (locs ++ L) e1.symm (by rw [← e2]; exact X'.warmed.alike) hp hb k1 k2 k3 (by rw [e1]; exact hce) hcv hcl T' rfl X'
    exact ⟨t2, st.trans a1, b1⟩
theorem vx_calll {S SX : Type} {post : Int64 → S → Prop} {px : SX → Prop} {B : S → State → Prop} {BX : String → SX → State → Prop} {AX : Nat → Prop} (hr : vx_Run p l e R s m args below meth c H locs cells slots mc ms (F0 m pc ls st0) rest (va_Ql post B A1 a) (vx_X px BX AX) free) (hS : va_S A0 H0 H locs) (hA : ∀ q, q < H.size → A1 q → A0 q) (hf : ∀ q, free q → A0 q) (hAX : ∀ q, q < H.size → AX q → A0 q)
    (kx : ∀ (E : String) (ce : Cell) (q9 : Addr) (u : SX) (t : State) (H1 : Heap) (locs1 : List Loc), t.heap = H1 → s.vm.Alike t.vm → px u → BX E u t → H.size ≤ H1.size → (∀ q : Nat, q < H.size → ¬ AX q → H1[q]? = H[q]?) → va_S A0 H0 H1 locs1 → H1[q9]? = some ce → ce.vm = .none → s.vm.findClass E = some ce.cls → vx_W p l e R s m args below meth c H1 locs1 (cells + mc) (slots + ms) Q (F0 m pc ls rest) q9)
    (kk : ∀ (r : Int64) (u : S) (t : State) (H1 : Heap) (locs1 : List Loc), t.heap = H1 → s.vm.Alike t.vm → post r u → B u t → H.size ≤ H1.size → (∀ q : Nat, q < H.size → ¬ A1 q → H1[q]? = H[q]?) → va_S A0 H0 H1 locs1 → W p l e R s m args below meth c H1 locs1 (cells + mc) (slots + ms) Q (F0 m (pc + 3) ls (.long r :: rest))) : W p l e R s m args below meth c H locs cells slots Q (F0 m pc ls st0) := by
  intro T hT X
  rcases hr T hT X with ⟨v, st₀, t, T', L, h0, X', hL, e1, e2, ⟨⟨r, u, hv, hp, hb⟩, hF⟩, st⟩ | ⟨q, st₀, t, T', L, E, ce, h0, X', hL, e1, e2, ⟨u, hp, hb, hF⟩, hce, hcv, hcl, st⟩
  · cases hv
    obtain ⟨k1, k2, k3⟩ := vx_keep h0 e1 hS hA hf hL hF
    obtain ⟨t2, a1, b1⟩ := kk r u t T'.heap (locs ++ L) e1.symm (by rw [← e2]; exact X'.warmed.alike) hp hb k1 k2 k3 T' rfl X'
    exact ⟨t2, st t2 a1, b1⟩
  · obtain ⟨k1, k2, k3⟩ := vx_keep h0 e1 hS hAX hf hL hF
    obtain ⟨t2, a1, b1⟩ := kx E ce q u t T'.heap (locs ++ L) e1.symm (by rw [← e2]; exact X'.warmed.alike) hp hb k1 k2 k3 (by rw [e1]; exact hce) hcv hcl T' rfl X'
    exact ⟨t2, st.trans a1, b1⟩
theorem vx_callf {S SX : Type} {post : UInt32 → S → Prop} {px : SX → Prop} {B : S → State → Prop} {BX : String → SX → State → Prop} {AX : Nat → Prop} (hr : vx_Run p l e R s m args below meth c H locs cells slots mc ms (F0 m pc ls st0) rest (va_Qf post B A1 a) (vx_X px BX AX) free) (hS : va_S A0 H0 H locs) (hA : ∀ q, q < H.size → A1 q → A0 q) (hf : ∀ q, free q → A0 q) (hAX : ∀ q, q < H.size → AX q → A0 q)
    (kx : ∀ (E : String) (ce : Cell) (q9 : Addr) (u : SX) (t : State) (H1 : Heap) (locs1 : List Loc), t.heap = H1 → s.vm.Alike t.vm → px u → BX E u t → H.size ≤ H1.size → (∀ q : Nat, q < H.size → ¬ AX q → H1[q]? = H[q]?) → va_S A0 H0 H1 locs1 → H1[q9]? = some ce → ce.vm = .none → s.vm.findClass E = some ce.cls → vx_W p l e R s m args below meth c H1 locs1 (cells + mc) (slots + ms) Q (F0 m pc ls rest) q9)
    (kk : ∀ (r : UInt32) (u : S) (t : State) (H1 : Heap) (locs1 : List Loc), t.heap = H1 → s.vm.Alike t.vm → post r u → B u t → H.size ≤ H1.size → (∀ q : Nat, q < H.size → ¬ A1 q → H1[q]? = H[q]?) → va_S A0 H0 H1 locs1 → W p l e R s m args below meth c H1 locs1 (cells + mc) (slots + ms) Q (F0 m (pc + 3) ls (.float r :: rest))) : W p l e R s m args below meth c H locs cells slots Q (F0 m pc ls st0) := by
  intro T hT X
  rcases hr T hT X with ⟨v, st₀, t, T', L, h0, X', hL, e1, e2, ⟨⟨r, u, hv, hp, hb⟩, hF⟩, st⟩ | ⟨q, st₀, t, T', L, E, ce, h0, X', hL, e1, e2, ⟨u, hp, hb, hF⟩, hce, hcv, hcl, st⟩
  · cases hv
    obtain ⟨k1, k2, k3⟩ := vx_keep h0 e1 hS hA hf hL hF
    obtain ⟨t2, a1, b1⟩ := kk r u t T'.heap (locs ++ L) e1.symm (by rw [← e2]; exact X'.warmed.alike) hp hb k1 k2 k3 T' rfl X'
    exact ⟨t2, st t2 a1, b1⟩
  · obtain ⟨k1, k2, k3⟩ := vx_keep h0 e1 hS hAX hf hL hF
    obtain ⟨t2, a1, b1⟩ := kx E ce q u t T'.heap (locs ++ L) e1.symm (by rw [← e2]; exact X'.warmed.alike) hp hb k1 k2 k3 (by rw [e1]; exact hce) hcv hcl T' rfl X'
    exact ⟨t2, st.trans a1, b1⟩
theorem vx_calld {S SX : Type} {post : UInt64 → S → Prop} {px : SX → Prop} {B : S → State → Prop} {BX : String → SX → State → Prop} {AX : Nat → Prop} (hr : vx_Run p l e R s m args below meth c H locs cells slots mc ms (F0 m pc ls st0) rest (va_Qd post B A1 a) (vx_X px BX AX) free) (hS : va_S A0 H0 H locs) (hA : ∀ q, q < H.size → A1 q → A0 q) (hf : ∀ q, free q → A0 q) (hAX : ∀ q, q < H.size → AX q → A0 q)
    (kx : ∀ (E : String) (ce : Cell) (q9 : Addr) (u : SX) (t : State) (H1 : Heap) (locs1 : List Loc), t.heap = H1 → s.vm.Alike t.vm → px u → BX E u t → H.size ≤ H1.size → (∀ q : Nat, q < H.size → ¬ AX q → H1[q]? = H[q]?) → va_S A0 H0 H1 locs1 → H1[q9]? = some ce → ce.vm = .none → s.vm.findClass E = some ce.cls → vx_W p l e R s m args below meth c H1 locs1 (cells + mc) (slots + ms) Q (F0 m pc ls rest) q9)
    (kk : ∀ (r : UInt64) (u : S) (t : State) (H1 : Heap) (locs1 : List Loc), t.heap = H1 → s.vm.Alike t.vm → post r u → B u t → H.size ≤ H1.size → (∀ q : Nat, q < H.size → ¬ A1 q → H1[q]? = H[q]?) → va_S A0 H0 H1 locs1 → W p l e R s m args below meth c H1 locs1 (cells + mc) (slots + ms) Q (F0 m (pc + 3) ls (.double r :: rest))) : W p l e R s m args below meth c H locs cells slots Q (F0 m pc ls st0) := by
  intro T hT X
  rcases hr T hT X with ⟨v, st₀, t, T', L, h0, X', hL, e1, e2, ⟨⟨r, u, hv, hp, hb⟩, hF⟩, st⟩ | ⟨q, st₀, t, T', L, E, ce, h0, X', hL, e1, e2, ⟨u, hp, hb, hF⟩, hce, hcv, hcl, st⟩
  · cases hv
    obtain ⟨k1, k2, k3⟩ := vx_keep h0 e1 hS hA hf hL hF
    obtain ⟨t2, a1, b1⟩ := kk r u t T'.heap (locs ++ L) e1.symm (by rw [← e2]; exact X'.warmed.alike) hp hb k1 k2 k3 T' rfl X'
    exact ⟨t2, st t2 a1, b1⟩
  · obtain ⟨k1, k2, k3⟩ := vx_keep h0 e1 hS hAX hf hL hF
    obtain ⟨t2, a1, b1⟩ := kx E ce q u t T'.heap (locs ++ L) e1.symm (by rw [← e2]; exact X'.warmed.alike) hp hb k1 k2 k3 (by rw [e1]; exact hce) hcv hcl T' rfl X'
    exact ⟨t2, st.trans a1, b1⟩
theorem vx_callv {S SX : Type} {post : S → Prop} {px : SX → Prop} {B : S → State → Prop} {BX : String → SX → State → Prop} {AX : Nat → Prop} (hr : vx_Run p l e R s m args below meth c H locs cells slots mc ms (F0 m pc ls st0) rest (va_Qv post B A1 a) (vx_X px BX AX) free) (hS : va_S A0 H0 H locs) (hA : ∀ q, q < H.size → A1 q → A0 q) (hf : ∀ q, free q → A0 q) (hAX : ∀ q, q < H.size → AX q → A0 q)
    (kx : ∀ (E : String) (ce : Cell) (q9 : Addr) (u : SX) (t : State) (H1 : Heap) (locs1 : List Loc), t.heap = H1 → s.vm.Alike t.vm → px u → BX E u t → H.size ≤ H1.size → (∀ q : Nat, q < H.size → ¬ AX q → H1[q]? = H[q]?) → va_S A0 H0 H1 locs1 → H1[q9]? = some ce → ce.vm = .none → s.vm.findClass E = some ce.cls → vx_W p l e R s m args below meth c H1 locs1 (cells + mc) (slots + ms) Q (F0 m pc ls rest) q9)
    (kk : ∀ (u : S) (t : State) (H1 : Heap) (locs1 : List Loc), t.heap = H1 → s.vm.Alike t.vm → post u → B u t → H.size ≤ H1.size → (∀ q : Nat, q < H.size → ¬ A1 q → H1[q]? = H[q]?) → va_S A0 H0 H1 locs1 → W p l e R s m args below meth c H1 locs1 (cells + mc) (slots + ms) Q (F0 m (pc + 3) ls (rest))) : W p l e R s m args below meth c H locs cells slots Q (F0 m pc ls st0) := by
  intro T hT X
  rcases hr T hT X with ⟨v, st₀, t, T', L, h0, X', hL, e1, e2, ⟨⟨u, hv, hp, hb⟩, hF⟩, st⟩ | ⟨q, st₀, t, T', L, E, ce, h0, X', hL, e1, e2, ⟨u, hp, hb, hF⟩, hce, hcv, hcl, st⟩
  · cases hv
    obtain ⟨k1, k2, k3⟩ := vx_keep h0 e1 hS hA hf hL hF
    obtain ⟨t2, a1, b1⟩ := kk u t T'.heap (locs ++ L) e1.symm (by rw [← e2]; exact X'.warmed.alike) hp hb k1 k2 k3 T' rfl X'
    exact ⟨t2, st t2 a1, b1⟩
  · obtain ⟨k1, k2, k3⟩ := vx_keep h0 e1 hS hAX hf hL hF
    obtain ⟨t2, a1, b1⟩ := kx E ce q u t T'.heap (locs ++ L) e1.symm (by rw [← e2]; exact X'.warmed.alike) hp hb k1 k2 k3 (by rw [e1]; exact hce) hcv hcl T' rfl X'
    exact ⟨t2, st.trans a1, b1⟩
/-- caught by the row x of this method's table; the rows ahead don't take it -/
theorem vx_catch {own name : String} {E : String} {ce : Cell} {q : Addr} (hown : s.vm.findClass own = some m.cls) (pre : List ExceptionTableEntry) (x : ExceptionTableEntry) (suf : List ExceptionTableEntry) (hsplit : c.exceptionTable.toList = pre ++ x :: suf)
    (hpass : ∀ z ∈ pre, covers z pc = false ∨ (z.catchType ≠ 0 ∧ ∃ nm : String, (Cond.classLink own z.catchType nm).before args s = true ∧ va_Nc E nm s)) (hx : covers x pc = true) (h0 : x.catchType ≠ 0)
    (hlink : (Cond.classLink own x.catchType name).before args s = true) (hcast : (Cond.castable E name).before args s = true) (hcell : H[q]? = some ce) (hv : ce.vm = .none) (hcl : s.vm.findClass E = some ce.cls)
    (kk : W p l e R s m args below meth c H locs cells slots Q (F0 m x.handlerPc ls [.ref q])) : vx_W p l e R s m args below meth c H locs cells slots Q (F0 m pc ls rest) q := by
  intro T hT X
  have hpl : e.platform.magicAccessors = ({} : Platform).magicAccessors := by rw [X.admits.platform]
  obtain ⟨c3, c4, hc3, hc4, hasg⟩ := Cond.castable_spec hcast
  cases Option.some.inj (hc3.symm.trans hcl)
  obtain ⟨c5, hc5, hcl5⟩ := Cond.classLink_spec hown hlink e.platform hpl
  cases Option.some.inj (hc4.symm.trans hc5)
  obtain ⟨vm', X', st⟩ := X.thenCaughtThrough q (g := F0 m pc ls rest) rfl (Steps.refl _) (by rw [hT]; exact hcell) (by rw [hv]; rfl) (by obtain ⟨k9, h9, -⟩ := Vm.findClass_spec hcl; exact ⟨k9, h9⟩) pre x suf hsplit
    (fun z hz => by
      rcases hpass z hz with h | ⟨hz0, nm, hl1, hn1⟩
      · exact Or.inl h
      · obtain ⟨c6, hc6, hcl6⟩ := Cond.classLink_spec hown hl1 e.platform hpl
        obtain ⟨a8, b8, h1, h2, h3⟩ := hn1
        cases Option.some.inj (h1.symm.trans hcl)
        cases Option.some.inj (h2.symm.trans hc6)
        exact Or.inr ⟨hz0, _, hcl6, h3⟩) hx (Or.inr ⟨h0, c4, hcl5, hasg⟩)
  obtain ⟨t, a1, b1⟩ := kk (T.setVm vm') hT X'
  exact ⟨t, st.trans a1, b1⟩
end Rows
section Ends
variable {p : Program} {l : Launch} {e : Env} {R : Room} {s : State} {m : MethodId} {args : Array Value} {below : List Frame} {meth : Method} {c : Code} {H : Heap} {locs : List Loc} {cells slots : Nat} {Q : State → Prop}
variable {mc ms : Nat} {free : Addr → Prop} {A0 A1 : Nat → Prop} {H0 : Heap} {a : Array Value} {ls : Array Slot} {st0 rest : List Value}
variable {Qc : Array Value → State → Outcome → State → Prop} {XC : String → State → State → Prop}
/-- what a body that may throw owes at its end -/
def vx_MQ (below : List Frame) (Qc : Array Value → State → Outcome → State → Prop) (XC : String → State → State → Prop) (a : Array Value) (s : State) (mc ms : Nat) (free : Addr → Prop) : State → Prop := fun t =>
  ∃ o, t.status = .running ∧ Ended t below o ∧ vx_Q Qc XC mc ms free a s o t
theorem vx_ret {g : JFrame} {mc ms : Nat} (k : W p l e R s m args below meth c H locs cells slots (MQ below Qc args s mc ms free) g) : W p l e R s m args below meth c H locs cells slots (vx_MQ below Qc XC args s mc ms free) g := by
  intro T hT X
  obtain ⟨t, a1, o, b1, b2, b3, b4⟩ := k T hT X
  exact ⟨t, a1, o, b1, b2, Or.inl ⟨b3, b4⟩⟩
/-- not caught here: it goes on to the caller -/
theorem vx_widen {g : JFrame} {q : Addr} {k n : Nat} (h1 : cells ≤ k) (h2 : slots ≤ n) (kk : vx_W p l e R s m args below meth c H locs k n Q g q) : vx_W p l e R s m args below meth c H locs cells slots Q g q := fun T hT X => kk T hT (stand_widen X h1 h2)
theorem vx_out {pc : Nat} {E : String} {ce : Cell} {q : Addr} {mc ms : Nat} (hout : ∀ x ∈ c.exceptionTable.toList, covers x pc = false) (hlocks : meth.locks = false) (hcell : H[q]? = some ce) (hv : ce.vm = .none) (hcl : s.vm.findClass E = some ce.cls)
    (hx : ∀ t : State, t.heap = H → s.vm.Alike t.vm → XC E s t) (hf : ∀ z ∈ locs, free z.base) (hc : cells ≤ mc) (hs : slots ≤ ms) :
    vx_W p l e R s m args below meth c H locs cells slots (vx_MQ below Qc XC args s mc ms free) (F0 m pc ls rest) q := by
  intro T hT X
  obtain ⟨st1, hrun, hend, hW, hsm⟩ := X.leaveThrown q (g := F0 m pc ls rest) rfl rfl rfl hout hlocks
  have hcell9 : (T.setFrames (.throwing q :: below)).heap[q]? = some ce := by
    show T.heap[q]? = some ce
    rw [hT]; exact hcell
  exact ⟨_, st1, .threw q, hrun, hend, Or.inr ⟨q, rfl, E, ce, locs, hx _ hT hW.alike, hcell9, hv, hcl, hW, hsm.mono hc hs, hf⟩⟩
theorem vx_frame {U : State} {k n : Nat} (h : s.sameButNew ({ U with vm := s.vm } : State) locs k n) : s.heap.size ≤ U.heap.size ∧ ∀ q : Nat, q < s.heap.size → (∀ z ∈ locs, z.base ≠ q) → U.heap[q]? = s.heap[q]? := by
  obtain ⟨-, h2, -, -, -, h6⟩ := h
  refine ⟨h2, fun q hq hz => ?_⟩
  obtain ⟨c9, e1, e2, e3, e4⟩ := h6 q _ (Array.getElem?_eq_getElem hq)
  have hs : c9.slots = (s.heap[q]).slots := Array.ext_getElem? fun i => e4 i fun hm => hz _ hm rfl
  have h9 : c9 = s.heap[q] := by
    rw [hs] at e2
    exact e2
  have e5 : U.heap[q]? = some c9 := e1
  rw [e5, h9, Array.getElem?_eq_getElem hq]
/-- the words of a throw but the four that speak of the heap -/
def vx_no (w : Cond) : Bool := decide (w ≠ .isRef (.static Bundle.tN "UNASSIGNED_STACK" Bundle.steD)) && decide (w ≠ .isRef (.static Bundle.tN "SUPPRESSED_SENTINEL" Bundle.listD)) && decide (w ≠ .laysStatic Bundle.tN "UNASSIGNED_STACK" Bundle.steD) && decide (w ≠ .laysStatic Bundle.tN "SUPPRESSED_SENTINEL" Bundle.listD)
def vx_at0 (own : String) (ic : Nat) (X : String) (names : List String) : List Cond := (Bundle.ownAtoms0 own ic X names).filter vx_no
def vx_atS (own : String) (ic : Nat) (X : String) (names : List String) : List Cond := (Bundle.ownAtoms own ic X names).filter vx_no
/-- a word that the tables alone decide, or a good one -/
def vx_ot (w : Cond) : Bool := w.onTables || goodWord w
theorem vx_ot_at {args a' : Array Value} {s U : State} {w : Cond} (hW : s.WarmedH U.vm) (hvm : s.vm = U.vm) (hg : vx_ot w = true) (h : w.before args s = true) : w.before a' U = true := by
  simp only [vx_ot, Bool.or_eq_true] at hg
  rcases hg with hg | hg
  · exact va_tabs hg hvm h
  · exact word_at hW (good_of_word hg) h
/-- a list's words: the good ones out of the method's own list, the others by premises of their own -/
theorem vx_hat {args : Array Value} {s : State} {L B : List Cond} (h1 : ∀ w ∈ L.filter goodWord, w.before args s = true) (h2 : ∀ w ∈ L.filter (fun w => !goodWord w), w ∈ B) (h3 : ∀ w ∈ B, w.before args s = true) : ∀ w ∈ L, w.before args s = true := by
  intro w hw
  by_cases g : goodWord w = true
  · exact h1 w (List.mem_filter.mpr ⟨hw, g⟩)
  · refine h3 w (h2 w (List.mem_filter.mpr ⟨hw, ?_⟩))
    show (!goodWord w) = true
    cases hgw : goodWord w
    · rfl
    · exact absurd hgw g
theorem vx_c {args : Array Value} {s : State} {w : Cond} {B : List Cond} (h : w.before args s = true) (t : ∀ w ∈ B, w.before args s = true) : ∀ w' ∈ w :: B, w'.before args s = true := fun w' h' => (List.mem_cons.mp h').elim (fun e => by rw [e]; exact h) (t w')
theorem vx_n {args : Array Value} {s : State} : ∀ w ∈ ([] : List Cond), w.before args s = true := fun _ h => nomatch h
theorem vx_own {args : Array Value} {s : State} {L : List Cond} (h1 : ∀ w ∈ L.filter vx_no, w.before args s = true)
    (hU : (Cond.isRef (.static Bundle.tN "UNASSIGNED_STACK" Bundle.steD)).before args s = true) (hN : (Cond.isRef (.static Bundle.tN "SUPPRESSED_SENTINEL" Bundle.listD)).before args s = true)
    (lU : (Cond.laysStatic Bundle.tN "UNASSIGNED_STACK" Bundle.steD).before args s = true) (lN : (Cond.laysStatic Bundle.tN "SUPPRESSED_SENTINEL" Bundle.listD).before args s = true) : ∀ w ∈ L, w.before args s = true := by
  intro w hw
  by_cases e1 : w = .isRef (.static Bundle.tN "UNASSIGNED_STACK" Bundle.steD)
  · rw [e1]; exact hU
  · by_cases e2 : w = .isRef (.static Bundle.tN "SUPPRESSED_SENTINEL" Bundle.listD)
    · rw [e2]; exact hN
    · by_cases e3 : w = .laysStatic Bundle.tN "UNASSIGNED_STACK" Bundle.steD
      · rw [e3]; exact lU
      · by_cases e4 : w = .laysStatic Bundle.tN "SUPPRESSED_SENTINEL" Bundle.listD
        · rw [e4]; exact lN
        · exact h1 w (List.mem_filter.mpr ⟨hw, by unfold vx_no; rw [decide_eq_true e1, decide_eq_true e2, decide_eq_true e3, decide_eq_true e4]; rfl⟩)
/-- where a static field lies, its class's statics cell in H -/
def vx_L (C n d : String) (A : Nat → Prop) (U : State) (H : Heap) : Prop := ∃ (c : ClassId) (k : Class) (i : Nat) (f : Field) (a : Nat) (cell : Cell), U.vm.findClass C = some c ∧ U.fieldFound? C n d = some (c, k, i, f) ∧ f.isStatic = true ∧ k.statics = some a ∧ H[a]? = some cell ∧ cell.vm.isStatics = true ∧ cell.cls = c ∧ f.slot < cell.slots.size ∧ k.staticTypes[f.slot]? = some f.type ∧ ¬ A a
theorem vx_L.moved {C n d : String} {A : Nat → Prop} {u U : State} {H : Heap} (hvm : u.vm.Alike U.vm) (h : vx_L C n d A u H) : vx_L C n d A U H := by
  obtain ⟨c, k, i, f, a, cell, h1, h2, h3, h4, h5, h6, h7, h8, h9, h10⟩ := h
  obtain ⟨k', hi', he⟩ := State.fieldFound?_setVm hvm h2
  exact ⟨c, k', i, f, a, cell, by rw [hvm.findClass]; exact h1, hi', h3, by rw [he]; exact h4, h5, h6, h7, h8, by rw [he]; exact h9, h10⟩
theorem vx_L.kept {C n d : String} {A : Nat → Prop} {U : State} {H H1 : Heap} (h : vx_L C n d A U H) (hq : ∀ a : Nat, a < H.size → ¬ A a → H1[a]? = H[a]?) : vx_L C n d A U H1 := by
  obtain ⟨c, k, i, f, a, cell, h1, h2, h3, h4, h5, h6, h7, h8, h9, h10⟩ := h
  exact ⟨c, k, i, f, a, cell, h1, h2, h3, h4, by rw [hq a (Array.getElem?_eq_some_iff.mp h5).1 h10]; exact h5, h6, h7, h8, h9, h10⟩
theorem vx_L.narrow {C n d : String} {A B : Nat → Prop} {U : State} {H : Heap} (h : vx_L C n d A U H) (hAB : ∀ q, B q → A q) : vx_L C n d B U H := by
  obtain ⟨c, k, i, f, a, cell, h1, h2, h3, h4, h5, h6, h7, h8, h9, h10⟩ := h
  exact ⟨c, k, i, f, a, cell, h1, h2, h3, h4, h5, h6, h7, h8, h9, fun z => h10 (hAB _ z)⟩
theorem vx_L.word {C n d : String} {A : Nat → Prop} {s : State} {args : Array Value} (h : vx_L C n d A s s.heap) : (Cond.laysStatic C n d).before args s = true := by
  obtain ⟨c, k, i, f, a, cell, h1, h2, h3, h4, h5, h6, h7, h8, h9, -⟩ := h
  show (Cond.laysStatic C n d).holds args s none s [] = true
  exact Cond.laysStatic_of h1 h2 h3 h4 h5 h6 h7 h8 h9
/-- .. and what it holds: null or some reference -/
def vx_Zq (C n d : String) (A : Nat → Prop) (U : State) (H : Heap) : Prop := va_Zq C n d A U H ∧ vx_L C n d A U H
theorem vx_Zq.moved {C n d : String} {A : Nat → Prop} {u U : State} {H : Heap} (hvm : u.vm.Alike U.vm) (h : vx_Zq C n d A u H) : vx_Zq C n d A U H := ⟨va_Zq.moved hvm h.1, vx_L.moved hvm h.2⟩
theorem vx_Zq.kept {C n d : String} {A : Nat → Prop} {U : State} {H H1 : Heap} (h : vx_Zq C n d A U H) (hq : ∀ a : Nat, a < H.size → ¬ A a → H1[a]? = H[a]?) : vx_Zq C n d A U H1 := ⟨va_Zq.kept h.1 hq, vx_L.kept h.2 hq⟩
theorem vx_Zq.narrow {C n d : String} {A B : Nat → Prop} {U : State} {H : Heap} (h : vx_Zq C n d A U H) (hAB : ∀ q, B q → A q) : vx_Zq C n d B U H := ⟨va_Zq.narrow h.1 hAB, vx_L.narrow h.2 hAB⟩
theorem vx_Zqof {args : Array Value} {s : State} {C n d : String} {A : Nat → Prop} (hl : (Cond.laysStatic C n d).before args s = true) (hini : (Cond.initialized C).before args s = true) (h : (Cond.isRef (.static C n d)).before args s = true) (hA : ∀ a : Nat, a < s.heap.size → ¬ A a) : vx_Zq C n d A s s.heap := by
  refine ⟨va_Zqof hl hini h hA, ?_⟩
  obtain ⟨c, k, i, f, a, cell, h1, h2, h3, h4, h5, h6, h7, h8, h9⟩ := Cond.laysStatic_spec hl
  exact ⟨c, k, i, f, a, cell, h1, h2, h3, h4, h5, h6, h7, h8, h9, hA a (Array.getElem?_eq_some_iff.mp h5).1⟩
theorem vx_isRef {C n d : String} {v : Value} {A : Nat → Prop} {s : State} {args : Array Value} (h : va_Z C n d v A s s.heap) (hv : v.isRef = true) : (Cond.isRef (.static C n d)).before args s = true := by
  obtain ⟨cf, kf, fi, f, a, cell, h1, h2, h3, h4, h5, h6, h7, -⟩ := h
  have he : (Term.static C n d).eval args s none [] s = some v := by
    simp [Term.eval, State.fieldNamed?, h1, h2, h4, h5, h6, h7]
  simp only [Cond.before, Cond.holds, Cond.value, he]
  cases v <;> simp_all [Value.isRef]
theorem vx_isRefq {C n d : String} {A : Nat → Prop} {s : State} {args : Array Value} (h : va_Zq C n d A s s.heap) : (Cond.isRef (.static C n d)).before args s = true := by
  rcases h with h | ⟨t, h⟩
  · exact vx_isRef h rfl
  · exact vx_isRef h rfl
/-- the same frame, seen from here: as if the method were called anew in this heap -/
theorem vx_rebase {T : State} (X : Stand p l e R s m args below meth c T locs cells slots) {R' : Room} (hf : R'.frames ≤ R.frames) (hl : R'.locals ≤ R.locals) (hc : cells + R'.cells ≤ R.cells) (hs : slots + R'.slots ≤ R.slots) :
    Stand p l e R' ((T.setVm s.vm).setFrames (.invoking m args :: below)) m args below meth c T [] 0 0 := by
  have htop : (T.setVm s.vm).topJava?.isSome := X.here.top
  have hF : ((T.setVm s.vm).setFrames (.invoking m args :: below)).frames = .invoking m args :: below := State.frames_setFrames _ (State.cur_lt_of_top htop)
  obtain ⟨g₀, hg0⟩ := Option.isSome_iff_exists.mp htop
  obtain ⟨r, hr⟩ := State.topJava?_eq_some.mp hg0
  have hl9 : e.platform.stackLimits (T.setVm s.vm).me = e.platform.stackLimits s.me := X.limits
  have hb9 : (T.setVm s.vm).me.stackBytes = s.me.stackBytes := X.bytes
  refine ⟨X.admits, X.cas, X.clock, hF, ?_, X.hears, X.method, X.code, X.here, X.tail, X.warmed, ?_, ?_, ?_⟩
  · have h := X.room
    have hU : ((T.setVm s.vm).setFrames (.invoking m args :: below)).localsInUse = s.localsInUse := by
      rw [State.localsInUse_invoking hF (meth := meth) (c := c) X.method X.code, State.localsInUse_invoking X.frames X.method X.code]
    simp only [State.hasRoom, Bool.and_eq_true, decide_eq_true_eq] at h ⊢
    obtain ⟨⟨⟨⟨h1, h2, h3, h4, h5, h6⟩, h7⟩, h8⟩, h9⟩ := h
    rw [X.frames, List.length_cons] at h2 h3
    have q1 := X.heapSize
    have q2 := X.used
    simp only [hF, hU, List.length_cons, State.stackLimits_setFrames, State.stackBytes_setFrames, hl9, hb9]
    refine ⟨⟨⟨⟨by omega, by omega, by omega, by omega, by omega, h6⟩, ?_⟩, ?_⟩, X.book⟩
    · show T.heap.size + R'.cells ≤ e.platform.maxCells
      omega
    · show T.slotsUsed + R'.slots ≤ e.platform.maxSlots
      omega
  · rw [State.stackLimits_setFrames]; rfl
  · rw [State.stackBytes_setFrames]; rfl
  · refine ⟨?_, Nat.le_refl _, Nat.le_refl _, ?_, ?_, fun a c9 h9 => ⟨c9, h9, rfl, rfl, fun _ _ => rfl⟩⟩
    · obtain ⟨t, ht, -⟩ := State.frames_cons hr
      show T.setVm s.vm = { ((T.setVm s.vm).setFrames (.invoking m args :: below)).setFrames (T.setVm s.vm).frames with heap := T.heap, slotsUsed := T.slotsUsed }
      rw [State.setFrames_setFrames, State.setFrames_self ht]
      rfl
    · show T.slotsUsed = T.slotsUsed + ((T.heap.toList.drop T.heap.size).map (·.slots.size)).sum
      rw [List.drop_eq_nil_of_le (Nat.le_of_eq Array.length_toList)]
      rfl
    · show ((T.heap.toList.drop T.heap.size).map (·.slots.size)).sum ≤ 0
      rw [List.drop_eq_nil_of_le (Nat.le_of_eq Array.length_toList)]
      exact Nat.le_refl _
/-- 'throw new E()': new; dup; invokespecial; athrow -/
theorem vx_throw0 {cc : ByteArray} {pc : Nat} (hexec : p.tables.exec = Jvm.exec) (hb : c.code = cc) (hl : l.stackTraces = false) {own cls : String} {names : List String} {ik ic mc ms : Nat} {A : Nat → Prop}
    (hown : s.vm.findClass own = some m.cls) (hcls : Bundle.fit cls = true) (hnames : ∀ n ∈ names, Bundle.fit n = true)
    (hk : (Cond.classLink own ik cls).before args s = true) (hini : (Cond.initialized cls).before args s = true) (hat : ∀ w ∈ vx_at0 own ic cls names, w.before args s = true)
    (hgood : ∀ w ∈ Cond.classLink own ik cls :: Cond.initialized cls :: vx_at0 own ic cls names, vx_ot w = true)
    (hU : vx_Zq Bundle.tN "UNASSIGNED_STACK" Bundle.steD A s s.heap) (hN : vx_Zq Bundle.tN "SUPPRESSED_SENTINEL" Bundle.listD A s s.heap) (hS : va_S A s.heap H locs) (hsize : ls.size = c.maxLocals)
    (d0 : decode cc pc = .ok (.new ik, 3)) (d3 : decode cc (pc + 3) = .ok (.dup, 1)) (d4 : decode cc (pc + 4) = .ok (.invokespecial ic, 3)) (d7 : decode cc (pc + 7) = .ok (.athrow, 1))
    (hout : ∀ x ∈ c.exceptionTable.toList, covers x (pc + 7) = false)
    (hRframes : names.length + 3 < R.frames) (hRlocals : (rest.map fun v => v.category).sum + (13 * (names.length + 1) + 42) ≤ R.locals) (hRcells : cells + 1 ≤ R.cells) (hRslots : slots + 6 ≤ R.slots) (hlocks : meth.locks = false)
    (hx : ∀ t : State, s.vm.Alike t.vm → H.size ≤ t.heap.size → (∀ q : Nat, q < H.size → t.heap[q]? = H[q]?) → XC cls s t)
    (hf : ∀ z ∈ locs, free z.base) (hc : cells + 1 ≤ mc) (hs : slots + 6 ≤ ms) :
    W p l e R s m args below meth c H locs cells slots (vx_MQ below Qc XC args s mc ms free) (F0 m pc ls rest) := by
  intro T hT X
  have htr : e.platform.stackTraces = false := (show e.platform.stackTraces = l.stackTraces by rw [X.admits.platform]).trans hl
  have Y := vx_rebase X (R' := { frames := R.frames, locals := R.locals, cells := 1, slots := 6 }) (Nat.le_refl _) (Nat.le_refl _) hRcells hRslots
  obtain ⟨s', hA⟩ : ∃ z, z = (T.setVm s.vm).setFrames (.invoking m args :: below) := ⟨_, rfl⟩
  rw [← hA] at Y
  have hvm : s'.vm = s.vm := by rw [hA]; rfl
  have hhp : s'.heap = H := by rw [hA]; exact hT
  have hW0 : s.WarmedH s'.vm := by rw [hvm]; exact State.WarmedH.refl s
  have hat' : ∀ w ∈ vx_at0 own ic cls names, w.before args s' = true := fun w hw => vx_ot_at hW0 hvm.symm (hgood w (List.mem_cons_of_mem _ (List.mem_cons_of_mem _ hw))) (hat w hw)
  have hk' : (Cond.classLink own ik cls).before args s' = true := vx_ot_at hW0 hvm.symm (hgood _ List.mem_cons_self) hk
  have hini' : (Cond.initialized cls).before args s' = true := vx_ot_at hW0 hvm.symm (hgood _ (List.mem_cons_of_mem _ List.mem_cons_self)) hini
  have hU' : vx_Zq Bundle.tN "UNASSIGNED_STACK" Bundle.steD A s' s'.heap := by rw [hhp]; exact vx_Zq.moved hW0.alike (hU.kept hS.2.1)
  have hN' : vx_Zq Bundle.tN "SUPPRESSED_SENTINEL" Bundle.listD A s' s'.heap := by rw [hhp]; exact vx_Zq.moved hW0.alike (hN.kept hS.2.1)
  have h : ∀ w ∈ Bundle.ownAtoms0 own ic cls names, w.before args s' = true := vx_own hat' (vx_isRefq hU'.1) (vx_isRefq hN'.1) hU'.2.word hN'.2.word
  have hown' : s'.vm.findClass own = some m.cls := by rw [hvm]; exact hown
  have hins : (Cond.instantiable cls 6).before args s' = true := h _ (by simp [Bundle.ownAtoms0])
  obtain ⟨vm₁, cX, kX, hfX, hkX, -, -, X₁, st1⟩ := Y.newCold hexec (own := own) (C := cls) (index := ik) (n := 6) hown' hk' hins hini'
    (g := F0 m pc ls rest) rfl (by rw [hb]; exact d0) (Nat.le_refl _) (Nat.le_refl _)
  generalize hT1 : (T.setVm vm₁).pushCell { cls := cX, slots := kX.instanceTypes.map defaultValue, vm := .none } = T1 at X₁ st1
  have hcat : (Value.ref T.heap.size).category = 1 := rfl
  have hcellA : T1.heap[T.heap.size]? = some (freshCell cX kX) := by rw [← hT1]; exact State.heap_pushCell_size _ _
  have d3' : decode c.code (pc + 3) = .ok (.dup, 1) := by rw [hb]; exact d3
  obtain ⟨U, hsteps, hrun, hend, hW, hsame, ce, hce, hO⟩ := X₁.ctorThrow0 hexec htr (own := own) (cls := cls) (names := names) (ic := ic) hown' hcls hnames h (fun x hx => nomatch hx) hfX hkX hcellA (by rw [hhp, hT]; exact Nat.le_refl _)
    (g := { method := m, pc := pc + 4, locals := ls, stack := .ref T.heap.size :: .ref T.heap.size :: rest, locked := none }) rfl hsize rfl rfl (rest := rest) rfl
    (by rw [hb]; exact d4) (by rw [hb]; exact d7) hout hRframes (by simp only [List.map_cons, List.sum_cons, hcat]; omega) hlocks
  obtain ⟨f1, f2⟩ := vx_frame hsame
  rw [hhp] at f1 f2
  have hWs : s.WarmedH U.vm := State.WarmedH.trans hW0 hW
  have hcl : s.vm.findClass cls = some ce.cls := by
    have h9 := hO.cls
    rw [hvm] at h9
    exact h9
  have hall : s.sameButNew ({ U with vm := s.vm } : State) locs mc ms := by
    subst hA
    obtain ⟨e1, e2⟩ := hsame
    rw [State.setFrames_setFrames] at e1
    have h2 : (T.setVm s.vm).sameButNew ({ U with vm := s.vm } : State) [] (0 + 1) (0 + 6) := ⟨e1, e2⟩
    have h3 := X.same.trans h2
    rw [List.append_nil] at h3
    exact h3.mono hc hs
  refine ⟨U, ?_, .threw T.heap.size, hrun, hend, Or.inr ⟨T.heap.size, rfl, cls, ce, locs, hx U hWs.alike f1 (fun q hq => f2 q hq (fun z hz => nomatch hz)), hce, hO.vm, hcl, hWs, hall, hf⟩⟩
  refine st1 _ ?_
  show Steps p.tables e below (T1.setTop { method := m, pc := pc + 3, locals := ls, stack := .ref T.heap.size :: rest, locked := none }) _
  jvm_step X₁.here [X₁.here.top, hexec, d3', Value.category]
  exact hsteps
/-- 'throw new E("text")': new; dup; ldc; invokespecial; athrow -/
theorem vx_throwS {cc : ByteArray} {pc : Nat} (hexec : p.tables.exec = Jvm.exec) (hb : c.code = cc) (hl : l.stackTraces = false) {own cls text : String} {names : List String} {ik is ic mc ms sa : Nat} {A : Nat → Prop}
    (hown : s.vm.findClass own = some m.cls) (hcls : Bundle.fit cls = true) (hnames : ∀ n ∈ names, Bundle.fit n = true)
    (hk : (Cond.classLink own ik cls).before args s = true) (hini : (Cond.initialized cls).before args s = true) (hstr : vk_R own is text sa s) (hat : ∀ w ∈ vx_atS own ic cls names, w.before args s = true)
    (hgood : ∀ w ∈ Cond.classLink own ik cls :: Cond.initialized cls :: vx_atS own ic cls names, vx_ot w = true)
    (hU : vx_Zq Bundle.tN "UNASSIGNED_STACK" Bundle.steD A s s.heap) (hN : vx_Zq Bundle.tN "SUPPRESSED_SENTINEL" Bundle.listD A s s.heap) (hS : va_S A s.heap H locs) (hsize : ls.size = c.maxLocals)
    (d0 : decode cc pc = .ok (.new ik, 3)) (d3 : decode cc (pc + 3) = .ok (.dup, 1)) (d4 : decode cc (pc + 4) = .ok (.ldc is, 2)) (d6 : decode cc (pc + 6) = .ok (.invokespecial ic, 3)) (d9 : decode cc (pc + 9) = .ok (.athrow, 1))
    (hout : ∀ x ∈ c.exceptionTable.toList, covers x (pc + 9) = false)
    (hRframes : names.length + 3 < R.frames) (hRlocals : (rest.map fun v => v.category).sum + (13 * (names.length + 1) + 43) ≤ R.locals) (hRcells : cells + 1 ≤ R.cells) (hRslots : slots + 6 ≤ R.slots) (hlocks : meth.locks = false)
    (hx : ∀ t : State, s.vm.Alike t.vm → H.size ≤ t.heap.size → (∀ q : Nat, q < H.size → t.heap[q]? = H[q]?) → XC cls s t)
    (hf : ∀ z ∈ locs, free z.base) (hc : cells + 1 ≤ mc) (hs : slots + 6 ≤ ms) :
    W p l e R s m args below meth c H locs cells slots (vx_MQ below Qc XC args s mc ms free) (F0 m pc ls rest) := by
  intro T hT X
  have htr : e.platform.stackTraces = false := (show e.platform.stackTraces = l.stackTraces by rw [X.admits.platform]).trans hl
  have Y := vx_rebase X (R' := { frames := R.frames, locals := R.locals, cells := 1, slots := 6 }) (Nat.le_refl _) (Nat.le_refl _) hRcells hRslots
  obtain ⟨s', hA⟩ : ∃ z, z = (T.setVm s.vm).setFrames (.invoking m args :: below) := ⟨_, rfl⟩
  rw [← hA] at Y
  have hvm : s'.vm = s.vm := by rw [hA]; rfl
  have hhp : s'.heap = H := by rw [hA]; exact hT
  have hW0 : s.WarmedH s'.vm := by rw [hvm]; exact State.WarmedH.refl s
  have hat' : ∀ w ∈ vx_atS own ic cls names, w.before args s' = true := fun w hw => vx_ot_at hW0 hvm.symm (hgood w (List.mem_cons_of_mem _ (List.mem_cons_of_mem _ hw))) (hat w hw)
  have hk' : (Cond.classLink own ik cls).before args s' = true := vx_ot_at hW0 hvm.symm (hgood _ List.mem_cons_self) hk
  have hini' : (Cond.initialized cls).before args s' = true := vx_ot_at hW0 hvm.symm (hgood _ (List.mem_cons_of_mem _ List.mem_cons_self)) hini
  have hU' : vx_Zq Bundle.tN "UNASSIGNED_STACK" Bundle.steD A s' s'.heap := by rw [hhp]; exact vx_Zq.moved hW0.alike (hU.kept hS.2.1)
  have hN' : vx_Zq Bundle.tN "SUPPRESSED_SENTINEL" Bundle.listD A s' s'.heap := by rw [hhp]; exact vx_Zq.moved hW0.alike (hN.kept hS.2.1)
  have h : ∀ w ∈ Bundle.ownAtoms own ic cls names, w.before args s' = true := vx_own hat' (vx_isRefq hU'.1) (vx_isRefq hN'.1) hU'.2.word hN'.2.word
  have hown' : s'.vm.findClass own = some m.cls := by rw [hvm]; exact hown
  have hins : (Cond.instantiable cls 6).before args s' = true := h _ (by simp [Bundle.ownAtoms])
  obtain ⟨vm₁, cX, kX, hfX, hkX, -, -, X₁, st1⟩ := Y.newCold hexec (own := own) (C := cls) (index := ik) (n := 6) hown' hk' hins hini'
    (g := F0 m pc ls rest) rfl (by rw [hb]; exact d0) (Nat.le_refl _) (Nat.le_refl _)
  generalize hT1 : (T.setVm vm₁).pushCell { cls := cX, slots := kX.instanceTypes.map defaultValue, vm := .none } = T1 at X₁ st1
  have hcat : (Value.ref T.heap.size).category = 1 := rfl
  have hcellA : T1.heap[T.heap.size]? = some (freshCell cX kX) := by rw [← hT1]; exact State.heap_pushCell_size _ _
  have d3' : decode c.code (pc + 3) = .ok (.dup, 1) := by rw [hb]; exact d3
  have d4' : decode c.code (pc + 4) = .ok (.ldc is, 2) := by rw [hb]; exact d4
  have hstr' : vk_R own is text sa s' := vk_R.warm hW0 hstr
  obtain ⟨U, hsteps, hrun, hend, hW, hsame, ce, hce, hO⟩ := X₁.ctorThrowS hexec htr (own := own) (cls := cls) (names := names) (ic := ic) hown' hcls hnames h (fun x hx => nomatch hx) hfX hkX hcellA (by rw [hhp, hT]; exact Nat.le_refl _) (msg := .ref sa) rfl
    (g := { method := m, pc := pc + 6, locals := ls, stack := .ref sa :: .ref T.heap.size :: .ref T.heap.size :: rest, locked := none }) rfl hsize rfl rfl (rest := rest) rfl
    (by rw [hb]; exact d6) (by rw [hb]; exact d9) hout hRframes (by simp only [List.map_cons, List.sum_cons, hcat]; omega) hlocks
  obtain ⟨f1, f2⟩ := vx_frame hsame
  rw [hhp] at f1 f2
  have hWs : s.WarmedH U.vm := State.WarmedH.trans hW0 hW
  have hcl : s.vm.findClass cls = some ce.cls := by
    have h9 := hO.cls
    rw [hvm] at h9
    exact h9
  have hall : s.sameButNew ({ U with vm := s.vm } : State) locs mc ms := by
    subst hA
    obtain ⟨e1, e2⟩ := hsame
    rw [State.setFrames_setFrames] at e1
    have h2 : (T.setVm s.vm).sameButNew ({ U with vm := s.vm } : State) [] (0 + 1) (0 + 6) := ⟨e1, e2⟩
    have h3 := X.same.trans h2
    rw [List.append_nil] at h3
    exact h3.mono hc hs
  refine ⟨U, ?_, .threw T.heap.size, hrun, hend, Or.inr ⟨T.heap.size, rfl, cls, ce, locs, hx U hWs.alike f1 (fun q hq => f2 q hq (fun z hz => nomatch hz)), hce, hO.vm, hcl, hWs, hall, hf⟩⟩
  refine st1 _ ?_
  show Steps p.tables e below (T1.setTop { method := m, pc := pc + 3, locals := ls, stack := .ref T.heap.size :: rest, locked := none }) _
  jvm_step X₁.here [X₁.here.top, hexec, d3', Value.category]
  exact X₁.ldcString hexec (own := own) (text := text) (index := is) (a := sa) hown' hstr'.1 hstr'.2
    (g := { method := m, pc := pc + 4, locals := ls, stack := .ref T.heap.size :: .ref T.heap.size :: rest, locked := none }) rfl d4' _ hsteps
/-- 'throw new E("text")', the text by a wide index -/
theorem vx_throwSW {cc : ByteArray} {pc : Nat} (hexec : p.tables.exec = Jvm.exec) (hb : c.code = cc) (hl : l.stackTraces = false) {own cls text : String} {names : List String} {ik is ic mc ms sa : Nat} {A : Nat → Prop}
    (hown : s.vm.findClass own = some m.cls) (hcls : Bundle.fit cls = true) (hnames : ∀ n ∈ names, Bundle.fit n = true)
    (hk : (Cond.classLink own ik cls).before args s = true) (hini : (Cond.initialized cls).before args s = true) (hstr : vk_R own is text sa s) (hat : ∀ w ∈ vx_atS own ic cls names, w.before args s = true)
    (hgood : ∀ w ∈ Cond.classLink own ik cls :: Cond.initialized cls :: vx_atS own ic cls names, vx_ot w = true)
    (hU : vx_Zq Bundle.tN "UNASSIGNED_STACK" Bundle.steD A s s.heap) (hN : vx_Zq Bundle.tN "SUPPRESSED_SENTINEL" Bundle.listD A s s.heap) (hS : va_S A s.heap H locs) (hsize : ls.size = c.maxLocals)
    (d0 : decode cc pc = .ok (.new ik, 3)) (d3 : decode cc (pc + 3) = .ok (.dup, 1)) (d4 : decode cc (pc + 4) = .ok (.ldc_w is, 3)) (d7 : decode cc (pc + 7) = .ok (.invokespecial ic, 3)) (d10 : decode cc (pc + 10) = .ok (.athrow, 1))
    (hout : ∀ x ∈ c.exceptionTable.toList, covers x (pc + 10) = false)
    (hRframes : names.length + 3 < R.frames) (hRlocals : (rest.map fun v => v.category).sum + (13 * (names.length + 1) + 43) ≤ R.locals) (hRcells : cells + 1 ≤ R.cells) (hRslots : slots + 6 ≤ R.slots) (hlocks : meth.locks = false)
    (hx : ∀ t : State, s.vm.Alike t.vm → H.size ≤ t.heap.size → (∀ q : Nat, q < H.size → t.heap[q]? = H[q]?) → XC cls s t)
    (hf : ∀ z ∈ locs, free z.base) (hc : cells + 1 ≤ mc) (hs : slots + 6 ≤ ms) :
    W p l e R s m args below meth c H locs cells slots (vx_MQ below Qc XC args s mc ms free) (F0 m pc ls rest) := by
  intro T hT X
  have htr : e.platform.stackTraces = false := (show e.platform.stackTraces = l.stackTraces by rw [X.admits.platform]).trans hl
  have Y := vx_rebase X (R' := { frames := R.frames, locals := R.locals, cells := 1, slots := 6 }) (Nat.le_refl _) (Nat.le_refl _) hRcells hRslots
  obtain ⟨s', hA⟩ : ∃ z, z = (T.setVm s.vm).setFrames (.invoking m args :: below) := ⟨_, rfl⟩
  rw [← hA] at Y
  have hvm : s'.vm = s.vm := by rw [hA]; rfl
  have hhp : s'.heap = H := by rw [hA]; exact hT
  have hW0 : s.WarmedH s'.vm := by rw [hvm]; exact State.WarmedH.refl s
  have hat' : ∀ w ∈ vx_atS own ic cls names, w.before args s' = true := fun w hw => vx_ot_at hW0 hvm.symm (hgood w (List.mem_cons_of_mem _ (List.mem_cons_of_mem _ hw))) (hat w hw)
  have hk' : (Cond.classLink own ik cls).before args s' = true := vx_ot_at hW0 hvm.symm (hgood _ List.mem_cons_self) hk
  have hini' : (Cond.initialized cls).before args s' = true := vx_ot_at hW0 hvm.symm (hgood _ (List.mem_cons_of_mem _ List.mem_cons_self)) hini
  have hU' : vx_Zq Bundle.tN "UNASSIGNED_STACK" Bundle.steD A s' s'.heap := by rw [hhp]; exact vx_Zq.moved hW0.alike (hU.kept hS.2.1)
  have hN' : vx_Zq Bundle.tN "SUPPRESSED_SENTINEL" Bundle.listD A s' s'.heap := by rw [hhp]; exact vx_Zq.moved hW0.alike (hN.kept hS.2.1)
  have h : ∀ w ∈ Bundle.ownAtoms own ic cls names, w.before args s' = true := vx_own hat' (vx_isRefq hU'.1) (vx_isRefq hN'.1) hU'.2.word hN'.2.word
  have hown' : s'.vm.findClass own = some m.cls := by rw [hvm]; exact hown
  have hins : (Cond.instantiable cls 6).before args s' = true := h _ (by simp [Bundle.ownAtoms])
  obtain ⟨vm₁, cX, kX, hfX, hkX, -, -, X₁, st1⟩ := Y.newCold hexec (own := own) (C := cls) (index := ik) (n := 6) hown' hk' hins hini'
    (g := F0 m pc ls rest) rfl (by rw [hb]; exact d0) (Nat.le_refl _) (Nat.le_refl _)
  generalize hT1 : (T.setVm vm₁).pushCell { cls := cX, slots := kX.instanceTypes.map defaultValue, vm := .none } = T1 at X₁ st1
  have hcat : (Value.ref T.heap.size).category = 1 := rfl
  have hcellA : T1.heap[T.heap.size]? = some (freshCell cX kX) := by rw [← hT1]; exact State.heap_pushCell_size _ _
  have d3' : decode c.code (pc + 3) = .ok (.dup, 1) := by rw [hb]; exact d3
  have d4' : decode c.code (pc + 4) = .ok (.ldc_w is, 3) := by rw [hb]; exact d4
  have hstr' : vk_R own is text sa s' := vk_R.warm hW0 hstr
  obtain ⟨U, hsteps, hrun, hend, hW, hsame, ce, hce, hO⟩ := X₁.ctorThrowS hexec htr (own := own) (cls := cls) (names := names) (ic := ic) hown' hcls hnames h (fun x hx => nomatch hx) hfX hkX hcellA (by rw [hhp, hT]; exact Nat.le_refl _) (msg := .ref sa) rfl
    (g := { method := m, pc := pc + 7, locals := ls, stack := .ref sa :: .ref T.heap.size :: .ref T.heap.size :: rest, locked := none }) rfl hsize rfl rfl (rest := rest) rfl
    (by rw [hb]; exact d7) (by rw [hb]; exact d10) hout hRframes (by simp only [List.map_cons, List.sum_cons, hcat]; omega) hlocks
  obtain ⟨f1, f2⟩ := vx_frame hsame
  rw [hhp] at f1 f2
  have hWs : s.WarmedH U.vm := State.WarmedH.trans hW0 hW
  have hcl : s.vm.findClass cls = some ce.cls := by
    have h9 := hO.cls
    rw [hvm] at h9
    exact h9
  have hall : s.sameButNew ({ U with vm := s.vm } : State) locs mc ms := by
    subst hA
    obtain ⟨e1, e2⟩ := hsame
    rw [State.setFrames_setFrames] at e1
    have h2 : (T.setVm s.vm).sameButNew ({ U with vm := s.vm } : State) [] (0 + 1) (0 + 6) := ⟨e1, e2⟩
    have h3 := X.same.trans h2
    rw [List.append_nil] at h3
    exact h3.mono hc hs
  refine ⟨U, ?_, .threw T.heap.size, hrun, hend, Or.inr ⟨T.heap.size, rfl, cls, ce, locs, hx U hWs.alike f1 (fun q hq => f2 q hq (fun z hz => nomatch hz)), hce, hO.vm, hcl, hWs, hall, hf⟩⟩
  refine st1 _ ?_
  show Steps p.tables e below (T1.setTop { method := m, pc := pc + 3, locals := ls, stack := .ref T.heap.size :: rest, locked := none }) _
  jvm_step X₁.here [X₁.here.top, hexec, d3', Value.category]
  exact X₁.ldcStringW hexec (own := own) (text := text) (index := is) (a := sa) hown' hstr'.1 hstr'.2
    (g := { method := m, pc := pc + 4, locals := ls, stack := .ref T.heap.size :: .ref T.heap.size :: rest, locked := none }) rfl d4' _ hsteps
end Ends
section Bodies
variable {l : Launch}
theorem vx_ofW {y : MethodName} {ws ws' : List Cond} {rm : Room} {Pc : Array Value → State → Prop} {Qc : Array Value → State → Outcome → State → Prop} {XC : String → State → State → Prop} {mc ms : Nat} {free : Addr → Prop} {cc : ByteArray} {maxL : Nat} {ret : Option FieldType}
    (hy : plainName y.cls = true) (hw : ws = Cond.code y cc maxL ret :: ws')
    (body : ∀ p e s m args below meth c s₁, BodyLoose p l y (headSpec ws rm) cc maxL ret e s m args below meth c s₁ → c.maxLocals = maxL → (∀ x ∈ c.exceptionTable.toList, False) → Pc args s →
      W p l e (headSpec ws rm).room s m args below meth c s.heap [] 0 0 (vx_MQ below Qc XC args s mc ms free) (entryFrame m args maxL)) : vx_Met l y ws rm Pc Qc XC mc ms free := by
  refine MetFree.of_bodyS (code := cc) (maxLocals := maxL) (ret := ret) hy ?_ ?_
  · intro args s m h hn
    obtain ⟨meth, c, h1, h2, h3, h4, h5, h6, -, -⟩ := Cond.code_spec hn (atoms_spec (ws := ws) h _ (by rw [hw]; exact List.mem_cons_self))
    exact ⟨meth, c, h1, h2, h3, h4, h5, h6⟩
  · intro p e s m args below meth c s₁ B hml hP _
    have hh0 : s₁.heap = s.heap := by rw [B.state]; rfl
    have ht : ∀ x ∈ c.exceptionTable.toList, False := by
      obtain ⟨meth9, c9, h1, h2, -, -, -, -, h7, -⟩ := Cond.code_spec B.named (atoms_spec (ws := ws) B.pre _ (by rw [hw]; exact List.mem_cons_self))
      cases Option.some.inj (h1.symm.trans B.method)
      cases Option.some.inj (h2.symm.trans (Stand.of_body B).code)
      intro x hx
      rw [Array.isEmpty_iff.mp h7] at hx
      cases hx
    obtain ⟨t, a1, o, b1, b2, b3⟩ := body p e s m args below meth c s₁ B hml ht hP s₁ hh0 (Stand.of_body B)
    exact ⟨t, o, a1, b1, b2, b3⟩
/-- the table of a body with handlers -/
theorem vx_table {p : Program} {x y : MethodName} {S : Spec} {cc bytes : ByteArray} {maxL maxL' : Nat} {ret ret' : Option FieldType} {e : Env} {s s₁ : State} {m : MethodId} {args : Array Value} {below : List Frame} {meth : Method} {c : Code} {hh : List (Nat × Nat × Nat × Nat)}
    (B : BodyLoose p l y S cc maxL ret e s m args below meth c s₁) (h : (Cond.codeWith y bytes maxL' ret' hh).before args s = true) : c.exceptionTable.toList = tableOf hh := by
  obtain ⟨m9, meth9, c9, hn9, h1, h2, -, -, h6, -⟩ := Cond.codeWith_spec h
  cases Option.some.inj (hn9.symm.trans B.named)
  cases Option.some.inj (h1.symm.trans B.method)
  cases Option.some.inj (h2.symm.trans (Stand.of_body B).code)
  rw [← h6, table_eq]
end Bodies
end VXA
/-! ===== END ===== -/
/-! ===== BEGIN a static call of a method with an exception table ===== -/
section VXS
variable {p : Program} {l : Launch} {e : Env} {R : Room} {s : State} {m : MethodId} {args : Array Value} {below : List Frame} {meth : Method} {c : Code} {T : State} {H : Heap} {locs : List Loc} {cells slots : Nat}
abbrev vx_CSW (R : Room) (s : State) (args : Array Value) (own : String) (index : Nat) (y : MethodName) (bytes : ByteArray) (maxL : Nat) (ret : Option FieldType) (hh : List (Nat × Nat × Nat × Nat)) (ws : List Cond) (rm : Room) (mc ms n : Nat) : Prop :=
  (rm.cells = mc ∧ rm.slots = ms ∧ rm.frames + 1 ≤ R.frames ∧ 8 + (maxL + 11) + rm.locals ≤ R.locals ∧ (∀ w ∈ ws, ∀ (a' : Array Value) (U : State), s.WarmedH U.vm → w.before a' U = true) ∧ Cond.codeWith y bytes maxL ret hh ∈ ws) ∧
  (Cond.codeWith y bytes maxL ret hh).before args s = true ∧ (Cond.initialized y.cls).before args s = true ∧ (y.cls ≠ "java/lang/invoke/MethodHandle" ∧ y.cls ≠ "java/lang/invoke/VarHandle") ∧
  (∀ sig, parseMethodDescriptor y.desc = some sig → n = sig.parameters.length) ∧ (Cond.methodLink own index y).before args s = true ∧ (Cond.static y).before args s = true
theorem vx_cwSW {own : String} {index maxL mc ms : Nat} {y : MethodName} {bytes : ByteArray} {ret : Option FieldType} {hh : List (Nat × Nat × Nat × Nat)} {Ts ws ws' : List Cond} {rm : Room} (n : Nat) (ht : ∀ w ∈ Ts, w.before args s = true) (hT : GoodIn Ts (va_wsS own index y ws)) (hw : ws = Cond.codeWith y bytes maxL ret hh :: ws') (hrc : rm.cells = mc) (hrs : rm.slots = ms)
    (hd : y.cls ≠ "java/lang/invoke/MethodHandle" ∧ y.cls ≠ "java/lang/invoke/VarHandle" ∧ (parseMethodDescriptor y.desc).map (fun d => d.parameters.length) = some n) (hR : rm.frames + 1 ≤ R.frames ∧ 8 + (maxL + 11) + rm.locals ≤ R.locals) :
    vx_CSW R s args own index y bytes maxL ret hh ws rm mc ms n := by
  have ok : ∀ w ∈ va_wsS own index y ws, w.before args s = true := fun w h => ht w (hT w h).1
  have hG : GoodIn Ts ws := fun w h => hT w (by unfold va_wsS; exact List.mem_append_right _ h)
  have hc : Cond.codeWith y bytes maxL ret hh ∈ ws := by rw [hw]; exact List.mem_cons_self
  refine ⟨⟨hrc, hrs, hR.1, hR.2, pay_in ht hG, hc⟩, ht _ (hG _ hc).1, ok _ (by simp [va_wsS]), ⟨hd.1, hd.2.1⟩, fun sig h => ?_, ok _ (by simp [va_wsS]), ok _ (by simp [va_wsS])⟩
  have h2 := hd.2.2
  rw [h] at h2
  exact (Option.some.inj h2).symm
theorem vx_callSW (X : Stand p l e R s m args below meth c T locs cells slots) (hexec : p.tables.exec = Jvm.exec) {own : String} {index : Nat} {y : MethodName} {bytes : ByteArray} {maxL : Nat} {ret : Option FieldType} {hh : List (Nat × Nat × Nat × Nat)}
    (hown : s.vm.findClass own = some m.cls) (hlink : (Cond.methodLink own index y).before args s = true) (hstat : (Cond.static y).before args s = true) (hinit : (Cond.initialized y.cls).before args s = true)
    (hcode : (Cond.codeWith y bytes maxL ret hh).before args s = true) (hy : y.cls ≠ "java/lang/invoke/MethodHandle" ∧ y.cls ≠ "java/lang/invoke/VarHandle")
    {W9 : Nat} {Pre : Pt → Array Value → Prop} {Post : Pt → Array Value → Option Value → Pt → Prop} (hK : Back l R p e below s args y 3 W9 Pre Post)
    {g : JFrame} (hg : g.method = m) (hsize : g.locals.size = c.maxLocals) {argsL rest : List Value} (hlen : ∀ sig, parseMethodDescriptor y.desc = some sig → argsL.length = sig.parameters.length)
    (hstack : g.stack = argsL.reverse ++ rest) (hW : 2 * g.monitorRoom + (rest.map fun v => v.category).sum ≤ W9) (hdg : decode c.code g.pc = .ok (.invokestatic index, 3))
    (hpre : ∀ vm₁, s.WarmedH vm₁ → Pre ⟨T.setVm vm₁, locs, cells, slots⟩ argsL.toArray) :
    ∃ (v : Option Value) (vm₁ : Vm) (B : Pt), s.WarmedH vm₁ ∧ Stand p l e R s m args below meth c B.U B.locs B.cells B.slots ∧ Post ⟨T.setVm vm₁, locs, cells, slots⟩ argsL.toArray v B ∧
      ∀ target, Steps p.tables e below (B.U.setTop { g with pc := g.pc + 3, stack := v.toList ++ rest }) target → Steps p.tables e below (T.setTop g) target := by
  obtain ⟨mk, methM, cM, hnamed, hmethM, -, -, -, -, -, -, hsigM⟩ := Cond.codeWith_spec hcode
  have hstatic : methM.isStatic = true := Cond.static_spec hnamed hmethM hstat
  obtain ⟨kP, hkP, -⟩ := className_of_methodNamed hnamed
  have hinitP : kP.init = .initialized := Cond.initialized_spec (findClass_of_methodNamed hnamed) hkP hinit
  obtain ⟨vm₁, X₁, hstep₁⟩ := X.invokestatic hexec hown hlink hnamed hmethM hstatic hkP hinitP hy (g := g) hg (argsL := argsL) (rest := rest) (hlen _ hsigM) hstack hdg
  obtain ⟨v, B, X', hpost, hsteps⟩ := hK m meth c ⟨T.setVm vm₁, locs, cells, slots⟩ { g with stack := rest } (.invokestatic index) mk argsL.toArray X₁ hg hsize hdg hW (X₁.named hnamed) (hpre vm₁ X₁.warmed)
  exact ⟨v, vm₁, B, X₁.warmed, X', hpost, fun target h => hstep₁ _ fun acts => by rw [doInvoke_state]; exact hsteps.trans h⟩
theorem vx_runSW {y : MethodName} {bytes cc : ByteArray} {maxL nL mc ms n index : Nat} {ret : Option FieldType} {hh : List (Nat × Nat × Nat × Nat)} {ws : List Cond} {rm : Room} {Pc : Array Value → State → Prop} {Qc : Array Value → State → Outcome → State → Prop} {free : Addr → Prop} {Ts : List Cond} {own : String} {As rest : List Value} {g : JFrame}
    (S : CallFix p m c cc nL s args Ts own) (hM : Met l y ws rm Pc Qc mc ms free) (cw : vx_CSW R s args own index y bytes maxL ret hh ws rm mc ms n) (hp : PreS s H Pc As)
    (hg : g.method = m) (hn : As.length = n) (hsize : g.locals.size = nL) (hstack : g.stack = As.reverse ++ rest) (hW : 2 * g.monitorRoom + (rest.map fun v => v.category).sum ≤ 8) (hdg : decode cc g.pc = .ok (.invokestatic index, 3)) (hf : cells + mc ≤ R.cells ∧ slots + ms ≤ R.slots) :
    va_Run p l e R s m args below meth c H locs cells slots mc ms g rest (Qc As.toArray) (free) := by
  obtain ⟨⟨hrc, hrs, hfr, hlo, hws, hcw⟩, hcode, hini, hy, hlen, hl, hstt⟩ := cw
  have hK : Back l R p e below s args y 3 8 (PreOf R mc ms Pc) (PostOf Qc mc ms free) := va_backW (hh := hh) (bytes := bytes) (maxL := maxL) (ret := ret) hM hp.1 hrc hrs hfr hlo hws hcw (fun a' U hW => word_at hW (Or.inl (by first | rfl | simp [Cond.onTables, Cond.keeps, Cond.steady])) hini)
  obtain ⟨hx, hb, hml, ho, -⟩ := S
  intro T hT X
  obtain ⟨v, vm₁, ⟨U', l2, c2, s2⟩, hW₁, X', ⟨g', mk, t, L, e1, e2, hq, h1, hL, h2, h3⟩, st⟩ := vx_callSW X hx (hh := hh) (bytes := bytes) (maxL := maxL) (ret := ret) ho hl hstt hini hcode hy hK hg (hsize.trans hml.symm) (argsL := As) (rest := rest) (fun sig h => hn.trans (hlen sig h)) hstack hW (by rw [hb]; exact hdg)
    (fun vm₁ hW₁ => ⟨hf.1, hf.2, hp.2 (T.setVm vm₁) hT hW₁⟩)
  dsimp only [Pt.U, Pt.locs, Pt.cells, Pt.slots] at X' e1 e2 h1 h2 h3 st
  subst h1; subst h2; subst h3
  exact ⟨v, (T.setVm vm₁).calling g' mk As.toArray, t, U', L, hT, X', hL, e1, e2, hq, st⟩
/-- not caught here, past rows that name other classes: it goes on to the caller -/
theorem vx_outP {p : Program} {l : Launch} {e : Env} {R : Room} {s : State} {m : MethodId} {args : Array Value} {below : List Frame} {meth : Method} {c : Code} {H : Heap} {locs : List Loc} {cells slots : Nat} {free : Addr → Prop} {ls : Array Slot} {rest : List Value} {Qc : Array Value → State → Outcome → State → Prop} {XC : String → State → State → Prop}
    {pc : Nat} {own E : String} {ce : Cell} {q : Addr} {mc ms : Nat} (hown : s.vm.findClass own = some m.cls) (hlocks : meth.locks = false)
    (hpass : ∀ z ∈ c.exceptionTable.toList, covers z pc = false ∨ (z.catchType ≠ 0 ∧ ∃ nm : String, (Cond.classLink own z.catchType nm).before args s = true ∧ va_Nc E nm s)) (hcell : H[q]? = some ce) (hv : ce.vm = .none) (hcl : s.vm.findClass E = some ce.cls)
    (hx : ∀ t : State, t.heap = H → s.vm.Alike t.vm → XC E s t) (hf : ∀ z ∈ locs, free z.base) (hc : cells ≤ mc) (hs : slots ≤ ms) :
    vx_W p l e R s m args below meth c H locs cells slots (vx_MQ below Qc XC args s mc ms free) (F0 m pc ls rest) q := by
  intro T hT X
  have hpl : e.platform.magicAccessors = ({} : Platform).magicAccessors := by rw [X.admits.platform]
  obtain ⟨vm', hW', X', st⟩ := X.outThrough hlocks q (g := F0 m pc ls rest) rfl rfl rfl (cell := ce) (by rw [hT]; exact hcell) (by rw [hv]; rfl)
    (by obtain ⟨k9, h9, -⟩ := Vm.findClass_spec hcl; exact ⟨k9, h9⟩) (fun z hz => by
      rcases hpass z hz with h | ⟨hz0, nm, hl1, hn1⟩
      · exact Or.inl h
      · obtain ⟨c6, hc6, hcl6⟩ := Cond.classLink_spec hown hl1 e.platform hpl
        obtain ⟨a8, b8, h1, h2, h3⟩ := hn1
        cases Option.some.inj (h1.symm.trans hcl)
        cases Option.some.inj (h2.symm.trans hc6)
        exact Or.inr ⟨hz0, _, hcl6, h3⟩)
  obtain ⟨g₀, hfr⟩ := X'.frames_eq
  have hcell9 : ((T.setVm vm').setFrames (.throwing q :: below)).heap[q]? = some ce := by
    show T.heap[q]? = some ce
    rw [hT]; exact hcell
  have hend : Ended ((T.setVm vm').setFrames (.throwing q :: below)) below (.threw q) := State.frames_setFrames _ (State.cur_lt_of_frames hfr)
  refine ⟨(T.setVm vm').setFrames (.throwing q :: below), ?_, .threw q, X'.here.running, hend, Or.inr ⟨q, rfl, E, ce, locs, hx _ hT (X'.ends _).1.alike, hcell9, hv, hcl, (X'.ends _).1, (X'.ends _).2.mono hc hs, hf⟩⟩
  rw [X.pushThrowing_eq]
  exact st
/-- a thing of a world lies in the heap -/
theorem vx_lt {D : va_G} {cl : List vw_C} {ws : va_W} {H1 : Heap} (h : va_P D cl ws H1) {k : Nat} {q : Nat × va_E} (hk : ws[k]? = some q) : q.1 < H1.size := (h k q hk).lt
end VXS
/-! ===== END ===== -/
/-! ===== BEGIN methods with a table of their own: called by a name, returning or throwing ===== -/
section VXH
/-! vx_backW, vx_callVX, vx_callSX, vx_callVW, vx_runVW, vx_runVX, vx_runSX, vx_ofWH follow the same proofs as their sisters above (Free/Laws.lean, Shelf42/LK1.lean); vx_outP calls Shelf42/NT130.lean (outThrough). -/
section
variable {l : Launch} {R : Room} {p : Program} {e : Env} {below : List Frame} {s : State} {sargs : Array Value} {y : MethodName} {len W9 : Nat}
theorem vx_backW {ws : List Cond} {rm : Room} {Pc : Array Value → State → Prop} {Qc : Array Value → State → Outcome → State → Prop} {XC : String → State → State → Prop} {mc ms : Nat} {free : Addr → Prop} {bytes : ByteArray} {maxL : Nat} {ret : Option FieldType} {hh : List (Nat × Nat × Nat × Nat)}
    (hM : vx_Met l y ws rm Pc Qc XC mc ms free) (hblind : FrameBlind Pc) (hrc : rm.cells = mc) (hrs : rm.slots = ms)
    (hframes : rm.frames + 1 ≤ R.frames) (hlocals : W9 + (maxL + 11) + rm.locals ≤ R.locals)
    (hws : ∀ w ∈ ws, ∀ a' U, s.WarmedH U.vm → w.before a' U = true) (hcode : Cond.codeWith y bytes maxL ret hh ∈ ws) (hinit : ∀ a' U, s.WarmedH U.vm → (Cond.initialized y.cls).before a' U = true) :
    vx_Back l R p e below s sargs y len W9 (PreOf R mc ms Pc) (PostOf Qc mc ms free) (vx_Post XC mc ms free) := by
  intro m meth c A g ig mk a X hg hsize hdg hW hn hp
  have h1 : (headSpec ws rm).pre.before a A.U = true := atoms_intro fun w hw => hws w hw _ _ X.warmed
  have h2 : (Cond.codeWith y bytes maxL ret hh).before a A.U = true := hws _ hcode _ _ X.warmed
  have h3 : (Cond.initialized y.cls).before a A.U = true := hinit _ _ X.warmed
  have h4 : A.cells + (headSpec ws rm).room.cells ≤ R.cells := by rw [show (headSpec ws rm).room.cells = mc from hrc]; exact hp.1
  have h5 : A.slots + (headSpec ws rm).room.slots ≤ R.slots := by rw [show (headSpec ws rm).room.slots = ms from hrs]; exact hp.2.1
  have hPc : Pc a (A.U.calling g mk a) := hblind _ _ _ _ hp.2.2
  obtain ⟨U, Ls, c0, s0⟩ := A
  dsimp only [Pt.U, Pt.locs, Pt.cells, Pt.slots] at h1 h2 h3 h4 h5 X hn hPc ⊢
  obtain ⟨m9, methY, cY, hn9, hmY, hcY, -, hlY, -⟩ := Cond.codeWith_spec h2
  cases Option.some.inj (hn9.symm.trans hn)
  obtain ⟨kY, hkY, -⟩ := className_of_methodNamed hn
  have hinitY : kY.init = .initialized := Cond.initialized_spec (findClass_of_methodNamed hn) hkY h3
  have h : At U g.method c below := by rw [hg]; exact X.here
  have hlocals9 : W9 + (maxL + 11) + (headSpec ws rm).room.locals ≤ R.locals := hlocals
  have happ : (headSpec ws rm).appliesLoose y e.platform (U.calling g mk a) = true :=
    Spec.appliesLoose_calling (g := g) h hdg hn hkY hinitY
      (X.room_calling (g := g) (R' := (headSpec ws rm).room) hsize hmY hcY hframes (by rw [hlY]; omega) h4 h5) h1
  obtain ⟨mid, hmid⟩ := h.above
  have hfr : (U.setTop g).frames = (.java g :: mid) ++ below := by rw [State.frames_setTop' g h.top, hmid]; rfl
  obtain ⟨o, s₂, hsteps, -, hend, hq⟩ := Steps.callFree hM p X.admits X.cas X.clock (acts := []) hfr happ hPc trivial
  have hq' : vx_Q Qc XC mc ms free a (U.calling g mk a) o s₂ := hq
  rw [State.frames_setTop' g h.top] at hend
  obtain ⟨g₀, hg0⟩ := Option.isSome_iff_exists.mp h.top
  obtain ⟨r, hr⟩ := State.topJava?_eq_some.mp hg0
  have hr' : (({ U with heap := s₂.heap, slotsUsed := s₂.slotsUsed } : State).setVm s₂.vm).frames = .java g₀ :: r := hr
  rcases hq' with ⟨hqc, L, hfe, hL⟩ | ⟨q, rfl, E, ce, L, hx, hce, hcv, hcl, hW₂, hsm, hL⟩
  · obtain ⟨⟨v, rfl⟩, hW₂, e2, q2, q3, q4, q5, q6⟩ := id hfe
    have e3 : s₂ = ({ (U.calling g mk a).setFrames s₂.frames with heap := s₂.heap, slotsUsed := s₂.slotsUsed } : State).setVm s₂.vm := by
      have : s₂ = ({ s₂ with vm := (U.calling g mk a).vm } : State).setVm s₂.vm := rfl
      rw [e2] at this
      exact this
    obtain ⟨c₂, i₂, len₂, hc₂, hd₂, hf₂⟩ := hend
    have hW' : U.WarmedH s₂.vm := hW₂
    have hcc : c₂ = c := by
      have h1 : s₂.code? g.method = U.code? g.method := by
        rw [State.code?_eq, State.code?_eq, hW'.alike.method?]
      exact Option.some.inj (hc₂.symm.trans (h1.trans h.code))
    subst hcc
    have hlen : len₂ = len := by rw [hdg] at hd₂; cases hd₂; rfl
    subst hlen
    have hs₂ : s₂ = (({ U with heap := s₂.heap, slotsUsed := s₂.slotsUsed } : State).setVm s₂.vm).setTop { g with pc := g.pc + len₂, stack := v.toList ++ g.stack } := by
      refine e3.trans ?_
      rw [hf₂, State.calling_eq h.top, State.setFrames_setFrames, State.setTop_of_frames _ hr', hr]
      rfl
    have hsame : U.sameButNew ({ U with heap := s₂.heap, slotsUsed := s₂.slotsUsed } : State) L mc ms := by
      refine ⟨?_, q2, q3, q4, q5, q6⟩
      obtain ⟨t, ht, -⟩ := State.frames_cons hr
      show ({ U with heap := s₂.heap, slotsUsed := s₂.slotsUsed } : State) = { U.setFrames U.frames with heap := s₂.heap, slotsUsed := s₂.slotsUsed }
      rw [State.setFrames_self ht]
    subst hg
    refine Or.inl ⟨v, ⟨(({ U with heap := s₂.heap, slotsUsed := s₂.slotsUsed } : State).setVm s₂.vm), Ls ++ L, c0 + mc, s0 + ms⟩,
      ⟨X.admits, X.cas, X.clock, X.frames, X.room, X.hears, X.method, X.code, (X.here.setHeapUsed s₂.heap s₂.slotsUsed).setVm hW'.alike, X.tail, State.WarmedH.trans X.warmed hW', X.limits, X.bytes, X.same.trans (hsame.setVm s.vm)⟩,
      ⟨g, mk, s₂, L, rfl, rfl, hqc, rfl, hL, rfl, rfl⟩, ?_⟩
    show Steps p.tables e below _ ((({ U with heap := s₂.heap, slotsUsed := s₂.slotsUsed } : State).setVm s₂.vm).setTop { g with pc := g.pc + len₂, stack := v.toList ++ g.stack })
    rw [← hs₂]
    exact hsteps
  · obtain ⟨e2, q2, q3, q4, q5, q6⟩ := id hsm
    have e3 : s₂ = ({ (U.calling g mk a).setFrames s₂.frames with heap := s₂.heap, slotsUsed := s₂.slotsUsed } : State).setVm s₂.vm := by
      have : s₂ = ({ s₂ with vm := (U.calling g mk a).vm } : State).setVm s₂.vm := rfl
      rw [e2] at this
      exact this
    have hf₂ : s₂.frames = .throwing q :: .java g :: U.frames.tail := hend
    have hW' : U.WarmedH s₂.vm := hW₂
    have hs₂ : s₂ = ((({ U with heap := s₂.heap, slotsUsed := s₂.slotsUsed } : State).setVm s₂.vm).setTop g).pushFrame (.throwing q) := by
      refine e3.trans ?_
      rw [hf₂, State.calling_eq h.top, State.setFrames_setFrames, State.pushFrame, State.frames_setTop _ hr', State.setTop_of_frames _ hr', State.setFrames_setFrames, hr]
      rfl
    have hsame : U.sameButNew ({ U with heap := s₂.heap, slotsUsed := s₂.slotsUsed } : State) L mc ms := by
      refine ⟨?_, q2, q3, q4, q5, q6⟩
      obtain ⟨t, ht, -⟩ := State.frames_cons hr
      show ({ U with heap := s₂.heap, slotsUsed := s₂.slotsUsed } : State) = { U.setFrames U.frames with heap := s₂.heap, slotsUsed := s₂.slotsUsed }
      rw [State.setFrames_self ht]
    subst hg
    refine Or.inr ⟨q, ⟨(({ U with heap := s₂.heap, slotsUsed := s₂.slotsUsed } : State).setVm s₂.vm), Ls ++ L, c0 + mc, s0 + ms⟩,
      ⟨X.admits, X.cas, X.clock, X.frames, X.room, X.hears, X.method, X.code, (X.here.setHeapUsed s₂.heap s₂.slotsUsed).setVm hW'.alike, X.tail, State.WarmedH.trans X.warmed hW', X.limits, X.bytes, X.same.trans (hsame.setVm s.vm)⟩,
      ⟨g, mk, s₂, L, E, ce, rfl, rfl, hx, hce, hcv, hcl, rfl, hL, rfl, rfl⟩, ?_⟩
    show Steps p.tables e below _ (((({ U with heap := s₂.heap, slotsUsed := s₂.slotsUsed } : State).setVm s₂.vm).setTop g).pushFrame (.throwing q))
    rw [← hs₂]
    exact hsteps
end
variable {p : Program} {l : Launch} {e : Env} {R : Room} {s : State} {m : MethodId} {args : Array Value} {below : List Frame} {meth : Method} {c : Code} {T : State} {H : Heap} {locs : List Loc} {cells slots : Nat}
theorem vx_callVX (X : Stand p l e R s m args below meth c T locs cells slots) (hexec : p.tables.exec = Jvm.exec) {own C : String} {index : Nat} {y : MethodName} {bytes : ByteArray} {maxL : Nat} {ret : Option FieldType} {hh : List (Nat × Nat × Nat × Nat)}
    (hown : s.vm.findClass own = some m.cls) (hlink : (Cond.methodLink own index y).before args s = true) (hinst : (Cond.instanceMethod y).before args s = true) (hsel : (Cond.selects C y y).before args s = true)
    (hcode : (Cond.codeWith y bytes maxL ret hh).before args s = true) (hy : y.cls ≠ "java/lang/invoke/MethodHandle" ∧ y.cls ≠ "java/lang/invoke/VarHandle")
    {W9 : Nat} {Pre : Pt → Array Value → Prop} {Post : Pt → Array Value → Option Value → Pt → Prop} {PostX : Pt → Array Value → Addr → Pt → Prop} (hK : vx_Back l R p e below s args y 3 W9 Pre Post PostX)
    {b : Addr} {cellB : Cell} (hcell : T.heap[b]? = some cellB) (hobj : cellB.vm.isStatics = false) (hcls : s.vm.findClass C = some cellB.cls)
    {g : JFrame} (hg : g.method = m) (hsize : g.locals.size = c.maxLocals) {argsL rest : List Value} (hlen : ∀ sig, parseMethodDescriptor y.desc = some sig → argsL.length = sig.parameters.length)
    (hstack : g.stack = argsL.reverse ++ .ref b :: rest) (hW : 2 * g.monitorRoom + (rest.map fun v => v.category).sum ≤ W9) (hdg : decode c.code g.pc = .ok (.invokevirtual index, 3))
    (hpre : ∀ vm₁, s.WarmedH vm₁ → Pre ⟨T.setVm vm₁, locs, cells, slots⟩ (Value.ref b :: argsL).toArray) :
    (∃ (v : Option Value) (vm₁ : Vm) (B : Pt), s.WarmedH vm₁ ∧ Stand p l e R s m args below meth c B.U B.locs B.cells B.slots ∧ Post ⟨T.setVm vm₁, locs, cells, slots⟩ (Value.ref b :: argsL).toArray v B ∧
      ∀ target, Steps p.tables e below (B.U.setTop { g with pc := g.pc + 3, stack := v.toList ++ rest }) target → Steps p.tables e below (T.setTop g) target) ∨
    (∃ (q : Addr) (vm₁ : Vm) (B : Pt), s.WarmedH vm₁ ∧ Stand p l e R s m args below meth c B.U B.locs B.cells B.slots ∧ PostX ⟨T.setVm vm₁, locs, cells, slots⟩ (Value.ref b :: argsL).toArray q B ∧
      Steps p.tables e below (T.setTop g) ((B.U.setTop { g with stack := rest }).pushFrame (.throwing q))) := by
  obtain ⟨mk, methM, hnamed, hmethM, hstM, habM⟩ := Cond.instanceMethod_spec hinst
  obtain ⟨m8, methM', cM, hn8, hmethM', -, -, -, -, -, -, hsigM⟩ := Cond.codeWith_spec hcode
  cases Option.some.inj (hn8.symm.trans hnamed)
  cases hmethM.symm.trans hmethM'
  obtain ⟨c2, r2, m2, q1, q2, q3, q4, kP, hkP, hkPi⟩ := Cond.selects_spec hsel
  cases hcls.symm.trans q1
  cases (State.methodFound?_of_named hnamed hy).symm.trans q2
  cases hnamed.symm.trans q3
  have hselP : selectMethod e.platform s.vm cellB.cls mk = .method mk := by rw [Launch.admits_selectMethod X.admits]; exact q4
  obtain ⟨vm₁, X₁, hstep₁⟩ := X.invokevirtual hexec hown hlink hnamed hmethM hstM hkP hkPi hy (a := b) (cell := cellB) hcell
    (fun z h => by rw [h] at hobj; cases hobj) hselP hmethM habM hkP hkPi (g := g) hg (argsL := argsL) (rest := rest) (hlen _ hsigM) hstack hdg
  rcases hK m meth c ⟨T.setVm vm₁, locs, cells, slots⟩ { g with stack := rest } (.invokevirtual index) mk (Value.ref b :: argsL).toArray X₁ hg hsize hdg hW (X₁.named hnamed) (hpre vm₁ X₁.warmed) with ⟨v, B, X', hpost, hsteps⟩ | ⟨q, B, X', hpost, hsteps⟩
  · exact Or.inl ⟨v, vm₁, B, X₁.warmed, X', hpost, fun target h => hstep₁ _ fun acts => by rw [doInvoke_state]; exact hsteps.trans h⟩
  · exact Or.inr ⟨q, vm₁, B, X₁.warmed, X', hpost, hstep₁ _ fun acts => by rw [doInvoke_state]; exact hsteps⟩
theorem vx_callSX (X : Stand p l e R s m args below meth c T locs cells slots) (hexec : p.tables.exec = Jvm.exec) {own : String} {index : Nat} {y : MethodName} {bytes : ByteArray} {maxL : Nat} {ret : Option FieldType} {hh : List (Nat × Nat × Nat × Nat)}
    (hown : s.vm.findClass own = some m.cls) (hlink : (Cond.methodLink own index y).before args s = true) (hstat : (Cond.static y).before args s = true) (hinit : (Cond.initialized y.cls).before args s = true)
    (hcode : (Cond.codeWith y bytes maxL ret hh).before args s = true) (hy : y.cls ≠ "java/lang/invoke/MethodHandle" ∧ y.cls ≠ "java/lang/invoke/VarHandle")
    {W9 : Nat} {Pre : Pt → Array Value → Prop} {Post : Pt → Array Value → Option Value → Pt → Prop} {PostX : Pt → Array Value → Addr → Pt → Prop} (hK : vx_Back l R p e below s args y 3 W9 Pre Post PostX)
    {g : JFrame} (hg : g.method = m) (hsize : g.locals.size = c.maxLocals) {argsL rest : List Value} (hlen : ∀ sig, parseMethodDescriptor y.desc = some sig → argsL.length = sig.parameters.length)
    (hstack : g.stack = argsL.reverse ++ rest) (hW : 2 * g.monitorRoom + (rest.map fun v => v.category).sum ≤ W9) (hdg : decode c.code g.pc = .ok (.invokestatic index, 3))
    (hpre : ∀ vm₁, s.WarmedH vm₁ → Pre ⟨T.setVm vm₁, locs, cells, slots⟩ argsL.toArray) :
    (∃ (v : Option Value) (vm₁ : Vm) (B : Pt), s.WarmedH vm₁ ∧ Stand p l e R s m args below meth c B.U B.locs B.cells B.slots ∧ Post ⟨T.setVm vm₁, locs, cells, slots⟩ argsL.toArray v B ∧
      ∀ target, Steps p.tables e below (B.U.setTop { g with pc := g.pc + 3, stack := v.toList ++ rest }) target → Steps p.tables e below (T.setTop g) target) ∨
    (∃ (q : Addr) (vm₁ : Vm) (B : Pt), s.WarmedH vm₁ ∧ Stand p l e R s m args below meth c B.U B.locs B.cells B.slots ∧ PostX ⟨T.setVm vm₁, locs, cells, slots⟩ argsL.toArray q B ∧
      Steps p.tables e below (T.setTop g) ((B.U.setTop { g with stack := rest }).pushFrame (.throwing q))) := by
  obtain ⟨mk, methM, cM, hnamed, hmethM, -, -, -, -, -, -, hsigM⟩ := Cond.codeWith_spec hcode
  have hstatic : methM.isStatic = true := Cond.static_spec hnamed hmethM hstat
  obtain ⟨kP, hkP, -⟩ := className_of_methodNamed hnamed
  have hinitP : kP.init = .initialized := Cond.initialized_spec (findClass_of_methodNamed hnamed) hkP hinit
  obtain ⟨vm₁, X₁, hstep₁⟩ := X.invokestatic hexec hown hlink hnamed hmethM hstatic hkP hinitP hy (g := g) hg (argsL := argsL) (rest := rest) (hlen _ hsigM) hstack hdg
  rcases hK m meth c ⟨T.setVm vm₁, locs, cells, slots⟩ { g with stack := rest } (.invokestatic index) mk argsL.toArray X₁ hg hsize hdg hW (X₁.named hnamed) (hpre vm₁ X₁.warmed) with ⟨v, B, X', hpost, hsteps⟩ | ⟨q, B, X', hpost, hsteps⟩
  · exact Or.inl ⟨v, vm₁, B, X₁.warmed, X', hpost, fun target h => hstep₁ _ fun acts => by rw [doInvoke_state]; exact hsteps.trans h⟩
  · exact Or.inr ⟨q, vm₁, B, X₁.warmed, X', hpost, hstep₁ _ fun acts => by rw [doInvoke_state]; exact hsteps⟩
theorem vx_callVW (X : Stand p l e R s m args below meth c T locs cells slots) (hexec : p.tables.exec = Jvm.exec) {own C : String} {index : Nat} {y : MethodName} {bytes : ByteArray} {maxL : Nat} {ret : Option FieldType} {hh : List (Nat × Nat × Nat × Nat)}
    (hown : s.vm.findClass own = some m.cls) (hlink : (Cond.methodLink own index y).before args s = true) (hinst : (Cond.instanceMethod y).before args s = true) (hsel : (Cond.selects C y y).before args s = true)
    (hcode : (Cond.codeWith y bytes maxL ret hh).before args s = true) (hy : y.cls ≠ "java/lang/invoke/MethodHandle" ∧ y.cls ≠ "java/lang/invoke/VarHandle")
    {W9 : Nat} {Pre : Pt → Array Value → Prop} {Post : Pt → Array Value → Option Value → Pt → Prop} (hK : Back l R p e below s args y 3 W9 Pre Post)
    {b : Addr} {cellB : Cell} (hcell : T.heap[b]? = some cellB) (hobj : cellB.vm.isStatics = false) (hcls : s.vm.findClass C = some cellB.cls)
    {g : JFrame} (hg : g.method = m) (hsize : g.locals.size = c.maxLocals) {argsL rest : List Value} (hlen : ∀ sig, parseMethodDescriptor y.desc = some sig → argsL.length = sig.parameters.length)
    (hstack : g.stack = argsL.reverse ++ .ref b :: rest) (hW : 2 * g.monitorRoom + (rest.map fun v => v.category).sum ≤ W9) (hdg : decode c.code g.pc = .ok (.invokevirtual index, 3))
    (hpre : ∀ vm₁, s.WarmedH vm₁ → Pre ⟨T.setVm vm₁, locs, cells, slots⟩ (Value.ref b :: argsL).toArray) :
    ∃ (v : Option Value) (vm₁ : Vm) (B : Pt), s.WarmedH vm₁ ∧ Stand p l e R s m args below meth c B.U B.locs B.cells B.slots ∧ Post ⟨T.setVm vm₁, locs, cells, slots⟩ (Value.ref b :: argsL).toArray v B ∧
      ∀ target, Steps p.tables e below (B.U.setTop { g with pc := g.pc + 3, stack := v.toList ++ rest }) target → Steps p.tables e below (T.setTop g) target := by
  obtain ⟨mk, methM, hnamed, hmethM, hstM, habM⟩ := Cond.instanceMethod_spec hinst
  obtain ⟨m8, methM', cM, hn8, hmethM', -, -, -, -, -, -, hsigM⟩ := Cond.codeWith_spec hcode
  cases Option.some.inj (hn8.symm.trans hnamed)
  cases hmethM.symm.trans hmethM'
  obtain ⟨c2, r2, m2, q1, q2, q3, q4, kP, hkP, hkPi⟩ := Cond.selects_spec hsel
  cases hcls.symm.trans q1
  cases (State.methodFound?_of_named hnamed hy).symm.trans q2
  cases hnamed.symm.trans q3
  have hselP : selectMethod e.platform s.vm cellB.cls mk = .method mk := by rw [Launch.admits_selectMethod X.admits]; exact q4
  obtain ⟨vm₁, X₁, hstep₁⟩ := X.invokevirtual hexec hown hlink hnamed hmethM hstM hkP hkPi hy (a := b) (cell := cellB) hcell
    (fun z h => by rw [h] at hobj; cases hobj) hselP hmethM habM hkP hkPi (g := g) hg (argsL := argsL) (rest := rest) (hlen _ hsigM) hstack hdg
  obtain ⟨v, B, X', hpost, hsteps⟩ := hK m meth c ⟨T.setVm vm₁, locs, cells, slots⟩ { g with stack := rest } (.invokevirtual index) mk (Value.ref b :: argsL).toArray X₁ hg hsize hdg hW (X₁.named hnamed) (hpre vm₁ X₁.warmed)
  exact ⟨v, vm₁, B, X₁.warmed, X', hpost, fun target h => hstep₁ _ fun acts => by rw [doInvoke_state]; exact hsteps.trans h⟩
abbrev vx_CVW (R : Room) (s : State) (args : Array Value) (own C : String) (index : Nat) (y : MethodName) (bytes : ByteArray) (maxL : Nat) (ret : Option FieldType) (hh : List (Nat × Nat × Nat × Nat)) (ws : List Cond) (rm : Room) (mc ms n : Nat) : Prop :=
  (rm.cells = mc ∧ rm.slots = ms ∧ rm.frames + 1 ≤ R.frames ∧ 8 + (maxL + 11) + rm.locals ≤ R.locals ∧ (∀ w ∈ ws, ∀ (a' : Array Value) (U : State), s.WarmedH U.vm → w.before a' U = true) ∧ Cond.codeWith y bytes maxL ret hh ∈ ws) ∧
  (Cond.codeWith y bytes maxL ret hh).before args s = true ∧ (Cond.initialized y.cls).before args s = true ∧ (y.cls ≠ "java/lang/invoke/MethodHandle" ∧ y.cls ≠ "java/lang/invoke/VarHandle") ∧
  (∀ sig, parseMethodDescriptor y.desc = some sig → n = sig.parameters.length) ∧ (Cond.methodLink own index y).before args s = true ∧ (Cond.instanceMethod y).before args s = true ∧ (Cond.selects C y y).before args s = true
theorem vx_cwVW {own C : String} {index maxL mc ms : Nat} {y : MethodName} {bytes : ByteArray} {ret : Option FieldType} {hh : List (Nat × Nat × Nat × Nat)} {Ts ws ws' : List Cond} {rm : Room} (n : Nat) (ht : ∀ w ∈ Ts, w.before args s = true) (hT : GoodIn Ts (wsV own index C y ws)) (hw : ws = Cond.codeWith y bytes maxL ret hh :: ws') (hrc : rm.cells = mc) (hrs : rm.slots = ms)
    (hd : y.cls = C ∧ y.cls ≠ "java/lang/invoke/MethodHandle" ∧ y.cls ≠ "java/lang/invoke/VarHandle" ∧ (parseMethodDescriptor y.desc).map (fun d => d.parameters.length) = some n) (hR : rm.frames + 1 ≤ R.frames ∧ 8 + (maxL + 11) + rm.locals ≤ R.locals) :
    vx_CVW R s args own C index y bytes maxL ret hh ws rm mc ms n := by
  obtain ⟨hC, hd⟩ := hd
  subst hC
  have ok : ∀ w ∈ wsV own index y.cls y ws, w.before args s = true := fun w h => ht w (hT w h).1
  have hG : GoodIn Ts ws := fun w h => hT w (by unfold wsV; exact List.mem_append_right _ h)
  have hc : Cond.codeWith y bytes maxL ret hh ∈ ws := by rw [hw]; exact List.mem_cons_self
  refine ⟨⟨hrc, hrs, hR.1, hR.2, pay_in ht hG, hc⟩, ht _ (hG _ hc).1, ok _ (by simp [wsV]), ⟨hd.1, hd.2.1⟩, fun sig h => ?_, ok _ (by simp [wsV]), ok _ (by simp [wsV]), ok _ (by simp [wsV])⟩
  have h2 := hd.2.2
  rw [h] at h2
  exact (Option.some.inj h2).symm
theorem vx_runVW {y : MethodName} {bytes cc : ByteArray} {maxL nL mc ms n index : Nat} {ret : Option FieldType} {hh : List (Nat × Nat × Nat × Nat)} {ws : List Cond} {rm : Room} {Pc : Array Value → State → Prop} {Qc : Array Value → State → Outcome → State → Prop} {free : Addr → Prop} {Ts : List Cond} {own C : String} {b : Addr} {As rest : List Value} {g : JFrame}
    (S : CallFix p m c cc nL s args Ts own) (hM : Met l y ws rm Pc Qc mc ms free) (cw : vx_CVW R s args own C index y bytes maxL ret hh ws rm mc ms n) (hp : PreV s H C b Pc As)
    (hg : g.method = m) (hn : As.length = n) (hsize : g.locals.size = nL) (hstack : g.stack = As.reverse ++ .ref b :: rest) (hW : 2 * g.monitorRoom + (rest.map fun v => v.category).sum ≤ 8) (hdg : decode cc g.pc = .ok (.invokevirtual index, 3)) (hf : cells + mc ≤ R.cells ∧ slots + ms ≤ R.slots) :
    va_Run p l e R s m args below meth c H locs cells slots mc ms g rest (Qc (Value.ref b :: As).toArray) free := by
  obtain ⟨⟨hrc, hrs, hfr, hlo, hws, hcw⟩, hcode, hini, hy, hlen, hl, hin, hse⟩ := cw
  have hK : Back l R p e below s args y 3 8 (PreOf R mc ms Pc) (PostOf Qc mc ms free) := va_backW (hh := hh) (bytes := bytes) (maxL := maxL) (ret := ret) hM hp.1 hrc hrs hfr hlo hws hcw (fun a' U hW => word_at hW (Or.inl (by first | rfl | simp [Cond.onTables, Cond.keeps, Cond.steady])) hini)
  obtain ⟨hx, hb, hml, ho, -⟩ := S
  obtain ⟨-, ⟨cellB, hcB, hoB, hclB⟩, hPc⟩ := hp
  intro T hT X
  obtain ⟨v, vm₁, ⟨U', l2, c2, s2⟩, hW₁, X', ⟨g', mk, t, L, e1, e2, hq, h1, hL, h2, h3⟩, st⟩ := vx_callVW X hx (C := C) (hh := hh) (bytes := bytes) (maxL := maxL) (ret := ret) ho hl hin hse hcode hy hK (by rw [hT]; exact hcB) hoB hclB hg (hsize.trans hml.symm) (argsL := As) (rest := rest) (fun sig h => hn.trans (hlen sig h)) hstack hW (by rw [hb]; exact hdg)
    (fun vm₁ hW₁ => ⟨hf.1, hf.2, hPc (T.setVm vm₁) hT hW₁⟩)
  dsimp only [Pt.U, Pt.locs, Pt.cells, Pt.slots] at X' e1 e2 h1 h2 h3 st
  subst h1; subst h2; subst h3
  exact ⟨v, (T.setVm vm₁).calling g' mk (Value.ref b :: As).toArray, t, U', L, hT, X', hL, e1, e2, hq, st⟩
section
variable {y : MethodName} {bytes cc : ByteArray} {maxL nL mc ms n index : Nat} {ret : Option FieldType} {ws : List Cond} {rm : Room} {Pc : Array Value → State → Prop} {Qc : Array Value → State → Outcome → State → Prop} {XC : String → State → State → Prop} {free : Addr → Prop} {Ts : List Cond} {own C : String} {b : Addr} {As rest : List Value} {g : JFrame}
theorem vx_runVX {hh : List (Nat × Nat × Nat × Nat)} (S : CallFix p m c cc nL s args Ts own) (hM : vx_Met l y ws rm Pc Qc XC mc ms free) (cw : vx_CVW R s args own C index y bytes maxL ret hh ws rm mc ms n) (hp : PreV s H C b Pc As)
    (hg : g.method = m) (hn : As.length = n) (hsize : g.locals.size = nL) (hstack : g.stack = As.reverse ++ .ref b :: rest) (hW : 2 * g.monitorRoom + (rest.map fun v => v.category).sum ≤ 8) (hdg : decode cc g.pc = .ok (.invokevirtual index, 3)) (hf : cells + mc ≤ R.cells ∧ slots + ms ≤ R.slots) :
    vx_Run p l e R s m args below meth c H locs cells slots mc ms g rest (Qc (Value.ref b :: As).toArray) XC free := by
  obtain ⟨⟨hrc, hrs, hfr, hlo, hws, hcw⟩, hcode, hini, hy, hlen, hl, hin, hse⟩ := cw
  have hK : vx_Back l R p e below s args y 3 8 (PreOf R mc ms Pc) (PostOf Qc mc ms free) (vx_Post XC mc ms free) := vx_backW (hh := hh) (bytes := bytes) (maxL := maxL) (ret := ret) hM hp.1 hrc hrs hfr hlo hws hcw (fun a' U hW => word_at hW (Or.inl (by first | rfl | simp [Cond.onTables, Cond.keeps, Cond.steady])) hini)
  obtain ⟨hx, hb, hml, ho, -⟩ := S
  obtain ⟨-, ⟨cellB, hcB, hoB, hclB⟩, hPc⟩ := hp
  intro T hT X
  rcases vx_callVX X hx (C := C) (hh := hh) (bytes := bytes) (maxL := maxL) (ret := ret) ho hl hin hse hcode hy hK (by rw [hT]; exact hcB) hoB hclB hg (hsize.trans hml.symm) (argsL := As) (rest := rest) (fun sig h => hn.trans (hlen sig h)) hstack hW (by rw [hb]; exact hdg)
    (fun vm₁ hW₁ => ⟨hf.1, hf.2, hPc (T.setVm vm₁) hT hW₁⟩) with ⟨v, vm₁, ⟨U', l2, c2, s2⟩, hW₁, X', ⟨g', mk, t, L, e1, e2, hq, h1, hL, h2, h3⟩, st⟩ | ⟨q, vm₁, ⟨U', l2, c2, s2⟩, hW₁, X', ⟨g', mk, t, L, E, ce, e1, e2, hq, hce, hcv, hcl, h1, hL, h2, h3⟩, st⟩
  · dsimp only [Pt.U, Pt.locs, Pt.cells, Pt.slots] at X' e1 e2 h1 h2 h3 st
    subst h1; subst h2; subst h3
    exact Or.inl ⟨v, (T.setVm vm₁).calling g' mk (Value.ref b :: As).toArray, t, U', L, hT, X', hL, e1, e2, hq, st⟩
  · dsimp only [Pt.U, Pt.locs, Pt.cells, Pt.slots] at X' e1 e2 h1 h2 h3 st hcl
    subst h1; subst h2; subst h3
    exact Or.inr ⟨q, (T.setVm vm₁).calling g' mk (Value.ref b :: As).toArray, t, U', L, E, ce, hT, X', hL, e1, e2, hq, hce, hcv, vx_cls hW₁ hcl, st⟩
theorem vx_runSX {hh : List (Nat × Nat × Nat × Nat)} (S : CallFix p m c cc nL s args Ts own) (hM : vx_Met l y ws rm Pc Qc XC mc ms free) (cw : vx_CSW R s args own index y bytes maxL ret hh ws rm mc ms n) (hp : PreS s H Pc As)
    (hg : g.method = m) (hn : As.length = n) (hsize : g.locals.size = nL) (hstack : g.stack = As.reverse ++ rest) (hW : 2 * g.monitorRoom + (rest.map fun v => v.category).sum ≤ 8) (hdg : decode cc g.pc = .ok (.invokestatic index, 3)) (hf : cells + mc ≤ R.cells ∧ slots + ms ≤ R.slots) :
    vx_Run p l e R s m args below meth c H locs cells slots mc ms g rest (Qc As.toArray) XC free := by
  obtain ⟨⟨hrc, hrs, hfr, hlo, hws, hcw⟩, hcode, hini, hy, hlen, hl, hstt⟩ := cw
  have hK : vx_Back l R p e below s args y 3 8 (PreOf R mc ms Pc) (PostOf Qc mc ms free) (vx_Post XC mc ms free) := vx_backW (hh := hh) (bytes := bytes) (maxL := maxL) (ret := ret) hM hp.1 hrc hrs hfr hlo hws hcw (fun a' U hW => word_at hW (Or.inl (by first | rfl | simp [Cond.onTables, Cond.keeps, Cond.steady])) hini)
  obtain ⟨hx, hb, hml, ho, -⟩ := S
  intro T hT X
  rcases vx_callSX X hx (hh := hh) (bytes := bytes) (maxL := maxL) (ret := ret) ho hl hstt hini hcode hy hK hg (hsize.trans hml.symm) (argsL := As) (rest := rest) (fun sig h => hn.trans (hlen sig h)) hstack hW (by rw [hb]; exact hdg)
    (fun vm₁ hW₁ => ⟨hf.1, hf.2, hp.2 (T.setVm vm₁) hT hW₁⟩) with ⟨v, vm₁, ⟨U', l2, c2, s2⟩, hW₁, X', ⟨g', mk, t, L, e1, e2, hq, h1, hL, h2, h3⟩, st⟩ | ⟨q, vm₁, ⟨U', l2, c2, s2⟩, hW₁, X', ⟨g', mk, t, L, E, ce, e1, e2, hq, hce, hcv, hcl, h1, hL, h2, h3⟩, st⟩
  · dsimp only [Pt.U, Pt.locs, Pt.cells, Pt.slots] at X' e1 e2 h1 h2 h3 st
    subst h1; subst h2; subst h3
    exact Or.inl ⟨v, (T.setVm vm₁).calling g' mk As.toArray, t, U', L, hT, X', hL, e1, e2, hq, st⟩
  · dsimp only [Pt.U, Pt.locs, Pt.cells, Pt.slots] at X' e1 e2 h1 h2 h3 st hcl
    subst h1; subst h2; subst h3
    exact Or.inr ⟨q, (T.setVm vm₁).calling g' mk As.toArray, t, U', L, E, ce, hT, X', hL, e1, e2, hq, hce, hcv, vx_cls hW₁ hcl, st⟩
end
end VXH
theorem vx_ofWH {l : Launch} {y : MethodName} {ws ws' : List Cond} {rm : Room} {Pc : Array Value → State → Prop} {Qc : Array Value → State → Outcome → State → Prop} {XC : String → State → State → Prop} {mc ms : Nat} {free : Addr → Prop} {cc : ByteArray} {maxL : Nat} {ret : Option FieldType} {hh : List (Nat × Nat × Nat × Nat)}
    (hy : plainName y.cls = true) (hw : ws = Cond.codeWith y cc maxL ret hh :: ws')
    (body : ∀ p e s m args below meth c s₁, BodyLoose p l y (headSpec ws rm) cc maxL ret e s m args below meth c s₁ → c.maxLocals = maxL → Pc args s →
      W p l e (headSpec ws rm).room s m args below meth c s.heap [] 0 0 (vx_MQ below Qc XC args s mc ms free) (entryFrame m args maxL)) : vx_Met l y ws rm Pc Qc XC mc ms free := by
  refine MetFree.of_bodyS (code := cc) (maxLocals := maxL) (ret := ret) hy ?_ ?_
  · intro args s m h hn
    obtain ⟨m9, meth, c, hn9, h1, h2, h3, h4, -, h5, h6, -⟩ := Cond.codeWith_spec (atoms_spec (ws := ws) h _ (by rw [hw]; exact List.mem_cons_self))
    cases hn.symm.trans hn9
    exact ⟨meth, c, h1, h2, h3, h4, h5, h6⟩
  · intro p e s m args below meth c s₁ B hml hP _
    have hh0 : s₁.heap = s.heap := by rw [B.state]; rfl
    obtain ⟨t, a1, o, b1, b2, b3⟩ := body p e s m args below meth c s₁ B hml hP s₁ hh0 (Stand.of_body B)
    exact ⟨t, o, a1, b1, b2, b3⟩
/-! ===== END ===== -/
end
section
/-! The names: by program out of the listing. -/
def R_X : String := "CarvedSolids"
def T_X : u_T := fun k => match k with
  | 0 => ("CarvedSolids", "space", "LCarvedSolids$Planes;", true)
  | 1 => ("CarvedSolids", "stack", "[LCarvedSolids$Solid;", true)
  | 2 => ("CarvedSolids", "spot", "LCarvedSolids$Point;", true)
  | _ => ("CarvedSolids", "height", "I", false)
def t_X : Nat → FieldType := fun k => match k with
  | 0 => .object "CarvedSolids$Planes"
  | 1 => .array (.object "CarvedSolids$Solid")
  | 2 => .object "CarvedSolids$Point"
  | _ => .int
theorem nm_X : ∀ a, a < 4 → ∀ b, b < 4 → a ≠ b → (T_X a).2.1 ≠ (T_X b).2.1 := by decide +kernel
theorem ty_X : ∀ k, k < 4 → parseFieldDescriptor (T_X k).2.2.1 = some (t_X k) := by decide +kernel
def R_Pl : String := "CarvedSolids$Plane"
def T_Pl : u_T := fun k => match k with
  | 0 => ("CarvedSolids$Plane", "a", "J", true)
  | 1 => ("CarvedSolids$Plane", "b", "J", true)
  | 2 => ("CarvedSolids$Plane", "c", "J", true)
  | _ => ("CarvedSolids$Plane", "d", "J", true)
def t_Pl : Nat → FieldType := fun k => match k with
  | 0 => .long
  | 1 => .long
  | 2 => .long
  | _ => .long
theorem nm_Pl : ∀ a, a < 4 → ∀ b, b < 4 → a ≠ b → (T_Pl a).2.1 ≠ (T_Pl b).2.1 := by decide +kernel
theorem ty_Pl : ∀ k, k < 4 → parseFieldDescriptor (T_Pl k).2.2.1 = some (t_Pl k) := by decide +kernel
def R_Ps : String := "CarvedSolids$Planes"
def T_Ps : u_T := fun k => match k with
  | 0 => ("CarvedSolids$Planes", "all", "[LCarvedSolids$Plane;", true)
  | 1 => ("CarvedSolids$Planes", "first", "[I", true)
  | _ => ("CarvedSolids$Planes", "count", "I", false)
def t_Ps : Nat → FieldType := fun k => match k with
  | 0 => .array (.object "CarvedSolids$Plane")
  | 1 => .array (.int)
  | _ => .int
theorem nm_Ps : ∀ a, a < 3 → ∀ b, b < 3 → a ≠ b → (T_Ps a).2.1 ≠ (T_Ps b).2.1 := by decide +kernel
theorem ty_Ps : ∀ k, k < 3 → parseFieldDescriptor (T_Ps k).2.2.1 = some (t_Ps k) := by decide +kernel
def R_Pt : String := "CarvedSolids$Point"
def T_Pt : u_T := fun k => match k with
  | 0 => ("CarvedSolids$Point", "x", "J", false)
  | 1 => ("CarvedSolids$Point", "y", "J", false)
  | 2 => ("CarvedSolids$Point", "z", "J", false)
  | _ => ("CarvedSolids$Point", "w", "J", false)
def t_Pt : Nat → FieldType := fun k => match k with
  | 0 => .long
  | 1 => .long
  | 2 => .long
  | _ => .long
theorem nm_Pt : ∀ a, a < 4 → ∀ b, b < 4 → a ≠ b → (T_Pt a).2.1 ≠ (T_Pt b).2.1 := by decide +kernel
theorem ty_Pt : ∀ k, k < 4 → parseFieldDescriptor (T_Pt k).2.2.1 = some (t_Pt k) := by decide +kernel
def R_So : String := "CarvedSolids$Solid"
def T_So : u_T := fun k => match k with
  | _ => ("CarvedSolids$Solid", "words", "[J", true)
def t_So : Nat → FieldType := fun k => match k with
  | _ => .array (.long)
theorem nm_So : ∀ a, a < 1 → ∀ b, b < 1 → a ≠ b → (T_So a).2.1 ≠ (T_So b).2.1 := by decide +kernel
theorem ty_So : ∀ k, k < 1 → parseFieldDescriptor (T_So k).2.2.1 = some (t_So k) := by decide +kernel
def R_Mo : String := "CarvedSolidsModel"
def T_Mo : u_T := fun k => match k with
  | 0 => ("CarvedSolidsModel", "thrown", "I", false)
  | 1 => ("CarvedSolidsModel", "given", "I", false)
  | 2 => ("CarvedSolidsModel", "normals", "[I", true)
  | 3 => ("CarvedSolidsModel", "far", "[I", true)
  | 4 => ("CarvedSolidsModel", "many", "I", false)
  | 5 => ("CarvedSolidsModel", "has", "[J", true)
  | 6 => ("CarvedSolidsModel", "values", "[J", true)
  | 7 => ("CarvedSolidsModel", "tops", "[J", true)
  | _ => ("CarvedSolidsModel", "downs", "[J", true)
def t_Mo : Nat → FieldType := fun k => match k with
  | 0 => .int
  | 1 => .int
  | 2 => .array (.int)
  | 3 => .array (.int)
  | 4 => .int
  | 5 => .array (.long)
  | 6 => .array (.long)
  | 7 => .array (.long)
  | _ => .array (.long)
theorem nm_Mo : ∀ a, a < 9 → ∀ b, b < 9 → a ≠ b → (T_Mo a).2.1 ≠ (T_Mo b).2.1 := by decide +kernel
theorem ty_Mo : ∀ k, k < 9 → parseFieldDescriptor (T_Mo k).2.2.1 = some (t_Mo k) := by decide +kernel
def T_0 : u_T := fun _ => ("", "", "", false)
def R_IA : String := "java/lang/IllegalArgumentException"
def R_IS : String := "java/lang/IllegalStateException"
def R_IO : String := "java/lang/IndexOutOfBoundsException"
def R_NS : String := "java/util/NoSuchElementException"
def R_La : String := "CarvedSolidsLaw"
/-- the classes whose objects the worlds hold -/
abbrev vC : List vw_C := [(R_X, T_X, 4), (R_Pl, T_Pl, 4), (R_Ps, T_Ps, 3), (R_Pt, T_Pt, 4), (R_So, T_So, 1), (R_Mo, T_Mo, 9), (R_IA, T_0, 0), (R_IS, T_0, 0), (R_IO, T_0, 0), (R_NS, T_0, 0)]
abbrev b_X_init : ByteArray := prog_1_method_1_code
def y_X_init : MethodName := ⟨R_X, "<init>", "()V"⟩
abbrev b_X_plane : ByteArray := prog_1_method_2_code
def y_X_plane : MethodName := ⟨R_X, "plane", "(IIII)I"⟩
abbrev b_X_planes : ByteArray := prog_1_method_3_code
def y_X_planes : MethodName := ⟨R_X, "planes", "()I"⟩
abbrev b_X_convex : ByteArray := prog_1_method_4_code
def y_X_convex : MethodName := ⟨R_X, "convex", "(I)I"⟩
abbrev b_X_join : ByteArray := prog_1_method_5_code
def y_X_join : MethodName := ⟨R_X, "join", "(I)I"⟩
abbrev b_X_turn : ByteArray := prog_1_method_6_code
def y_X_turn : MethodName := ⟨R_X, "turn", "()V"⟩
abbrev b_X_copy : ByteArray := prog_1_method_7_code
def y_X_copy : MethodName := ⟨R_X, "copy", "(I)I"⟩
abbrev b_X_drop : ByteArray := prog_1_method_8_code
def y_X_drop : MethodName := ⟨R_X, "drop", "()I"⟩
abbrev b_X_solids : ByteArray := prog_1_method_9_code
def y_X_solids : MethodName := ⟨R_X, "solids", "()I"⟩
abbrev b_X_inside : ByteArray := prog_1_method_10_code
def y_X_inside : MethodName := ⟨R_X, "inside", "(IIII)I"⟩
abbrev b_X_side : ByteArray := prog_1_method_11_code
def y_X_side : MethodName := ⟨R_X, "side", "(IIII)I"⟩
abbrev b_X_enters : ByteArray := prog_1_method_12_code
def y_X_enters : MethodName := ⟨R_X, "enters", "(III)I"⟩
abbrev b_X_isEntry : ByteArray := prog_1_method_13_code
def y_X_isEntry : MethodName := ⟨R_X, "isEntry", "(IIII)Z"⟩
abbrev b_X_lookAtSpot : ByteArray := prog_1_method_14_code
def y_X_lookAtSpot : MethodName := ⟨R_X, "lookAtSpot", "(I)I"⟩
abbrev b_X_topHas : ByteArray := prog_1_method_15_code
def y_X_topHas : MethodName := ⟨R_X, "topHas", "(I)Z"⟩
abbrev b_X_requireRoom : ByteArray := prog_1_method_16_code
def y_X_requireRoom : MethodName := ⟨R_X, "requireRoom", "()V"⟩
abbrev b_X_requireSolid : ByteArray := prog_1_method_17_code
def y_X_requireSolid : MethodName := ⟨R_X, "requireSolid", "()V"⟩
abbrev b_X_requirePoint : ByteArray := prog_1_method_18_code
def y_X_requirePoint : MethodName := ⟨R_X, "requirePoint", "(IIII)V"⟩
abbrev b_X_isBeyond : ByteArray := prog_1_method_19_code
def y_X_isBeyond : MethodName := ⟨R_X, "isBeyond", "(II)Z"⟩
abbrev b_Mo_init : ByteArray := prog_7_method_1_code
def y_Mo_init : MethodName := ⟨R_Mo, "<init>", "()V"⟩
abbrev b_Mo_thrown : ByteArray := prog_7_method_2_code
def y_Mo_thrown : MethodName := ⟨R_Mo, "thrown", "()I"⟩
abbrev b_Mo_within : ByteArray := prog_7_method_3_code
def y_Mo_within : MethodName := ⟨R_Mo, "within", "(II)Z"⟩
abbrev b_Mo_plane : ByteArray := prog_7_method_4_code
def y_Mo_plane : MethodName := ⟨R_Mo, "plane", "(IIII)I"⟩
abbrev b_Mo_planes : ByteArray := prog_7_method_5_code
def y_Mo_planes : MethodName := ⟨R_Mo, "planes", "()I"⟩
abbrev b_Mo_convex : ByteArray := prog_7_method_6_code
def y_Mo_convex : MethodName := ⟨R_Mo, "convex", "(I)I"⟩
abbrev b_Mo_join : ByteArray := prog_7_method_7_code
def y_Mo_join : MethodName := ⟨R_Mo, "join", "(I)I"⟩
abbrev b_Mo_turn : ByteArray := prog_7_method_8_code
def y_Mo_turn : MethodName := ⟨R_Mo, "turn", "()V"⟩
abbrev b_Mo_copy : ByteArray := prog_7_method_9_code
def y_Mo_copy : MethodName := ⟨R_Mo, "copy", "(I)I"⟩
abbrev b_Mo_drop : ByteArray := prog_7_method_10_code
def y_Mo_drop : MethodName := ⟨R_Mo, "drop", "()I"⟩
abbrev b_Mo_solids : ByteArray := prog_7_method_11_code
def y_Mo_solids : MethodName := ⟨R_Mo, "solids", "()I"⟩
abbrev b_Mo_topHas : ByteArray := prog_7_method_12_code
def y_Mo_topHas : MethodName := ⟨R_Mo, "topHas", "(I)Z"⟩
abbrev b_Mo_isPoint : ByteArray := prog_7_method_13_code
def y_Mo_isPoint : MethodName := ⟨R_Mo, "isPoint", "(IIII)Z"⟩
abbrev b_Mo_look : ByteArray := prog_7_method_14_code
def y_Mo_look : MethodName := ⟨R_Mo, "look", "(IIII)V"⟩
abbrev b_Mo_lies : ByteArray := prog_7_method_15_code
def y_Mo_lies : MethodName := ⟨R_Mo, "lies", "(II)I"⟩
abbrev b_Mo_choice : ByteArray := prog_7_method_16_code
def y_Mo_choice : MethodName := ⟨R_Mo, "choice", "()I"⟩
abbrev b_Mo_isOnGiven : ByteArray := prog_7_method_17_code
def y_Mo_isOnGiven : MethodName := ⟨R_Mo, "isOnGiven", "()Z"⟩
abbrev b_Mo_inside : ByteArray := prog_7_method_18_code
def y_Mo_inside : MethodName := ⟨R_Mo, "inside", "(IIII)I"⟩
abbrev b_Mo_normal : ByteArray := prog_7_method_19_code
def y_Mo_normal : MethodName := ⟨R_Mo, "normal", "(II)I"⟩
abbrev b_Mo_alike : ByteArray := prog_7_method_20_code
def y_Mo_alike : MethodName := ⟨R_Mo, "alike", "(II)I"⟩
abbrev b_Mo_choiceAt : ByteArray := prog_7_method_21_code
def y_Mo_choiceAt : MethodName := ⟨R_Mo, "choiceAt", "(IZ)I"⟩
abbrev b_Mo_sideOf : ByteArray := prog_7_method_22_code
def y_Mo_sideOf : MethodName := ⟨R_Mo, "sideOf", "(IIII)I"⟩
abbrev b_Mo_side : ByteArray := prog_7_method_23_code
def y_Mo_side : MethodName := ⟨R_Mo, "side", "(IIII)I"⟩
abbrev b_Mo_compare : ByteArray := prog_7_method_24_code
def y_Mo_compare : MethodName := ⟨R_Mo, "compare", "(JJJJ)I"⟩
abbrev b_Mo_meet : ByteArray := prog_7_method_25_code
def y_Mo_meet : MethodName := ⟨R_Mo, "meet", "(III)Z"⟩
abbrev b_Mo_isInBox : ByteArray := prog_7_method_26_code
def y_Mo_isInBox : MethodName := ⟨R_Mo, "isInBox", "(I)Z"⟩
abbrev b_Mo_isCrossed : ByteArray := prog_7_method_27_code
def y_Mo_isCrossed : MethodName := ⟨R_Mo, "isCrossed", "(I)Z"⟩
abbrev b_Mo_choiceBehind : ByteArray := prog_7_method_28_code
def y_Mo_choiceBehind : MethodName := ⟨R_Mo, "choiceBehind", "(IJJ)I"⟩
abbrev b_Mo_enters : ByteArray := prog_7_method_29_code
def y_Mo_enters : MethodName := ⟨R_Mo, "enters", "(III)I"⟩
abbrev b_Pl_init : ByteArray := prog_2_method_1_code
def y_Pl_init : MethodName := ⟨R_Pl, "<init>", "(JJJJ)V"⟩
abbrev b_Pl_factor : ByteArray := prog_2_method_2_code
def y_Pl_factor : MethodName := ⟨R_Pl, "factor", "(I)J"⟩
abbrev b_Pl_excess : ByteArray := prog_2_method_3_code
def y_Pl_excess : MethodName := ⟨R_Pl, "excess", "(LCarvedSolids$Point;)J"⟩
abbrev b_Pl_isOneWith : ByteArray := prog_2_method_4_code
def y_Pl_isOneWith : MethodName := ⟨R_Pl, "isOneWith", "(LCarvedSolids$Plane;)Z"⟩
abbrev b_Pl_looksLike : ByteArray := prog_2_method_5_code
def y_Pl_looksLike : MethodName := ⟨R_Pl, "looksLike", "(LCarvedSolids$Plane;)Z"⟩
abbrev b_Ps_init : ByteArray := prog_3_method_1_code
def y_Ps_init : MethodName := ⟨R_Ps, "<init>", "()V"⟩
abbrev b_Ps_isCellInBox : ByteArray := prog_3_method_2_code
def y_Ps_isCellInBox : MethodName := ⟨R_Ps, "isCellInBox", "(I)Z"⟩
abbrev b_Ps_givenOfCell : ByteArray := prog_3_method_3_code
def y_Ps_givenOfCell : MethodName := ⟨R_Ps, "givenOfCell", "(I)I"⟩
abbrev b_Ps_add : ByteArray := prog_3_method_4_code
def y_Ps_add : MethodName := ⟨R_Ps, "add", "(LCarvedSolids$Plane;)V"⟩
abbrev b_Ps_firstOneWith : ByteArray := prog_3_method_5_code
def y_Ps_firstOneWith : MethodName := ⟨R_Ps, "firstOneWith", "(LCarvedSolids$Plane;)I"⟩
abbrev b_Ps_count : ByteArray := prog_3_method_6_code
def y_Ps_count : MethodName := ⟨R_Ps, "count", "()I"⟩
abbrev b_Ps_given : ByteArray := prog_3_method_7_code
def y_Ps_given : MethodName := ⟨R_Ps, "given", "()I"⟩
abbrev b_Ps_get : ByteArray := prog_3_method_8_code
def y_Ps_get : MethodName := ⟨R_Ps, "get", "(I)LCarvedSolids$Plane;"⟩
abbrev b_Ps_isFirst : ByteArray := prog_3_method_9_code
def y_Ps_isFirst : MethodName := ⟨R_Ps, "isFirst", "(I)Z"⟩
abbrev b_Ps_isInBox : ByteArray := prog_3_method_10_code
def y_Ps_isInBox : MethodName := ⟨R_Ps, "isInBox", "(LCarvedSolids$Point;)Z"⟩
abbrev b_Ps_isOnAny : ByteArray := prog_3_method_11_code
def y_Ps_isOnAny : MethodName := ⟨R_Ps, "isOnAny", "(LCarvedSolids$Point;)Z"⟩
abbrev b_Ps_onlyOneAt : ByteArray := prog_3_method_12_code
def y_Ps_onlyOneAt : MethodName := ⟨R_Ps, "onlyOneAt", "(LCarvedSolids$Point;)I"⟩
abbrev b_Ps_cellOf : ByteArray := prog_3_method_13_code
def y_Ps_cellOf : MethodName := ⟨R_Ps, "cellOf", "(LCarvedSolids$Point;)I"⟩
abbrev b_Ps_cellWhereLess : ByteArray := prog_3_method_14_code
def y_Ps_cellWhereLess : MethodName := ⟨R_Ps, "cellWhereLess", "(LCarvedSolids$Point;I)I"⟩
abbrev b_Ps_cellWhereMore : ByteArray := prog_3_method_15_code
def y_Ps_cellWhereMore : MethodName := ⟨R_Ps, "cellWhereMore", "(LCarvedSolids$Point;I)I"⟩
abbrev b_Ps_halfSpacesAlong : ByteArray := prog_3_method_16_code
def y_Ps_halfSpacesAlong : MethodName := ⟨R_Ps, "halfSpacesAlong", "(IZ)I"⟩
abbrev b_Pt_init : ByteArray := prog_4_method_1_code
def y_Pt_init : MethodName := ⟨R_Pt, "<init>", "()V"⟩
abbrev b_Pt_place : ByteArray := prog_4_method_2_code
def y_Pt_place : MethodName := ⟨R_Pt, "place", "(JJJJ)V"⟩
abbrev b_Pt_placeOnAxis : ByteArray := prog_4_method_3_code
def y_Pt_placeOnAxis : MethodName := ⟨R_Pt, "placeOnAxis", "(IJJJJ)V"⟩
abbrev b_So_init : ByteArray := prog_5_method_1_code
def y_So_init : MethodName := ⟨R_So, "<init>", "()V"⟩
abbrev b_So_has : ByteArray := prog_5_method_2_code
def y_So_has : MethodName := ⟨R_So, "has", "(I)Z"⟩
abbrev b_So_becomeConvex : ByteArray := prog_5_method_3_code
def y_So_becomeConvex : MethodName := ⟨R_So, "becomeConvex", "(I)V"⟩
abbrev b_So_becomeLike : ByteArray := prog_5_method_4_code
def y_So_becomeLike : MethodName := ⟨R_So, "becomeLike", "(LCarvedSolids$Solid;)V"⟩
abbrev b_So_becomeItsRest : ByteArray := prog_5_method_5_code
def y_So_becomeItsRest : MethodName := ⟨R_So, "becomeItsRest", "()V"⟩
abbrev b_So_joinWith : ByteArray := prog_5_method_6_code
def y_So_joinWith : MethodName := ⟨R_So, "joinWith", "(LCarvedSolids$Solid;I)V"⟩
abbrev b_So_joined : ByteArray := prog_5_method_7_code
def y_So_joined : MethodName := ⟨R_So, "joined", "(JJI)J"⟩
abbrev b_La_plane : ByteArray := method_3_code
def y_La_plane : MethodName := ⟨R_La, "plane", "(LCarvedSolids;IIII[J)I"⟩
abbrev b_La_convex : ByteArray := method_4_code
def y_La_convex : MethodName := ⟨R_La, "convex", "(LCarvedSolids;I[J)I"⟩
abbrev b_La_join : ByteArray := method_5_code
def y_La_join : MethodName := ⟨R_La, "join", "(LCarvedSolids;I[J)I"⟩
abbrev b_La_turn : ByteArray := method_6_code
def y_La_turn : MethodName := ⟨R_La, "turn", "(LCarvedSolids;)I"⟩
abbrev b_La_copy : ByteArray := method_7_code
def y_La_copy : MethodName := ⟨R_La, "copy", "(LCarvedSolids;I[J)I"⟩
abbrev b_La_drop : ByteArray := method_8_code
def y_La_drop : MethodName := ⟨R_La, "drop", "(LCarvedSolids;[J)I"⟩
abbrev b_La_inside : ByteArray := method_9_code
def y_La_inside : MethodName := ⟨R_La, "inside", "(LCarvedSolids;IIII[J)I"⟩
abbrev b_La_side : ByteArray := method_10_code
def y_La_side : MethodName := ⟨R_La, "side", "(LCarvedSolids;IIII[J)I"⟩
abbrev b_La_enters : ByteArray := method_11_code
def y_La_enters : MethodName := ⟨R_La, "enters", "(LCarvedSolids;III[J)I"⟩
abbrev b_La_law : ByteArray := code
def y_La_law : MethodName := ⟨R_La, "law", "([I)Z"⟩
/-- the words of the tables that stay good -/
def tB : List Cond := lw_tbl.filter goodWord
theorem mB {w : Cond} (h : w ∈ lw_tbl) (g : goodWord w = true) : w ∈ tB := List.mem_filter.mpr ⟨h, g⟩
theorem mB1 (i : Nat) {w : Cond} (h : tables_1_1[i]? = some w) (g : goodWord w = true) : w ∈ tB := mB (List.mem_append_right _ (List.mem_append_left _ (List.mem_of_getElem? h))) g
theorem mB2 (i : Nat) {w : Cond} (h : tables_1_2[i]? = some w) (g : goodWord w = true) : w ∈ tB := mB (List.mem_append_right _ (List.mem_append_right _ (List.mem_append_left _ (List.mem_of_getElem? h)))) g
theorem mB3 (i : Nat) {w : Cond} (h : tables_1_3[i]? = some w) (g : goodWord w = true) : w ∈ tB := mB (List.mem_append_right _ (List.mem_append_right _ (List.mem_append_right _ (List.mem_of_getElem? h)))) g
theorem mBs (i : Nat) {y : MethodName} {n : Nat} (h : lw_privs[i]? = some (y, n)) : Cond.selects y.cls y y ∈ tB := mB (List.mem_append_left _ (List.mem_map.mpr ⟨(y, n), List.mem_of_getElem? h, rfl⟩)) rfl
theorem good_tB : ∀ w ∈ tB, (w.onTables && w.keeps) = true ∨ ∃ ty, w = .arrayClass ty := fun w h => good_of_word (List.mem_filter.mp h).2
end
section
/-! The words, a row each. -/
theorem k_1_0 : Cond.initialized R_La ∈ tB := mB1 0 rfl rfl
theorem k_1_1 : Cond.initialized R_X ∈ tB := mB1 1 rfl rfl
theorem k_1_2 : Cond.initialized R_Ps ∈ tB := mB1 2 rfl rfl
theorem k_1_3 : Cond.initialized R_Pl ∈ tB := mB1 3 rfl rfl
theorem k_1_4 : Cond.initialized R_So ∈ tB := mB1 4 rfl rfl
theorem k_1_5 : Cond.initialized R_Pt ∈ tB := mB1 5 rfl rfl
theorem k_1_6 : Cond.initialized R_Mo ∈ tB := mB1 6 rfl rfl
theorem k_1_7 : Cond.initialized "java/lang/Throwable" ∈ tB := mB1 7 rfl rfl
theorem k_1_8 : Cond.initialized "java/lang/Exception" ∈ tB := mB1 8 rfl rfl
theorem k_1_9 : Cond.initialized "java/lang/RuntimeException" ∈ tB := mB1 9 rfl rfl
theorem k_1_10 : Cond.initialized R_IA ∈ tB := mB1 10 rfl rfl
theorem k_1_11 : Cond.initialized R_IS ∈ tB := mB1 11 rfl rfl
theorem k_1_12 : Cond.initialized R_IO ∈ tB := mB1 12 rfl rfl
theorem k_1_13 : Cond.initialized R_NS ∈ tB := mB1 13 rfl rfl
theorem k_1_14 : Cond.initialized "java/lang/Math" ∈ tB := mB1 14 rfl rfl
theorem k_1_15 : Cond.classLink R_La 8 R_X ∈ tB := mB1 15 rfl rfl
theorem k_1_16 : Cond.instantiable R_X 4 ∈ tB := mB1 16 rfl rfl
theorem k_1_17 : Cond.methodLink R_La 48 y_X_init ∈ tB := mB1 17 rfl rfl
theorem k_1_18 : Cond.instanceMethod y_X_init ∈ tB := mB1 18 rfl rfl
theorem k_1_19 : Cond.code y_X_init b_X_init 2 none ∈ tB := mB1 19 rfl rfl
theorem k_1_20 : Cond.methodLink R_X 1 objectInit ∈ tB := mB1 20 rfl rfl
theorem k_1_21 : Cond.instanceMethod objectInit ∈ tB := mB1 21 rfl rfl
theorem k_1_22 : Cond.code objectInit ⟨#[0xb1]⟩ 1 none ∈ tB := mB1 22 rfl rfl
theorem k_1_23 : Cond.classLink R_X 7 R_Ps ∈ tB := mB1 23 rfl rfl
theorem k_1_24 : Cond.instantiable R_Ps 3 ∈ tB := mB1 24 rfl rfl
theorem k_1_25 : Cond.methodLink R_X 9 y_Ps_init ∈ tB := mB1 25 rfl rfl
theorem k_1_26 : Cond.instanceMethod y_Ps_init ∈ tB := mB1 26 rfl rfl
theorem k_1_27 : Cond.code y_Ps_init b_Ps_init 1 none ∈ tB := mB1 27 rfl rfl
theorem k_1_28 : Cond.methodLink R_Ps 3 objectInit ∈ tB := mB1 28 rfl rfl
theorem k_1_29 : Cond.classLink R_Ps 9 R_Pl ∈ tB := mB1 29 rfl rfl
theorem k_1_30 : Cond.arrayOver (.object R_Pl) ∈ lw_tbl := List.mem_append_right _ (List.mem_append_left _ (List.mem_of_getElem? (i := 30) rfl))
theorem k_1_31 : Cond.instantiable R_Pl 4 ∈ tB := mB1 31 rfl rfl
theorem k_1_32 : Cond.constantLong R_Ps 23 1000 ∈ tB := mB1 32 rfl rfl
theorem k_1_33 : Cond.methodLink R_Ps 25 y_Pl_init ∈ tB := mB1 33 rfl rfl
theorem k_1_34 : Cond.instanceMethod y_Pl_init ∈ tB := mB1 34 rfl rfl
theorem k_1_35 : Cond.code y_Pl_init b_Pl_init 9 none ∈ tB := mB1 35 rfl rfl
theorem k_1_36 : Cond.methodLink R_Pl 1 objectInit ∈ tB := mB1 36 rfl rfl
theorem k_1_37 : Cond.fieldLink R_Pl 7 R_Pl "a" "J" ∈ tB := mB1 37 rfl rfl
theorem k_1_38 : Cond.fieldLink R_Pl 13 R_Pl "b" "J" ∈ tB := mB1 38 rfl rfl
theorem k_1_39 : Cond.fieldLink R_Pl 16 R_Pl "c" "J" ∈ tB := mB1 39 rfl rfl
theorem k_1_40 : Cond.fieldLink R_Pl 19 R_Pl "d" "J" ∈ tB := mB1 40 rfl rfl
theorem k_1_50 : Cond.arrayClass .int ∈ tB := mB1 50 rfl rfl
theorem k_1_51 : Cond.methodLink R_Ps 28 y_Ps_add ∈ tB := mB1 51 rfl rfl
theorem k_1_52 : Cond.instanceMethod y_Ps_add ∈ tB := mB1 52 rfl rfl
theorem k_1_53 : Cond.selects R_Ps y_Ps_add y_Ps_add ∈ tB := mB1 53 rfl rfl
theorem k_1_54 : Cond.code y_Ps_add b_Ps_add 2 none ∈ tB := mB1 54 rfl rfl
theorem k_1_55 : Cond.methodLink R_Ps 34 y_Ps_firstOneWith ∈ tB := mB1 55 rfl rfl
theorem k_1_57 : Cond.instanceMethod y_Ps_firstOneWith ∈ tB := mB1 57 rfl rfl
theorem k_1_58 : Cond.code y_Ps_firstOneWith b_Ps_firstOneWith 3 (some .int) ∈ tB := mB1 58 rfl rfl
theorem k_1_59 : Cond.methodLink R_Ps 38 y_Pl_isOneWith ∈ tB := mB1 59 rfl rfl
theorem k_1_60 : Cond.instanceMethod y_Pl_isOneWith ∈ tB := mB1 60 rfl rfl
theorem k_1_61 : Cond.selects R_Pl y_Pl_isOneWith y_Pl_isOneWith ∈ tB := mB1 61 rfl rfl
theorem k_1_62 : Cond.code y_Pl_isOneWith b_Pl_isOneWith 2 (some .boolean) ∈ tB := mB1 62 rfl rfl
theorem k_1_63 : Cond.constantLong R_Ps 32 (-1) ∈ tB := mB1 63 rfl rfl
theorem k_1_64 : Cond.fieldLink R_Ps 11 R_Ps "all" "[LCarvedSolids$Plane;" ∈ tB := mB1 64 rfl rfl
theorem k_1_65 : Cond.fieldLink R_Ps 15 R_Ps "first" "[I" ∈ tB := mB1 65 rfl rfl
theorem k_1_66 : Cond.fieldLink R_Ps 19 R_Ps "count" "I" ∈ tB := mB1 66 rfl rfl
theorem k_1_74 : Cond.classLink R_X 16 R_So ∈ tB := mB1 74 rfl rfl
theorem k_1_75 : Cond.arrayOver (.object R_So) ∈ lw_tbl := List.mem_append_right _ (List.mem_append_left _ (List.mem_of_getElem? (i := 75) rfl))
theorem k_1_76 : Cond.instantiable R_So 1 ∈ tB := mB1 76 rfl rfl
theorem k_1_77 : Cond.methodLink R_X 22 y_So_init ∈ tB := mB1 77 rfl rfl
theorem k_1_78 : Cond.instanceMethod y_So_init ∈ tB := mB1 78 rfl rfl
theorem k_1_79 : Cond.code y_So_init b_So_init 1 none ∈ tB := mB1 79 rfl rfl
theorem k_1_80 : Cond.methodLink R_So 5 objectInit ∈ tB := mB1 80 rfl rfl
theorem k_1_81 : Cond.fieldLink R_So 11 R_So "words" "[J" ∈ tB := mB1 81 rfl rfl
theorem k_1_85 : Cond.arrayClass .long ∈ tB := mB1 85 rfl rfl
theorem k_1_86 : Cond.classLink R_X 23 R_Pt ∈ tB := mB1 86 rfl rfl
theorem k_1_87 : Cond.instantiable R_Pt 4 ∈ tB := mB1 87 rfl rfl
theorem k_1_88 : Cond.methodLinkNest R_X 25 y_Pt_init R_X ∈ lw_tbl := List.mem_append_right _ (List.mem_append_left _ (List.mem_of_getElem? (i := 88) rfl))
theorem k_1_89 : Cond.instanceMethod y_Pt_init ∈ tB := mB1 89 rfl rfl
theorem k_1_90 : Cond.code y_Pt_init b_Pt_init 1 none ∈ tB := mB1 90 rfl rfl
theorem k_1_91 : Cond.methodLink R_Pt 1 objectInit ∈ tB := mB1 91 rfl rfl
theorem k_1_92 : Cond.fieldLink R_Pt 7 R_Pt "x" "J" ∈ tB := mB1 92 rfl rfl
theorem k_1_93 : Cond.fieldLinkNest R_Pl 22 R_Pt "x" "J" R_X ∈ lw_tbl := List.mem_append_right _ (List.mem_append_left _ (List.mem_of_getElem? (i := 93) rfl))
theorem k_1_94 : Cond.fieldLink R_Pt 13 R_Pt "y" "J" ∈ tB := mB1 94 rfl rfl
theorem k_1_95 : Cond.fieldLinkNest R_Pl 27 R_Pt "y" "J" R_X ∈ lw_tbl := List.mem_append_right _ (List.mem_append_left _ (List.mem_of_getElem? (i := 95) rfl))
theorem k_1_96 : Cond.fieldLink R_Pt 16 R_Pt "z" "J" ∈ tB := mB1 96 rfl rfl
theorem k_1_97 : Cond.fieldLinkNest R_Pl 30 R_Pt "z" "J" R_X ∈ lw_tbl := List.mem_append_right _ (List.mem_append_left _ (List.mem_of_getElem? (i := 97) rfl))
theorem k_1_98 : Cond.fieldLink R_Pt 19 R_Pt "w" "J" ∈ tB := mB1 98 rfl rfl
theorem k_1_99 : Cond.fieldLinkNest R_Pl 33 R_Pt "w" "J" R_X ∈ lw_tbl := List.mem_append_right _ (List.mem_append_left _ (List.mem_of_getElem? (i := 99) rfl))
theorem k_1_109 : Cond.fieldLink R_X 10 R_X "space" "LCarvedSolids$Planes;" ∈ tB := mB1 109 rfl rfl
theorem k_1_110 : Cond.fieldLink R_X 18 R_X "stack" "[LCarvedSolids$Solid;" ∈ tB := mB1 110 rfl rfl
theorem k_1_111 : Cond.fieldLink R_X 26 R_X "spot" "LCarvedSolids$Point;" ∈ tB := mB1 111 rfl rfl
theorem k_1_112 : Cond.fieldLink R_X 30 R_X "height" "I" ∈ tB := mB1 112 rfl rfl
theorem k_1_122 : Cond.methodLink R_La 61 y_X_planes ∈ tB := mB1 122 rfl rfl
theorem k_1_123 : Cond.instanceMethod y_X_planes ∈ tB := mB1 123 rfl rfl
theorem k_1_124 : Cond.selects R_X y_X_planes y_X_planes ∈ tB := mB1 124 rfl rfl
theorem k_1_125 : Cond.code y_X_planes b_X_planes 1 (some .int) ∈ tB := mB1 125 rfl rfl
theorem k_1_126 : Cond.methodLink R_X 51 y_Ps_given ∈ tB := mB1 126 rfl rfl
theorem k_1_127 : Cond.instanceMethod y_Ps_given ∈ tB := mB1 127 rfl rfl
theorem k_1_128 : Cond.selects R_Ps y_Ps_given y_Ps_given ∈ tB := mB1 128 rfl rfl
theorem k_1_129 : Cond.code y_Ps_given b_Ps_given 1 (some .int) ∈ tB := mB1 129 rfl rfl
theorem k_1_130 : Cond.methodLink R_La 83 y_X_solids ∈ tB := mB1 130 rfl rfl
theorem k_1_131 : Cond.instanceMethod y_X_solids ∈ tB := mB1 131 rfl rfl
theorem k_1_132 : Cond.selects R_X y_X_solids y_X_solids ∈ tB := mB1 132 rfl rfl
theorem k_1_133 : Cond.code y_X_solids b_X_solids 1 (some .int) ∈ tB := mB1 133 rfl rfl
theorem k_1_134 : Cond.methodLink R_La 52 y_La_plane ∈ tB := mB1 134 rfl rfl
theorem k_1_135 : Cond.static y_La_plane ∈ tB := mB1 135 rfl rfl
theorem k_1_136 : Cond.codeWith y_La_plane b_La_plane 7 (some .int) [(0, 14, 17, 13), (0, 14, 21, 15)] ∈ tB := mB1 136 rfl rfl
theorem k_1_137 : Cond.classLink R_La 13 R_IA ∈ tB := mB1 137 rfl rfl
theorem k_1_138 : Cond.classLink R_La 15 R_IS ∈ tB := mB1 138 rfl rfl
theorem k_1_139 : Cond.methodLink R_La 7 y_X_plane ∈ tB := mB1 139 rfl rfl
theorem k_1_140 : Cond.instanceMethod y_X_plane ∈ tB := mB1 140 rfl rfl
theorem k_1_141 : Cond.selects R_X y_X_plane y_X_plane ∈ tB := mB1 141 rfl rfl
theorem k_1_142 : Cond.code y_X_plane b_X_plane 6 (some .int) ∈ tB := mB1 142 rfl rfl
theorem k_1_143 : Cond.classLink R_X 34 R_IA ∈ tB := mB1 143 rfl rfl
theorem k_1_144 : Cond.instantiable R_IA 6 ∈ tB := mB1 144 rfl rfl
theorem k_1_145 : Cond.castable R_IA R_IA ∈ lw_tbl := List.mem_append_right _ (List.mem_append_left _ (List.mem_of_getElem? (i := 145) rfl))
theorem k_1_146 : Cond.declares ⟨"java/lang/RuntimeException", "<init>", "()V"⟩ ∈ lw_tbl := List.mem_append_right _ (List.mem_append_left _ (List.mem_of_getElem? (i := 146) rfl))
theorem k_1_147 : Cond.declares ⟨"java/lang/RuntimeException", "<init>", "(Ljava/lang/String;)V"⟩ ∈ lw_tbl := List.mem_append_right _ (List.mem_append_left _ (List.mem_of_getElem? (i := 147) rfl))
theorem k_1_148 : Cond.declares ⟨"java/lang/Exception", "<init>", "()V"⟩ ∈ lw_tbl := List.mem_append_right _ (List.mem_append_left _ (List.mem_of_getElem? (i := 148) rfl))
theorem k_1_149 : Cond.declares ⟨"java/lang/Exception", "<init>", "(Ljava/lang/String;)V"⟩ ∈ lw_tbl := List.mem_append_right _ (List.mem_append_left _ (List.mem_of_getElem? (i := 149) rfl))
theorem k_1_150 : Cond.declares ⟨"java/lang/Throwable", "<init>", "()V"⟩ ∈ lw_tbl := List.mem_append_right _ (List.mem_append_left _ (List.mem_of_getElem? (i := 150) rfl))
theorem k_1_151 : Cond.declares ⟨"java/lang/Throwable", "<init>", "(Ljava/lang/String;)V"⟩ ∈ lw_tbl := List.mem_append_right _ (List.mem_append_left _ (List.mem_of_getElem? (i := 151) rfl))
theorem k_1_152 : Cond.selects R_IA ⟨"java/lang/Throwable", "fillInStackTrace", "(I)Ljava/lang/Throwable;"⟩ ⟨"java/lang/Throwable", "fillInStackTrace", "(I)Ljava/lang/Throwable;"⟩ ∈ tB := mB1 152 rfl rfl
theorem k_1_153 : Cond.selects R_IA ⟨"java/lang/Throwable", "fillInStackTrace", "()Ljava/lang/Throwable;"⟩ ⟨"java/lang/Throwable", "fillInStackTrace", "()Ljava/lang/Throwable;"⟩ ∈ tB := mB1 153 rfl rfl
theorem k_1_164 : Cond.fieldLink "java/lang/Throwable" 198 "java/lang/Throwable" "backtrace" "Ljava/lang/Object;" ∈ tB := mB1 164 rfl rfl
theorem k_1_166 : Cond.instanceMethod ⟨"java/lang/Throwable", "<init>", "()V"⟩ ∈ tB := mB1 166 rfl rfl
theorem k_1_168 : Cond.methodLink "java/lang/Throwable" 1 objectInit ∈ tB := mB1 168 rfl rfl
theorem k_1_169 : Cond.fieldLink "java/lang/Throwable" 13 "java/lang/Throwable" "UNASSIGNED_STACK" "[Ljava/lang/StackTraceElement;" ∈ tB := mB1 169 rfl rfl
theorem k_1_171 : Cond.fieldLink "java/lang/Throwable" 20 "java/lang/Throwable" "SUPPRESSED_SENTINEL" "Ljava/util/List;" ∈ tB := mB1 171 rfl rfl
theorem k_1_173 : Cond.methodLink "java/lang/Throwable" 27 ⟨"java/lang/Throwable", "fillInStackTrace", "()Ljava/lang/Throwable;"⟩ ∈ tB := mB1 173 rfl rfl
theorem k_1_174 : Cond.instanceMethod ⟨"java/lang/Throwable", "fillInStackTrace", "()Ljava/lang/Throwable;"⟩ ∈ tB := mB1 174 rfl rfl
theorem k_1_176 : Cond.selects R_IS ⟨"java/lang/Throwable", "fillInStackTrace", "()Ljava/lang/Throwable;"⟩ ⟨"java/lang/Throwable", "fillInStackTrace", "()Ljava/lang/Throwable;"⟩ ∈ tB := mB1 176 rfl rfl
theorem k_1_177 : Cond.selects R_IO ⟨"java/lang/Throwable", "fillInStackTrace", "()Ljava/lang/Throwable;"⟩ ⟨"java/lang/Throwable", "fillInStackTrace", "()Ljava/lang/Throwable;"⟩ ∈ tB := mB1 177 rfl rfl
theorem k_1_178 : Cond.selects R_NS ⟨"java/lang/Throwable", "fillInStackTrace", "()Ljava/lang/Throwable;"⟩ ⟨"java/lang/Throwable", "fillInStackTrace", "()Ljava/lang/Throwable;"⟩ ∈ tB := mB1 178 rfl rfl
theorem k_1_180 : Cond.methodLink "java/lang/Throwable" 202 ⟨"java/lang/Throwable", "fillInStackTrace", "(I)Ljava/lang/Throwable;"⟩ ∈ tB := mB1 180 rfl rfl
theorem k_1_182 : Cond.instanceMethod ⟨"java/lang/Throwable", "fillInStackTrace", "(I)Ljava/lang/Throwable;"⟩ ∈ tB := mB1 182 rfl rfl
theorem k_1_183 : Cond.instantiable "java/lang/Throwable" 6 ∈ tB := mB1 183 rfl rfl
theorem k_1_186 : Cond.methodLink R_X 38 ⟨R_IA, "<init>", "(Ljava/lang/String;)V"⟩ ∈ tB := mB1 186 rfl rfl
theorem k_1_187 : Cond.instanceMethod ⟨R_IA, "<init>", "(Ljava/lang/String;)V"⟩ ∈ tB := mB1 187 rfl rfl
theorem k_1_189 : Cond.methodLink R_IA 7 ⟨"java/lang/RuntimeException", "<init>", "(Ljava/lang/String;)V"⟩ ∈ tB := mB1 189 rfl rfl
theorem k_1_190 : Cond.instanceMethod ⟨"java/lang/RuntimeException", "<init>", "(Ljava/lang/String;)V"⟩ ∈ tB := mB1 190 rfl rfl
theorem k_1_192 : Cond.methodLink "java/lang/RuntimeException" 7 ⟨"java/lang/Exception", "<init>", "(Ljava/lang/String;)V"⟩ ∈ tB := mB1 192 rfl rfl
theorem k_1_193 : Cond.instanceMethod ⟨"java/lang/Exception", "<init>", "(Ljava/lang/String;)V"⟩ ∈ tB := mB1 193 rfl rfl
theorem k_1_195 : Cond.methodLink "java/lang/Exception" 7 ⟨"java/lang/Throwable", "<init>", "(Ljava/lang/String;)V"⟩ ∈ tB := mB1 195 rfl rfl
theorem k_1_196 : Cond.instanceMethod ⟨"java/lang/Throwable", "<init>", "(Ljava/lang/String;)V"⟩ ∈ tB := mB1 196 rfl rfl
theorem k_1_199 : Cond.fieldLink "java/lang/Throwable" 31 "java/lang/Throwable" "detailMessage" "Ljava/lang/String;" ∈ tB := mB1 199 rfl rfl
theorem k_1_200 : Cond.fieldLink "java/lang/Throwable" 7 "java/lang/Throwable" "cause" "Ljava/lang/Throwable;" ∈ tB := mB1 200 rfl rfl
theorem k_1_201 : Cond.fieldLink "java/lang/Throwable" 17 "java/lang/Throwable" "stackTrace" "[Ljava/lang/StackTraceElement;" ∈ tB := mB1 201 rfl rfl
theorem k_1_202 : Cond.fieldLink "java/lang/Throwable" 24 "java/lang/Throwable" "suppressedExceptions" "Ljava/util/List;" ∈ tB := mB1 202 rfl rfl
theorem k_1_212 : Cond.constant R_X 41 1000000 ∈ tB := mB1 212 rfl rfl
theorem k_1_213 : Cond.methodLink R_X 42 y_X_isBeyond ∈ tB := mB1 213 rfl rfl
theorem k_1_214 : Cond.static y_X_isBeyond ∈ tB := mB1 214 rfl rfl
theorem k_1_215 : Cond.code y_X_isBeyond b_X_isBeyond 2 (some .boolean) ∈ tB := mB1 215 rfl rfl
theorem k_1_217 : Cond.constant R_X 48 1000000000 ∈ tB := mB1 217 rfl rfl
theorem k_1_219 : Cond.classLink R_X 55 R_IS ∈ tB := mB1 219 rfl rfl
theorem k_1_220 : Cond.instantiable R_IS 6 ∈ tB := mB1 220 rfl rfl
theorem k_1_221 : Cond.castable R_IS R_IS ∈ lw_tbl := List.mem_append_right _ (List.mem_append_left _ (List.mem_of_getElem? (i := 221) rfl))
theorem k_1_222 : Cond.selects R_IS ⟨"java/lang/Throwable", "fillInStackTrace", "(I)Ljava/lang/Throwable;"⟩ ⟨"java/lang/Throwable", "fillInStackTrace", "(I)Ljava/lang/Throwable;"⟩ ∈ tB := mB1 222 rfl rfl
theorem k_1_229 : Cond.methodLink R_X 59 ⟨R_IS, "<init>", "(Ljava/lang/String;)V"⟩ ∈ tB := mB1 229 rfl rfl
theorem k_1_230 : Cond.instanceMethod ⟨R_IS, "<init>", "(Ljava/lang/String;)V"⟩ ∈ tB := mB1 230 rfl rfl
theorem k_1_232 : Cond.methodLink R_IS 7 ⟨"java/lang/RuntimeException", "<init>", "(Ljava/lang/String;)V"⟩ ∈ tB := mB1 232 rfl rfl
theorem k_1_235 : Cond.classLink R_X 60 R_Pl ∈ tB := mB1 235 rfl rfl
theorem k_1_236 : Cond.methodLink R_X 62 y_Pl_init ∈ tB := mB1 236 rfl rfl
theorem k_1_237 : Cond.methodLink R_X 65 y_Ps_add ∈ tB := mB1 237 rfl rfl
theorem k_1_238 : Cond.methodLink R_La 65 y_La_convex ∈ tB := mB1 238 rfl rfl
theorem k_1_239 : Cond.static y_La_convex ∈ tB := mB1 239 rfl rfl
theorem k_2_0 : Cond.codeWith y_La_convex b_La_convex 4 (some .int) [(0, 9, 12, 13), (0, 9, 15, 15)] ∈ tB := mB2 0 rfl rfl
theorem k_2_1 : Cond.methodLink R_La 17 y_X_convex ∈ tB := mB2 1 rfl rfl
theorem k_2_2 : Cond.instanceMethod y_X_convex ∈ tB := mB2 2 rfl rfl
theorem k_2_3 : Cond.selects R_X y_X_convex y_X_convex ∈ tB := mB2 3 rfl rfl
theorem k_2_4 : Cond.code y_X_convex b_X_convex 2 (some .int) ∈ tB := mB2 4 rfl rfl
theorem k_2_6 : Cond.methodLink R_X 71 y_X_requireRoom ∈ tB := mB2 6 rfl rfl
theorem k_2_8 : Cond.instanceMethod y_X_requireRoom ∈ tB := mB2 8 rfl rfl
theorem k_2_9 : Cond.code y_X_requireRoom b_X_requireRoom 1 none ∈ tB := mB2 9 rfl rfl
theorem k_2_11 : Cond.methodLink R_X 74 y_So_becomeConvex ∈ tB := mB2 11 rfl rfl
theorem k_2_12 : Cond.instanceMethod y_So_becomeConvex ∈ tB := mB2 12 rfl rfl
theorem k_2_13 : Cond.selects R_So y_So_becomeConvex y_So_becomeConvex ∈ tB := mB2 13 rfl rfl
theorem k_2_14 : Cond.code y_So_becomeConvex b_So_becomeConvex 3 none ∈ tB := mB2 14 rfl rfl
theorem k_2_15 : Cond.methodLink R_La 69 y_La_join ∈ tB := mB2 15 rfl rfl
theorem k_2_16 : Cond.static y_La_join ∈ tB := mB2 16 rfl rfl
theorem k_2_17 : Cond.codeWith y_La_join b_La_join 4 (some .int) [(0, 9, 12, 13), (0, 9, 15, 15)] ∈ tB := mB2 17 rfl rfl
theorem k_2_18 : Cond.methodLink R_La 21 y_X_join ∈ tB := mB2 18 rfl rfl
theorem k_2_19 : Cond.instanceMethod y_X_join ∈ tB := mB2 19 rfl rfl
theorem k_2_20 : Cond.selects R_X y_X_join y_X_join ∈ tB := mB2 20 rfl rfl
theorem k_2_21 : Cond.code y_X_join b_X_join 2 (some .int) ∈ tB := mB2 21 rfl rfl
theorem k_2_24 : Cond.methodLink R_X 82 y_So_joinWith ∈ tB := mB2 24 rfl rfl
theorem k_2_25 : Cond.instanceMethod y_So_joinWith ∈ tB := mB2 25 rfl rfl
theorem k_2_26 : Cond.selects R_So y_So_joinWith y_So_joinWith ∈ tB := mB2 26 rfl rfl
theorem k_2_27 : Cond.code y_So_joinWith b_So_joinWith 4 none ∈ tB := mB2 27 rfl rfl
theorem k_2_28 : Cond.methodLink R_So 17 y_So_joined ∈ tB := mB2 28 rfl rfl
theorem k_2_29 : Cond.static y_So_joined ∈ tB := mB2 29 rfl rfl
theorem k_2_30 : Cond.code y_So_joined b_So_joined 5 (some .long) ∈ tB := mB2 30 rfl rfl
theorem k_2_31 : Cond.constantLong R_So 15 (-1) ∈ tB := mB2 31 rfl rfl
theorem k_2_32 : Cond.methodLink R_La 72 y_La_turn ∈ tB := mB2 32 rfl rfl
theorem k_2_33 : Cond.static y_La_turn ∈ tB := mB2 33 rfl rfl
theorem k_2_34 : Cond.codeWith y_La_turn b_La_turn 2 (some .int) [(0, 4, 7, 15)] ∈ tB := mB2 34 rfl rfl
theorem k_2_35 : Cond.methodLink R_La 24 y_X_turn ∈ tB := mB2 35 rfl rfl
theorem k_2_36 : Cond.instanceMethod y_X_turn ∈ tB := mB2 36 rfl rfl
theorem k_2_37 : Cond.selects R_X y_X_turn y_X_turn ∈ tB := mB2 37 rfl rfl
theorem k_2_38 : Cond.code y_X_turn b_X_turn 1 none ∈ tB := mB2 38 rfl rfl
theorem k_2_39 : Cond.methodLink R_X 86 y_X_requireSolid ∈ tB := mB2 39 rfl rfl
theorem k_2_41 : Cond.instanceMethod y_X_requireSolid ∈ tB := mB2 41 rfl rfl
theorem k_2_42 : Cond.code y_X_requireSolid b_X_requireSolid 1 none ∈ tB := mB2 42 rfl rfl
theorem k_2_44 : Cond.methodLink R_X 89 y_So_becomeItsRest ∈ tB := mB2 44 rfl rfl
theorem k_2_45 : Cond.instanceMethod y_So_becomeItsRest ∈ tB := mB2 45 rfl rfl
theorem k_2_46 : Cond.selects R_So y_So_becomeItsRest y_So_becomeItsRest ∈ tB := mB2 46 rfl rfl
theorem k_2_47 : Cond.code y_So_becomeItsRest b_So_becomeItsRest 2 none ∈ tB := mB2 47 rfl rfl
theorem k_2_48 : Cond.methodLink R_La 76 y_La_copy ∈ tB := mB2 48 rfl rfl
theorem k_2_49 : Cond.static y_La_copy ∈ tB := mB2 49 rfl rfl
theorem k_2_50 : Cond.codeWith y_La_copy b_La_copy 4 (some .int) [(0, 9, 12, 30), (0, 9, 15, 15)] ∈ tB := mB2 50 rfl rfl
theorem k_2_51 : Cond.classLink R_La 30 R_IO ∈ tB := mB2 51 rfl rfl
theorem k_2_52 : Cond.methodLink R_La 27 y_X_copy ∈ tB := mB2 52 rfl rfl
theorem k_2_53 : Cond.instanceMethod y_X_copy ∈ tB := mB2 53 rfl rfl
theorem k_2_54 : Cond.selects R_X y_X_copy y_X_copy ∈ tB := mB2 54 rfl rfl
theorem k_2_55 : Cond.code y_X_copy b_X_copy 2 (some .int) ∈ tB := mB2 55 rfl rfl
theorem k_2_56 : Cond.classLink R_X 92 R_IO ∈ tB := mB2 56 rfl rfl
theorem k_2_57 : Cond.instantiable R_IO 6 ∈ tB := mB2 57 rfl rfl
theorem k_2_58 : Cond.castable R_IO R_IO ∈ lw_tbl := List.mem_append_right _ (List.mem_append_right _ (List.mem_append_left _ (List.mem_of_getElem? (i := 58) rfl)))
theorem k_2_59 : Cond.selects R_IO ⟨"java/lang/Throwable", "fillInStackTrace", "(I)Ljava/lang/Throwable;"⟩ ⟨"java/lang/Throwable", "fillInStackTrace", "(I)Ljava/lang/Throwable;"⟩ ∈ tB := mB2 59 rfl rfl
theorem k_2_66 : Cond.methodLink R_X 96 ⟨R_IO, "<init>", "(Ljava/lang/String;)V"⟩ ∈ tB := mB2 66 rfl rfl
theorem k_2_67 : Cond.instanceMethod ⟨R_IO, "<init>", "(Ljava/lang/String;)V"⟩ ∈ tB := mB2 67 rfl rfl
theorem k_2_69 : Cond.methodLink R_IO 7 ⟨"java/lang/RuntimeException", "<init>", "(Ljava/lang/String;)V"⟩ ∈ tB := mB2 69 rfl rfl
theorem k_2_72 : Cond.methodLink R_X 97 y_So_becomeLike ∈ tB := mB2 72 rfl rfl
theorem k_2_73 : Cond.instanceMethod y_So_becomeLike ∈ tB := mB2 73 rfl rfl
theorem k_2_74 : Cond.selects R_So y_So_becomeLike y_So_becomeLike ∈ tB := mB2 74 rfl rfl
theorem k_2_75 : Cond.code y_So_becomeLike b_So_becomeLike 3 none ∈ tB := mB2 75 rfl rfl
theorem k_2_76 : Cond.methodLink R_La 79 y_La_drop ∈ tB := mB2 76 rfl rfl
theorem k_2_77 : Cond.static y_La_drop ∈ tB := mB2 77 rfl rfl
theorem k_2_78 : Cond.codeWith y_La_drop b_La_drop 3 (some .int) [(0, 8, 11, 15)] ∈ tB := mB2 78 rfl rfl
theorem k_2_79 : Cond.methodLink R_La 32 y_X_drop ∈ tB := mB2 79 rfl rfl
theorem k_2_80 : Cond.instanceMethod y_X_drop ∈ tB := mB2 80 rfl rfl
theorem k_2_81 : Cond.selects R_X y_X_drop y_X_drop ∈ tB := mB2 81 rfl rfl
theorem k_2_82 : Cond.code y_X_drop b_X_drop 1 (some .int) ∈ tB := mB2 82 rfl rfl
theorem k_2_83 : Cond.methodLink R_La 87 y_La_inside ∈ tB := mB2 83 rfl rfl
theorem k_2_84 : Cond.static y_La_inside ∈ tB := mB2 84 rfl rfl
theorem k_2_85 : Cond.codeWith y_La_inside b_La_inside 7 (some .int) [(0, 14, 17, 13), (0, 14, 21, 15)] ∈ tB := mB2 85 rfl rfl
theorem k_2_86 : Cond.methodLink R_La 36 y_X_inside ∈ tB := mB2 86 rfl rfl
theorem k_2_87 : Cond.instanceMethod y_X_inside ∈ tB := mB2 87 rfl rfl
theorem k_2_88 : Cond.selects R_X y_X_inside y_X_inside ∈ tB := mB2 88 rfl rfl
theorem k_2_89 : Cond.code y_X_inside b_X_inside 5 (some .int) ∈ tB := mB2 89 rfl rfl
theorem k_2_90 : Cond.methodLink R_X 101 y_X_requirePoint ∈ tB := mB2 90 rfl rfl
theorem k_2_91 : Cond.static y_X_requirePoint ∈ tB := mB2 91 rfl rfl
theorem k_2_92 : Cond.code y_X_requirePoint b_X_requirePoint 4 none ∈ tB := mB2 92 rfl rfl
theorem k_2_95 : Cond.methodLink R_X 105 y_Pt_place ∈ tB := mB2 95 rfl rfl
theorem k_2_96 : Cond.instanceMethod y_Pt_place ∈ tB := mB2 96 rfl rfl
theorem k_2_97 : Cond.selects R_Pt y_Pt_place y_Pt_place ∈ tB := mB2 97 rfl rfl
theorem k_2_98 : Cond.code y_Pt_place b_Pt_place 9 none ∈ tB := mB2 98 rfl rfl
theorem k_2_99 : Cond.methodLink R_X 108 y_Ps_isOnAny ∈ tB := mB2 99 rfl rfl
theorem k_2_100 : Cond.instanceMethod y_Ps_isOnAny ∈ tB := mB2 100 rfl rfl
theorem k_2_101 : Cond.selects R_Ps y_Ps_isOnAny y_Ps_isOnAny ∈ tB := mB2 101 rfl rfl
theorem k_2_102 : Cond.code y_Ps_isOnAny b_Ps_isOnAny 3 (some .boolean) ∈ tB := mB2 102 rfl rfl
theorem k_2_103 : Cond.methodLink R_Ps 42 y_Pl_excess ∈ tB := mB2 103 rfl rfl
theorem k_2_104 : Cond.instanceMethod y_Pl_excess ∈ tB := mB2 104 rfl rfl
theorem k_2_105 : Cond.selects R_Pl y_Pl_excess y_Pl_excess ∈ tB := mB2 105 rfl rfl
theorem k_2_106 : Cond.code y_Pl_excess b_Pl_excess 2 (some .long) ∈ tB := mB2 106 rfl rfl
theorem k_2_107 : Cond.methodLink R_X 112 y_Ps_cellOf ∈ tB := mB2 107 rfl rfl
theorem k_2_108 : Cond.instanceMethod y_Ps_cellOf ∈ tB := mB2 108 rfl rfl
theorem k_2_109 : Cond.selects R_Ps y_Ps_cellOf y_Ps_cellOf ∈ tB := mB2 109 rfl rfl
theorem k_2_110 : Cond.code y_Ps_cellOf b_Ps_cellOf 4 (some .int) ∈ tB := mB2 110 rfl rfl
theorem k_2_111 : Cond.methodLink R_X 116 y_X_topHas ∈ tB := mB2 111 rfl rfl
theorem k_2_113 : Cond.instanceMethod y_X_topHas ∈ tB := mB2 113 rfl rfl
theorem k_2_114 : Cond.code y_X_topHas b_X_topHas 2 (some .boolean) ∈ tB := mB2 114 rfl rfl
theorem k_2_115 : Cond.methodLink R_X 180 y_Ps_isCellInBox ∈ tB := mB2 115 rfl rfl
theorem k_2_116 : Cond.static y_Ps_isCellInBox ∈ tB := mB2 116 rfl rfl
theorem k_2_117 : Cond.code y_Ps_isCellInBox b_Ps_isCellInBox 1 (some .boolean) ∈ tB := mB2 117 rfl rfl
theorem k_2_118 : Cond.methodLink R_X 183 y_Ps_givenOfCell ∈ tB := mB2 118 rfl rfl
theorem k_2_119 : Cond.static y_Ps_givenOfCell ∈ tB := mB2 119 rfl rfl
theorem k_2_120 : Cond.code y_Ps_givenOfCell b_Ps_givenOfCell 1 (some .int) ∈ tB := mB2 120 rfl rfl
theorem k_2_121 : Cond.methodLink R_X 186 y_So_has ∈ tB := mB2 121 rfl rfl
theorem k_2_122 : Cond.instanceMethod y_So_has ∈ tB := mB2 122 rfl rfl
theorem k_2_123 : Cond.selects R_So y_So_has y_So_has ∈ tB := mB2 123 rfl rfl
theorem k_2_124 : Cond.code y_So_has b_So_has 2 (some .boolean) ∈ tB := mB2 124 rfl rfl
theorem k_2_125 : Cond.methodLink R_La 90 y_La_side ∈ tB := mB2 125 rfl rfl
theorem k_2_126 : Cond.static y_La_side ∈ tB := mB2 126 rfl rfl
theorem k_2_127 : Cond.codeWith y_La_side b_La_side 7 (some .int) [(0, 14, 17, 13), (0, 14, 21, 15), (0, 14, 25, 42)] ∈ tB := mB2 127 rfl rfl
theorem k_2_128 : Cond.classLink R_La 42 R_NS ∈ tB := mB2 128 rfl rfl
theorem k_2_129 : Cond.methodLink R_La 39 y_X_side ∈ tB := mB2 129 rfl rfl
theorem k_2_130 : Cond.instanceMethod y_X_side ∈ tB := mB2 130 rfl rfl
theorem k_2_131 : Cond.selects R_X y_X_side y_X_side ∈ tB := mB2 131 rfl rfl
theorem k_2_132 : Cond.code y_X_side b_X_side 6 (some .int) ∈ tB := mB2 132 rfl rfl
theorem k_2_133 : Cond.methodLink R_X 120 y_Ps_onlyOneAt ∈ tB := mB2 133 rfl rfl
theorem k_2_134 : Cond.instanceMethod y_Ps_onlyOneAt ∈ tB := mB2 134 rfl rfl
theorem k_2_135 : Cond.selects R_Ps y_Ps_onlyOneAt y_Ps_onlyOneAt ∈ tB := mB2 135 rfl rfl
theorem k_2_136 : Cond.code y_Ps_onlyOneAt b_Ps_onlyOneAt 4 (some .int) ∈ tB := mB2 136 rfl rfl
theorem k_2_137 : Cond.classLink R_X 123 R_NS ∈ tB := mB2 137 rfl rfl
theorem k_2_138 : Cond.instantiable R_NS 6 ∈ tB := mB2 138 rfl rfl
theorem k_2_139 : Cond.castable R_NS R_NS ∈ lw_tbl := List.mem_append_right _ (List.mem_append_right _ (List.mem_append_left _ (List.mem_of_getElem? (i := 139) rfl)))
theorem k_2_140 : Cond.selects R_NS ⟨"java/lang/Throwable", "fillInStackTrace", "(I)Ljava/lang/Throwable;"⟩ ⟨"java/lang/Throwable", "fillInStackTrace", "(I)Ljava/lang/Throwable;"⟩ ∈ tB := mB2 140 rfl rfl
theorem k_2_147 : Cond.methodLink R_X 127 ⟨R_NS, "<init>", "(Ljava/lang/String;)V"⟩ ∈ tB := mB2 147 rfl rfl
theorem k_2_148 : Cond.instanceMethod ⟨R_NS, "<init>", "(Ljava/lang/String;)V"⟩ ∈ tB := mB2 148 rfl rfl
theorem k_2_150 : Cond.methodLink R_NS 13 ⟨"java/lang/RuntimeException", "<init>", "(Ljava/lang/String;)V"⟩ ∈ tB := mB2 150 rfl rfl
theorem k_2_153 : Cond.methodLink R_X 128 y_X_lookAtSpot ∈ tB := mB2 153 rfl rfl
theorem k_2_155 : Cond.instanceMethod y_X_lookAtSpot ∈ tB := mB2 155 rfl rfl
theorem k_2_156 : Cond.code y_X_lookAtSpot b_X_lookAtSpot 4 (some .int) ∈ tB := mB2 156 rfl rfl
theorem k_2_157 : Cond.methodLink R_X 173 y_Ps_cellWhereLess ∈ tB := mB2 157 rfl rfl
theorem k_2_158 : Cond.instanceMethod y_Ps_cellWhereLess ∈ tB := mB2 158 rfl rfl
theorem k_2_159 : Cond.selects R_Ps y_Ps_cellWhereLess y_Ps_cellWhereLess ∈ tB := mB2 159 rfl rfl
theorem k_2_160 : Cond.code y_Ps_cellWhereLess b_Ps_cellWhereLess 3 (some .int) ∈ tB := mB2 160 rfl rfl
theorem k_2_161 : Cond.methodLink R_Ps 46 y_Ps_cellOf ∈ tB := mB2 161 rfl rfl
theorem k_2_162 : Cond.methodLink R_Ps 50 y_Ps_halfSpacesAlong ∈ tB := mB2 162 rfl rfl
theorem k_2_164 : Cond.instanceMethod y_Ps_halfSpacesAlong ∈ tB := mB2 164 rfl rfl
theorem k_2_165 : Cond.code y_Ps_halfSpacesAlong b_Ps_halfSpacesAlong 5 (some .int) ∈ tB := mB2 165 rfl rfl
theorem k_2_166 : Cond.methodLink R_Ps 54 y_Pl_looksLike ∈ tB := mB2 166 rfl rfl
theorem k_2_167 : Cond.instanceMethod y_Pl_looksLike ∈ tB := mB2 167 rfl rfl
theorem k_2_168 : Cond.selects R_Pl y_Pl_looksLike y_Pl_looksLike ∈ tB := mB2 168 rfl rfl
theorem k_2_169 : Cond.code y_Pl_looksLike b_Pl_looksLike 2 (some .boolean) ∈ tB := mB2 169 rfl rfl
theorem k_2_170 : Cond.methodLink R_X 177 y_Ps_cellWhereMore ∈ tB := mB2 170 rfl rfl
theorem k_2_171 : Cond.instanceMethod y_Ps_cellWhereMore ∈ tB := mB2 171 rfl rfl
theorem k_2_172 : Cond.selects R_Ps y_Ps_cellWhereMore y_Ps_cellWhereMore ∈ tB := mB2 172 rfl rfl
theorem k_2_173 : Cond.code y_Ps_cellWhereMore b_Ps_cellWhereMore 3 (some .int) ∈ tB := mB2 173 rfl rfl
theorem k_2_174 : Cond.methodLink R_La 93 y_La_enters ∈ tB := mB2 174 rfl rfl
theorem k_2_175 : Cond.static y_La_enters ∈ tB := mB2 175 rfl rfl
theorem k_2_176 : Cond.codeWith y_La_enters b_La_enters 6 (some .int) [(0, 12, 15, 13), (0, 12, 19, 15), (0, 12, 23, 42)] ∈ tB := mB2 176 rfl rfl
theorem k_2_177 : Cond.methodLink R_La 44 y_X_enters ∈ tB := mB2 177 rfl rfl
theorem k_2_178 : Cond.instanceMethod y_X_enters ∈ tB := mB2 178 rfl rfl
theorem k_2_179 : Cond.selects R_X y_X_enters y_X_enters ∈ tB := mB2 179 rfl rfl
theorem k_2_180 : Cond.code y_X_enters b_X_enters 6 (some .int) ∈ tB := mB2 180 rfl rfl
theorem k_2_183 : Cond.methodLink R_X 136 y_Ps_count ∈ tB := mB2 183 rfl rfl
theorem k_2_184 : Cond.instanceMethod y_Ps_count ∈ tB := mB2 184 rfl rfl
theorem k_2_185 : Cond.selects R_Ps y_Ps_count y_Ps_count ∈ tB := mB2 185 rfl rfl
theorem k_2_186 : Cond.code y_Ps_count b_Ps_count 1 (some .int) ∈ tB := mB2 186 rfl rfl
theorem k_2_187 : Cond.methodLink R_X 139 y_Ps_isFirst ∈ tB := mB2 187 rfl rfl
theorem k_2_188 : Cond.instanceMethod y_Ps_isFirst ∈ tB := mB2 188 rfl rfl
theorem k_2_189 : Cond.selects R_Ps y_Ps_isFirst y_Ps_isFirst ∈ tB := mB2 189 rfl rfl
theorem k_2_190 : Cond.code y_Ps_isFirst b_Ps_isFirst 2 (some .boolean) ∈ tB := mB2 190 rfl rfl
theorem k_2_191 : Cond.methodLink R_X 142 y_X_isEntry ∈ tB := mB2 191 rfl rfl
theorem k_2_193 : Cond.instanceMethod y_X_isEntry ∈ tB := mB2 193 rfl rfl
theorem k_2_194 : Cond.code y_X_isEntry b_X_isEntry 10 (some .boolean) ∈ tB := mB2 194 rfl rfl
theorem k_2_195 : Cond.methodLink R_X 146 y_Ps_get ∈ tB := mB2 195 rfl rfl
theorem k_2_196 : Cond.instanceMethod y_Ps_get ∈ tB := mB2 196 rfl rfl
theorem k_2_197 : Cond.selects R_Ps y_Ps_get y_Ps_get ∈ tB := mB2 197 rfl rfl
theorem k_2_198 : Cond.code y_Ps_get b_Ps_get 2 (some (.object "CarvedSolids$Plane")) ∈ tB := mB2 198 rfl rfl
theorem k_2_199 : Cond.methodLink R_X 150 y_Pl_factor ∈ tB := mB2 199 rfl rfl
theorem k_2_200 : Cond.instanceMethod y_Pl_factor ∈ tB := mB2 200 rfl rfl
theorem k_2_201 : Cond.selects R_Pl y_Pl_factor y_Pl_factor ∈ tB := mB2 201 rfl rfl
theorem k_2_202 : Cond.code y_Pl_factor b_Pl_factor 2 (some .long) ∈ tB := mB2 202 rfl rfl
theorem k_2_203 : Cond.methodLink R_X 154 y_Pt_placeOnAxis ∈ tB := mB2 203 rfl rfl
theorem k_2_204 : Cond.instanceMethod y_Pt_placeOnAxis ∈ tB := mB2 204 rfl rfl
theorem k_2_205 : Cond.selects R_Pt y_Pt_placeOnAxis y_Pt_placeOnAxis ∈ tB := mB2 205 rfl rfl
theorem k_2_206 : Cond.code y_Pt_placeOnAxis b_Pt_placeOnAxis 14 none ∈ tB := mB2 206 rfl rfl
theorem k_2_207 : Cond.methodLink R_Pt 22 y_Pt_place ∈ tB := mB2 207 rfl rfl
theorem k_2_208 : Cond.methodLink R_X 158 y_Pl_excess ∈ tB := mB2 208 rfl rfl
theorem k_2_209 : Cond.methodLink R_X 162 ⟨"java/lang/Math", "abs", "(J)J"⟩ ∈ tB := mB2 209 rfl rfl
theorem k_2_210 : Cond.static ⟨"java/lang/Math", "abs", "(J)J"⟩ ∈ tB := mB2 210 rfl rfl
theorem k_2_212 : Cond.methodLink R_X 168 y_Ps_isInBox ∈ tB := mB2 212 rfl rfl
theorem k_2_213 : Cond.instanceMethod y_Ps_isInBox ∈ tB := mB2 213 rfl rfl
theorem k_2_214 : Cond.selects R_Ps y_Ps_isInBox y_Ps_isInBox ∈ tB := mB2 214 rfl rfl
theorem k_2_215 : Cond.code y_Ps_isInBox b_Ps_isInBox 3 (some .boolean) ∈ tB := mB2 215 rfl rfl
theorem k_2_217 : Cond.classLink R_La 49 R_Mo ∈ tB := mB2 217 rfl rfl
theorem k_2_218 : Cond.instantiable R_Mo 9 ∈ tB := mB2 218 rfl rfl
theorem k_2_219 : Cond.methodLink R_La 51 y_Mo_init ∈ tB := mB2 219 rfl rfl
theorem k_2_220 : Cond.instanceMethod y_Mo_init ∈ tB := mB2 220 rfl rfl
theorem k_2_221 : Cond.code y_Mo_init b_Mo_init 1 none ∈ tB := mB2 221 rfl rfl
theorem k_2_222 : Cond.methodLink R_Mo 1 objectInit ∈ tB := mB2 222 rfl rfl
theorem k_2_223 : Cond.fieldLink R_Mo 29 R_Mo "thrown" "I" ∈ tB := mB2 223 rfl rfl
theorem k_2_224 : Cond.fieldLink R_Mo 39 R_Mo "given" "I" ∈ tB := mB2 224 rfl rfl
theorem k_2_225 : Cond.fieldLink R_Mo 7 R_Mo "normals" "[I" ∈ tB := mB2 225 rfl rfl
theorem k_2_226 : Cond.fieldLink R_Mo 13 R_Mo "far" "[I" ∈ tB := mB2 226 rfl rfl
theorem k_2_227 : Cond.fieldLink R_Mo 42 R_Mo "many" "I" ∈ tB := mB2 227 rfl rfl
theorem k_2_228 : Cond.fieldLink R_Mo 16 R_Mo "has" "[J" ∈ tB := mB2 228 rfl rfl
theorem k_2_229 : Cond.fieldLink R_Mo 20 R_Mo "values" "[J" ∈ tB := mB2 229 rfl rfl
theorem k_2_230 : Cond.fieldLink R_Mo 23 R_Mo "tops" "[J" ∈ tB := mB2 230 rfl rfl
theorem k_2_231 : Cond.fieldLink R_Mo 26 R_Mo "downs" "[J" ∈ tB := mB2 231 rfl rfl
theorem k_3_11 : Cond.methodLink R_La 58 y_Mo_thrown ∈ tB := mB3 11 rfl rfl
theorem k_3_12 : Cond.instanceMethod y_Mo_thrown ∈ tB := mB3 12 rfl rfl
theorem k_3_13 : Cond.selects R_Mo y_Mo_thrown y_Mo_thrown ∈ tB := mB3 13 rfl rfl
theorem k_3_14 : Cond.code y_Mo_thrown b_Mo_thrown 1 (some .int) ∈ tB := mB3 14 rfl rfl
theorem k_3_15 : Cond.methodLink R_La 57 y_Mo_plane ∈ tB := mB3 15 rfl rfl
theorem k_3_16 : Cond.instanceMethod y_Mo_plane ∈ tB := mB3 16 rfl rfl
theorem k_3_17 : Cond.selects R_Mo y_Mo_plane y_Mo_plane ∈ tB := mB3 17 rfl rfl
theorem k_3_18 : Cond.code y_Mo_plane b_Mo_plane 6 (some .int) ∈ tB := mB3 18 rfl rfl
theorem k_3_19 : Cond.constant R_Mo 33 1000000 ∈ tB := mB3 19 rfl rfl
theorem k_3_20 : Cond.methodLink R_Mo 34 y_Mo_within ∈ tB := mB3 20 rfl rfl
theorem k_3_21 : Cond.static y_Mo_within ∈ tB := mB3 21 rfl rfl
theorem k_3_22 : Cond.code y_Mo_within b_Mo_within 2 (some .boolean) ∈ tB := mB3 22 rfl rfl
theorem k_3_23 : Cond.constant R_Mo 38 1000000000 ∈ tB := mB3 23 rfl rfl
theorem k_3_24 : Cond.methodLink R_La 64 y_Mo_planes ∈ tB := mB3 24 rfl rfl
theorem k_3_25 : Cond.instanceMethod y_Mo_planes ∈ tB := mB3 25 rfl rfl
theorem k_3_26 : Cond.selects R_Mo y_Mo_planes y_Mo_planes ∈ tB := mB3 26 rfl rfl
theorem k_3_27 : Cond.code y_Mo_planes b_Mo_planes 1 (some .int) ∈ tB := mB3 27 rfl rfl
theorem k_3_28 : Cond.methodLink R_La 68 y_Mo_convex ∈ tB := mB3 28 rfl rfl
theorem k_3_29 : Cond.instanceMethod y_Mo_convex ∈ tB := mB3 29 rfl rfl
theorem k_3_30 : Cond.selects R_Mo y_Mo_convex y_Mo_convex ∈ tB := mB3 30 rfl rfl
theorem k_3_31 : Cond.code y_Mo_convex b_Mo_convex 3 (some .int) ∈ tB := mB3 31 rfl rfl
theorem k_3_32 : Cond.methodLink R_La 71 y_Mo_join ∈ tB := mB3 32 rfl rfl
theorem k_3_33 : Cond.instanceMethod y_Mo_join ∈ tB := mB3 33 rfl rfl
theorem k_3_34 : Cond.selects R_Mo y_Mo_join y_Mo_join ∈ tB := mB3 34 rfl rfl
theorem k_3_35 : Cond.code y_Mo_join b_Mo_join 7 (some .int) ∈ tB := mB3 35 rfl rfl
theorem k_3_36 : Cond.constantLong R_Mo 45 (-1) ∈ tB := mB3 36 rfl rfl
theorem k_3_37 : Cond.methodLink R_La 75 y_Mo_turn ∈ tB := mB3 37 rfl rfl
theorem k_3_38 : Cond.instanceMethod y_Mo_turn ∈ tB := mB3 38 rfl rfl
theorem k_3_39 : Cond.selects R_Mo y_Mo_turn y_Mo_turn ∈ tB := mB3 39 rfl rfl
theorem k_3_40 : Cond.code y_Mo_turn b_Mo_turn 2 none ∈ tB := mB3 40 rfl rfl
theorem k_3_41 : Cond.methodLink R_La 78 y_Mo_copy ∈ tB := mB3 41 rfl rfl
theorem k_3_42 : Cond.instanceMethod y_Mo_copy ∈ tB := mB3 42 rfl rfl
theorem k_3_43 : Cond.selects R_Mo y_Mo_copy y_Mo_copy ∈ tB := mB3 43 rfl rfl
theorem k_3_44 : Cond.code y_Mo_copy b_Mo_copy 3 (some .int) ∈ tB := mB3 44 rfl rfl
theorem k_3_45 : Cond.methodLink R_La 82 y_Mo_drop ∈ tB := mB3 45 rfl rfl
theorem k_3_46 : Cond.instanceMethod y_Mo_drop ∈ tB := mB3 46 rfl rfl
theorem k_3_47 : Cond.selects R_Mo y_Mo_drop y_Mo_drop ∈ tB := mB3 47 rfl rfl
theorem k_3_48 : Cond.code y_Mo_drop b_Mo_drop 1 (some .int) ∈ tB := mB3 48 rfl rfl
theorem k_3_49 : Cond.methodLink R_La 86 y_Mo_solids ∈ tB := mB3 49 rfl rfl
theorem k_3_50 : Cond.instanceMethod y_Mo_solids ∈ tB := mB3 50 rfl rfl
theorem k_3_51 : Cond.selects R_Mo y_Mo_solids y_Mo_solids ∈ tB := mB3 51 rfl rfl
theorem k_3_52 : Cond.code y_Mo_solids b_Mo_solids 1 (some .int) ∈ tB := mB3 52 rfl rfl
theorem k_3_53 : Cond.methodLink R_La 89 y_Mo_inside ∈ tB := mB3 53 rfl rfl
theorem k_3_54 : Cond.instanceMethod y_Mo_inside ∈ tB := mB3 54 rfl rfl
theorem k_3_55 : Cond.selects R_Mo y_Mo_inside y_Mo_inside ∈ tB := mB3 55 rfl rfl
theorem k_3_56 : Cond.code y_Mo_inside b_Mo_inside 6 (some .int) ∈ tB := mB3 56 rfl rfl
theorem k_3_57 : Cond.methodLink R_Mo 47 y_Mo_isPoint ∈ tB := mB3 57 rfl rfl
theorem k_3_58 : Cond.static y_Mo_isPoint ∈ tB := mB3 58 rfl rfl
theorem k_3_59 : Cond.code y_Mo_isPoint b_Mo_isPoint 4 (some .boolean) ∈ tB := mB3 59 rfl rfl
theorem k_3_60 : Cond.methodLink R_Mo 51 y_Mo_look ∈ tB := mB3 60 rfl rfl
theorem k_3_62 : Cond.instanceMethod y_Mo_look ∈ tB := mB3 62 rfl rfl
theorem k_3_63 : Cond.code y_Mo_look b_Mo_look 6 none ∈ tB := mB3 63 rfl rfl
theorem k_3_64 : Cond.methodLink R_Mo 55 y_Mo_isOnGiven ∈ tB := mB3 64 rfl rfl
theorem k_3_66 : Cond.instanceMethod y_Mo_isOnGiven ∈ tB := mB3 66 rfl rfl
theorem k_3_67 : Cond.code y_Mo_isOnGiven b_Mo_isOnGiven 3 (some .boolean) ∈ tB := mB3 67 rfl rfl
theorem k_3_68 : Cond.methodLink R_Mo 59 y_Mo_lies ∈ tB := mB3 68 rfl rfl
theorem k_3_69 : Cond.static y_Mo_lies ∈ tB := mB3 69 rfl rfl
theorem k_3_70 : Cond.code y_Mo_lies b_Mo_lies 3 (some .int) ∈ tB := mB3 70 rfl rfl
theorem k_3_71 : Cond.methodLink R_Mo 63 y_Mo_choice ∈ tB := mB3 71 rfl rfl
theorem k_3_73 : Cond.instanceMethod y_Mo_choice ∈ tB := mB3 73 rfl rfl
theorem k_3_74 : Cond.code y_Mo_choice b_Mo_choice 3 (some .int) ∈ tB := mB3 74 rfl rfl
theorem k_3_75 : Cond.methodLink R_Mo 67 y_Mo_topHas ∈ tB := mB3 75 rfl rfl
theorem k_3_77 : Cond.instanceMethod y_Mo_topHas ∈ tB := mB3 77 rfl rfl
theorem k_3_78 : Cond.code y_Mo_topHas b_Mo_topHas 2 (some .boolean) ∈ tB := mB3 78 rfl rfl
theorem k_3_79 : Cond.methodLink R_La 92 y_Mo_side ∈ tB := mB3 79 rfl rfl
theorem k_3_80 : Cond.instanceMethod y_Mo_side ∈ tB := mB3 80 rfl rfl
theorem k_3_81 : Cond.selects R_Mo y_Mo_side y_Mo_side ∈ tB := mB3 81 rfl rfl
theorem k_3_82 : Cond.code y_Mo_side b_Mo_side 9 (some .int) ∈ tB := mB3 82 rfl rfl
theorem k_3_83 : Cond.methodLink R_Mo 77 y_Mo_sideOf ∈ tB := mB3 83 rfl rfl
theorem k_3_85 : Cond.instanceMethod y_Mo_sideOf ∈ tB := mB3 85 rfl rfl
theorem k_3_86 : Cond.code y_Mo_sideOf b_Mo_sideOf 9 (some .int) ∈ tB := mB3 86 rfl rfl
theorem k_3_87 : Cond.methodLink R_Mo 74 y_Mo_alike ∈ tB := mB3 87 rfl rfl
theorem k_3_89 : Cond.instanceMethod y_Mo_alike ∈ tB := mB3 89 rfl rfl
theorem k_3_90 : Cond.code y_Mo_alike b_Mo_alike 9 (some .int) ∈ tB := mB3 90 rfl rfl
theorem k_3_91 : Cond.methodLink R_Mo 71 y_Mo_normal ∈ tB := mB3 91 rfl rfl
theorem k_3_93 : Cond.instanceMethod y_Mo_normal ∈ tB := mB3 93 rfl rfl
theorem k_3_94 : Cond.code y_Mo_normal b_Mo_normal 3 (some .int) ∈ tB := mB3 94 rfl rfl
theorem k_3_95 : Cond.methodLink R_Mo 81 y_Mo_choiceAt ∈ tB := mB3 95 rfl rfl
theorem k_3_97 : Cond.instanceMethod y_Mo_choiceAt ∈ tB := mB3 97 rfl rfl
theorem k_3_98 : Cond.code y_Mo_choiceAt b_Mo_choiceAt 6 (some .int) ∈ tB := mB3 98 rfl rfl
theorem k_3_99 : Cond.methodLink R_La 96 y_Mo_enters ∈ tB := mB3 99 rfl rfl
theorem k_3_100 : Cond.instanceMethod y_Mo_enters ∈ tB := mB3 100 rfl rfl
theorem k_3_101 : Cond.selects R_Mo y_Mo_enters y_Mo_enters ∈ tB := mB3 101 rfl rfl
theorem k_3_102 : Cond.code y_Mo_enters b_Mo_enters 16 (some .int) ∈ tB := mB3 102 rfl rfl
theorem k_3_103 : Cond.methodLink R_Mo 96 y_Mo_meet ∈ tB := mB3 103 rfl rfl
theorem k_3_105 : Cond.instanceMethod y_Mo_meet ∈ tB := mB3 105 rfl rfl
theorem k_3_106 : Cond.code y_Mo_meet b_Mo_meet 11 (some .boolean) ∈ tB := mB3 106 rfl rfl
theorem k_3_107 : Cond.methodLink R_Mo 100 y_Mo_isCrossed ∈ tB := mB3 107 rfl rfl
theorem k_3_109 : Cond.instanceMethod y_Mo_isCrossed ∈ tB := mB3 109 rfl rfl
theorem k_3_110 : Cond.code y_Mo_isCrossed b_Mo_isCrossed 6 (some .boolean) ∈ tB := mB3 110 rfl rfl
theorem k_3_111 : Cond.methodLink R_Mo 93 y_Mo_isInBox ∈ tB := mB3 111 rfl rfl
theorem k_3_113 : Cond.instanceMethod y_Mo_isInBox ∈ tB := mB3 113 rfl rfl
theorem k_3_114 : Cond.code y_Mo_isInBox b_Mo_isInBox 2 (some .boolean) ∈ tB := mB3 114 rfl rfl
theorem k_3_115 : Cond.constantLong R_Mo 85 (-1000) ∈ tB := mB3 115 rfl rfl
theorem k_3_116 : Cond.methodLink R_Mo 87 y_Mo_compare ∈ tB := mB3 116 rfl rfl
theorem k_3_117 : Cond.static y_Mo_compare ∈ tB := mB3 117 rfl rfl
theorem k_3_118 : Cond.code y_Mo_compare b_Mo_compare 12 (some .int) ∈ tB := mB3 118 rfl rfl
theorem k_3_119 : Cond.constantLong R_Mo 91 1000 ∈ tB := mB3 119 rfl rfl
theorem k_3_120 : Cond.methodLink R_Mo 103 y_Mo_choiceBehind ∈ tB := mB3 120 rfl rfl
theorem k_3_122 : Cond.instanceMethod y_Mo_choiceBehind ∈ tB := mB3 122 rfl rfl
theorem k_3_123 : Cond.code y_Mo_choiceBehind b_Mo_choiceBehind 10 (some .int) ∈ tB := mB3 123 rfl rfl
theorem k_s_Ps_firstOneWith : Cond.selects R_Ps y_Ps_firstOneWith y_Ps_firstOneWith ∈ tB := mBs 0 (n := 3) rfl
theorem k_s_X_requireRoom : Cond.selects R_X y_X_requireRoom y_X_requireRoom ∈ tB := mBs 2 (n := 4) rfl
theorem k_s_X_requireSolid : Cond.selects R_X y_X_requireSolid y_X_requireSolid ∈ tB := mBs 3 (n := 4) rfl
theorem k_s_X_topHas : Cond.selects R_X y_X_topHas y_X_topHas ∈ tB := mBs 4 (n := 4) rfl
theorem k_s_X_lookAtSpot : Cond.selects R_X y_X_lookAtSpot y_X_lookAtSpot ∈ tB := mBs 5 (n := 4) rfl
theorem k_s_Ps_halfSpacesAlong : Cond.selects R_Ps y_Ps_halfSpacesAlong y_Ps_halfSpacesAlong ∈ tB := mBs 6 (n := 3) rfl
theorem k_s_X_isEntry : Cond.selects R_X y_X_isEntry y_X_isEntry ∈ tB := mBs 7 (n := 4) rfl
theorem k_s_Mo_look : Cond.selects R_Mo y_Mo_look y_Mo_look ∈ tB := mBs 8 (n := 9) rfl
theorem k_s_Mo_isOnGiven : Cond.selects R_Mo y_Mo_isOnGiven y_Mo_isOnGiven ∈ tB := mBs 9 (n := 9) rfl
theorem k_s_Mo_choice : Cond.selects R_Mo y_Mo_choice y_Mo_choice ∈ tB := mBs 10 (n := 9) rfl
theorem k_s_Mo_topHas : Cond.selects R_Mo y_Mo_topHas y_Mo_topHas ∈ tB := mBs 11 (n := 9) rfl
theorem k_s_Mo_sideOf : Cond.selects R_Mo y_Mo_sideOf y_Mo_sideOf ∈ tB := mBs 12 (n := 9) rfl
theorem k_s_Mo_alike : Cond.selects R_Mo y_Mo_alike y_Mo_alike ∈ tB := mBs 13 (n := 9) rfl
theorem k_s_Mo_normal : Cond.selects R_Mo y_Mo_normal y_Mo_normal ∈ tB := mBs 14 (n := 9) rfl
theorem k_s_Mo_choiceAt : Cond.selects R_Mo y_Mo_choiceAt y_Mo_choiceAt ∈ tB := mBs 15 (n := 9) rfl
theorem k_s_Mo_meet : Cond.selects R_Mo y_Mo_meet y_Mo_meet ∈ tB := mBs 16 (n := 9) rfl
theorem k_s_Mo_isCrossed : Cond.selects R_Mo y_Mo_isCrossed y_Mo_isCrossed ∈ tB := mBs 17 (n := 9) rfl
theorem k_s_Mo_isInBox : Cond.selects R_Mo y_Mo_isInBox y_Mo_isInBox ∈ tB := mBs 18 (n := 9) rfl
theorem k_s_Mo_choiceBehind : Cond.selects R_Mo y_Mo_choiceBehind y_Mo_choiceBehind ∈ tB := mBs 19 (n := 9) rfl
theorem in_X : ∀ w ∈ u_ws R_X T_X 4, w ∈ tB := by decide +kernel
theorem in_Pl : ∀ w ∈ u_ws R_Pl T_Pl 4, w ∈ tB := by decide +kernel
theorem in_Ps : ∀ w ∈ u_ws R_Ps T_Ps 3, w ∈ tB := by decide +kernel
theorem in_Pt : ∀ w ∈ u_ws R_Pt T_Pt 4, w ∈ tB := by decide +kernel
theorem in_So : ∀ w ∈ u_ws R_So T_So 1, w ∈ tB := by decide +kernel
theorem in_Mo : ∀ w ∈ u_ws R_Mo T_Mo 9, w ∈ tB := by decide +kernel
end
section
/-! Decode rows of La. -/
theorem d_La_plane_0 : decode b_La_plane 0 = .ok (.aload 5, 2) := by decide +kernel
theorem d_La_plane_2 : decode b_La_plane 2 = .ok (.iconst 0, 1) := by decide +kernel
theorem d_La_plane_3 : decode b_La_plane 3 = .ok (.aload_n 0, 1) := by decide +kernel
theorem d_La_plane_4 : decode b_La_plane 4 = .ok (.iload_n 1, 1) := by decide +kernel
theorem d_La_plane_5 : decode b_La_plane 5 = .ok (.iload_n 2, 1) := by decide +kernel
theorem d_La_plane_6 : decode b_La_plane 6 = .ok (.iload_n 3, 1) := by decide +kernel
theorem d_La_plane_7 : decode b_La_plane 7 = .ok (.iload 4, 2) := by decide +kernel
theorem d_La_plane_9 : decode b_La_plane 9 = .ok (.invokevirtual 7, 3) := by decide +kernel
theorem d_La_plane_12 : decode b_La_plane 12 = .ok (.i2l, 1) := by decide +kernel
theorem d_La_plane_13 : decode b_La_plane 13 = .ok (.lastore, 1) := by decide +kernel
theorem d_La_plane_14 : decode b_La_plane 14 = .ok (.goto 11, 3) := by decide +kernel
theorem d_La_plane_17 : decode b_La_plane 17 = .ok (.astore 6, 2) := by decide +kernel
theorem d_La_plane_19 : decode b_La_plane 19 = .ok (.iconst 1, 1) := by decide +kernel
theorem d_La_plane_20 : decode b_La_plane 20 = .ok (.ireturn, 1) := by decide +kernel
theorem d_La_plane_21 : decode b_La_plane 21 = .ok (.astore 6, 2) := by decide +kernel
theorem d_La_plane_23 : decode b_La_plane 23 = .ok (.iconst 2, 1) := by decide +kernel
theorem d_La_plane_24 : decode b_La_plane 24 = .ok (.ireturn, 1) := by decide +kernel
theorem d_La_plane_25 : decode b_La_plane 25 = .ok (.iconst 0, 1) := by decide +kernel
theorem d_La_plane_26 : decode b_La_plane 26 = .ok (.ireturn, 1) := by decide +kernel
theorem d_La_convex_0 : decode b_La_convex 0 = .ok (.aload_n 2, 1) := by decide +kernel
theorem d_La_convex_1 : decode b_La_convex 1 = .ok (.iconst 0, 1) := by decide +kernel
theorem d_La_convex_2 : decode b_La_convex 2 = .ok (.aload_n 0, 1) := by decide +kernel
theorem d_La_convex_3 : decode b_La_convex 3 = .ok (.iload_n 1, 1) := by decide +kernel
theorem d_La_convex_4 : decode b_La_convex 4 = .ok (.invokevirtual 17, 3) := by decide +kernel
theorem d_La_convex_7 : decode b_La_convex 7 = .ok (.i2l, 1) := by decide +kernel
theorem d_La_convex_8 : decode b_La_convex 8 = .ok (.lastore, 1) := by decide +kernel
theorem d_La_convex_9 : decode b_La_convex 9 = .ok (.goto 9, 3) := by decide +kernel
theorem d_La_convex_12 : decode b_La_convex 12 = .ok (.astore_n 3, 1) := by decide +kernel
theorem d_La_convex_13 : decode b_La_convex 13 = .ok (.iconst 1, 1) := by decide +kernel
theorem d_La_convex_14 : decode b_La_convex 14 = .ok (.ireturn, 1) := by decide +kernel
theorem d_La_convex_15 : decode b_La_convex 15 = .ok (.astore_n 3, 1) := by decide +kernel
theorem d_La_convex_16 : decode b_La_convex 16 = .ok (.iconst 2, 1) := by decide +kernel
theorem d_La_convex_17 : decode b_La_convex 17 = .ok (.ireturn, 1) := by decide +kernel
theorem d_La_convex_18 : decode b_La_convex 18 = .ok (.iconst 0, 1) := by decide +kernel
theorem d_La_convex_19 : decode b_La_convex 19 = .ok (.ireturn, 1) := by decide +kernel
theorem d_La_join_0 : decode b_La_join 0 = .ok (.aload_n 2, 1) := by decide +kernel
theorem d_La_join_1 : decode b_La_join 1 = .ok (.iconst 0, 1) := by decide +kernel
theorem d_La_join_2 : decode b_La_join 2 = .ok (.aload_n 0, 1) := by decide +kernel
theorem d_La_join_3 : decode b_La_join 3 = .ok (.iload_n 1, 1) := by decide +kernel
theorem d_La_join_4 : decode b_La_join 4 = .ok (.invokevirtual 21, 3) := by decide +kernel
theorem d_La_join_7 : decode b_La_join 7 = .ok (.i2l, 1) := by decide +kernel
theorem d_La_join_8 : decode b_La_join 8 = .ok (.lastore, 1) := by decide +kernel
theorem d_La_join_9 : decode b_La_join 9 = .ok (.goto 9, 3) := by decide +kernel
theorem d_La_join_12 : decode b_La_join 12 = .ok (.astore_n 3, 1) := by decide +kernel
theorem d_La_join_13 : decode b_La_join 13 = .ok (.iconst 1, 1) := by decide +kernel
theorem d_La_join_14 : decode b_La_join 14 = .ok (.ireturn, 1) := by decide +kernel
theorem d_La_join_15 : decode b_La_join 15 = .ok (.astore_n 3, 1) := by decide +kernel
theorem d_La_join_16 : decode b_La_join 16 = .ok (.iconst 2, 1) := by decide +kernel
theorem d_La_join_17 : decode b_La_join 17 = .ok (.ireturn, 1) := by decide +kernel
theorem d_La_join_18 : decode b_La_join 18 = .ok (.iconst 0, 1) := by decide +kernel
theorem d_La_join_19 : decode b_La_join 19 = .ok (.ireturn, 1) := by decide +kernel
theorem d_La_turn_0 : decode b_La_turn 0 = .ok (.aload_n 0, 1) := by decide +kernel
theorem d_La_turn_1 : decode b_La_turn 1 = .ok (.invokevirtual 24, 3) := by decide +kernel
theorem d_La_turn_4 : decode b_La_turn 4 = .ok (.goto 6, 3) := by decide +kernel
theorem d_La_turn_7 : decode b_La_turn 7 = .ok (.astore_n 1, 1) := by decide +kernel
theorem d_La_turn_8 : decode b_La_turn 8 = .ok (.iconst 1, 1) := by decide +kernel
theorem d_La_turn_9 : decode b_La_turn 9 = .ok (.ireturn, 1) := by decide +kernel
theorem d_La_turn_10 : decode b_La_turn 10 = .ok (.iconst 0, 1) := by decide +kernel
theorem d_La_turn_11 : decode b_La_turn 11 = .ok (.ireturn, 1) := by decide +kernel
theorem d_La_copy_0 : decode b_La_copy 0 = .ok (.aload_n 2, 1) := by decide +kernel
theorem d_La_copy_1 : decode b_La_copy 1 = .ok (.iconst 0, 1) := by decide +kernel
theorem d_La_copy_2 : decode b_La_copy 2 = .ok (.aload_n 0, 1) := by decide +kernel
theorem d_La_copy_3 : decode b_La_copy 3 = .ok (.iload_n 1, 1) := by decide +kernel
theorem d_La_copy_4 : decode b_La_copy 4 = .ok (.invokevirtual 27, 3) := by decide +kernel
theorem d_La_copy_7 : decode b_La_copy 7 = .ok (.i2l, 1) := by decide +kernel
theorem d_La_copy_8 : decode b_La_copy 8 = .ok (.lastore, 1) := by decide +kernel
theorem d_La_copy_9 : decode b_La_copy 9 = .ok (.goto 9, 3) := by decide +kernel
theorem d_La_copy_12 : decode b_La_copy 12 = .ok (.astore_n 3, 1) := by decide +kernel
theorem d_La_copy_13 : decode b_La_copy 13 = .ok (.iconst 1, 1) := by decide +kernel
theorem d_La_copy_14 : decode b_La_copy 14 = .ok (.ireturn, 1) := by decide +kernel
theorem d_La_copy_15 : decode b_La_copy 15 = .ok (.astore_n 3, 1) := by decide +kernel
theorem d_La_copy_16 : decode b_La_copy 16 = .ok (.iconst 2, 1) := by decide +kernel
theorem d_La_copy_17 : decode b_La_copy 17 = .ok (.ireturn, 1) := by decide +kernel
theorem d_La_copy_18 : decode b_La_copy 18 = .ok (.iconst 0, 1) := by decide +kernel
theorem d_La_copy_19 : decode b_La_copy 19 = .ok (.ireturn, 1) := by decide +kernel
theorem d_La_drop_0 : decode b_La_drop 0 = .ok (.aload_n 1, 1) := by decide +kernel
theorem d_La_drop_1 : decode b_La_drop 1 = .ok (.iconst 0, 1) := by decide +kernel
theorem d_La_drop_2 : decode b_La_drop 2 = .ok (.aload_n 0, 1) := by decide +kernel
theorem d_La_drop_3 : decode b_La_drop 3 = .ok (.invokevirtual 32, 3) := by decide +kernel
theorem d_La_drop_6 : decode b_La_drop 6 = .ok (.i2l, 1) := by decide +kernel
theorem d_La_drop_7 : decode b_La_drop 7 = .ok (.lastore, 1) := by decide +kernel
theorem d_La_drop_8 : decode b_La_drop 8 = .ok (.goto 6, 3) := by decide +kernel
theorem d_La_drop_11 : decode b_La_drop 11 = .ok (.astore_n 2, 1) := by decide +kernel
theorem d_La_drop_12 : decode b_La_drop 12 = .ok (.iconst 1, 1) := by decide +kernel
theorem d_La_drop_13 : decode b_La_drop 13 = .ok (.ireturn, 1) := by decide +kernel
theorem d_La_drop_14 : decode b_La_drop 14 = .ok (.iconst 0, 1) := by decide +kernel
theorem d_La_drop_15 : decode b_La_drop 15 = .ok (.ireturn, 1) := by decide +kernel
theorem d_La_inside_0 : decode b_La_inside 0 = .ok (.aload 5, 2) := by decide +kernel
theorem d_La_inside_2 : decode b_La_inside 2 = .ok (.iconst 0, 1) := by decide +kernel
theorem d_La_inside_3 : decode b_La_inside 3 = .ok (.aload_n 0, 1) := by decide +kernel
theorem d_La_inside_4 : decode b_La_inside 4 = .ok (.iload_n 1, 1) := by decide +kernel
theorem d_La_inside_5 : decode b_La_inside 5 = .ok (.iload_n 2, 1) := by decide +kernel
theorem d_La_inside_6 : decode b_La_inside 6 = .ok (.iload_n 3, 1) := by decide +kernel
theorem d_La_inside_7 : decode b_La_inside 7 = .ok (.iload 4, 2) := by decide +kernel
theorem d_La_inside_9 : decode b_La_inside 9 = .ok (.invokevirtual 36, 3) := by decide +kernel
theorem d_La_inside_12 : decode b_La_inside 12 = .ok (.i2l, 1) := by decide +kernel
theorem d_La_inside_13 : decode b_La_inside 13 = .ok (.lastore, 1) := by decide +kernel
theorem d_La_inside_14 : decode b_La_inside 14 = .ok (.goto 11, 3) := by decide +kernel
theorem d_La_inside_17 : decode b_La_inside 17 = .ok (.astore 6, 2) := by decide +kernel
theorem d_La_inside_19 : decode b_La_inside 19 = .ok (.iconst 1, 1) := by decide +kernel
theorem d_La_inside_20 : decode b_La_inside 20 = .ok (.ireturn, 1) := by decide +kernel
theorem d_La_inside_21 : decode b_La_inside 21 = .ok (.astore 6, 2) := by decide +kernel
theorem d_La_inside_23 : decode b_La_inside 23 = .ok (.iconst 2, 1) := by decide +kernel
theorem d_La_inside_24 : decode b_La_inside 24 = .ok (.ireturn, 1) := by decide +kernel
theorem d_La_inside_25 : decode b_La_inside 25 = .ok (.iconst 0, 1) := by decide +kernel
theorem d_La_inside_26 : decode b_La_inside 26 = .ok (.ireturn, 1) := by decide +kernel
theorem d_La_side_0 : decode b_La_side 0 = .ok (.aload 5, 2) := by decide +kernel
theorem d_La_side_2 : decode b_La_side 2 = .ok (.iconst 0, 1) := by decide +kernel
theorem d_La_side_3 : decode b_La_side 3 = .ok (.aload_n 0, 1) := by decide +kernel
theorem d_La_side_4 : decode b_La_side 4 = .ok (.iload_n 1, 1) := by decide +kernel
theorem d_La_side_5 : decode b_La_side 5 = .ok (.iload_n 2, 1) := by decide +kernel
theorem d_La_side_6 : decode b_La_side 6 = .ok (.iload_n 3, 1) := by decide +kernel
theorem d_La_side_7 : decode b_La_side 7 = .ok (.iload 4, 2) := by decide +kernel
theorem d_La_side_9 : decode b_La_side 9 = .ok (.invokevirtual 39, 3) := by decide +kernel
theorem d_La_side_12 : decode b_La_side 12 = .ok (.i2l, 1) := by decide +kernel
theorem d_La_side_13 : decode b_La_side 13 = .ok (.lastore, 1) := by decide +kernel
theorem d_La_side_14 : decode b_La_side 14 = .ok (.goto 15, 3) := by decide +kernel
theorem d_La_side_17 : decode b_La_side 17 = .ok (.astore 6, 2) := by decide +kernel
theorem d_La_side_19 : decode b_La_side 19 = .ok (.iconst 1, 1) := by decide +kernel
theorem d_La_side_20 : decode b_La_side 20 = .ok (.ireturn, 1) := by decide +kernel
theorem d_La_side_21 : decode b_La_side 21 = .ok (.astore 6, 2) := by decide +kernel
theorem d_La_side_23 : decode b_La_side 23 = .ok (.iconst 2, 1) := by decide +kernel
theorem d_La_side_24 : decode b_La_side 24 = .ok (.ireturn, 1) := by decide +kernel
theorem d_La_side_25 : decode b_La_side 25 = .ok (.astore 6, 2) := by decide +kernel
theorem d_La_side_27 : decode b_La_side 27 = .ok (.iconst 3, 1) := by decide +kernel
theorem d_La_side_28 : decode b_La_side 28 = .ok (.ireturn, 1) := by decide +kernel
theorem d_La_side_29 : decode b_La_side 29 = .ok (.iconst 0, 1) := by decide +kernel
theorem d_La_side_30 : decode b_La_side 30 = .ok (.ireturn, 1) := by decide +kernel
theorem d_La_enters_0 : decode b_La_enters 0 = .ok (.aload 4, 2) := by decide +kernel
theorem d_La_enters_2 : decode b_La_enters 2 = .ok (.iconst 0, 1) := by decide +kernel
theorem d_La_enters_3 : decode b_La_enters 3 = .ok (.aload_n 0, 1) := by decide +kernel
theorem d_La_enters_4 : decode b_La_enters 4 = .ok (.iload_n 1, 1) := by decide +kernel
theorem d_La_enters_5 : decode b_La_enters 5 = .ok (.iload_n 2, 1) := by decide +kernel
theorem d_La_enters_6 : decode b_La_enters 6 = .ok (.iload_n 3, 1) := by decide +kernel
theorem d_La_enters_7 : decode b_La_enters 7 = .ok (.invokevirtual 44, 3) := by decide +kernel
theorem d_La_enters_10 : decode b_La_enters 10 = .ok (.i2l, 1) := by decide +kernel
theorem d_La_enters_11 : decode b_La_enters 11 = .ok (.lastore, 1) := by decide +kernel
theorem d_La_enters_12 : decode b_La_enters 12 = .ok (.goto 15, 3) := by decide +kernel
theorem d_La_enters_15 : decode b_La_enters 15 = .ok (.astore 5, 2) := by decide +kernel
theorem d_La_enters_17 : decode b_La_enters 17 = .ok (.iconst 1, 1) := by decide +kernel
theorem d_La_enters_18 : decode b_La_enters 18 = .ok (.ireturn, 1) := by decide +kernel
theorem d_La_enters_19 : decode b_La_enters 19 = .ok (.astore 5, 2) := by decide +kernel
theorem d_La_enters_21 : decode b_La_enters 21 = .ok (.iconst 2, 1) := by decide +kernel
theorem d_La_enters_22 : decode b_La_enters 22 = .ok (.ireturn, 1) := by decide +kernel
theorem d_La_enters_23 : decode b_La_enters 23 = .ok (.astore 5, 2) := by decide +kernel
theorem d_La_enters_25 : decode b_La_enters 25 = .ok (.iconst 3, 1) := by decide +kernel
theorem d_La_enters_26 : decode b_La_enters 26 = .ok (.ireturn, 1) := by decide +kernel
theorem d_La_enters_27 : decode b_La_enters 27 = .ok (.iconst 0, 1) := by decide +kernel
theorem d_La_enters_28 : decode b_La_enters 28 = .ok (.ireturn, 1) := by decide +kernel
theorem d_La_law_0 : decode b_La_law 0 = .ok (.new 8, 3) := by decide +kernel
theorem d_La_law_3 : decode b_La_law 3 = .ok (.dup, 1) := by decide +kernel
theorem d_La_law_4 : decode b_La_law 4 = .ok (.invokespecial 48, 3) := by decide +kernel
theorem d_La_law_7 : decode b_La_law 7 = .ok (.astore_n 1, 1) := by decide +kernel
theorem d_La_law_8 : decode b_La_law 8 = .ok (.new 49, 3) := by decide +kernel
theorem d_La_law_11 : decode b_La_law 11 = .ok (.dup, 1) := by decide +kernel
theorem d_La_law_12 : decode b_La_law 12 = .ok (.invokespecial 51, 3) := by decide +kernel
theorem d_La_law_15 : decode b_La_law 15 = .ok (.astore_n 2, 1) := by decide +kernel
theorem d_La_law_16 : decode b_La_law 16 = .ok (.iconst 1, 1) := by decide +kernel
theorem d_La_law_17 : decode b_La_law 17 = .ok (.newarray .long, 2) := by decide +kernel
theorem d_La_law_19 : decode b_La_law 19 = .ok (.astore_n 3, 1) := by decide +kernel
theorem d_La_law_20 : decode b_La_law 20 = .ok (.iconst 0, 1) := by decide +kernel
theorem d_La_law_21 : decode b_La_law 21 = .ok (.istore 4, 2) := by decide +kernel
theorem d_La_law_23 : decode b_La_law 23 = .ok (.iload 4, 2) := by decide +kernel
theorem d_La_law_25 : decode b_La_law 25 = .ok (.aload_n 0, 1) := by decide +kernel
theorem d_La_law_26 : decode b_La_law 26 = .ok (.arraylength, 1) := by decide +kernel
theorem d_La_law_27 : decode b_La_law 27 = .ok (.iconst 5, 1) := by decide +kernel
theorem d_La_law_28 : decode b_La_law 28 = .ok (.isub, 1) := by decide +kernel
theorem d_La_law_29 : decode b_La_law 29 = .ok (.if_icmp .gt 691, 3) := by decide +kernel
theorem d_La_law_32 : decode b_La_law 32 = .ok (.aload_n 0, 1) := by decide +kernel
theorem d_La_law_33 : decode b_La_law 33 = .ok (.iload 4, 2) := by decide +kernel
theorem d_La_law_35 : decode b_La_law 35 = .ok (.iaload, 1) := by decide +kernel
theorem d_La_law_36 : decode b_La_law 36 = .ok (.bipush 15, 2) := by decide +kernel
theorem d_La_law_38 : decode b_La_law 38 = .ok (.iand, 1) := by decide +kernel
theorem d_La_law_39 : decode b_La_law 39 = .ok (.tableswitch 675 0 10 #[57, 149, 162, 218, 274, 298, 354, 398, 411, 503, 595], 57) := by decide +kernel
theorem d_La_law_96 : decode b_La_law 96 = .ok (.aload_n 1, 1) := by decide +kernel
theorem d_La_law_97 : decode b_La_law 97 = .ok (.aload_n 0, 1) := by decide +kernel
theorem d_La_law_98 : decode b_La_law 98 = .ok (.iload 4, 2) := by decide +kernel
theorem d_La_law_100 : decode b_La_law 100 = .ok (.iconst 1, 1) := by decide +kernel
theorem d_La_law_101 : decode b_La_law 101 = .ok (.iadd, 1) := by decide +kernel
theorem d_La_law_102 : decode b_La_law 102 = .ok (.iaload, 1) := by decide +kernel
theorem d_La_law_103 : decode b_La_law 103 = .ok (.aload_n 0, 1) := by decide +kernel
theorem d_La_law_104 : decode b_La_law 104 = .ok (.iload 4, 2) := by decide +kernel
theorem d_La_law_106 : decode b_La_law 106 = .ok (.iconst 2, 1) := by decide +kernel
theorem d_La_law_107 : decode b_La_law 107 = .ok (.iadd, 1) := by decide +kernel
theorem d_La_law_108 : decode b_La_law 108 = .ok (.iaload, 1) := by decide +kernel
theorem d_La_law_109 : decode b_La_law 109 = .ok (.aload_n 0, 1) := by decide +kernel
theorem d_La_law_110 : decode b_La_law 110 = .ok (.iload 4, 2) := by decide +kernel
theorem d_La_law_112 : decode b_La_law 112 = .ok (.iconst 3, 1) := by decide +kernel
theorem d_La_law_113 : decode b_La_law 113 = .ok (.iadd, 1) := by decide +kernel
theorem d_La_law_114 : decode b_La_law 114 = .ok (.iaload, 1) := by decide +kernel
theorem d_La_law_115 : decode b_La_law 115 = .ok (.aload_n 0, 1) := by decide +kernel
theorem d_La_law_116 : decode b_La_law 116 = .ok (.iload 4, 2) := by decide +kernel
theorem d_La_law_118 : decode b_La_law 118 = .ok (.iconst 4, 1) := by decide +kernel
theorem d_La_law_119 : decode b_La_law 119 = .ok (.iadd, 1) := by decide +kernel
theorem d_La_law_120 : decode b_La_law 120 = .ok (.iaload, 1) := by decide +kernel
theorem d_La_law_121 : decode b_La_law 121 = .ok (.aload_n 3, 1) := by decide +kernel
theorem d_La_law_122 : decode b_La_law 122 = .ok (.invokestatic 52, 3) := by decide +kernel
theorem d_La_law_125 : decode b_La_law 125 = .ok (.istore 5, 2) := by decide +kernel
theorem d_La_law_127 : decode b_La_law 127 = .ok (.aload_n 2, 1) := by decide +kernel
theorem d_La_law_128 : decode b_La_law 128 = .ok (.aload_n 0, 1) := by decide +kernel
theorem d_La_law_129 : decode b_La_law 129 = .ok (.iload 4, 2) := by decide +kernel
theorem d_La_law_131 : decode b_La_law 131 = .ok (.iconst 1, 1) := by decide +kernel
theorem d_La_law_132 : decode b_La_law 132 = .ok (.iadd, 1) := by decide +kernel
theorem d_La_law_133 : decode b_La_law 133 = .ok (.iaload, 1) := by decide +kernel
theorem d_La_law_134 : decode b_La_law 134 = .ok (.aload_n 0, 1) := by decide +kernel
theorem d_La_law_135 : decode b_La_law 135 = .ok (.iload 4, 2) := by decide +kernel
theorem d_La_law_137 : decode b_La_law 137 = .ok (.iconst 2, 1) := by decide +kernel
theorem d_La_law_138 : decode b_La_law 138 = .ok (.iadd, 1) := by decide +kernel
theorem d_La_law_139 : decode b_La_law 139 = .ok (.iaload, 1) := by decide +kernel
theorem d_La_law_140 : decode b_La_law 140 = .ok (.aload_n 0, 1) := by decide +kernel
theorem d_La_law_141 : decode b_La_law 141 = .ok (.iload 4, 2) := by decide +kernel
theorem d_La_law_143 : decode b_La_law 143 = .ok (.iconst 3, 1) := by decide +kernel
theorem d_La_law_144 : decode b_La_law 144 = .ok (.iadd, 1) := by decide +kernel
theorem d_La_law_145 : decode b_La_law 145 = .ok (.iaload, 1) := by decide +kernel
theorem d_La_law_146 : decode b_La_law 146 = .ok (.aload_n 0, 1) := by decide +kernel
theorem d_La_law_147 : decode b_La_law 147 = .ok (.iload 4, 2) := by decide +kernel
theorem d_La_law_149 : decode b_La_law 149 = .ok (.iconst 4, 1) := by decide +kernel
theorem d_La_law_150 : decode b_La_law 150 = .ok (.iadd, 1) := by decide +kernel
theorem d_La_law_151 : decode b_La_law 151 = .ok (.iaload, 1) := by decide +kernel
theorem d_La_law_152 : decode b_La_law 152 = .ok (.invokevirtual 57, 3) := by decide +kernel
theorem d_La_law_155 : decode b_La_law 155 = .ok (.istore 6, 2) := by decide +kernel
theorem d_La_law_157 : decode b_La_law 157 = .ok (.aload_n 2, 1) := by decide +kernel
theorem d_La_law_158 : decode b_La_law 158 = .ok (.invokevirtual 58, 3) := by decide +kernel
theorem d_La_law_161 : decode b_La_law 161 = .ok (.iload 5, 2) := by decide +kernel
theorem d_La_law_163 : decode b_La_law 163 = .ok (.if_icmp .eq 5, 3) := by decide +kernel
theorem d_La_law_166 : decode b_La_law 166 = .ok (.iconst 0, 1) := by decide +kernel
theorem d_La_law_167 : decode b_La_law 167 = .ok (.ireturn, 1) := by decide +kernel
theorem d_La_law_168 : decode b_La_law 168 = .ok (.iload 5, 2) := by decide +kernel
theorem d_La_law_170 : decode b_La_law 170 = .ok (.ifCond .ne 15, 3) := by decide +kernel
theorem d_La_law_173 : decode b_La_law 173 = .ok (.aload_n 3, 1) := by decide +kernel
theorem d_La_law_174 : decode b_La_law 174 = .ok (.iconst 0, 1) := by decide +kernel
theorem d_La_law_175 : decode b_La_law 175 = .ok (.laload, 1) := by decide +kernel
theorem d_La_law_176 : decode b_La_law 176 = .ok (.iload 6, 2) := by decide +kernel
theorem d_La_law_178 : decode b_La_law 178 = .ok (.i2l, 1) := by decide +kernel
theorem d_La_law_179 : decode b_La_law 179 = .ok (.lcmp, 1) := by decide +kernel
theorem d_La_law_180 : decode b_La_law 180 = .ok (.ifCond .eq 5, 3) := by decide +kernel
theorem d_La_law_183 : decode b_La_law 183 = .ok (.iconst 0, 1) := by decide +kernel
theorem d_La_law_184 : decode b_La_law 184 = .ok (.ireturn, 1) := by decide +kernel
theorem d_La_law_185 : decode b_La_law 185 = .ok (.goto 529, 3) := by decide +kernel
theorem d_La_law_188 : decode b_La_law 188 = .ok (.aload_n 1, 1) := by decide +kernel
theorem d_La_law_189 : decode b_La_law 189 = .ok (.invokevirtual 61, 3) := by decide +kernel
theorem d_La_law_192 : decode b_La_law 192 = .ok (.aload_n 2, 1) := by decide +kernel
theorem d_La_law_193 : decode b_La_law 193 = .ok (.invokevirtual 64, 3) := by decide +kernel
theorem d_La_law_196 : decode b_La_law 196 = .ok (.if_icmp .eq 518, 3) := by decide +kernel
theorem d_La_law_199 : decode b_La_law 199 = .ok (.iconst 0, 1) := by decide +kernel
theorem d_La_law_200 : decode b_La_law 200 = .ok (.ireturn, 1) := by decide +kernel
theorem d_La_law_201 : decode b_La_law 201 = .ok (.aload_n 1, 1) := by decide +kernel
theorem d_La_law_202 : decode b_La_law 202 = .ok (.aload_n 0, 1) := by decide +kernel
theorem d_La_law_203 : decode b_La_law 203 = .ok (.iload 4, 2) := by decide +kernel
theorem d_La_law_205 : decode b_La_law 205 = .ok (.iconst 1, 1) := by decide +kernel
theorem d_La_law_206 : decode b_La_law 206 = .ok (.iadd, 1) := by decide +kernel
theorem d_La_law_207 : decode b_La_law 207 = .ok (.iaload, 1) := by decide +kernel
theorem d_La_law_208 : decode b_La_law 208 = .ok (.aload_n 3, 1) := by decide +kernel
theorem d_La_law_209 : decode b_La_law 209 = .ok (.invokestatic 65, 3) := by decide +kernel
theorem d_La_law_212 : decode b_La_law 212 = .ok (.istore 5, 2) := by decide +kernel
theorem d_La_law_214 : decode b_La_law 214 = .ok (.aload_n 2, 1) := by decide +kernel
theorem d_La_law_215 : decode b_La_law 215 = .ok (.aload_n 0, 1) := by decide +kernel
theorem d_La_law_216 : decode b_La_law 216 = .ok (.iload 4, 2) := by decide +kernel
theorem d_La_law_218 : decode b_La_law 218 = .ok (.iconst 1, 1) := by decide +kernel
theorem d_La_law_219 : decode b_La_law 219 = .ok (.iadd, 1) := by decide +kernel
theorem d_La_law_220 : decode b_La_law 220 = .ok (.iaload, 1) := by decide +kernel
theorem d_La_law_221 : decode b_La_law 221 = .ok (.invokevirtual 68, 3) := by decide +kernel
theorem d_La_law_224 : decode b_La_law 224 = .ok (.istore 6, 2) := by decide +kernel
theorem d_La_law_226 : decode b_La_law 226 = .ok (.aload_n 2, 1) := by decide +kernel
theorem d_La_law_227 : decode b_La_law 227 = .ok (.invokevirtual 58, 3) := by decide +kernel
theorem d_La_law_230 : decode b_La_law 230 = .ok (.iload 5, 2) := by decide +kernel
theorem d_La_law_232 : decode b_La_law 232 = .ok (.if_icmp .eq 5, 3) := by decide +kernel
theorem d_La_law_235 : decode b_La_law 235 = .ok (.iconst 0, 1) := by decide +kernel
theorem d_La_law_236 : decode b_La_law 236 = .ok (.ireturn, 1) := by decide +kernel
theorem d_La_law_237 : decode b_La_law 237 = .ok (.iload 5, 2) := by decide +kernel
theorem d_La_law_239 : decode b_La_law 239 = .ok (.ifCond .ne 15, 3) := by decide +kernel
theorem d_La_law_242 : decode b_La_law 242 = .ok (.aload_n 3, 1) := by decide +kernel
theorem d_La_law_243 : decode b_La_law 243 = .ok (.iconst 0, 1) := by decide +kernel
theorem d_La_law_244 : decode b_La_law 244 = .ok (.laload, 1) := by decide +kernel
theorem d_La_law_245 : decode b_La_law 245 = .ok (.iload 6, 2) := by decide +kernel
theorem d_La_law_247 : decode b_La_law 247 = .ok (.i2l, 1) := by decide +kernel
theorem d_La_law_248 : decode b_La_law 248 = .ok (.lcmp, 1) := by decide +kernel
theorem d_La_law_249 : decode b_La_law 249 = .ok (.ifCond .eq 5, 3) := by decide +kernel
theorem d_La_law_252 : decode b_La_law 252 = .ok (.iconst 0, 1) := by decide +kernel
theorem d_La_law_253 : decode b_La_law 253 = .ok (.ireturn, 1) := by decide +kernel
theorem d_La_law_254 : decode b_La_law 254 = .ok (.goto 460, 3) := by decide +kernel
theorem d_La_law_257 : decode b_La_law 257 = .ok (.aload_n 1, 1) := by decide +kernel
theorem d_La_law_258 : decode b_La_law 258 = .ok (.aload_n 0, 1) := by decide +kernel
theorem d_La_law_259 : decode b_La_law 259 = .ok (.iload 4, 2) := by decide +kernel
theorem d_La_law_261 : decode b_La_law 261 = .ok (.iconst 1, 1) := by decide +kernel
theorem d_La_law_262 : decode b_La_law 262 = .ok (.iadd, 1) := by decide +kernel
theorem d_La_law_263 : decode b_La_law 263 = .ok (.iaload, 1) := by decide +kernel
theorem d_La_law_264 : decode b_La_law 264 = .ok (.aload_n 3, 1) := by decide +kernel
theorem d_La_law_265 : decode b_La_law 265 = .ok (.invokestatic 69, 3) := by decide +kernel
theorem d_La_law_268 : decode b_La_law 268 = .ok (.istore 5, 2) := by decide +kernel
theorem d_La_law_270 : decode b_La_law 270 = .ok (.aload_n 2, 1) := by decide +kernel
theorem d_La_law_271 : decode b_La_law 271 = .ok (.aload_n 0, 1) := by decide +kernel
theorem d_La_law_272 : decode b_La_law 272 = .ok (.iload 4, 2) := by decide +kernel
theorem d_La_law_274 : decode b_La_law 274 = .ok (.iconst 1, 1) := by decide +kernel
theorem d_La_law_275 : decode b_La_law 275 = .ok (.iadd, 1) := by decide +kernel
theorem d_La_law_276 : decode b_La_law 276 = .ok (.iaload, 1) := by decide +kernel
theorem d_La_law_277 : decode b_La_law 277 = .ok (.invokevirtual 71, 3) := by decide +kernel
theorem d_La_law_280 : decode b_La_law 280 = .ok (.istore 6, 2) := by decide +kernel
theorem d_La_law_282 : decode b_La_law 282 = .ok (.aload_n 2, 1) := by decide +kernel
theorem d_La_law_283 : decode b_La_law 283 = .ok (.invokevirtual 58, 3) := by decide +kernel
theorem d_La_law_286 : decode b_La_law 286 = .ok (.iload 5, 2) := by decide +kernel
theorem d_La_law_288 : decode b_La_law 288 = .ok (.if_icmp .eq 5, 3) := by decide +kernel
theorem d_La_law_291 : decode b_La_law 291 = .ok (.iconst 0, 1) := by decide +kernel
theorem d_La_law_292 : decode b_La_law 292 = .ok (.ireturn, 1) := by decide +kernel
theorem d_La_law_293 : decode b_La_law 293 = .ok (.iload 5, 2) := by decide +kernel
theorem d_La_law_295 : decode b_La_law 295 = .ok (.ifCond .ne 15, 3) := by decide +kernel
theorem d_La_law_298 : decode b_La_law 298 = .ok (.aload_n 3, 1) := by decide +kernel
theorem d_La_law_299 : decode b_La_law 299 = .ok (.iconst 0, 1) := by decide +kernel
theorem d_La_law_300 : decode b_La_law 300 = .ok (.laload, 1) := by decide +kernel
theorem d_La_law_301 : decode b_La_law 301 = .ok (.iload 6, 2) := by decide +kernel
theorem d_La_law_303 : decode b_La_law 303 = .ok (.i2l, 1) := by decide +kernel
theorem d_La_law_304 : decode b_La_law 304 = .ok (.lcmp, 1) := by decide +kernel
theorem d_La_law_305 : decode b_La_law 305 = .ok (.ifCond .eq 5, 3) := by decide +kernel
theorem d_La_law_308 : decode b_La_law 308 = .ok (.iconst 0, 1) := by decide +kernel
theorem d_La_law_309 : decode b_La_law 309 = .ok (.ireturn, 1) := by decide +kernel
theorem d_La_law_310 : decode b_La_law 310 = .ok (.goto 404, 3) := by decide +kernel
theorem d_La_law_313 : decode b_La_law 313 = .ok (.aload_n 1, 1) := by decide +kernel
theorem d_La_law_314 : decode b_La_law 314 = .ok (.invokestatic 72, 3) := by decide +kernel
theorem d_La_law_317 : decode b_La_law 317 = .ok (.istore 5, 2) := by decide +kernel
theorem d_La_law_319 : decode b_La_law 319 = .ok (.aload_n 2, 1) := by decide +kernel
theorem d_La_law_320 : decode b_La_law 320 = .ok (.invokevirtual 75, 3) := by decide +kernel
theorem d_La_law_323 : decode b_La_law 323 = .ok (.aload_n 2, 1) := by decide +kernel
theorem d_La_law_324 : decode b_La_law 324 = .ok (.invokevirtual 58, 3) := by decide +kernel
theorem d_La_law_327 : decode b_La_law 327 = .ok (.iload 5, 2) := by decide +kernel
theorem d_La_law_329 : decode b_La_law 329 = .ok (.if_icmp .eq 5, 3) := by decide +kernel
theorem d_La_law_332 : decode b_La_law 332 = .ok (.iconst 0, 1) := by decide +kernel
theorem d_La_law_333 : decode b_La_law 333 = .ok (.ireturn, 1) := by decide +kernel
theorem d_La_law_334 : decode b_La_law 334 = .ok (.goto 380, 3) := by decide +kernel
theorem d_La_law_337 : decode b_La_law 337 = .ok (.aload_n 1, 1) := by decide +kernel
theorem d_La_law_338 : decode b_La_law 338 = .ok (.aload_n 0, 1) := by decide +kernel
theorem d_La_law_339 : decode b_La_law 339 = .ok (.iload 4, 2) := by decide +kernel
theorem d_La_law_341 : decode b_La_law 341 = .ok (.iconst 1, 1) := by decide +kernel
theorem d_La_law_342 : decode b_La_law 342 = .ok (.iadd, 1) := by decide +kernel
theorem d_La_law_343 : decode b_La_law 343 = .ok (.iaload, 1) := by decide +kernel
theorem d_La_law_344 : decode b_La_law 344 = .ok (.aload_n 3, 1) := by decide +kernel
theorem d_La_law_345 : decode b_La_law 345 = .ok (.invokestatic 76, 3) := by decide +kernel
theorem d_La_law_348 : decode b_La_law 348 = .ok (.istore 5, 2) := by decide +kernel
theorem d_La_law_350 : decode b_La_law 350 = .ok (.aload_n 2, 1) := by decide +kernel
theorem d_La_law_351 : decode b_La_law 351 = .ok (.aload_n 0, 1) := by decide +kernel
theorem d_La_law_352 : decode b_La_law 352 = .ok (.iload 4, 2) := by decide +kernel
theorem d_La_law_354 : decode b_La_law 354 = .ok (.iconst 1, 1) := by decide +kernel
theorem d_La_law_355 : decode b_La_law 355 = .ok (.iadd, 1) := by decide +kernel
theorem d_La_law_356 : decode b_La_law 356 = .ok (.iaload, 1) := by decide +kernel
theorem d_La_law_357 : decode b_La_law 357 = .ok (.invokevirtual 78, 3) := by decide +kernel
theorem d_La_law_360 : decode b_La_law 360 = .ok (.istore 6, 2) := by decide +kernel
theorem d_La_law_362 : decode b_La_law 362 = .ok (.aload_n 2, 1) := by decide +kernel
theorem d_La_law_363 : decode b_La_law 363 = .ok (.invokevirtual 58, 3) := by decide +kernel
theorem d_La_law_366 : decode b_La_law 366 = .ok (.iload 5, 2) := by decide +kernel
theorem d_La_law_368 : decode b_La_law 368 = .ok (.if_icmp .eq 5, 3) := by decide +kernel
theorem d_La_law_371 : decode b_La_law 371 = .ok (.iconst 0, 1) := by decide +kernel
theorem d_La_law_372 : decode b_La_law 372 = .ok (.ireturn, 1) := by decide +kernel
theorem d_La_law_373 : decode b_La_law 373 = .ok (.iload 5, 2) := by decide +kernel
theorem d_La_law_375 : decode b_La_law 375 = .ok (.ifCond .ne 15, 3) := by decide +kernel
theorem d_La_law_378 : decode b_La_law 378 = .ok (.aload_n 3, 1) := by decide +kernel
theorem d_La_law_379 : decode b_La_law 379 = .ok (.iconst 0, 1) := by decide +kernel
theorem d_La_law_380 : decode b_La_law 380 = .ok (.laload, 1) := by decide +kernel
theorem d_La_law_381 : decode b_La_law 381 = .ok (.iload 6, 2) := by decide +kernel
theorem d_La_law_383 : decode b_La_law 383 = .ok (.i2l, 1) := by decide +kernel
theorem d_La_law_384 : decode b_La_law 384 = .ok (.lcmp, 1) := by decide +kernel
theorem d_La_law_385 : decode b_La_law 385 = .ok (.ifCond .eq 5, 3) := by decide +kernel
theorem d_La_law_388 : decode b_La_law 388 = .ok (.iconst 0, 1) := by decide +kernel
theorem d_La_law_389 : decode b_La_law 389 = .ok (.ireturn, 1) := by decide +kernel
theorem d_La_law_390 : decode b_La_law 390 = .ok (.goto 324, 3) := by decide +kernel
theorem d_La_law_393 : decode b_La_law 393 = .ok (.aload_n 1, 1) := by decide +kernel
theorem d_La_law_394 : decode b_La_law 394 = .ok (.aload_n 3, 1) := by decide +kernel
theorem d_La_law_395 : decode b_La_law 395 = .ok (.invokestatic 79, 3) := by decide +kernel
theorem d_La_law_398 : decode b_La_law 398 = .ok (.istore 5, 2) := by decide +kernel
theorem d_La_law_400 : decode b_La_law 400 = .ok (.aload_n 2, 1) := by decide +kernel
theorem d_La_law_401 : decode b_La_law 401 = .ok (.invokevirtual 82, 3) := by decide +kernel
theorem d_La_law_404 : decode b_La_law 404 = .ok (.istore 6, 2) := by decide +kernel
theorem d_La_law_406 : decode b_La_law 406 = .ok (.aload_n 2, 1) := by decide +kernel
theorem d_La_law_407 : decode b_La_law 407 = .ok (.invokevirtual 58, 3) := by decide +kernel
theorem d_La_law_410 : decode b_La_law 410 = .ok (.iload 5, 2) := by decide +kernel
theorem d_La_law_412 : decode b_La_law 412 = .ok (.if_icmp .eq 5, 3) := by decide +kernel
theorem d_La_law_415 : decode b_La_law 415 = .ok (.iconst 0, 1) := by decide +kernel
theorem d_La_law_416 : decode b_La_law 416 = .ok (.ireturn, 1) := by decide +kernel
theorem d_La_law_417 : decode b_La_law 417 = .ok (.iload 5, 2) := by decide +kernel
theorem d_La_law_419 : decode b_La_law 419 = .ok (.ifCond .ne 15, 3) := by decide +kernel
theorem d_La_law_422 : decode b_La_law 422 = .ok (.aload_n 3, 1) := by decide +kernel
theorem d_La_law_423 : decode b_La_law 423 = .ok (.iconst 0, 1) := by decide +kernel
theorem d_La_law_424 : decode b_La_law 424 = .ok (.laload, 1) := by decide +kernel
theorem d_La_law_425 : decode b_La_law 425 = .ok (.iload 6, 2) := by decide +kernel
theorem d_La_law_427 : decode b_La_law 427 = .ok (.i2l, 1) := by decide +kernel
theorem d_La_law_428 : decode b_La_law 428 = .ok (.lcmp, 1) := by decide +kernel
theorem d_La_law_429 : decode b_La_law 429 = .ok (.ifCond .eq 5, 3) := by decide +kernel
theorem d_La_law_432 : decode b_La_law 432 = .ok (.iconst 0, 1) := by decide +kernel
theorem d_La_law_433 : decode b_La_law 433 = .ok (.ireturn, 1) := by decide +kernel
theorem d_La_law_434 : decode b_La_law 434 = .ok (.goto 280, 3) := by decide +kernel
theorem d_La_law_437 : decode b_La_law 437 = .ok (.aload_n 1, 1) := by decide +kernel
theorem d_La_law_438 : decode b_La_law 438 = .ok (.invokevirtual 83, 3) := by decide +kernel
theorem d_La_law_441 : decode b_La_law 441 = .ok (.aload_n 2, 1) := by decide +kernel
theorem d_La_law_442 : decode b_La_law 442 = .ok (.invokevirtual 86, 3) := by decide +kernel
theorem d_La_law_445 : decode b_La_law 445 = .ok (.if_icmp .eq 269, 3) := by decide +kernel
theorem d_La_law_448 : decode b_La_law 448 = .ok (.iconst 0, 1) := by decide +kernel
theorem d_La_law_449 : decode b_La_law 449 = .ok (.ireturn, 1) := by decide +kernel
theorem d_La_law_450 : decode b_La_law 450 = .ok (.aload_n 1, 1) := by decide +kernel
theorem d_La_law_451 : decode b_La_law 451 = .ok (.aload_n 0, 1) := by decide +kernel
theorem d_La_law_452 : decode b_La_law 452 = .ok (.iload 4, 2) := by decide +kernel
theorem d_La_law_454 : decode b_La_law 454 = .ok (.iconst 1, 1) := by decide +kernel
theorem d_La_law_455 : decode b_La_law 455 = .ok (.iadd, 1) := by decide +kernel
theorem d_La_law_456 : decode b_La_law 456 = .ok (.iaload, 1) := by decide +kernel
theorem d_La_law_457 : decode b_La_law 457 = .ok (.aload_n 0, 1) := by decide +kernel
theorem d_La_law_458 : decode b_La_law 458 = .ok (.iload 4, 2) := by decide +kernel
theorem d_La_law_460 : decode b_La_law 460 = .ok (.iconst 2, 1) := by decide +kernel
theorem d_La_law_461 : decode b_La_law 461 = .ok (.iadd, 1) := by decide +kernel
theorem d_La_law_462 : decode b_La_law 462 = .ok (.iaload, 1) := by decide +kernel
theorem d_La_law_463 : decode b_La_law 463 = .ok (.aload_n 0, 1) := by decide +kernel
theorem d_La_law_464 : decode b_La_law 464 = .ok (.iload 4, 2) := by decide +kernel
theorem d_La_law_466 : decode b_La_law 466 = .ok (.iconst 3, 1) := by decide +kernel
theorem d_La_law_467 : decode b_La_law 467 = .ok (.iadd, 1) := by decide +kernel
theorem d_La_law_468 : decode b_La_law 468 = .ok (.iaload, 1) := by decide +kernel
theorem d_La_law_469 : decode b_La_law 469 = .ok (.aload_n 0, 1) := by decide +kernel
theorem d_La_law_470 : decode b_La_law 470 = .ok (.iload 4, 2) := by decide +kernel
theorem d_La_law_472 : decode b_La_law 472 = .ok (.iconst 4, 1) := by decide +kernel
theorem d_La_law_473 : decode b_La_law 473 = .ok (.iadd, 1) := by decide +kernel
theorem d_La_law_474 : decode b_La_law 474 = .ok (.iaload, 1) := by decide +kernel
theorem d_La_law_475 : decode b_La_law 475 = .ok (.aload_n 3, 1) := by decide +kernel
theorem d_La_law_476 : decode b_La_law 476 = .ok (.invokestatic 87, 3) := by decide +kernel
theorem d_La_law_479 : decode b_La_law 479 = .ok (.istore 5, 2) := by decide +kernel
theorem d_La_law_481 : decode b_La_law 481 = .ok (.aload_n 2, 1) := by decide +kernel
theorem d_La_law_482 : decode b_La_law 482 = .ok (.aload_n 0, 1) := by decide +kernel
theorem d_La_law_483 : decode b_La_law 483 = .ok (.iload 4, 2) := by decide +kernel
theorem d_La_law_485 : decode b_La_law 485 = .ok (.iconst 1, 1) := by decide +kernel
theorem d_La_law_486 : decode b_La_law 486 = .ok (.iadd, 1) := by decide +kernel
theorem d_La_law_487 : decode b_La_law 487 = .ok (.iaload, 1) := by decide +kernel
theorem d_La_law_488 : decode b_La_law 488 = .ok (.aload_n 0, 1) := by decide +kernel
theorem d_La_law_489 : decode b_La_law 489 = .ok (.iload 4, 2) := by decide +kernel
theorem d_La_law_491 : decode b_La_law 491 = .ok (.iconst 2, 1) := by decide +kernel
theorem d_La_law_492 : decode b_La_law 492 = .ok (.iadd, 1) := by decide +kernel
theorem d_La_law_493 : decode b_La_law 493 = .ok (.iaload, 1) := by decide +kernel
theorem d_La_law_494 : decode b_La_law 494 = .ok (.aload_n 0, 1) := by decide +kernel
theorem d_La_law_495 : decode b_La_law 495 = .ok (.iload 4, 2) := by decide +kernel
theorem d_La_law_497 : decode b_La_law 497 = .ok (.iconst 3, 1) := by decide +kernel
theorem d_La_law_498 : decode b_La_law 498 = .ok (.iadd, 1) := by decide +kernel
theorem d_La_law_499 : decode b_La_law 499 = .ok (.iaload, 1) := by decide +kernel
theorem d_La_law_500 : decode b_La_law 500 = .ok (.aload_n 0, 1) := by decide +kernel
theorem d_La_law_501 : decode b_La_law 501 = .ok (.iload 4, 2) := by decide +kernel
theorem d_La_law_503 : decode b_La_law 503 = .ok (.iconst 4, 1) := by decide +kernel
theorem d_La_law_504 : decode b_La_law 504 = .ok (.iadd, 1) := by decide +kernel
theorem d_La_law_505 : decode b_La_law 505 = .ok (.iaload, 1) := by decide +kernel
theorem d_La_law_506 : decode b_La_law 506 = .ok (.invokevirtual 89, 3) := by decide +kernel
theorem d_La_law_509 : decode b_La_law 509 = .ok (.istore 6, 2) := by decide +kernel
theorem d_La_law_511 : decode b_La_law 511 = .ok (.aload_n 2, 1) := by decide +kernel
theorem d_La_law_512 : decode b_La_law 512 = .ok (.invokevirtual 58, 3) := by decide +kernel
theorem d_La_law_515 : decode b_La_law 515 = .ok (.iload 5, 2) := by decide +kernel
theorem d_La_law_517 : decode b_La_law 517 = .ok (.if_icmp .eq 5, 3) := by decide +kernel
theorem d_La_law_520 : decode b_La_law 520 = .ok (.iconst 0, 1) := by decide +kernel
theorem d_La_law_521 : decode b_La_law 521 = .ok (.ireturn, 1) := by decide +kernel
theorem d_La_law_522 : decode b_La_law 522 = .ok (.iload 5, 2) := by decide +kernel
theorem d_La_law_524 : decode b_La_law 524 = .ok (.ifCond .ne 15, 3) := by decide +kernel
theorem d_La_law_527 : decode b_La_law 527 = .ok (.aload_n 3, 1) := by decide +kernel
theorem d_La_law_528 : decode b_La_law 528 = .ok (.iconst 0, 1) := by decide +kernel
theorem d_La_law_529 : decode b_La_law 529 = .ok (.laload, 1) := by decide +kernel
theorem d_La_law_530 : decode b_La_law 530 = .ok (.iload 6, 2) := by decide +kernel
theorem d_La_law_532 : decode b_La_law 532 = .ok (.i2l, 1) := by decide +kernel
theorem d_La_law_533 : decode b_La_law 533 = .ok (.lcmp, 1) := by decide +kernel
theorem d_La_law_534 : decode b_La_law 534 = .ok (.ifCond .eq 5, 3) := by decide +kernel
theorem d_La_law_537 : decode b_La_law 537 = .ok (.iconst 0, 1) := by decide +kernel
theorem d_La_law_538 : decode b_La_law 538 = .ok (.ireturn, 1) := by decide +kernel
theorem d_La_law_539 : decode b_La_law 539 = .ok (.goto 175, 3) := by decide +kernel
theorem d_La_law_542 : decode b_La_law 542 = .ok (.aload_n 1, 1) := by decide +kernel
theorem d_La_law_543 : decode b_La_law 543 = .ok (.aload_n 0, 1) := by decide +kernel
theorem d_La_law_544 : decode b_La_law 544 = .ok (.iload 4, 2) := by decide +kernel
theorem d_La_law_546 : decode b_La_law 546 = .ok (.iconst 1, 1) := by decide +kernel
theorem d_La_law_547 : decode b_La_law 547 = .ok (.iadd, 1) := by decide +kernel
theorem d_La_law_548 : decode b_La_law 548 = .ok (.iaload, 1) := by decide +kernel
theorem d_La_law_549 : decode b_La_law 549 = .ok (.aload_n 0, 1) := by decide +kernel
theorem d_La_law_550 : decode b_La_law 550 = .ok (.iload 4, 2) := by decide +kernel
theorem d_La_law_552 : decode b_La_law 552 = .ok (.iconst 2, 1) := by decide +kernel
theorem d_La_law_553 : decode b_La_law 553 = .ok (.iadd, 1) := by decide +kernel
theorem d_La_law_554 : decode b_La_law 554 = .ok (.iaload, 1) := by decide +kernel
theorem d_La_law_555 : decode b_La_law 555 = .ok (.aload_n 0, 1) := by decide +kernel
theorem d_La_law_556 : decode b_La_law 556 = .ok (.iload 4, 2) := by decide +kernel
theorem d_La_law_558 : decode b_La_law 558 = .ok (.iconst 3, 1) := by decide +kernel
theorem d_La_law_559 : decode b_La_law 559 = .ok (.iadd, 1) := by decide +kernel
theorem d_La_law_560 : decode b_La_law 560 = .ok (.iaload, 1) := by decide +kernel
theorem d_La_law_561 : decode b_La_law 561 = .ok (.aload_n 0, 1) := by decide +kernel
theorem d_La_law_562 : decode b_La_law 562 = .ok (.iload 4, 2) := by decide +kernel
theorem d_La_law_564 : decode b_La_law 564 = .ok (.iconst 4, 1) := by decide +kernel
theorem d_La_law_565 : decode b_La_law 565 = .ok (.iadd, 1) := by decide +kernel
theorem d_La_law_566 : decode b_La_law 566 = .ok (.iaload, 1) := by decide +kernel
theorem d_La_law_567 : decode b_La_law 567 = .ok (.aload_n 3, 1) := by decide +kernel
theorem d_La_law_568 : decode b_La_law 568 = .ok (.invokestatic 90, 3) := by decide +kernel
theorem d_La_law_571 : decode b_La_law 571 = .ok (.istore 5, 2) := by decide +kernel
theorem d_La_law_573 : decode b_La_law 573 = .ok (.aload_n 2, 1) := by decide +kernel
theorem d_La_law_574 : decode b_La_law 574 = .ok (.aload_n 0, 1) := by decide +kernel
theorem d_La_law_575 : decode b_La_law 575 = .ok (.iload 4, 2) := by decide +kernel
theorem d_La_law_577 : decode b_La_law 577 = .ok (.iconst 1, 1) := by decide +kernel
theorem d_La_law_578 : decode b_La_law 578 = .ok (.iadd, 1) := by decide +kernel
theorem d_La_law_579 : decode b_La_law 579 = .ok (.iaload, 1) := by decide +kernel
theorem d_La_law_580 : decode b_La_law 580 = .ok (.aload_n 0, 1) := by decide +kernel
theorem d_La_law_581 : decode b_La_law 581 = .ok (.iload 4, 2) := by decide +kernel
theorem d_La_law_583 : decode b_La_law 583 = .ok (.iconst 2, 1) := by decide +kernel
theorem d_La_law_584 : decode b_La_law 584 = .ok (.iadd, 1) := by decide +kernel
theorem d_La_law_585 : decode b_La_law 585 = .ok (.iaload, 1) := by decide +kernel
theorem d_La_law_586 : decode b_La_law 586 = .ok (.aload_n 0, 1) := by decide +kernel
theorem d_La_law_587 : decode b_La_law 587 = .ok (.iload 4, 2) := by decide +kernel
theorem d_La_law_589 : decode b_La_law 589 = .ok (.iconst 3, 1) := by decide +kernel
theorem d_La_law_590 : decode b_La_law 590 = .ok (.iadd, 1) := by decide +kernel
theorem d_La_law_591 : decode b_La_law 591 = .ok (.iaload, 1) := by decide +kernel
theorem d_La_law_592 : decode b_La_law 592 = .ok (.aload_n 0, 1) := by decide +kernel
theorem d_La_law_593 : decode b_La_law 593 = .ok (.iload 4, 2) := by decide +kernel
theorem d_La_law_595 : decode b_La_law 595 = .ok (.iconst 4, 1) := by decide +kernel
theorem d_La_law_596 : decode b_La_law 596 = .ok (.iadd, 1) := by decide +kernel
theorem d_La_law_597 : decode b_La_law 597 = .ok (.iaload, 1) := by decide +kernel
theorem d_La_law_598 : decode b_La_law 598 = .ok (.invokevirtual 92, 3) := by decide +kernel
theorem d_La_law_601 : decode b_La_law 601 = .ok (.istore 6, 2) := by decide +kernel
theorem d_La_law_603 : decode b_La_law 603 = .ok (.aload_n 2, 1) := by decide +kernel
theorem d_La_law_604 : decode b_La_law 604 = .ok (.invokevirtual 58, 3) := by decide +kernel
theorem d_La_law_607 : decode b_La_law 607 = .ok (.iload 5, 2) := by decide +kernel
theorem d_La_law_609 : decode b_La_law 609 = .ok (.if_icmp .eq 5, 3) := by decide +kernel
theorem d_La_law_612 : decode b_La_law 612 = .ok (.iconst 0, 1) := by decide +kernel
theorem d_La_law_613 : decode b_La_law 613 = .ok (.ireturn, 1) := by decide +kernel
theorem d_La_law_614 : decode b_La_law 614 = .ok (.iload 5, 2) := by decide +kernel
theorem d_La_law_616 : decode b_La_law 616 = .ok (.ifCond .ne 15, 3) := by decide +kernel
theorem d_La_law_619 : decode b_La_law 619 = .ok (.aload_n 3, 1) := by decide +kernel
theorem d_La_law_620 : decode b_La_law 620 = .ok (.iconst 0, 1) := by decide +kernel
theorem d_La_law_621 : decode b_La_law 621 = .ok (.laload, 1) := by decide +kernel
theorem d_La_law_622 : decode b_La_law 622 = .ok (.iload 6, 2) := by decide +kernel
theorem d_La_law_624 : decode b_La_law 624 = .ok (.i2l, 1) := by decide +kernel
theorem d_La_law_625 : decode b_La_law 625 = .ok (.lcmp, 1) := by decide +kernel
theorem d_La_law_626 : decode b_La_law 626 = .ok (.ifCond .eq 5, 3) := by decide +kernel
theorem d_La_law_629 : decode b_La_law 629 = .ok (.iconst 0, 1) := by decide +kernel
theorem d_La_law_630 : decode b_La_law 630 = .ok (.ireturn, 1) := by decide +kernel
theorem d_La_law_631 : decode b_La_law 631 = .ok (.goto 83, 3) := by decide +kernel
theorem d_La_law_634 : decode b_La_law 634 = .ok (.aload_n 1, 1) := by decide +kernel
theorem d_La_law_635 : decode b_La_law 635 = .ok (.aload_n 0, 1) := by decide +kernel
theorem d_La_law_636 : decode b_La_law 636 = .ok (.iload 4, 2) := by decide +kernel
theorem d_La_law_638 : decode b_La_law 638 = .ok (.iconst 1, 1) := by decide +kernel
theorem d_La_law_639 : decode b_La_law 639 = .ok (.iadd, 1) := by decide +kernel
theorem d_La_law_640 : decode b_La_law 640 = .ok (.iaload, 1) := by decide +kernel
theorem d_La_law_641 : decode b_La_law 641 = .ok (.aload_n 0, 1) := by decide +kernel
theorem d_La_law_642 : decode b_La_law 642 = .ok (.iload 4, 2) := by decide +kernel
theorem d_La_law_644 : decode b_La_law 644 = .ok (.iconst 2, 1) := by decide +kernel
theorem d_La_law_645 : decode b_La_law 645 = .ok (.iadd, 1) := by decide +kernel
theorem d_La_law_646 : decode b_La_law 646 = .ok (.iaload, 1) := by decide +kernel
theorem d_La_law_647 : decode b_La_law 647 = .ok (.aload_n 0, 1) := by decide +kernel
theorem d_La_law_648 : decode b_La_law 648 = .ok (.iload 4, 2) := by decide +kernel
theorem d_La_law_650 : decode b_La_law 650 = .ok (.iconst 3, 1) := by decide +kernel
theorem d_La_law_651 : decode b_La_law 651 = .ok (.iadd, 1) := by decide +kernel
theorem d_La_law_652 : decode b_La_law 652 = .ok (.iaload, 1) := by decide +kernel
theorem d_La_law_653 : decode b_La_law 653 = .ok (.aload_n 3, 1) := by decide +kernel
theorem d_La_law_654 : decode b_La_law 654 = .ok (.invokestatic 93, 3) := by decide +kernel
theorem d_La_law_657 : decode b_La_law 657 = .ok (.istore 5, 2) := by decide +kernel
theorem d_La_law_659 : decode b_La_law 659 = .ok (.aload_n 2, 1) := by decide +kernel
theorem d_La_law_660 : decode b_La_law 660 = .ok (.aload_n 0, 1) := by decide +kernel
theorem d_La_law_661 : decode b_La_law 661 = .ok (.iload 4, 2) := by decide +kernel
theorem d_La_law_663 : decode b_La_law 663 = .ok (.iconst 1, 1) := by decide +kernel
theorem d_La_law_664 : decode b_La_law 664 = .ok (.iadd, 1) := by decide +kernel
theorem d_La_law_665 : decode b_La_law 665 = .ok (.iaload, 1) := by decide +kernel
theorem d_La_law_666 : decode b_La_law 666 = .ok (.aload_n 0, 1) := by decide +kernel
theorem d_La_law_667 : decode b_La_law 667 = .ok (.iload 4, 2) := by decide +kernel
theorem d_La_law_669 : decode b_La_law 669 = .ok (.iconst 2, 1) := by decide +kernel
theorem d_La_law_670 : decode b_La_law 670 = .ok (.iadd, 1) := by decide +kernel
theorem d_La_law_671 : decode b_La_law 671 = .ok (.iaload, 1) := by decide +kernel
theorem d_La_law_672 : decode b_La_law 672 = .ok (.aload_n 0, 1) := by decide +kernel
theorem d_La_law_673 : decode b_La_law 673 = .ok (.iload 4, 2) := by decide +kernel
theorem d_La_law_675 : decode b_La_law 675 = .ok (.iconst 3, 1) := by decide +kernel
theorem d_La_law_676 : decode b_La_law 676 = .ok (.iadd, 1) := by decide +kernel
theorem d_La_law_677 : decode b_La_law 677 = .ok (.iaload, 1) := by decide +kernel
theorem d_La_law_678 : decode b_La_law 678 = .ok (.invokevirtual 96, 3) := by decide +kernel
theorem d_La_law_681 : decode b_La_law 681 = .ok (.istore 6, 2) := by decide +kernel
theorem d_La_law_683 : decode b_La_law 683 = .ok (.aload_n 2, 1) := by decide +kernel
theorem d_La_law_684 : decode b_La_law 684 = .ok (.invokevirtual 58, 3) := by decide +kernel
theorem d_La_law_687 : decode b_La_law 687 = .ok (.iload 5, 2) := by decide +kernel
theorem d_La_law_689 : decode b_La_law 689 = .ok (.if_icmp .eq 5, 3) := by decide +kernel
theorem d_La_law_692 : decode b_La_law 692 = .ok (.iconst 0, 1) := by decide +kernel
theorem d_La_law_693 : decode b_La_law 693 = .ok (.ireturn, 1) := by decide +kernel
theorem d_La_law_694 : decode b_La_law 694 = .ok (.iload 5, 2) := by decide +kernel
theorem d_La_law_696 : decode b_La_law 696 = .ok (.ifCond .ne 15, 3) := by decide +kernel
theorem d_La_law_699 : decode b_La_law 699 = .ok (.aload_n 3, 1) := by decide +kernel
theorem d_La_law_700 : decode b_La_law 700 = .ok (.iconst 0, 1) := by decide +kernel
theorem d_La_law_701 : decode b_La_law 701 = .ok (.laload, 1) := by decide +kernel
theorem d_La_law_702 : decode b_La_law 702 = .ok (.iload 6, 2) := by decide +kernel
theorem d_La_law_704 : decode b_La_law 704 = .ok (.i2l, 1) := by decide +kernel
theorem d_La_law_705 : decode b_La_law 705 = .ok (.lcmp, 1) := by decide +kernel
theorem d_La_law_706 : decode b_La_law 706 = .ok (.ifCond .eq 5, 3) := by decide +kernel
theorem d_La_law_709 : decode b_La_law 709 = .ok (.iconst 0, 1) := by decide +kernel
theorem d_La_law_710 : decode b_La_law 710 = .ok (.ireturn, 1) := by decide +kernel
theorem d_La_law_711 : decode b_La_law 711 = .ok (.goto 3, 3) := by decide +kernel
theorem d_La_law_714 : decode b_La_law 714 = .ok (.iinc 4 5, 3) := by decide +kernel
theorem d_La_law_717 : decode b_La_law 717 = .ok (.goto (-694), 3) := by decide +kernel
theorem d_La_law_720 : decode b_La_law 720 = .ok (.iconst 1, 1) := by decide +kernel
theorem d_La_law_721 : decode b_La_law 721 = .ok (.ireturn, 1) := by decide +kernel
end
section
/-! Decode rows of Mo. -/
theorem d_Mo_init_0 : decode b_Mo_init 0 = .ok (.aload_n 0, 1) := by decide +kernel
theorem d_Mo_init_1 : decode b_Mo_init 1 = .ok (.invokespecial 1, 3) := by decide +kernel
theorem d_Mo_init_4 : decode b_Mo_init 4 = .ok (.aload_n 0, 1) := by decide +kernel
theorem d_Mo_init_5 : decode b_Mo_init 5 = .ok (.bipush 24, 2) := by decide +kernel
theorem d_Mo_init_7 : decode b_Mo_init 7 = .ok (.newarray .int, 2) := by decide +kernel
theorem d_Mo_init_9 : decode b_Mo_init 9 = .ok (.putfield 7, 3) := by decide +kernel
theorem d_Mo_init_12 : decode b_Mo_init 12 = .ok (.aload_n 0, 1) := by decide +kernel
theorem d_Mo_init_13 : decode b_Mo_init 13 = .ok (.bipush 8, 2) := by decide +kernel
theorem d_Mo_init_15 : decode b_Mo_init 15 = .ok (.newarray .int, 2) := by decide +kernel
theorem d_Mo_init_17 : decode b_Mo_init 17 = .ok (.putfield 13, 3) := by decide +kernel
theorem d_Mo_init_20 : decode b_Mo_init 20 = .ok (.aload_n 0, 1) := by decide +kernel
theorem d_Mo_init_21 : decode b_Mo_init 21 = .ok (.bipush 24, 2) := by decide +kernel
theorem d_Mo_init_23 : decode b_Mo_init 23 = .ok (.newarray .long, 2) := by decide +kernel
theorem d_Mo_init_25 : decode b_Mo_init 25 = .ok (.putfield 16, 3) := by decide +kernel
theorem d_Mo_init_28 : decode b_Mo_init 28 = .ok (.aload_n 0, 1) := by decide +kernel
theorem d_Mo_init_29 : decode b_Mo_init 29 = .ok (.bipush 8, 2) := by decide +kernel
theorem d_Mo_init_31 : decode b_Mo_init 31 = .ok (.newarray .long, 2) := by decide +kernel
theorem d_Mo_init_33 : decode b_Mo_init 33 = .ok (.putfield 20, 3) := by decide +kernel
theorem d_Mo_init_36 : decode b_Mo_init 36 = .ok (.aload_n 0, 1) := by decide +kernel
theorem d_Mo_init_37 : decode b_Mo_init 37 = .ok (.bipush 8, 2) := by decide +kernel
theorem d_Mo_init_39 : decode b_Mo_init 39 = .ok (.newarray .long, 2) := by decide +kernel
theorem d_Mo_init_41 : decode b_Mo_init 41 = .ok (.putfield 23, 3) := by decide +kernel
theorem d_Mo_init_44 : decode b_Mo_init 44 = .ok (.aload_n 0, 1) := by decide +kernel
theorem d_Mo_init_45 : decode b_Mo_init 45 = .ok (.bipush 8, 2) := by decide +kernel
theorem d_Mo_init_47 : decode b_Mo_init 47 = .ok (.newarray .long, 2) := by decide +kernel
theorem d_Mo_init_49 : decode b_Mo_init 49 = .ok (.putfield 26, 3) := by decide +kernel
theorem d_Mo_init_52 : decode b_Mo_init 52 = .ok (.return_, 1) := by decide +kernel
theorem d_Mo_thrown_0 : decode b_Mo_thrown 0 = .ok (.aload_n 0, 1) := by decide +kernel
theorem d_Mo_thrown_1 : decode b_Mo_thrown 1 = .ok (.getfield 29, 3) := by decide +kernel
theorem d_Mo_thrown_4 : decode b_Mo_thrown 4 = .ok (.ireturn, 1) := by decide +kernel
theorem d_Mo_within_0 : decode b_Mo_within 0 = .ok (.iload_n 0, 1) := by decide +kernel
theorem d_Mo_within_1 : decode b_Mo_within 1 = .ok (.iload_n 1, 1) := by decide +kernel
theorem d_Mo_within_2 : decode b_Mo_within 2 = .ok (.ineg, 1) := by decide +kernel
theorem d_Mo_within_3 : decode b_Mo_within 3 = .ok (.if_icmp .lt 12, 3) := by decide +kernel
theorem d_Mo_within_6 : decode b_Mo_within 6 = .ok (.iload_n 0, 1) := by decide +kernel
theorem d_Mo_within_7 : decode b_Mo_within 7 = .ok (.iload_n 1, 1) := by decide +kernel
theorem d_Mo_within_8 : decode b_Mo_within 8 = .ok (.if_icmp .gt 7, 3) := by decide +kernel
theorem d_Mo_within_11 : decode b_Mo_within 11 = .ok (.iconst 1, 1) := by decide +kernel
theorem d_Mo_within_12 : decode b_Mo_within 12 = .ok (.goto 4, 3) := by decide +kernel
theorem d_Mo_within_15 : decode b_Mo_within 15 = .ok (.iconst 0, 1) := by decide +kernel
theorem d_Mo_within_16 : decode b_Mo_within 16 = .ok (.ireturn, 1) := by decide +kernel
theorem d_Mo_plane_0 : decode b_Mo_plane 0 = .ok (.iload_n 1, 1) := by decide +kernel
theorem d_Mo_plane_1 : decode b_Mo_plane 1 = .ok (.ldc 33, 2) := by decide +kernel
theorem d_Mo_plane_3 : decode b_Mo_plane 3 = .ok (.invokestatic 34, 3) := by decide +kernel
theorem d_Mo_plane_6 : decode b_Mo_plane 6 = .ok (.ifCond .eq 47, 3) := by decide +kernel
theorem d_Mo_plane_9 : decode b_Mo_plane 9 = .ok (.iload_n 2, 1) := by decide +kernel
theorem d_Mo_plane_10 : decode b_Mo_plane 10 = .ok (.ldc 33, 2) := by decide +kernel
theorem d_Mo_plane_12 : decode b_Mo_plane 12 = .ok (.invokestatic 34, 3) := by decide +kernel
theorem d_Mo_plane_15 : decode b_Mo_plane 15 = .ok (.ifCond .eq 38, 3) := by decide +kernel
theorem d_Mo_plane_18 : decode b_Mo_plane 18 = .ok (.iload_n 3, 1) := by decide +kernel
theorem d_Mo_plane_19 : decode b_Mo_plane 19 = .ok (.ldc 33, 2) := by decide +kernel
theorem d_Mo_plane_21 : decode b_Mo_plane 21 = .ok (.invokestatic 34, 3) := by decide +kernel
theorem d_Mo_plane_24 : decode b_Mo_plane 24 = .ok (.ifCond .eq 29, 3) := by decide +kernel
theorem d_Mo_plane_27 : decode b_Mo_plane 27 = .ok (.iload 4, 2) := by decide +kernel
theorem d_Mo_plane_29 : decode b_Mo_plane 29 = .ok (.ldc 38, 2) := by decide +kernel
theorem d_Mo_plane_31 : decode b_Mo_plane 31 = .ok (.invokestatic 34, 3) := by decide +kernel
theorem d_Mo_plane_34 : decode b_Mo_plane 34 = .ok (.ifCond .eq 19, 3) := by decide +kernel
theorem d_Mo_plane_37 : decode b_Mo_plane 37 = .ok (.iload_n 1, 1) := by decide +kernel
theorem d_Mo_plane_38 : decode b_Mo_plane 38 = .ok (.ifCond .ne 11, 3) := by decide +kernel
theorem d_Mo_plane_41 : decode b_Mo_plane 41 = .ok (.iload_n 2, 1) := by decide +kernel
theorem d_Mo_plane_42 : decode b_Mo_plane 42 = .ok (.ifCond .ne 7, 3) := by decide +kernel
theorem d_Mo_plane_45 : decode b_Mo_plane 45 = .ok (.iload_n 3, 1) := by decide +kernel
theorem d_Mo_plane_46 : decode b_Mo_plane 46 = .ok (.ifCond .eq 7, 3) := by decide +kernel
theorem d_Mo_plane_49 : decode b_Mo_plane 49 = .ok (.iconst 1, 1) := by decide +kernel
theorem d_Mo_plane_50 : decode b_Mo_plane 50 = .ok (.goto 4, 3) := by decide +kernel
theorem d_Mo_plane_53 : decode b_Mo_plane 53 = .ok (.iconst 0, 1) := by decide +kernel
theorem d_Mo_plane_54 : decode b_Mo_plane 54 = .ok (.istore 5, 2) := by decide +kernel
theorem d_Mo_plane_56 : decode b_Mo_plane 56 = .ok (.aload_n 0, 1) := by decide +kernel
theorem d_Mo_plane_57 : decode b_Mo_plane 57 = .ok (.iload 5, 2) := by decide +kernel
theorem d_Mo_plane_59 : decode b_Mo_plane 59 = .ok (.ifCond .ne 7, 3) := by decide +kernel
theorem d_Mo_plane_62 : decode b_Mo_plane 62 = .ok (.iconst 1, 1) := by decide +kernel
theorem d_Mo_plane_63 : decode b_Mo_plane 63 = .ok (.goto 17, 3) := by decide +kernel
theorem d_Mo_plane_66 : decode b_Mo_plane 66 = .ok (.aload_n 0, 1) := by decide +kernel
theorem d_Mo_plane_67 : decode b_Mo_plane 67 = .ok (.getfield 39, 3) := by decide +kernel
theorem d_Mo_plane_70 : decode b_Mo_plane 70 = .ok (.bipush 8, 2) := by decide +kernel
theorem d_Mo_plane_72 : decode b_Mo_plane 72 = .ok (.if_icmp .ne 7, 3) := by decide +kernel
theorem d_Mo_plane_75 : decode b_Mo_plane 75 = .ok (.iconst 2, 1) := by decide +kernel
theorem d_Mo_plane_76 : decode b_Mo_plane 76 = .ok (.goto 4, 3) := by decide +kernel
theorem d_Mo_plane_79 : decode b_Mo_plane 79 = .ok (.iconst 0, 1) := by decide +kernel
theorem d_Mo_plane_80 : decode b_Mo_plane 80 = .ok (.putfield 29, 3) := by decide +kernel
theorem d_Mo_plane_83 : decode b_Mo_plane 83 = .ok (.aload_n 0, 1) := by decide +kernel
theorem d_Mo_plane_84 : decode b_Mo_plane 84 = .ok (.getfield 29, 3) := by decide +kernel
theorem d_Mo_plane_87 : decode b_Mo_plane 87 = .ok (.ifCond .le 5, 3) := by decide +kernel
theorem d_Mo_plane_90 : decode b_Mo_plane 90 = .ok (.iconst 0, 1) := by decide +kernel
theorem d_Mo_plane_91 : decode b_Mo_plane 91 = .ok (.ireturn, 1) := by decide +kernel
theorem d_Mo_plane_92 : decode b_Mo_plane 92 = .ok (.aload_n 0, 1) := by decide +kernel
theorem d_Mo_plane_93 : decode b_Mo_plane 93 = .ok (.getfield 7, 3) := by decide +kernel
theorem d_Mo_plane_96 : decode b_Mo_plane 96 = .ok (.iconst 3, 1) := by decide +kernel
theorem d_Mo_plane_97 : decode b_Mo_plane 97 = .ok (.aload_n 0, 1) := by decide +kernel
theorem d_Mo_plane_98 : decode b_Mo_plane 98 = .ok (.getfield 39, 3) := by decide +kernel
theorem d_Mo_plane_101 : decode b_Mo_plane 101 = .ok (.imul, 1) := by decide +kernel
theorem d_Mo_plane_102 : decode b_Mo_plane 102 = .ok (.iload_n 1, 1) := by decide +kernel
theorem d_Mo_plane_103 : decode b_Mo_plane 103 = .ok (.iastore, 1) := by decide +kernel
theorem d_Mo_plane_104 : decode b_Mo_plane 104 = .ok (.aload_n 0, 1) := by decide +kernel
theorem d_Mo_plane_105 : decode b_Mo_plane 105 = .ok (.getfield 7, 3) := by decide +kernel
theorem d_Mo_plane_108 : decode b_Mo_plane 108 = .ok (.iconst 3, 1) := by decide +kernel
theorem d_Mo_plane_109 : decode b_Mo_plane 109 = .ok (.aload_n 0, 1) := by decide +kernel
theorem d_Mo_plane_110 : decode b_Mo_plane 110 = .ok (.getfield 39, 3) := by decide +kernel
theorem d_Mo_plane_113 : decode b_Mo_plane 113 = .ok (.imul, 1) := by decide +kernel
theorem d_Mo_plane_114 : decode b_Mo_plane 114 = .ok (.iconst 1, 1) := by decide +kernel
theorem d_Mo_plane_115 : decode b_Mo_plane 115 = .ok (.iadd, 1) := by decide +kernel
theorem d_Mo_plane_116 : decode b_Mo_plane 116 = .ok (.iload_n 2, 1) := by decide +kernel
theorem d_Mo_plane_117 : decode b_Mo_plane 117 = .ok (.iastore, 1) := by decide +kernel
theorem d_Mo_plane_118 : decode b_Mo_plane 118 = .ok (.aload_n 0, 1) := by decide +kernel
theorem d_Mo_plane_119 : decode b_Mo_plane 119 = .ok (.getfield 7, 3) := by decide +kernel
theorem d_Mo_plane_122 : decode b_Mo_plane 122 = .ok (.iconst 3, 1) := by decide +kernel
theorem d_Mo_plane_123 : decode b_Mo_plane 123 = .ok (.aload_n 0, 1) := by decide +kernel
theorem d_Mo_plane_124 : decode b_Mo_plane 124 = .ok (.getfield 39, 3) := by decide +kernel
theorem d_Mo_plane_127 : decode b_Mo_plane 127 = .ok (.imul, 1) := by decide +kernel
theorem d_Mo_plane_128 : decode b_Mo_plane 128 = .ok (.iconst 2, 1) := by decide +kernel
theorem d_Mo_plane_129 : decode b_Mo_plane 129 = .ok (.iadd, 1) := by decide +kernel
theorem d_Mo_plane_130 : decode b_Mo_plane 130 = .ok (.iload_n 3, 1) := by decide +kernel
theorem d_Mo_plane_131 : decode b_Mo_plane 131 = .ok (.iastore, 1) := by decide +kernel
theorem d_Mo_plane_132 : decode b_Mo_plane 132 = .ok (.aload_n 0, 1) := by decide +kernel
theorem d_Mo_plane_133 : decode b_Mo_plane 133 = .ok (.getfield 13, 3) := by decide +kernel
theorem d_Mo_plane_136 : decode b_Mo_plane 136 = .ok (.aload_n 0, 1) := by decide +kernel
theorem d_Mo_plane_137 : decode b_Mo_plane 137 = .ok (.getfield 39, 3) := by decide +kernel
theorem d_Mo_plane_140 : decode b_Mo_plane 140 = .ok (.iload 4, 2) := by decide +kernel
theorem d_Mo_plane_142 : decode b_Mo_plane 142 = .ok (.iastore, 1) := by decide +kernel
theorem d_Mo_plane_143 : decode b_Mo_plane 143 = .ok (.aload_n 0, 1) := by decide +kernel
theorem d_Mo_plane_144 : decode b_Mo_plane 144 = .ok (.dup, 1) := by decide +kernel
theorem d_Mo_plane_145 : decode b_Mo_plane 145 = .ok (.getfield 39, 3) := by decide +kernel
theorem d_Mo_plane_148 : decode b_Mo_plane 148 = .ok (.iconst 1, 1) := by decide +kernel
theorem d_Mo_plane_149 : decode b_Mo_plane 149 = .ok (.iadd, 1) := by decide +kernel
theorem d_Mo_plane_150 : decode b_Mo_plane 150 = .ok (.putfield 39, 3) := by decide +kernel
theorem d_Mo_plane_153 : decode b_Mo_plane 153 = .ok (.aload_n 0, 1) := by decide +kernel
theorem d_Mo_plane_154 : decode b_Mo_plane 154 = .ok (.getfield 39, 3) := by decide +kernel
theorem d_Mo_plane_157 : decode b_Mo_plane 157 = .ok (.iconst 1, 1) := by decide +kernel
theorem d_Mo_plane_158 : decode b_Mo_plane 158 = .ok (.isub, 1) := by decide +kernel
theorem d_Mo_plane_159 : decode b_Mo_plane 159 = .ok (.ireturn, 1) := by decide +kernel
theorem d_Mo_planes_0 : decode b_Mo_planes 0 = .ok (.aload_n 0, 1) := by decide +kernel
theorem d_Mo_planes_1 : decode b_Mo_planes 1 = .ok (.iconst 0, 1) := by decide +kernel
theorem d_Mo_planes_2 : decode b_Mo_planes 2 = .ok (.putfield 29, 3) := by decide +kernel
theorem d_Mo_planes_5 : decode b_Mo_planes 5 = .ok (.aload_n 0, 1) := by decide +kernel
theorem d_Mo_planes_6 : decode b_Mo_planes 6 = .ok (.getfield 39, 3) := by decide +kernel
theorem d_Mo_planes_9 : decode b_Mo_planes 9 = .ok (.ireturn, 1) := by decide +kernel
theorem d_Mo_convex_0 : decode b_Mo_convex 0 = .ok (.aload_n 0, 1) := by decide +kernel
theorem d_Mo_convex_1 : decode b_Mo_convex 1 = .ok (.iload_n 1, 1) := by decide +kernel
theorem d_Mo_convex_2 : decode b_Mo_convex 2 = .ok (.ifCond .lt 12, 3) := by decide +kernel
theorem d_Mo_convex_5 : decode b_Mo_convex 5 = .ok (.iload_n 1, 1) := by decide +kernel
theorem d_Mo_convex_6 : decode b_Mo_convex 6 = .ok (.aload_n 0, 1) := by decide +kernel
theorem d_Mo_convex_7 : decode b_Mo_convex 7 = .ok (.getfield 39, 3) := by decide +kernel
theorem d_Mo_convex_10 : decode b_Mo_convex 10 = .ok (.ishr, 1) := by decide +kernel
theorem d_Mo_convex_11 : decode b_Mo_convex 11 = .ok (.ifCond .le 7, 3) := by decide +kernel
theorem d_Mo_convex_14 : decode b_Mo_convex 14 = .ok (.iconst 1, 1) := by decide +kernel
theorem d_Mo_convex_15 : decode b_Mo_convex 15 = .ok (.goto 17, 3) := by decide +kernel
theorem d_Mo_convex_18 : decode b_Mo_convex 18 = .ok (.aload_n 0, 1) := by decide +kernel
theorem d_Mo_convex_19 : decode b_Mo_convex 19 = .ok (.getfield 42, 3) := by decide +kernel
theorem d_Mo_convex_22 : decode b_Mo_convex 22 = .ok (.bipush 6, 2) := by decide +kernel
theorem d_Mo_convex_24 : decode b_Mo_convex 24 = .ok (.if_icmp .ne 7, 3) := by decide +kernel
theorem d_Mo_convex_27 : decode b_Mo_convex 27 = .ok (.iconst 2, 1) := by decide +kernel
theorem d_Mo_convex_28 : decode b_Mo_convex 28 = .ok (.goto 4, 3) := by decide +kernel
theorem d_Mo_convex_31 : decode b_Mo_convex 31 = .ok (.iconst 0, 1) := by decide +kernel
theorem d_Mo_convex_32 : decode b_Mo_convex 32 = .ok (.putfield 29, 3) := by decide +kernel
theorem d_Mo_convex_35 : decode b_Mo_convex 35 = .ok (.aload_n 0, 1) := by decide +kernel
theorem d_Mo_convex_36 : decode b_Mo_convex 36 = .ok (.getfield 29, 3) := by decide +kernel
theorem d_Mo_convex_39 : decode b_Mo_convex 39 = .ok (.ifCond .le 5, 3) := by decide +kernel
theorem d_Mo_convex_42 : decode b_Mo_convex 42 = .ok (.iconst 0, 1) := by decide +kernel
theorem d_Mo_convex_43 : decode b_Mo_convex 43 = .ok (.ireturn, 1) := by decide +kernel
theorem d_Mo_convex_44 : decode b_Mo_convex 44 = .ok (.iconst 0, 1) := by decide +kernel
theorem d_Mo_convex_45 : decode b_Mo_convex 45 = .ok (.istore_n 2, 1) := by decide +kernel
theorem d_Mo_convex_46 : decode b_Mo_convex 46 = .ok (.iload_n 2, 1) := by decide +kernel
theorem d_Mo_convex_47 : decode b_Mo_convex 47 = .ok (.iconst 4, 1) := by decide +kernel
theorem d_Mo_convex_48 : decode b_Mo_convex 48 = .ok (.if_icmp .ge 23, 3) := by decide +kernel
theorem d_Mo_convex_51 : decode b_Mo_convex 51 = .ok (.aload_n 0, 1) := by decide +kernel
theorem d_Mo_convex_52 : decode b_Mo_convex 52 = .ok (.getfield 16, 3) := by decide +kernel
theorem d_Mo_convex_55 : decode b_Mo_convex 55 = .ok (.iconst 4, 1) := by decide +kernel
theorem d_Mo_convex_56 : decode b_Mo_convex 56 = .ok (.aload_n 0, 1) := by decide +kernel
theorem d_Mo_convex_57 : decode b_Mo_convex 57 = .ok (.getfield 42, 3) := by decide +kernel
theorem d_Mo_convex_60 : decode b_Mo_convex 60 = .ok (.imul, 1) := by decide +kernel
theorem d_Mo_convex_61 : decode b_Mo_convex 61 = .ok (.iload_n 2, 1) := by decide +kernel
theorem d_Mo_convex_62 : decode b_Mo_convex 62 = .ok (.iadd, 1) := by decide +kernel
theorem d_Mo_convex_63 : decode b_Mo_convex 63 = .ok (.lconst 0, 1) := by decide +kernel
theorem d_Mo_convex_64 : decode b_Mo_convex 64 = .ok (.lastore, 1) := by decide +kernel
theorem d_Mo_convex_65 : decode b_Mo_convex 65 = .ok (.iinc 2 1, 3) := by decide +kernel
theorem d_Mo_convex_68 : decode b_Mo_convex 68 = .ok (.goto (-22), 3) := by decide +kernel
theorem d_Mo_convex_71 : decode b_Mo_convex 71 = .ok (.iconst 0, 1) := by decide +kernel
theorem d_Mo_convex_72 : decode b_Mo_convex 72 = .ok (.istore_n 2, 1) := by decide +kernel
theorem d_Mo_convex_73 : decode b_Mo_convex 73 = .ok (.iload_n 2, 1) := by decide +kernel
theorem d_Mo_convex_74 : decode b_Mo_convex 74 = .ok (.sipush 256, 3) := by decide +kernel
theorem d_Mo_convex_77 : decode b_Mo_convex 77 = .ok (.if_icmp .ge 41, 3) := by decide +kernel
theorem d_Mo_convex_80 : decode b_Mo_convex 80 = .ok (.iload_n 2, 1) := by decide +kernel
theorem d_Mo_convex_81 : decode b_Mo_convex 81 = .ok (.iload_n 1, 1) := by decide +kernel
theorem d_Mo_convex_82 : decode b_Mo_convex 82 = .ok (.iand, 1) := by decide +kernel
theorem d_Mo_convex_83 : decode b_Mo_convex 83 = .ok (.iload_n 1, 1) := by decide +kernel
theorem d_Mo_convex_84 : decode b_Mo_convex 84 = .ok (.if_icmp .ne 28, 3) := by decide +kernel
theorem d_Mo_convex_87 : decode b_Mo_convex 87 = .ok (.aload_n 0, 1) := by decide +kernel
theorem d_Mo_convex_88 : decode b_Mo_convex 88 = .ok (.getfield 16, 3) := by decide +kernel
theorem d_Mo_convex_91 : decode b_Mo_convex 91 = .ok (.iconst 4, 1) := by decide +kernel
theorem d_Mo_convex_92 : decode b_Mo_convex 92 = .ok (.aload_n 0, 1) := by decide +kernel
theorem d_Mo_convex_93 : decode b_Mo_convex 93 = .ok (.getfield 42, 3) := by decide +kernel
theorem d_Mo_convex_96 : decode b_Mo_convex 96 = .ok (.imul, 1) := by decide +kernel
theorem d_Mo_convex_97 : decode b_Mo_convex 97 = .ok (.iload_n 2, 1) := by decide +kernel
theorem d_Mo_convex_98 : decode b_Mo_convex 98 = .ok (.bipush 64, 2) := by decide +kernel
theorem d_Mo_convex_100 : decode b_Mo_convex 100 = .ok (.idiv, 1) := by decide +kernel
theorem d_Mo_convex_101 : decode b_Mo_convex 101 = .ok (.iadd, 1) := by decide +kernel
theorem d_Mo_convex_102 : decode b_Mo_convex 102 = .ok (.dup2, 1) := by decide +kernel
theorem d_Mo_convex_103 : decode b_Mo_convex 103 = .ok (.laload, 1) := by decide +kernel
theorem d_Mo_convex_104 : decode b_Mo_convex 104 = .ok (.lconst 1, 1) := by decide +kernel
theorem d_Mo_convex_105 : decode b_Mo_convex 105 = .ok (.iload_n 2, 1) := by decide +kernel
theorem d_Mo_convex_106 : decode b_Mo_convex 106 = .ok (.bipush 64, 2) := by decide +kernel
theorem d_Mo_convex_108 : decode b_Mo_convex 108 = .ok (.irem, 1) := by decide +kernel
theorem d_Mo_convex_109 : decode b_Mo_convex 109 = .ok (.lshl, 1) := by decide +kernel
theorem d_Mo_convex_110 : decode b_Mo_convex 110 = .ok (.lor, 1) := by decide +kernel
theorem d_Mo_convex_111 : decode b_Mo_convex 111 = .ok (.lastore, 1) := by decide +kernel
theorem d_Mo_convex_112 : decode b_Mo_convex 112 = .ok (.iinc 2 1, 3) := by decide +kernel
theorem d_Mo_convex_115 : decode b_Mo_convex 115 = .ok (.goto (-42), 3) := by decide +kernel
theorem d_Mo_convex_118 : decode b_Mo_convex 118 = .ok (.aload_n 0, 1) := by decide +kernel
theorem d_Mo_convex_119 : decode b_Mo_convex 119 = .ok (.dup, 1) := by decide +kernel
theorem d_Mo_convex_120 : decode b_Mo_convex 120 = .ok (.getfield 42, 3) := by decide +kernel
theorem d_Mo_convex_123 : decode b_Mo_convex 123 = .ok (.iconst 1, 1) := by decide +kernel
theorem d_Mo_convex_124 : decode b_Mo_convex 124 = .ok (.iadd, 1) := by decide +kernel
theorem d_Mo_convex_125 : decode b_Mo_convex 125 = .ok (.putfield 42, 3) := by decide +kernel
theorem d_Mo_convex_128 : decode b_Mo_convex 128 = .ok (.aload_n 0, 1) := by decide +kernel
theorem d_Mo_convex_129 : decode b_Mo_convex 129 = .ok (.getfield 42, 3) := by decide +kernel
theorem d_Mo_convex_132 : decode b_Mo_convex 132 = .ok (.ireturn, 1) := by decide +kernel
theorem d_Mo_join_0 : decode b_Mo_join 0 = .ok (.aload_n 0, 1) := by decide +kernel
theorem d_Mo_join_1 : decode b_Mo_join 1 = .ok (.iload_n 1, 1) := by decide +kernel
theorem d_Mo_join_2 : decode b_Mo_join 2 = .ok (.ifCond .lt 8, 3) := by decide +kernel
theorem d_Mo_join_5 : decode b_Mo_join 5 = .ok (.iload_n 1, 1) := by decide +kernel
theorem d_Mo_join_6 : decode b_Mo_join 6 = .ok (.iconst 3, 1) := by decide +kernel
theorem d_Mo_join_7 : decode b_Mo_join 7 = .ok (.if_icmp .le 7, 3) := by decide +kernel
theorem d_Mo_join_10 : decode b_Mo_join 10 = .ok (.iconst 1, 1) := by decide +kernel
theorem d_Mo_join_11 : decode b_Mo_join 11 = .ok (.goto 16, 3) := by decide +kernel
theorem d_Mo_join_14 : decode b_Mo_join 14 = .ok (.aload_n 0, 1) := by decide +kernel
theorem d_Mo_join_15 : decode b_Mo_join 15 = .ok (.getfield 42, 3) := by decide +kernel
theorem d_Mo_join_18 : decode b_Mo_join 18 = .ok (.iconst 2, 1) := by decide +kernel
theorem d_Mo_join_19 : decode b_Mo_join 19 = .ok (.if_icmp .ge 7, 3) := by decide +kernel
theorem d_Mo_join_22 : decode b_Mo_join 22 = .ok (.iconst 2, 1) := by decide +kernel
theorem d_Mo_join_23 : decode b_Mo_join 23 = .ok (.goto 4, 3) := by decide +kernel
theorem d_Mo_join_26 : decode b_Mo_join 26 = .ok (.iconst 0, 1) := by decide +kernel
theorem d_Mo_join_27 : decode b_Mo_join 27 = .ok (.putfield 29, 3) := by decide +kernel
theorem d_Mo_join_30 : decode b_Mo_join 30 = .ok (.aload_n 0, 1) := by decide +kernel
theorem d_Mo_join_31 : decode b_Mo_join 31 = .ok (.getfield 29, 3) := by decide +kernel
theorem d_Mo_join_34 : decode b_Mo_join 34 = .ok (.ifCond .le 5, 3) := by decide +kernel
theorem d_Mo_join_37 : decode b_Mo_join 37 = .ok (.iconst 0, 1) := by decide +kernel
theorem d_Mo_join_38 : decode b_Mo_join 38 = .ok (.ireturn, 1) := by decide +kernel
theorem d_Mo_join_39 : decode b_Mo_join 39 = .ok (.aload_n 0, 1) := by decide +kernel
theorem d_Mo_join_40 : decode b_Mo_join 40 = .ok (.dup, 1) := by decide +kernel
theorem d_Mo_join_41 : decode b_Mo_join 41 = .ok (.getfield 42, 3) := by decide +kernel
theorem d_Mo_join_44 : decode b_Mo_join 44 = .ok (.iconst 1, 1) := by decide +kernel
theorem d_Mo_join_45 : decode b_Mo_join 45 = .ok (.isub, 1) := by decide +kernel
theorem d_Mo_join_46 : decode b_Mo_join 46 = .ok (.putfield 42, 3) := by decide +kernel
theorem d_Mo_join_49 : decode b_Mo_join 49 = .ok (.iconst 0, 1) := by decide +kernel
theorem d_Mo_join_50 : decode b_Mo_join 50 = .ok (.istore_n 2, 1) := by decide +kernel
theorem d_Mo_join_51 : decode b_Mo_join 51 = .ok (.iload_n 2, 1) := by decide +kernel
theorem d_Mo_join_52 : decode b_Mo_join 52 = .ok (.iconst 4, 1) := by decide +kernel
theorem d_Mo_join_53 : decode b_Mo_join 53 = .ok (.if_icmp .ge 98, 3) := by decide +kernel
theorem d_Mo_join_56 : decode b_Mo_join 56 = .ok (.aload_n 0, 1) := by decide +kernel
theorem d_Mo_join_57 : decode b_Mo_join 57 = .ok (.getfield 16, 3) := by decide +kernel
theorem d_Mo_join_60 : decode b_Mo_join 60 = .ok (.iconst 4, 1) := by decide +kernel
theorem d_Mo_join_61 : decode b_Mo_join 61 = .ok (.aload_n 0, 1) := by decide +kernel
theorem d_Mo_join_62 : decode b_Mo_join 62 = .ok (.getfield 42, 3) := by decide +kernel
theorem d_Mo_join_65 : decode b_Mo_join 65 = .ok (.imul, 1) := by decide +kernel
theorem d_Mo_join_66 : decode b_Mo_join 66 = .ok (.iconst 4, 1) := by decide +kernel
theorem d_Mo_join_67 : decode b_Mo_join 67 = .ok (.isub, 1) := by decide +kernel
theorem d_Mo_join_68 : decode b_Mo_join 68 = .ok (.iload_n 2, 1) := by decide +kernel
theorem d_Mo_join_69 : decode b_Mo_join 69 = .ok (.iadd, 1) := by decide +kernel
theorem d_Mo_join_70 : decode b_Mo_join 70 = .ok (.laload, 1) := by decide +kernel
theorem d_Mo_join_71 : decode b_Mo_join 71 = .ok (.lstore_n 3, 1) := by decide +kernel
theorem d_Mo_join_72 : decode b_Mo_join 72 = .ok (.aload_n 0, 1) := by decide +kernel
theorem d_Mo_join_73 : decode b_Mo_join 73 = .ok (.getfield 16, 3) := by decide +kernel
theorem d_Mo_join_76 : decode b_Mo_join 76 = .ok (.iconst 4, 1) := by decide +kernel
theorem d_Mo_join_77 : decode b_Mo_join 77 = .ok (.aload_n 0, 1) := by decide +kernel
theorem d_Mo_join_78 : decode b_Mo_join 78 = .ok (.getfield 42, 3) := by decide +kernel
theorem d_Mo_join_81 : decode b_Mo_join 81 = .ok (.imul, 1) := by decide +kernel
theorem d_Mo_join_82 : decode b_Mo_join 82 = .ok (.iload_n 2, 1) := by decide +kernel
theorem d_Mo_join_83 : decode b_Mo_join 83 = .ok (.iadd, 1) := by decide +kernel
theorem d_Mo_join_84 : decode b_Mo_join 84 = .ok (.laload, 1) := by decide +kernel
theorem d_Mo_join_85 : decode b_Mo_join 85 = .ok (.lstore 5, 2) := by decide +kernel
theorem d_Mo_join_87 : decode b_Mo_join 87 = .ok (.aload_n 0, 1) := by decide +kernel
theorem d_Mo_join_88 : decode b_Mo_join 88 = .ok (.getfield 16, 3) := by decide +kernel
theorem d_Mo_join_91 : decode b_Mo_join 91 = .ok (.iconst 4, 1) := by decide +kernel
theorem d_Mo_join_92 : decode b_Mo_join 92 = .ok (.aload_n 0, 1) := by decide +kernel
theorem d_Mo_join_93 : decode b_Mo_join 93 = .ok (.getfield 42, 3) := by decide +kernel
theorem d_Mo_join_96 : decode b_Mo_join 96 = .ok (.imul, 1) := by decide +kernel
theorem d_Mo_join_97 : decode b_Mo_join 97 = .ok (.iconst 4, 1) := by decide +kernel
theorem d_Mo_join_98 : decode b_Mo_join 98 = .ok (.isub, 1) := by decide +kernel
theorem d_Mo_join_99 : decode b_Mo_join 99 = .ok (.iload_n 2, 1) := by decide +kernel
theorem d_Mo_join_100 : decode b_Mo_join 100 = .ok (.iadd, 1) := by decide +kernel
theorem d_Mo_join_101 : decode b_Mo_join 101 = .ok (.iload_n 1, 1) := by decide +kernel
theorem d_Mo_join_102 : decode b_Mo_join 102 = .ok (.ifCond .ne 10, 3) := by decide +kernel
theorem d_Mo_join_105 : decode b_Mo_join 105 = .ok (.lload_n 3, 1) := by decide +kernel
theorem d_Mo_join_106 : decode b_Mo_join 106 = .ok (.lload 5, 2) := by decide +kernel
theorem d_Mo_join_108 : decode b_Mo_join 108 = .ok (.lor, 1) := by decide +kernel
theorem d_Mo_join_109 : decode b_Mo_join 109 = .ok (.goto 35, 3) := by decide +kernel
theorem d_Mo_join_112 : decode b_Mo_join 112 = .ok (.iload_n 1, 1) := by decide +kernel
theorem d_Mo_join_113 : decode b_Mo_join 113 = .ok (.iconst 1, 1) := by decide +kernel
theorem d_Mo_join_114 : decode b_Mo_join 114 = .ok (.if_icmp .ne 10, 3) := by decide +kernel
theorem d_Mo_join_117 : decode b_Mo_join 117 = .ok (.lload_n 3, 1) := by decide +kernel
theorem d_Mo_join_118 : decode b_Mo_join 118 = .ok (.lload 5, 2) := by decide +kernel
theorem d_Mo_join_120 : decode b_Mo_join 120 = .ok (.land, 1) := by decide +kernel
theorem d_Mo_join_121 : decode b_Mo_join 121 = .ok (.goto 23, 3) := by decide +kernel
theorem d_Mo_join_124 : decode b_Mo_join 124 = .ok (.iload_n 1, 1) := by decide +kernel
theorem d_Mo_join_125 : decode b_Mo_join 125 = .ok (.iconst 2, 1) := by decide +kernel
theorem d_Mo_join_126 : decode b_Mo_join 126 = .ok (.if_icmp .ne 14, 3) := by decide +kernel
theorem d_Mo_join_129 : decode b_Mo_join 129 = .ok (.lload_n 3, 1) := by decide +kernel
theorem d_Mo_join_130 : decode b_Mo_join 130 = .ok (.lload 5, 2) := by decide +kernel
theorem d_Mo_join_132 : decode b_Mo_join 132 = .ok (.ldc2_w 45, 3) := by decide +kernel
theorem d_Mo_join_135 : decode b_Mo_join 135 = .ok (.lxor, 1) := by decide +kernel
theorem d_Mo_join_136 : decode b_Mo_join 136 = .ok (.land, 1) := by decide +kernel
theorem d_Mo_join_137 : decode b_Mo_join 137 = .ok (.goto 7, 3) := by decide +kernel
theorem d_Mo_join_140 : decode b_Mo_join 140 = .ok (.lload_n 3, 1) := by decide +kernel
theorem d_Mo_join_141 : decode b_Mo_join 141 = .ok (.lload 5, 2) := by decide +kernel
theorem d_Mo_join_143 : decode b_Mo_join 143 = .ok (.lxor, 1) := by decide +kernel
theorem d_Mo_join_144 : decode b_Mo_join 144 = .ok (.lastore, 1) := by decide +kernel
theorem d_Mo_join_145 : decode b_Mo_join 145 = .ok (.iinc 2 1, 3) := by decide +kernel
theorem d_Mo_join_148 : decode b_Mo_join 148 = .ok (.goto (-97), 3) := by decide +kernel
theorem d_Mo_join_151 : decode b_Mo_join 151 = .ok (.aload_n 0, 1) := by decide +kernel
theorem d_Mo_join_152 : decode b_Mo_join 152 = .ok (.getfield 42, 3) := by decide +kernel
theorem d_Mo_join_155 : decode b_Mo_join 155 = .ok (.ireturn, 1) := by decide +kernel
theorem d_Mo_turn_0 : decode b_Mo_turn 0 = .ok (.aload_n 0, 1) := by decide +kernel
theorem d_Mo_turn_1 : decode b_Mo_turn 1 = .ok (.aload_n 0, 1) := by decide +kernel
theorem d_Mo_turn_2 : decode b_Mo_turn 2 = .ok (.getfield 42, 3) := by decide +kernel
theorem d_Mo_turn_5 : decode b_Mo_turn 5 = .ok (.ifCond .ne 7, 3) := by decide +kernel
theorem d_Mo_turn_8 : decode b_Mo_turn 8 = .ok (.iconst 1, 1) := by decide +kernel
theorem d_Mo_turn_9 : decode b_Mo_turn 9 = .ok (.goto 4, 3) := by decide +kernel
theorem d_Mo_turn_12 : decode b_Mo_turn 12 = .ok (.iconst 0, 1) := by decide +kernel
theorem d_Mo_turn_13 : decode b_Mo_turn 13 = .ok (.putfield 29, 3) := by decide +kernel
theorem d_Mo_turn_16 : decode b_Mo_turn 16 = .ok (.iconst 0, 1) := by decide +kernel
theorem d_Mo_turn_17 : decode b_Mo_turn 17 = .ok (.istore_n 1, 1) := by decide +kernel
theorem d_Mo_turn_18 : decode b_Mo_turn 18 = .ok (.iload_n 1, 1) := by decide +kernel
theorem d_Mo_turn_19 : decode b_Mo_turn 19 = .ok (.iconst 4, 1) := by decide +kernel
theorem d_Mo_turn_20 : decode b_Mo_turn 20 = .ok (.if_icmp .ge 50, 3) := by decide +kernel
theorem d_Mo_turn_23 : decode b_Mo_turn 23 = .ok (.aload_n 0, 1) := by decide +kernel
theorem d_Mo_turn_24 : decode b_Mo_turn 24 = .ok (.getfield 42, 3) := by decide +kernel
theorem d_Mo_turn_27 : decode b_Mo_turn 27 = .ok (.ifCond .le 43, 3) := by decide +kernel
theorem d_Mo_turn_30 : decode b_Mo_turn 30 = .ok (.aload_n 0, 1) := by decide +kernel
theorem d_Mo_turn_31 : decode b_Mo_turn 31 = .ok (.getfield 16, 3) := by decide +kernel
theorem d_Mo_turn_34 : decode b_Mo_turn 34 = .ok (.iconst 4, 1) := by decide +kernel
theorem d_Mo_turn_35 : decode b_Mo_turn 35 = .ok (.aload_n 0, 1) := by decide +kernel
theorem d_Mo_turn_36 : decode b_Mo_turn 36 = .ok (.getfield 42, 3) := by decide +kernel
theorem d_Mo_turn_39 : decode b_Mo_turn 39 = .ok (.imul, 1) := by decide +kernel
theorem d_Mo_turn_40 : decode b_Mo_turn 40 = .ok (.iconst 4, 1) := by decide +kernel
theorem d_Mo_turn_41 : decode b_Mo_turn 41 = .ok (.isub, 1) := by decide +kernel
theorem d_Mo_turn_42 : decode b_Mo_turn 42 = .ok (.iload_n 1, 1) := by decide +kernel
theorem d_Mo_turn_43 : decode b_Mo_turn 43 = .ok (.iadd, 1) := by decide +kernel
theorem d_Mo_turn_44 : decode b_Mo_turn 44 = .ok (.aload_n 0, 1) := by decide +kernel
theorem d_Mo_turn_45 : decode b_Mo_turn 45 = .ok (.getfield 16, 3) := by decide +kernel
theorem d_Mo_turn_48 : decode b_Mo_turn 48 = .ok (.iconst 4, 1) := by decide +kernel
theorem d_Mo_turn_49 : decode b_Mo_turn 49 = .ok (.aload_n 0, 1) := by decide +kernel
theorem d_Mo_turn_50 : decode b_Mo_turn 50 = .ok (.getfield 42, 3) := by decide +kernel
theorem d_Mo_turn_53 : decode b_Mo_turn 53 = .ok (.imul, 1) := by decide +kernel
theorem d_Mo_turn_54 : decode b_Mo_turn 54 = .ok (.iconst 4, 1) := by decide +kernel
theorem d_Mo_turn_55 : decode b_Mo_turn 55 = .ok (.isub, 1) := by decide +kernel
theorem d_Mo_turn_56 : decode b_Mo_turn 56 = .ok (.iload_n 1, 1) := by decide +kernel
theorem d_Mo_turn_57 : decode b_Mo_turn 57 = .ok (.iadd, 1) := by decide +kernel
theorem d_Mo_turn_58 : decode b_Mo_turn 58 = .ok (.laload, 1) := by decide +kernel
theorem d_Mo_turn_59 : decode b_Mo_turn 59 = .ok (.ldc2_w 45, 3) := by decide +kernel
theorem d_Mo_turn_62 : decode b_Mo_turn 62 = .ok (.lxor, 1) := by decide +kernel
theorem d_Mo_turn_63 : decode b_Mo_turn 63 = .ok (.lastore, 1) := by decide +kernel
theorem d_Mo_turn_64 : decode b_Mo_turn 64 = .ok (.iinc 1 1, 3) := by decide +kernel
theorem d_Mo_turn_67 : decode b_Mo_turn 67 = .ok (.goto (-49), 3) := by decide +kernel
theorem d_Mo_turn_70 : decode b_Mo_turn 70 = .ok (.return_, 1) := by decide +kernel
theorem d_Mo_copy_0 : decode b_Mo_copy 0 = .ok (.aload_n 0, 1) := by decide +kernel
theorem d_Mo_copy_1 : decode b_Mo_copy 1 = .ok (.iload_n 1, 1) := by decide +kernel
theorem d_Mo_copy_2 : decode b_Mo_copy 2 = .ok (.ifCond .lt 11, 3) := by decide +kernel
theorem d_Mo_copy_5 : decode b_Mo_copy 5 = .ok (.iload_n 1, 1) := by decide +kernel
theorem d_Mo_copy_6 : decode b_Mo_copy 6 = .ok (.aload_n 0, 1) := by decide +kernel
theorem d_Mo_copy_7 : decode b_Mo_copy 7 = .ok (.getfield 42, 3) := by decide +kernel
theorem d_Mo_copy_10 : decode b_Mo_copy 10 = .ok (.if_icmp .lt 7, 3) := by decide +kernel
theorem d_Mo_copy_13 : decode b_Mo_copy 13 = .ok (.iconst 1, 1) := by decide +kernel
theorem d_Mo_copy_14 : decode b_Mo_copy 14 = .ok (.goto 17, 3) := by decide +kernel
theorem d_Mo_copy_17 : decode b_Mo_copy 17 = .ok (.aload_n 0, 1) := by decide +kernel
theorem d_Mo_copy_18 : decode b_Mo_copy 18 = .ok (.getfield 42, 3) := by decide +kernel
theorem d_Mo_copy_21 : decode b_Mo_copy 21 = .ok (.bipush 6, 2) := by decide +kernel
theorem d_Mo_copy_23 : decode b_Mo_copy 23 = .ok (.if_icmp .ne 7, 3) := by decide +kernel
theorem d_Mo_copy_26 : decode b_Mo_copy 26 = .ok (.iconst 2, 1) := by decide +kernel
theorem d_Mo_copy_27 : decode b_Mo_copy 27 = .ok (.goto 4, 3) := by decide +kernel
theorem d_Mo_copy_30 : decode b_Mo_copy 30 = .ok (.iconst 0, 1) := by decide +kernel
theorem d_Mo_copy_31 : decode b_Mo_copy 31 = .ok (.putfield 29, 3) := by decide +kernel
theorem d_Mo_copy_34 : decode b_Mo_copy 34 = .ok (.aload_n 0, 1) := by decide +kernel
theorem d_Mo_copy_35 : decode b_Mo_copy 35 = .ok (.getfield 29, 3) := by decide +kernel
theorem d_Mo_copy_38 : decode b_Mo_copy 38 = .ok (.ifCond .le 5, 3) := by decide +kernel
theorem d_Mo_copy_41 : decode b_Mo_copy 41 = .ok (.iconst 0, 1) := by decide +kernel
theorem d_Mo_copy_42 : decode b_Mo_copy 42 = .ok (.ireturn, 1) := by decide +kernel
theorem d_Mo_copy_43 : decode b_Mo_copy 43 = .ok (.iconst 0, 1) := by decide +kernel
theorem d_Mo_copy_44 : decode b_Mo_copy 44 = .ok (.istore_n 2, 1) := by decide +kernel
theorem d_Mo_copy_45 : decode b_Mo_copy 45 = .ok (.iload_n 2, 1) := by decide +kernel
theorem d_Mo_copy_46 : decode b_Mo_copy 46 = .ok (.iconst 4, 1) := by decide +kernel
theorem d_Mo_copy_47 : decode b_Mo_copy 47 = .ok (.if_icmp .ge 39, 3) := by decide +kernel
theorem d_Mo_copy_50 : decode b_Mo_copy 50 = .ok (.aload_n 0, 1) := by decide +kernel
theorem d_Mo_copy_51 : decode b_Mo_copy 51 = .ok (.getfield 16, 3) := by decide +kernel
theorem d_Mo_copy_54 : decode b_Mo_copy 54 = .ok (.iconst 4, 1) := by decide +kernel
theorem d_Mo_copy_55 : decode b_Mo_copy 55 = .ok (.aload_n 0, 1) := by decide +kernel
theorem d_Mo_copy_56 : decode b_Mo_copy 56 = .ok (.getfield 42, 3) := by decide +kernel
theorem d_Mo_copy_59 : decode b_Mo_copy 59 = .ok (.imul, 1) := by decide +kernel
theorem d_Mo_copy_60 : decode b_Mo_copy 60 = .ok (.iload_n 2, 1) := by decide +kernel
theorem d_Mo_copy_61 : decode b_Mo_copy 61 = .ok (.iadd, 1) := by decide +kernel
theorem d_Mo_copy_62 : decode b_Mo_copy 62 = .ok (.aload_n 0, 1) := by decide +kernel
theorem d_Mo_copy_63 : decode b_Mo_copy 63 = .ok (.getfield 16, 3) := by decide +kernel
theorem d_Mo_copy_66 : decode b_Mo_copy 66 = .ok (.iconst 4, 1) := by decide +kernel
theorem d_Mo_copy_67 : decode b_Mo_copy 67 = .ok (.aload_n 0, 1) := by decide +kernel
theorem d_Mo_copy_68 : decode b_Mo_copy 68 = .ok (.getfield 42, 3) := by decide +kernel
theorem d_Mo_copy_71 : decode b_Mo_copy 71 = .ok (.iconst 1, 1) := by decide +kernel
theorem d_Mo_copy_72 : decode b_Mo_copy 72 = .ok (.isub, 1) := by decide +kernel
theorem d_Mo_copy_73 : decode b_Mo_copy 73 = .ok (.iload_n 1, 1) := by decide +kernel
theorem d_Mo_copy_74 : decode b_Mo_copy 74 = .ok (.isub, 1) := by decide +kernel
theorem d_Mo_copy_75 : decode b_Mo_copy 75 = .ok (.imul, 1) := by decide +kernel
theorem d_Mo_copy_76 : decode b_Mo_copy 76 = .ok (.iload_n 2, 1) := by decide +kernel
theorem d_Mo_copy_77 : decode b_Mo_copy 77 = .ok (.iadd, 1) := by decide +kernel
theorem d_Mo_copy_78 : decode b_Mo_copy 78 = .ok (.laload, 1) := by decide +kernel
theorem d_Mo_copy_79 : decode b_Mo_copy 79 = .ok (.lastore, 1) := by decide +kernel
theorem d_Mo_copy_80 : decode b_Mo_copy 80 = .ok (.iinc 2 1, 3) := by decide +kernel
theorem d_Mo_copy_83 : decode b_Mo_copy 83 = .ok (.goto (-38), 3) := by decide +kernel
theorem d_Mo_copy_86 : decode b_Mo_copy 86 = .ok (.aload_n 0, 1) := by decide +kernel
theorem d_Mo_copy_87 : decode b_Mo_copy 87 = .ok (.dup, 1) := by decide +kernel
theorem d_Mo_copy_88 : decode b_Mo_copy 88 = .ok (.getfield 42, 3) := by decide +kernel
theorem d_Mo_copy_91 : decode b_Mo_copy 91 = .ok (.iconst 1, 1) := by decide +kernel
theorem d_Mo_copy_92 : decode b_Mo_copy 92 = .ok (.iadd, 1) := by decide +kernel
theorem d_Mo_copy_93 : decode b_Mo_copy 93 = .ok (.putfield 42, 3) := by decide +kernel
theorem d_Mo_copy_96 : decode b_Mo_copy 96 = .ok (.aload_n 0, 1) := by decide +kernel
theorem d_Mo_copy_97 : decode b_Mo_copy 97 = .ok (.getfield 42, 3) := by decide +kernel
theorem d_Mo_copy_100 : decode b_Mo_copy 100 = .ok (.ireturn, 1) := by decide +kernel
theorem d_Mo_drop_0 : decode b_Mo_drop 0 = .ok (.aload_n 0, 1) := by decide +kernel
theorem d_Mo_drop_1 : decode b_Mo_drop 1 = .ok (.aload_n 0, 1) := by decide +kernel
theorem d_Mo_drop_2 : decode b_Mo_drop 2 = .ok (.getfield 42, 3) := by decide +kernel
theorem d_Mo_drop_5 : decode b_Mo_drop 5 = .ok (.ifCond .ne 7, 3) := by decide +kernel
theorem d_Mo_drop_8 : decode b_Mo_drop 8 = .ok (.iconst 1, 1) := by decide +kernel
theorem d_Mo_drop_9 : decode b_Mo_drop 9 = .ok (.goto 4, 3) := by decide +kernel
theorem d_Mo_drop_12 : decode b_Mo_drop 12 = .ok (.iconst 0, 1) := by decide +kernel
theorem d_Mo_drop_13 : decode b_Mo_drop 13 = .ok (.putfield 29, 3) := by decide +kernel
theorem d_Mo_drop_16 : decode b_Mo_drop 16 = .ok (.aload_n 0, 1) := by decide +kernel
theorem d_Mo_drop_17 : decode b_Mo_drop 17 = .ok (.aload_n 0, 1) := by decide +kernel
theorem d_Mo_drop_18 : decode b_Mo_drop 18 = .ok (.getfield 42, 3) := by decide +kernel
theorem d_Mo_drop_21 : decode b_Mo_drop 21 = .ok (.ifCond .ne 7, 3) := by decide +kernel
theorem d_Mo_drop_24 : decode b_Mo_drop 24 = .ok (.iconst 0, 1) := by decide +kernel
theorem d_Mo_drop_25 : decode b_Mo_drop 25 = .ok (.goto 9, 3) := by decide +kernel
theorem d_Mo_drop_28 : decode b_Mo_drop 28 = .ok (.aload_n 0, 1) := by decide +kernel
theorem d_Mo_drop_29 : decode b_Mo_drop 29 = .ok (.getfield 42, 3) := by decide +kernel
theorem d_Mo_drop_32 : decode b_Mo_drop 32 = .ok (.iconst 1, 1) := by decide +kernel
theorem d_Mo_drop_33 : decode b_Mo_drop 33 = .ok (.isub, 1) := by decide +kernel
theorem d_Mo_drop_34 : decode b_Mo_drop 34 = .ok (.putfield 42, 3) := by decide +kernel
theorem d_Mo_drop_37 : decode b_Mo_drop 37 = .ok (.aload_n 0, 1) := by decide +kernel
theorem d_Mo_drop_38 : decode b_Mo_drop 38 = .ok (.getfield 42, 3) := by decide +kernel
theorem d_Mo_drop_41 : decode b_Mo_drop 41 = .ok (.ireturn, 1) := by decide +kernel
theorem d_Mo_solids_0 : decode b_Mo_solids 0 = .ok (.aload_n 0, 1) := by decide +kernel
theorem d_Mo_solids_1 : decode b_Mo_solids 1 = .ok (.iconst 0, 1) := by decide +kernel
theorem d_Mo_solids_2 : decode b_Mo_solids 2 = .ok (.putfield 29, 3) := by decide +kernel
theorem d_Mo_solids_5 : decode b_Mo_solids 5 = .ok (.aload_n 0, 1) := by decide +kernel
theorem d_Mo_solids_6 : decode b_Mo_solids 6 = .ok (.getfield 42, 3) := by decide +kernel
theorem d_Mo_solids_9 : decode b_Mo_solids 9 = .ok (.ireturn, 1) := by decide +kernel
theorem d_Mo_topHas_0 : decode b_Mo_topHas 0 = .ok (.aload_n 0, 1) := by decide +kernel
theorem d_Mo_topHas_1 : decode b_Mo_topHas 1 = .ok (.getfield 16, 3) := by decide +kernel
theorem d_Mo_topHas_4 : decode b_Mo_topHas 4 = .ok (.iconst 4, 1) := by decide +kernel
theorem d_Mo_topHas_5 : decode b_Mo_topHas 5 = .ok (.aload_n 0, 1) := by decide +kernel
theorem d_Mo_topHas_6 : decode b_Mo_topHas 6 = .ok (.getfield 42, 3) := by decide +kernel
theorem d_Mo_topHas_9 : decode b_Mo_topHas 9 = .ok (.imul, 1) := by decide +kernel
theorem d_Mo_topHas_10 : decode b_Mo_topHas 10 = .ok (.iconst 4, 1) := by decide +kernel
theorem d_Mo_topHas_11 : decode b_Mo_topHas 11 = .ok (.isub, 1) := by decide +kernel
theorem d_Mo_topHas_12 : decode b_Mo_topHas 12 = .ok (.iload_n 1, 1) := by decide +kernel
theorem d_Mo_topHas_13 : decode b_Mo_topHas 13 = .ok (.bipush 64, 2) := by decide +kernel
theorem d_Mo_topHas_15 : decode b_Mo_topHas 15 = .ok (.idiv, 1) := by decide +kernel
theorem d_Mo_topHas_16 : decode b_Mo_topHas 16 = .ok (.iadd, 1) := by decide +kernel
theorem d_Mo_topHas_17 : decode b_Mo_topHas 17 = .ok (.laload, 1) := by decide +kernel
theorem d_Mo_topHas_18 : decode b_Mo_topHas 18 = .ok (.iload_n 1, 1) := by decide +kernel
theorem d_Mo_topHas_19 : decode b_Mo_topHas 19 = .ok (.bipush 64, 2) := by decide +kernel
theorem d_Mo_topHas_21 : decode b_Mo_topHas 21 = .ok (.irem, 1) := by decide +kernel
theorem d_Mo_topHas_22 : decode b_Mo_topHas 22 = .ok (.lshr, 1) := by decide +kernel
theorem d_Mo_topHas_23 : decode b_Mo_topHas 23 = .ok (.lconst 1, 1) := by decide +kernel
theorem d_Mo_topHas_24 : decode b_Mo_topHas 24 = .ok (.land, 1) := by decide +kernel
theorem d_Mo_topHas_25 : decode b_Mo_topHas 25 = .ok (.lconst 1, 1) := by decide +kernel
theorem d_Mo_topHas_26 : decode b_Mo_topHas 26 = .ok (.lcmp, 1) := by decide +kernel
theorem d_Mo_topHas_27 : decode b_Mo_topHas 27 = .ok (.ifCond .ne 7, 3) := by decide +kernel
theorem d_Mo_topHas_30 : decode b_Mo_topHas 30 = .ok (.iconst 1, 1) := by decide +kernel
theorem d_Mo_topHas_31 : decode b_Mo_topHas 31 = .ok (.goto 4, 3) := by decide +kernel
theorem d_Mo_topHas_34 : decode b_Mo_topHas 34 = .ok (.iconst 0, 1) := by decide +kernel
theorem d_Mo_topHas_35 : decode b_Mo_topHas 35 = .ok (.ireturn, 1) := by decide +kernel
theorem d_Mo_isPoint_0 : decode b_Mo_isPoint 0 = .ok (.iload_n 0, 1) := by decide +kernel
theorem d_Mo_isPoint_1 : decode b_Mo_isPoint 1 = .ok (.ldc 33, 2) := by decide +kernel
theorem d_Mo_isPoint_3 : decode b_Mo_isPoint 3 = .ok (.invokestatic 34, 3) := by decide +kernel
theorem d_Mo_isPoint_6 : decode b_Mo_isPoint 6 = .ok (.ifCond .eq 37, 3) := by decide +kernel
theorem d_Mo_isPoint_9 : decode b_Mo_isPoint 9 = .ok (.iload_n 1, 1) := by decide +kernel
theorem d_Mo_isPoint_10 : decode b_Mo_isPoint 10 = .ok (.ldc 33, 2) := by decide +kernel
theorem d_Mo_isPoint_12 : decode b_Mo_isPoint 12 = .ok (.invokestatic 34, 3) := by decide +kernel
theorem d_Mo_isPoint_15 : decode b_Mo_isPoint 15 = .ok (.ifCond .eq 28, 3) := by decide +kernel
theorem d_Mo_isPoint_18 : decode b_Mo_isPoint 18 = .ok (.iload_n 2, 1) := by decide +kernel
theorem d_Mo_isPoint_19 : decode b_Mo_isPoint 19 = .ok (.ldc 33, 2) := by decide +kernel
theorem d_Mo_isPoint_21 : decode b_Mo_isPoint 21 = .ok (.invokestatic 34, 3) := by decide +kernel
theorem d_Mo_isPoint_24 : decode b_Mo_isPoint 24 = .ok (.ifCond .eq 19, 3) := by decide +kernel
theorem d_Mo_isPoint_27 : decode b_Mo_isPoint 27 = .ok (.iload_n 3, 1) := by decide +kernel
theorem d_Mo_isPoint_28 : decode b_Mo_isPoint 28 = .ok (.iconst 1, 1) := by decide +kernel
theorem d_Mo_isPoint_29 : decode b_Mo_isPoint 29 = .ok (.if_icmp .lt 14, 3) := by decide +kernel
theorem d_Mo_isPoint_32 : decode b_Mo_isPoint 32 = .ok (.iload_n 3, 1) := by decide +kernel
theorem d_Mo_isPoint_33 : decode b_Mo_isPoint 33 = .ok (.sipush 1000, 3) := by decide +kernel
theorem d_Mo_isPoint_36 : decode b_Mo_isPoint 36 = .ok (.if_icmp .gt 7, 3) := by decide +kernel
theorem d_Mo_isPoint_39 : decode b_Mo_isPoint 39 = .ok (.iconst 1, 1) := by decide +kernel
theorem d_Mo_isPoint_40 : decode b_Mo_isPoint 40 = .ok (.goto 4, 3) := by decide +kernel
theorem d_Mo_isPoint_43 : decode b_Mo_isPoint 43 = .ok (.iconst 0, 1) := by decide +kernel
theorem d_Mo_isPoint_44 : decode b_Mo_isPoint 44 = .ok (.ireturn, 1) := by decide +kernel
theorem d_Mo_look_0 : decode b_Mo_look 0 = .ok (.iconst 0, 1) := by decide +kernel
theorem d_Mo_look_1 : decode b_Mo_look 1 = .ok (.istore 5, 2) := by decide +kernel
theorem d_Mo_look_3 : decode b_Mo_look 3 = .ok (.iload 5, 2) := by decide +kernel
theorem d_Mo_look_5 : decode b_Mo_look 5 = .ok (.aload_n 0, 1) := by decide +kernel
theorem d_Mo_look_6 : decode b_Mo_look 6 = .ok (.getfield 39, 3) := by decide +kernel
theorem d_Mo_look_9 : decode b_Mo_look 9 = .ok (.if_icmp .ge 74, 3) := by decide +kernel
theorem d_Mo_look_12 : decode b_Mo_look 12 = .ok (.aload_n 0, 1) := by decide +kernel
theorem d_Mo_look_13 : decode b_Mo_look 13 = .ok (.getfield 20, 3) := by decide +kernel
theorem d_Mo_look_16 : decode b_Mo_look 16 = .ok (.iload 5, 2) := by decide +kernel
theorem d_Mo_look_18 : decode b_Mo_look 18 = .ok (.aload_n 0, 1) := by decide +kernel
theorem d_Mo_look_19 : decode b_Mo_look 19 = .ok (.getfield 7, 3) := by decide +kernel
theorem d_Mo_look_22 : decode b_Mo_look 22 = .ok (.iconst 3, 1) := by decide +kernel
theorem d_Mo_look_23 : decode b_Mo_look 23 = .ok (.iload 5, 2) := by decide +kernel
theorem d_Mo_look_25 : decode b_Mo_look 25 = .ok (.imul, 1) := by decide +kernel
theorem d_Mo_look_26 : decode b_Mo_look 26 = .ok (.iaload, 1) := by decide +kernel
theorem d_Mo_look_27 : decode b_Mo_look 27 = .ok (.i2l, 1) := by decide +kernel
theorem d_Mo_look_28 : decode b_Mo_look 28 = .ok (.iload_n 1, 1) := by decide +kernel
theorem d_Mo_look_29 : decode b_Mo_look 29 = .ok (.i2l, 1) := by decide +kernel
theorem d_Mo_look_30 : decode b_Mo_look 30 = .ok (.lmul, 1) := by decide +kernel
theorem d_Mo_look_31 : decode b_Mo_look 31 = .ok (.aload_n 0, 1) := by decide +kernel
theorem d_Mo_look_32 : decode b_Mo_look 32 = .ok (.getfield 7, 3) := by decide +kernel
theorem d_Mo_look_35 : decode b_Mo_look 35 = .ok (.iconst 3, 1) := by decide +kernel
theorem d_Mo_look_36 : decode b_Mo_look 36 = .ok (.iload 5, 2) := by decide +kernel
theorem d_Mo_look_38 : decode b_Mo_look 38 = .ok (.imul, 1) := by decide +kernel
theorem d_Mo_look_39 : decode b_Mo_look 39 = .ok (.iconst 1, 1) := by decide +kernel
theorem d_Mo_look_40 : decode b_Mo_look 40 = .ok (.iadd, 1) := by decide +kernel
theorem d_Mo_look_41 : decode b_Mo_look 41 = .ok (.iaload, 1) := by decide +kernel
theorem d_Mo_look_42 : decode b_Mo_look 42 = .ok (.i2l, 1) := by decide +kernel
theorem d_Mo_look_43 : decode b_Mo_look 43 = .ok (.iload_n 2, 1) := by decide +kernel
theorem d_Mo_look_44 : decode b_Mo_look 44 = .ok (.i2l, 1) := by decide +kernel
theorem d_Mo_look_45 : decode b_Mo_look 45 = .ok (.lmul, 1) := by decide +kernel
theorem d_Mo_look_46 : decode b_Mo_look 46 = .ok (.ladd, 1) := by decide +kernel
theorem d_Mo_look_47 : decode b_Mo_look 47 = .ok (.aload_n 0, 1) := by decide +kernel
theorem d_Mo_look_48 : decode b_Mo_look 48 = .ok (.getfield 7, 3) := by decide +kernel
theorem d_Mo_look_51 : decode b_Mo_look 51 = .ok (.iconst 3, 1) := by decide +kernel
theorem d_Mo_look_52 : decode b_Mo_look 52 = .ok (.iload 5, 2) := by decide +kernel
theorem d_Mo_look_54 : decode b_Mo_look 54 = .ok (.imul, 1) := by decide +kernel
theorem d_Mo_look_55 : decode b_Mo_look 55 = .ok (.iconst 2, 1) := by decide +kernel
theorem d_Mo_look_56 : decode b_Mo_look 56 = .ok (.iadd, 1) := by decide +kernel
theorem d_Mo_look_57 : decode b_Mo_look 57 = .ok (.iaload, 1) := by decide +kernel
theorem d_Mo_look_58 : decode b_Mo_look 58 = .ok (.i2l, 1) := by decide +kernel
theorem d_Mo_look_59 : decode b_Mo_look 59 = .ok (.iload_n 3, 1) := by decide +kernel
theorem d_Mo_look_60 : decode b_Mo_look 60 = .ok (.i2l, 1) := by decide +kernel
theorem d_Mo_look_61 : decode b_Mo_look 61 = .ok (.lmul, 1) := by decide +kernel
theorem d_Mo_look_62 : decode b_Mo_look 62 = .ok (.ladd, 1) := by decide +kernel
theorem d_Mo_look_63 : decode b_Mo_look 63 = .ok (.aload_n 0, 1) := by decide +kernel
theorem d_Mo_look_64 : decode b_Mo_look 64 = .ok (.getfield 13, 3) := by decide +kernel
theorem d_Mo_look_67 : decode b_Mo_look 67 = .ok (.iload 5, 2) := by decide +kernel
theorem d_Mo_look_69 : decode b_Mo_look 69 = .ok (.iaload, 1) := by decide +kernel
theorem d_Mo_look_70 : decode b_Mo_look 70 = .ok (.i2l, 1) := by decide +kernel
theorem d_Mo_look_71 : decode b_Mo_look 71 = .ok (.iload 4, 2) := by decide +kernel
theorem d_Mo_look_73 : decode b_Mo_look 73 = .ok (.i2l, 1) := by decide +kernel
theorem d_Mo_look_74 : decode b_Mo_look 74 = .ok (.lmul, 1) := by decide +kernel
theorem d_Mo_look_75 : decode b_Mo_look 75 = .ok (.lsub, 1) := by decide +kernel
theorem d_Mo_look_76 : decode b_Mo_look 76 = .ok (.lastore, 1) := by decide +kernel
theorem d_Mo_look_77 : decode b_Mo_look 77 = .ok (.iinc 5 1, 3) := by decide +kernel
theorem d_Mo_look_80 : decode b_Mo_look 80 = .ok (.goto (-77), 3) := by decide +kernel
theorem d_Mo_look_83 : decode b_Mo_look 83 = .ok (.return_, 1) := by decide +kernel
theorem d_Mo_lies_0 : decode b_Mo_lies 0 = .ok (.iload_n 0, 1) := by decide +kernel
theorem d_Mo_lies_1 : decode b_Mo_lies 1 = .ok (.ifCond .ge 8, 3) := by decide +kernel
theorem d_Mo_lies_4 : decode b_Mo_lies 4 = .ok (.iload_n 0, 1) := by decide +kernel
theorem d_Mo_lies_5 : decode b_Mo_lies 5 = .ok (.ineg, 1) := by decide +kernel
theorem d_Mo_lies_6 : decode b_Mo_lies 6 = .ok (.goto 4, 3) := by decide +kernel
theorem d_Mo_lies_9 : decode b_Mo_lies 9 = .ok (.iload_n 0, 1) := by decide +kernel
theorem d_Mo_lies_10 : decode b_Mo_lies 10 = .ok (.istore_n 2, 1) := by decide +kernel
theorem d_Mo_lies_11 : decode b_Mo_lies 11 = .ok (.iload_n 2, 1) := by decide +kernel
theorem d_Mo_lies_12 : decode b_Mo_lies 12 = .ok (.sipush 1000, 3) := by decide +kernel
theorem d_Mo_lies_15 : decode b_Mo_lies 15 = .ok (.iload_n 1, 1) := by decide +kernel
theorem d_Mo_lies_16 : decode b_Mo_lies 16 = .ok (.imul, 1) := by decide +kernel
theorem d_Mo_lies_17 : decode b_Mo_lies 17 = .ok (.if_icmp .ge 7, 3) := by decide +kernel
theorem d_Mo_lies_20 : decode b_Mo_lies 20 = .ok (.iconst 1, 1) := by decide +kernel
theorem d_Mo_lies_21 : decode b_Mo_lies 21 = .ok (.goto 17, 3) := by decide +kernel
theorem d_Mo_lies_24 : decode b_Mo_lies 24 = .ok (.iload_n 2, 1) := by decide +kernel
theorem d_Mo_lies_25 : decode b_Mo_lies 25 = .ok (.sipush 1000, 3) := by decide +kernel
theorem d_Mo_lies_28 : decode b_Mo_lies 28 = .ok (.iload_n 1, 1) := by decide +kernel
theorem d_Mo_lies_29 : decode b_Mo_lies 29 = .ok (.imul, 1) := by decide +kernel
theorem d_Mo_lies_30 : decode b_Mo_lies 30 = .ok (.if_icmp .ne 7, 3) := by decide +kernel
theorem d_Mo_lies_33 : decode b_Mo_lies 33 = .ok (.iconst 0, 1) := by decide +kernel
theorem d_Mo_lies_34 : decode b_Mo_lies 34 = .ok (.goto 4, 3) := by decide +kernel
theorem d_Mo_lies_37 : decode b_Mo_lies 37 = .ok (.iconst (-1), 1) := by decide +kernel
theorem d_Mo_lies_38 : decode b_Mo_lies 38 = .ok (.ireturn, 1) := by decide +kernel
theorem d_Mo_choice_0 : decode b_Mo_choice 0 = .ok (.iconst 0, 1) := by decide +kernel
theorem d_Mo_choice_1 : decode b_Mo_choice 1 = .ok (.istore_n 1, 1) := by decide +kernel
theorem d_Mo_choice_2 : decode b_Mo_choice 2 = .ok (.iconst 0, 1) := by decide +kernel
theorem d_Mo_choice_3 : decode b_Mo_choice 3 = .ok (.istore_n 2, 1) := by decide +kernel
theorem d_Mo_choice_4 : decode b_Mo_choice 4 = .ok (.iload_n 2, 1) := by decide +kernel
theorem d_Mo_choice_5 : decode b_Mo_choice 5 = .ok (.aload_n 0, 1) := by decide +kernel
theorem d_Mo_choice_6 : decode b_Mo_choice 6 = .ok (.getfield 39, 3) := by decide +kernel
theorem d_Mo_choice_9 : decode b_Mo_choice 9 = .ok (.if_icmp .ge 30, 3) := by decide +kernel
theorem d_Mo_choice_12 : decode b_Mo_choice 12 = .ok (.iload_n 1, 1) := by decide +kernel
theorem d_Mo_choice_13 : decode b_Mo_choice 13 = .ok (.aload_n 0, 1) := by decide +kernel
theorem d_Mo_choice_14 : decode b_Mo_choice 14 = .ok (.getfield 20, 3) := by decide +kernel
theorem d_Mo_choice_17 : decode b_Mo_choice 17 = .ok (.iload_n 2, 1) := by decide +kernel
theorem d_Mo_choice_18 : decode b_Mo_choice 18 = .ok (.laload, 1) := by decide +kernel
theorem d_Mo_choice_19 : decode b_Mo_choice 19 = .ok (.lconst 0, 1) := by decide +kernel
theorem d_Mo_choice_20 : decode b_Mo_choice 20 = .ok (.lcmp, 1) := by decide +kernel
theorem d_Mo_choice_21 : decode b_Mo_choice 21 = .ok (.ifCond .ge 9, 3) := by decide +kernel
theorem d_Mo_choice_24 : decode b_Mo_choice 24 = .ok (.iconst 1, 1) := by decide +kernel
theorem d_Mo_choice_25 : decode b_Mo_choice 25 = .ok (.iload_n 2, 1) := by decide +kernel
theorem d_Mo_choice_26 : decode b_Mo_choice 26 = .ok (.ishl, 1) := by decide +kernel
theorem d_Mo_choice_27 : decode b_Mo_choice 27 = .ok (.goto 4, 3) := by decide +kernel
theorem d_Mo_choice_30 : decode b_Mo_choice 30 = .ok (.iconst 0, 1) := by decide +kernel
theorem d_Mo_choice_31 : decode b_Mo_choice 31 = .ok (.iadd, 1) := by decide +kernel
theorem d_Mo_choice_32 : decode b_Mo_choice 32 = .ok (.istore_n 1, 1) := by decide +kernel
theorem d_Mo_choice_33 : decode b_Mo_choice 33 = .ok (.iinc 2 1, 3) := by decide +kernel
theorem d_Mo_choice_36 : decode b_Mo_choice 36 = .ok (.goto (-32), 3) := by decide +kernel
theorem d_Mo_choice_39 : decode b_Mo_choice 39 = .ok (.iload_n 1, 1) := by decide +kernel
theorem d_Mo_choice_40 : decode b_Mo_choice 40 = .ok (.ireturn, 1) := by decide +kernel
theorem d_Mo_isOnGiven_0 : decode b_Mo_isOnGiven 0 = .ok (.iconst 0, 1) := by decide +kernel
theorem d_Mo_isOnGiven_1 : decode b_Mo_isOnGiven 1 = .ok (.istore_n 1, 1) := by decide +kernel
theorem d_Mo_isOnGiven_2 : decode b_Mo_isOnGiven 2 = .ok (.iconst 0, 1) := by decide +kernel
theorem d_Mo_isOnGiven_3 : decode b_Mo_isOnGiven 3 = .ok (.istore_n 2, 1) := by decide +kernel
theorem d_Mo_isOnGiven_4 : decode b_Mo_isOnGiven 4 = .ok (.iload_n 2, 1) := by decide +kernel
theorem d_Mo_isOnGiven_5 : decode b_Mo_isOnGiven 5 = .ok (.aload_n 0, 1) := by decide +kernel
theorem d_Mo_isOnGiven_6 : decode b_Mo_isOnGiven 6 = .ok (.getfield 39, 3) := by decide +kernel
theorem d_Mo_isOnGiven_9 : decode b_Mo_isOnGiven 9 = .ok (.if_icmp .ge 30, 3) := by decide +kernel
theorem d_Mo_isOnGiven_12 : decode b_Mo_isOnGiven 12 = .ok (.iload_n 1, 1) := by decide +kernel
theorem d_Mo_isOnGiven_13 : decode b_Mo_isOnGiven 13 = .ok (.ifCond .ne 14, 3) := by decide +kernel
theorem d_Mo_isOnGiven_16 : decode b_Mo_isOnGiven 16 = .ok (.aload_n 0, 1) := by decide +kernel
theorem d_Mo_isOnGiven_17 : decode b_Mo_isOnGiven 17 = .ok (.getfield 20, 3) := by decide +kernel
theorem d_Mo_isOnGiven_20 : decode b_Mo_isOnGiven 20 = .ok (.iload_n 2, 1) := by decide +kernel
theorem d_Mo_isOnGiven_21 : decode b_Mo_isOnGiven 21 = .ok (.laload, 1) := by decide +kernel
theorem d_Mo_isOnGiven_22 : decode b_Mo_isOnGiven 22 = .ok (.lconst 0, 1) := by decide +kernel
theorem d_Mo_isOnGiven_23 : decode b_Mo_isOnGiven 23 = .ok (.lcmp, 1) := by decide +kernel
theorem d_Mo_isOnGiven_24 : decode b_Mo_isOnGiven 24 = .ok (.ifCond .ne 7, 3) := by decide +kernel
theorem d_Mo_isOnGiven_27 : decode b_Mo_isOnGiven 27 = .ok (.iconst 1, 1) := by decide +kernel
theorem d_Mo_isOnGiven_28 : decode b_Mo_isOnGiven 28 = .ok (.goto 4, 3) := by decide +kernel
theorem d_Mo_isOnGiven_31 : decode b_Mo_isOnGiven 31 = .ok (.iconst 0, 1) := by decide +kernel
theorem d_Mo_isOnGiven_32 : decode b_Mo_isOnGiven 32 = .ok (.istore_n 1, 1) := by decide +kernel
theorem d_Mo_isOnGiven_33 : decode b_Mo_isOnGiven 33 = .ok (.iinc 2 1, 3) := by decide +kernel
theorem d_Mo_isOnGiven_36 : decode b_Mo_isOnGiven 36 = .ok (.goto (-32), 3) := by decide +kernel
theorem d_Mo_isOnGiven_39 : decode b_Mo_isOnGiven 39 = .ok (.iload_n 1, 1) := by decide +kernel
theorem d_Mo_isOnGiven_40 : decode b_Mo_isOnGiven 40 = .ok (.ireturn, 1) := by decide +kernel
theorem d_Mo_inside_0 : decode b_Mo_inside 0 = .ok (.aload_n 0, 1) := by decide +kernel
theorem d_Mo_inside_1 : decode b_Mo_inside 1 = .ok (.iload_n 1, 1) := by decide +kernel
theorem d_Mo_inside_2 : decode b_Mo_inside 2 = .ok (.iload_n 2, 1) := by decide +kernel
theorem d_Mo_inside_3 : decode b_Mo_inside 3 = .ok (.iload_n 3, 1) := by decide +kernel
theorem d_Mo_inside_4 : decode b_Mo_inside 4 = .ok (.iload 4, 2) := by decide +kernel
theorem d_Mo_inside_6 : decode b_Mo_inside 6 = .ok (.invokestatic 47, 3) := by decide +kernel
theorem d_Mo_inside_9 : decode b_Mo_inside 9 = .ok (.ifCond .ne 7, 3) := by decide +kernel
theorem d_Mo_inside_12 : decode b_Mo_inside 12 = .ok (.iconst 1, 1) := by decide +kernel
theorem d_Mo_inside_13 : decode b_Mo_inside 13 = .ok (.goto 15, 3) := by decide +kernel
theorem d_Mo_inside_16 : decode b_Mo_inside 16 = .ok (.aload_n 0, 1) := by decide +kernel
theorem d_Mo_inside_17 : decode b_Mo_inside 17 = .ok (.getfield 42, 3) := by decide +kernel
theorem d_Mo_inside_20 : decode b_Mo_inside 20 = .ok (.ifCond .ne 7, 3) := by decide +kernel
theorem d_Mo_inside_23 : decode b_Mo_inside 23 = .ok (.iconst 2, 1) := by decide +kernel
theorem d_Mo_inside_24 : decode b_Mo_inside 24 = .ok (.goto 4, 3) := by decide +kernel
theorem d_Mo_inside_27 : decode b_Mo_inside 27 = .ok (.iconst 0, 1) := by decide +kernel
theorem d_Mo_inside_28 : decode b_Mo_inside 28 = .ok (.putfield 29, 3) := by decide +kernel
theorem d_Mo_inside_31 : decode b_Mo_inside 31 = .ok (.aload_n 0, 1) := by decide +kernel
theorem d_Mo_inside_32 : decode b_Mo_inside 32 = .ok (.getfield 29, 3) := by decide +kernel
theorem d_Mo_inside_35 : decode b_Mo_inside 35 = .ok (.ifCond .le 5, 3) := by decide +kernel
theorem d_Mo_inside_38 : decode b_Mo_inside 38 = .ok (.iconst 0, 1) := by decide +kernel
theorem d_Mo_inside_39 : decode b_Mo_inside 39 = .ok (.ireturn, 1) := by decide +kernel
theorem d_Mo_inside_40 : decode b_Mo_inside 40 = .ok (.aload_n 0, 1) := by decide +kernel
theorem d_Mo_inside_41 : decode b_Mo_inside 41 = .ok (.iload_n 1, 1) := by decide +kernel
theorem d_Mo_inside_42 : decode b_Mo_inside 42 = .ok (.iload_n 2, 1) := by decide +kernel
theorem d_Mo_inside_43 : decode b_Mo_inside 43 = .ok (.iload_n 3, 1) := by decide +kernel
theorem d_Mo_inside_44 : decode b_Mo_inside 44 = .ok (.iload 4, 2) := by decide +kernel
theorem d_Mo_inside_46 : decode b_Mo_inside 46 = .ok (.invokevirtual 51, 3) := by decide +kernel
theorem d_Mo_inside_49 : decode b_Mo_inside 49 = .ok (.aload_n 0, 1) := by decide +kernel
theorem d_Mo_inside_50 : decode b_Mo_inside 50 = .ok (.invokevirtual 55, 3) := by decide +kernel
theorem d_Mo_inside_53 : decode b_Mo_inside 53 = .ok (.ifCond .ne 30, 3) := by decide +kernel
theorem d_Mo_inside_56 : decode b_Mo_inside 56 = .ok (.iload_n 1, 1) := by decide +kernel
theorem d_Mo_inside_57 : decode b_Mo_inside 57 = .ok (.iload 4, 2) := by decide +kernel
theorem d_Mo_inside_59 : decode b_Mo_inside 59 = .ok (.invokestatic 59, 3) := by decide +kernel
theorem d_Mo_inside_62 : decode b_Mo_inside 62 = .ok (.ifCond .eq 21, 3) := by decide +kernel
theorem d_Mo_inside_65 : decode b_Mo_inside 65 = .ok (.iload_n 2, 1) := by decide +kernel
theorem d_Mo_inside_66 : decode b_Mo_inside 66 = .ok (.iload 4, 2) := by decide +kernel
theorem d_Mo_inside_68 : decode b_Mo_inside 68 = .ok (.invokestatic 59, 3) := by decide +kernel
theorem d_Mo_inside_71 : decode b_Mo_inside 71 = .ok (.ifCond .eq 12, 3) := by decide +kernel
theorem d_Mo_inside_74 : decode b_Mo_inside 74 = .ok (.iload_n 3, 1) := by decide +kernel
theorem d_Mo_inside_75 : decode b_Mo_inside 75 = .ok (.iload 4, 2) := by decide +kernel
theorem d_Mo_inside_77 : decode b_Mo_inside 77 = .ok (.invokestatic 59, 3) := by decide +kernel
theorem d_Mo_inside_80 : decode b_Mo_inside 80 = .ok (.ifCond .ne 5, 3) := by decide +kernel
theorem d_Mo_inside_83 : decode b_Mo_inside 83 = .ok (.iconst 2, 1) := by decide +kernel
theorem d_Mo_inside_84 : decode b_Mo_inside 84 = .ok (.ireturn, 1) := by decide +kernel
theorem d_Mo_inside_85 : decode b_Mo_inside 85 = .ok (.iload_n 1, 1) := by decide +kernel
theorem d_Mo_inside_86 : decode b_Mo_inside 86 = .ok (.iload 4, 2) := by decide +kernel
theorem d_Mo_inside_88 : decode b_Mo_inside 88 = .ok (.invokestatic 59, 3) := by decide +kernel
theorem d_Mo_inside_91 : decode b_Mo_inside 91 = .ok (.ifCond .le 25, 3) := by decide +kernel
theorem d_Mo_inside_94 : decode b_Mo_inside 94 = .ok (.iload_n 2, 1) := by decide +kernel
theorem d_Mo_inside_95 : decode b_Mo_inside 95 = .ok (.iload 4, 2) := by decide +kernel
theorem d_Mo_inside_97 : decode b_Mo_inside 97 = .ok (.invokestatic 59, 3) := by decide +kernel
theorem d_Mo_inside_100 : decode b_Mo_inside 100 = .ok (.ifCond .le 16, 3) := by decide +kernel
theorem d_Mo_inside_103 : decode b_Mo_inside 103 = .ok (.iload_n 3, 1) := by decide +kernel
theorem d_Mo_inside_104 : decode b_Mo_inside 104 = .ok (.iload 4, 2) := by decide +kernel
theorem d_Mo_inside_106 : decode b_Mo_inside 106 = .ok (.invokestatic 59, 3) := by decide +kernel
theorem d_Mo_inside_109 : decode b_Mo_inside 109 = .ok (.ifCond .le 7, 3) := by decide +kernel
theorem d_Mo_inside_112 : decode b_Mo_inside 112 = .ok (.iconst 1, 1) := by decide +kernel
theorem d_Mo_inside_113 : decode b_Mo_inside 113 = .ok (.goto 4, 3) := by decide +kernel
theorem d_Mo_inside_116 : decode b_Mo_inside 116 = .ok (.iconst 0, 1) := by decide +kernel
theorem d_Mo_inside_117 : decode b_Mo_inside 117 = .ok (.istore 5, 2) := by decide +kernel
theorem d_Mo_inside_119 : decode b_Mo_inside 119 = .ok (.iload 5, 2) := by decide +kernel
theorem d_Mo_inside_121 : decode b_Mo_inside 121 = .ok (.ifCond .eq 18, 3) := by decide +kernel
theorem d_Mo_inside_124 : decode b_Mo_inside 124 = .ok (.aload_n 0, 1) := by decide +kernel
theorem d_Mo_inside_125 : decode b_Mo_inside 125 = .ok (.aload_n 0, 1) := by decide +kernel
theorem d_Mo_inside_126 : decode b_Mo_inside 126 = .ok (.invokevirtual 63, 3) := by decide +kernel
theorem d_Mo_inside_129 : decode b_Mo_inside 129 = .ok (.invokevirtual 67, 3) := by decide +kernel
theorem d_Mo_inside_132 : decode b_Mo_inside 132 = .ok (.ifCond .eq 7, 3) := by decide +kernel
theorem d_Mo_inside_135 : decode b_Mo_inside 135 = .ok (.iconst 1, 1) := by decide +kernel
theorem d_Mo_inside_136 : decode b_Mo_inside 136 = .ok (.goto 4, 3) := by decide +kernel
theorem d_Mo_inside_139 : decode b_Mo_inside 139 = .ok (.iconst 0, 1) := by decide +kernel
theorem d_Mo_inside_140 : decode b_Mo_inside 140 = .ok (.ireturn, 1) := by decide +kernel
theorem d_Mo_normal_0 : decode b_Mo_normal 0 = .ok (.iload_n 1, 1) := by decide +kernel
theorem d_Mo_normal_1 : decode b_Mo_normal 1 = .ok (.bipush 10, 2) := by decide +kernel
theorem d_Mo_normal_3 : decode b_Mo_normal 3 = .ok (.if_icmp .ge 14, 3) := by decide +kernel
theorem d_Mo_normal_6 : decode b_Mo_normal 6 = .ok (.aload_n 0, 1) := by decide +kernel
theorem d_Mo_normal_7 : decode b_Mo_normal 7 = .ok (.getfield 7, 3) := by decide +kernel
theorem d_Mo_normal_10 : decode b_Mo_normal 10 = .ok (.iconst 3, 1) := by decide +kernel
theorem d_Mo_normal_11 : decode b_Mo_normal 11 = .ok (.iload_n 1, 1) := by decide +kernel
theorem d_Mo_normal_12 : decode b_Mo_normal 12 = .ok (.imul, 1) := by decide +kernel
theorem d_Mo_normal_13 : decode b_Mo_normal 13 = .ok (.iload_n 2, 1) := by decide +kernel
theorem d_Mo_normal_14 : decode b_Mo_normal 14 = .ok (.iadd, 1) := by decide +kernel
theorem d_Mo_normal_15 : decode b_Mo_normal 15 = .ok (.iaload, 1) := by decide +kernel
theorem d_Mo_normal_16 : decode b_Mo_normal 16 = .ok (.ireturn, 1) := by decide +kernel
theorem d_Mo_normal_17 : decode b_Mo_normal 17 = .ok (.iload_n 1, 1) := by decide +kernel
theorem d_Mo_normal_18 : decode b_Mo_normal 18 = .ok (.bipush 10, 2) := by decide +kernel
theorem d_Mo_normal_20 : decode b_Mo_normal 20 = .ok (.isub, 1) := by decide +kernel
theorem d_Mo_normal_21 : decode b_Mo_normal 21 = .ok (.iconst 3, 1) := by decide +kernel
theorem d_Mo_normal_22 : decode b_Mo_normal 22 = .ok (.irem, 1) := by decide +kernel
theorem d_Mo_normal_23 : decode b_Mo_normal 23 = .ok (.iload_n 2, 1) := by decide +kernel
theorem d_Mo_normal_24 : decode b_Mo_normal 24 = .ok (.if_icmp .eq 7, 3) := by decide +kernel
theorem d_Mo_normal_27 : decode b_Mo_normal 27 = .ok (.iconst 0, 1) := by decide +kernel
theorem d_Mo_normal_28 : decode b_Mo_normal 28 = .ok (.goto 14, 3) := by decide +kernel
theorem d_Mo_normal_31 : decode b_Mo_normal 31 = .ok (.iload_n 1, 1) := by decide +kernel
theorem d_Mo_normal_32 : decode b_Mo_normal 32 = .ok (.bipush 13, 2) := by decide +kernel
theorem d_Mo_normal_34 : decode b_Mo_normal 34 = .ok (.if_icmp .ge 7, 3) := by decide +kernel
theorem d_Mo_normal_37 : decode b_Mo_normal 37 = .ok (.iconst 1, 1) := by decide +kernel
theorem d_Mo_normal_38 : decode b_Mo_normal 38 = .ok (.goto 4, 3) := by decide +kernel
theorem d_Mo_normal_41 : decode b_Mo_normal 41 = .ok (.iconst (-1), 1) := by decide +kernel
theorem d_Mo_normal_42 : decode b_Mo_normal 42 = .ok (.ireturn, 1) := by decide +kernel
theorem d_Mo_alike_0 : decode b_Mo_alike 0 = .ok (.iconst 1, 1) := by decide +kernel
theorem d_Mo_alike_1 : decode b_Mo_alike 1 = .ok (.istore_n 3, 1) := by decide +kernel
theorem d_Mo_alike_2 : decode b_Mo_alike 2 = .ok (.iconst 0, 1) := by decide +kernel
theorem d_Mo_alike_3 : decode b_Mo_alike 3 = .ok (.istore 4, 2) := by decide +kernel
theorem d_Mo_alike_5 : decode b_Mo_alike 5 = .ok (.iconst 0, 1) := by decide +kernel
theorem d_Mo_alike_6 : decode b_Mo_alike 6 = .ok (.istore 5, 2) := by decide +kernel
theorem d_Mo_alike_8 : decode b_Mo_alike 8 = .ok (.iload 5, 2) := by decide +kernel
theorem d_Mo_alike_10 : decode b_Mo_alike 10 = .ok (.iconst 3, 1) := by decide +kernel
theorem d_Mo_alike_11 : decode b_Mo_alike 11 = .ok (.if_icmp .ge 118, 3) := by decide +kernel
theorem d_Mo_alike_14 : decode b_Mo_alike 14 = .ok (.iload 5, 2) := by decide +kernel
theorem d_Mo_alike_16 : decode b_Mo_alike 16 = .ok (.iconst 2, 1) := by decide +kernel
theorem d_Mo_alike_17 : decode b_Mo_alike 17 = .ok (.if_icmp .ne 7, 3) := by decide +kernel
theorem d_Mo_alike_20 : decode b_Mo_alike 20 = .ok (.iconst 0, 1) := by decide +kernel
theorem d_Mo_alike_21 : decode b_Mo_alike 21 = .ok (.goto 7, 3) := by decide +kernel
theorem d_Mo_alike_24 : decode b_Mo_alike 24 = .ok (.iload 5, 2) := by decide +kernel
theorem d_Mo_alike_26 : decode b_Mo_alike 26 = .ok (.iconst 1, 1) := by decide +kernel
theorem d_Mo_alike_27 : decode b_Mo_alike 27 = .ok (.iadd, 1) := by decide +kernel
theorem d_Mo_alike_28 : decode b_Mo_alike 28 = .ok (.istore 6, 2) := by decide +kernel
theorem d_Mo_alike_30 : decode b_Mo_alike 30 = .ok (.iload_n 3, 1) := by decide +kernel
theorem d_Mo_alike_31 : decode b_Mo_alike 31 = .ok (.ifCond .eq 45, 3) := by decide +kernel
theorem d_Mo_alike_34 : decode b_Mo_alike 34 = .ok (.aload_n 0, 1) := by decide +kernel
theorem d_Mo_alike_35 : decode b_Mo_alike 35 = .ok (.iload_n 1, 1) := by decide +kernel
theorem d_Mo_alike_36 : decode b_Mo_alike 36 = .ok (.iload 5, 2) := by decide +kernel
theorem d_Mo_alike_38 : decode b_Mo_alike 38 = .ok (.invokevirtual 71, 3) := by decide +kernel
theorem d_Mo_alike_41 : decode b_Mo_alike 41 = .ok (.i2l, 1) := by decide +kernel
theorem d_Mo_alike_42 : decode b_Mo_alike 42 = .ok (.aload_n 0, 1) := by decide +kernel
theorem d_Mo_alike_43 : decode b_Mo_alike 43 = .ok (.iload_n 2, 1) := by decide +kernel
theorem d_Mo_alike_44 : decode b_Mo_alike 44 = .ok (.iload 6, 2) := by decide +kernel
theorem d_Mo_alike_46 : decode b_Mo_alike 46 = .ok (.invokevirtual 71, 3) := by decide +kernel
theorem d_Mo_alike_49 : decode b_Mo_alike 49 = .ok (.i2l, 1) := by decide +kernel
theorem d_Mo_alike_50 : decode b_Mo_alike 50 = .ok (.lmul, 1) := by decide +kernel
theorem d_Mo_alike_51 : decode b_Mo_alike 51 = .ok (.aload_n 0, 1) := by decide +kernel
theorem d_Mo_alike_52 : decode b_Mo_alike 52 = .ok (.iload_n 1, 1) := by decide +kernel
theorem d_Mo_alike_53 : decode b_Mo_alike 53 = .ok (.iload 6, 2) := by decide +kernel
theorem d_Mo_alike_55 : decode b_Mo_alike 55 = .ok (.invokevirtual 71, 3) := by decide +kernel
theorem d_Mo_alike_58 : decode b_Mo_alike 58 = .ok (.i2l, 1) := by decide +kernel
theorem d_Mo_alike_59 : decode b_Mo_alike 59 = .ok (.aload_n 0, 1) := by decide +kernel
theorem d_Mo_alike_60 : decode b_Mo_alike 60 = .ok (.iload_n 2, 1) := by decide +kernel
theorem d_Mo_alike_61 : decode b_Mo_alike 61 = .ok (.iload 5, 2) := by decide +kernel
theorem d_Mo_alike_63 : decode b_Mo_alike 63 = .ok (.invokevirtual 71, 3) := by decide +kernel
theorem d_Mo_alike_66 : decode b_Mo_alike 66 = .ok (.i2l, 1) := by decide +kernel
theorem d_Mo_alike_67 : decode b_Mo_alike 67 = .ok (.lmul, 1) := by decide +kernel
theorem d_Mo_alike_68 : decode b_Mo_alike 68 = .ok (.lcmp, 1) := by decide +kernel
theorem d_Mo_alike_69 : decode b_Mo_alike 69 = .ok (.ifCond .ne 7, 3) := by decide +kernel
theorem d_Mo_alike_72 : decode b_Mo_alike 72 = .ok (.iconst 1, 1) := by decide +kernel
theorem d_Mo_alike_73 : decode b_Mo_alike 73 = .ok (.goto 4, 3) := by decide +kernel
theorem d_Mo_alike_76 : decode b_Mo_alike 76 = .ok (.iconst 0, 1) := by decide +kernel
theorem d_Mo_alike_77 : decode b_Mo_alike 77 = .ok (.istore_n 3, 1) := by decide +kernel
theorem d_Mo_alike_78 : decode b_Mo_alike 78 = .ok (.aload_n 0, 1) := by decide +kernel
theorem d_Mo_alike_79 : decode b_Mo_alike 79 = .ok (.iload_n 1, 1) := by decide +kernel
theorem d_Mo_alike_80 : decode b_Mo_alike 80 = .ok (.iload 5, 2) := by decide +kernel
theorem d_Mo_alike_82 : decode b_Mo_alike 82 = .ok (.invokevirtual 71, 3) := by decide +kernel
theorem d_Mo_alike_85 : decode b_Mo_alike 85 = .ok (.i2l, 1) := by decide +kernel
theorem d_Mo_alike_86 : decode b_Mo_alike 86 = .ok (.aload_n 0, 1) := by decide +kernel
theorem d_Mo_alike_87 : decode b_Mo_alike 87 = .ok (.iload_n 2, 1) := by decide +kernel
theorem d_Mo_alike_88 : decode b_Mo_alike 88 = .ok (.iload 5, 2) := by decide +kernel
theorem d_Mo_alike_90 : decode b_Mo_alike 90 = .ok (.invokevirtual 71, 3) := by decide +kernel
theorem d_Mo_alike_93 : decode b_Mo_alike 93 = .ok (.i2l, 1) := by decide +kernel
theorem d_Mo_alike_94 : decode b_Mo_alike 94 = .ok (.lmul, 1) := by decide +kernel
theorem d_Mo_alike_95 : decode b_Mo_alike 95 = .ok (.lstore 7, 2) := by decide +kernel
theorem d_Mo_alike_97 : decode b_Mo_alike 97 = .ok (.lload 7, 2) := by decide +kernel
theorem d_Mo_alike_99 : decode b_Mo_alike 99 = .ok (.lconst 0, 1) := by decide +kernel
theorem d_Mo_alike_100 : decode b_Mo_alike 100 = .ok (.lcmp, 1) := by decide +kernel
theorem d_Mo_alike_101 : decode b_Mo_alike 101 = .ok (.ifCond .le 7, 3) := by decide +kernel
theorem d_Mo_alike_104 : decode b_Mo_alike 104 = .ok (.iconst 1, 1) := by decide +kernel
theorem d_Mo_alike_105 : decode b_Mo_alike 105 = .ok (.goto 16, 3) := by decide +kernel
theorem d_Mo_alike_108 : decode b_Mo_alike 108 = .ok (.lload 7, 2) := by decide +kernel
theorem d_Mo_alike_110 : decode b_Mo_alike 110 = .ok (.lconst 0, 1) := by decide +kernel
theorem d_Mo_alike_111 : decode b_Mo_alike 111 = .ok (.lcmp, 1) := by decide +kernel
theorem d_Mo_alike_112 : decode b_Mo_alike 112 = .ok (.ifCond .ge 7, 3) := by decide +kernel
theorem d_Mo_alike_115 : decode b_Mo_alike 115 = .ok (.iconst (-1), 1) := by decide +kernel
theorem d_Mo_alike_116 : decode b_Mo_alike 116 = .ok (.goto 5, 3) := by decide +kernel
theorem d_Mo_alike_119 : decode b_Mo_alike 119 = .ok (.iload 4, 2) := by decide +kernel
theorem d_Mo_alike_121 : decode b_Mo_alike 121 = .ok (.istore 4, 2) := by decide +kernel
theorem d_Mo_alike_123 : decode b_Mo_alike 123 = .ok (.iinc 5 1, 3) := by decide +kernel
theorem d_Mo_alike_126 : decode b_Mo_alike 126 = .ok (.goto (-118), 3) := by decide +kernel
theorem d_Mo_alike_129 : decode b_Mo_alike 129 = .ok (.iload_n 3, 1) := by decide +kernel
theorem d_Mo_alike_130 : decode b_Mo_alike 130 = .ok (.ifCond .eq 8, 3) := by decide +kernel
theorem d_Mo_alike_133 : decode b_Mo_alike 133 = .ok (.iload 4, 2) := by decide +kernel
theorem d_Mo_alike_135 : decode b_Mo_alike 135 = .ok (.goto 4, 3) := by decide +kernel
theorem d_Mo_alike_138 : decode b_Mo_alike 138 = .ok (.iconst 0, 1) := by decide +kernel
theorem d_Mo_alike_139 : decode b_Mo_alike 139 = .ok (.ireturn, 1) := by decide +kernel
theorem d_Mo_choiceAt_0 : decode b_Mo_choiceAt 0 = .ok (.iconst 0, 1) := by decide +kernel
theorem d_Mo_choiceAt_1 : decode b_Mo_choiceAt 1 = .ok (.istore_n 3, 1) := by decide +kernel
theorem d_Mo_choiceAt_2 : decode b_Mo_choiceAt 2 = .ok (.iconst 0, 1) := by decide +kernel
theorem d_Mo_choiceAt_3 : decode b_Mo_choiceAt 3 = .ok (.istore 4, 2) := by decide +kernel
theorem d_Mo_choiceAt_5 : decode b_Mo_choiceAt 5 = .ok (.iload 4, 2) := by decide +kernel
theorem d_Mo_choiceAt_7 : decode b_Mo_choiceAt 7 = .ok (.aload_n 0, 1) := by decide +kernel
theorem d_Mo_choiceAt_8 : decode b_Mo_choiceAt 8 = .ok (.getfield 39, 3) := by decide +kernel
theorem d_Mo_choiceAt_11 : decode b_Mo_choiceAt 11 = .ok (.if_icmp .ge 75, 3) := by decide +kernel
theorem d_Mo_choiceAt_14 : decode b_Mo_choiceAt 14 = .ok (.aload_n 0, 1) := by decide +kernel
theorem d_Mo_choiceAt_15 : decode b_Mo_choiceAt 15 = .ok (.getfield 20, 3) := by decide +kernel
theorem d_Mo_choiceAt_18 : decode b_Mo_choiceAt 18 = .ok (.iload 4, 2) := by decide +kernel
theorem d_Mo_choiceAt_20 : decode b_Mo_choiceAt 20 = .ok (.laload, 1) := by decide +kernel
theorem d_Mo_choiceAt_21 : decode b_Mo_choiceAt 21 = .ok (.lconst 0, 1) := by decide +kernel
theorem d_Mo_choiceAt_22 : decode b_Mo_choiceAt 22 = .ok (.lcmp, 1) := by decide +kernel
theorem d_Mo_choiceAt_23 : decode b_Mo_choiceAt 23 = .ok (.ifCond .lt 34, 3) := by decide +kernel
theorem d_Mo_choiceAt_26 : decode b_Mo_choiceAt 26 = .ok (.aload_n 0, 1) := by decide +kernel
theorem d_Mo_choiceAt_27 : decode b_Mo_choiceAt 27 = .ok (.getfield 20, 3) := by decide +kernel
theorem d_Mo_choiceAt_30 : decode b_Mo_choiceAt 30 = .ok (.iload 4, 2) := by decide +kernel
theorem d_Mo_choiceAt_32 : decode b_Mo_choiceAt 32 = .ok (.laload, 1) := by decide +kernel
theorem d_Mo_choiceAt_33 : decode b_Mo_choiceAt 33 = .ok (.lconst 0, 1) := by decide +kernel
theorem d_Mo_choiceAt_34 : decode b_Mo_choiceAt 34 = .ok (.lcmp, 1) := by decide +kernel
theorem d_Mo_choiceAt_35 : decode b_Mo_choiceAt 35 = .ok (.ifCond .ne 26, 3) := by decide +kernel
theorem d_Mo_choiceAt_38 : decode b_Mo_choiceAt 38 = .ok (.aload_n 0, 1) := by decide +kernel
theorem d_Mo_choiceAt_39 : decode b_Mo_choiceAt 39 = .ok (.iload_n 1, 1) := by decide +kernel
theorem d_Mo_choiceAt_40 : decode b_Mo_choiceAt 40 = .ok (.iload 4, 2) := by decide +kernel
theorem d_Mo_choiceAt_42 : decode b_Mo_choiceAt 42 = .ok (.invokevirtual 74, 3) := by decide +kernel
theorem d_Mo_choiceAt_45 : decode b_Mo_choiceAt 45 = .ok (.ifCond .le 7, 3) := by decide +kernel
theorem d_Mo_choiceAt_48 : decode b_Mo_choiceAt 48 = .ok (.iconst 1, 1) := by decide +kernel
theorem d_Mo_choiceAt_49 : decode b_Mo_choiceAt 49 = .ok (.goto 4, 3) := by decide +kernel
theorem d_Mo_choiceAt_52 : decode b_Mo_choiceAt 52 = .ok (.iconst 0, 1) := by decide +kernel
theorem d_Mo_choiceAt_53 : decode b_Mo_choiceAt 53 = .ok (.iload_n 2, 1) := by decide +kernel
theorem d_Mo_choiceAt_54 : decode b_Mo_choiceAt 54 = .ok (.if_icmp .ne 7, 3) := by decide +kernel
theorem d_Mo_choiceAt_57 : decode b_Mo_choiceAt 57 = .ok (.iconst 1, 1) := by decide +kernel
theorem d_Mo_choiceAt_58 : decode b_Mo_choiceAt 58 = .ok (.goto 4, 3) := by decide +kernel
theorem d_Mo_choiceAt_61 : decode b_Mo_choiceAt 61 = .ok (.iconst 0, 1) := by decide +kernel
theorem d_Mo_choiceAt_62 : decode b_Mo_choiceAt 62 = .ok (.istore 5, 2) := by decide +kernel
theorem d_Mo_choiceAt_64 : decode b_Mo_choiceAt 64 = .ok (.iload_n 3, 1) := by decide +kernel
theorem d_Mo_choiceAt_65 : decode b_Mo_choiceAt 65 = .ok (.iload 5, 2) := by decide +kernel
theorem d_Mo_choiceAt_67 : decode b_Mo_choiceAt 67 = .ok (.ifCond .eq 10, 3) := by decide +kernel
theorem d_Mo_choiceAt_70 : decode b_Mo_choiceAt 70 = .ok (.iconst 1, 1) := by decide +kernel
theorem d_Mo_choiceAt_71 : decode b_Mo_choiceAt 71 = .ok (.iload 4, 2) := by decide +kernel
theorem d_Mo_choiceAt_73 : decode b_Mo_choiceAt 73 = .ok (.ishl, 1) := by decide +kernel
theorem d_Mo_choiceAt_74 : decode b_Mo_choiceAt 74 = .ok (.goto 4, 3) := by decide +kernel
theorem d_Mo_choiceAt_77 : decode b_Mo_choiceAt 77 = .ok (.iconst 0, 1) := by decide +kernel
theorem d_Mo_choiceAt_78 : decode b_Mo_choiceAt 78 = .ok (.iadd, 1) := by decide +kernel
theorem d_Mo_choiceAt_79 : decode b_Mo_choiceAt 79 = .ok (.istore_n 3, 1) := by decide +kernel
theorem d_Mo_choiceAt_80 : decode b_Mo_choiceAt 80 = .ok (.iinc 4 1, 3) := by decide +kernel
theorem d_Mo_choiceAt_83 : decode b_Mo_choiceAt 83 = .ok (.goto (-78), 3) := by decide +kernel
theorem d_Mo_choiceAt_86 : decode b_Mo_choiceAt 86 = .ok (.iload_n 3, 1) := by decide +kernel
theorem d_Mo_choiceAt_87 : decode b_Mo_choiceAt 87 = .ok (.ireturn, 1) := by decide +kernel
theorem d_Mo_sideOf_0 : decode b_Mo_sideOf 0 = .ok (.iconst (-1), 1) := by decide +kernel
theorem d_Mo_sideOf_1 : decode b_Mo_sideOf 1 = .ok (.istore 5, 2) := by decide +kernel
theorem d_Mo_sideOf_3 : decode b_Mo_sideOf 3 = .ok (.iconst 0, 1) := by decide +kernel
theorem d_Mo_sideOf_4 : decode b_Mo_sideOf 4 = .ok (.istore 6, 2) := by decide +kernel
theorem d_Mo_sideOf_6 : decode b_Mo_sideOf 6 = .ok (.iconst 0, 1) := by decide +kernel
theorem d_Mo_sideOf_7 : decode b_Mo_sideOf 7 = .ok (.istore 7, 2) := by decide +kernel
theorem d_Mo_sideOf_9 : decode b_Mo_sideOf 9 = .ok (.iload 7, 2) := by decide +kernel
theorem d_Mo_sideOf_11 : decode b_Mo_sideOf 11 = .ok (.iconst 3, 1) := by decide +kernel
theorem d_Mo_sideOf_12 : decode b_Mo_sideOf 12 = .ok (.if_icmp .ge 64, 3) := by decide +kernel
theorem d_Mo_sideOf_15 : decode b_Mo_sideOf 15 = .ok (.iload 7, 2) := by decide +kernel
theorem d_Mo_sideOf_17 : decode b_Mo_sideOf 17 = .ok (.ifCond .ne 7, 3) := by decide +kernel
theorem d_Mo_sideOf_20 : decode b_Mo_sideOf 20 = .ok (.iload_n 1, 1) := by decide +kernel
theorem d_Mo_sideOf_21 : decode b_Mo_sideOf 21 = .ok (.goto 14, 3) := by decide +kernel
theorem d_Mo_sideOf_24 : decode b_Mo_sideOf 24 = .ok (.iload 7, 2) := by decide +kernel
theorem d_Mo_sideOf_26 : decode b_Mo_sideOf 26 = .ok (.iconst 1, 1) := by decide +kernel
theorem d_Mo_sideOf_27 : decode b_Mo_sideOf 27 = .ok (.if_icmp .ne 7, 3) := by decide +kernel
theorem d_Mo_sideOf_30 : decode b_Mo_sideOf 30 = .ok (.iload_n 2, 1) := by decide +kernel
theorem d_Mo_sideOf_31 : decode b_Mo_sideOf 31 = .ok (.goto 4, 3) := by decide +kernel
theorem d_Mo_sideOf_34 : decode b_Mo_sideOf 34 = .ok (.iload_n 3, 1) := by decide +kernel
theorem d_Mo_sideOf_35 : decode b_Mo_sideOf 35 = .ok (.istore 8, 2) := by decide +kernel
theorem d_Mo_sideOf_37 : decode b_Mo_sideOf 37 = .ok (.iload 8, 2) := by decide +kernel
theorem d_Mo_sideOf_39 : decode b_Mo_sideOf 39 = .ok (.iload 4, 2) := by decide +kernel
theorem d_Mo_sideOf_41 : decode b_Mo_sideOf 41 = .ok (.invokestatic 59, 3) := by decide +kernel
theorem d_Mo_sideOf_44 : decode b_Mo_sideOf 44 = .ok (.ifCond .ne 26, 3) := by decide +kernel
theorem d_Mo_sideOf_47 : decode b_Mo_sideOf 47 = .ok (.iload 8, 2) := by decide +kernel
theorem d_Mo_sideOf_49 : decode b_Mo_sideOf 49 = .ok (.ifCond .le 11, 3) := by decide +kernel
theorem d_Mo_sideOf_52 : decode b_Mo_sideOf 52 = .ok (.bipush 10, 2) := by decide +kernel
theorem d_Mo_sideOf_54 : decode b_Mo_sideOf 54 = .ok (.iload 7, 2) := by decide +kernel
theorem d_Mo_sideOf_56 : decode b_Mo_sideOf 56 = .ok (.iadd, 1) := by decide +kernel
theorem d_Mo_sideOf_57 : decode b_Mo_sideOf 57 = .ok (.goto 8, 3) := by decide +kernel
theorem d_Mo_sideOf_60 : decode b_Mo_sideOf 60 = .ok (.bipush 13, 2) := by decide +kernel
theorem d_Mo_sideOf_62 : decode b_Mo_sideOf 62 = .ok (.iload 7, 2) := by decide +kernel
theorem d_Mo_sideOf_64 : decode b_Mo_sideOf 64 = .ok (.iadd, 1) := by decide +kernel
theorem d_Mo_sideOf_65 : decode b_Mo_sideOf 65 = .ok (.istore 5, 2) := by decide +kernel
theorem d_Mo_sideOf_67 : decode b_Mo_sideOf 67 = .ok (.iinc 6 1, 3) := by decide +kernel
theorem d_Mo_sideOf_70 : decode b_Mo_sideOf 70 = .ok (.iinc 7 1, 3) := by decide +kernel
theorem d_Mo_sideOf_73 : decode b_Mo_sideOf 73 = .ok (.goto (-64), 3) := by decide +kernel
theorem d_Mo_sideOf_76 : decode b_Mo_sideOf 76 = .ok (.iload 6, 2) := by decide +kernel
theorem d_Mo_sideOf_78 : decode b_Mo_sideOf 78 = .ok (.iconst 1, 1) := by decide +kernel
theorem d_Mo_sideOf_79 : decode b_Mo_sideOf 79 = .ok (.if_icmp .le 5, 3) := by decide +kernel
theorem d_Mo_sideOf_82 : decode b_Mo_sideOf 82 = .ok (.iconst (-1), 1) := by decide +kernel
theorem d_Mo_sideOf_83 : decode b_Mo_sideOf 83 = .ok (.ireturn, 1) := by decide +kernel
theorem d_Mo_sideOf_84 : decode b_Mo_sideOf 84 = .ok (.iconst 0, 1) := by decide +kernel
theorem d_Mo_sideOf_85 : decode b_Mo_sideOf 85 = .ok (.istore 7, 2) := by decide +kernel
theorem d_Mo_sideOf_87 : decode b_Mo_sideOf 87 = .ok (.iload 7, 2) := by decide +kernel
theorem d_Mo_sideOf_89 : decode b_Mo_sideOf 89 = .ok (.aload_n 0, 1) := by decide +kernel
theorem d_Mo_sideOf_90 : decode b_Mo_sideOf 90 = .ok (.getfield 39, 3) := by decide +kernel
theorem d_Mo_sideOf_93 : decode b_Mo_sideOf 93 = .ok (.if_icmp .ge 48, 3) := by decide +kernel
theorem d_Mo_sideOf_96 : decode b_Mo_sideOf 96 = .ok (.aload_n 0, 1) := by decide +kernel
theorem d_Mo_sideOf_97 : decode b_Mo_sideOf 97 = .ok (.getfield 20, 3) := by decide +kernel
theorem d_Mo_sideOf_100 : decode b_Mo_sideOf 100 = .ok (.iload 7, 2) := by decide +kernel
theorem d_Mo_sideOf_102 : decode b_Mo_sideOf 102 = .ok (.laload, 1) := by decide +kernel
theorem d_Mo_sideOf_103 : decode b_Mo_sideOf 103 = .ok (.lconst 0, 1) := by decide +kernel
theorem d_Mo_sideOf_104 : decode b_Mo_sideOf 104 = .ok (.lcmp, 1) := by decide +kernel
theorem d_Mo_sideOf_105 : decode b_Mo_sideOf 105 = .ok (.ifCond .ne 30, 3) := by decide +kernel
theorem d_Mo_sideOf_108 : decode b_Mo_sideOf 108 = .ok (.iload 5, 2) := by decide +kernel
theorem d_Mo_sideOf_110 : decode b_Mo_sideOf 110 = .ok (.ifCond .ge 8, 3) := by decide +kernel
theorem d_Mo_sideOf_113 : decode b_Mo_sideOf 113 = .ok (.iload 7, 2) := by decide +kernel
theorem d_Mo_sideOf_115 : decode b_Mo_sideOf 115 = .ok (.goto 5, 3) := by decide +kernel
theorem d_Mo_sideOf_118 : decode b_Mo_sideOf 118 = .ok (.iload 5, 2) := by decide +kernel
theorem d_Mo_sideOf_120 : decode b_Mo_sideOf 120 = .ok (.istore 5, 2) := by decide +kernel
theorem d_Mo_sideOf_122 : decode b_Mo_sideOf 122 = .ok (.aload_n 0, 1) := by decide +kernel
theorem d_Mo_sideOf_123 : decode b_Mo_sideOf 123 = .ok (.iload 5, 2) := by decide +kernel
theorem d_Mo_sideOf_125 : decode b_Mo_sideOf 125 = .ok (.iload 7, 2) := by decide +kernel
theorem d_Mo_sideOf_127 : decode b_Mo_sideOf 127 = .ok (.invokevirtual 74, 3) := by decide +kernel
theorem d_Mo_sideOf_130 : decode b_Mo_sideOf 130 = .ok (.ifCond .ne 5, 3) := by decide +kernel
theorem d_Mo_sideOf_133 : decode b_Mo_sideOf 133 = .ok (.iconst (-1), 1) := by decide +kernel
theorem d_Mo_sideOf_134 : decode b_Mo_sideOf 134 = .ok (.ireturn, 1) := by decide +kernel
theorem d_Mo_sideOf_135 : decode b_Mo_sideOf 135 = .ok (.iinc 7 1, 3) := by decide +kernel
theorem d_Mo_sideOf_138 : decode b_Mo_sideOf 138 = .ok (.goto (-51), 3) := by decide +kernel
theorem d_Mo_sideOf_141 : decode b_Mo_sideOf 141 = .ok (.iload 5, 2) := by decide +kernel
theorem d_Mo_sideOf_143 : decode b_Mo_sideOf 143 = .ok (.ireturn, 1) := by decide +kernel
theorem d_Mo_side_0 : decode b_Mo_side 0 = .ok (.aload_n 0, 1) := by decide +kernel
theorem d_Mo_side_1 : decode b_Mo_side 1 = .ok (.iload_n 1, 1) := by decide +kernel
theorem d_Mo_side_2 : decode b_Mo_side 2 = .ok (.iload_n 2, 1) := by decide +kernel
theorem d_Mo_side_3 : decode b_Mo_side 3 = .ok (.iload_n 3, 1) := by decide +kernel
theorem d_Mo_side_4 : decode b_Mo_side 4 = .ok (.iload 4, 2) := by decide +kernel
theorem d_Mo_side_6 : decode b_Mo_side 6 = .ok (.invokestatic 47, 3) := by decide +kernel
theorem d_Mo_side_9 : decode b_Mo_side 9 = .ok (.ifCond .ne 7, 3) := by decide +kernel
theorem d_Mo_side_12 : decode b_Mo_side 12 = .ok (.iconst 1, 1) := by decide +kernel
theorem d_Mo_side_13 : decode b_Mo_side 13 = .ok (.goto 15, 3) := by decide +kernel
theorem d_Mo_side_16 : decode b_Mo_side 16 = .ok (.aload_n 0, 1) := by decide +kernel
theorem d_Mo_side_17 : decode b_Mo_side 17 = .ok (.getfield 42, 3) := by decide +kernel
theorem d_Mo_side_20 : decode b_Mo_side 20 = .ok (.ifCond .ne 7, 3) := by decide +kernel
theorem d_Mo_side_23 : decode b_Mo_side 23 = .ok (.iconst 2, 1) := by decide +kernel
theorem d_Mo_side_24 : decode b_Mo_side 24 = .ok (.goto 4, 3) := by decide +kernel
theorem d_Mo_side_27 : decode b_Mo_side 27 = .ok (.iconst 0, 1) := by decide +kernel
theorem d_Mo_side_28 : decode b_Mo_side 28 = .ok (.putfield 29, 3) := by decide +kernel
theorem d_Mo_side_31 : decode b_Mo_side 31 = .ok (.aload_n 0, 1) := by decide +kernel
theorem d_Mo_side_32 : decode b_Mo_side 32 = .ok (.getfield 29, 3) := by decide +kernel
theorem d_Mo_side_35 : decode b_Mo_side 35 = .ok (.ifCond .le 5, 3) := by decide +kernel
theorem d_Mo_side_38 : decode b_Mo_side 38 = .ok (.iconst 0, 1) := by decide +kernel
theorem d_Mo_side_39 : decode b_Mo_side 39 = .ok (.ireturn, 1) := by decide +kernel
theorem d_Mo_side_40 : decode b_Mo_side 40 = .ok (.aload_n 0, 1) := by decide +kernel
theorem d_Mo_side_41 : decode b_Mo_side 41 = .ok (.iload_n 1, 1) := by decide +kernel
theorem d_Mo_side_42 : decode b_Mo_side 42 = .ok (.iload_n 2, 1) := by decide +kernel
theorem d_Mo_side_43 : decode b_Mo_side 43 = .ok (.iload_n 3, 1) := by decide +kernel
theorem d_Mo_side_44 : decode b_Mo_side 44 = .ok (.iload 4, 2) := by decide +kernel
theorem d_Mo_side_46 : decode b_Mo_side 46 = .ok (.invokevirtual 51, 3) := by decide +kernel
theorem d_Mo_side_49 : decode b_Mo_side 49 = .ok (.aload_n 0, 1) := by decide +kernel
theorem d_Mo_side_50 : decode b_Mo_side 50 = .ok (.iload_n 1, 1) := by decide +kernel
theorem d_Mo_side_51 : decode b_Mo_side 51 = .ok (.iload_n 2, 1) := by decide +kernel
theorem d_Mo_side_52 : decode b_Mo_side 52 = .ok (.iload_n 3, 1) := by decide +kernel
theorem d_Mo_side_53 : decode b_Mo_side 53 = .ok (.iload 4, 2) := by decide +kernel
theorem d_Mo_side_55 : decode b_Mo_side 55 = .ok (.invokevirtual 77, 3) := by decide +kernel
theorem d_Mo_side_58 : decode b_Mo_side 58 = .ok (.istore 5, 2) := by decide +kernel
theorem d_Mo_side_60 : decode b_Mo_side 60 = .ok (.iload 5, 2) := by decide +kernel
theorem d_Mo_side_62 : decode b_Mo_side 62 = .ok (.ifCond .ge 10, 3) := by decide +kernel
theorem d_Mo_side_65 : decode b_Mo_side 65 = .ok (.aload_n 0, 1) := by decide +kernel
theorem d_Mo_side_66 : decode b_Mo_side 66 = .ok (.iconst 3, 1) := by decide +kernel
theorem d_Mo_side_67 : decode b_Mo_side 67 = .ok (.putfield 29, 3) := by decide +kernel
theorem d_Mo_side_70 : decode b_Mo_side 70 = .ok (.iconst 0, 1) := by decide +kernel
theorem d_Mo_side_71 : decode b_Mo_side 71 = .ok (.ireturn, 1) := by decide +kernel
theorem d_Mo_side_72 : decode b_Mo_side 72 = .ok (.iload_n 1, 1) := by decide +kernel
theorem d_Mo_side_73 : decode b_Mo_side 73 = .ok (.iload 4, 2) := by decide +kernel
theorem d_Mo_side_75 : decode b_Mo_side 75 = .ok (.invokestatic 59, 3) := by decide +kernel
theorem d_Mo_side_78 : decode b_Mo_side 78 = .ok (.ifCond .lt 25, 3) := by decide +kernel
theorem d_Mo_side_81 : decode b_Mo_side 81 = .ok (.iload_n 2, 1) := by decide +kernel
theorem d_Mo_side_82 : decode b_Mo_side 82 = .ok (.iload 4, 2) := by decide +kernel
theorem d_Mo_side_84 : decode b_Mo_side 84 = .ok (.invokestatic 59, 3) := by decide +kernel
theorem d_Mo_side_87 : decode b_Mo_side 87 = .ok (.ifCond .lt 16, 3) := by decide +kernel
theorem d_Mo_side_90 : decode b_Mo_side 90 = .ok (.iload_n 3, 1) := by decide +kernel
theorem d_Mo_side_91 : decode b_Mo_side 91 = .ok (.iload 4, 2) := by decide +kernel
theorem d_Mo_side_93 : decode b_Mo_side 93 = .ok (.invokestatic 59, 3) := by decide +kernel
theorem d_Mo_side_96 : decode b_Mo_side 96 = .ok (.ifCond .lt 7, 3) := by decide +kernel
theorem d_Mo_side_99 : decode b_Mo_side 99 = .ok (.iconst 1, 1) := by decide +kernel
theorem d_Mo_side_100 : decode b_Mo_side 100 = .ok (.goto 4, 3) := by decide +kernel
theorem d_Mo_side_103 : decode b_Mo_side 103 = .ok (.iconst 0, 1) := by decide +kernel
theorem d_Mo_side_104 : decode b_Mo_side 104 = .ok (.istore 6, 2) := by decide +kernel
theorem d_Mo_side_106 : decode b_Mo_side 106 = .ok (.iload 6, 2) := by decide +kernel
theorem d_Mo_side_108 : decode b_Mo_side 108 = .ok (.ifCond .eq 21, 3) := by decide +kernel
theorem d_Mo_side_111 : decode b_Mo_side 111 = .ok (.aload_n 0, 1) := by decide +kernel
theorem d_Mo_side_112 : decode b_Mo_side 112 = .ok (.aload_n 0, 1) := by decide +kernel
theorem d_Mo_side_113 : decode b_Mo_side 113 = .ok (.iload 5, 2) := by decide +kernel
theorem d_Mo_side_115 : decode b_Mo_side 115 = .ok (.iconst 1, 1) := by decide +kernel
theorem d_Mo_side_116 : decode b_Mo_side 116 = .ok (.invokevirtual 81, 3) := by decide +kernel
theorem d_Mo_side_119 : decode b_Mo_side 119 = .ok (.invokevirtual 67, 3) := by decide +kernel
theorem d_Mo_side_122 : decode b_Mo_side 122 = .ok (.ifCond .eq 7, 3) := by decide +kernel
theorem d_Mo_side_125 : decode b_Mo_side 125 = .ok (.iconst 1, 1) := by decide +kernel
theorem d_Mo_side_126 : decode b_Mo_side 126 = .ok (.goto 4, 3) := by decide +kernel
theorem d_Mo_side_129 : decode b_Mo_side 129 = .ok (.iconst 0, 1) := by decide +kernel
theorem d_Mo_side_130 : decode b_Mo_side 130 = .ok (.istore 7, 2) := by decide +kernel
theorem d_Mo_side_132 : decode b_Mo_side 132 = .ok (.iload 6, 2) := by decide +kernel
theorem d_Mo_side_134 : decode b_Mo_side 134 = .ok (.ifCond .eq 28, 3) := by decide +kernel
theorem d_Mo_side_137 : decode b_Mo_side 137 = .ok (.iload 5, 2) := by decide +kernel
theorem d_Mo_side_139 : decode b_Mo_side 139 = .ok (.bipush 10, 2) := by decide +kernel
theorem d_Mo_side_141 : decode b_Mo_side 141 = .ok (.if_icmp .ge 21, 3) := by decide +kernel
theorem d_Mo_side_144 : decode b_Mo_side 144 = .ok (.aload_n 0, 1) := by decide +kernel
theorem d_Mo_side_145 : decode b_Mo_side 145 = .ok (.aload_n 0, 1) := by decide +kernel
theorem d_Mo_side_146 : decode b_Mo_side 146 = .ok (.iload 5, 2) := by decide +kernel
theorem d_Mo_side_148 : decode b_Mo_side 148 = .ok (.iconst 0, 1) := by decide +kernel
theorem d_Mo_side_149 : decode b_Mo_side 149 = .ok (.invokevirtual 81, 3) := by decide +kernel
theorem d_Mo_side_152 : decode b_Mo_side 152 = .ok (.invokevirtual 67, 3) := by decide +kernel
theorem d_Mo_side_155 : decode b_Mo_side 155 = .ok (.ifCond .eq 7, 3) := by decide +kernel
theorem d_Mo_side_158 : decode b_Mo_side 158 = .ok (.iconst 1, 1) := by decide +kernel
theorem d_Mo_side_159 : decode b_Mo_side 159 = .ok (.goto 4, 3) := by decide +kernel
theorem d_Mo_side_162 : decode b_Mo_side 162 = .ok (.iconst 0, 1) := by decide +kernel
theorem d_Mo_side_163 : decode b_Mo_side 163 = .ok (.istore 8, 2) := by decide +kernel
theorem d_Mo_side_165 : decode b_Mo_side 165 = .ok (.iload 7, 2) := by decide +kernel
theorem d_Mo_side_167 : decode b_Mo_side 167 = .ok (.iload 8, 2) := by decide +kernel
theorem d_Mo_side_169 : decode b_Mo_side 169 = .ok (.if_icmp .ne 7, 3) := by decide +kernel
theorem d_Mo_side_172 : decode b_Mo_side 172 = .ok (.iconst 0, 1) := by decide +kernel
theorem d_Mo_side_173 : decode b_Mo_side 173 = .ok (.goto 13, 3) := by decide +kernel
theorem d_Mo_side_176 : decode b_Mo_side 176 = .ok (.iload 7, 2) := by decide +kernel
theorem d_Mo_side_178 : decode b_Mo_side 178 = .ok (.ifCond .eq 7, 3) := by decide +kernel
theorem d_Mo_side_181 : decode b_Mo_side 181 = .ok (.iconst 1, 1) := by decide +kernel
theorem d_Mo_side_182 : decode b_Mo_side 182 = .ok (.goto 4, 3) := by decide +kernel
theorem d_Mo_side_185 : decode b_Mo_side 185 = .ok (.iconst (-1), 1) := by decide +kernel
theorem d_Mo_side_186 : decode b_Mo_side 186 = .ok (.ireturn, 1) := by decide +kernel
theorem d_Mo_compare_0 : decode b_Mo_compare 0 = .ok (.lload_n 0, 1) := by decide +kernel
theorem d_Mo_compare_1 : decode b_Mo_compare 1 = .ok (.lload 6, 2) := by decide +kernel
theorem d_Mo_compare_3 : decode b_Mo_compare 3 = .ok (.lmul, 1) := by decide +kernel
theorem d_Mo_compare_4 : decode b_Mo_compare 4 = .ok (.lstore 8, 2) := by decide +kernel
theorem d_Mo_compare_6 : decode b_Mo_compare 6 = .ok (.lload 4, 2) := by decide +kernel
theorem d_Mo_compare_8 : decode b_Mo_compare 8 = .ok (.lload_n 2, 1) := by decide +kernel
theorem d_Mo_compare_9 : decode b_Mo_compare 9 = .ok (.lmul, 1) := by decide +kernel
theorem d_Mo_compare_10 : decode b_Mo_compare 10 = .ok (.lstore 10, 2) := by decide +kernel
theorem d_Mo_compare_12 : decode b_Mo_compare 12 = .ok (.lload 8, 2) := by decide +kernel
theorem d_Mo_compare_14 : decode b_Mo_compare 14 = .ok (.lload 10, 2) := by decide +kernel
theorem d_Mo_compare_16 : decode b_Mo_compare 16 = .ok (.lcmp, 1) := by decide +kernel
theorem d_Mo_compare_17 : decode b_Mo_compare 17 = .ok (.ifCond .ge 7, 3) := by decide +kernel
theorem d_Mo_compare_20 : decode b_Mo_compare 20 = .ok (.iconst (-1), 1) := by decide +kernel
theorem d_Mo_compare_21 : decode b_Mo_compare 21 = .ok (.goto 16, 3) := by decide +kernel
theorem d_Mo_compare_24 : decode b_Mo_compare 24 = .ok (.lload 8, 2) := by decide +kernel
theorem d_Mo_compare_26 : decode b_Mo_compare 26 = .ok (.lload 10, 2) := by decide +kernel
theorem d_Mo_compare_28 : decode b_Mo_compare 28 = .ok (.lcmp, 1) := by decide +kernel
theorem d_Mo_compare_29 : decode b_Mo_compare 29 = .ok (.ifCond .le 7, 3) := by decide +kernel
theorem d_Mo_compare_32 : decode b_Mo_compare 32 = .ok (.iconst 1, 1) := by decide +kernel
theorem d_Mo_compare_33 : decode b_Mo_compare 33 = .ok (.goto 4, 3) := by decide +kernel
theorem d_Mo_compare_36 : decode b_Mo_compare 36 = .ok (.iconst 0, 1) := by decide +kernel
theorem d_Mo_compare_37 : decode b_Mo_compare 37 = .ok (.ireturn, 1) := by decide +kernel
theorem d_Mo_meet_0 : decode b_Mo_meet 0 = .ok (.iload_n 1, 1) := by decide +kernel
theorem d_Mo_meet_1 : decode b_Mo_meet 1 = .ok (.ifCond .ne 7, 3) := by decide +kernel
theorem d_Mo_meet_4 : decode b_Mo_meet 4 = .ok (.iconst 1, 1) := by decide +kernel
theorem d_Mo_meet_5 : decode b_Mo_meet 5 = .ok (.goto 4, 3) := by decide +kernel
theorem d_Mo_meet_8 : decode b_Mo_meet 8 = .ok (.iconst 0, 1) := by decide +kernel
theorem d_Mo_meet_9 : decode b_Mo_meet 9 = .ok (.istore 4, 2) := by decide +kernel
theorem d_Mo_meet_11 : decode b_Mo_meet 11 = .ok (.iload_n 1, 1) := by decide +kernel
theorem d_Mo_meet_12 : decode b_Mo_meet 12 = .ok (.iconst 2, 1) := by decide +kernel
theorem d_Mo_meet_13 : decode b_Mo_meet 13 = .ok (.if_icmp .ne 7, 3) := by decide +kernel
theorem d_Mo_meet_16 : decode b_Mo_meet 16 = .ok (.iconst 1, 1) := by decide +kernel
theorem d_Mo_meet_17 : decode b_Mo_meet 17 = .ok (.goto 4, 3) := by decide +kernel
theorem d_Mo_meet_20 : decode b_Mo_meet 20 = .ok (.iconst 2, 1) := by decide +kernel
theorem d_Mo_meet_21 : decode b_Mo_meet 21 = .ok (.istore 5, 2) := by decide +kernel
theorem d_Mo_meet_23 : decode b_Mo_meet 23 = .ok (.iconst 0, 1) := by decide +kernel
theorem d_Mo_meet_24 : decode b_Mo_meet 24 = .ok (.istore 6, 2) := by decide +kernel
theorem d_Mo_meet_26 : decode b_Mo_meet 26 = .ok (.iload 6, 2) := by decide +kernel
theorem d_Mo_meet_28 : decode b_Mo_meet 28 = .ok (.aload_n 0, 1) := by decide +kernel
theorem d_Mo_meet_29 : decode b_Mo_meet 29 = .ok (.getfield 39, 3) := by decide +kernel
theorem d_Mo_meet_32 : decode b_Mo_meet 32 = .ok (.if_icmp .ge 137, 3) := by decide +kernel
theorem d_Mo_meet_35 : decode b_Mo_meet 35 = .ok (.aload_n 0, 1) := by decide +kernel
theorem d_Mo_meet_36 : decode b_Mo_meet 36 = .ok (.getfield 7, 3) := by decide +kernel
theorem d_Mo_meet_39 : decode b_Mo_meet 39 = .ok (.iconst 3, 1) := by decide +kernel
theorem d_Mo_meet_40 : decode b_Mo_meet 40 = .ok (.iload 6, 2) := by decide +kernel
theorem d_Mo_meet_42 : decode b_Mo_meet 42 = .ok (.imul, 1) := by decide +kernel
theorem d_Mo_meet_43 : decode b_Mo_meet 43 = .ok (.iload_n 1, 1) := by decide +kernel
theorem d_Mo_meet_44 : decode b_Mo_meet 44 = .ok (.iadd, 1) := by decide +kernel
theorem d_Mo_meet_45 : decode b_Mo_meet 45 = .ok (.iaload, 1) := by decide +kernel
theorem d_Mo_meet_46 : decode b_Mo_meet 46 = .ok (.i2l, 1) := by decide +kernel
theorem d_Mo_meet_47 : decode b_Mo_meet 47 = .ok (.lstore 7, 2) := by decide +kernel
theorem d_Mo_meet_49 : decode b_Mo_meet 49 = .ok (.aload_n 0, 1) := by decide +kernel
theorem d_Mo_meet_50 : decode b_Mo_meet 50 = .ok (.getfield 13, 3) := by decide +kernel
theorem d_Mo_meet_53 : decode b_Mo_meet 53 = .ok (.iload 6, 2) := by decide +kernel
theorem d_Mo_meet_55 : decode b_Mo_meet 55 = .ok (.iaload, 1) := by decide +kernel
theorem d_Mo_meet_56 : decode b_Mo_meet 56 = .ok (.i2l, 1) := by decide +kernel
theorem d_Mo_meet_57 : decode b_Mo_meet 57 = .ok (.aload_n 0, 1) := by decide +kernel
theorem d_Mo_meet_58 : decode b_Mo_meet 58 = .ok (.getfield 7, 3) := by decide +kernel
theorem d_Mo_meet_61 : decode b_Mo_meet 61 = .ok (.iconst 3, 1) := by decide +kernel
theorem d_Mo_meet_62 : decode b_Mo_meet 62 = .ok (.iload 6, 2) := by decide +kernel
theorem d_Mo_meet_64 : decode b_Mo_meet 64 = .ok (.imul, 1) := by decide +kernel
theorem d_Mo_meet_65 : decode b_Mo_meet 65 = .ok (.iload 4, 2) := by decide +kernel
theorem d_Mo_meet_67 : decode b_Mo_meet 67 = .ok (.iadd, 1) := by decide +kernel
theorem d_Mo_meet_68 : decode b_Mo_meet 68 = .ok (.iaload, 1) := by decide +kernel
theorem d_Mo_meet_69 : decode b_Mo_meet 69 = .ok (.i2l, 1) := by decide +kernel
theorem d_Mo_meet_70 : decode b_Mo_meet 70 = .ok (.iload_n 2, 1) := by decide +kernel
theorem d_Mo_meet_71 : decode b_Mo_meet 71 = .ok (.i2l, 1) := by decide +kernel
theorem d_Mo_meet_72 : decode b_Mo_meet 72 = .ok (.lmul, 1) := by decide +kernel
theorem d_Mo_meet_73 : decode b_Mo_meet 73 = .ok (.lsub, 1) := by decide +kernel
theorem d_Mo_meet_74 : decode b_Mo_meet 74 = .ok (.aload_n 0, 1) := by decide +kernel
theorem d_Mo_meet_75 : decode b_Mo_meet 75 = .ok (.getfield 7, 3) := by decide +kernel
theorem d_Mo_meet_78 : decode b_Mo_meet 78 = .ok (.iconst 3, 1) := by decide +kernel
theorem d_Mo_meet_79 : decode b_Mo_meet 79 = .ok (.iload 6, 2) := by decide +kernel
theorem d_Mo_meet_81 : decode b_Mo_meet 81 = .ok (.imul, 1) := by decide +kernel
theorem d_Mo_meet_82 : decode b_Mo_meet 82 = .ok (.iload 5, 2) := by decide +kernel
theorem d_Mo_meet_84 : decode b_Mo_meet 84 = .ok (.iadd, 1) := by decide +kernel
theorem d_Mo_meet_85 : decode b_Mo_meet 85 = .ok (.iaload, 1) := by decide +kernel
theorem d_Mo_meet_86 : decode b_Mo_meet 86 = .ok (.i2l, 1) := by decide +kernel
theorem d_Mo_meet_87 : decode b_Mo_meet 87 = .ok (.iload_n 3, 1) := by decide +kernel
theorem d_Mo_meet_88 : decode b_Mo_meet 88 = .ok (.i2l, 1) := by decide +kernel
theorem d_Mo_meet_89 : decode b_Mo_meet 89 = .ok (.lmul, 1) := by decide +kernel
theorem d_Mo_meet_90 : decode b_Mo_meet 90 = .ok (.lsub, 1) := by decide +kernel
theorem d_Mo_meet_91 : decode b_Mo_meet 91 = .ok (.lstore 9, 2) := by decide +kernel
theorem d_Mo_meet_93 : decode b_Mo_meet 93 = .ok (.lload 7, 2) := by decide +kernel
theorem d_Mo_meet_95 : decode b_Mo_meet 95 = .ok (.lconst 0, 1) := by decide +kernel
theorem d_Mo_meet_96 : decode b_Mo_meet 96 = .ok (.lcmp, 1) := by decide +kernel
theorem d_Mo_meet_97 : decode b_Mo_meet 97 = .ok (.ifCond .ne 12, 3) := by decide +kernel
theorem d_Mo_meet_100 : decode b_Mo_meet 100 = .ok (.lload 9, 2) := by decide +kernel
theorem d_Mo_meet_102 : decode b_Mo_meet 102 = .ok (.lconst 0, 1) := by decide +kernel
theorem d_Mo_meet_103 : decode b_Mo_meet 103 = .ok (.lcmp, 1) := by decide +kernel
theorem d_Mo_meet_104 : decode b_Mo_meet 104 = .ok (.ifCond .ne 5, 3) := by decide +kernel
theorem d_Mo_meet_107 : decode b_Mo_meet 107 = .ok (.iconst 0, 1) := by decide +kernel
theorem d_Mo_meet_108 : decode b_Mo_meet 108 = .ok (.ireturn, 1) := by decide +kernel
theorem d_Mo_meet_109 : decode b_Mo_meet 109 = .ok (.aload_n 0, 1) := by decide +kernel
theorem d_Mo_meet_110 : decode b_Mo_meet 110 = .ok (.getfield 20, 3) := by decide +kernel
theorem d_Mo_meet_113 : decode b_Mo_meet 113 = .ok (.iload 6, 2) := by decide +kernel
theorem d_Mo_meet_115 : decode b_Mo_meet 115 = .ok (.lload 9, 2) := by decide +kernel
theorem d_Mo_meet_117 : decode b_Mo_meet 117 = .ok (.lneg, 1) := by decide +kernel
theorem d_Mo_meet_118 : decode b_Mo_meet 118 = .ok (.lastore, 1) := by decide +kernel
theorem d_Mo_meet_119 : decode b_Mo_meet 119 = .ok (.aload_n 0, 1) := by decide +kernel
theorem d_Mo_meet_120 : decode b_Mo_meet 120 = .ok (.getfield 23, 3) := by decide +kernel
theorem d_Mo_meet_123 : decode b_Mo_meet 123 = .ok (.iload 6, 2) := by decide +kernel
theorem d_Mo_meet_125 : decode b_Mo_meet 125 = .ok (.lload 7, 2) := by decide +kernel
theorem d_Mo_meet_127 : decode b_Mo_meet 127 = .ok (.lconst 0, 1) := by decide +kernel
theorem d_Mo_meet_128 : decode b_Mo_meet 128 = .ok (.lcmp, 1) := by decide +kernel
theorem d_Mo_meet_129 : decode b_Mo_meet 129 = .ok (.ifCond .ge 9, 3) := by decide +kernel
theorem d_Mo_meet_132 : decode b_Mo_meet 132 = .ok (.lload 9, 2) := by decide +kernel
theorem d_Mo_meet_134 : decode b_Mo_meet 134 = .ok (.lneg, 1) := by decide +kernel
theorem d_Mo_meet_135 : decode b_Mo_meet 135 = .ok (.goto 5, 3) := by decide +kernel
theorem d_Mo_meet_138 : decode b_Mo_meet 138 = .ok (.lload 9, 2) := by decide +kernel
theorem d_Mo_meet_140 : decode b_Mo_meet 140 = .ok (.lastore, 1) := by decide +kernel
theorem d_Mo_meet_141 : decode b_Mo_meet 141 = .ok (.aload_n 0, 1) := by decide +kernel
theorem d_Mo_meet_142 : decode b_Mo_meet 142 = .ok (.getfield 26, 3) := by decide +kernel
theorem d_Mo_meet_145 : decode b_Mo_meet 145 = .ok (.iload 6, 2) := by decide +kernel
theorem d_Mo_meet_147 : decode b_Mo_meet 147 = .ok (.lload 7, 2) := by decide +kernel
theorem d_Mo_meet_149 : decode b_Mo_meet 149 = .ok (.lconst 0, 1) := by decide +kernel
theorem d_Mo_meet_150 : decode b_Mo_meet 150 = .ok (.lcmp, 1) := by decide +kernel
theorem d_Mo_meet_151 : decode b_Mo_meet 151 = .ok (.ifCond .ge 9, 3) := by decide +kernel
theorem d_Mo_meet_154 : decode b_Mo_meet 154 = .ok (.lload 7, 2) := by decide +kernel
theorem d_Mo_meet_156 : decode b_Mo_meet 156 = .ok (.lneg, 1) := by decide +kernel
theorem d_Mo_meet_157 : decode b_Mo_meet 157 = .ok (.goto 5, 3) := by decide +kernel
theorem d_Mo_meet_160 : decode b_Mo_meet 160 = .ok (.lload 7, 2) := by decide +kernel
theorem d_Mo_meet_162 : decode b_Mo_meet 162 = .ok (.lastore, 1) := by decide +kernel
theorem d_Mo_meet_163 : decode b_Mo_meet 163 = .ok (.iinc 6 1, 3) := by decide +kernel
theorem d_Mo_meet_166 : decode b_Mo_meet 166 = .ok (.goto (-140), 3) := by decide +kernel
theorem d_Mo_meet_169 : decode b_Mo_meet 169 = .ok (.iconst 1, 1) := by decide +kernel
theorem d_Mo_meet_170 : decode b_Mo_meet 170 = .ok (.ireturn, 1) := by decide +kernel
theorem d_Mo_isInBox_0 : decode b_Mo_isInBox 0 = .ok (.aload_n 0, 1) := by decide +kernel
theorem d_Mo_isInBox_1 : decode b_Mo_isInBox 1 = .ok (.getfield 26, 3) := by decide +kernel
theorem d_Mo_isInBox_4 : decode b_Mo_isInBox 4 = .ok (.iload_n 1, 1) := by decide +kernel
theorem d_Mo_isInBox_5 : decode b_Mo_isInBox 5 = .ok (.laload, 1) := by decide +kernel
theorem d_Mo_isInBox_6 : decode b_Mo_isInBox 6 = .ok (.lconst 0, 1) := by decide +kernel
theorem d_Mo_isInBox_7 : decode b_Mo_isInBox 7 = .ok (.lcmp, 1) := by decide +kernel
theorem d_Mo_isInBox_8 : decode b_Mo_isInBox 8 = .ok (.ifCond .le 51, 3) := by decide +kernel
theorem d_Mo_isInBox_11 : decode b_Mo_isInBox 11 = .ok (.aload_n 0, 1) := by decide +kernel
theorem d_Mo_isInBox_12 : decode b_Mo_isInBox 12 = .ok (.getfield 23, 3) := by decide +kernel
theorem d_Mo_isInBox_15 : decode b_Mo_isInBox 15 = .ok (.iload_n 1, 1) := by decide +kernel
theorem d_Mo_isInBox_16 : decode b_Mo_isInBox 16 = .ok (.laload, 1) := by decide +kernel
theorem d_Mo_isInBox_17 : decode b_Mo_isInBox 17 = .ok (.aload_n 0, 1) := by decide +kernel
theorem d_Mo_isInBox_18 : decode b_Mo_isInBox 18 = .ok (.getfield 26, 3) := by decide +kernel
theorem d_Mo_isInBox_21 : decode b_Mo_isInBox 21 = .ok (.iload_n 1, 1) := by decide +kernel
theorem d_Mo_isInBox_22 : decode b_Mo_isInBox 22 = .ok (.laload, 1) := by decide +kernel
theorem d_Mo_isInBox_23 : decode b_Mo_isInBox 23 = .ok (.ldc2_w 85, 3) := by decide +kernel
theorem d_Mo_isInBox_26 : decode b_Mo_isInBox 26 = .ok (.lconst 1, 1) := by decide +kernel
theorem d_Mo_isInBox_27 : decode b_Mo_isInBox 27 = .ok (.invokestatic 87, 3) := by decide +kernel
theorem d_Mo_isInBox_30 : decode b_Mo_isInBox 30 = .ok (.ifCond .lt 29, 3) := by decide +kernel
theorem d_Mo_isInBox_33 : decode b_Mo_isInBox 33 = .ok (.aload_n 0, 1) := by decide +kernel
theorem d_Mo_isInBox_34 : decode b_Mo_isInBox 34 = .ok (.getfield 23, 3) := by decide +kernel
theorem d_Mo_isInBox_37 : decode b_Mo_isInBox 37 = .ok (.iload_n 1, 1) := by decide +kernel
theorem d_Mo_isInBox_38 : decode b_Mo_isInBox 38 = .ok (.laload, 1) := by decide +kernel
theorem d_Mo_isInBox_39 : decode b_Mo_isInBox 39 = .ok (.aload_n 0, 1) := by decide +kernel
theorem d_Mo_isInBox_40 : decode b_Mo_isInBox 40 = .ok (.getfield 26, 3) := by decide +kernel
theorem d_Mo_isInBox_43 : decode b_Mo_isInBox 43 = .ok (.iload_n 1, 1) := by decide +kernel
theorem d_Mo_isInBox_44 : decode b_Mo_isInBox 44 = .ok (.laload, 1) := by decide +kernel
theorem d_Mo_isInBox_45 : decode b_Mo_isInBox 45 = .ok (.ldc2_w 91, 3) := by decide +kernel
theorem d_Mo_isInBox_48 : decode b_Mo_isInBox 48 = .ok (.lconst 1, 1) := by decide +kernel
theorem d_Mo_isInBox_49 : decode b_Mo_isInBox 49 = .ok (.invokestatic 87, 3) := by decide +kernel
theorem d_Mo_isInBox_52 : decode b_Mo_isInBox 52 = .ok (.ifCond .gt 7, 3) := by decide +kernel
theorem d_Mo_isInBox_55 : decode b_Mo_isInBox 55 = .ok (.iconst 1, 1) := by decide +kernel
theorem d_Mo_isInBox_56 : decode b_Mo_isInBox 56 = .ok (.goto 4, 3) := by decide +kernel
theorem d_Mo_isInBox_59 : decode b_Mo_isInBox 59 = .ok (.iconst 0, 1) := by decide +kernel
theorem d_Mo_isInBox_60 : decode b_Mo_isInBox 60 = .ok (.ireturn, 1) := by decide +kernel
theorem d_Mo_isCrossed_0 : decode b_Mo_isCrossed 0 = .ok (.iconst 0, 1) := by decide +kernel
theorem d_Mo_isCrossed_1 : decode b_Mo_isCrossed 1 = .ok (.istore_n 2, 1) := by decide +kernel
theorem d_Mo_isCrossed_2 : decode b_Mo_isCrossed 2 = .ok (.iconst 0, 1) := by decide +kernel
theorem d_Mo_isCrossed_3 : decode b_Mo_isCrossed 3 = .ok (.istore_n 3, 1) := by decide +kernel
theorem d_Mo_isCrossed_4 : decode b_Mo_isCrossed 4 = .ok (.iload_n 3, 1) := by decide +kernel
theorem d_Mo_isCrossed_5 : decode b_Mo_isCrossed 5 = .ok (.aload_n 0, 1) := by decide +kernel
theorem d_Mo_isCrossed_6 : decode b_Mo_isCrossed 6 = .ok (.getfield 39, 3) := by decide +kernel
theorem d_Mo_isCrossed_9 : decode b_Mo_isCrossed 9 = .ok (.if_icmp .ge 177, 3) := by decide +kernel
theorem d_Mo_isCrossed_12 : decode b_Mo_isCrossed 12 = .ok (.aload_n 0, 1) := by decide +kernel
theorem d_Mo_isCrossed_13 : decode b_Mo_isCrossed 13 = .ok (.iload_n 3, 1) := by decide +kernel
theorem d_Mo_isCrossed_14 : decode b_Mo_isCrossed 14 = .ok (.invokevirtual 93, 3) := by decide +kernel
theorem d_Mo_isCrossed_17 : decode b_Mo_isCrossed 17 = .ok (.ifCond .ne 6, 3) := by decide +kernel
theorem d_Mo_isCrossed_20 : decode b_Mo_isCrossed 20 = .ok (.goto 160, 3) := by decide +kernel
theorem d_Mo_isCrossed_23 : decode b_Mo_isCrossed 23 = .ok (.aload_n 0, 1) := by decide +kernel
theorem d_Mo_isCrossed_24 : decode b_Mo_isCrossed 24 = .ok (.getfield 23, 3) := by decide +kernel
theorem d_Mo_isCrossed_27 : decode b_Mo_isCrossed 27 = .ok (.iload_n 3, 1) := by decide +kernel
theorem d_Mo_isCrossed_28 : decode b_Mo_isCrossed 28 = .ok (.laload, 1) := by decide +kernel
theorem d_Mo_isCrossed_29 : decode b_Mo_isCrossed 29 = .ok (.aload_n 0, 1) := by decide +kernel
theorem d_Mo_isCrossed_30 : decode b_Mo_isCrossed 30 = .ok (.getfield 26, 3) := by decide +kernel
theorem d_Mo_isCrossed_33 : decode b_Mo_isCrossed 33 = .ok (.iload_n 3, 1) := by decide +kernel
theorem d_Mo_isCrossed_34 : decode b_Mo_isCrossed 34 = .ok (.laload, 1) := by decide +kernel
theorem d_Mo_isCrossed_35 : decode b_Mo_isCrossed 35 = .ok (.ldc2_w 85, 3) := by decide +kernel
theorem d_Mo_isCrossed_38 : decode b_Mo_isCrossed 38 = .ok (.lconst 1, 1) := by decide +kernel
theorem d_Mo_isCrossed_39 : decode b_Mo_isCrossed 39 = .ok (.invokestatic 87, 3) := by decide +kernel
theorem d_Mo_isCrossed_42 : decode b_Mo_isCrossed 42 = .ok (.ifCond .eq 25, 3) := by decide +kernel
theorem d_Mo_isCrossed_45 : decode b_Mo_isCrossed 45 = .ok (.aload_n 0, 1) := by decide +kernel
theorem d_Mo_isCrossed_46 : decode b_Mo_isCrossed 46 = .ok (.getfield 23, 3) := by decide +kernel
theorem d_Mo_isCrossed_49 : decode b_Mo_isCrossed 49 = .ok (.iload_n 3, 1) := by decide +kernel
theorem d_Mo_isCrossed_50 : decode b_Mo_isCrossed 50 = .ok (.laload, 1) := by decide +kernel
theorem d_Mo_isCrossed_51 : decode b_Mo_isCrossed 51 = .ok (.aload_n 0, 1) := by decide +kernel
theorem d_Mo_isCrossed_52 : decode b_Mo_isCrossed 52 = .ok (.getfield 26, 3) := by decide +kernel
theorem d_Mo_isCrossed_55 : decode b_Mo_isCrossed 55 = .ok (.iload_n 3, 1) := by decide +kernel
theorem d_Mo_isCrossed_56 : decode b_Mo_isCrossed 56 = .ok (.laload, 1) := by decide +kernel
theorem d_Mo_isCrossed_57 : decode b_Mo_isCrossed 57 = .ok (.ldc2_w 91, 3) := by decide +kernel
theorem d_Mo_isCrossed_60 : decode b_Mo_isCrossed 60 = .ok (.lconst 1, 1) := by decide +kernel
theorem d_Mo_isCrossed_61 : decode b_Mo_isCrossed 61 = .ok (.invokestatic 87, 3) := by decide +kernel
theorem d_Mo_isCrossed_64 : decode b_Mo_isCrossed 64 = .ok (.ifCond .ne 7, 3) := by decide +kernel
theorem d_Mo_isCrossed_67 : decode b_Mo_isCrossed 67 = .ok (.iconst 1, 1) := by decide +kernel
theorem d_Mo_isCrossed_68 : decode b_Mo_isCrossed 68 = .ok (.goto 4, 3) := by decide +kernel
theorem d_Mo_isCrossed_71 : decode b_Mo_isCrossed 71 = .ok (.iconst 0, 1) := by decide +kernel
theorem d_Mo_isCrossed_72 : decode b_Mo_isCrossed 72 = .ok (.istore 4, 2) := by decide +kernel
theorem d_Mo_isCrossed_74 : decode b_Mo_isCrossed 74 = .ok (.iload_n 2, 1) := by decide +kernel
theorem d_Mo_isCrossed_75 : decode b_Mo_isCrossed 75 = .ok (.ifCond .ne 20, 3) := by decide +kernel
theorem d_Mo_isCrossed_78 : decode b_Mo_isCrossed 78 = .ok (.iload 4, 2) := by decide +kernel
theorem d_Mo_isCrossed_80 : decode b_Mo_isCrossed 80 = .ok (.ifCond .eq 19, 3) := by decide +kernel
theorem d_Mo_isCrossed_83 : decode b_Mo_isCrossed 83 = .ok (.aload_n 0, 1) := by decide +kernel
theorem d_Mo_isCrossed_84 : decode b_Mo_isCrossed 84 = .ok (.bipush 10, 2) := by decide +kernel
theorem d_Mo_isCrossed_86 : decode b_Mo_isCrossed 86 = .ok (.iload_n 1, 1) := by decide +kernel
theorem d_Mo_isCrossed_87 : decode b_Mo_isCrossed 87 = .ok (.iadd, 1) := by decide +kernel
theorem d_Mo_isCrossed_88 : decode b_Mo_isCrossed 88 = .ok (.iload_n 3, 1) := by decide +kernel
theorem d_Mo_isCrossed_89 : decode b_Mo_isCrossed 89 = .ok (.invokevirtual 74, 3) := by decide +kernel
theorem d_Mo_isCrossed_92 : decode b_Mo_isCrossed 92 = .ok (.ifCond .ne 7, 3) := by decide +kernel
theorem d_Mo_isCrossed_95 : decode b_Mo_isCrossed 95 = .ok (.iconst 1, 1) := by decide +kernel
theorem d_Mo_isCrossed_96 : decode b_Mo_isCrossed 96 = .ok (.goto 4, 3) := by decide +kernel
theorem d_Mo_isCrossed_99 : decode b_Mo_isCrossed 99 = .ok (.iconst 0, 1) := by decide +kernel
theorem d_Mo_isCrossed_100 : decode b_Mo_isCrossed 100 = .ok (.istore_n 2, 1) := by decide +kernel
theorem d_Mo_isCrossed_101 : decode b_Mo_isCrossed 101 = .ok (.iconst 0, 1) := by decide +kernel
theorem d_Mo_isCrossed_102 : decode b_Mo_isCrossed 102 = .ok (.istore 5, 2) := by decide +kernel
theorem d_Mo_isCrossed_104 : decode b_Mo_isCrossed 104 = .ok (.iload 5, 2) := by decide +kernel
theorem d_Mo_isCrossed_106 : decode b_Mo_isCrossed 106 = .ok (.iload_n 3, 1) := by decide +kernel
theorem d_Mo_isCrossed_107 : decode b_Mo_isCrossed 107 = .ok (.if_icmp .ge 73, 3) := by decide +kernel
theorem d_Mo_isCrossed_110 : decode b_Mo_isCrossed 110 = .ok (.iload_n 2, 1) := by decide +kernel
theorem d_Mo_isCrossed_111 : decode b_Mo_isCrossed 111 = .ok (.ifCond .ne 57, 3) := by decide +kernel
theorem d_Mo_isCrossed_114 : decode b_Mo_isCrossed 114 = .ok (.aload_n 0, 1) := by decide +kernel
theorem d_Mo_isCrossed_115 : decode b_Mo_isCrossed 115 = .ok (.getfield 26, 3) := by decide +kernel
theorem d_Mo_isCrossed_118 : decode b_Mo_isCrossed 118 = .ok (.iload 5, 2) := by decide +kernel
theorem d_Mo_isCrossed_120 : decode b_Mo_isCrossed 120 = .ok (.laload, 1) := by decide +kernel
theorem d_Mo_isCrossed_121 : decode b_Mo_isCrossed 121 = .ok (.lconst 0, 1) := by decide +kernel
theorem d_Mo_isCrossed_122 : decode b_Mo_isCrossed 122 = .ok (.lcmp, 1) := by decide +kernel
theorem d_Mo_isCrossed_123 : decode b_Mo_isCrossed 123 = .ok (.ifCond .le 49, 3) := by decide +kernel
theorem d_Mo_isCrossed_126 : decode b_Mo_isCrossed 126 = .ok (.aload_n 0, 1) := by decide +kernel
theorem d_Mo_isCrossed_127 : decode b_Mo_isCrossed 127 = .ok (.getfield 23, 3) := by decide +kernel
theorem d_Mo_isCrossed_130 : decode b_Mo_isCrossed 130 = .ok (.iload_n 3, 1) := by decide +kernel
theorem d_Mo_isCrossed_131 : decode b_Mo_isCrossed 131 = .ok (.laload, 1) := by decide +kernel
theorem d_Mo_isCrossed_132 : decode b_Mo_isCrossed 132 = .ok (.aload_n 0, 1) := by decide +kernel
theorem d_Mo_isCrossed_133 : decode b_Mo_isCrossed 133 = .ok (.getfield 26, 3) := by decide +kernel
theorem d_Mo_isCrossed_136 : decode b_Mo_isCrossed 136 = .ok (.iload_n 3, 1) := by decide +kernel
theorem d_Mo_isCrossed_137 : decode b_Mo_isCrossed 137 = .ok (.laload, 1) := by decide +kernel
theorem d_Mo_isCrossed_138 : decode b_Mo_isCrossed 138 = .ok (.aload_n 0, 1) := by decide +kernel
theorem d_Mo_isCrossed_139 : decode b_Mo_isCrossed 139 = .ok (.getfield 23, 3) := by decide +kernel
theorem d_Mo_isCrossed_142 : decode b_Mo_isCrossed 142 = .ok (.iload 5, 2) := by decide +kernel
theorem d_Mo_isCrossed_144 : decode b_Mo_isCrossed 144 = .ok (.laload, 1) := by decide +kernel
theorem d_Mo_isCrossed_145 : decode b_Mo_isCrossed 145 = .ok (.aload_n 0, 1) := by decide +kernel
theorem d_Mo_isCrossed_146 : decode b_Mo_isCrossed 146 = .ok (.getfield 26, 3) := by decide +kernel
theorem d_Mo_isCrossed_149 : decode b_Mo_isCrossed 149 = .ok (.iload 5, 2) := by decide +kernel
theorem d_Mo_isCrossed_151 : decode b_Mo_isCrossed 151 = .ok (.laload, 1) := by decide +kernel
theorem d_Mo_isCrossed_152 : decode b_Mo_isCrossed 152 = .ok (.invokestatic 87, 3) := by decide +kernel
theorem d_Mo_isCrossed_155 : decode b_Mo_isCrossed 155 = .ok (.ifCond .ne 17, 3) := by decide +kernel
theorem d_Mo_isCrossed_158 : decode b_Mo_isCrossed 158 = .ok (.aload_n 0, 1) := by decide +kernel
theorem d_Mo_isCrossed_159 : decode b_Mo_isCrossed 159 = .ok (.iload_n 3, 1) := by decide +kernel
theorem d_Mo_isCrossed_160 : decode b_Mo_isCrossed 160 = .ok (.iload 5, 2) := by decide +kernel
theorem d_Mo_isCrossed_162 : decode b_Mo_isCrossed 162 = .ok (.invokevirtual 74, 3) := by decide +kernel
theorem d_Mo_isCrossed_165 : decode b_Mo_isCrossed 165 = .ok (.ifCond .ne 7, 3) := by decide +kernel
theorem d_Mo_isCrossed_168 : decode b_Mo_isCrossed 168 = .ok (.iconst 1, 1) := by decide +kernel
theorem d_Mo_isCrossed_169 : decode b_Mo_isCrossed 169 = .ok (.goto 4, 3) := by decide +kernel
theorem d_Mo_isCrossed_172 : decode b_Mo_isCrossed 172 = .ok (.iconst 0, 1) := by decide +kernel
theorem d_Mo_isCrossed_173 : decode b_Mo_isCrossed 173 = .ok (.istore_n 2, 1) := by decide +kernel
theorem d_Mo_isCrossed_174 : decode b_Mo_isCrossed 174 = .ok (.iinc 5 1, 3) := by decide +kernel
theorem d_Mo_isCrossed_177 : decode b_Mo_isCrossed 177 = .ok (.goto (-73), 3) := by decide +kernel
theorem d_Mo_isCrossed_180 : decode b_Mo_isCrossed 180 = .ok (.iinc 3 1, 3) := by decide +kernel
theorem d_Mo_isCrossed_183 : decode b_Mo_isCrossed 183 = .ok (.goto (-179), 3) := by decide +kernel
theorem d_Mo_isCrossed_186 : decode b_Mo_isCrossed 186 = .ok (.iload_n 2, 1) := by decide +kernel
theorem d_Mo_isCrossed_187 : decode b_Mo_isCrossed 187 = .ok (.ireturn, 1) := by decide +kernel
theorem d_Mo_choiceBehind_0 : decode b_Mo_choiceBehind 0 = .ok (.iconst 0, 1) := by decide +kernel
theorem d_Mo_choiceBehind_1 : decode b_Mo_choiceBehind 1 = .ok (.istore 6, 2) := by decide +kernel
theorem d_Mo_choiceBehind_3 : decode b_Mo_choiceBehind 3 = .ok (.iconst 0, 1) := by decide +kernel
theorem d_Mo_choiceBehind_4 : decode b_Mo_choiceBehind 4 = .ok (.istore 7, 2) := by decide +kernel
theorem d_Mo_choiceBehind_6 : decode b_Mo_choiceBehind 6 = .ok (.iload 7, 2) := by decide +kernel
theorem d_Mo_choiceBehind_8 : decode b_Mo_choiceBehind 8 = .ok (.aload_n 0, 1) := by decide +kernel
theorem d_Mo_choiceBehind_9 : decode b_Mo_choiceBehind 9 = .ok (.getfield 39, 3) := by decide +kernel
theorem d_Mo_choiceBehind_12 : decode b_Mo_choiceBehind 12 = .ok (.if_icmp .ge 132, 3) := by decide +kernel
theorem d_Mo_choiceBehind_15 : decode b_Mo_choiceBehind 15 = .ok (.aload_n 0, 1) := by decide +kernel
theorem d_Mo_choiceBehind_16 : decode b_Mo_choiceBehind 16 = .ok (.getfield 26, 3) := by decide +kernel
theorem d_Mo_choiceBehind_19 : decode b_Mo_choiceBehind 19 = .ok (.iload 7, 2) := by decide +kernel
theorem d_Mo_choiceBehind_21 : decode b_Mo_choiceBehind 21 = .ok (.laload, 1) := by decide +kernel
theorem d_Mo_choiceBehind_22 : decode b_Mo_choiceBehind 22 = .ok (.lconst 0, 1) := by decide +kernel
theorem d_Mo_choiceBehind_23 : decode b_Mo_choiceBehind 23 = .ok (.lcmp, 1) := by decide +kernel
theorem d_Mo_choiceBehind_24 : decode b_Mo_choiceBehind 24 = .ok (.ifCond .le 30, 3) := by decide +kernel
theorem d_Mo_choiceBehind_27 : decode b_Mo_choiceBehind 27 = .ok (.aload_n 0, 1) := by decide +kernel
theorem d_Mo_choiceBehind_28 : decode b_Mo_choiceBehind 28 = .ok (.getfield 23, 3) := by decide +kernel
theorem d_Mo_choiceBehind_31 : decode b_Mo_choiceBehind 31 = .ok (.iload 7, 2) := by decide +kernel
theorem d_Mo_choiceBehind_33 : decode b_Mo_choiceBehind 33 = .ok (.laload, 1) := by decide +kernel
theorem d_Mo_choiceBehind_34 : decode b_Mo_choiceBehind 34 = .ok (.aload_n 0, 1) := by decide +kernel
theorem d_Mo_choiceBehind_35 : decode b_Mo_choiceBehind 35 = .ok (.getfield 26, 3) := by decide +kernel
theorem d_Mo_choiceBehind_38 : decode b_Mo_choiceBehind 38 = .ok (.iload 7, 2) := by decide +kernel
theorem d_Mo_choiceBehind_40 : decode b_Mo_choiceBehind 40 = .ok (.laload, 1) := by decide +kernel
theorem d_Mo_choiceBehind_41 : decode b_Mo_choiceBehind 41 = .ok (.lload_n 2, 1) := by decide +kernel
theorem d_Mo_choiceBehind_42 : decode b_Mo_choiceBehind 42 = .ok (.lload 4, 2) := by decide +kernel
theorem d_Mo_choiceBehind_44 : decode b_Mo_choiceBehind 44 = .ok (.invokestatic 87, 3) := by decide +kernel
theorem d_Mo_choiceBehind_47 : decode b_Mo_choiceBehind 47 = .ok (.ifCond .gt 7, 3) := by decide +kernel
theorem d_Mo_choiceBehind_50 : decode b_Mo_choiceBehind 50 = .ok (.iconst 1, 1) := by decide +kernel
theorem d_Mo_choiceBehind_51 : decode b_Mo_choiceBehind 51 = .ok (.goto 4, 3) := by decide +kernel
theorem d_Mo_choiceBehind_54 : decode b_Mo_choiceBehind 54 = .ok (.iconst 0, 1) := by decide +kernel
theorem d_Mo_choiceBehind_55 : decode b_Mo_choiceBehind 55 = .ok (.istore 8, 2) := by decide +kernel
theorem d_Mo_choiceBehind_57 : decode b_Mo_choiceBehind 57 = .ok (.aload_n 0, 1) := by decide +kernel
theorem d_Mo_choiceBehind_58 : decode b_Mo_choiceBehind 58 = .ok (.getfield 26, 3) := by decide +kernel
theorem d_Mo_choiceBehind_61 : decode b_Mo_choiceBehind 61 = .ok (.iload 7, 2) := by decide +kernel
theorem d_Mo_choiceBehind_63 : decode b_Mo_choiceBehind 63 = .ok (.laload, 1) := by decide +kernel
theorem d_Mo_choiceBehind_64 : decode b_Mo_choiceBehind 64 = .ok (.lconst 0, 1) := by decide +kernel
theorem d_Mo_choiceBehind_65 : decode b_Mo_choiceBehind 65 = .ok (.lcmp, 1) := by decide +kernel
theorem d_Mo_choiceBehind_66 : decode b_Mo_choiceBehind 66 = .ok (.ifCond .ne 23, 3) := by decide +kernel
theorem d_Mo_choiceBehind_69 : decode b_Mo_choiceBehind 69 = .ok (.aload_n 0, 1) := by decide +kernel
theorem d_Mo_choiceBehind_70 : decode b_Mo_choiceBehind 70 = .ok (.getfield 20, 3) := by decide +kernel
theorem d_Mo_choiceBehind_73 : decode b_Mo_choiceBehind 73 = .ok (.iload 7, 2) := by decide +kernel
theorem d_Mo_choiceBehind_75 : decode b_Mo_choiceBehind 75 = .ok (.laload, 1) := by decide +kernel
theorem d_Mo_choiceBehind_76 : decode b_Mo_choiceBehind 76 = .ok (.lconst 0, 1) := by decide +kernel
theorem d_Mo_choiceBehind_77 : decode b_Mo_choiceBehind 77 = .ok (.lcmp, 1) := by decide +kernel
theorem d_Mo_choiceBehind_78 : decode b_Mo_choiceBehind 78 = .ok (.ifCond .ge 7, 3) := by decide +kernel
theorem d_Mo_choiceBehind_81 : decode b_Mo_choiceBehind 81 = .ok (.iconst 1, 1) := by decide +kernel
theorem d_Mo_choiceBehind_82 : decode b_Mo_choiceBehind 82 = .ok (.goto 36, 3) := by decide +kernel
theorem d_Mo_choiceBehind_85 : decode b_Mo_choiceBehind 85 = .ok (.iconst 0, 1) := by decide +kernel
theorem d_Mo_choiceBehind_86 : decode b_Mo_choiceBehind 86 = .ok (.goto 32, 3) := by decide +kernel
theorem d_Mo_choiceBehind_89 : decode b_Mo_choiceBehind 89 = .ok (.aload_n 0, 1) := by decide +kernel
theorem d_Mo_choiceBehind_90 : decode b_Mo_choiceBehind 90 = .ok (.getfield 7, 3) := by decide +kernel
theorem d_Mo_choiceBehind_93 : decode b_Mo_choiceBehind 93 = .ok (.iconst 3, 1) := by decide +kernel
theorem d_Mo_choiceBehind_94 : decode b_Mo_choiceBehind 94 = .ok (.iload 7, 2) := by decide +kernel
theorem d_Mo_choiceBehind_96 : decode b_Mo_choiceBehind 96 = .ok (.imul, 1) := by decide +kernel
theorem d_Mo_choiceBehind_97 : decode b_Mo_choiceBehind 97 = .ok (.iload_n 1, 1) := by decide +kernel
theorem d_Mo_choiceBehind_98 : decode b_Mo_choiceBehind 98 = .ok (.iadd, 1) := by decide +kernel
theorem d_Mo_choiceBehind_99 : decode b_Mo_choiceBehind 99 = .ok (.iaload, 1) := by decide +kernel
theorem d_Mo_choiceBehind_100 : decode b_Mo_choiceBehind 100 = .ok (.ifCond .le 7, 3) := by decide +kernel
theorem d_Mo_choiceBehind_103 : decode b_Mo_choiceBehind 103 = .ok (.iconst 1, 1) := by decide +kernel
theorem d_Mo_choiceBehind_104 : decode b_Mo_choiceBehind 104 = .ok (.goto 4, 3) := by decide +kernel
theorem d_Mo_choiceBehind_107 : decode b_Mo_choiceBehind 107 = .ok (.iconst 0, 1) := by decide +kernel
theorem d_Mo_choiceBehind_108 : decode b_Mo_choiceBehind 108 = .ok (.iload 8, 2) := by decide +kernel
theorem d_Mo_choiceBehind_110 : decode b_Mo_choiceBehind 110 = .ok (.if_icmp .eq 7, 3) := by decide +kernel
theorem d_Mo_choiceBehind_113 : decode b_Mo_choiceBehind 113 = .ok (.iconst 1, 1) := by decide +kernel
theorem d_Mo_choiceBehind_114 : decode b_Mo_choiceBehind 114 = .ok (.goto 4, 3) := by decide +kernel
theorem d_Mo_choiceBehind_117 : decode b_Mo_choiceBehind 117 = .ok (.iconst 0, 1) := by decide +kernel
theorem d_Mo_choiceBehind_118 : decode b_Mo_choiceBehind 118 = .ok (.istore 9, 2) := by decide +kernel
theorem d_Mo_choiceBehind_120 : decode b_Mo_choiceBehind 120 = .ok (.iload 6, 2) := by decide +kernel
theorem d_Mo_choiceBehind_122 : decode b_Mo_choiceBehind 122 = .ok (.iload 9, 2) := by decide +kernel
theorem d_Mo_choiceBehind_124 : decode b_Mo_choiceBehind 124 = .ok (.ifCond .eq 10, 3) := by decide +kernel
theorem d_Mo_choiceBehind_127 : decode b_Mo_choiceBehind 127 = .ok (.iconst 1, 1) := by decide +kernel
theorem d_Mo_choiceBehind_128 : decode b_Mo_choiceBehind 128 = .ok (.iload 7, 2) := by decide +kernel
theorem d_Mo_choiceBehind_130 : decode b_Mo_choiceBehind 130 = .ok (.ishl, 1) := by decide +kernel
theorem d_Mo_choiceBehind_131 : decode b_Mo_choiceBehind 131 = .ok (.goto 4, 3) := by decide +kernel
theorem d_Mo_choiceBehind_134 : decode b_Mo_choiceBehind 134 = .ok (.iconst 0, 1) := by decide +kernel
theorem d_Mo_choiceBehind_135 : decode b_Mo_choiceBehind 135 = .ok (.iadd, 1) := by decide +kernel
theorem d_Mo_choiceBehind_136 : decode b_Mo_choiceBehind 136 = .ok (.istore 6, 2) := by decide +kernel
theorem d_Mo_choiceBehind_138 : decode b_Mo_choiceBehind 138 = .ok (.iinc 7 1, 3) := by decide +kernel
theorem d_Mo_choiceBehind_141 : decode b_Mo_choiceBehind 141 = .ok (.goto (-135), 3) := by decide +kernel
theorem d_Mo_choiceBehind_144 : decode b_Mo_choiceBehind 144 = .ok (.iload 6, 2) := by decide +kernel
theorem d_Mo_choiceBehind_146 : decode b_Mo_choiceBehind 146 = .ok (.ireturn, 1) := by decide +kernel
theorem d_Mo_enters_0 : decode b_Mo_enters 0 = .ok (.aload_n 0, 1) := by decide +kernel
theorem d_Mo_enters_1 : decode b_Mo_enters 1 = .ok (.iload_n 1, 1) := by decide +kernel
theorem d_Mo_enters_2 : decode b_Mo_enters 2 = .ok (.ifCond .lt 28, 3) := by decide +kernel
theorem d_Mo_enters_5 : decode b_Mo_enters 5 = .ok (.iload_n 1, 1) := by decide +kernel
theorem d_Mo_enters_6 : decode b_Mo_enters 6 = .ok (.iconst 2, 1) := by decide +kernel
theorem d_Mo_enters_7 : decode b_Mo_enters 7 = .ok (.if_icmp .gt 23, 3) := by decide +kernel
theorem d_Mo_enters_10 : decode b_Mo_enters 10 = .ok (.iload_n 2, 1) := by decide +kernel
theorem d_Mo_enters_11 : decode b_Mo_enters 11 = .ok (.sipush 999, 3) := by decide +kernel
theorem d_Mo_enters_14 : decode b_Mo_enters 14 = .ok (.invokestatic 34, 3) := by decide +kernel
theorem d_Mo_enters_17 : decode b_Mo_enters 17 = .ok (.ifCond .eq 13, 3) := by decide +kernel
theorem d_Mo_enters_20 : decode b_Mo_enters 20 = .ok (.iload_n 3, 1) := by decide +kernel
theorem d_Mo_enters_21 : decode b_Mo_enters 21 = .ok (.sipush 999, 3) := by decide +kernel
theorem d_Mo_enters_24 : decode b_Mo_enters 24 = .ok (.invokestatic 34, 3) := by decide +kernel
theorem d_Mo_enters_27 : decode b_Mo_enters 27 = .ok (.ifCond .ne 7, 3) := by decide +kernel
theorem d_Mo_enters_30 : decode b_Mo_enters 30 = .ok (.iconst 1, 1) := by decide +kernel
theorem d_Mo_enters_31 : decode b_Mo_enters 31 = .ok (.goto 15, 3) := by decide +kernel
theorem d_Mo_enters_34 : decode b_Mo_enters 34 = .ok (.aload_n 0, 1) := by decide +kernel
theorem d_Mo_enters_35 : decode b_Mo_enters 35 = .ok (.getfield 42, 3) := by decide +kernel
theorem d_Mo_enters_38 : decode b_Mo_enters 38 = .ok (.ifCond .ne 7, 3) := by decide +kernel
theorem d_Mo_enters_41 : decode b_Mo_enters 41 = .ok (.iconst 2, 1) := by decide +kernel
theorem d_Mo_enters_42 : decode b_Mo_enters 42 = .ok (.goto 4, 3) := by decide +kernel
theorem d_Mo_enters_45 : decode b_Mo_enters 45 = .ok (.iconst 0, 1) := by decide +kernel
theorem d_Mo_enters_46 : decode b_Mo_enters 46 = .ok (.putfield 29, 3) := by decide +kernel
theorem d_Mo_enters_49 : decode b_Mo_enters 49 = .ok (.aload_n 0, 1) := by decide +kernel
theorem d_Mo_enters_50 : decode b_Mo_enters 50 = .ok (.getfield 29, 3) := by decide +kernel
theorem d_Mo_enters_53 : decode b_Mo_enters 53 = .ok (.ifCond .le 5, 3) := by decide +kernel
theorem d_Mo_enters_56 : decode b_Mo_enters 56 = .ok (.iconst 0, 1) := by decide +kernel
theorem d_Mo_enters_57 : decode b_Mo_enters 57 = .ok (.ireturn, 1) := by decide +kernel
theorem d_Mo_enters_58 : decode b_Mo_enters 58 = .ok (.aload_n 0, 1) := by decide +kernel
theorem d_Mo_enters_59 : decode b_Mo_enters 59 = .ok (.iload_n 1, 1) := by decide +kernel
theorem d_Mo_enters_60 : decode b_Mo_enters 60 = .ok (.iload_n 2, 1) := by decide +kernel
theorem d_Mo_enters_61 : decode b_Mo_enters 61 = .ok (.iload_n 3, 1) := by decide +kernel
theorem d_Mo_enters_62 : decode b_Mo_enters 62 = .ok (.invokevirtual 96, 3) := by decide +kernel
theorem d_Mo_enters_65 : decode b_Mo_enters 65 = .ok (.ifCond .eq 11, 3) := by decide +kernel
theorem d_Mo_enters_68 : decode b_Mo_enters 68 = .ok (.aload_n 0, 1) := by decide +kernel
theorem d_Mo_enters_69 : decode b_Mo_enters 69 = .ok (.iload_n 1, 1) := by decide +kernel
theorem d_Mo_enters_70 : decode b_Mo_enters 70 = .ok (.invokevirtual 100, 3) := by decide +kernel
theorem d_Mo_enters_73 : decode b_Mo_enters 73 = .ok (.ifCond .eq 10, 3) := by decide +kernel
theorem d_Mo_enters_76 : decode b_Mo_enters 76 = .ok (.aload_n 0, 1) := by decide +kernel
theorem d_Mo_enters_77 : decode b_Mo_enters 77 = .ok (.iconst 3, 1) := by decide +kernel
theorem d_Mo_enters_78 : decode b_Mo_enters 78 = .ok (.putfield 29, 3) := by decide +kernel
theorem d_Mo_enters_81 : decode b_Mo_enters 81 = .ok (.iconst 0, 1) := by decide +kernel
theorem d_Mo_enters_82 : decode b_Mo_enters 82 = .ok (.ireturn, 1) := by decide +kernel
theorem d_Mo_enters_83 : decode b_Mo_enters 83 = .ok (.ldc2_w 85, 3) := by decide +kernel
theorem d_Mo_enters_86 : decode b_Mo_enters 86 = .ok (.lstore 4, 2) := by decide +kernel
theorem d_Mo_enters_88 : decode b_Mo_enters 88 = .ok (.lconst 1, 1) := by decide +kernel
theorem d_Mo_enters_89 : decode b_Mo_enters 89 = .ok (.lstore 6, 2) := by decide +kernel
theorem d_Mo_enters_91 : decode b_Mo_enters 91 = .ok (.iconst 0, 1) := by decide +kernel
theorem d_Mo_enters_92 : decode b_Mo_enters 92 = .ok (.istore 8, 2) := by decide +kernel
theorem d_Mo_enters_94 : decode b_Mo_enters 94 = .ok (.iconst 0, 1) := by decide +kernel
theorem d_Mo_enters_95 : decode b_Mo_enters 95 = .ok (.istore 9, 2) := by decide +kernel
theorem d_Mo_enters_97 : decode b_Mo_enters 97 = .ok (.lload 4, 2) := by decide +kernel
theorem d_Mo_enters_99 : decode b_Mo_enters 99 = .ok (.lload 6, 2) := by decide +kernel
theorem d_Mo_enters_101 : decode b_Mo_enters 101 = .ok (.ldc2_w 91, 3) := by decide +kernel
theorem d_Mo_enters_104 : decode b_Mo_enters 104 = .ok (.lconst 1, 1) := by decide +kernel
theorem d_Mo_enters_105 : decode b_Mo_enters 105 = .ok (.invokestatic 87, 3) := by decide +kernel
theorem d_Mo_enters_108 : decode b_Mo_enters 108 = .ok (.ifCond .ge 157, 3) := by decide +kernel
theorem d_Mo_enters_111 : decode b_Mo_enters 111 = .ok (.aload_n 0, 1) := by decide +kernel
theorem d_Mo_enters_112 : decode b_Mo_enters 112 = .ok (.aload_n 0, 1) := by decide +kernel
theorem d_Mo_enters_113 : decode b_Mo_enters 113 = .ok (.iload_n 1, 1) := by decide +kernel
theorem d_Mo_enters_114 : decode b_Mo_enters 114 = .ok (.lload 4, 2) := by decide +kernel
theorem d_Mo_enters_116 : decode b_Mo_enters 116 = .ok (.lload 6, 2) := by decide +kernel
theorem d_Mo_enters_118 : decode b_Mo_enters 118 = .ok (.invokevirtual 103, 3) := by decide +kernel
theorem d_Mo_enters_121 : decode b_Mo_enters 121 = .ok (.invokevirtual 67, 3) := by decide +kernel
theorem d_Mo_enters_124 : decode b_Mo_enters 124 = .ok (.istore 10, 2) := by decide +kernel
theorem d_Mo_enters_126 : decode b_Mo_enters 126 = .ok (.iload 9, 2) := by decide +kernel
theorem d_Mo_enters_128 : decode b_Mo_enters 128 = .ok (.iload 10, 2) := by decide +kernel
theorem d_Mo_enters_130 : decode b_Mo_enters 130 = .ok (.ifCond .eq 12, 3) := by decide +kernel
theorem d_Mo_enters_133 : decode b_Mo_enters 133 = .ok (.iload 8, 2) := by decide +kernel
theorem d_Mo_enters_135 : decode b_Mo_enters 135 = .ok (.ifCond .ne 7, 3) := by decide +kernel
theorem d_Mo_enters_138 : decode b_Mo_enters 138 = .ok (.iconst 1, 1) := by decide +kernel
theorem d_Mo_enters_139 : decode b_Mo_enters 139 = .ok (.goto 4, 3) := by decide +kernel
theorem d_Mo_enters_142 : decode b_Mo_enters 142 = .ok (.iconst 0, 1) := by decide +kernel
theorem d_Mo_enters_143 : decode b_Mo_enters 143 = .ok (.iadd, 1) := by decide +kernel
theorem d_Mo_enters_144 : decode b_Mo_enters 144 = .ok (.istore 9, 2) := by decide +kernel
theorem d_Mo_enters_146 : decode b_Mo_enters 146 = .ok (.iload 10, 2) := by decide +kernel
theorem d_Mo_enters_148 : decode b_Mo_enters 148 = .ok (.istore 8, 2) := by decide +kernel
theorem d_Mo_enters_150 : decode b_Mo_enters 150 = .ok (.ldc2_w 91, 3) := by decide +kernel
theorem d_Mo_enters_153 : decode b_Mo_enters 153 = .ok (.lstore 11, 2) := by decide +kernel
theorem d_Mo_enters_155 : decode b_Mo_enters 155 = .ok (.lconst 1, 1) := by decide +kernel
theorem d_Mo_enters_156 : decode b_Mo_enters 156 = .ok (.lstore 13, 2) := by decide +kernel
theorem d_Mo_enters_158 : decode b_Mo_enters 158 = .ok (.iconst 0, 1) := by decide +kernel
theorem d_Mo_enters_159 : decode b_Mo_enters 159 = .ok (.istore 15, 2) := by decide +kernel
theorem d_Mo_enters_161 : decode b_Mo_enters 161 = .ok (.iload 15, 2) := by decide +kernel
theorem d_Mo_enters_163 : decode b_Mo_enters 163 = .ok (.aload_n 0, 1) := by decide +kernel
theorem d_Mo_enters_164 : decode b_Mo_enters 164 = .ok (.getfield 39, 3) := by decide +kernel
theorem d_Mo_enters_167 : decode b_Mo_enters 167 = .ok (.if_icmp .ge 87, 3) := by decide +kernel
theorem d_Mo_enters_170 : decode b_Mo_enters 170 = .ok (.aload_n 0, 1) := by decide +kernel
theorem d_Mo_enters_171 : decode b_Mo_enters 171 = .ok (.getfield 26, 3) := by decide +kernel
theorem d_Mo_enters_174 : decode b_Mo_enters 174 = .ok (.iload 15, 2) := by decide +kernel
theorem d_Mo_enters_176 : decode b_Mo_enters 176 = .ok (.laload, 1) := by decide +kernel
theorem d_Mo_enters_177 : decode b_Mo_enters 177 = .ok (.lconst 0, 1) := by decide +kernel
theorem d_Mo_enters_178 : decode b_Mo_enters 178 = .ok (.lcmp, 1) := by decide +kernel
theorem d_Mo_enters_179 : decode b_Mo_enters 179 = .ok (.ifCond .le 69, 3) := by decide +kernel
theorem d_Mo_enters_182 : decode b_Mo_enters 182 = .ok (.aload_n 0, 1) := by decide +kernel
theorem d_Mo_enters_183 : decode b_Mo_enters 183 = .ok (.getfield 23, 3) := by decide +kernel
theorem d_Mo_enters_186 : decode b_Mo_enters 186 = .ok (.iload 15, 2) := by decide +kernel
theorem d_Mo_enters_188 : decode b_Mo_enters 188 = .ok (.laload, 1) := by decide +kernel
theorem d_Mo_enters_189 : decode b_Mo_enters 189 = .ok (.aload_n 0, 1) := by decide +kernel
theorem d_Mo_enters_190 : decode b_Mo_enters 190 = .ok (.getfield 26, 3) := by decide +kernel
theorem d_Mo_enters_193 : decode b_Mo_enters 193 = .ok (.iload 15, 2) := by decide +kernel
theorem d_Mo_enters_195 : decode b_Mo_enters 195 = .ok (.laload, 1) := by decide +kernel
theorem d_Mo_enters_196 : decode b_Mo_enters 196 = .ok (.lload 4, 2) := by decide +kernel
theorem d_Mo_enters_198 : decode b_Mo_enters 198 = .ok (.lload 6, 2) := by decide +kernel
theorem d_Mo_enters_200 : decode b_Mo_enters 200 = .ok (.invokestatic 87, 3) := by decide +kernel
theorem d_Mo_enters_203 : decode b_Mo_enters 203 = .ok (.ifCond .le 45, 3) := by decide +kernel
theorem d_Mo_enters_206 : decode b_Mo_enters 206 = .ok (.aload_n 0, 1) := by decide +kernel
theorem d_Mo_enters_207 : decode b_Mo_enters 207 = .ok (.getfield 23, 3) := by decide +kernel
theorem d_Mo_enters_210 : decode b_Mo_enters 210 = .ok (.iload 15, 2) := by decide +kernel
theorem d_Mo_enters_212 : decode b_Mo_enters 212 = .ok (.laload, 1) := by decide +kernel
theorem d_Mo_enters_213 : decode b_Mo_enters 213 = .ok (.aload_n 0, 1) := by decide +kernel
theorem d_Mo_enters_214 : decode b_Mo_enters 214 = .ok (.getfield 26, 3) := by decide +kernel
theorem d_Mo_enters_217 : decode b_Mo_enters 217 = .ok (.iload 15, 2) := by decide +kernel
theorem d_Mo_enters_219 : decode b_Mo_enters 219 = .ok (.laload, 1) := by decide +kernel
theorem d_Mo_enters_220 : decode b_Mo_enters 220 = .ok (.lload 11, 2) := by decide +kernel
theorem d_Mo_enters_222 : decode b_Mo_enters 222 = .ok (.lload 13, 2) := by decide +kernel
theorem d_Mo_enters_224 : decode b_Mo_enters 224 = .ok (.invokestatic 87, 3) := by decide +kernel
theorem d_Mo_enters_227 : decode b_Mo_enters 227 = .ok (.ifCond .ge 21, 3) := by decide +kernel
theorem d_Mo_enters_230 : decode b_Mo_enters 230 = .ok (.aload_n 0, 1) := by decide +kernel
theorem d_Mo_enters_231 : decode b_Mo_enters 231 = .ok (.getfield 23, 3) := by decide +kernel
theorem d_Mo_enters_234 : decode b_Mo_enters 234 = .ok (.iload 15, 2) := by decide +kernel
theorem d_Mo_enters_236 : decode b_Mo_enters 236 = .ok (.laload, 1) := by decide +kernel
theorem d_Mo_enters_237 : decode b_Mo_enters 237 = .ok (.lstore 11, 2) := by decide +kernel
theorem d_Mo_enters_239 : decode b_Mo_enters 239 = .ok (.aload_n 0, 1) := by decide +kernel
theorem d_Mo_enters_240 : decode b_Mo_enters 240 = .ok (.getfield 26, 3) := by decide +kernel
theorem d_Mo_enters_243 : decode b_Mo_enters 243 = .ok (.iload 15, 2) := by decide +kernel
theorem d_Mo_enters_245 : decode b_Mo_enters 245 = .ok (.laload, 1) := by decide +kernel
theorem d_Mo_enters_246 : decode b_Mo_enters 246 = .ok (.lstore 13, 2) := by decide +kernel
theorem d_Mo_enters_248 : decode b_Mo_enters 248 = .ok (.iinc 15 1, 3) := by decide +kernel
theorem d_Mo_enters_251 : decode b_Mo_enters 251 = .ok (.goto (-90), 3) := by decide +kernel
theorem d_Mo_enters_254 : decode b_Mo_enters 254 = .ok (.lload 11, 2) := by decide +kernel
theorem d_Mo_enters_256 : decode b_Mo_enters 256 = .ok (.lstore 4, 2) := by decide +kernel
theorem d_Mo_enters_258 : decode b_Mo_enters 258 = .ok (.lload 13, 2) := by decide +kernel
theorem d_Mo_enters_260 : decode b_Mo_enters 260 = .ok (.lstore 6, 2) := by decide +kernel
theorem d_Mo_enters_262 : decode b_Mo_enters 262 = .ok (.goto (-165), 3) := by decide +kernel
theorem d_Mo_enters_265 : decode b_Mo_enters 265 = .ok (.iload 9, 2) := by decide +kernel
theorem d_Mo_enters_267 : decode b_Mo_enters 267 = .ok (.ireturn, 1) := by decide +kernel
end
section
/-! Decode rows of Pl. -/
theorem d_Pl_init_0 : decode b_Pl_init 0 = .ok (.aload_n 0, 1) := by decide +kernel
theorem d_Pl_init_1 : decode b_Pl_init 1 = .ok (.invokespecial 1, 3) := by decide +kernel
theorem d_Pl_init_4 : decode b_Pl_init 4 = .ok (.aload_n 0, 1) := by decide +kernel
theorem d_Pl_init_5 : decode b_Pl_init 5 = .ok (.lload_n 1, 1) := by decide +kernel
theorem d_Pl_init_6 : decode b_Pl_init 6 = .ok (.putfield 7, 3) := by decide +kernel
theorem d_Pl_init_9 : decode b_Pl_init 9 = .ok (.aload_n 0, 1) := by decide +kernel
theorem d_Pl_init_10 : decode b_Pl_init 10 = .ok (.lload_n 3, 1) := by decide +kernel
theorem d_Pl_init_11 : decode b_Pl_init 11 = .ok (.putfield 13, 3) := by decide +kernel
theorem d_Pl_init_14 : decode b_Pl_init 14 = .ok (.aload_n 0, 1) := by decide +kernel
theorem d_Pl_init_15 : decode b_Pl_init 15 = .ok (.lload 5, 2) := by decide +kernel
theorem d_Pl_init_17 : decode b_Pl_init 17 = .ok (.putfield 16, 3) := by decide +kernel
theorem d_Pl_init_20 : decode b_Pl_init 20 = .ok (.aload_n 0, 1) := by decide +kernel
theorem d_Pl_init_21 : decode b_Pl_init 21 = .ok (.lload 7, 2) := by decide +kernel
theorem d_Pl_init_23 : decode b_Pl_init 23 = .ok (.putfield 19, 3) := by decide +kernel
theorem d_Pl_init_26 : decode b_Pl_init 26 = .ok (.return_, 1) := by decide +kernel
theorem d_Pl_factor_0 : decode b_Pl_factor 0 = .ok (.iload_n 1, 1) := by decide +kernel
theorem d_Pl_factor_1 : decode b_Pl_factor 1 = .ok (.ifCond .ne 8, 3) := by decide +kernel
theorem d_Pl_factor_4 : decode b_Pl_factor 4 = .ok (.aload_n 0, 1) := by decide +kernel
theorem d_Pl_factor_5 : decode b_Pl_factor 5 = .ok (.getfield 7, 3) := by decide +kernel
theorem d_Pl_factor_8 : decode b_Pl_factor 8 = .ok (.lreturn, 1) := by decide +kernel
theorem d_Pl_factor_9 : decode b_Pl_factor 9 = .ok (.iload_n 1, 1) := by decide +kernel
theorem d_Pl_factor_10 : decode b_Pl_factor 10 = .ok (.iconst 1, 1) := by decide +kernel
theorem d_Pl_factor_11 : decode b_Pl_factor 11 = .ok (.if_icmp .ne 10, 3) := by decide +kernel
theorem d_Pl_factor_14 : decode b_Pl_factor 14 = .ok (.aload_n 0, 1) := by decide +kernel
theorem d_Pl_factor_15 : decode b_Pl_factor 15 = .ok (.getfield 13, 3) := by decide +kernel
theorem d_Pl_factor_18 : decode b_Pl_factor 18 = .ok (.goto 7, 3) := by decide +kernel
theorem d_Pl_factor_21 : decode b_Pl_factor 21 = .ok (.aload_n 0, 1) := by decide +kernel
theorem d_Pl_factor_22 : decode b_Pl_factor 22 = .ok (.getfield 16, 3) := by decide +kernel
theorem d_Pl_factor_25 : decode b_Pl_factor 25 = .ok (.lreturn, 1) := by decide +kernel
theorem d_Pl_excess_0 : decode b_Pl_excess 0 = .ok (.aload_n 0, 1) := by decide +kernel
theorem d_Pl_excess_1 : decode b_Pl_excess 1 = .ok (.getfield 7, 3) := by decide +kernel
theorem d_Pl_excess_4 : decode b_Pl_excess 4 = .ok (.aload_n 1, 1) := by decide +kernel
theorem d_Pl_excess_5 : decode b_Pl_excess 5 = .ok (.getfield 22, 3) := by decide +kernel
theorem d_Pl_excess_8 : decode b_Pl_excess 8 = .ok (.lmul, 1) := by decide +kernel
theorem d_Pl_excess_9 : decode b_Pl_excess 9 = .ok (.aload_n 0, 1) := by decide +kernel
theorem d_Pl_excess_10 : decode b_Pl_excess 10 = .ok (.getfield 13, 3) := by decide +kernel
theorem d_Pl_excess_13 : decode b_Pl_excess 13 = .ok (.aload_n 1, 1) := by decide +kernel
theorem d_Pl_excess_14 : decode b_Pl_excess 14 = .ok (.getfield 27, 3) := by decide +kernel
theorem d_Pl_excess_17 : decode b_Pl_excess 17 = .ok (.lmul, 1) := by decide +kernel
theorem d_Pl_excess_18 : decode b_Pl_excess 18 = .ok (.ladd, 1) := by decide +kernel
theorem d_Pl_excess_19 : decode b_Pl_excess 19 = .ok (.aload_n 0, 1) := by decide +kernel
theorem d_Pl_excess_20 : decode b_Pl_excess 20 = .ok (.getfield 16, 3) := by decide +kernel
theorem d_Pl_excess_23 : decode b_Pl_excess 23 = .ok (.aload_n 1, 1) := by decide +kernel
theorem d_Pl_excess_24 : decode b_Pl_excess 24 = .ok (.getfield 30, 3) := by decide +kernel
theorem d_Pl_excess_27 : decode b_Pl_excess 27 = .ok (.lmul, 1) := by decide +kernel
theorem d_Pl_excess_28 : decode b_Pl_excess 28 = .ok (.ladd, 1) := by decide +kernel
theorem d_Pl_excess_29 : decode b_Pl_excess 29 = .ok (.aload_n 0, 1) := by decide +kernel
theorem d_Pl_excess_30 : decode b_Pl_excess 30 = .ok (.getfield 19, 3) := by decide +kernel
theorem d_Pl_excess_33 : decode b_Pl_excess 33 = .ok (.aload_n 1, 1) := by decide +kernel
theorem d_Pl_excess_34 : decode b_Pl_excess 34 = .ok (.getfield 33, 3) := by decide +kernel
theorem d_Pl_excess_37 : decode b_Pl_excess 37 = .ok (.lmul, 1) := by decide +kernel
theorem d_Pl_excess_38 : decode b_Pl_excess 38 = .ok (.lsub, 1) := by decide +kernel
theorem d_Pl_excess_39 : decode b_Pl_excess 39 = .ok (.lreturn, 1) := by decide +kernel
theorem d_Pl_isOneWith_0 : decode b_Pl_isOneWith 0 = .ok (.aload_n 0, 1) := by decide +kernel
theorem d_Pl_isOneWith_1 : decode b_Pl_isOneWith 1 = .ok (.getfield 7, 3) := by decide +kernel
theorem d_Pl_isOneWith_4 : decode b_Pl_isOneWith 4 = .ok (.aload_n 1, 1) := by decide +kernel
theorem d_Pl_isOneWith_5 : decode b_Pl_isOneWith 5 = .ok (.getfield 13, 3) := by decide +kernel
theorem d_Pl_isOneWith_8 : decode b_Pl_isOneWith 8 = .ok (.lmul, 1) := by decide +kernel
theorem d_Pl_isOneWith_9 : decode b_Pl_isOneWith 9 = .ok (.aload_n 0, 1) := by decide +kernel
theorem d_Pl_isOneWith_10 : decode b_Pl_isOneWith 10 = .ok (.getfield 13, 3) := by decide +kernel
theorem d_Pl_isOneWith_13 : decode b_Pl_isOneWith 13 = .ok (.aload_n 1, 1) := by decide +kernel
theorem d_Pl_isOneWith_14 : decode b_Pl_isOneWith 14 = .ok (.getfield 7, 3) := by decide +kernel
theorem d_Pl_isOneWith_17 : decode b_Pl_isOneWith 17 = .ok (.lmul, 1) := by decide +kernel
theorem d_Pl_isOneWith_18 : decode b_Pl_isOneWith 18 = .ok (.lcmp, 1) := by decide +kernel
theorem d_Pl_isOneWith_19 : decode b_Pl_isOneWith 19 = .ok (.ifCond .ne 117, 3) := by decide +kernel
theorem d_Pl_isOneWith_22 : decode b_Pl_isOneWith 22 = .ok (.aload_n 0, 1) := by decide +kernel
theorem d_Pl_isOneWith_23 : decode b_Pl_isOneWith 23 = .ok (.getfield 7, 3) := by decide +kernel
theorem d_Pl_isOneWith_26 : decode b_Pl_isOneWith 26 = .ok (.aload_n 1, 1) := by decide +kernel
theorem d_Pl_isOneWith_27 : decode b_Pl_isOneWith 27 = .ok (.getfield 16, 3) := by decide +kernel
theorem d_Pl_isOneWith_30 : decode b_Pl_isOneWith 30 = .ok (.lmul, 1) := by decide +kernel
theorem d_Pl_isOneWith_31 : decode b_Pl_isOneWith 31 = .ok (.aload_n 0, 1) := by decide +kernel
theorem d_Pl_isOneWith_32 : decode b_Pl_isOneWith 32 = .ok (.getfield 16, 3) := by decide +kernel
theorem d_Pl_isOneWith_35 : decode b_Pl_isOneWith 35 = .ok (.aload_n 1, 1) := by decide +kernel
theorem d_Pl_isOneWith_36 : decode b_Pl_isOneWith 36 = .ok (.getfield 7, 3) := by decide +kernel
theorem d_Pl_isOneWith_39 : decode b_Pl_isOneWith 39 = .ok (.lmul, 1) := by decide +kernel
theorem d_Pl_isOneWith_40 : decode b_Pl_isOneWith 40 = .ok (.lcmp, 1) := by decide +kernel
theorem d_Pl_isOneWith_41 : decode b_Pl_isOneWith 41 = .ok (.ifCond .ne 95, 3) := by decide +kernel
theorem d_Pl_isOneWith_44 : decode b_Pl_isOneWith 44 = .ok (.aload_n 0, 1) := by decide +kernel
theorem d_Pl_isOneWith_45 : decode b_Pl_isOneWith 45 = .ok (.getfield 13, 3) := by decide +kernel
theorem d_Pl_isOneWith_48 : decode b_Pl_isOneWith 48 = .ok (.aload_n 1, 1) := by decide +kernel
theorem d_Pl_isOneWith_49 : decode b_Pl_isOneWith 49 = .ok (.getfield 16, 3) := by decide +kernel
theorem d_Pl_isOneWith_52 : decode b_Pl_isOneWith 52 = .ok (.lmul, 1) := by decide +kernel
theorem d_Pl_isOneWith_53 : decode b_Pl_isOneWith 53 = .ok (.aload_n 0, 1) := by decide +kernel
theorem d_Pl_isOneWith_54 : decode b_Pl_isOneWith 54 = .ok (.getfield 16, 3) := by decide +kernel
theorem d_Pl_isOneWith_57 : decode b_Pl_isOneWith 57 = .ok (.aload_n 1, 1) := by decide +kernel
theorem d_Pl_isOneWith_58 : decode b_Pl_isOneWith 58 = .ok (.getfield 13, 3) := by decide +kernel
theorem d_Pl_isOneWith_61 : decode b_Pl_isOneWith 61 = .ok (.lmul, 1) := by decide +kernel
theorem d_Pl_isOneWith_62 : decode b_Pl_isOneWith 62 = .ok (.lcmp, 1) := by decide +kernel
theorem d_Pl_isOneWith_63 : decode b_Pl_isOneWith 63 = .ok (.ifCond .ne 73, 3) := by decide +kernel
theorem d_Pl_isOneWith_66 : decode b_Pl_isOneWith 66 = .ok (.aload_n 0, 1) := by decide +kernel
theorem d_Pl_isOneWith_67 : decode b_Pl_isOneWith 67 = .ok (.getfield 7, 3) := by decide +kernel
theorem d_Pl_isOneWith_70 : decode b_Pl_isOneWith 70 = .ok (.aload_n 1, 1) := by decide +kernel
theorem d_Pl_isOneWith_71 : decode b_Pl_isOneWith 71 = .ok (.getfield 19, 3) := by decide +kernel
theorem d_Pl_isOneWith_74 : decode b_Pl_isOneWith 74 = .ok (.lmul, 1) := by decide +kernel
theorem d_Pl_isOneWith_75 : decode b_Pl_isOneWith 75 = .ok (.aload_n 0, 1) := by decide +kernel
theorem d_Pl_isOneWith_76 : decode b_Pl_isOneWith 76 = .ok (.getfield 19, 3) := by decide +kernel
theorem d_Pl_isOneWith_79 : decode b_Pl_isOneWith 79 = .ok (.aload_n 1, 1) := by decide +kernel
theorem d_Pl_isOneWith_80 : decode b_Pl_isOneWith 80 = .ok (.getfield 7, 3) := by decide +kernel
theorem d_Pl_isOneWith_83 : decode b_Pl_isOneWith 83 = .ok (.lmul, 1) := by decide +kernel
theorem d_Pl_isOneWith_84 : decode b_Pl_isOneWith 84 = .ok (.lcmp, 1) := by decide +kernel
theorem d_Pl_isOneWith_85 : decode b_Pl_isOneWith 85 = .ok (.ifCond .ne 51, 3) := by decide +kernel
theorem d_Pl_isOneWith_88 : decode b_Pl_isOneWith 88 = .ok (.aload_n 0, 1) := by decide +kernel
theorem d_Pl_isOneWith_89 : decode b_Pl_isOneWith 89 = .ok (.getfield 13, 3) := by decide +kernel
theorem d_Pl_isOneWith_92 : decode b_Pl_isOneWith 92 = .ok (.aload_n 1, 1) := by decide +kernel
theorem d_Pl_isOneWith_93 : decode b_Pl_isOneWith 93 = .ok (.getfield 19, 3) := by decide +kernel
theorem d_Pl_isOneWith_96 : decode b_Pl_isOneWith 96 = .ok (.lmul, 1) := by decide +kernel
theorem d_Pl_isOneWith_97 : decode b_Pl_isOneWith 97 = .ok (.aload_n 0, 1) := by decide +kernel
theorem d_Pl_isOneWith_98 : decode b_Pl_isOneWith 98 = .ok (.getfield 19, 3) := by decide +kernel
theorem d_Pl_isOneWith_101 : decode b_Pl_isOneWith 101 = .ok (.aload_n 1, 1) := by decide +kernel
theorem d_Pl_isOneWith_102 : decode b_Pl_isOneWith 102 = .ok (.getfield 13, 3) := by decide +kernel
theorem d_Pl_isOneWith_105 : decode b_Pl_isOneWith 105 = .ok (.lmul, 1) := by decide +kernel
theorem d_Pl_isOneWith_106 : decode b_Pl_isOneWith 106 = .ok (.lcmp, 1) := by decide +kernel
theorem d_Pl_isOneWith_107 : decode b_Pl_isOneWith 107 = .ok (.ifCond .ne 29, 3) := by decide +kernel
theorem d_Pl_isOneWith_110 : decode b_Pl_isOneWith 110 = .ok (.aload_n 0, 1) := by decide +kernel
theorem d_Pl_isOneWith_111 : decode b_Pl_isOneWith 111 = .ok (.getfield 16, 3) := by decide +kernel
theorem d_Pl_isOneWith_114 : decode b_Pl_isOneWith 114 = .ok (.aload_n 1, 1) := by decide +kernel
theorem d_Pl_isOneWith_115 : decode b_Pl_isOneWith 115 = .ok (.getfield 19, 3) := by decide +kernel
theorem d_Pl_isOneWith_118 : decode b_Pl_isOneWith 118 = .ok (.lmul, 1) := by decide +kernel
theorem d_Pl_isOneWith_119 : decode b_Pl_isOneWith 119 = .ok (.aload_n 0, 1) := by decide +kernel
theorem d_Pl_isOneWith_120 : decode b_Pl_isOneWith 120 = .ok (.getfield 19, 3) := by decide +kernel
theorem d_Pl_isOneWith_123 : decode b_Pl_isOneWith 123 = .ok (.aload_n 1, 1) := by decide +kernel
theorem d_Pl_isOneWith_124 : decode b_Pl_isOneWith 124 = .ok (.getfield 16, 3) := by decide +kernel
theorem d_Pl_isOneWith_127 : decode b_Pl_isOneWith 127 = .ok (.lmul, 1) := by decide +kernel
theorem d_Pl_isOneWith_128 : decode b_Pl_isOneWith 128 = .ok (.lcmp, 1) := by decide +kernel
theorem d_Pl_isOneWith_129 : decode b_Pl_isOneWith 129 = .ok (.ifCond .ne 7, 3) := by decide +kernel
theorem d_Pl_isOneWith_132 : decode b_Pl_isOneWith 132 = .ok (.iconst 1, 1) := by decide +kernel
theorem d_Pl_isOneWith_133 : decode b_Pl_isOneWith 133 = .ok (.goto 4, 3) := by decide +kernel
theorem d_Pl_isOneWith_136 : decode b_Pl_isOneWith 136 = .ok (.iconst 0, 1) := by decide +kernel
theorem d_Pl_isOneWith_137 : decode b_Pl_isOneWith 137 = .ok (.ireturn, 1) := by decide +kernel
theorem d_Pl_looksLike_0 : decode b_Pl_looksLike 0 = .ok (.aload_n 0, 1) := by decide +kernel
theorem d_Pl_looksLike_1 : decode b_Pl_looksLike 1 = .ok (.getfield 7, 3) := by decide +kernel
theorem d_Pl_looksLike_4 : decode b_Pl_looksLike 4 = .ok (.aload_n 1, 1) := by decide +kernel
theorem d_Pl_looksLike_5 : decode b_Pl_looksLike 5 = .ok (.getfield 7, 3) := by decide +kernel
theorem d_Pl_looksLike_8 : decode b_Pl_looksLike 8 = .ok (.lmul, 1) := by decide +kernel
theorem d_Pl_looksLike_9 : decode b_Pl_looksLike 9 = .ok (.aload_n 0, 1) := by decide +kernel
theorem d_Pl_looksLike_10 : decode b_Pl_looksLike 10 = .ok (.getfield 13, 3) := by decide +kernel
theorem d_Pl_looksLike_13 : decode b_Pl_looksLike 13 = .ok (.aload_n 1, 1) := by decide +kernel
theorem d_Pl_looksLike_14 : decode b_Pl_looksLike 14 = .ok (.getfield 13, 3) := by decide +kernel
theorem d_Pl_looksLike_17 : decode b_Pl_looksLike 17 = .ok (.lmul, 1) := by decide +kernel
theorem d_Pl_looksLike_18 : decode b_Pl_looksLike 18 = .ok (.ladd, 1) := by decide +kernel
theorem d_Pl_looksLike_19 : decode b_Pl_looksLike 19 = .ok (.aload_n 0, 1) := by decide +kernel
theorem d_Pl_looksLike_20 : decode b_Pl_looksLike 20 = .ok (.getfield 16, 3) := by decide +kernel
theorem d_Pl_looksLike_23 : decode b_Pl_looksLike 23 = .ok (.aload_n 1, 1) := by decide +kernel
theorem d_Pl_looksLike_24 : decode b_Pl_looksLike 24 = .ok (.getfield 16, 3) := by decide +kernel
theorem d_Pl_looksLike_27 : decode b_Pl_looksLike 27 = .ok (.lmul, 1) := by decide +kernel
theorem d_Pl_looksLike_28 : decode b_Pl_looksLike 28 = .ok (.ladd, 1) := by decide +kernel
theorem d_Pl_looksLike_29 : decode b_Pl_looksLike 29 = .ok (.lconst 0, 1) := by decide +kernel
theorem d_Pl_looksLike_30 : decode b_Pl_looksLike 30 = .ok (.lcmp, 1) := by decide +kernel
theorem d_Pl_looksLike_31 : decode b_Pl_looksLike 31 = .ok (.ifCond .le 7, 3) := by decide +kernel
theorem d_Pl_looksLike_34 : decode b_Pl_looksLike 34 = .ok (.iconst 1, 1) := by decide +kernel
theorem d_Pl_looksLike_35 : decode b_Pl_looksLike 35 = .ok (.goto 4, 3) := by decide +kernel
theorem d_Pl_looksLike_38 : decode b_Pl_looksLike 38 = .ok (.iconst 0, 1) := by decide +kernel
theorem d_Pl_looksLike_39 : decode b_Pl_looksLike 39 = .ok (.ireturn, 1) := by decide +kernel
end
section
/-! Decode rows of Ps. -/
theorem d_Ps_init_0 : decode b_Ps_init 0 = .ok (.aload_n 0, 1) := by decide +kernel
theorem d_Ps_init_1 : decode b_Ps_init 1 = .ok (.invokespecial 3, 3) := by decide +kernel
theorem d_Ps_init_4 : decode b_Ps_init 4 = .ok (.aload_n 0, 1) := by decide +kernel
theorem d_Ps_init_5 : decode b_Ps_init 5 = .ok (.bipush 14, 2) := by decide +kernel
theorem d_Ps_init_7 : decode b_Ps_init 7 = .ok (.anewarray 9, 3) := by decide +kernel
theorem d_Ps_init_10 : decode b_Ps_init 10 = .ok (.putfield 11, 3) := by decide +kernel
theorem d_Ps_init_13 : decode b_Ps_init 13 = .ok (.aload_n 0, 1) := by decide +kernel
theorem d_Ps_init_14 : decode b_Ps_init 14 = .ok (.bipush 14, 2) := by decide +kernel
theorem d_Ps_init_16 : decode b_Ps_init 16 = .ok (.newarray .int, 2) := by decide +kernel
theorem d_Ps_init_18 : decode b_Ps_init 18 = .ok (.putfield 15, 3) := by decide +kernel
theorem d_Ps_init_21 : decode b_Ps_init 21 = .ok (.aload_n 0, 1) := by decide +kernel
theorem d_Ps_init_22 : decode b_Ps_init 22 = .ok (.iconst 0, 1) := by decide +kernel
theorem d_Ps_init_23 : decode b_Ps_init 23 = .ok (.putfield 19, 3) := by decide +kernel
theorem d_Ps_init_26 : decode b_Ps_init 26 = .ok (.aload_n 0, 1) := by decide +kernel
theorem d_Ps_init_27 : decode b_Ps_init 27 = .ok (.new 9, 3) := by decide +kernel
theorem d_Ps_init_30 : decode b_Ps_init 30 = .ok (.dup, 1) := by decide +kernel
theorem d_Ps_init_31 : decode b_Ps_init 31 = .ok (.lconst 1, 1) := by decide +kernel
theorem d_Ps_init_32 : decode b_Ps_init 32 = .ok (.lconst 0, 1) := by decide +kernel
theorem d_Ps_init_33 : decode b_Ps_init 33 = .ok (.lconst 0, 1) := by decide +kernel
theorem d_Ps_init_34 : decode b_Ps_init 34 = .ok (.ldc2_w 23, 3) := by decide +kernel
theorem d_Ps_init_37 : decode b_Ps_init 37 = .ok (.invokespecial 25, 3) := by decide +kernel
theorem d_Ps_init_40 : decode b_Ps_init 40 = .ok (.invokevirtual 28, 3) := by decide +kernel
theorem d_Ps_init_43 : decode b_Ps_init 43 = .ok (.aload_n 0, 1) := by decide +kernel
theorem d_Ps_init_44 : decode b_Ps_init 44 = .ok (.new 9, 3) := by decide +kernel
theorem d_Ps_init_47 : decode b_Ps_init 47 = .ok (.dup, 1) := by decide +kernel
theorem d_Ps_init_48 : decode b_Ps_init 48 = .ok (.ldc2_w 32, 3) := by decide +kernel
theorem d_Ps_init_51 : decode b_Ps_init 51 = .ok (.lconst 0, 1) := by decide +kernel
theorem d_Ps_init_52 : decode b_Ps_init 52 = .ok (.lconst 0, 1) := by decide +kernel
theorem d_Ps_init_53 : decode b_Ps_init 53 = .ok (.ldc2_w 23, 3) := by decide +kernel
theorem d_Ps_init_56 : decode b_Ps_init 56 = .ok (.invokespecial 25, 3) := by decide +kernel
theorem d_Ps_init_59 : decode b_Ps_init 59 = .ok (.invokevirtual 28, 3) := by decide +kernel
theorem d_Ps_init_62 : decode b_Ps_init 62 = .ok (.aload_n 0, 1) := by decide +kernel
theorem d_Ps_init_63 : decode b_Ps_init 63 = .ok (.new 9, 3) := by decide +kernel
theorem d_Ps_init_66 : decode b_Ps_init 66 = .ok (.dup, 1) := by decide +kernel
theorem d_Ps_init_67 : decode b_Ps_init 67 = .ok (.lconst 0, 1) := by decide +kernel
theorem d_Ps_init_68 : decode b_Ps_init 68 = .ok (.lconst 1, 1) := by decide +kernel
theorem d_Ps_init_69 : decode b_Ps_init 69 = .ok (.lconst 0, 1) := by decide +kernel
theorem d_Ps_init_70 : decode b_Ps_init 70 = .ok (.ldc2_w 23, 3) := by decide +kernel
theorem d_Ps_init_73 : decode b_Ps_init 73 = .ok (.invokespecial 25, 3) := by decide +kernel
theorem d_Ps_init_76 : decode b_Ps_init 76 = .ok (.invokevirtual 28, 3) := by decide +kernel
theorem d_Ps_init_79 : decode b_Ps_init 79 = .ok (.aload_n 0, 1) := by decide +kernel
theorem d_Ps_init_80 : decode b_Ps_init 80 = .ok (.new 9, 3) := by decide +kernel
theorem d_Ps_init_83 : decode b_Ps_init 83 = .ok (.dup, 1) := by decide +kernel
theorem d_Ps_init_84 : decode b_Ps_init 84 = .ok (.lconst 0, 1) := by decide +kernel
theorem d_Ps_init_85 : decode b_Ps_init 85 = .ok (.ldc2_w 32, 3) := by decide +kernel
theorem d_Ps_init_88 : decode b_Ps_init 88 = .ok (.lconst 0, 1) := by decide +kernel
theorem d_Ps_init_89 : decode b_Ps_init 89 = .ok (.ldc2_w 23, 3) := by decide +kernel
theorem d_Ps_init_92 : decode b_Ps_init 92 = .ok (.invokespecial 25, 3) := by decide +kernel
theorem d_Ps_init_95 : decode b_Ps_init 95 = .ok (.invokevirtual 28, 3) := by decide +kernel
theorem d_Ps_init_98 : decode b_Ps_init 98 = .ok (.aload_n 0, 1) := by decide +kernel
theorem d_Ps_init_99 : decode b_Ps_init 99 = .ok (.new 9, 3) := by decide +kernel
theorem d_Ps_init_102 : decode b_Ps_init 102 = .ok (.dup, 1) := by decide +kernel
theorem d_Ps_init_103 : decode b_Ps_init 103 = .ok (.lconst 0, 1) := by decide +kernel
theorem d_Ps_init_104 : decode b_Ps_init 104 = .ok (.lconst 0, 1) := by decide +kernel
theorem d_Ps_init_105 : decode b_Ps_init 105 = .ok (.lconst 1, 1) := by decide +kernel
theorem d_Ps_init_106 : decode b_Ps_init 106 = .ok (.ldc2_w 23, 3) := by decide +kernel
theorem d_Ps_init_109 : decode b_Ps_init 109 = .ok (.invokespecial 25, 3) := by decide +kernel
theorem d_Ps_init_112 : decode b_Ps_init 112 = .ok (.invokevirtual 28, 3) := by decide +kernel
theorem d_Ps_init_115 : decode b_Ps_init 115 = .ok (.aload_n 0, 1) := by decide +kernel
theorem d_Ps_init_116 : decode b_Ps_init 116 = .ok (.new 9, 3) := by decide +kernel
theorem d_Ps_init_119 : decode b_Ps_init 119 = .ok (.dup, 1) := by decide +kernel
theorem d_Ps_init_120 : decode b_Ps_init 120 = .ok (.lconst 0, 1) := by decide +kernel
theorem d_Ps_init_121 : decode b_Ps_init 121 = .ok (.lconst 0, 1) := by decide +kernel
theorem d_Ps_init_122 : decode b_Ps_init 122 = .ok (.ldc2_w 32, 3) := by decide +kernel
theorem d_Ps_init_125 : decode b_Ps_init 125 = .ok (.ldc2_w 23, 3) := by decide +kernel
theorem d_Ps_init_128 : decode b_Ps_init 128 = .ok (.invokespecial 25, 3) := by decide +kernel
theorem d_Ps_init_131 : decode b_Ps_init 131 = .ok (.invokevirtual 28, 3) := by decide +kernel
theorem d_Ps_init_134 : decode b_Ps_init 134 = .ok (.return_, 1) := by decide +kernel
theorem d_Ps_isCellInBox_0 : decode b_Ps_isCellInBox 0 = .ok (.iload_n 0, 1) := by decide +kernel
theorem d_Ps_isCellInBox_1 : decode b_Ps_isCellInBox 1 = .ok (.bipush 63, 2) := by decide +kernel
theorem d_Ps_isCellInBox_3 : decode b_Ps_isCellInBox 3 = .ok (.iand, 1) := by decide +kernel
theorem d_Ps_isCellInBox_4 : decode b_Ps_isCellInBox 4 = .ok (.bipush 63, 2) := by decide +kernel
theorem d_Ps_isCellInBox_6 : decode b_Ps_isCellInBox 6 = .ok (.if_icmp .ne 7, 3) := by decide +kernel
theorem d_Ps_isCellInBox_9 : decode b_Ps_isCellInBox 9 = .ok (.iconst 1, 1) := by decide +kernel
theorem d_Ps_isCellInBox_10 : decode b_Ps_isCellInBox 10 = .ok (.goto 4, 3) := by decide +kernel
theorem d_Ps_isCellInBox_13 : decode b_Ps_isCellInBox 13 = .ok (.iconst 0, 1) := by decide +kernel
theorem d_Ps_isCellInBox_14 : decode b_Ps_isCellInBox 14 = .ok (.ireturn, 1) := by decide +kernel
theorem d_Ps_givenOfCell_0 : decode b_Ps_givenOfCell 0 = .ok (.iload_n 0, 1) := by decide +kernel
theorem d_Ps_givenOfCell_1 : decode b_Ps_givenOfCell 1 = .ok (.bipush 6, 2) := by decide +kernel
theorem d_Ps_givenOfCell_3 : decode b_Ps_givenOfCell 3 = .ok (.ishr, 1) := by decide +kernel
theorem d_Ps_givenOfCell_4 : decode b_Ps_givenOfCell 4 = .ok (.ireturn, 1) := by decide +kernel
theorem d_Ps_add_0 : decode b_Ps_add 0 = .ok (.aload_n 0, 1) := by decide +kernel
theorem d_Ps_add_1 : decode b_Ps_add 1 = .ok (.getfield 11, 3) := by decide +kernel
theorem d_Ps_add_4 : decode b_Ps_add 4 = .ok (.aload_n 0, 1) := by decide +kernel
theorem d_Ps_add_5 : decode b_Ps_add 5 = .ok (.getfield 19, 3) := by decide +kernel
theorem d_Ps_add_8 : decode b_Ps_add 8 = .ok (.aload_n 1, 1) := by decide +kernel
theorem d_Ps_add_9 : decode b_Ps_add 9 = .ok (.aastore, 1) := by decide +kernel
theorem d_Ps_add_10 : decode b_Ps_add 10 = .ok (.aload_n 0, 1) := by decide +kernel
theorem d_Ps_add_11 : decode b_Ps_add 11 = .ok (.getfield 15, 3) := by decide +kernel
theorem d_Ps_add_14 : decode b_Ps_add 14 = .ok (.aload_n 0, 1) := by decide +kernel
theorem d_Ps_add_15 : decode b_Ps_add 15 = .ok (.getfield 19, 3) := by decide +kernel
theorem d_Ps_add_18 : decode b_Ps_add 18 = .ok (.aload_n 0, 1) := by decide +kernel
theorem d_Ps_add_19 : decode b_Ps_add 19 = .ok (.aload_n 1, 1) := by decide +kernel
theorem d_Ps_add_20 : decode b_Ps_add 20 = .ok (.invokevirtual 34, 3) := by decide +kernel
theorem d_Ps_add_23 : decode b_Ps_add 23 = .ok (.iastore, 1) := by decide +kernel
theorem d_Ps_add_24 : decode b_Ps_add 24 = .ok (.aload_n 0, 1) := by decide +kernel
theorem d_Ps_add_25 : decode b_Ps_add 25 = .ok (.dup, 1) := by decide +kernel
theorem d_Ps_add_26 : decode b_Ps_add 26 = .ok (.getfield 19, 3) := by decide +kernel
theorem d_Ps_add_29 : decode b_Ps_add 29 = .ok (.iconst 1, 1) := by decide +kernel
theorem d_Ps_add_30 : decode b_Ps_add 30 = .ok (.iadd, 1) := by decide +kernel
theorem d_Ps_add_31 : decode b_Ps_add 31 = .ok (.putfield 19, 3) := by decide +kernel
theorem d_Ps_add_34 : decode b_Ps_add 34 = .ok (.return_, 1) := by decide +kernel
theorem d_Ps_firstOneWith_0 : decode b_Ps_firstOneWith 0 = .ok (.iconst 0, 1) := by decide +kernel
theorem d_Ps_firstOneWith_1 : decode b_Ps_firstOneWith 1 = .ok (.istore_n 2, 1) := by decide +kernel
theorem d_Ps_firstOneWith_2 : decode b_Ps_firstOneWith 2 = .ok (.iload_n 2, 1) := by decide +kernel
theorem d_Ps_firstOneWith_3 : decode b_Ps_firstOneWith 3 = .ok (.aload_n 0, 1) := by decide +kernel
theorem d_Ps_firstOneWith_4 : decode b_Ps_firstOneWith 4 = .ok (.getfield 19, 3) := by decide +kernel
theorem d_Ps_firstOneWith_7 : decode b_Ps_firstOneWith 7 = .ok (.if_icmp .ge 24, 3) := by decide +kernel
theorem d_Ps_firstOneWith_10 : decode b_Ps_firstOneWith 10 = .ok (.aload_n 0, 1) := by decide +kernel
theorem d_Ps_firstOneWith_11 : decode b_Ps_firstOneWith 11 = .ok (.getfield 11, 3) := by decide +kernel
theorem d_Ps_firstOneWith_14 : decode b_Ps_firstOneWith 14 = .ok (.iload_n 2, 1) := by decide +kernel
theorem d_Ps_firstOneWith_15 : decode b_Ps_firstOneWith 15 = .ok (.aaload, 1) := by decide +kernel
theorem d_Ps_firstOneWith_16 : decode b_Ps_firstOneWith 16 = .ok (.aload_n 1, 1) := by decide +kernel
theorem d_Ps_firstOneWith_17 : decode b_Ps_firstOneWith 17 = .ok (.invokevirtual 38, 3) := by decide +kernel
theorem d_Ps_firstOneWith_20 : decode b_Ps_firstOneWith 20 = .ok (.ifCond .eq 5, 3) := by decide +kernel
theorem d_Ps_firstOneWith_23 : decode b_Ps_firstOneWith 23 = .ok (.iload_n 2, 1) := by decide +kernel
theorem d_Ps_firstOneWith_24 : decode b_Ps_firstOneWith 24 = .ok (.ireturn, 1) := by decide +kernel
theorem d_Ps_firstOneWith_25 : decode b_Ps_firstOneWith 25 = .ok (.iinc 2 1, 3) := by decide +kernel
theorem d_Ps_firstOneWith_28 : decode b_Ps_firstOneWith 28 = .ok (.goto (-26), 3) := by decide +kernel
theorem d_Ps_firstOneWith_31 : decode b_Ps_firstOneWith 31 = .ok (.aload_n 0, 1) := by decide +kernel
theorem d_Ps_firstOneWith_32 : decode b_Ps_firstOneWith 32 = .ok (.getfield 19, 3) := by decide +kernel
theorem d_Ps_firstOneWith_35 : decode b_Ps_firstOneWith 35 = .ok (.ireturn, 1) := by decide +kernel
theorem d_Ps_count_0 : decode b_Ps_count 0 = .ok (.aload_n 0, 1) := by decide +kernel
theorem d_Ps_count_1 : decode b_Ps_count 1 = .ok (.getfield 19, 3) := by decide +kernel
theorem d_Ps_count_4 : decode b_Ps_count 4 = .ok (.ireturn, 1) := by decide +kernel
theorem d_Ps_given_0 : decode b_Ps_given 0 = .ok (.aload_n 0, 1) := by decide +kernel
theorem d_Ps_given_1 : decode b_Ps_given 1 = .ok (.getfield 19, 3) := by decide +kernel
theorem d_Ps_given_4 : decode b_Ps_given 4 = .ok (.bipush 6, 2) := by decide +kernel
theorem d_Ps_given_6 : decode b_Ps_given 6 = .ok (.isub, 1) := by decide +kernel
theorem d_Ps_given_7 : decode b_Ps_given 7 = .ok (.ireturn, 1) := by decide +kernel
theorem d_Ps_get_0 : decode b_Ps_get 0 = .ok (.aload_n 0, 1) := by decide +kernel
theorem d_Ps_get_1 : decode b_Ps_get 1 = .ok (.getfield 11, 3) := by decide +kernel
theorem d_Ps_get_4 : decode b_Ps_get 4 = .ok (.iload_n 1, 1) := by decide +kernel
theorem d_Ps_get_5 : decode b_Ps_get 5 = .ok (.aaload, 1) := by decide +kernel
theorem d_Ps_get_6 : decode b_Ps_get 6 = .ok (.areturn, 1) := by decide +kernel
theorem d_Ps_isFirst_0 : decode b_Ps_isFirst 0 = .ok (.aload_n 0, 1) := by decide +kernel
theorem d_Ps_isFirst_1 : decode b_Ps_isFirst 1 = .ok (.getfield 15, 3) := by decide +kernel
theorem d_Ps_isFirst_4 : decode b_Ps_isFirst 4 = .ok (.iload_n 1, 1) := by decide +kernel
theorem d_Ps_isFirst_5 : decode b_Ps_isFirst 5 = .ok (.iaload, 1) := by decide +kernel
theorem d_Ps_isFirst_6 : decode b_Ps_isFirst 6 = .ok (.iload_n 1, 1) := by decide +kernel
theorem d_Ps_isFirst_7 : decode b_Ps_isFirst 7 = .ok (.if_icmp .ne 7, 3) := by decide +kernel
theorem d_Ps_isFirst_10 : decode b_Ps_isFirst 10 = .ok (.iconst 1, 1) := by decide +kernel
theorem d_Ps_isFirst_11 : decode b_Ps_isFirst 11 = .ok (.goto 4, 3) := by decide +kernel
theorem d_Ps_isFirst_14 : decode b_Ps_isFirst 14 = .ok (.iconst 0, 1) := by decide +kernel
theorem d_Ps_isFirst_15 : decode b_Ps_isFirst 15 = .ok (.ireturn, 1) := by decide +kernel
theorem d_Ps_isInBox_0 : decode b_Ps_isInBox 0 = .ok (.iconst 0, 1) := by decide +kernel
theorem d_Ps_isInBox_1 : decode b_Ps_isInBox 1 = .ok (.istore_n 2, 1) := by decide +kernel
theorem d_Ps_isInBox_2 : decode b_Ps_isInBox 2 = .ok (.iload_n 2, 1) := by decide +kernel
theorem d_Ps_isInBox_3 : decode b_Ps_isInBox 3 = .ok (.bipush 6, 2) := by decide +kernel
theorem d_Ps_isInBox_5 : decode b_Ps_isInBox 5 = .ok (.if_icmp .ge 26, 3) := by decide +kernel
theorem d_Ps_isInBox_8 : decode b_Ps_isInBox 8 = .ok (.aload_n 0, 1) := by decide +kernel
theorem d_Ps_isInBox_9 : decode b_Ps_isInBox 9 = .ok (.getfield 11, 3) := by decide +kernel
theorem d_Ps_isInBox_12 : decode b_Ps_isInBox 12 = .ok (.iload_n 2, 1) := by decide +kernel
theorem d_Ps_isInBox_13 : decode b_Ps_isInBox 13 = .ok (.aaload, 1) := by decide +kernel
theorem d_Ps_isInBox_14 : decode b_Ps_isInBox 14 = .ok (.aload_n 1, 1) := by decide +kernel
theorem d_Ps_isInBox_15 : decode b_Ps_isInBox 15 = .ok (.invokevirtual 42, 3) := by decide +kernel
theorem d_Ps_isInBox_18 : decode b_Ps_isInBox 18 = .ok (.lconst 0, 1) := by decide +kernel
theorem d_Ps_isInBox_19 : decode b_Ps_isInBox 19 = .ok (.lcmp, 1) := by decide +kernel
theorem d_Ps_isInBox_20 : decode b_Ps_isInBox 20 = .ok (.ifCond .le 5, 3) := by decide +kernel
theorem d_Ps_isInBox_23 : decode b_Ps_isInBox 23 = .ok (.iconst 0, 1) := by decide +kernel
theorem d_Ps_isInBox_24 : decode b_Ps_isInBox 24 = .ok (.ireturn, 1) := by decide +kernel
theorem d_Ps_isInBox_25 : decode b_Ps_isInBox 25 = .ok (.iinc 2 1, 3) := by decide +kernel
theorem d_Ps_isInBox_28 : decode b_Ps_isInBox 28 = .ok (.goto (-26), 3) := by decide +kernel
theorem d_Ps_isInBox_31 : decode b_Ps_isInBox 31 = .ok (.iconst 1, 1) := by decide +kernel
theorem d_Ps_isInBox_32 : decode b_Ps_isInBox 32 = .ok (.ireturn, 1) := by decide +kernel
theorem d_Ps_isOnAny_0 : decode b_Ps_isOnAny 0 = .ok (.iconst 0, 1) := by decide +kernel
theorem d_Ps_isOnAny_1 : decode b_Ps_isOnAny 1 = .ok (.istore_n 2, 1) := by decide +kernel
theorem d_Ps_isOnAny_2 : decode b_Ps_isOnAny 2 = .ok (.iload_n 2, 1) := by decide +kernel
theorem d_Ps_isOnAny_3 : decode b_Ps_isOnAny 3 = .ok (.aload_n 0, 1) := by decide +kernel
theorem d_Ps_isOnAny_4 : decode b_Ps_isOnAny 4 = .ok (.getfield 19, 3) := by decide +kernel
theorem d_Ps_isOnAny_7 : decode b_Ps_isOnAny 7 = .ok (.if_icmp .ge 26, 3) := by decide +kernel
theorem d_Ps_isOnAny_10 : decode b_Ps_isOnAny 10 = .ok (.aload_n 0, 1) := by decide +kernel
theorem d_Ps_isOnAny_11 : decode b_Ps_isOnAny 11 = .ok (.getfield 11, 3) := by decide +kernel
theorem d_Ps_isOnAny_14 : decode b_Ps_isOnAny 14 = .ok (.iload_n 2, 1) := by decide +kernel
theorem d_Ps_isOnAny_15 : decode b_Ps_isOnAny 15 = .ok (.aaload, 1) := by decide +kernel
theorem d_Ps_isOnAny_16 : decode b_Ps_isOnAny 16 = .ok (.aload_n 1, 1) := by decide +kernel
theorem d_Ps_isOnAny_17 : decode b_Ps_isOnAny 17 = .ok (.invokevirtual 42, 3) := by decide +kernel
theorem d_Ps_isOnAny_20 : decode b_Ps_isOnAny 20 = .ok (.lconst 0, 1) := by decide +kernel
theorem d_Ps_isOnAny_21 : decode b_Ps_isOnAny 21 = .ok (.lcmp, 1) := by decide +kernel
theorem d_Ps_isOnAny_22 : decode b_Ps_isOnAny 22 = .ok (.ifCond .ne 5, 3) := by decide +kernel
theorem d_Ps_isOnAny_25 : decode b_Ps_isOnAny 25 = .ok (.iconst 1, 1) := by decide +kernel
theorem d_Ps_isOnAny_26 : decode b_Ps_isOnAny 26 = .ok (.ireturn, 1) := by decide +kernel
theorem d_Ps_isOnAny_27 : decode b_Ps_isOnAny 27 = .ok (.iinc 2 1, 3) := by decide +kernel
theorem d_Ps_isOnAny_30 : decode b_Ps_isOnAny 30 = .ok (.goto (-28), 3) := by decide +kernel
theorem d_Ps_isOnAny_33 : decode b_Ps_isOnAny 33 = .ok (.iconst 0, 1) := by decide +kernel
theorem d_Ps_isOnAny_34 : decode b_Ps_isOnAny 34 = .ok (.ireturn, 1) := by decide +kernel
theorem d_Ps_onlyOneAt_0 : decode b_Ps_onlyOneAt 0 = .ok (.iconst (-1), 1) := by decide +kernel
theorem d_Ps_onlyOneAt_1 : decode b_Ps_onlyOneAt 1 = .ok (.istore_n 2, 1) := by decide +kernel
theorem d_Ps_onlyOneAt_2 : decode b_Ps_onlyOneAt 2 = .ok (.iconst 0, 1) := by decide +kernel
theorem d_Ps_onlyOneAt_3 : decode b_Ps_onlyOneAt 3 = .ok (.istore_n 3, 1) := by decide +kernel
theorem d_Ps_onlyOneAt_4 : decode b_Ps_onlyOneAt 4 = .ok (.iload_n 3, 1) := by decide +kernel
theorem d_Ps_onlyOneAt_5 : decode b_Ps_onlyOneAt 5 = .ok (.aload_n 0, 1) := by decide +kernel
theorem d_Ps_onlyOneAt_6 : decode b_Ps_onlyOneAt 6 = .ok (.getfield 19, 3) := by decide +kernel
theorem d_Ps_onlyOneAt_9 : decode b_Ps_onlyOneAt 9 = .ok (.if_icmp .ge 48, 3) := by decide +kernel
theorem d_Ps_onlyOneAt_12 : decode b_Ps_onlyOneAt 12 = .ok (.aload_n 0, 1) := by decide +kernel
theorem d_Ps_onlyOneAt_13 : decode b_Ps_onlyOneAt 13 = .ok (.getfield 11, 3) := by decide +kernel
theorem d_Ps_onlyOneAt_16 : decode b_Ps_onlyOneAt 16 = .ok (.iload_n 3, 1) := by decide +kernel
theorem d_Ps_onlyOneAt_17 : decode b_Ps_onlyOneAt 17 = .ok (.aaload, 1) := by decide +kernel
theorem d_Ps_onlyOneAt_18 : decode b_Ps_onlyOneAt 18 = .ok (.aload_n 1, 1) := by decide +kernel
theorem d_Ps_onlyOneAt_19 : decode b_Ps_onlyOneAt 19 = .ok (.invokevirtual 42, 3) := by decide +kernel
theorem d_Ps_onlyOneAt_22 : decode b_Ps_onlyOneAt 22 = .ok (.lconst 0, 1) := by decide +kernel
theorem d_Ps_onlyOneAt_23 : decode b_Ps_onlyOneAt 23 = .ok (.lcmp, 1) := by decide +kernel
theorem d_Ps_onlyOneAt_24 : decode b_Ps_onlyOneAt 24 = .ok (.ifCond .ne 27, 3) := by decide +kernel
theorem d_Ps_onlyOneAt_27 : decode b_Ps_onlyOneAt 27 = .ok (.iload_n 2, 1) := by decide +kernel
theorem d_Ps_onlyOneAt_28 : decode b_Ps_onlyOneAt 28 = .ok (.iconst (-1), 1) := by decide +kernel
theorem d_Ps_onlyOneAt_29 : decode b_Ps_onlyOneAt 29 = .ok (.if_icmp .eq 15, 3) := by decide +kernel
theorem d_Ps_onlyOneAt_32 : decode b_Ps_onlyOneAt 32 = .ok (.iload_n 2, 1) := by decide +kernel
theorem d_Ps_onlyOneAt_33 : decode b_Ps_onlyOneAt 33 = .ok (.aload_n 0, 1) := by decide +kernel
theorem d_Ps_onlyOneAt_34 : decode b_Ps_onlyOneAt 34 = .ok (.getfield 15, 3) := by decide +kernel
theorem d_Ps_onlyOneAt_37 : decode b_Ps_onlyOneAt 37 = .ok (.iload_n 3, 1) := by decide +kernel
theorem d_Ps_onlyOneAt_38 : decode b_Ps_onlyOneAt 38 = .ok (.iaload, 1) := by decide +kernel
theorem d_Ps_onlyOneAt_39 : decode b_Ps_onlyOneAt 39 = .ok (.if_icmp .eq 5, 3) := by decide +kernel
theorem d_Ps_onlyOneAt_42 : decode b_Ps_onlyOneAt 42 = .ok (.iconst (-1), 1) := by decide +kernel
theorem d_Ps_onlyOneAt_43 : decode b_Ps_onlyOneAt 43 = .ok (.ireturn, 1) := by decide +kernel
theorem d_Ps_onlyOneAt_44 : decode b_Ps_onlyOneAt 44 = .ok (.aload_n 0, 1) := by decide +kernel
theorem d_Ps_onlyOneAt_45 : decode b_Ps_onlyOneAt 45 = .ok (.getfield 15, 3) := by decide +kernel
theorem d_Ps_onlyOneAt_48 : decode b_Ps_onlyOneAt 48 = .ok (.iload_n 3, 1) := by decide +kernel
theorem d_Ps_onlyOneAt_49 : decode b_Ps_onlyOneAt 49 = .ok (.iaload, 1) := by decide +kernel
theorem d_Ps_onlyOneAt_50 : decode b_Ps_onlyOneAt 50 = .ok (.istore_n 2, 1) := by decide +kernel
theorem d_Ps_onlyOneAt_51 : decode b_Ps_onlyOneAt 51 = .ok (.iinc 3 1, 3) := by decide +kernel
theorem d_Ps_onlyOneAt_54 : decode b_Ps_onlyOneAt 54 = .ok (.goto (-50), 3) := by decide +kernel
theorem d_Ps_onlyOneAt_57 : decode b_Ps_onlyOneAt 57 = .ok (.iload_n 2, 1) := by decide +kernel
theorem d_Ps_onlyOneAt_58 : decode b_Ps_onlyOneAt 58 = .ok (.ireturn, 1) := by decide +kernel
theorem d_Ps_cellOf_0 : decode b_Ps_cellOf 0 = .ok (.iconst 0, 1) := by decide +kernel
theorem d_Ps_cellOf_1 : decode b_Ps_cellOf 1 = .ok (.istore_n 2, 1) := by decide +kernel
theorem d_Ps_cellOf_2 : decode b_Ps_cellOf 2 = .ok (.iconst 0, 1) := by decide +kernel
theorem d_Ps_cellOf_3 : decode b_Ps_cellOf 3 = .ok (.istore_n 3, 1) := by decide +kernel
theorem d_Ps_cellOf_4 : decode b_Ps_cellOf 4 = .ok (.iload_n 3, 1) := by decide +kernel
theorem d_Ps_cellOf_5 : decode b_Ps_cellOf 5 = .ok (.aload_n 0, 1) := by decide +kernel
theorem d_Ps_cellOf_6 : decode b_Ps_cellOf 6 = .ok (.getfield 19, 3) := by decide +kernel
theorem d_Ps_cellOf_9 : decode b_Ps_cellOf 9 = .ok (.if_icmp .ge 30, 3) := by decide +kernel
theorem d_Ps_cellOf_12 : decode b_Ps_cellOf 12 = .ok (.aload_n 0, 1) := by decide +kernel
theorem d_Ps_cellOf_13 : decode b_Ps_cellOf 13 = .ok (.getfield 11, 3) := by decide +kernel
theorem d_Ps_cellOf_16 : decode b_Ps_cellOf 16 = .ok (.iload_n 3, 1) := by decide +kernel
theorem d_Ps_cellOf_17 : decode b_Ps_cellOf 17 = .ok (.aaload, 1) := by decide +kernel
theorem d_Ps_cellOf_18 : decode b_Ps_cellOf 18 = .ok (.aload_n 1, 1) := by decide +kernel
theorem d_Ps_cellOf_19 : decode b_Ps_cellOf 19 = .ok (.invokevirtual 42, 3) := by decide +kernel
theorem d_Ps_cellOf_22 : decode b_Ps_cellOf 22 = .ok (.lconst 0, 1) := by decide +kernel
theorem d_Ps_cellOf_23 : decode b_Ps_cellOf 23 = .ok (.lcmp, 1) := by decide +kernel
theorem d_Ps_cellOf_24 : decode b_Ps_cellOf 24 = .ok (.ifCond .ge 9, 3) := by decide +kernel
theorem d_Ps_cellOf_27 : decode b_Ps_cellOf 27 = .ok (.iload_n 2, 1) := by decide +kernel
theorem d_Ps_cellOf_28 : decode b_Ps_cellOf 28 = .ok (.iconst 1, 1) := by decide +kernel
theorem d_Ps_cellOf_29 : decode b_Ps_cellOf 29 = .ok (.iload_n 3, 1) := by decide +kernel
theorem d_Ps_cellOf_30 : decode b_Ps_cellOf 30 = .ok (.ishl, 1) := by decide +kernel
theorem d_Ps_cellOf_31 : decode b_Ps_cellOf 31 = .ok (.ior, 1) := by decide +kernel
theorem d_Ps_cellOf_32 : decode b_Ps_cellOf 32 = .ok (.istore_n 2, 1) := by decide +kernel
theorem d_Ps_cellOf_33 : decode b_Ps_cellOf 33 = .ok (.iinc 3 1, 3) := by decide +kernel
theorem d_Ps_cellOf_36 : decode b_Ps_cellOf 36 = .ok (.goto (-32), 3) := by decide +kernel
theorem d_Ps_cellOf_39 : decode b_Ps_cellOf 39 = .ok (.iload_n 2, 1) := by decide +kernel
theorem d_Ps_cellOf_40 : decode b_Ps_cellOf 40 = .ok (.ireturn, 1) := by decide +kernel
theorem d_Ps_cellWhereLess_0 : decode b_Ps_cellWhereLess 0 = .ok (.aload_n 0, 1) := by decide +kernel
theorem d_Ps_cellWhereLess_1 : decode b_Ps_cellWhereLess 1 = .ok (.aload_n 1, 1) := by decide +kernel
theorem d_Ps_cellWhereLess_2 : decode b_Ps_cellWhereLess 2 = .ok (.invokevirtual 46, 3) := by decide +kernel
theorem d_Ps_cellWhereLess_5 : decode b_Ps_cellWhereLess 5 = .ok (.aload_n 0, 1) := by decide +kernel
theorem d_Ps_cellWhereLess_6 : decode b_Ps_cellWhereLess 6 = .ok (.iload_n 2, 1) := by decide +kernel
theorem d_Ps_cellWhereLess_7 : decode b_Ps_cellWhereLess 7 = .ok (.iconst 1, 1) := by decide +kernel
theorem d_Ps_cellWhereLess_8 : decode b_Ps_cellWhereLess 8 = .ok (.invokevirtual 50, 3) := by decide +kernel
theorem d_Ps_cellWhereLess_11 : decode b_Ps_cellWhereLess 11 = .ok (.ior, 1) := by decide +kernel
theorem d_Ps_cellWhereLess_12 : decode b_Ps_cellWhereLess 12 = .ok (.ireturn, 1) := by decide +kernel
theorem d_Ps_cellWhereMore_0 : decode b_Ps_cellWhereMore 0 = .ok (.aload_n 0, 1) := by decide +kernel
theorem d_Ps_cellWhereMore_1 : decode b_Ps_cellWhereMore 1 = .ok (.aload_n 1, 1) := by decide +kernel
theorem d_Ps_cellWhereMore_2 : decode b_Ps_cellWhereMore 2 = .ok (.invokevirtual 46, 3) := by decide +kernel
theorem d_Ps_cellWhereMore_5 : decode b_Ps_cellWhereMore 5 = .ok (.aload_n 0, 1) := by decide +kernel
theorem d_Ps_cellWhereMore_6 : decode b_Ps_cellWhereMore 6 = .ok (.iload_n 2, 1) := by decide +kernel
theorem d_Ps_cellWhereMore_7 : decode b_Ps_cellWhereMore 7 = .ok (.iconst 0, 1) := by decide +kernel
theorem d_Ps_cellWhereMore_8 : decode b_Ps_cellWhereMore 8 = .ok (.invokevirtual 50, 3) := by decide +kernel
theorem d_Ps_cellWhereMore_11 : decode b_Ps_cellWhereMore 11 = .ok (.ior, 1) := by decide +kernel
theorem d_Ps_cellWhereMore_12 : decode b_Ps_cellWhereMore 12 = .ok (.ireturn, 1) := by decide +kernel
theorem d_Ps_halfSpacesAlong_0 : decode b_Ps_halfSpacesAlong 0 = .ok (.iconst 0, 1) := by decide +kernel
theorem d_Ps_halfSpacesAlong_1 : decode b_Ps_halfSpacesAlong 1 = .ok (.istore_n 3, 1) := by decide +kernel
theorem d_Ps_halfSpacesAlong_2 : decode b_Ps_halfSpacesAlong 2 = .ok (.iconst 0, 1) := by decide +kernel
theorem d_Ps_halfSpacesAlong_3 : decode b_Ps_halfSpacesAlong 3 = .ok (.istore 4, 2) := by decide +kernel
theorem d_Ps_halfSpacesAlong_5 : decode b_Ps_halfSpacesAlong 5 = .ok (.iload 4, 2) := by decide +kernel
theorem d_Ps_halfSpacesAlong_7 : decode b_Ps_halfSpacesAlong 7 = .ok (.aload_n 0, 1) := by decide +kernel
theorem d_Ps_halfSpacesAlong_8 : decode b_Ps_halfSpacesAlong 8 = .ok (.getfield 19, 3) := by decide +kernel
theorem d_Ps_halfSpacesAlong_11 : decode b_Ps_halfSpacesAlong 11 = .ok (.if_icmp .ge 47, 3) := by decide +kernel
theorem d_Ps_halfSpacesAlong_14 : decode b_Ps_halfSpacesAlong 14 = .ok (.aload_n 0, 1) := by decide +kernel
theorem d_Ps_halfSpacesAlong_15 : decode b_Ps_halfSpacesAlong 15 = .ok (.getfield 15, 3) := by decide +kernel
theorem d_Ps_halfSpacesAlong_18 : decode b_Ps_halfSpacesAlong 18 = .ok (.iload 4, 2) := by decide +kernel
theorem d_Ps_halfSpacesAlong_20 : decode b_Ps_halfSpacesAlong 20 = .ok (.iaload, 1) := by decide +kernel
theorem d_Ps_halfSpacesAlong_21 : decode b_Ps_halfSpacesAlong 21 = .ok (.iload_n 1, 1) := by decide +kernel
theorem d_Ps_halfSpacesAlong_22 : decode b_Ps_halfSpacesAlong 22 = .ok (.if_icmp .ne 30, 3) := by decide +kernel
theorem d_Ps_halfSpacesAlong_25 : decode b_Ps_halfSpacesAlong 25 = .ok (.aload_n 0, 1) := by decide +kernel
theorem d_Ps_halfSpacesAlong_26 : decode b_Ps_halfSpacesAlong 26 = .ok (.getfield 11, 3) := by decide +kernel
theorem d_Ps_halfSpacesAlong_29 : decode b_Ps_halfSpacesAlong 29 = .ok (.iload 4, 2) := by decide +kernel
theorem d_Ps_halfSpacesAlong_31 : decode b_Ps_halfSpacesAlong 31 = .ok (.aaload, 1) := by decide +kernel
theorem d_Ps_halfSpacesAlong_32 : decode b_Ps_halfSpacesAlong 32 = .ok (.aload_n 0, 1) := by decide +kernel
theorem d_Ps_halfSpacesAlong_33 : decode b_Ps_halfSpacesAlong 33 = .ok (.getfield 11, 3) := by decide +kernel
theorem d_Ps_halfSpacesAlong_36 : decode b_Ps_halfSpacesAlong 36 = .ok (.iload_n 1, 1) := by decide +kernel
theorem d_Ps_halfSpacesAlong_37 : decode b_Ps_halfSpacesAlong 37 = .ok (.aaload, 1) := by decide +kernel
theorem d_Ps_halfSpacesAlong_38 : decode b_Ps_halfSpacesAlong 38 = .ok (.invokevirtual 54, 3) := by decide +kernel
theorem d_Ps_halfSpacesAlong_41 : decode b_Ps_halfSpacesAlong 41 = .ok (.iload_n 2, 1) := by decide +kernel
theorem d_Ps_halfSpacesAlong_42 : decode b_Ps_halfSpacesAlong 42 = .ok (.if_icmp .ne 10, 3) := by decide +kernel
theorem d_Ps_halfSpacesAlong_45 : decode b_Ps_halfSpacesAlong 45 = .ok (.iload_n 3, 1) := by decide +kernel
theorem d_Ps_halfSpacesAlong_46 : decode b_Ps_halfSpacesAlong 46 = .ok (.iconst 1, 1) := by decide +kernel
theorem d_Ps_halfSpacesAlong_47 : decode b_Ps_halfSpacesAlong 47 = .ok (.iload 4, 2) := by decide +kernel
theorem d_Ps_halfSpacesAlong_49 : decode b_Ps_halfSpacesAlong 49 = .ok (.ishl, 1) := by decide +kernel
theorem d_Ps_halfSpacesAlong_50 : decode b_Ps_halfSpacesAlong 50 = .ok (.ior, 1) := by decide +kernel
theorem d_Ps_halfSpacesAlong_51 : decode b_Ps_halfSpacesAlong 51 = .ok (.istore_n 3, 1) := by decide +kernel
theorem d_Ps_halfSpacesAlong_52 : decode b_Ps_halfSpacesAlong 52 = .ok (.iinc 4 1, 3) := by decide +kernel
theorem d_Ps_halfSpacesAlong_55 : decode b_Ps_halfSpacesAlong 55 = .ok (.goto (-50), 3) := by decide +kernel
theorem d_Ps_halfSpacesAlong_58 : decode b_Ps_halfSpacesAlong 58 = .ok (.iload_n 3, 1) := by decide +kernel
theorem d_Ps_halfSpacesAlong_59 : decode b_Ps_halfSpacesAlong 59 = .ok (.ireturn, 1) := by decide +kernel
end
section
/-! Decode rows of Pt. -/
theorem d_Pt_init_0 : decode b_Pt_init 0 = .ok (.aload_n 0, 1) := by decide +kernel
theorem d_Pt_init_1 : decode b_Pt_init 1 = .ok (.invokespecial 1, 3) := by decide +kernel
theorem d_Pt_init_4 : decode b_Pt_init 4 = .ok (.return_, 1) := by decide +kernel
theorem d_Pt_place_0 : decode b_Pt_place 0 = .ok (.aload_n 0, 1) := by decide +kernel
theorem d_Pt_place_1 : decode b_Pt_place 1 = .ok (.lload_n 1, 1) := by decide +kernel
theorem d_Pt_place_2 : decode b_Pt_place 2 = .ok (.putfield 7, 3) := by decide +kernel
theorem d_Pt_place_5 : decode b_Pt_place 5 = .ok (.aload_n 0, 1) := by decide +kernel
theorem d_Pt_place_6 : decode b_Pt_place 6 = .ok (.lload_n 3, 1) := by decide +kernel
theorem d_Pt_place_7 : decode b_Pt_place 7 = .ok (.putfield 13, 3) := by decide +kernel
theorem d_Pt_place_10 : decode b_Pt_place 10 = .ok (.aload_n 0, 1) := by decide +kernel
theorem d_Pt_place_11 : decode b_Pt_place 11 = .ok (.lload 5, 2) := by decide +kernel
theorem d_Pt_place_13 : decode b_Pt_place 13 = .ok (.putfield 16, 3) := by decide +kernel
theorem d_Pt_place_16 : decode b_Pt_place 16 = .ok (.aload_n 0, 1) := by decide +kernel
theorem d_Pt_place_17 : decode b_Pt_place 17 = .ok (.lload 7, 2) := by decide +kernel
theorem d_Pt_place_19 : decode b_Pt_place 19 = .ok (.putfield 19, 3) := by decide +kernel
theorem d_Pt_place_22 : decode b_Pt_place 22 = .ok (.return_, 1) := by decide +kernel
theorem d_Pt_placeOnAxis_0 : decode b_Pt_placeOnAxis 0 = .ok (.lload 4, 2) := by decide +kernel
theorem d_Pt_placeOnAxis_2 : decode b_Pt_placeOnAxis 2 = .ok (.lload 8, 2) := by decide +kernel
theorem d_Pt_placeOnAxis_4 : decode b_Pt_placeOnAxis 4 = .ok (.lmul, 1) := by decide +kernel
theorem d_Pt_placeOnAxis_5 : decode b_Pt_placeOnAxis 5 = .ok (.lstore 10, 2) := by decide +kernel
theorem d_Pt_placeOnAxis_7 : decode b_Pt_placeOnAxis 7 = .ok (.lload 6, 2) := by decide +kernel
theorem d_Pt_placeOnAxis_9 : decode b_Pt_placeOnAxis 9 = .ok (.lload 8, 2) := by decide +kernel
theorem d_Pt_placeOnAxis_11 : decode b_Pt_placeOnAxis 11 = .ok (.lmul, 1) := by decide +kernel
theorem d_Pt_placeOnAxis_12 : decode b_Pt_placeOnAxis 12 = .ok (.lstore 12, 2) := by decide +kernel
theorem d_Pt_placeOnAxis_14 : decode b_Pt_placeOnAxis 14 = .ok (.iload_n 1, 1) := by decide +kernel
theorem d_Pt_placeOnAxis_15 : decode b_Pt_placeOnAxis 15 = .ok (.ifCond .ne 17, 3) := by decide +kernel
theorem d_Pt_placeOnAxis_18 : decode b_Pt_placeOnAxis 18 = .ok (.aload_n 0, 1) := by decide +kernel
theorem d_Pt_placeOnAxis_19 : decode b_Pt_placeOnAxis 19 = .ok (.lload_n 2, 1) := by decide +kernel
theorem d_Pt_placeOnAxis_20 : decode b_Pt_placeOnAxis 20 = .ok (.lload 10, 2) := by decide +kernel
theorem d_Pt_placeOnAxis_22 : decode b_Pt_placeOnAxis 22 = .ok (.lload 12, 2) := by decide +kernel
theorem d_Pt_placeOnAxis_24 : decode b_Pt_placeOnAxis 24 = .ok (.lload 8, 2) := by decide +kernel
theorem d_Pt_placeOnAxis_26 : decode b_Pt_placeOnAxis 26 = .ok (.invokevirtual 22, 3) := by decide +kernel
theorem d_Pt_placeOnAxis_29 : decode b_Pt_placeOnAxis 29 = .ok (.goto 33, 3) := by decide +kernel
theorem d_Pt_placeOnAxis_32 : decode b_Pt_placeOnAxis 32 = .ok (.iload_n 1, 1) := by decide +kernel
theorem d_Pt_placeOnAxis_33 : decode b_Pt_placeOnAxis 33 = .ok (.iconst 1, 1) := by decide +kernel
theorem d_Pt_placeOnAxis_34 : decode b_Pt_placeOnAxis 34 = .ok (.if_icmp .ne 17, 3) := by decide +kernel
theorem d_Pt_placeOnAxis_37 : decode b_Pt_placeOnAxis 37 = .ok (.aload_n 0, 1) := by decide +kernel
theorem d_Pt_placeOnAxis_38 : decode b_Pt_placeOnAxis 38 = .ok (.lload 10, 2) := by decide +kernel
theorem d_Pt_placeOnAxis_40 : decode b_Pt_placeOnAxis 40 = .ok (.lload_n 2, 1) := by decide +kernel
theorem d_Pt_placeOnAxis_41 : decode b_Pt_placeOnAxis 41 = .ok (.lload 12, 2) := by decide +kernel
theorem d_Pt_placeOnAxis_43 : decode b_Pt_placeOnAxis 43 = .ok (.lload 8, 2) := by decide +kernel
theorem d_Pt_placeOnAxis_45 : decode b_Pt_placeOnAxis 45 = .ok (.invokevirtual 22, 3) := by decide +kernel
theorem d_Pt_placeOnAxis_48 : decode b_Pt_placeOnAxis 48 = .ok (.goto 14, 3) := by decide +kernel
theorem d_Pt_placeOnAxis_51 : decode b_Pt_placeOnAxis 51 = .ok (.aload_n 0, 1) := by decide +kernel
theorem d_Pt_placeOnAxis_52 : decode b_Pt_placeOnAxis 52 = .ok (.lload 10, 2) := by decide +kernel
theorem d_Pt_placeOnAxis_54 : decode b_Pt_placeOnAxis 54 = .ok (.lload 12, 2) := by decide +kernel
theorem d_Pt_placeOnAxis_56 : decode b_Pt_placeOnAxis 56 = .ok (.lload_n 2, 1) := by decide +kernel
theorem d_Pt_placeOnAxis_57 : decode b_Pt_placeOnAxis 57 = .ok (.lload 8, 2) := by decide +kernel
theorem d_Pt_placeOnAxis_59 : decode b_Pt_placeOnAxis 59 = .ok (.invokevirtual 22, 3) := by decide +kernel
theorem d_Pt_placeOnAxis_62 : decode b_Pt_placeOnAxis 62 = .ok (.return_, 1) := by decide +kernel
end
section
/-! Decode rows of So. -/
theorem d_So_init_0 : decode b_So_init 0 = .ok (.aload_n 0, 1) := by decide +kernel
theorem d_So_init_1 : decode b_So_init 1 = .ok (.invokespecial 5, 3) := by decide +kernel
theorem d_So_init_4 : decode b_So_init 4 = .ok (.aload_n 0, 1) := by decide +kernel
theorem d_So_init_5 : decode b_So_init 5 = .ok (.iconst 4, 1) := by decide +kernel
theorem d_So_init_6 : decode b_So_init 6 = .ok (.newarray .long, 2) := by decide +kernel
theorem d_So_init_8 : decode b_So_init 8 = .ok (.putfield 11, 3) := by decide +kernel
theorem d_So_init_11 : decode b_So_init 11 = .ok (.return_, 1) := by decide +kernel
theorem d_So_has_0 : decode b_So_has 0 = .ok (.aload_n 0, 1) := by decide +kernel
theorem d_So_has_1 : decode b_So_has 1 = .ok (.getfield 11, 3) := by decide +kernel
theorem d_So_has_4 : decode b_So_has 4 = .ok (.iload_n 1, 1) := by decide +kernel
theorem d_So_has_5 : decode b_So_has 5 = .ok (.bipush 6, 2) := by decide +kernel
theorem d_So_has_7 : decode b_So_has 7 = .ok (.ishr, 1) := by decide +kernel
theorem d_So_has_8 : decode b_So_has 8 = .ok (.laload, 1) := by decide +kernel
theorem d_So_has_9 : decode b_So_has 9 = .ok (.iload_n 1, 1) := by decide +kernel
theorem d_So_has_10 : decode b_So_has 10 = .ok (.lshr, 1) := by decide +kernel
theorem d_So_has_11 : decode b_So_has 11 = .ok (.lconst 1, 1) := by decide +kernel
theorem d_So_has_12 : decode b_So_has 12 = .ok (.land, 1) := by decide +kernel
theorem d_So_has_13 : decode b_So_has 13 = .ok (.lconst 0, 1) := by decide +kernel
theorem d_So_has_14 : decode b_So_has 14 = .ok (.lcmp, 1) := by decide +kernel
theorem d_So_has_15 : decode b_So_has 15 = .ok (.ifCond .eq 7, 3) := by decide +kernel
theorem d_So_has_18 : decode b_So_has 18 = .ok (.iconst 1, 1) := by decide +kernel
theorem d_So_has_19 : decode b_So_has 19 = .ok (.goto 4, 3) := by decide +kernel
theorem d_So_has_22 : decode b_So_has 22 = .ok (.iconst 0, 1) := by decide +kernel
theorem d_So_has_23 : decode b_So_has 23 = .ok (.ireturn, 1) := by decide +kernel
theorem d_So_becomeConvex_0 : decode b_So_becomeConvex 0 = .ok (.iconst 0, 1) := by decide +kernel
theorem d_So_becomeConvex_1 : decode b_So_becomeConvex 1 = .ok (.istore_n 2, 1) := by decide +kernel
theorem d_So_becomeConvex_2 : decode b_So_becomeConvex 2 = .ok (.iload_n 2, 1) := by decide +kernel
theorem d_So_becomeConvex_3 : decode b_So_becomeConvex 3 = .ok (.iconst 4, 1) := by decide +kernel
theorem d_So_becomeConvex_4 : decode b_So_becomeConvex 4 = .ok (.if_icmp .ge 16, 3) := by decide +kernel
theorem d_So_becomeConvex_7 : decode b_So_becomeConvex 7 = .ok (.aload_n 0, 1) := by decide +kernel
theorem d_So_becomeConvex_8 : decode b_So_becomeConvex 8 = .ok (.getfield 11, 3) := by decide +kernel
theorem d_So_becomeConvex_11 : decode b_So_becomeConvex 11 = .ok (.iload_n 2, 1) := by decide +kernel
theorem d_So_becomeConvex_12 : decode b_So_becomeConvex 12 = .ok (.lconst 0, 1) := by decide +kernel
theorem d_So_becomeConvex_13 : decode b_So_becomeConvex 13 = .ok (.lastore, 1) := by decide +kernel
theorem d_So_becomeConvex_14 : decode b_So_becomeConvex 14 = .ok (.iinc 2 1, 3) := by decide +kernel
theorem d_So_becomeConvex_17 : decode b_So_becomeConvex 17 = .ok (.goto (-15), 3) := by decide +kernel
theorem d_So_becomeConvex_20 : decode b_So_becomeConvex 20 = .ok (.iconst 0, 1) := by decide +kernel
theorem d_So_becomeConvex_21 : decode b_So_becomeConvex 21 = .ok (.istore_n 2, 1) := by decide +kernel
theorem d_So_becomeConvex_22 : decode b_So_becomeConvex 22 = .ok (.iload_n 2, 1) := by decide +kernel
theorem d_So_becomeConvex_23 : decode b_So_becomeConvex 23 = .ok (.sipush 256, 3) := by decide +kernel
theorem d_So_becomeConvex_26 : decode b_So_becomeConvex 26 = .ok (.if_icmp .ge 31, 3) := by decide +kernel
theorem d_So_becomeConvex_29 : decode b_So_becomeConvex 29 = .ok (.iload_n 2, 1) := by decide +kernel
theorem d_So_becomeConvex_30 : decode b_So_becomeConvex 30 = .ok (.iload_n 1, 1) := by decide +kernel
theorem d_So_becomeConvex_31 : decode b_So_becomeConvex 31 = .ok (.iand, 1) := by decide +kernel
theorem d_So_becomeConvex_32 : decode b_So_becomeConvex 32 = .ok (.iload_n 1, 1) := by decide +kernel
theorem d_So_becomeConvex_33 : decode b_So_becomeConvex 33 = .ok (.if_icmp .ne 18, 3) := by decide +kernel
theorem d_So_becomeConvex_36 : decode b_So_becomeConvex 36 = .ok (.aload_n 0, 1) := by decide +kernel
theorem d_So_becomeConvex_37 : decode b_So_becomeConvex 37 = .ok (.getfield 11, 3) := by decide +kernel
theorem d_So_becomeConvex_40 : decode b_So_becomeConvex 40 = .ok (.iload_n 2, 1) := by decide +kernel
theorem d_So_becomeConvex_41 : decode b_So_becomeConvex 41 = .ok (.bipush 6, 2) := by decide +kernel
theorem d_So_becomeConvex_43 : decode b_So_becomeConvex 43 = .ok (.ishr, 1) := by decide +kernel
theorem d_So_becomeConvex_44 : decode b_So_becomeConvex 44 = .ok (.dup2, 1) := by decide +kernel
theorem d_So_becomeConvex_45 : decode b_So_becomeConvex 45 = .ok (.laload, 1) := by decide +kernel
theorem d_So_becomeConvex_46 : decode b_So_becomeConvex 46 = .ok (.lconst 1, 1) := by decide +kernel
theorem d_So_becomeConvex_47 : decode b_So_becomeConvex 47 = .ok (.iload_n 2, 1) := by decide +kernel
theorem d_So_becomeConvex_48 : decode b_So_becomeConvex 48 = .ok (.lshl, 1) := by decide +kernel
theorem d_So_becomeConvex_49 : decode b_So_becomeConvex 49 = .ok (.lor, 1) := by decide +kernel
theorem d_So_becomeConvex_50 : decode b_So_becomeConvex 50 = .ok (.lastore, 1) := by decide +kernel
theorem d_So_becomeConvex_51 : decode b_So_becomeConvex 51 = .ok (.iinc 2 1, 3) := by decide +kernel
theorem d_So_becomeConvex_54 : decode b_So_becomeConvex 54 = .ok (.goto (-32), 3) := by decide +kernel
theorem d_So_becomeConvex_57 : decode b_So_becomeConvex 57 = .ok (.return_, 1) := by decide +kernel
theorem d_So_becomeLike_0 : decode b_So_becomeLike 0 = .ok (.iconst 0, 1) := by decide +kernel
theorem d_So_becomeLike_1 : decode b_So_becomeLike 1 = .ok (.istore_n 2, 1) := by decide +kernel
theorem d_So_becomeLike_2 : decode b_So_becomeLike 2 = .ok (.iload_n 2, 1) := by decide +kernel
theorem d_So_becomeLike_3 : decode b_So_becomeLike 3 = .ok (.iconst 4, 1) := by decide +kernel
theorem d_So_becomeLike_4 : decode b_So_becomeLike 4 = .ok (.if_icmp .ge 21, 3) := by decide +kernel
theorem d_So_becomeLike_7 : decode b_So_becomeLike 7 = .ok (.aload_n 0, 1) := by decide +kernel
theorem d_So_becomeLike_8 : decode b_So_becomeLike 8 = .ok (.getfield 11, 3) := by decide +kernel
theorem d_So_becomeLike_11 : decode b_So_becomeLike 11 = .ok (.iload_n 2, 1) := by decide +kernel
theorem d_So_becomeLike_12 : decode b_So_becomeLike 12 = .ok (.aload_n 1, 1) := by decide +kernel
theorem d_So_becomeLike_13 : decode b_So_becomeLike 13 = .ok (.getfield 11, 3) := by decide +kernel
theorem d_So_becomeLike_16 : decode b_So_becomeLike 16 = .ok (.iload_n 2, 1) := by decide +kernel
theorem d_So_becomeLike_17 : decode b_So_becomeLike 17 = .ok (.laload, 1) := by decide +kernel
theorem d_So_becomeLike_18 : decode b_So_becomeLike 18 = .ok (.lastore, 1) := by decide +kernel
theorem d_So_becomeLike_19 : decode b_So_becomeLike 19 = .ok (.iinc 2 1, 3) := by decide +kernel
theorem d_So_becomeLike_22 : decode b_So_becomeLike 22 = .ok (.goto (-20), 3) := by decide +kernel
theorem d_So_becomeLike_25 : decode b_So_becomeLike 25 = .ok (.return_, 1) := by decide +kernel
theorem d_So_becomeItsRest_0 : decode b_So_becomeItsRest 0 = .ok (.iconst 0, 1) := by decide +kernel
theorem d_So_becomeItsRest_1 : decode b_So_becomeItsRest 1 = .ok (.istore_n 1, 1) := by decide +kernel
theorem d_So_becomeItsRest_2 : decode b_So_becomeItsRest 2 = .ok (.iload_n 1, 1) := by decide +kernel
theorem d_So_becomeItsRest_3 : decode b_So_becomeItsRest 3 = .ok (.iconst 4, 1) := by decide +kernel
theorem d_So_becomeItsRest_4 : decode b_So_becomeItsRest 4 = .ok (.if_icmp .ge 25, 3) := by decide +kernel
theorem d_So_becomeItsRest_7 : decode b_So_becomeItsRest 7 = .ok (.aload_n 0, 1) := by decide +kernel
theorem d_So_becomeItsRest_8 : decode b_So_becomeItsRest 8 = .ok (.getfield 11, 3) := by decide +kernel
theorem d_So_becomeItsRest_11 : decode b_So_becomeItsRest 11 = .ok (.iload_n 1, 1) := by decide +kernel
theorem d_So_becomeItsRest_12 : decode b_So_becomeItsRest 12 = .ok (.aload_n 0, 1) := by decide +kernel
theorem d_So_becomeItsRest_13 : decode b_So_becomeItsRest 13 = .ok (.getfield 11, 3) := by decide +kernel
theorem d_So_becomeItsRest_16 : decode b_So_becomeItsRest 16 = .ok (.iload_n 1, 1) := by decide +kernel
theorem d_So_becomeItsRest_17 : decode b_So_becomeItsRest 17 = .ok (.laload, 1) := by decide +kernel
theorem d_So_becomeItsRest_18 : decode b_So_becomeItsRest 18 = .ok (.ldc2_w 15, 3) := by decide +kernel
theorem d_So_becomeItsRest_21 : decode b_So_becomeItsRest 21 = .ok (.lxor, 1) := by decide +kernel
theorem d_So_becomeItsRest_22 : decode b_So_becomeItsRest 22 = .ok (.lastore, 1) := by decide +kernel
theorem d_So_becomeItsRest_23 : decode b_So_becomeItsRest 23 = .ok (.iinc 1 1, 3) := by decide +kernel
theorem d_So_becomeItsRest_26 : decode b_So_becomeItsRest 26 = .ok (.goto (-24), 3) := by decide +kernel
theorem d_So_becomeItsRest_29 : decode b_So_becomeItsRest 29 = .ok (.return_, 1) := by decide +kernel
theorem d_So_joinWith_0 : decode b_So_joinWith 0 = .ok (.iconst 0, 1) := by decide +kernel
theorem d_So_joinWith_1 : decode b_So_joinWith 1 = .ok (.istore_n 3, 1) := by decide +kernel
theorem d_So_joinWith_2 : decode b_So_joinWith 2 = .ok (.iload_n 3, 1) := by decide +kernel
theorem d_So_joinWith_3 : decode b_So_joinWith 3 = .ok (.iconst 4, 1) := by decide +kernel
theorem d_So_joinWith_4 : decode b_So_joinWith 4 = .ok (.if_icmp .ge 31, 3) := by decide +kernel
theorem d_So_joinWith_7 : decode b_So_joinWith 7 = .ok (.aload_n 0, 1) := by decide +kernel
theorem d_So_joinWith_8 : decode b_So_joinWith 8 = .ok (.getfield 11, 3) := by decide +kernel
theorem d_So_joinWith_11 : decode b_So_joinWith 11 = .ok (.iload_n 3, 1) := by decide +kernel
theorem d_So_joinWith_12 : decode b_So_joinWith 12 = .ok (.aload_n 0, 1) := by decide +kernel
theorem d_So_joinWith_13 : decode b_So_joinWith 13 = .ok (.getfield 11, 3) := by decide +kernel
theorem d_So_joinWith_16 : decode b_So_joinWith 16 = .ok (.iload_n 3, 1) := by decide +kernel
theorem d_So_joinWith_17 : decode b_So_joinWith 17 = .ok (.laload, 1) := by decide +kernel
theorem d_So_joinWith_18 : decode b_So_joinWith 18 = .ok (.aload_n 1, 1) := by decide +kernel
theorem d_So_joinWith_19 : decode b_So_joinWith 19 = .ok (.getfield 11, 3) := by decide +kernel
theorem d_So_joinWith_22 : decode b_So_joinWith 22 = .ok (.iload_n 3, 1) := by decide +kernel
theorem d_So_joinWith_23 : decode b_So_joinWith 23 = .ok (.laload, 1) := by decide +kernel
theorem d_So_joinWith_24 : decode b_So_joinWith 24 = .ok (.iload_n 2, 1) := by decide +kernel
theorem d_So_joinWith_25 : decode b_So_joinWith 25 = .ok (.invokestatic 17, 3) := by decide +kernel
theorem d_So_joinWith_28 : decode b_So_joinWith 28 = .ok (.lastore, 1) := by decide +kernel
theorem d_So_joinWith_29 : decode b_So_joinWith 29 = .ok (.iinc 3 1, 3) := by decide +kernel
theorem d_So_joinWith_32 : decode b_So_joinWith 32 = .ok (.goto (-30), 3) := by decide +kernel
theorem d_So_joinWith_35 : decode b_So_joinWith 35 = .ok (.return_, 1) := by decide +kernel
theorem d_So_joined_0 : decode b_So_joined 0 = .ok (.iload 4, 2) := by decide +kernel
theorem d_So_joined_2 : decode b_So_joined 2 = .ok (.tableswitch 42 0 2 #[26, 30, 34], 26) := by decide +kernel
theorem d_So_joined_28 : decode b_So_joined 28 = .ok (.lload_n 0, 1) := by decide +kernel
theorem d_So_joined_29 : decode b_So_joined 29 = .ok (.lload_n 2, 1) := by decide +kernel
theorem d_So_joined_30 : decode b_So_joined 30 = .ok (.lor, 1) := by decide +kernel
theorem d_So_joined_31 : decode b_So_joined 31 = .ok (.lreturn, 1) := by decide +kernel
theorem d_So_joined_32 : decode b_So_joined 32 = .ok (.lload_n 0, 1) := by decide +kernel
theorem d_So_joined_33 : decode b_So_joined 33 = .ok (.lload_n 2, 1) := by decide +kernel
theorem d_So_joined_34 : decode b_So_joined 34 = .ok (.land, 1) := by decide +kernel
theorem d_So_joined_35 : decode b_So_joined 35 = .ok (.lreturn, 1) := by decide +kernel
theorem d_So_joined_36 : decode b_So_joined 36 = .ok (.lload_n 0, 1) := by decide +kernel
theorem d_So_joined_37 : decode b_So_joined 37 = .ok (.lload_n 2, 1) := by decide +kernel
theorem d_So_joined_38 : decode b_So_joined 38 = .ok (.ldc2_w 15, 3) := by decide +kernel
theorem d_So_joined_41 : decode b_So_joined 41 = .ok (.lxor, 1) := by decide +kernel
theorem d_So_joined_42 : decode b_So_joined 42 = .ok (.land, 1) := by decide +kernel
theorem d_So_joined_43 : decode b_So_joined 43 = .ok (.lreturn, 1) := by decide +kernel
theorem d_So_joined_44 : decode b_So_joined 44 = .ok (.lload_n 0, 1) := by decide +kernel
theorem d_So_joined_45 : decode b_So_joined 45 = .ok (.lload_n 2, 1) := by decide +kernel
theorem d_So_joined_46 : decode b_So_joined 46 = .ok (.lxor, 1) := by decide +kernel
theorem d_So_joined_47 : decode b_So_joined 47 = .ok (.lreturn, 1) := by decide +kernel
end
section
/-! Decode rows of X. -/
theorem d_X_init_0 : decode b_X_init 0 = .ok (.aload_n 0, 1) := by decide +kernel
theorem d_X_init_1 : decode b_X_init 1 = .ok (.invokespecial 1, 3) := by decide +kernel
theorem d_X_init_4 : decode b_X_init 4 = .ok (.aload_n 0, 1) := by decide +kernel
theorem d_X_init_5 : decode b_X_init 5 = .ok (.new 7, 3) := by decide +kernel
theorem d_X_init_8 : decode b_X_init 8 = .ok (.dup, 1) := by decide +kernel
theorem d_X_init_9 : decode b_X_init 9 = .ok (.invokespecial 9, 3) := by decide +kernel
theorem d_X_init_12 : decode b_X_init 12 = .ok (.putfield 10, 3) := by decide +kernel
theorem d_X_init_15 : decode b_X_init 15 = .ok (.aload_n 0, 1) := by decide +kernel
theorem d_X_init_16 : decode b_X_init 16 = .ok (.bipush 6, 2) := by decide +kernel
theorem d_X_init_18 : decode b_X_init 18 = .ok (.anewarray 16, 3) := by decide +kernel
theorem d_X_init_21 : decode b_X_init 21 = .ok (.putfield 18, 3) := by decide +kernel
theorem d_X_init_24 : decode b_X_init 24 = .ok (.iconst 0, 1) := by decide +kernel
theorem d_X_init_25 : decode b_X_init 25 = .ok (.istore_n 1, 1) := by decide +kernel
theorem d_X_init_26 : decode b_X_init 26 = .ok (.iload_n 1, 1) := by decide +kernel
theorem d_X_init_27 : decode b_X_init 27 = .ok (.bipush 6, 2) := by decide +kernel
theorem d_X_init_29 : decode b_X_init 29 = .ok (.if_icmp .ge 22, 3) := by decide +kernel
theorem d_X_init_32 : decode b_X_init 32 = .ok (.aload_n 0, 1) := by decide +kernel
theorem d_X_init_33 : decode b_X_init 33 = .ok (.getfield 18, 3) := by decide +kernel
theorem d_X_init_36 : decode b_X_init 36 = .ok (.iload_n 1, 1) := by decide +kernel
theorem d_X_init_37 : decode b_X_init 37 = .ok (.new 16, 3) := by decide +kernel
theorem d_X_init_40 : decode b_X_init 40 = .ok (.dup, 1) := by decide +kernel
theorem d_X_init_41 : decode b_X_init 41 = .ok (.invokespecial 22, 3) := by decide +kernel
theorem d_X_init_44 : decode b_X_init 44 = .ok (.aastore, 1) := by decide +kernel
theorem d_X_init_45 : decode b_X_init 45 = .ok (.iinc 1 1, 3) := by decide +kernel
theorem d_X_init_48 : decode b_X_init 48 = .ok (.goto (-22), 3) := by decide +kernel
theorem d_X_init_51 : decode b_X_init 51 = .ok (.aload_n 0, 1) := by decide +kernel
theorem d_X_init_52 : decode b_X_init 52 = .ok (.new 23, 3) := by decide +kernel
theorem d_X_init_55 : decode b_X_init 55 = .ok (.dup, 1) := by decide +kernel
theorem d_X_init_56 : decode b_X_init 56 = .ok (.invokespecial 25, 3) := by decide +kernel
theorem d_X_init_59 : decode b_X_init 59 = .ok (.putfield 26, 3) := by decide +kernel
theorem d_X_init_62 : decode b_X_init 62 = .ok (.aload_n 0, 1) := by decide +kernel
theorem d_X_init_63 : decode b_X_init 63 = .ok (.iconst 0, 1) := by decide +kernel
theorem d_X_init_64 : decode b_X_init 64 = .ok (.putfield 30, 3) := by decide +kernel
theorem d_X_init_67 : decode b_X_init 67 = .ok (.return_, 1) := by decide +kernel
theorem d_X_plane_0 : decode b_X_plane 0 = .ok (.iload_n 1, 1) := by decide +kernel
theorem d_X_plane_1 : decode b_X_plane 1 = .ok (.ifCond .ne 21, 3) := by decide +kernel
theorem d_X_plane_4 : decode b_X_plane 4 = .ok (.iload_n 2, 1) := by decide +kernel
theorem d_X_plane_5 : decode b_X_plane 5 = .ok (.ifCond .ne 17, 3) := by decide +kernel
theorem d_X_plane_8 : decode b_X_plane 8 = .ok (.iload_n 3, 1) := by decide +kernel
theorem d_X_plane_9 : decode b_X_plane 9 = .ok (.ifCond .ne 13, 3) := by decide +kernel
theorem d_X_plane_12 : decode b_X_plane 12 = .ok (.new 34, 3) := by decide +kernel
theorem d_X_plane_15 : decode b_X_plane 15 = .ok (.dup, 1) := by decide +kernel
theorem d_X_plane_16 : decode b_X_plane 16 = .ok (.ldc 36, 2) := by decide +kernel
theorem d_X_plane_18 : decode b_X_plane 18 = .ok (.invokespecial 38, 3) := by decide +kernel
theorem d_X_plane_21 : decode b_X_plane 21 = .ok (.athrow, 1) := by decide +kernel
theorem d_X_plane_22 : decode b_X_plane 22 = .ok (.iload_n 1, 1) := by decide +kernel
theorem d_X_plane_23 : decode b_X_plane 23 = .ok (.ldc 41, 2) := by decide +kernel
theorem d_X_plane_25 : decode b_X_plane 25 = .ok (.invokestatic 42, 3) := by decide +kernel
theorem d_X_plane_28 : decode b_X_plane 28 = .ok (.ifCond .ne 21, 3) := by decide +kernel
theorem d_X_plane_31 : decode b_X_plane 31 = .ok (.iload_n 2, 1) := by decide +kernel
theorem d_X_plane_32 : decode b_X_plane 32 = .ok (.ldc 41, 2) := by decide +kernel
theorem d_X_plane_34 : decode b_X_plane 34 = .ok (.invokestatic 42, 3) := by decide +kernel
theorem d_X_plane_37 : decode b_X_plane 37 = .ok (.ifCond .ne 12, 3) := by decide +kernel
theorem d_X_plane_40 : decode b_X_plane 40 = .ok (.iload_n 3, 1) := by decide +kernel
theorem d_X_plane_41 : decode b_X_plane 41 = .ok (.ldc 41, 2) := by decide +kernel
theorem d_X_plane_43 : decode b_X_plane 43 = .ok (.invokestatic 42, 3) := by decide +kernel
theorem d_X_plane_46 : decode b_X_plane 46 = .ok (.ifCond .eq 13, 3) := by decide +kernel
theorem d_X_plane_49 : decode b_X_plane 49 = .ok (.new 34, 3) := by decide +kernel
theorem d_X_plane_52 : decode b_X_plane 52 = .ok (.dup, 1) := by decide +kernel
theorem d_X_plane_53 : decode b_X_plane 53 = .ok (.ldc 46, 2) := by decide +kernel
theorem d_X_plane_55 : decode b_X_plane 55 = .ok (.invokespecial 38, 3) := by decide +kernel
theorem d_X_plane_58 : decode b_X_plane 58 = .ok (.athrow, 1) := by decide +kernel
theorem d_X_plane_59 : decode b_X_plane 59 = .ok (.iload 4, 2) := by decide +kernel
theorem d_X_plane_61 : decode b_X_plane 61 = .ok (.ldc 48, 2) := by decide +kernel
theorem d_X_plane_63 : decode b_X_plane 63 = .ok (.invokestatic 42, 3) := by decide +kernel
theorem d_X_plane_66 : decode b_X_plane 66 = .ok (.ifCond .eq 13, 3) := by decide +kernel
theorem d_X_plane_69 : decode b_X_plane 69 = .ok (.new 34, 3) := by decide +kernel
theorem d_X_plane_72 : decode b_X_plane 72 = .ok (.dup, 1) := by decide +kernel
theorem d_X_plane_73 : decode b_X_plane 73 = .ok (.ldc 49, 2) := by decide +kernel
theorem d_X_plane_75 : decode b_X_plane 75 = .ok (.invokespecial 38, 3) := by decide +kernel
theorem d_X_plane_78 : decode b_X_plane 78 = .ok (.athrow, 1) := by decide +kernel
theorem d_X_plane_79 : decode b_X_plane 79 = .ok (.aload_n 0, 1) := by decide +kernel
theorem d_X_plane_80 : decode b_X_plane 80 = .ok (.getfield 10, 3) := by decide +kernel
theorem d_X_plane_83 : decode b_X_plane 83 = .ok (.invokevirtual 51, 3) := by decide +kernel
theorem d_X_plane_86 : decode b_X_plane 86 = .ok (.bipush 8, 2) := by decide +kernel
theorem d_X_plane_88 : decode b_X_plane 88 = .ok (.if_icmp .lt 13, 3) := by decide +kernel
theorem d_X_plane_91 : decode b_X_plane 91 = .ok (.new 55, 3) := by decide +kernel
theorem d_X_plane_94 : decode b_X_plane 94 = .ok (.dup, 1) := by decide +kernel
theorem d_X_plane_95 : decode b_X_plane 95 = .ok (.ldc 57, 2) := by decide +kernel
theorem d_X_plane_97 : decode b_X_plane 97 = .ok (.invokespecial 59, 3) := by decide +kernel
theorem d_X_plane_100 : decode b_X_plane 100 = .ok (.athrow, 1) := by decide +kernel
theorem d_X_plane_101 : decode b_X_plane 101 = .ok (.aload_n 0, 1) := by decide +kernel
theorem d_X_plane_102 : decode b_X_plane 102 = .ok (.getfield 10, 3) := by decide +kernel
theorem d_X_plane_105 : decode b_X_plane 105 = .ok (.invokevirtual 51, 3) := by decide +kernel
theorem d_X_plane_108 : decode b_X_plane 108 = .ok (.istore 5, 2) := by decide +kernel
theorem d_X_plane_110 : decode b_X_plane 110 = .ok (.aload_n 0, 1) := by decide +kernel
theorem d_X_plane_111 : decode b_X_plane 111 = .ok (.getfield 10, 3) := by decide +kernel
theorem d_X_plane_114 : decode b_X_plane 114 = .ok (.new 60, 3) := by decide +kernel
theorem d_X_plane_117 : decode b_X_plane 117 = .ok (.dup, 1) := by decide +kernel
theorem d_X_plane_118 : decode b_X_plane 118 = .ok (.iload_n 1, 1) := by decide +kernel
theorem d_X_plane_119 : decode b_X_plane 119 = .ok (.i2l, 1) := by decide +kernel
theorem d_X_plane_120 : decode b_X_plane 120 = .ok (.iload_n 2, 1) := by decide +kernel
theorem d_X_plane_121 : decode b_X_plane 121 = .ok (.i2l, 1) := by decide +kernel
theorem d_X_plane_122 : decode b_X_plane 122 = .ok (.iload_n 3, 1) := by decide +kernel
theorem d_X_plane_123 : decode b_X_plane 123 = .ok (.i2l, 1) := by decide +kernel
theorem d_X_plane_124 : decode b_X_plane 124 = .ok (.iload 4, 2) := by decide +kernel
theorem d_X_plane_126 : decode b_X_plane 126 = .ok (.i2l, 1) := by decide +kernel
theorem d_X_plane_127 : decode b_X_plane 127 = .ok (.invokespecial 62, 3) := by decide +kernel
theorem d_X_plane_130 : decode b_X_plane 130 = .ok (.invokevirtual 65, 3) := by decide +kernel
theorem d_X_plane_133 : decode b_X_plane 133 = .ok (.iload 5, 2) := by decide +kernel
theorem d_X_plane_135 : decode b_X_plane 135 = .ok (.ireturn, 1) := by decide +kernel
theorem d_X_planes_0 : decode b_X_planes 0 = .ok (.aload_n 0, 1) := by decide +kernel
theorem d_X_planes_1 : decode b_X_planes 1 = .ok (.getfield 10, 3) := by decide +kernel
theorem d_X_planes_4 : decode b_X_planes 4 = .ok (.invokevirtual 51, 3) := by decide +kernel
theorem d_X_planes_7 : decode b_X_planes 7 = .ok (.ireturn, 1) := by decide +kernel
theorem d_X_convex_0 : decode b_X_convex 0 = .ok (.iload_n 1, 1) := by decide +kernel
theorem d_X_convex_1 : decode b_X_convex 1 = .ok (.ifCond .lt 15, 3) := by decide +kernel
theorem d_X_convex_4 : decode b_X_convex 4 = .ok (.iload_n 1, 1) := by decide +kernel
theorem d_X_convex_5 : decode b_X_convex 5 = .ok (.aload_n 0, 1) := by decide +kernel
theorem d_X_convex_6 : decode b_X_convex 6 = .ok (.getfield 10, 3) := by decide +kernel
theorem d_X_convex_9 : decode b_X_convex 9 = .ok (.invokevirtual 51, 3) := by decide +kernel
theorem d_X_convex_12 : decode b_X_convex 12 = .ok (.ishr, 1) := by decide +kernel
theorem d_X_convex_13 : decode b_X_convex 13 = .ok (.ifCond .eq 13, 3) := by decide +kernel
theorem d_X_convex_16 : decode b_X_convex 16 = .ok (.new 34, 3) := by decide +kernel
theorem d_X_convex_19 : decode b_X_convex 19 = .ok (.dup, 1) := by decide +kernel
theorem d_X_convex_20 : decode b_X_convex 20 = .ok (.ldc 69, 2) := by decide +kernel
theorem d_X_convex_22 : decode b_X_convex 22 = .ok (.invokespecial 38, 3) := by decide +kernel
theorem d_X_convex_25 : decode b_X_convex 25 = .ok (.athrow, 1) := by decide +kernel
theorem d_X_convex_26 : decode b_X_convex 26 = .ok (.aload_n 0, 1) := by decide +kernel
theorem d_X_convex_27 : decode b_X_convex 27 = .ok (.invokevirtual 71, 3) := by decide +kernel
theorem d_X_convex_30 : decode b_X_convex 30 = .ok (.aload_n 0, 1) := by decide +kernel
theorem d_X_convex_31 : decode b_X_convex 31 = .ok (.getfield 18, 3) := by decide +kernel
theorem d_X_convex_34 : decode b_X_convex 34 = .ok (.aload_n 0, 1) := by decide +kernel
theorem d_X_convex_35 : decode b_X_convex 35 = .ok (.getfield 30, 3) := by decide +kernel
theorem d_X_convex_38 : decode b_X_convex 38 = .ok (.aaload, 1) := by decide +kernel
theorem d_X_convex_39 : decode b_X_convex 39 = .ok (.iload_n 1, 1) := by decide +kernel
theorem d_X_convex_40 : decode b_X_convex 40 = .ok (.invokevirtual 74, 3) := by decide +kernel
theorem d_X_convex_43 : decode b_X_convex 43 = .ok (.aload_n 0, 1) := by decide +kernel
theorem d_X_convex_44 : decode b_X_convex 44 = .ok (.dup, 1) := by decide +kernel
theorem d_X_convex_45 : decode b_X_convex 45 = .ok (.getfield 30, 3) := by decide +kernel
theorem d_X_convex_48 : decode b_X_convex 48 = .ok (.iconst 1, 1) := by decide +kernel
theorem d_X_convex_49 : decode b_X_convex 49 = .ok (.iadd, 1) := by decide +kernel
theorem d_X_convex_50 : decode b_X_convex 50 = .ok (.putfield 30, 3) := by decide +kernel
theorem d_X_convex_53 : decode b_X_convex 53 = .ok (.aload_n 0, 1) := by decide +kernel
theorem d_X_convex_54 : decode b_X_convex 54 = .ok (.getfield 30, 3) := by decide +kernel
theorem d_X_convex_57 : decode b_X_convex 57 = .ok (.ireturn, 1) := by decide +kernel
theorem d_X_join_0 : decode b_X_join 0 = .ok (.iload_n 1, 1) := by decide +kernel
theorem d_X_join_1 : decode b_X_join 1 = .ok (.ifCond .lt 8, 3) := by decide +kernel
theorem d_X_join_4 : decode b_X_join 4 = .ok (.iload_n 1, 1) := by decide +kernel
theorem d_X_join_5 : decode b_X_join 5 = .ok (.iconst 4, 1) := by decide +kernel
theorem d_X_join_6 : decode b_X_join 6 = .ok (.if_icmp .lt 13, 3) := by decide +kernel
theorem d_X_join_9 : decode b_X_join 9 = .ok (.new 34, 3) := by decide +kernel
theorem d_X_join_12 : decode b_X_join 12 = .ok (.dup, 1) := by decide +kernel
theorem d_X_join_13 : decode b_X_join 13 = .ok (.ldc 78, 2) := by decide +kernel
theorem d_X_join_15 : decode b_X_join 15 = .ok (.invokespecial 38, 3) := by decide +kernel
theorem d_X_join_18 : decode b_X_join 18 = .ok (.athrow, 1) := by decide +kernel
theorem d_X_join_19 : decode b_X_join 19 = .ok (.aload_n 0, 1) := by decide +kernel
theorem d_X_join_20 : decode b_X_join 20 = .ok (.getfield 30, 3) := by decide +kernel
theorem d_X_join_23 : decode b_X_join 23 = .ok (.iconst 2, 1) := by decide +kernel
theorem d_X_join_24 : decode b_X_join 24 = .ok (.if_icmp .ge 13, 3) := by decide +kernel
theorem d_X_join_27 : decode b_X_join 27 = .ok (.new 55, 3) := by decide +kernel
theorem d_X_join_30 : decode b_X_join 30 = .ok (.dup, 1) := by decide +kernel
theorem d_X_join_31 : decode b_X_join 31 = .ok (.ldc 80, 2) := by decide +kernel
theorem d_X_join_33 : decode b_X_join 33 = .ok (.invokespecial 59, 3) := by decide +kernel
theorem d_X_join_36 : decode b_X_join 36 = .ok (.athrow, 1) := by decide +kernel
theorem d_X_join_37 : decode b_X_join 37 = .ok (.aload_n 0, 1) := by decide +kernel
theorem d_X_join_38 : decode b_X_join 38 = .ok (.getfield 18, 3) := by decide +kernel
theorem d_X_join_41 : decode b_X_join 41 = .ok (.aload_n 0, 1) := by decide +kernel
theorem d_X_join_42 : decode b_X_join 42 = .ok (.getfield 30, 3) := by decide +kernel
theorem d_X_join_45 : decode b_X_join 45 = .ok (.iconst 2, 1) := by decide +kernel
theorem d_X_join_46 : decode b_X_join 46 = .ok (.isub, 1) := by decide +kernel
theorem d_X_join_47 : decode b_X_join 47 = .ok (.aaload, 1) := by decide +kernel
theorem d_X_join_48 : decode b_X_join 48 = .ok (.aload_n 0, 1) := by decide +kernel
theorem d_X_join_49 : decode b_X_join 49 = .ok (.getfield 18, 3) := by decide +kernel
theorem d_X_join_52 : decode b_X_join 52 = .ok (.aload_n 0, 1) := by decide +kernel
theorem d_X_join_53 : decode b_X_join 53 = .ok (.getfield 30, 3) := by decide +kernel
theorem d_X_join_56 : decode b_X_join 56 = .ok (.iconst 1, 1) := by decide +kernel
theorem d_X_join_57 : decode b_X_join 57 = .ok (.isub, 1) := by decide +kernel
theorem d_X_join_58 : decode b_X_join 58 = .ok (.aaload, 1) := by decide +kernel
theorem d_X_join_59 : decode b_X_join 59 = .ok (.iload_n 1, 1) := by decide +kernel
theorem d_X_join_60 : decode b_X_join 60 = .ok (.invokevirtual 82, 3) := by decide +kernel
theorem d_X_join_63 : decode b_X_join 63 = .ok (.aload_n 0, 1) := by decide +kernel
theorem d_X_join_64 : decode b_X_join 64 = .ok (.dup, 1) := by decide +kernel
theorem d_X_join_65 : decode b_X_join 65 = .ok (.getfield 30, 3) := by decide +kernel
theorem d_X_join_68 : decode b_X_join 68 = .ok (.iconst 1, 1) := by decide +kernel
theorem d_X_join_69 : decode b_X_join 69 = .ok (.isub, 1) := by decide +kernel
theorem d_X_join_70 : decode b_X_join 70 = .ok (.putfield 30, 3) := by decide +kernel
theorem d_X_join_73 : decode b_X_join 73 = .ok (.aload_n 0, 1) := by decide +kernel
theorem d_X_join_74 : decode b_X_join 74 = .ok (.getfield 30, 3) := by decide +kernel
theorem d_X_join_77 : decode b_X_join 77 = .ok (.ireturn, 1) := by decide +kernel
theorem d_X_turn_0 : decode b_X_turn 0 = .ok (.aload_n 0, 1) := by decide +kernel
theorem d_X_turn_1 : decode b_X_turn 1 = .ok (.invokevirtual 86, 3) := by decide +kernel
theorem d_X_turn_4 : decode b_X_turn 4 = .ok (.aload_n 0, 1) := by decide +kernel
theorem d_X_turn_5 : decode b_X_turn 5 = .ok (.getfield 18, 3) := by decide +kernel
theorem d_X_turn_8 : decode b_X_turn 8 = .ok (.aload_n 0, 1) := by decide +kernel
theorem d_X_turn_9 : decode b_X_turn 9 = .ok (.getfield 30, 3) := by decide +kernel
theorem d_X_turn_12 : decode b_X_turn 12 = .ok (.iconst 1, 1) := by decide +kernel
theorem d_X_turn_13 : decode b_X_turn 13 = .ok (.isub, 1) := by decide +kernel
theorem d_X_turn_14 : decode b_X_turn 14 = .ok (.aaload, 1) := by decide +kernel
theorem d_X_turn_15 : decode b_X_turn 15 = .ok (.invokevirtual 89, 3) := by decide +kernel
theorem d_X_turn_18 : decode b_X_turn 18 = .ok (.return_, 1) := by decide +kernel
theorem d_X_copy_0 : decode b_X_copy 0 = .ok (.iload_n 1, 1) := by decide +kernel
theorem d_X_copy_1 : decode b_X_copy 1 = .ok (.ifCond .lt 11, 3) := by decide +kernel
theorem d_X_copy_4 : decode b_X_copy 4 = .ok (.iload_n 1, 1) := by decide +kernel
theorem d_X_copy_5 : decode b_X_copy 5 = .ok (.aload_n 0, 1) := by decide +kernel
theorem d_X_copy_6 : decode b_X_copy 6 = .ok (.getfield 30, 3) := by decide +kernel
theorem d_X_copy_9 : decode b_X_copy 9 = .ok (.if_icmp .lt 13, 3) := by decide +kernel
theorem d_X_copy_12 : decode b_X_copy 12 = .ok (.new 92, 3) := by decide +kernel
theorem d_X_copy_15 : decode b_X_copy 15 = .ok (.dup, 1) := by decide +kernel
theorem d_X_copy_16 : decode b_X_copy 16 = .ok (.ldc 94, 2) := by decide +kernel
theorem d_X_copy_18 : decode b_X_copy 18 = .ok (.invokespecial 96, 3) := by decide +kernel
theorem d_X_copy_21 : decode b_X_copy 21 = .ok (.athrow, 1) := by decide +kernel
theorem d_X_copy_22 : decode b_X_copy 22 = .ok (.aload_n 0, 1) := by decide +kernel
theorem d_X_copy_23 : decode b_X_copy 23 = .ok (.invokevirtual 71, 3) := by decide +kernel
theorem d_X_copy_26 : decode b_X_copy 26 = .ok (.aload_n 0, 1) := by decide +kernel
theorem d_X_copy_27 : decode b_X_copy 27 = .ok (.getfield 18, 3) := by decide +kernel
theorem d_X_copy_30 : decode b_X_copy 30 = .ok (.aload_n 0, 1) := by decide +kernel
theorem d_X_copy_31 : decode b_X_copy 31 = .ok (.getfield 30, 3) := by decide +kernel
theorem d_X_copy_34 : decode b_X_copy 34 = .ok (.aaload, 1) := by decide +kernel
theorem d_X_copy_35 : decode b_X_copy 35 = .ok (.aload_n 0, 1) := by decide +kernel
theorem d_X_copy_36 : decode b_X_copy 36 = .ok (.getfield 18, 3) := by decide +kernel
theorem d_X_copy_39 : decode b_X_copy 39 = .ok (.aload_n 0, 1) := by decide +kernel
theorem d_X_copy_40 : decode b_X_copy 40 = .ok (.getfield 30, 3) := by decide +kernel
theorem d_X_copy_43 : decode b_X_copy 43 = .ok (.iconst 1, 1) := by decide +kernel
theorem d_X_copy_44 : decode b_X_copy 44 = .ok (.isub, 1) := by decide +kernel
theorem d_X_copy_45 : decode b_X_copy 45 = .ok (.iload_n 1, 1) := by decide +kernel
theorem d_X_copy_46 : decode b_X_copy 46 = .ok (.isub, 1) := by decide +kernel
theorem d_X_copy_47 : decode b_X_copy 47 = .ok (.aaload, 1) := by decide +kernel
theorem d_X_copy_48 : decode b_X_copy 48 = .ok (.invokevirtual 97, 3) := by decide +kernel
theorem d_X_copy_51 : decode b_X_copy 51 = .ok (.aload_n 0, 1) := by decide +kernel
theorem d_X_copy_52 : decode b_X_copy 52 = .ok (.dup, 1) := by decide +kernel
theorem d_X_copy_53 : decode b_X_copy 53 = .ok (.getfield 30, 3) := by decide +kernel
theorem d_X_copy_56 : decode b_X_copy 56 = .ok (.iconst 1, 1) := by decide +kernel
theorem d_X_copy_57 : decode b_X_copy 57 = .ok (.iadd, 1) := by decide +kernel
theorem d_X_copy_58 : decode b_X_copy 58 = .ok (.putfield 30, 3) := by decide +kernel
theorem d_X_copy_61 : decode b_X_copy 61 = .ok (.aload_n 0, 1) := by decide +kernel
theorem d_X_copy_62 : decode b_X_copy 62 = .ok (.getfield 30, 3) := by decide +kernel
theorem d_X_copy_65 : decode b_X_copy 65 = .ok (.ireturn, 1) := by decide +kernel
theorem d_X_drop_0 : decode b_X_drop 0 = .ok (.aload_n 0, 1) := by decide +kernel
theorem d_X_drop_1 : decode b_X_drop 1 = .ok (.invokevirtual 86, 3) := by decide +kernel
theorem d_X_drop_4 : decode b_X_drop 4 = .ok (.aload_n 0, 1) := by decide +kernel
theorem d_X_drop_5 : decode b_X_drop 5 = .ok (.dup, 1) := by decide +kernel
theorem d_X_drop_6 : decode b_X_drop 6 = .ok (.getfield 30, 3) := by decide +kernel
theorem d_X_drop_9 : decode b_X_drop 9 = .ok (.iconst 1, 1) := by decide +kernel
theorem d_X_drop_10 : decode b_X_drop 10 = .ok (.isub, 1) := by decide +kernel
theorem d_X_drop_11 : decode b_X_drop 11 = .ok (.putfield 30, 3) := by decide +kernel
theorem d_X_drop_14 : decode b_X_drop 14 = .ok (.aload_n 0, 1) := by decide +kernel
theorem d_X_drop_15 : decode b_X_drop 15 = .ok (.getfield 30, 3) := by decide +kernel
theorem d_X_drop_18 : decode b_X_drop 18 = .ok (.ireturn, 1) := by decide +kernel
theorem d_X_solids_0 : decode b_X_solids 0 = .ok (.aload_n 0, 1) := by decide +kernel
theorem d_X_solids_1 : decode b_X_solids 1 = .ok (.getfield 30, 3) := by decide +kernel
theorem d_X_solids_4 : decode b_X_solids 4 = .ok (.ireturn, 1) := by decide +kernel
theorem d_X_inside_0 : decode b_X_inside 0 = .ok (.iload_n 1, 1) := by decide +kernel
theorem d_X_inside_1 : decode b_X_inside 1 = .ok (.iload_n 2, 1) := by decide +kernel
theorem d_X_inside_2 : decode b_X_inside 2 = .ok (.iload_n 3, 1) := by decide +kernel
theorem d_X_inside_3 : decode b_X_inside 3 = .ok (.iload 4, 2) := by decide +kernel
theorem d_X_inside_5 : decode b_X_inside 5 = .ok (.invokestatic 101, 3) := by decide +kernel
theorem d_X_inside_8 : decode b_X_inside 8 = .ok (.aload_n 0, 1) := by decide +kernel
theorem d_X_inside_9 : decode b_X_inside 9 = .ok (.invokevirtual 86, 3) := by decide +kernel
theorem d_X_inside_12 : decode b_X_inside 12 = .ok (.aload_n 0, 1) := by decide +kernel
theorem d_X_inside_13 : decode b_X_inside 13 = .ok (.getfield 26, 3) := by decide +kernel
theorem d_X_inside_16 : decode b_X_inside 16 = .ok (.iload_n 1, 1) := by decide +kernel
theorem d_X_inside_17 : decode b_X_inside 17 = .ok (.i2l, 1) := by decide +kernel
theorem d_X_inside_18 : decode b_X_inside 18 = .ok (.iload_n 2, 1) := by decide +kernel
theorem d_X_inside_19 : decode b_X_inside 19 = .ok (.i2l, 1) := by decide +kernel
theorem d_X_inside_20 : decode b_X_inside 20 = .ok (.iload_n 3, 1) := by decide +kernel
theorem d_X_inside_21 : decode b_X_inside 21 = .ok (.i2l, 1) := by decide +kernel
theorem d_X_inside_22 : decode b_X_inside 22 = .ok (.iload 4, 2) := by decide +kernel
theorem d_X_inside_24 : decode b_X_inside 24 = .ok (.i2l, 1) := by decide +kernel
theorem d_X_inside_25 : decode b_X_inside 25 = .ok (.invokevirtual 105, 3) := by decide +kernel
theorem d_X_inside_28 : decode b_X_inside 28 = .ok (.aload_n 0, 1) := by decide +kernel
theorem d_X_inside_29 : decode b_X_inside 29 = .ok (.getfield 10, 3) := by decide +kernel
theorem d_X_inside_32 : decode b_X_inside 32 = .ok (.aload_n 0, 1) := by decide +kernel
theorem d_X_inside_33 : decode b_X_inside 33 = .ok (.getfield 26, 3) := by decide +kernel
theorem d_X_inside_36 : decode b_X_inside 36 = .ok (.invokevirtual 108, 3) := by decide +kernel
theorem d_X_inside_39 : decode b_X_inside 39 = .ok (.ifCond .eq 5, 3) := by decide +kernel
theorem d_X_inside_42 : decode b_X_inside 42 = .ok (.iconst 2, 1) := by decide +kernel
theorem d_X_inside_43 : decode b_X_inside 43 = .ok (.ireturn, 1) := by decide +kernel
theorem d_X_inside_44 : decode b_X_inside 44 = .ok (.aload_n 0, 1) := by decide +kernel
theorem d_X_inside_45 : decode b_X_inside 45 = .ok (.aload_n 0, 1) := by decide +kernel
theorem d_X_inside_46 : decode b_X_inside 46 = .ok (.getfield 10, 3) := by decide +kernel
theorem d_X_inside_49 : decode b_X_inside 49 = .ok (.aload_n 0, 1) := by decide +kernel
theorem d_X_inside_50 : decode b_X_inside 50 = .ok (.getfield 26, 3) := by decide +kernel
theorem d_X_inside_53 : decode b_X_inside 53 = .ok (.invokevirtual 112, 3) := by decide +kernel
theorem d_X_inside_56 : decode b_X_inside 56 = .ok (.invokevirtual 116, 3) := by decide +kernel
theorem d_X_inside_59 : decode b_X_inside 59 = .ok (.ifCond .eq 7, 3) := by decide +kernel
theorem d_X_inside_62 : decode b_X_inside 62 = .ok (.iconst 1, 1) := by decide +kernel
theorem d_X_inside_63 : decode b_X_inside 63 = .ok (.goto 4, 3) := by decide +kernel
theorem d_X_inside_66 : decode b_X_inside 66 = .ok (.iconst 0, 1) := by decide +kernel
theorem d_X_inside_67 : decode b_X_inside 67 = .ok (.ireturn, 1) := by decide +kernel
theorem d_X_side_0 : decode b_X_side 0 = .ok (.iload_n 1, 1) := by decide +kernel
theorem d_X_side_1 : decode b_X_side 1 = .ok (.iload_n 2, 1) := by decide +kernel
theorem d_X_side_2 : decode b_X_side 2 = .ok (.iload_n 3, 1) := by decide +kernel
theorem d_X_side_3 : decode b_X_side 3 = .ok (.iload 4, 2) := by decide +kernel
theorem d_X_side_5 : decode b_X_side 5 = .ok (.invokestatic 101, 3) := by decide +kernel
theorem d_X_side_8 : decode b_X_side 8 = .ok (.aload_n 0, 1) := by decide +kernel
theorem d_X_side_9 : decode b_X_side 9 = .ok (.invokevirtual 86, 3) := by decide +kernel
theorem d_X_side_12 : decode b_X_side 12 = .ok (.aload_n 0, 1) := by decide +kernel
theorem d_X_side_13 : decode b_X_side 13 = .ok (.getfield 26, 3) := by decide +kernel
theorem d_X_side_16 : decode b_X_side 16 = .ok (.iload_n 1, 1) := by decide +kernel
theorem d_X_side_17 : decode b_X_side 17 = .ok (.i2l, 1) := by decide +kernel
theorem d_X_side_18 : decode b_X_side 18 = .ok (.iload_n 2, 1) := by decide +kernel
theorem d_X_side_19 : decode b_X_side 19 = .ok (.i2l, 1) := by decide +kernel
theorem d_X_side_20 : decode b_X_side 20 = .ok (.iload_n 3, 1) := by decide +kernel
theorem d_X_side_21 : decode b_X_side 21 = .ok (.i2l, 1) := by decide +kernel
theorem d_X_side_22 : decode b_X_side 22 = .ok (.iload 4, 2) := by decide +kernel
theorem d_X_side_24 : decode b_X_side 24 = .ok (.i2l, 1) := by decide +kernel
theorem d_X_side_25 : decode b_X_side 25 = .ok (.invokevirtual 105, 3) := by decide +kernel
theorem d_X_side_28 : decode b_X_side 28 = .ok (.aload_n 0, 1) := by decide +kernel
theorem d_X_side_29 : decode b_X_side 29 = .ok (.getfield 10, 3) := by decide +kernel
theorem d_X_side_32 : decode b_X_side 32 = .ok (.aload_n 0, 1) := by decide +kernel
theorem d_X_side_33 : decode b_X_side 33 = .ok (.getfield 26, 3) := by decide +kernel
theorem d_X_side_36 : decode b_X_side 36 = .ok (.invokevirtual 120, 3) := by decide +kernel
theorem d_X_side_39 : decode b_X_side 39 = .ok (.istore 5, 2) := by decide +kernel
theorem d_X_side_41 : decode b_X_side 41 = .ok (.iload 5, 2) := by decide +kernel
theorem d_X_side_43 : decode b_X_side 43 = .ok (.iconst (-1), 1) := by decide +kernel
theorem d_X_side_44 : decode b_X_side 44 = .ok (.if_icmp .ne 13, 3) := by decide +kernel
theorem d_X_side_47 : decode b_X_side 47 = .ok (.new 123, 3) := by decide +kernel
theorem d_X_side_50 : decode b_X_side 50 = .ok (.dup, 1) := by decide +kernel
theorem d_X_side_51 : decode b_X_side 51 = .ok (.ldc 125, 2) := by decide +kernel
theorem d_X_side_53 : decode b_X_side 53 = .ok (.invokespecial 127, 3) := by decide +kernel
theorem d_X_side_56 : decode b_X_side 56 = .ok (.athrow, 1) := by decide +kernel
theorem d_X_side_57 : decode b_X_side 57 = .ok (.aload_n 0, 1) := by decide +kernel
theorem d_X_side_58 : decode b_X_side 58 = .ok (.iload 5, 2) := by decide +kernel
theorem d_X_side_60 : decode b_X_side 60 = .ok (.invokevirtual 128, 3) := by decide +kernel
theorem d_X_side_63 : decode b_X_side 63 = .ok (.ireturn, 1) := by decide +kernel
theorem d_X_enters_0 : decode b_X_enters 0 = .ok (.iload_n 1, 1) := by decide +kernel
theorem d_X_enters_1 : decode b_X_enters 1 = .ok (.ifCond .lt 8, 3) := by decide +kernel
theorem d_X_enters_4 : decode b_X_enters 4 = .ok (.iload_n 1, 1) := by decide +kernel
theorem d_X_enters_5 : decode b_X_enters 5 = .ok (.iconst 3, 1) := by decide +kernel
theorem d_X_enters_6 : decode b_X_enters 6 = .ok (.if_icmp .lt 13, 3) := by decide +kernel
theorem d_X_enters_9 : decode b_X_enters 9 = .ok (.new 34, 3) := by decide +kernel
theorem d_X_enters_12 : decode b_X_enters 12 = .ok (.dup, 1) := by decide +kernel
theorem d_X_enters_13 : decode b_X_enters 13 = .ok (.ldc 132, 2) := by decide +kernel
theorem d_X_enters_15 : decode b_X_enters 15 = .ok (.invokespecial 38, 3) := by decide +kernel
theorem d_X_enters_18 : decode b_X_enters 18 = .ok (.athrow, 1) := by decide +kernel
theorem d_X_enters_19 : decode b_X_enters 19 = .ok (.iload_n 2, 1) := by decide +kernel
theorem d_X_enters_20 : decode b_X_enters 20 = .ok (.sipush 999, 3) := by decide +kernel
theorem d_X_enters_23 : decode b_X_enters 23 = .ok (.invokestatic 42, 3) := by decide +kernel
theorem d_X_enters_26 : decode b_X_enters 26 = .ok (.ifCond .ne 13, 3) := by decide +kernel
theorem d_X_enters_29 : decode b_X_enters 29 = .ok (.iload_n 3, 1) := by decide +kernel
theorem d_X_enters_30 : decode b_X_enters 30 = .ok (.sipush 999, 3) := by decide +kernel
theorem d_X_enters_33 : decode b_X_enters 33 = .ok (.invokestatic 42, 3) := by decide +kernel
theorem d_X_enters_36 : decode b_X_enters 36 = .ok (.ifCond .eq 13, 3) := by decide +kernel
theorem d_X_enters_39 : decode b_X_enters 39 = .ok (.new 34, 3) := by decide +kernel
theorem d_X_enters_42 : decode b_X_enters 42 = .ok (.dup, 1) := by decide +kernel
theorem d_X_enters_43 : decode b_X_enters 43 = .ok (.ldc 134, 2) := by decide +kernel
theorem d_X_enters_45 : decode b_X_enters 45 = .ok (.invokespecial 38, 3) := by decide +kernel
theorem d_X_enters_48 : decode b_X_enters 48 = .ok (.athrow, 1) := by decide +kernel
theorem d_X_enters_49 : decode b_X_enters 49 = .ok (.aload_n 0, 1) := by decide +kernel
theorem d_X_enters_50 : decode b_X_enters 50 = .ok (.invokevirtual 86, 3) := by decide +kernel
theorem d_X_enters_53 : decode b_X_enters 53 = .ok (.iconst 0, 1) := by decide +kernel
theorem d_X_enters_54 : decode b_X_enters 54 = .ok (.istore 4, 2) := by decide +kernel
theorem d_X_enters_56 : decode b_X_enters 56 = .ok (.iconst 0, 1) := by decide +kernel
theorem d_X_enters_57 : decode b_X_enters 57 = .ok (.istore 5, 2) := by decide +kernel
theorem d_X_enters_59 : decode b_X_enters 59 = .ok (.iload 5, 2) := by decide +kernel
theorem d_X_enters_61 : decode b_X_enters 61 = .ok (.aload_n 0, 1) := by decide +kernel
theorem d_X_enters_62 : decode b_X_enters 62 = .ok (.getfield 10, 3) := by decide +kernel
theorem d_X_enters_65 : decode b_X_enters 65 = .ok (.invokevirtual 136, 3) := by decide +kernel
theorem d_X_enters_68 : decode b_X_enters 68 = .ok (.if_icmp .ge 36, 3) := by decide +kernel
theorem d_X_enters_71 : decode b_X_enters 71 = .ok (.aload_n 0, 1) := by decide +kernel
theorem d_X_enters_72 : decode b_X_enters 72 = .ok (.getfield 10, 3) := by decide +kernel
theorem d_X_enters_75 : decode b_X_enters 75 = .ok (.iload 5, 2) := by decide +kernel
theorem d_X_enters_77 : decode b_X_enters 77 = .ok (.invokevirtual 139, 3) := by decide +kernel
theorem d_X_enters_80 : decode b_X_enters 80 = .ok (.ifCond .eq 18, 3) := by decide +kernel
theorem d_X_enters_83 : decode b_X_enters 83 = .ok (.aload_n 0, 1) := by decide +kernel
theorem d_X_enters_84 : decode b_X_enters 84 = .ok (.iload 5, 2) := by decide +kernel
theorem d_X_enters_86 : decode b_X_enters 86 = .ok (.iload_n 1, 1) := by decide +kernel
theorem d_X_enters_87 : decode b_X_enters 87 = .ok (.iload_n 2, 1) := by decide +kernel
theorem d_X_enters_88 : decode b_X_enters 88 = .ok (.iload_n 3, 1) := by decide +kernel
theorem d_X_enters_89 : decode b_X_enters 89 = .ok (.invokevirtual 142, 3) := by decide +kernel
theorem d_X_enters_92 : decode b_X_enters 92 = .ok (.ifCond .eq 6, 3) := by decide +kernel
theorem d_X_enters_95 : decode b_X_enters 95 = .ok (.iinc 4 1, 3) := by decide +kernel
theorem d_X_enters_98 : decode b_X_enters 98 = .ok (.iinc 5 1, 3) := by decide +kernel
theorem d_X_enters_101 : decode b_X_enters 101 = .ok (.goto (-42), 3) := by decide +kernel
theorem d_X_enters_104 : decode b_X_enters 104 = .ok (.iload 4, 2) := by decide +kernel
theorem d_X_enters_106 : decode b_X_enters 106 = .ok (.ireturn, 1) := by decide +kernel
theorem d_X_isEntry_0 : decode b_X_isEntry 0 = .ok (.aload_n 0, 1) := by decide +kernel
theorem d_X_isEntry_1 : decode b_X_isEntry 1 = .ok (.getfield 10, 3) := by decide +kernel
theorem d_X_isEntry_4 : decode b_X_isEntry 4 = .ok (.iload_n 1, 1) := by decide +kernel
theorem d_X_isEntry_5 : decode b_X_isEntry 5 = .ok (.invokevirtual 146, 3) := by decide +kernel
theorem d_X_isEntry_8 : decode b_X_isEntry 8 = .ok (.astore 5, 2) := by decide +kernel
theorem d_X_isEntry_10 : decode b_X_isEntry 10 = .ok (.aload 5, 2) := by decide +kernel
theorem d_X_isEntry_12 : decode b_X_isEntry 12 = .ok (.iload_n 2, 1) := by decide +kernel
theorem d_X_isEntry_13 : decode b_X_isEntry 13 = .ok (.invokevirtual 150, 3) := by decide +kernel
theorem d_X_isEntry_16 : decode b_X_isEntry 16 = .ok (.lstore 6, 2) := by decide +kernel
theorem d_X_isEntry_18 : decode b_X_isEntry 18 = .ok (.lload 6, 2) := by decide +kernel
theorem d_X_isEntry_20 : decode b_X_isEntry 20 = .ok (.lconst 0, 1) := by decide +kernel
theorem d_X_isEntry_21 : decode b_X_isEntry 21 = .ok (.lcmp, 1) := by decide +kernel
theorem d_X_isEntry_22 : decode b_X_isEntry 22 = .ok (.ifCond .ne 5, 3) := by decide +kernel
theorem d_X_isEntry_25 : decode b_X_isEntry 25 = .ok (.iconst 0, 1) := by decide +kernel
theorem d_X_isEntry_26 : decode b_X_isEntry 26 = .ok (.ireturn, 1) := by decide +kernel
theorem d_X_isEntry_27 : decode b_X_isEntry 27 = .ok (.aload_n 0, 1) := by decide +kernel
theorem d_X_isEntry_28 : decode b_X_isEntry 28 = .ok (.getfield 26, 3) := by decide +kernel
theorem d_X_isEntry_31 : decode b_X_isEntry 31 = .ok (.iload_n 2, 1) := by decide +kernel
theorem d_X_isEntry_32 : decode b_X_isEntry 32 = .ok (.lconst 0, 1) := by decide +kernel
theorem d_X_isEntry_33 : decode b_X_isEntry 33 = .ok (.iload_n 3, 1) := by decide +kernel
theorem d_X_isEntry_34 : decode b_X_isEntry 34 = .ok (.i2l, 1) := by decide +kernel
theorem d_X_isEntry_35 : decode b_X_isEntry 35 = .ok (.iload 4, 2) := by decide +kernel
theorem d_X_isEntry_37 : decode b_X_isEntry 37 = .ok (.i2l, 1) := by decide +kernel
theorem d_X_isEntry_38 : decode b_X_isEntry 38 = .ok (.lconst 1, 1) := by decide +kernel
theorem d_X_isEntry_39 : decode b_X_isEntry 39 = .ok (.invokevirtual 154, 3) := by decide +kernel
theorem d_X_isEntry_42 : decode b_X_isEntry 42 = .ok (.aload 5, 2) := by decide +kernel
theorem d_X_isEntry_44 : decode b_X_isEntry 44 = .ok (.aload_n 0, 1) := by decide +kernel
theorem d_X_isEntry_45 : decode b_X_isEntry 45 = .ok (.getfield 26, 3) := by decide +kernel
theorem d_X_isEntry_48 : decode b_X_isEntry 48 = .ok (.invokevirtual 158, 3) := by decide +kernel
theorem d_X_isEntry_51 : decode b_X_isEntry 51 = .ok (.lneg, 1) := by decide +kernel
theorem d_X_isEntry_52 : decode b_X_isEntry 52 = .ok (.lstore 8, 2) := by decide +kernel
theorem d_X_isEntry_54 : decode b_X_isEntry 54 = .ok (.aload_n 0, 1) := by decide +kernel
theorem d_X_isEntry_55 : decode b_X_isEntry 55 = .ok (.getfield 26, 3) := by decide +kernel
theorem d_X_isEntry_58 : decode b_X_isEntry 58 = .ok (.iload_n 2, 1) := by decide +kernel
theorem d_X_isEntry_59 : decode b_X_isEntry 59 = .ok (.lload 6, 2) := by decide +kernel
theorem d_X_isEntry_61 : decode b_X_isEntry 61 = .ok (.lconst 0, 1) := by decide +kernel
theorem d_X_isEntry_62 : decode b_X_isEntry 62 = .ok (.lcmp, 1) := by decide +kernel
theorem d_X_isEntry_63 : decode b_X_isEntry 63 = .ok (.ifCond .ge 9, 3) := by decide +kernel
theorem d_X_isEntry_66 : decode b_X_isEntry 66 = .ok (.lload 8, 2) := by decide +kernel
theorem d_X_isEntry_68 : decode b_X_isEntry 68 = .ok (.lneg, 1) := by decide +kernel
theorem d_X_isEntry_69 : decode b_X_isEntry 69 = .ok (.goto 5, 3) := by decide +kernel
theorem d_X_isEntry_72 : decode b_X_isEntry 72 = .ok (.lload 8, 2) := by decide +kernel
theorem d_X_isEntry_74 : decode b_X_isEntry 74 = .ok (.iload_n 3, 1) := by decide +kernel
theorem d_X_isEntry_75 : decode b_X_isEntry 75 = .ok (.i2l, 1) := by decide +kernel
theorem d_X_isEntry_76 : decode b_X_isEntry 76 = .ok (.iload 4, 2) := by decide +kernel
theorem d_X_isEntry_78 : decode b_X_isEntry 78 = .ok (.i2l, 1) := by decide +kernel
theorem d_X_isEntry_79 : decode b_X_isEntry 79 = .ok (.lload 6, 2) := by decide +kernel
theorem d_X_isEntry_81 : decode b_X_isEntry 81 = .ok (.invokestatic 162, 3) := by decide +kernel
theorem d_X_isEntry_84 : decode b_X_isEntry 84 = .ok (.invokevirtual 154, 3) := by decide +kernel
theorem d_X_isEntry_87 : decode b_X_isEntry 87 = .ok (.aload_n 0, 1) := by decide +kernel
theorem d_X_isEntry_88 : decode b_X_isEntry 88 = .ok (.getfield 10, 3) := by decide +kernel
theorem d_X_isEntry_91 : decode b_X_isEntry 91 = .ok (.aload_n 0, 1) := by decide +kernel
theorem d_X_isEntry_92 : decode b_X_isEntry 92 = .ok (.getfield 26, 3) := by decide +kernel
theorem d_X_isEntry_95 : decode b_X_isEntry 95 = .ok (.invokevirtual 168, 3) := by decide +kernel
theorem d_X_isEntry_98 : decode b_X_isEntry 98 = .ok (.ifCond .ne 5, 3) := by decide +kernel
theorem d_X_isEntry_101 : decode b_X_isEntry 101 = .ok (.iconst 0, 1) := by decide +kernel
theorem d_X_isEntry_102 : decode b_X_isEntry 102 = .ok (.ireturn, 1) := by decide +kernel
theorem d_X_isEntry_103 : decode b_X_isEntry 103 = .ok (.aload_n 0, 1) := by decide +kernel
theorem d_X_isEntry_104 : decode b_X_isEntry 104 = .ok (.getfield 10, 3) := by decide +kernel
theorem d_X_isEntry_107 : decode b_X_isEntry 107 = .ok (.aload_n 0, 1) := by decide +kernel
theorem d_X_isEntry_108 : decode b_X_isEntry 108 = .ok (.getfield 26, 3) := by decide +kernel
theorem d_X_isEntry_111 : decode b_X_isEntry 111 = .ok (.invokevirtual 120, 3) := by decide +kernel
theorem d_X_isEntry_114 : decode b_X_isEntry 114 = .ok (.iconst (-1), 1) := by decide +kernel
theorem d_X_isEntry_115 : decode b_X_isEntry 115 = .ok (.if_icmp .ne 13, 3) := by decide +kernel
theorem d_X_isEntry_118 : decode b_X_isEntry 118 = .ok (.new 123, 3) := by decide +kernel
theorem d_X_isEntry_121 : decode b_X_isEntry 121 = .ok (.dup, 1) := by decide +kernel
theorem d_X_isEntry_122 : decode b_X_isEntry 122 = .ok (.ldc 171, 2) := by decide +kernel
theorem d_X_isEntry_124 : decode b_X_isEntry 124 = .ok (.invokespecial 127, 3) := by decide +kernel
theorem d_X_isEntry_127 : decode b_X_isEntry 127 = .ok (.athrow, 1) := by decide +kernel
theorem d_X_isEntry_128 : decode b_X_isEntry 128 = .ok (.aload_n 0, 1) := by decide +kernel
theorem d_X_isEntry_129 : decode b_X_isEntry 129 = .ok (.iload_n 1, 1) := by decide +kernel
theorem d_X_isEntry_130 : decode b_X_isEntry 130 = .ok (.invokevirtual 128, 3) := by decide +kernel
theorem d_X_isEntry_133 : decode b_X_isEntry 133 = .ok (.lload 6, 2) := by decide +kernel
theorem d_X_isEntry_135 : decode b_X_isEntry 135 = .ok (.lconst 0, 1) := by decide +kernel
theorem d_X_isEntry_136 : decode b_X_isEntry 136 = .ok (.lcmp, 1) := by decide +kernel
theorem d_X_isEntry_137 : decode b_X_isEntry 137 = .ok (.ifCond .ge 7, 3) := by decide +kernel
theorem d_X_isEntry_140 : decode b_X_isEntry 140 = .ok (.iconst 1, 1) := by decide +kernel
theorem d_X_isEntry_141 : decode b_X_isEntry 141 = .ok (.goto 4, 3) := by decide +kernel
theorem d_X_isEntry_144 : decode b_X_isEntry 144 = .ok (.iconst (-1), 1) := by decide +kernel
theorem d_X_isEntry_145 : decode b_X_isEntry 145 = .ok (.if_icmp .ne 7, 3) := by decide +kernel
theorem d_X_isEntry_148 : decode b_X_isEntry 148 = .ok (.iconst 1, 1) := by decide +kernel
theorem d_X_isEntry_149 : decode b_X_isEntry 149 = .ok (.goto 4, 3) := by decide +kernel
theorem d_X_isEntry_152 : decode b_X_isEntry 152 = .ok (.iconst 0, 1) := by decide +kernel
theorem d_X_isEntry_153 : decode b_X_isEntry 153 = .ok (.ireturn, 1) := by decide +kernel
theorem d_X_lookAtSpot_0 : decode b_X_lookAtSpot 0 = .ok (.aload_n 0, 1) := by decide +kernel
theorem d_X_lookAtSpot_1 : decode b_X_lookAtSpot 1 = .ok (.aload_n 0, 1) := by decide +kernel
theorem d_X_lookAtSpot_2 : decode b_X_lookAtSpot 2 = .ok (.getfield 10, 3) := by decide +kernel
theorem d_X_lookAtSpot_5 : decode b_X_lookAtSpot 5 = .ok (.aload_n 0, 1) := by decide +kernel
theorem d_X_lookAtSpot_6 : decode b_X_lookAtSpot 6 = .ok (.getfield 26, 3) := by decide +kernel
theorem d_X_lookAtSpot_9 : decode b_X_lookAtSpot 9 = .ok (.iload_n 1, 1) := by decide +kernel
theorem d_X_lookAtSpot_10 : decode b_X_lookAtSpot 10 = .ok (.invokevirtual 173, 3) := by decide +kernel
theorem d_X_lookAtSpot_13 : decode b_X_lookAtSpot 13 = .ok (.invokevirtual 116, 3) := by decide +kernel
theorem d_X_lookAtSpot_16 : decode b_X_lookAtSpot 16 = .ok (.istore_n 2, 1) := by decide +kernel
theorem d_X_lookAtSpot_17 : decode b_X_lookAtSpot 17 = .ok (.aload_n 0, 1) := by decide +kernel
theorem d_X_lookAtSpot_18 : decode b_X_lookAtSpot 18 = .ok (.aload_n 0, 1) := by decide +kernel
theorem d_X_lookAtSpot_19 : decode b_X_lookAtSpot 19 = .ok (.getfield 10, 3) := by decide +kernel
theorem d_X_lookAtSpot_22 : decode b_X_lookAtSpot 22 = .ok (.aload_n 0, 1) := by decide +kernel
theorem d_X_lookAtSpot_23 : decode b_X_lookAtSpot 23 = .ok (.getfield 26, 3) := by decide +kernel
theorem d_X_lookAtSpot_26 : decode b_X_lookAtSpot 26 = .ok (.iload_n 1, 1) := by decide +kernel
theorem d_X_lookAtSpot_27 : decode b_X_lookAtSpot 27 = .ok (.invokevirtual 177, 3) := by decide +kernel
theorem d_X_lookAtSpot_30 : decode b_X_lookAtSpot 30 = .ok (.invokevirtual 116, 3) := by decide +kernel
theorem d_X_lookAtSpot_33 : decode b_X_lookAtSpot 33 = .ok (.istore_n 3, 1) := by decide +kernel
theorem d_X_lookAtSpot_34 : decode b_X_lookAtSpot 34 = .ok (.iload_n 2, 1) := by decide +kernel
theorem d_X_lookAtSpot_35 : decode b_X_lookAtSpot 35 = .ok (.iload_n 3, 1) := by decide +kernel
theorem d_X_lookAtSpot_36 : decode b_X_lookAtSpot 36 = .ok (.if_icmp .ne 5, 3) := by decide +kernel
theorem d_X_lookAtSpot_39 : decode b_X_lookAtSpot 39 = .ok (.iconst 0, 1) := by decide +kernel
theorem d_X_lookAtSpot_40 : decode b_X_lookAtSpot 40 = .ok (.ireturn, 1) := by decide +kernel
theorem d_X_lookAtSpot_41 : decode b_X_lookAtSpot 41 = .ok (.iload_n 2, 1) := by decide +kernel
theorem d_X_lookAtSpot_42 : decode b_X_lookAtSpot 42 = .ok (.ifCond .eq 7, 3) := by decide +kernel
theorem d_X_lookAtSpot_45 : decode b_X_lookAtSpot 45 = .ok (.iconst 1, 1) := by decide +kernel
theorem d_X_lookAtSpot_46 : decode b_X_lookAtSpot 46 = .ok (.goto 4, 3) := by decide +kernel
theorem d_X_lookAtSpot_49 : decode b_X_lookAtSpot 49 = .ok (.iconst (-1), 1) := by decide +kernel
theorem d_X_lookAtSpot_50 : decode b_X_lookAtSpot 50 = .ok (.ireturn, 1) := by decide +kernel
theorem d_X_topHas_0 : decode b_X_topHas 0 = .ok (.iload_n 1, 1) := by decide +kernel
theorem d_X_topHas_1 : decode b_X_topHas 1 = .ok (.invokestatic 180, 3) := by decide +kernel
theorem d_X_topHas_4 : decode b_X_topHas 4 = .ok (.ifCond .eq 28, 3) := by decide +kernel
theorem d_X_topHas_7 : decode b_X_topHas 7 = .ok (.aload_n 0, 1) := by decide +kernel
theorem d_X_topHas_8 : decode b_X_topHas 8 = .ok (.getfield 18, 3) := by decide +kernel
theorem d_X_topHas_11 : decode b_X_topHas 11 = .ok (.aload_n 0, 1) := by decide +kernel
theorem d_X_topHas_12 : decode b_X_topHas 12 = .ok (.getfield 30, 3) := by decide +kernel
theorem d_X_topHas_15 : decode b_X_topHas 15 = .ok (.iconst 1, 1) := by decide +kernel
theorem d_X_topHas_16 : decode b_X_topHas 16 = .ok (.isub, 1) := by decide +kernel
theorem d_X_topHas_17 : decode b_X_topHas 17 = .ok (.aaload, 1) := by decide +kernel
theorem d_X_topHas_18 : decode b_X_topHas 18 = .ok (.iload_n 1, 1) := by decide +kernel
theorem d_X_topHas_19 : decode b_X_topHas 19 = .ok (.invokestatic 183, 3) := by decide +kernel
theorem d_X_topHas_22 : decode b_X_topHas 22 = .ok (.invokevirtual 186, 3) := by decide +kernel
theorem d_X_topHas_25 : decode b_X_topHas 25 = .ok (.ifCond .eq 7, 3) := by decide +kernel
theorem d_X_topHas_28 : decode b_X_topHas 28 = .ok (.iconst 1, 1) := by decide +kernel
theorem d_X_topHas_29 : decode b_X_topHas 29 = .ok (.goto 4, 3) := by decide +kernel
theorem d_X_topHas_32 : decode b_X_topHas 32 = .ok (.iconst 0, 1) := by decide +kernel
theorem d_X_topHas_33 : decode b_X_topHas 33 = .ok (.ireturn, 1) := by decide +kernel
theorem d_X_requireRoom_0 : decode b_X_requireRoom 0 = .ok (.aload_n 0, 1) := by decide +kernel
theorem d_X_requireRoom_1 : decode b_X_requireRoom 1 = .ok (.getfield 30, 3) := by decide +kernel
theorem d_X_requireRoom_4 : decode b_X_requireRoom 4 = .ok (.bipush 6, 2) := by decide +kernel
theorem d_X_requireRoom_6 : decode b_X_requireRoom 6 = .ok (.if_icmp .lt 13, 3) := by decide +kernel
theorem d_X_requireRoom_9 : decode b_X_requireRoom 9 = .ok (.new 55, 3) := by decide +kernel
theorem d_X_requireRoom_12 : decode b_X_requireRoom 12 = .ok (.dup, 1) := by decide +kernel
theorem d_X_requireRoom_13 : decode b_X_requireRoom 13 = .ok (.ldc 189, 2) := by decide +kernel
theorem d_X_requireRoom_15 : decode b_X_requireRoom 15 = .ok (.invokespecial 59, 3) := by decide +kernel
theorem d_X_requireRoom_18 : decode b_X_requireRoom 18 = .ok (.athrow, 1) := by decide +kernel
theorem d_X_requireRoom_19 : decode b_X_requireRoom 19 = .ok (.return_, 1) := by decide +kernel
theorem d_X_requireSolid_0 : decode b_X_requireSolid 0 = .ok (.aload_n 0, 1) := by decide +kernel
theorem d_X_requireSolid_1 : decode b_X_requireSolid 1 = .ok (.getfield 30, 3) := by decide +kernel
theorem d_X_requireSolid_4 : decode b_X_requireSolid 4 = .ok (.ifCond .ne 13, 3) := by decide +kernel
theorem d_X_requireSolid_7 : decode b_X_requireSolid 7 = .ok (.new 55, 3) := by decide +kernel
theorem d_X_requireSolid_10 : decode b_X_requireSolid 10 = .ok (.dup, 1) := by decide +kernel
theorem d_X_requireSolid_11 : decode b_X_requireSolid 11 = .ok (.ldc 191, 2) := by decide +kernel
theorem d_X_requireSolid_13 : decode b_X_requireSolid 13 = .ok (.invokespecial 59, 3) := by decide +kernel
theorem d_X_requireSolid_16 : decode b_X_requireSolid 16 = .ok (.athrow, 1) := by decide +kernel
theorem d_X_requireSolid_17 : decode b_X_requireSolid 17 = .ok (.return_, 1) := by decide +kernel
theorem d_X_requirePoint_0 : decode b_X_requirePoint 0 = .ok (.iload_n 3, 1) := by decide +kernel
theorem d_X_requirePoint_1 : decode b_X_requirePoint 1 = .ok (.iconst 1, 1) := by decide +kernel
theorem d_X_requirePoint_2 : decode b_X_requirePoint 2 = .ok (.if_icmp .lt 10, 3) := by decide +kernel
theorem d_X_requirePoint_5 : decode b_X_requirePoint 5 = .ok (.iload_n 3, 1) := by decide +kernel
theorem d_X_requirePoint_6 : decode b_X_requirePoint 6 = .ok (.sipush 1000, 3) := by decide +kernel
theorem d_X_requirePoint_9 : decode b_X_requirePoint 9 = .ok (.if_icmp .le 13, 3) := by decide +kernel
theorem d_X_requirePoint_12 : decode b_X_requirePoint 12 = .ok (.new 34, 3) := by decide +kernel
theorem d_X_requirePoint_15 : decode b_X_requirePoint 15 = .ok (.dup, 1) := by decide +kernel
theorem d_X_requirePoint_16 : decode b_X_requirePoint 16 = .ok (.ldc 193, 2) := by decide +kernel
theorem d_X_requirePoint_18 : decode b_X_requirePoint 18 = .ok (.invokespecial 38, 3) := by decide +kernel
theorem d_X_requirePoint_21 : decode b_X_requirePoint 21 = .ok (.athrow, 1) := by decide +kernel
theorem d_X_requirePoint_22 : decode b_X_requirePoint 22 = .ok (.iload_n 0, 1) := by decide +kernel
theorem d_X_requirePoint_23 : decode b_X_requirePoint 23 = .ok (.ldc 41, 2) := by decide +kernel
theorem d_X_requirePoint_25 : decode b_X_requirePoint 25 = .ok (.invokestatic 42, 3) := by decide +kernel
theorem d_X_requirePoint_28 : decode b_X_requirePoint 28 = .ok (.ifCond .ne 21, 3) := by decide +kernel
theorem d_X_requirePoint_31 : decode b_X_requirePoint 31 = .ok (.iload_n 1, 1) := by decide +kernel
theorem d_X_requirePoint_32 : decode b_X_requirePoint 32 = .ok (.ldc 41, 2) := by decide +kernel
theorem d_X_requirePoint_34 : decode b_X_requirePoint 34 = .ok (.invokestatic 42, 3) := by decide +kernel
theorem d_X_requirePoint_37 : decode b_X_requirePoint 37 = .ok (.ifCond .ne 12, 3) := by decide +kernel
theorem d_X_requirePoint_40 : decode b_X_requirePoint 40 = .ok (.iload_n 2, 1) := by decide +kernel
theorem d_X_requirePoint_41 : decode b_X_requirePoint 41 = .ok (.ldc 41, 2) := by decide +kernel
theorem d_X_requirePoint_43 : decode b_X_requirePoint 43 = .ok (.invokestatic 42, 3) := by decide +kernel
theorem d_X_requirePoint_46 : decode b_X_requirePoint 46 = .ok (.ifCond .eq 13, 3) := by decide +kernel
theorem d_X_requirePoint_49 : decode b_X_requirePoint 49 = .ok (.new 34, 3) := by decide +kernel
theorem d_X_requirePoint_52 : decode b_X_requirePoint 52 = .ok (.dup, 1) := by decide +kernel
theorem d_X_requirePoint_53 : decode b_X_requirePoint 53 = .ok (.ldc 195, 2) := by decide +kernel
theorem d_X_requirePoint_55 : decode b_X_requirePoint 55 = .ok (.invokespecial 38, 3) := by decide +kernel
theorem d_X_requirePoint_58 : decode b_X_requirePoint 58 = .ok (.athrow, 1) := by decide +kernel
theorem d_X_requirePoint_59 : decode b_X_requirePoint 59 = .ok (.return_, 1) := by decide +kernel
theorem d_X_isBeyond_0 : decode b_X_isBeyond 0 = .ok (.iload_n 0, 1) := by decide +kernel
theorem d_X_isBeyond_1 : decode b_X_isBeyond 1 = .ok (.iload_n 1, 1) := by decide +kernel
theorem d_X_isBeyond_2 : decode b_X_isBeyond 2 = .ok (.ineg, 1) := by decide +kernel
theorem d_X_isBeyond_3 : decode b_X_isBeyond 3 = .ok (.if_icmp .lt 8, 3) := by decide +kernel
theorem d_X_isBeyond_6 : decode b_X_isBeyond 6 = .ok (.iload_n 0, 1) := by decide +kernel
theorem d_X_isBeyond_7 : decode b_X_isBeyond 7 = .ok (.iload_n 1, 1) := by decide +kernel
theorem d_X_isBeyond_8 : decode b_X_isBeyond 8 = .ok (.if_icmp .le 7, 3) := by decide +kernel
theorem d_X_isBeyond_11 : decode b_X_isBeyond 11 = .ok (.iconst 1, 1) := by decide +kernel
theorem d_X_isBeyond_12 : decode b_X_isBeyond 12 = .ok (.goto 4, 3) := by decide +kernel
theorem d_X_isBeyond_15 : decode b_X_isBeyond 15 = .ok (.iconst 0, 1) := by decide +kernel
theorem d_X_isBeyond_16 : decode b_X_isBeyond 16 = .ok (.ireturn, 1) := by decide +kernel
end
section
/-! The layer: contracts of methods that may throw (gx_Met), a call's two ways on, catching and leaving; worlds as a function from addresses to cells (gx_H), so that a callee's world is its caller's. -/
/-- the end of an invocation, returned or thrown: warmer tables, the places L written, at most k new cells of n slots -/
def gx_End (st t : State) (L : List Loc) (k n : Nat) : Prop := st.WarmedH t.vm ∧ st.sameButNew ({ t with vm := st.vm } : State) L k n
/-- a contract whose outcome is either way -/
def gx_Met (l : Launch) (y : MethodName) (ws : List Cond) (rm : Room) (Pc : Array Value → State → Prop) (Qc : Array Value → State → Outcome → State → Prop) (mc ms : Nat) (free : Addr → Prop) : Prop :=
  MetFree l y (headSpec ws rm) Pc (fun _ _ _ _ _ => True) (fun a st o t => Qc a st o t ∧ ∃ L, gx_End st t L mc ms ∧ ∀ q ∈ L, free q.base)
def gx_MQ (below : List Frame) (Qc : Array Value → State → Outcome → State → Prop) (a : Array Value) (s : State) (mc ms : Nat) (free : Addr → Prop) : State → Prop := fun t =>
  ∃ o, t.status = .running ∧ Ended t below o ∧ Qc a s o t ∧ ∃ L, gx_End s t L mc ms ∧ ∀ q ∈ L, free q.base
section GX
variable {p : Program} {l : Launch} {e : Env} {R : Room} {s : State} {m : MethodId} {args : Array Value} {below : List Frame} {meth : Method} {c : Code} {H : Heap} {locs : List Loc} {cells slots : Nat} {Q : State → Prop}
theorem gx_mono {Q' : State → Prop} {g : JFrame} (h : ∀ t, Q' t → Q t) (k : W p l e R s m args below meth c H locs cells slots Q' g) : W p l e R s m args below meth c H locs cells slots Q g := by
  intro T hT X
  obtain ⟨t, a, b⟩ := k T hT X
  exact ⟨t, a, h t b⟩
theorem gx_MQ_of {Qc : Array Value → State → Outcome → State → Prop} {mc ms : Nat} {free : Addr → Prop} (t : State) (h : MQ below Qc args s mc ms free t) : gx_MQ below Qc args s mc ms free t := by
  obtain ⟨o, h1, h2, h3, L, hF, hL⟩ := h
  exact ⟨o, h1, h2, h3, L, ⟨hF.2.1, hF.2.2⟩, hL⟩
/-- a method without handlers -/
theorem gx_ofW {y : MethodName} {ws ws' : List Cond} {rm : Room} {Pc : Array Value → State → Prop} {Qc : Array Value → State → Outcome → State → Prop} {mc ms : Nat} {free : Addr → Prop} {cc : ByteArray} {maxL : Nat} {ret : Option FieldType}
    (hy : plainName y.cls = true) (hw : ws = Cond.code y cc maxL ret :: ws')
    (body : ∀ p e s m args below meth c s₁, BodyLoose p l y (headSpec ws rm) cc maxL ret e s m args below meth c s₁ → c.maxLocals = maxL → (∀ x ∈ c.exceptionTable.toList, ∀ pc, covers x pc = false) → Pc args s →
      W p l e rm s m args below meth c s.heap [] 0 0 (gx_MQ below Qc args s mc ms free) (entryFrame m args maxL)) : gx_Met l y ws rm Pc Qc mc ms free := by
  refine MetFree.of_bodyS (code := cc) (maxLocals := maxL) (ret := ret) hy ?_ ?_
  · intro args s m h hn
    obtain ⟨meth, c, h1, h2, h3, h4, h5, h6, -, -⟩ := Cond.code_spec hn (atoms_spec (ws := ws) h _ (by rw [hw]; exact List.mem_cons_self))
    exact ⟨meth, c, h1, h2, h3, h4, h5, h6⟩
  · intro p e s m args below meth c s₁ B hml hP _
    have hh0 : s₁.heap = s.heap := by rw [B.state]; rfl
    have hno : c.exceptionTable.isEmpty = true := B.noHandlers (atoms_spec (ws := ws) B.pre _ (by rw [hw]; exact List.mem_cons_self))
    have hno2 : ∀ x ∈ c.exceptionTable.toList, ∀ pc, covers x pc = false := by
      intro x hx
      have h0 : c.exceptionTable = #[] := by simpa using hno
      rw [h0] at hx
      exact absurd hx (by simp)
    obtain ⟨t, a1, o, b1, b2, b3⟩ := body p e s m args below meth c s₁ B hml hno2 hP s₁ hh0 (Stand.of_body B)
    exact ⟨t, o, a1, b1, b2, ⟨b3.1, b3.2⟩⟩
/-- a method with handlers -/
theorem gx_ofWh {y : MethodName} {ws ws' : List Cond} {rm : Room} {Pc : Array Value → State → Prop} {Qc : Array Value → State → Outcome → State → Prop} {mc ms : Nat} {free : Addr → Prop} {cc : ByteArray} {maxL : Nat} {ret : Option FieldType} {hs : List (Nat × Nat × Nat × Nat)}
    (hy : plainName y.cls = true) (hw : ws = Cond.codeWith y cc maxL ret hs :: ws')
    (body : ∀ p e s m args below meth c s₁, BodyLoose p l y (headSpec ws rm) cc maxL ret e s m args below meth c s₁ → c.maxLocals = maxL → c.exceptionTable.toList = tableOf hs → Pc args s →
      W p l e rm s m args below meth c s.heap [] 0 0 (gx_MQ below Qc args s mc ms free) (entryFrame m args maxL)) : gx_Met l y ws rm Pc Qc mc ms free := by
  refine MetFree.of_bodyS (code := cc) (maxLocals := maxL) (ret := ret) hy ?_ ?_
  · intro args s m h hn
    obtain ⟨m', meth, c, h0, h1, h2, h3, h4, -, h5, h6, -⟩ := Cond.codeWith_spec (atoms_spec (ws := ws) h _ (by rw [hw]; exact List.mem_cons_self))
    cases hn.symm.trans h0
    exact ⟨meth, c, h1, h2, h3, h4, h5, h6⟩
  · intro p e s m args below meth c s₁ B hml hP _
    have hh0 : s₁.heap = s.heap := by rw [B.state]; rfl
    obtain ⟨m', meth', c', h0, h1, h2, -, -, ht, -⟩ := Cond.codeWith_spec (atoms_spec (ws := ws) B.pre _ (by rw [hw]; exact List.mem_cons_self))
    cases B.named.symm.trans h0
    cases B.method.symm.trans h1
    cases (Stand.of_body B).code.symm.trans h2
    obtain ⟨t, a1, o, b1, b2, b3⟩ := body p e s m args below meth c s₁ B hml (by rw [← ht, table_eq]) hP s₁ hh0 (Stand.of_body B)
    exact ⟨t, o, a1, b1, b2, ⟨b3.1, b3.2⟩⟩
/-- the machine, the frame g on top and the object a being thrown over it -/
def gx_WT (p : Program) (l : Launch) (e : Env) (R : Room) (s : State) (m : MethodId) (args : Array Value) (below : List Frame) (meth : Method) (c : Code) (H : Heap) (locs : List Loc) (cells slots : Nat) (Q : State → Prop) (g : JFrame) (a : Addr) : Prop :=
  ∀ T : State, T.heap = H → Stand p l e R s m args below meth c T locs cells slots → ∃ t, Steps p.tables e below ((T.setTop g).pushFrame (.throwing a)) t ∧ Q t
/-- thrown out of the method -/
theorem gx_leave {Qc : Array Value → State → Outcome → State → Prop} {free : Addr → Prop} {a : Addr} {pc : Nat} {ls : Array Slot} {st : List Value} (hout : ∀ x ∈ c.exceptionTable.toList, covers x pc = false) (hlocks : meth.locks = false)
    (hq : ∀ t : State, t.heap = H → s.WarmedH t.vm → Qc args s (.threw a) t) (hf : ∀ q ∈ locs, free q.base) :
    gx_WT p l e R s m args below meth c H locs cells slots (gx_MQ below Qc args s cells slots free) (F0 m pc ls st) a := by
  intro T hT X
  obtain ⟨h1, h2, h3, h4, h5⟩ := X.leaveThrown a (g := F0 m pc ls st) rfl rfl rfl hout hlocks
  exact ⟨_, h1, .threw a, h2, h3, hq _ hT h4, locs, ⟨h4, h5⟩, hf⟩
/-- athrow, no handler there -/
theorem gx_athrow {cc : ByteArray} {Qc : Array Value → State → Outcome → State → Prop} {free : Addr → Prop} {a : Addr} {pc : Nat} {ls : Array Slot} {st : List Value} (hexec : p.tables.exec = Jvm.exec) (hb : c.code = cc) (hout : ∀ x ∈ c.exceptionTable.toList, covers x pc = false) (hlocks : meth.locks = false)
    (hdg : decode cc pc = .ok (.athrow, 1)) (hq : ∀ t : State, t.heap = H → s.WarmedH t.vm → Qc args s (.threw a) t) (hf : ∀ q ∈ locs, free q.base) :
    W p l e R s m args below meth c H locs cells slots (gx_MQ below Qc args s cells slots free) (F0 m pc ls (.ref a :: st)) := by
  intro T hT X
  subst hb
  obtain ⟨h1, h2, h3, h4, h5⟩ := X.athrowLeaves hexec (g := F0 m pc ls (.ref a :: st)) rfl rfl rfl hout rfl hdg hlocks
  exact ⟨_, h1, .threw a, h2, h3, hq _ hT h4, locs, ⟨h4, h5⟩, hf⟩
/-- caught in the method -/
theorem gx_catch {a : Addr} {pc pc' : Nat} {ls : Array Slot} {st : List Value} (hfind : ∀ T : State, T.heap = H → s.WarmedH T.vm → T.vm.method? m = some meth → meth.code = some c → Finds e ((T.setTop (F0 m pc ls st)).pushFrame (.throwing a)) (F0 m pc ls st) a (.found pc'))
    (k : W p l e R s m args below meth c H locs cells slots Q (F0 m pc' ls [.ref a])) : gx_WT p l e R s m args below meth c H locs cells slots Q (F0 m pc ls st) a := by
  intro T hT X
  obtain ⟨t, a1, b1⟩ := k T hT X
  exact ⟨t, X.catchAt a (g := F0 m pc ls st) rfl (hfind T hT X.warmed X.method' X.code) a1, b1⟩
/-- what a call comes to -/
def gx_Run (p : Program) (l : Launch) (e : Env) (R : Room) (s : State) (m : MethodId) (args : Array Value) (below : List Frame) (meth : Method) (c : Code) (H : Heap) (locs : List Loc) (cells slots mc ms : Nat) (g : JFrame) (rest : List Value) (Qa : State → Outcome → State → Prop) (free : Addr → Prop) : Prop :=
  ∀ T : State, T.heap = H → Stand p l e R s m args below meth c T locs cells slots → ∃ (o : Outcome) (st₀ t T' : State) (L : List Loc), st₀.heap = H ∧ s.WarmedH st₀.vm ∧ Stand p l e R s m args below meth c T' (locs ++ L) (cells + mc) (slots + ms) ∧ (∀ q ∈ L, free q.base) ∧ T'.heap = t.heap ∧ T'.vm = t.vm ∧ Qa st₀ o t ∧
    match o with
    | .returned v => ∀ tg, Steps p.tables e below (T'.setTop { g with pc := g.pc + 3, stack := v.toList ++ rest }) tg → Steps p.tables e below (T.setTop g) tg
    | .threw x => ∀ tg, Steps p.tables e below ((T'.setTop { g with stack := rest }).pushFrame (.throwing x)) tg → Steps p.tables e below (T.setTop g) tg
end GX
section GY
variable {p : Program} {l : Launch} {e : Env} {R : Room} {s : State} {m : MethodId} {args : Array Value} {below : List Frame} {meth : Method} {c : Code} {locs : List Loc} {cells slots : Nat} {T : State}
theorem gx_back (X : Stand p l e R s m args below meth c T locs cells slots) {y : MethodName} {ws : List Cond} {rm : Room} {Pc : Array Value → State → Prop} {Qc : Array Value → State → Outcome → State → Prop} {mc ms : Nat} {free : Addr → Prop}
    (hM : gx_Met l y ws rm Pc Qc mc ms free) {maxL : Nat} (hrc : rm.cells = mc) (hrs : rm.slots = ms) (hframes : rm.frames + 1 ≤ R.frames) (hlocals : 8 + (maxL + 11) + rm.locals ≤ R.locals)
    {g : JFrame} (hg : g.method = m) (hsize : g.locals.size = c.maxLocals) {ig : Instr} {len : Nat} (hdg : decode c.code g.pc = .ok (ig, len)) (hW : 2 * g.monitorRoom + (g.stack.map fun v => v.category).sum ≤ 8)
    {mk : MethodId} (hn : T.methodNamed? y = some mk) {a : Array Value} (hpre : ∀ w ∈ ws, w.before a T = true) (hini : (Cond.initialized y.cls).before a T = true)
    (hmeth : ∃ (methY : Method) (cY : Code), T.vm.method? mk = some methY ∧ methY.code = some cY ∧ cY.maxLocals = maxL) (hcells : cells + mc ≤ R.cells) (hslots : slots + ms ≤ R.slots) (hP : Pc a (T.calling g mk a)) :
    ∃ (o : Outcome) (t T' : State) (L : List Loc), Stand p l e R s m args below meth c T' (locs ++ L) (cells + mc) (slots + ms) ∧ (∀ q ∈ L, free q.base) ∧ T'.heap = t.heap ∧ T'.vm = t.vm ∧ Qc a (T.calling g mk a) o t ∧
      match o with
      | .returned v => Steps p.tables e below (doInvoke e (T.setTop g) [] mk a).1 (T'.setTop { g with pc := g.pc + len, stack := v.toList ++ g.stack })
      | .threw x => Steps p.tables e below (doInvoke e (T.setTop g) [] mk a).1 ((T'.setTop g).pushFrame (.throwing x)) := by
  obtain ⟨methY, cY, hmY, hcY, hlY⟩ := hmeth
  obtain ⟨kY, hkY, -⟩ := className_of_methodNamed hn
  have hinitY : kY.init = .initialized := Cond.initialized_spec (findClass_of_methodNamed hn) hkY hini
  have h : At T g.method c below := by rw [hg]; exact X.here
  have happ : (headSpec ws rm).appliesLoose y e.platform (T.calling g mk a) = true :=
    Spec.appliesLoose_calling (g := g) h hdg hn hkY hinitY
      (X.room_calling (g := g) (R' := (headSpec ws rm).room) hsize hmY hcY hframes (by rw [hlY]; show _ + _ + rm.locals ≤ _; omega) (by show cells + rm.cells ≤ _; rw [hrc]; exact hcells) (by show slots + rm.slots ≤ _; rw [hrs]; exact hslots)) (atoms_intro hpre)
  obtain ⟨mid, hmid⟩ := h.above
  have hfr : (T.setTop g).frames = (.java g :: mid) ++ below := by rw [State.frames_setTop' g h.top, hmid]; rfl
  obtain ⟨o, s₂, hsteps, -, hend, hq⟩ := Steps.callFree hM p X.admits X.cas X.clock (acts := []) hfr happ hP trivial
  have hq0 : Qc a (T.calling g mk a) o s₂ ∧ ∃ L, gx_End (T.calling g mk a) s₂ L mc ms ∧ ∀ q ∈ L, free q.base := hq
  obtain ⟨hq', L, ⟨hW₂, e2, q2, q3, q4, q5, q6⟩, hL⟩ := hq0
  rw [State.frames_setTop' g h.top] at hend
  have e3 : s₂ = ({ (T.calling g mk a).setFrames s₂.frames with heap := s₂.heap, slotsUsed := s₂.slotsUsed } : State).setVm s₂.vm := by
    have : s₂ = ({ s₂ with vm := (T.calling g mk a).vm } : State).setVm s₂.vm := rfl
    rw [e2] at this
    exact this
  have hW' : T.WarmedH s₂.vm := hW₂
  obtain ⟨g₀, hg0⟩ := Option.isSome_iff_exists.mp h.top
  obtain ⟨r, hr⟩ := State.topJava?_eq_some.mp hg0
  have hr' : (({ T with heap := s₂.heap, slotsUsed := s₂.slotsUsed } : State).setVm s₂.vm).frames = .java g₀ :: r := hr
  have hsame : T.sameButNew ({ T with heap := s₂.heap, slotsUsed := s₂.slotsUsed } : State) L mc ms := by
    refine ⟨?_, q2, q3, q4, q5, q6⟩
    obtain ⟨t, ht, -⟩ := State.frames_cons hr
    show ({ T with heap := s₂.heap, slotsUsed := s₂.slotsUsed } : State) = { T.setFrames T.frames with heap := s₂.heap, slotsUsed := s₂.slotsUsed }
    rw [State.setFrames_self ht]
  have X' : Stand p l e R s m args below meth c (({ T with heap := s₂.heap, slotsUsed := s₂.slotsUsed } : State).setVm s₂.vm) (locs ++ L) (cells + mc) (slots + ms) :=
    ⟨X.admits, X.cas, X.clock, X.frames, X.room, X.hears, X.method, X.code, (X.here.setHeapUsed s₂.heap s₂.slotsUsed).setVm hW'.alike, X.tail, State.WarmedH.trans X.warmed hW', X.limits, X.bytes, X.same.trans (hsame.setVm s.vm)⟩
  cases o with
  | returned v =>
    obtain ⟨c₂, i₂, len₂, hc₂, hd₂, hf₂⟩ := hend
    have hcc : c₂ = c := by
      have h1 : s₂.code? g.method = T.code? g.method := by
        rw [State.code?_eq, State.code?_eq, hW'.alike.method?]
      exact Option.some.inj (hc₂.symm.trans (h1.trans h.code))
    subst hcc
    have hlen : len₂ = len := by rw [hdg] at hd₂; cases hd₂; rfl
    subst hlen
    have hs₂ : s₂ = (({ T with heap := s₂.heap, slotsUsed := s₂.slotsUsed } : State).setVm s₂.vm).setTop { g with pc := g.pc + len₂, stack := v.toList ++ g.stack } := by
      refine e3.trans ?_
      rw [hf₂, State.calling_eq h.top, State.setFrames_setFrames, State.setTop_of_frames _ hr', hr]
      rfl
    refine ⟨.returned v, s₂, _, L, X', hL, rfl, rfl, hq', ?_⟩
    show Steps p.tables e below _ ((({ T with heap := s₂.heap, slotsUsed := s₂.slotsUsed } : State).setVm s₂.vm).setTop { g with pc := g.pc + len₂, stack := v.toList ++ g.stack })
    rw [← hs₂]
    exact hsteps
  | threw x =>
    have hf₂ : s₂.frames = .throwing x :: .java g :: T.frames.tail := hend
    have hs₂ : s₂ = ((({ T with heap := s₂.heap, slotsUsed := s₂.slotsUsed } : State).setVm s₂.vm).setTop g).pushFrame (.throwing x) := by
      refine e3.trans ?_
      rw [hf₂, State.calling_eq h.top, State.setFrames_setFrames, State.pushFrame, State.frames_setTop _ hr', State.setTop_of_frames _ hr', State.setFrames_setFrames, hr]
      rfl
    refine ⟨.threw x, s₂, _, L, X', hL, rfl, rfl, hq', ?_⟩
    show Steps p.tables e below _ (((({ T with heap := s₂.heap, slotsUsed := s₂.slotsUsed } : State).setVm s₂.vm).setTop g).pushFrame (.throwing x))
    rw [← hs₂]
    exact hsteps
end GY
/-- what is known of a callee: its code (its head in ws), its words, its room -/
def gx_Call (R : Room) (s : State) (args : Array Value) (y : MethodName) (maxL : Nat) (ws : List Cond) (rm : Room) (mc ms n : Nat) : Prop :=
  rm.cells = mc ∧ rm.slots = ms ∧ rm.frames + 1 ≤ R.frames ∧ 8 + (maxL + 11) + rm.locals ≤ R.locals ∧ (∀ w ∈ ws, ∀ (a' : Array Value) (U : State), s.WarmedH U.vm → w.before a' U = true) ∧
  (∃ (mk : MethodId) (methY : Method) (cY : Code), s.methodNamed? y = some mk ∧ s.vm.method? mk = some methY ∧ methY.code = some cY ∧ cY.maxLocals = maxL ∧ parseMethodDescriptor y.desc = some methY.sig) ∧
  (Cond.initialized y.cls).before args s = true ∧ (y.cls ≠ "java/lang/invoke/MethodHandle" ∧ y.cls ≠ "java/lang/invoke/VarHandle") ∧ (∀ sig, parseMethodDescriptor y.desc = some sig → n = sig.parameters.length)
section GZ
variable {p : Program} {l : Launch} {e : Env} {R : Room} {s : State} {m : MethodId} {args : Array Value} {below : List Frame} {meth : Method} {c : Code} {H : Heap} {locs : List Loc} {cells slots : Nat} {Q : State → Prop}
  {y : MethodName} {cc : ByteArray} {maxL nL mc ms n index : Nat} {ws : List Cond} {rm : Room} {Pc : Array Value → State → Prop} {Qc : Array Value → State → Outcome → State → Prop} {free : Addr → Prop} {own C : String} {b : Addr} {As rest : List Value} {g : JFrame}
theorem gx_runS (hx : p.tables.exec = Jvm.exec) (hb : c.code = cc) (hml : c.maxLocals = nL) (ho : s.vm.findClass own = some m.cls) (hM : gx_Met l y ws rm Pc Qc mc ms free) (cw : gx_Call R s args y maxL ws rm mc ms n) (hl : (Cond.methodLink own index y).before args s = true) (hst : (Cond.static y).before args s = true)
    (hbl : FrameBlind Pc) (hp : ∀ U : State, U.heap = H → s.WarmedH U.vm → Pc As.toArray U)
    (hg : g.method = m) (hn : As.length = n) (hsize : g.locals.size = nL) (hstack : g.stack = As.reverse ++ rest) (hW : 2 * g.monitorRoom + (rest.map fun v => v.category).sum ≤ 8) (hdg : decode cc g.pc = .ok (.invokestatic index, 3)) (hf : cells + mc ≤ R.cells ∧ slots + ms ≤ R.slots) :
    gx_Run p l e R s m args below meth c H locs cells slots mc ms g rest (Qc As.toArray) free := by
  obtain ⟨hrc, hrs, hfr, hlo, hws, ⟨mk, methM, cM, hnamed, hmethM, hcM, hlM, hsigM⟩, hinit, hy, hlen⟩ := cw
  subst hb
  intro T hT X
  have hstatic : methM.isStatic = true := Cond.static_spec hnamed hmethM hst
  obtain ⟨kP, hkP, -⟩ := className_of_methodNamed hnamed
  have hinitP : kP.init = .initialized := Cond.initialized_spec (findClass_of_methodNamed hnamed) hkP hinit
  obtain ⟨vm₁, X₁, hstep₁⟩ := X.invokestatic hx ho hl hnamed hmethM hstatic hkP hinitP hy (g := g) hg (argsL := As) (rest := rest) (hn.trans (hlen _ hsigM)) hstack hdg
  have hini1 : (Cond.initialized y.cls).before As.toArray (T.setVm vm₁) = true := word_at X₁.warmed (Or.inl (by first | rfl | simp [Cond.onTables, Cond.keeps, Cond.steady])) hinit
  obtain ⟨o, t, T', L, X', hL, e1, e2, hq, hs⟩ := gx_back X₁ hM hrc hrs hfr hlo (g := { g with stack := rest }) hg (hsize.trans hml.symm) hdg hW (X₁.named hnamed) (a := As.toArray) (fun w hw => hws w hw _ _ X₁.warmed) hini1
    ⟨methM, cM, by rw [X₁.warmed.alike.method?]; exact hmethM, hcM, hlM⟩ hf.1 hf.2 (hbl _ _ _ _ (hp (T.setVm vm₁) hT X₁.warmed))
  refine ⟨o, _, t, T', L, ?_, ?_, X', hL, e1, e2, hq, ?_⟩
  · exact hT
  · exact X₁.warmed
  · cases o with
    | returned v => exact fun tg h => hstep₁ _ fun acts => by rw [doInvoke_state]; exact Steps.trans hs h
    | threw x => exact fun tg h => hstep₁ _ fun acts => by rw [doInvoke_state]; exact Steps.trans hs h
theorem gx_runV (hx : p.tables.exec = Jvm.exec) (hb : c.code = cc) (hml : c.maxLocals = nL) (ho : s.vm.findClass own = some m.cls) (hM : gx_Met l y ws rm Pc Qc mc ms free) (cw : gx_Call R s args y maxL ws rm mc ms n) (hl : (Cond.methodLink own index y).before args s = true) (hin : (Cond.instanceMethod y).before args s = true) (hse : (Cond.selects C y y).before args s = true)
    (hbl : FrameBlind Pc) (hcell : ∃ cellB : Cell, H[b]? = some cellB ∧ cellB.vm.isStatics = false ∧ s.vm.findClass C = some cellB.cls) (hp : ∀ U : State, U.heap = H → s.WarmedH U.vm → Pc (Value.ref b :: As).toArray U)
    (hg : g.method = m) (hn : As.length = n) (hsize : g.locals.size = nL) (hstack : g.stack = As.reverse ++ .ref b :: rest) (hW : 2 * g.monitorRoom + (rest.map fun v => v.category).sum ≤ 8) (hdg : decode cc g.pc = .ok (.invokevirtual index, 3)) (hf : cells + mc ≤ R.cells ∧ slots + ms ≤ R.slots) :
    gx_Run p l e R s m args below meth c H locs cells slots mc ms g rest (Qc (Value.ref b :: As).toArray) free := by
  obtain ⟨hrc, hrs, hfr, hlo, hws, ⟨mk, methM, cM, hnamed, hmethM, hcM, hlM, hsigM⟩, hinit, hy, hlen⟩ := cw
  obtain ⟨cellB, hcB, hoB, hclB⟩ := hcell
  subst hb
  intro T hT X
  obtain ⟨mk', methM', hnamed', hmethM', hstM, habM⟩ := Cond.instanceMethod_spec hin
  cases hnamed.symm.trans hnamed'
  cases hmethM.symm.trans hmethM'
  obtain ⟨c2, r2, m2, q1, q2, q3, q4, kP, hkP, hkPi⟩ := Cond.selects_spec hse
  cases hclB.symm.trans q1
  cases (State.methodFound?_of_named hnamed hy).symm.trans q2
  cases hnamed.symm.trans q3
  have hselP : selectMethod e.platform s.vm cellB.cls mk = .method mk := by rw [Launch.admits_selectMethod X.admits]; exact q4
  obtain ⟨vm₁, X₁, hstep₁⟩ := X.invokevirtual hx ho hl hnamed hmethM hstM hkP hkPi hy (a := b) (cell := cellB) (by rw [hT]; exact hcB)
    (fun z h => by rw [h] at hoB; cases hoB) hselP hmethM habM hkP hkPi (g := g) hg (argsL := As) (rest := rest) (hn.trans (hlen _ hsigM)) hstack hdg
  have hini1 : (Cond.initialized y.cls).before (Value.ref b :: As).toArray (T.setVm vm₁) = true := word_at X₁.warmed (Or.inl (by first | rfl | simp [Cond.onTables, Cond.keeps, Cond.steady])) hinit
  obtain ⟨o, t, T', L, X', hL, e1, e2, hq, hs⟩ := gx_back X₁ hM hrc hrs hfr hlo (g := { g with stack := rest }) hg (hsize.trans hml.symm) hdg hW (X₁.named hnamed) (a := (Value.ref b :: As).toArray) (fun w hw => hws w hw _ _ X₁.warmed) hini1
    ⟨methM, cM, by rw [X₁.warmed.alike.method?]; exact hmethM, hcM, hlM⟩ hf.1 hf.2 (hbl _ _ _ _ (hp (T.setVm vm₁) hT X₁.warmed))
  refine ⟨o, _, t, T', L, ?_, ?_, X', hL, e1, e2, hq, ?_⟩
  · exact hT
  · exact X₁.warmed
  · cases o with
    | returned v => exact fun tg h => hstep₁ _ fun acts => by rw [doInvoke_state]; exact Steps.trans hs h
    | threw x => exact fun tg h => hstep₁ _ fun acts => by rw [doInvoke_state]; exact Steps.trans hs h
theorem gx_runI (hx : p.tables.exec = Jvm.exec) (hb : c.code = cc) (hml : c.maxLocals = nL) (ho : s.vm.findClass own = some m.cls) (hM : gx_Met l y ws rm Pc Qc mc ms free) (cw : gx_Call R s args y maxL ws rm mc ms n) (hl : (Cond.methodLink own index y).before args s = true) (hin : (Cond.instanceMethod y).before args s = true) (hy1 : y.name = "<init>") {bytes : ByteArray} (hcode : (Cond.code y bytes maxL none).before args s = true)
    (hbl : FrameBlind Pc) (hp : ∀ U : State, U.heap = H → s.WarmedH U.vm → Pc (Value.ref b :: As).toArray U)
    (hg : g.method = m) (hn : As.length = n) (hsize : g.locals.size = nL) (hstack : g.stack = As.reverse ++ .ref b :: rest) (hW : 2 * g.monitorRoom + (rest.map fun v => v.category).sum ≤ 8) (hdg : decode cc g.pc = .ok (.invokespecial index, 3)) (hf : cells + mc ≤ R.cells ∧ slots + ms ≤ R.slots) :
    gx_Run p l e R s m args below meth c H locs cells slots mc ms g rest (Qc (Value.ref b :: As).toArray) free := by
  obtain ⟨hrc, hrs, hfr, hlo, hws, ⟨mk, methM, cM, hnamed, hmethM, hcM, hlM, hsigM⟩, hinit, hy, hlen⟩ := cw
  subst hb
  subst hg
  intro T hT X
  have hpl : e.platform.magicAccessors = ({} : Platform).magicAccessors := by rw [X.admits.platform]
  obtain ⟨mk', methM', cM', kP, vm₁, hnamed', hmethM', hcodeM, -, hlocalsM, -, hkP, -, hW₁, hstep₁⟩ := Steps.initColdArgs (e := e) X.here hx X.warmed hpl ho hy1 hy hl hin hcode (f := g) rfl (fun sig h => hn.trans (hlen sig h)) hstack hdg
  cases hnamed.symm.trans hnamed'
  have X₁ := X.noted hW₁
  have hini1 : (Cond.initialized y.cls).before (Value.ref b :: As).toArray (T.setVm vm₁) = true := word_at X₁.warmed (Or.inl (by first | rfl | simp [Cond.onTables, Cond.keeps, Cond.steady])) hinit
  obtain ⟨o, t, T', L, X', hL, e1, e2, hq, hs⟩ := gx_back X₁ hM hrc hrs hfr hlo (g := { g with stack := rest }) rfl (hsize.trans hml.symm) hdg hW (X₁.named hnamed) (a := (Value.ref b :: As).toArray) (fun w hw => hws w hw _ _ X₁.warmed) hini1
    ⟨methM, cM, by rw [X₁.warmed.alike.method?]; exact hmethM, hcM, hlM⟩ hf.1 hf.2 (hbl _ _ _ _ (hp (T.setVm vm₁) hT X₁.warmed))
  refine ⟨o, _, t, T', L, ?_, ?_, X', hL, e1, e2, hq, ?_⟩
  · exact hT
  · exact X₁.warmed
  · cases o with
    | returned v => exact fun tg h => hstep₁ _ fun acts => by rw [doInvoke_state]; exact Steps.trans hs h
    | threw x => exact fun tg h => hstep₁ _ fun acts => by rw [doInvoke_state]; exact Steps.trans hs h
end GZ
abbrev gh_M : Type := Nat → Option va_E
def gh_up (h : gh_M) (a : Nat) (e : va_E) : gh_M := fun q => if q = a then some e else h q
theorem gh_self (h : gh_M) (a : Nat) (e : va_E) : gh_up h a e a = some e := if_pos rfl
theorem gh_ne {h : gh_M} {a q : Nat} {e : va_E} (hq : q ≠ a) : gh_up h a e q = h q := if_neg hq
theorem gh_uu {h : gh_M} {a : Nat} {e e' : va_E} : gh_up (gh_up h a e) a e' = gh_up h a e' := by
  funext q
  by_cases hq : q = a
  · subst hq; rw [gh_self, gh_self]
  · rw [gh_ne hq, gh_ne hq, gh_ne hq]
theorem gh_id {h : gh_M} {a : Nat} {e : va_E} (h0 : h a = some e) : gh_up h a e = h := by
  funext q
  by_cases hq : q = a
  · subst hq; rw [gh_self, h0]
  · rw [gh_ne hq]
theorem gh_keep {h : gh_M} {a q : Nat} {e e0 x : va_E} (h0 : h a = some e0) (hq : h q = some x) (hne : x ≠ e0) : gh_up h a e q = some x := by
  rw [gh_ne (fun k => ?_)]
  · exact hq
  · subst k
    exact hne (Option.some.inj (hq.symm.trans h0))
theorem gh_keepN {h : gh_M} {a q : Nat} {e x : va_E} (h0 : h a = none) (hq : h q = some x) : gh_up h a e q = some x := by
  rw [gh_ne (fun k => ?_)]
  · exact hq
  · subst k
    rw [h0] at hq
    cases hq
/-- h says just what the list ws says -/
def gh_L (h : gh_M) (ws : va_W) : Prop := ∀ (a : Nat) (x : va_E), h a = some x ↔ ∃ k : Nat, ws[k]? = some (a, x)
theorem gh_L.set {A : Nat → Prop} {h : gh_M} {ws : va_W} {a k : Nat} {x x1 : va_E} (hL : gh_L h ws) (hD : va_D A ws) (hk : ws[k]? = some (a, x)) : gh_L (gh_up h a x1) (ws.set k (a, x1)) := by
  have hlt : k < ws.length := (List.getElem?_eq_some_iff.mp hk).1
  intro b y
  by_cases hb : b = a
  · subst hb
    rw [gh_self]
    constructor
    · intro q
      cases q
      exact ⟨k, by rw [List.getElem?_set_self hlt]⟩
    · rintro ⟨j, hj⟩
      by_cases hjk : k = j
      · subst hjk
        rw [List.getElem?_set_self hlt] at hj
        cases hj
        rfl
      · rw [List.getElem?_set_ne hjk] at hj
        exact absurd (hD.1 k j _ _ hk hj rfl) hjk
  · rw [gh_ne hb, hL b y]
    constructor
    · rintro ⟨j, hj⟩
      have hjk : k ≠ j := by
        intro q
        subst q
        rw [hk] at hj
        cases hj
        exact hb rfl
      exact ⟨j, by rw [List.getElem?_set_ne hjk]; exact hj⟩
    · rintro ⟨j, hj⟩
      by_cases hjk : k = j
      · subst hjk
        rw [List.getElem?_set_self hlt] at hj
        cases hj
        exact absurd rfl hb
      · rw [List.getElem?_set_ne hjk] at hj
        exact ⟨j, hj⟩
theorem gh_L.fresh {A : Nat → Prop} {h : gh_M} {ws : va_W} {a : Nat} {x : va_E} (hL : gh_L h ws) (hD : va_D A (ws ++ [(a, x)])) : h a = none := by
  cases hh : h a with
  | none => rfl
  | some y =>
    obtain ⟨j, hj⟩ := (hL a y).mp hh
    have hlt : j < ws.length := (List.getElem?_eq_some_iff.mp hj).1
    have e1 := hD.1 j ws.length (a, y) (a, x) (by rw [List.getElem?_append_left hlt]; exact hj) (by rw [List.getElem?_append_right (Nat.le_refl _), Nat.sub_self]; rfl) rfl
    omega
theorem gh_L.push {A : Nat → Prop} {h : gh_M} {ws : va_W} {a : Nat} {x : va_E} (hL : gh_L h ws) (hD : va_D A (ws ++ [(a, x)])) : gh_L (gh_up h a x) (ws ++ [(a, x)]) := by
  have hf := hL.fresh hD
  intro b y
  by_cases hb : b = a
  · subst hb
    rw [gh_self]
    constructor
    · intro q
      cases q
      exact ⟨ws.length, by rw [List.getElem?_append_right (Nat.le_refl _), Nat.sub_self]; rfl⟩
    · rintro ⟨j, hj⟩
      by_cases hlt : j < ws.length
      · rw [List.getElem?_append_left hlt] at hj
        have := (hL b y).mpr ⟨j, hj⟩
        rw [hf] at this
        cases this
      · rw [List.getElem?_append_right (by omega)] at hj
        have hz : j - ws.length < 1 := (List.getElem?_eq_some_iff.mp hj).1
        rw [show j - ws.length = 0 by omega] at hj
        cases hj
        rfl
  · rw [gh_ne hb, hL b y]
    constructor
    · rintro ⟨j, hj⟩
      exact ⟨j, by rw [List.getElem?_append_left (List.getElem?_eq_some_iff.mp hj).1]; exact hj⟩
    · rintro ⟨j, hj⟩
      by_cases hlt : j < ws.length
      · rw [List.getElem?_append_left hlt] at hj
        exact ⟨j, hj⟩
      · rw [List.getElem?_append_right (by omega)] at hj
        have hz : j - ws.length < 1 := (List.getElem?_eq_some_iff.mp hj).1
        rw [show j - ws.length = 0 by omega] at hj
        cases hj
        exact absurd rfl hb
/-- the heap H holds what h says, all of it from b0 on; below b0 it is as H0 was; what was written lies from b0 on -/
def gh_P (D : va_G) (cl : List vw_C) (b0 : Nat) (h : gh_M) (H0 H : Heap) (locs : List Loc) : Prop :=
  ∃ ws : va_W, gh_L h ws ∧ va_P D cl ws H ∧ va_D (fun q => b0 ≤ q) ws ∧ va_S (fun q => b0 ≤ q) H0 H locs ∧ b0 ≤ H0.size
section GH
variable {p : Program} {l : Launch} {e : Env} {R : Room} {s : State} {m : MethodId} {args : Array Value} {below : List Frame} {meth : Method} {c : Code} {H : Heap} {locs : List Loc} {cells slots : Nat} {Q : State → Prop}
  {D : va_G} {cl : List vw_C} {tys : List (ClassId × FieldType)} {b0 : Nat} {h : gh_M} {cc : ByteArray} {pc : Nat} {ls : Array Slot} {rest : List Value} {H0 : Heap}
theorem gh_get (hexec : p.tables.exec = Jvm.exec) (hb : c.code = cc) {own ref C : String} {T : u_T} {N ci index : Nat} {Ts : List Cond} (hts : ∀ w ∈ Ts, w.before args s = true) (hin : ∀ w ∈ u_ws C T N, w ∈ Ts) (hown : s.vm.findClass own = some m.cls) (hK : va_K D cl tys s) (hG : gh_P D cl b0 h H0 H locs) {a : Nat} {fs : List Value} (he : h a = some (.inr (ci, fs))) (hc : cl[ci]? = some (C, T, N)) (k : Nat) (hk : k < N)
    (hlink : (Cond.fieldLink own index ref (T k).2.1 (T k).2.2.1).before args s = true) (hsame : ∀ x, s.fieldFound? (T k).1 (T k).2.1 (T k).2.2.1 = some x → s.fieldFound? ref (T k).2.1 (T k).2.2.1 = some x) {v : Value} (hv : fs[k]? = some v) (hdg : decode cc pc = .ok (.getfield index, 3))
    (kk : W p l e R s m args below meth c H locs cells slots Q (F0 m (pc + 3) ls (v :: rest))) : W p l e R s m args below meth c H locs cells slots Q (F0 m pc ls (.ref a :: rest)) := by
  obtain ⟨ws, hL, hP, -⟩ := hG
  obtain ⟨k0, hk0⟩ := (hL a _).mp he
  exact va_get hexec hb hts hin hown hK hP k0 hk0 hc k hk hlink hsame hv hdg kk
theorem gh_getN (hexec : p.tables.exec = Jvm.exec) (hb : c.code = cc) {own ref C host : String} {T : u_T} {N ci index : Nat} {Ts : List Cond} (hts : ∀ w ∈ Ts, w.before args s = true) (hin : ∀ w ∈ u_ws C T N, w ∈ Ts) (hown : s.vm.findClass own = some m.cls) (hK : va_K D cl tys s) (hG : gh_P D cl b0 h H0 H locs) {a : Nat} {fs : List Value} (he : h a = some (.inr (ci, fs))) (hc : cl[ci]? = some (C, T, N)) (k : Nat) (hk : k < N)
    (hlink : (Cond.fieldLinkNest own index ref (T k).2.1 (T k).2.2.1 host).before args s = true) (hsame : ∀ x, s.fieldFound? (T k).1 (T k).2.1 (T k).2.2.1 = some x → s.fieldFound? ref (T k).2.1 (T k).2.2.1 = some x) {v : Value} (hv : fs[k]? = some v) (hdg : decode cc pc = .ok (.getfield index, 3))
    (kk : W p l e R s m args below meth c H locs cells slots Q (F0 m (pc + 3) ls (v :: rest))) : W p l e R s m args below meth c H locs cells slots Q (F0 m pc ls (.ref a :: rest)) := by
  obtain ⟨ws, hL, hP, -⟩ := hG
  obtain ⟨k0, hk0⟩ := (hL a _).mp he
  exact va_getN hexec hb hts hin hown hK hP k0 hk0 hc k hk hlink hsame hv hdg kk
theorem gh_put (hexec : p.tables.exec = Jvm.exec) (hb : c.code = cc) {own ref C : String} {T : u_T} {N ci index : Nat} {Ts : List Cond} (hts : ∀ w ∈ Ts, w.before args s = true) (hin : ∀ w ∈ u_ws C T N, w ∈ Ts) (ty0 : Nat → FieldType) (hty : ∀ k, k < N → parseFieldDescriptor (T k).2.2.1 = some (ty0 k)) (hnm : ∀ a, a < N → ∀ b, b < N → a ≠ b → (T a).2.1 ≠ (T b).2.1) (hown : s.vm.findClass own = some m.cls) (hK : va_K D cl tys s) (hG : gh_P D cl b0 h H0 H locs) {a : Nat} {fs : List Value} (he : h a = some (.inr (ci, fs))) (hc : cl[ci]? = some (C, T, N)) (k : Nat) (hk : k < N)
    (hlink : (Cond.fieldLink own index ref (T k).2.1 (T k).2.2.1).before args s = true) (hsame : ∀ x, s.fieldFound? (T k).1 (T k).2.1 (T k).2.2.1 = some x → s.fieldFound? ref (T k).2.1 (T k).2.2.1 = some x) (hfin : (T k).2.2.2 = false) {ty : FieldType} {v : Value} (hd : parseFieldDescriptor (T k).2.2.1 = some ty) (hn : narrow ty v = v) (hfit : fits ty v = true) (hl : k < fs.length)
    (hdg : decode cc pc = .ok (.putfield index, 3)) (kk : ∀ (H1 : Heap) (locs1 : List Loc), gh_P D cl b0 (gh_up h a (.inr (ci, fs.set k v))) H0 H1 locs1 → W p l e R s m args below meth c H1 locs1 cells slots Q (F0 m (pc + 3) ls rest)) : W p l e R s m args below meth c H locs cells slots Q (F0 m pc ls (v :: .ref a :: rest)) := by
  obtain ⟨ws, hL, hP, hD, hS, hb0⟩ := hG
  obtain ⟨k0, hk0⟩ := (hL a _).mp he
  exact va_put hexec hb hts hin ty0 hty hnm hown hK hP hD hS k0 hk0 hc k hk hlink hsame hfin hd hn hfit hl hdg (fun H1 locs1 hP1 hD1 hS1 => kk H1 locs1 ⟨_, hL.set hD hk0, hP1, hD1, hS1, hb0⟩)
theorem gh_putF (hexec : p.tables.exec = Jvm.exec) (hb : c.code = cc) {own ref C : String} {T : u_T} {N ci index : Nat} {Ts : List Cond} (hts : ∀ w ∈ Ts, w.before args s = true) (hin : ∀ w ∈ u_ws C T N, w ∈ Ts) (ty0 : Nat → FieldType) (hty : ∀ k, k < N → parseFieldDescriptor (T k).2.2.1 = some (ty0 k)) (hnm : ∀ a, a < N → ∀ b, b < N → a ≠ b → (T a).2.1 ≠ (T b).2.1) (hown : s.vm.findClass own = some m.cls) (hK : va_K D cl tys s) (hG : gh_P D cl b0 h H0 H locs) {a : Nat} {fs : List Value} (he : h a = some (.inr (ci, fs))) (hc : cl[ci]? = some (C, T, N)) (k : Nat) (hk : k < N)
    (hlink : (Cond.fieldLink own index ref (T k).2.1 (T k).2.2.1).before args s = true) (hsame : ∀ x, s.fieldFound? (T k).1 (T k).2.1 (T k).2.2.1 = some x → s.fieldFound? ref (T k).2.1 (T k).2.2.1 = some x) (hfin : (T k).2.2.2 = true) (hin2 : meth.name = "<init>") (hdecl : (T k).1 = own) {ty : FieldType} {v : Value} (hd : parseFieldDescriptor (T k).2.2.1 = some ty) (hn : narrow ty v = v) (hfit : fits ty v = true) (hl : k < fs.length)
    (hdg : decode cc pc = .ok (.putfield index, 3)) (kk : ∀ (H1 : Heap) (locs1 : List Loc), gh_P D cl b0 (gh_up h a (.inr (ci, fs.set k v))) H0 H1 locs1 → W p l e R s m args below meth c H1 locs1 cells slots Q (F0 m (pc + 3) ls rest)) : W p l e R s m args below meth c H locs cells slots Q (F0 m pc ls (v :: .ref a :: rest)) := by
  obtain ⟨ws, hL, hP, hD, hS, hb0⟩ := hG
  obtain ⟨k0, hk0⟩ := (hL a _).mp he
  exact va_putF hexec hb hts hin ty0 hty hnm hown hK hP hD hS k0 hk0 hc k hk hlink hsame hfin hin2 hdecl hd hn hfit hl hdg (fun H1 locs1 hP1 hD1 hS1 => kk H1 locs1 ⟨_, hL.set hD hk0, hP1, hD1, hS1, hb0⟩)
theorem gh_iald (hexec : p.tables.exec = Jvm.exec) (hb : c.code = cc) (hK : va_K D cl tys s) (hG : gh_P D cl b0 h H0 H locs) (t0 : Nat) {a : Nat} {cA : ClassId} {n : Nat} {f : Nat → Int32} (ha : h a = some (.inl (cA, n, .inl f))) (ht : tys[t0]? = some (cA, .int)) {i : Int32} {v : Int32} (hin : vp_in i n) (hv : f i.toNatClampNeg = v) (hdg : decode cc pc = .ok (.iaload, 1))
    (kk : W p l e R s m args below meth c H locs cells slots Q (F0 m (pc + 1) ls (.int v :: rest))) : W p l e R s m args below meth c H locs cells slots Q (F0 m pc ls (.int i :: .ref a :: rest)) := by
  obtain ⟨ws, hL, hP, -⟩ := hG
  obtain ⟨k0, hk0⟩ := (hL a _).mp ha
  refine va_iald hexec hb hK hP k0 t0 hk0 ht hin hdg ?_
  rw [hv]
  exact kk
theorem gh_lald (hexec : p.tables.exec = Jvm.exec) (hb : c.code = cc) (hK : va_K D cl tys s) (hG : gh_P D cl b0 h H0 H locs) (t0 : Nat) {a : Nat} {cA : ClassId} {n : Nat} {f : Nat → Int64} (ha : h a = some (.inl (cA, n, .inr (.inl f)))) (ht : tys[t0]? = some (cA, .long)) {i : Int32} {v : Int64} (hin : vp_in i n) (hv : f i.toNatClampNeg = v) (hdg : decode cc pc = .ok (.laload, 1))
    (kk : W p l e R s m args below meth c H locs cells slots Q (F0 m (pc + 1) ls (.long v :: rest))) : W p l e R s m args below meth c H locs cells slots Q (F0 m pc ls (.int i :: .ref a :: rest)) := by
  obtain ⟨ws, hL, hP, -⟩ := hG
  obtain ⟨k0, hk0⟩ := (hL a _).mp ha
  refine va_lald hexec hb hK hP k0 t0 hk0 ht hin hdg ?_
  rw [hv]
  exact kk
theorem gh_aald (hexec : p.tables.exec = Jvm.exec) (hb : c.code = cc) (hK : va_K D cl tys s) (hG : gh_P D cl b0 h H0 H locs) (t0 : Nat) {a : Nat} {cA : ClassId} {C : String} {n : Nat} {f : Nat → Option Nat} (ha : h a = some (.inl (cA, n, .inr (.inr (.inr (.inr f)))))) (ht : tys[t0]? = some (cA, .object C)) {i : Int32} {v : Nat} (hin : vp_in i n) (hv : f i.toNatClampNeg = some v) (hdg : decode cc pc = .ok (.aaload, 1))
    (kk : W p l e R s m args below meth c H locs cells slots Q (F0 m (pc + 1) ls (.ref v :: rest))) : W p l e R s m args below meth c H locs cells slots Q (F0 m pc ls (.int i :: .ref a :: rest)) := by
  obtain ⟨ws, hL, hP, -⟩ := hG
  obtain ⟨k0, hk0⟩ := (hL a _).mp ha
  refine va_aldq hexec hb hK hP k0 t0 hk0 ht hin hdg ?_
  rw [hv]
  exact kk
theorem gh_iast (hexec : p.tables.exec = Jvm.exec) (hb : c.code = cc) (hK : va_K D cl tys s) (hG : gh_P D cl b0 h H0 H locs) (t0 : Nat) {a : Nat} {cA : ClassId} {n : Nat} {f : Nat → Int32} (ha : h a = some (.inl (cA, n, .inl f))) (ht : tys[t0]? = some (cA, .int)) {i : Int32} {x : Int32} (hin : vp_in i n) (hdg : decode cc pc = .ok (.iastore, 1))
    (kk : ∀ (H1 : Heap) (locs1 : List Loc), gh_P D cl b0 (gh_up h a (.inl (cA, n, .inl (upd f i.toNatClampNeg x)))) H0 H1 locs1 → W p l e R s m args below meth c H1 locs1 cells slots Q (F0 m (pc + 1) ls rest)) : W p l e R s m args below meth c H locs cells slots Q (F0 m pc ls (.int x :: .int i :: .ref a :: rest)) := by
  obtain ⟨ws, hL, hP, hD, hS, hb0⟩ := hG
  obtain ⟨k0, hk0⟩ := (hL a _).mp ha
  exact va_iast hexec hb hK hP hD hS k0 t0 hk0 ht hin hdg (fun H1 locs1 hP1 hD1 hS1 => kk H1 locs1 ⟨_, hL.set hD hk0, hP1, hD1, hS1, hb0⟩)
theorem gh_last (hexec : p.tables.exec = Jvm.exec) (hb : c.code = cc) (hK : va_K D cl tys s) (hG : gh_P D cl b0 h H0 H locs) (t0 : Nat) {a : Nat} {cA : ClassId} {n : Nat} {f : Nat → Int64} (ha : h a = some (.inl (cA, n, .inr (.inl f)))) (ht : tys[t0]? = some (cA, .long)) {i : Int32} {x : Int64} (hin : vp_in i n) (hdg : decode cc pc = .ok (.lastore, 1))
    (kk : ∀ (H1 : Heap) (locs1 : List Loc), gh_P D cl b0 (gh_up h a (.inl (cA, n, .inr (.inl (vp_updL f i.toNatClampNeg x))))) H0 H1 locs1 → W p l e R s m args below meth c H1 locs1 cells slots Q (F0 m (pc + 1) ls rest)) : W p l e R s m args below meth c H locs cells slots Q (F0 m pc ls (.long x :: .int i :: .ref a :: rest)) := by
  obtain ⟨ws, hL, hP, hD, hS, hb0⟩ := hG
  obtain ⟨k0, hk0⟩ := (hL a _).mp ha
  exact va_last hexec hb hK hP hD hS k0 t0 hk0 ht hin hdg (fun H1 locs1 hP1 hD1 hS1 => kk H1 locs1 ⟨_, hL.set hD hk0, hP1, hD1, hS1, hb0⟩)
theorem gh_aast (hexec : p.tables.exec = Jvm.exec) (hb : c.code = cc) (hK : va_K D cl tys s) (hG : gh_P D cl b0 h H0 H locs) (t0 ci : Nat) {a v n : Nat} {cA : ClassId} {r : vw_C} {vs : List Value} {f : Nat → Option Nat} (ha : h a = some (.inl (cA, n, .inr (.inr (.inr (.inr f)))))) (ht : tys[t0]? = some (cA, .object r.1)) (hv : h v = some (.inr (ci, vs))) (hc : cl[ci]? = some r) {i : Int32} (hin : vp_in i n) (hdg : decode cc pc = .ok (.aastore, 1))
    (kk : ∀ (H1 : Heap) (locs1 : List Loc), gh_P D cl b0 (gh_up h a (.inl (cA, n, .inr (.inr (.inr (.inr (va_up f i.toNatClampNeg (some v)))))))) H0 H1 locs1 → W p l e R s m args below meth c H1 locs1 cells slots Q (F0 m (pc + 1) ls rest)) : W p l e R s m args below meth c H locs cells slots Q (F0 m pc ls (.ref v :: .int i :: .ref a :: rest)) := by
  obtain ⟨ws, hL, hP, hD, hS, hb0⟩ := hG
  obtain ⟨k0, hk0⟩ := (hL a _).mp ha
  obtain ⟨k1, hk1⟩ := (hL v _).mp hv
  exact va_astq hexec hb hK hP hD hS k0 t0 k1 ci hk0 ht hk1 hc hin hdg (fun H1 locs1 hP1 hD1 hS1 => kk H1 locs1 ⟨_, hL.set hD hk0, hP1, hD1, hS1, hb0⟩)
theorem gh_new (hexec : p.tables.exec = Jvm.exec) (hb : c.code = cc) {own C : String} {T : u_T} {N ci index : Nat} {Ts : List Cond} (hts : ∀ w ∈ Ts, w.before args s = true) (hin : ∀ w ∈ u_ws C T N, w ∈ Ts) (ty : Nat → FieldType) (hty : ∀ k, k < N → parseFieldDescriptor (T k).2.2.1 = some (ty k)) (hown : s.vm.findClass own = some m.cls) (hcl : (Cond.classLink own index C).before args s = true) (hinst : (Cond.instantiable C N).before args s = true) (hini : (Cond.initialized C).before args s = true)
    (hK : va_K D cl tys s) (hG : gh_P D cl b0 h H0 H locs) (hc : cl[ci]? = some (C, T, N)) {fs : List Value} (hfs : ∀ j, j < N → defaultValue (ty j) = vp_V fs j) (hcells : cells + 1 ≤ R.cells) (hslots : slots + N ≤ R.slots) (hdg : decode cc pc = .ok (.new index, 3))
    (kk : ∀ (q : Nat) (H1 : Heap), h q = none → gh_P D cl b0 (gh_up h q (.inr (ci, fs))) H0 H1 locs → W p l e R s m args below meth c H1 locs (cells + 1) (slots + N) Q (F0 m (pc + 3) ls (.ref q :: rest))) : W p l e R s m args below meth c H locs cells slots Q (F0 m pc ls rest) := by
  obtain ⟨ws, hL, hP, hD, hS, hb0⟩ := hG
  exact va_new hexec hb hts hin ty hty hown hcl hinst hini hK hP hD hS (fun q hq => Nat.le_trans hb0 hq) hc hfs hcells hslots hdg (fun q H1 hP1 hD1 hS1 => kk q H1 (hL.fresh hD1) ⟨_, hL.push hD1, hP1, hD1, hS1, hb0⟩)
/-- the class of an array type is one -/
theorem gh_cA {tys : List (ClassId × FieldType)} (hK : va_K D cl tys s) {t0 t1 : Nat} {cA cB : ClassId} {ty : FieldType} (h0 : tys[t0]? = some (cA, ty)) (h1 : tys[t1]? = some (cB, ty)) : cA = cB := by
  have a := (hK.2 t0 _ h0).2
  have b := (hK.2 t1 _ h1).2
  cases ty with
  | object C =>
    obtain ⟨_, _, -, -, -, a4⟩ := a
    obtain ⟨_, _, -, -, -, b4⟩ := b
    exact Option.some.inj (a4.symm.trans b4)
  | _ => exact Option.some.inj (a.symm.trans b)
theorem gh_newa (hexec : p.tables.exec = Jvm.exec) (hb : c.code = cc) {atype : ArrayType} (harr : (Cond.arrayClass (newarray.typeOf atype)).before args s = true) {ty : FieldType} (hty : newarray.typeOf atype = ty) (hK : va_K D cl tys s) (hG : gh_P D cl b0 h H0 H locs) (t0 : Nat) {cA : ClassId} (ht : tys[t0]? = some (cA, ty))
    {n : Int32} {N' : Nat} {a0 : vp_A} (ha : ∀ cA : ClassId, vp_cell cA a0 = arrV cA N' (fun _ => defaultValue ty)) (hn : ¬ n < 0) (hN : n.toNatClampNeg = N') (hbytes : N' * componentBytes ty ≤ 536870912) (hcells : cells + 1 ≤ R.cells) (hslots : slots + N' ≤ R.slots) (hdg : decode cc pc = .ok (.newarray atype, 2))
    (kk : ∀ (q : Nat) (H1 : Heap), h q = none → gh_P D cl b0 (gh_up h q (.inl (cA, a0))) H0 H1 locs →
      W p l e R s m args below meth c H1 locs (cells + 1) (slots + N') Q (F0 m (pc + 2) ls (.ref q :: rest))) : W p l e R s m args below meth c H locs cells slots Q (F0 m pc ls (.int n :: rest)) := by
  obtain ⟨ws, hL, hP, hD, hS, hb0⟩ := hG
  refine va_newa hexec hb harr hty hK hP hD hS (fun q hq => Nat.le_trans hb0 hq) ha hn hN hbytes hcells hslots hdg (fun q cA' H1 hK1 hP1 hD1 hS1 => ?_)
  have he : cA = cA' := gh_cA hK1 (t0 := t0) (t1 := tys.length) (by rw [List.getElem?_append_left (List.getElem?_eq_some_iff.mp ht).1]; exact ht) (by rw [List.getElem?_append_right (Nat.le_refl _), Nat.sub_self]; rfl)
  subst he
  exact kk q H1 (hL.fresh hD1) ⟨_, hL.push hD1, hP1, hD1, hS1, hb0⟩
theorem gh_newq (hexec : p.tables.exec = Jvm.exec) (hb : c.code = cc) {own C : String} {index : Nat} (hown : s.vm.findClass own = some m.cls) (hclink : (Cond.classLink own index C).before args s = true) (hover : va_AO C s) (hK : va_K D cl tys s) (hG : gh_P D cl b0 h H0 H locs) (t0 : Nat) {cA : ClassId} (ht : tys[t0]? = some (cA, .object C))
    {n : Int32} {N' : Nat} (hn : ¬ n < 0) (hN : n.toNatClampNeg = N') (hbytes : N' * 4 ≤ 536870912) (hcells : cells + 1 ≤ R.cells) (hslots : slots + N' ≤ R.slots) (hdg : decode cc pc = .ok (.anewarray index, 3))
    (kk : ∀ (q : Nat) (H1 : Heap), h q = none → gh_P D cl b0 (gh_up h q (.inl (cA, N', .inr (.inr (.inr (.inr (fun _ => none))))))) H0 H1 locs →
      W p l e R s m args below meth c H1 locs (cells + 1) (slots + N') Q (F0 m (pc + 3) ls (.ref q :: rest))) : W p l e R s m args below meth c H locs cells slots Q (F0 m pc ls (.int n :: rest)) := by
  obtain ⟨ws, hL, hP, hD, hS, hb0⟩ := hG
  refine va_newq hexec hb hown hclink hover hK hP hD hS (fun q hq => Nat.le_trans hb0 hq) hn hN hbytes hcells hslots hdg (fun q cA' H1 hK1 hP1 hD1 hS1 => ?_)
  have he : cA = cA' := gh_cA hK1 (t0 := t0) (t1 := tys.length) (by rw [List.getElem?_append_left (List.getElem?_eq_some_iff.mp ht).1]; exact ht) (by rw [List.getElem?_append_right (Nat.le_refl _), Nat.sub_self]; rfl)
  subst he
  exact kk q H1 (hL.fresh hD1) ⟨_, hL.push hD1, hP1, hD1, hS1, hb0⟩
/-- the receiver of a call -/
theorem gh_recv (hK : va_K D cl tys s) (hG : gh_P D cl b0 h H0 H locs) {a ci : Nat} {q : vw_C} {fs : List Value} (hc : cl[ci]? = some q) (he : h a = some (.inr (ci, fs))) : ∃ cell : Cell, H[a]? = some cell ∧ cell.vm.isStatics = false ∧ s.vm.findClass q.1 = some cell.cls := by
  obtain ⟨ws, hL, hP, -⟩ := hG
  obtain ⟨k0, hk0⟩ := (hL a _).mp he
  exact va_recv hK hP hc hk0
end GH
/-- what an invocation begins with, of the world h -/
def gh_Pc (D : va_G) (cl : List vw_C) (tys : List (ClassId × FieldType)) (XF : State → Prop) (b0 : Nat) (av : List Value) (h : gh_M) : Array Value → State → Prop :=
  va_Pc av (fun U => gh_P D cl b0 h U.heap U.heap [] ∧ va_K D cl tys U ∧ XF U)
/-- what it ends with -/
def gh_Qc (D : va_G) (cl : List vw_C) (b0 : Nat) (post : Outcome → gh_M → Prop) : Array Value → State → Outcome → State → Prop :=
  fun _ st oc t => ∃ h' : gh_M, post oc h' ∧ gh_P D cl b0 h' st.heap t.heap []
/-- a fact that lives in the tables and in the old heap -/
def gh_X (b0 : Nat) (XF : State → Prop) : Prop := ∀ U V : State, U.WarmedH V.vm → b0 ≤ U.heap.size → (∀ q : Nat, q < b0 → V.heap[q]? = U.heap[q]?) → XF U → XF V
def gh_C (l : Launch) (D : va_G) (cl : List vw_C) (tys : List (ClassId × FieldType)) (XF : State → Prop) (b0 : Nat) (y : MethodName) (ws : List Cond) (rm : Room) (av : List Value) (h : gh_M) (post : Outcome → gh_M → Prop) : Prop :=
  gx_Met l y ws rm (gh_Pc D cl tys XF b0 av h) (gh_Qc D cl b0 post) rm.cells rm.slots (fun q => b0 ≤ q)
section GI
variable {p : Program} {l : Launch} {e : Env} {R : Room} {s : State} {m : MethodId} {args : Array Value} {below : List Frame} {meth : Method} {c : Code} {H : Heap} {locs : List Loc} {cells slots : Nat} {Q : State → Prop}
  {D : va_G} {cl : List vw_C} {tys : List (ClassId × FieldType)} {XF : State → Prop} {b0 : Nat} {h : gh_M} {cc : ByteArray} {pc : Nat} {ls : Array Slot} {rest : List Value} {H0 : Heap}
theorem gh_P.start (hG : gh_P D cl b0 h H0 H locs) : gh_P D cl b0 h H H [] := by
  obtain ⟨ws, hL, hP, hD, hS, hb0⟩ := hG
  exact ⟨ws, hL, hP, hD, va_S.rf, Nat.le_trans hb0 hS.1⟩
theorem gh_P.size0 (hG : gh_P D cl b0 h H0 H locs) : b0 ≤ H0.size := by
  obtain ⟨ws, hL, hP, hD, hS, hb0⟩ := hG
  exact hb0
theorem gh_P.size (hG : gh_P D cl b0 h H0 H locs) : b0 ≤ H.size := by
  obtain ⟨ws, hL, hP, hD, hS, hb0⟩ := hG
  exact Nat.le_trans hb0 hS.1
theorem gh_P.old (hG : gh_P D cl b0 h H0 H locs) : ∀ q : Nat, q < b0 → H[q]? = H0[q]? := by
  obtain ⟨ws, hL, hP, hD, hS, hb0⟩ := hG
  exact fun q hq => hS.2.1 q (Nat.lt_of_lt_of_le hq hb0) (by omega)
theorem gh_P.wr (hG : gh_P D cl b0 h H0 H locs) : ∀ x ∈ locs, b0 ≤ x.base := by
  obtain ⟨ws, hL, hP, hD, hS, hb0⟩ := hG
  exact hS.2.2
theorem gh_P.low (hG : gh_P D cl b0 h H0 H locs) {a : Nat} {x : va_E} (ha : h a = some x) : b0 ≤ a := by
  obtain ⟨ws, hL, hP, hD, hS, hb0⟩ := hG
  obtain ⟨k, hk⟩ := (hL a x).mp ha
  exact hD.2 k _ hk
theorem gh_P.then {h1 : gh_M} {H1 : Heap} {L : List Loc} (hG : gh_P D cl b0 h H0 H locs) (hG1 : gh_P D cl b0 h1 H H1 []) (hL : ∀ q ∈ L, b0 ≤ q.base) : gh_P D cl b0 h1 H0 H1 (locs ++ L) := by
  obtain ⟨ws, -, -, -, hS, hb0⟩ := hG
  obtain ⟨ws1, hL1, hP1, hD1, hS1, hb1⟩ := hG1
  refine ⟨ws1, hL1, hP1, hD1, ⟨Nat.le_trans hS.1 hS1.1, fun q hq hn => (hS1.2.1 q (Nat.lt_of_lt_of_le hq hS.1) hn).trans (hS.2.1 q hq hn), fun x hx => ?_⟩, hb0⟩
  rcases List.mem_append.mp hx with h1 | h1
  · exact hS.2.2 x h1
  · exact hL x h1
theorem gh_P.ends (hG : gh_P D cl b0 h H0 H locs) : gh_P D cl b0 h H0 H [] := by
  obtain ⟨ws, hL, hP, hD, hS, hb0⟩ := hG
  exact ⟨ws, hL, hP, hD, ⟨hS.1, hS.2.1, fun _ h => absurd h List.not_mem_nil⟩, hb0⟩
theorem gh_blind {av : List Value} (hXF : gh_X b0 XF) : FrameBlind (gh_Pc D cl tys XF b0 av h) := by
  intro a U g mk q
  obtain ⟨q0, qG, qK, qX⟩ := q
  exact ⟨q0, qG, va_K.moved (u := U) (U := U.calling g mk a) (Vm.Alike.refl U.vm) qK, hXF U (U.calling g mk a) (State.WarmedH.refl U) qG.size (fun _ _ => rfl) qX⟩
theorem gh_pre {av : List Value} (hXF : gh_X b0 XF) (hG : gh_P D cl b0 h s.heap H locs) (hK : va_K D cl tys s) (hX : XF s) : ∀ U : State, U.heap = H → s.WarmedH U.vm → gh_Pc D cl tys XF b0 av h av.toArray U := by
  intro U hU hW
  exact ⟨rfl, by rw [hU]; exact hG.start, va_K.moved hW.alike hK, hXF s U hW hG.size0 (by rw [hU]; exact hG.old) hX⟩
theorem gh_go {mc ms : Nat} {st0 : List Value} {post : Outcome → gh_M → Prop} {a : Array Value} (hr : gx_Run p l e R s m args below meth c H locs cells slots mc ms (F0 m pc ls st0) rest (gh_Qc D cl b0 post a) (fun q => b0 ≤ q)) (hG : gh_P D cl b0 h s.heap H locs)
    (kr : ∀ (v : Option Value) (h' : gh_M) (H' : Heap) (locs' : List Loc), post (.returned v) h' → gh_P D cl b0 h' s.heap H' locs' → W p l e R s m args below meth c H' locs' (cells + mc) (slots + ms) Q (F0 m (pc + 3) ls (v.toList ++ rest)))
    (kt : ∀ (x : Addr) (h' : gh_M) (H' : Heap) (locs' : List Loc), post (.threw x) h' → gh_P D cl b0 h' s.heap H' locs' → gx_WT p l e R s m args below meth c H' locs' (cells + mc) (slots + ms) Q (F0 m pc ls rest) x) : W p l e R s m args below meth c H locs cells slots Q (F0 m pc ls st0) := by
  intro T hT X
  obtain ⟨o, st₀, t, T', L, e0, hW0, X', hL, e1, e2, ⟨h', hp, hG'⟩, st⟩ := hr T hT X
  rw [e0] at hG'
  have hG2 := hG.then hG' hL
  cases o with
  | returned v =>
    obtain ⟨t2, a1, b1⟩ := kr v h' t.heap (locs ++ L) hp hG2 T' e1 X'
    exact ⟨t2, st t2 a1, b1⟩
  | threw x =>
    obtain ⟨t2, a1, b1⟩ := kt x h' t.heap (locs ++ L) hp hG2 T' e1 X'
    exact ⟨t2, st t2 a1, b1⟩
/-- invokestatic by contract -/
theorem gh_cS {y : MethodName} {maxL nL n index : Nat} {ws : List Cond} {rm : Room} {own : String} {As st0 : List Value} {post : Outcome → gh_M → Prop} (hXF : gh_X b0 XF) (hx : p.tables.exec = Jvm.exec) (hb : c.code = cc) (hml : c.maxLocals = nL) (ho : s.vm.findClass own = some m.cls) (hK : va_K D cl tys s) (hX : XF s) (hG : gh_P D cl b0 h s.heap H locs)
    (hC : gh_C l D cl tys XF b0 y ws rm As h post) (cw : gx_Call R s args y maxL ws rm rm.cells rm.slots n) (hl : (Cond.methodLink own index y).before args s = true) (hst : (Cond.static y).before args s = true) (hn : As.length = n) (hsize : ls.size = nL) (hs0 : st0 = As.reverse ++ rest) (hW : (rest.map fun v => v.category).sum ≤ 8) (hdg : decode cc pc = .ok (.invokestatic index, 3)) (hf : cells + rm.cells ≤ R.cells ∧ slots + rm.slots ≤ R.slots)
    (kr : ∀ (v : Option Value) (h' : gh_M) (H' : Heap) (locs' : List Loc), post (.returned v) h' → gh_P D cl b0 h' s.heap H' locs' → W p l e R s m args below meth c H' locs' (cells + rm.cells) (slots + rm.slots) Q (F0 m (pc + 3) ls (v.toList ++ rest)))
    (kt : ∀ (x : Addr) (h' : gh_M) (H' : Heap) (locs' : List Loc), post (.threw x) h' → gh_P D cl b0 h' s.heap H' locs' → gx_WT p l e R s m args below meth c H' locs' (cells + rm.cells) (slots + rm.slots) Q (F0 m pc ls rest) x) : W p l e R s m args below meth c H locs cells slots Q (F0 m pc ls st0) :=
  gh_go (gx_runS hx hb hml ho hC cw hl hst (gh_blind hXF) (gh_pre hXF hG hK hX) rfl hn hsize hs0 (lv_room hW) hdg hf) hG kr kt
/-- invokevirtual by contract -/
theorem gh_cV {y : MethodName} {maxL nL n index ci b : Nat} {ws : List Cond} {rm : Room} {own : String} {q : vw_C} {fs : List Value} {As st0 : List Value} {post : Outcome → gh_M → Prop} (hXF : gh_X b0 XF) (hx : p.tables.exec = Jvm.exec) (hb : c.code = cc) (hml : c.maxLocals = nL) (ho : s.vm.findClass own = some m.cls) (hK : va_K D cl tys s) (hX : XF s) (hG : gh_P D cl b0 h s.heap H locs) (hc : cl[ci]? = some q) (he : h b = some (.inr (ci, fs)))
    (hC : gh_C l D cl tys XF b0 y ws rm (.ref b :: As) h post) (cw : gx_Call R s args y maxL ws rm rm.cells rm.slots n) (hl : (Cond.methodLink own index y).before args s = true) (hin : (Cond.instanceMethod y).before args s = true) (hse : (Cond.selects q.1 y y).before args s = true) (hn : As.length = n) (hsize : ls.size = nL) (hs0 : st0 = As.reverse ++ .ref b :: rest) (hW : (rest.map fun v => v.category).sum ≤ 8) (hdg : decode cc pc = .ok (.invokevirtual index, 3)) (hf : cells + rm.cells ≤ R.cells ∧ slots + rm.slots ≤ R.slots)
    (kr : ∀ (v : Option Value) (h' : gh_M) (H' : Heap) (locs' : List Loc), post (.returned v) h' → gh_P D cl b0 h' s.heap H' locs' → W p l e R s m args below meth c H' locs' (cells + rm.cells) (slots + rm.slots) Q (F0 m (pc + 3) ls (v.toList ++ rest)))
    (kt : ∀ (x : Addr) (h' : gh_M) (H' : Heap) (locs' : List Loc), post (.threw x) h' → gh_P D cl b0 h' s.heap H' locs' → gx_WT p l e R s m args below meth c H' locs' (cells + rm.cells) (slots + rm.slots) Q (F0 m pc ls rest) x) : W p l e R s m args below meth c H locs cells slots Q (F0 m pc ls st0) :=
  gh_go (gx_runV hx hb hml ho hC cw hl hin hse (gh_blind hXF) (gh_recv hK hG hc he) (gh_pre hXF hG hK hX) rfl hn hsize hs0 (lv_room hW) hdg hf) hG kr kt
/-- invokespecial <init> by contract -/
theorem gh_cI {y : MethodName} {maxL nL n index b : Nat} {ws : List Cond} {rm : Room} {own : String} {bytes : ByteArray} {As st0 : List Value} {post : Outcome → gh_M → Prop} (hXF : gh_X b0 XF) (hx : p.tables.exec = Jvm.exec) (hb : c.code = cc) (hml : c.maxLocals = nL) (ho : s.vm.findClass own = some m.cls) (hK : va_K D cl tys s) (hX : XF s) (hG : gh_P D cl b0 h s.heap H locs)
    (hC : gh_C l D cl tys XF b0 y ws rm (.ref b :: As) h post) (cw : gx_Call R s args y maxL ws rm rm.cells rm.slots n) (hl : (Cond.methodLink own index y).before args s = true) (hin : (Cond.instanceMethod y).before args s = true) (hy1 : y.name = "<init>") (hcode : (Cond.code y bytes maxL none).before args s = true) (hn : As.length = n) (hsize : ls.size = nL) (hs0 : st0 = As.reverse ++ .ref b :: rest) (hW : (rest.map fun v => v.category).sum ≤ 8) (hdg : decode cc pc = .ok (.invokespecial index, 3)) (hf : cells + rm.cells ≤ R.cells ∧ slots + rm.slots ≤ R.slots)
    (kr : ∀ (v : Option Value) (h' : gh_M) (H' : Heap) (locs' : List Loc), post (.returned v) h' → gh_P D cl b0 h' s.heap H' locs' → W p l e R s m args below meth c H' locs' (cells + rm.cells) (slots + rm.slots) Q (F0 m (pc + 3) ls (v.toList ++ rest)))
    (kt : ∀ (x : Addr) (h' : gh_M) (H' : Heap) (locs' : List Loc), post (.threw x) h' → gh_P D cl b0 h' s.heap H' locs' → gx_WT p l e R s m args below meth c H' locs' (cells + rm.cells) (slots + rm.slots) Q (F0 m pc ls rest) x) : W p l e R s m args below meth c H locs cells slots Q (F0 m pc ls st0) :=
  gh_go (gx_runI hx hb hml ho hC cw hl hin hy1 hcode (gh_blind hXF) (gh_pre hXF hG hK hX) rfl hn hsize hs0 (lv_room hW) hdg hf) hG kr kt
/-- the ends -/
theorem gh_iret {post : Outcome → gh_M → Prop} {v : Int32} {ty : FieldType} (hx : p.tables.exec = Jvm.exec) (hb : c.code = cc) (hr : meth.sig.returnType = some ty) (hlocks : meth.locks = false) (hn : narrow ty (.int v) = .int v) (hG : gh_P D cl b0 h s.heap H locs) (hdg : decode cc pc = .ok (.ireturn, 1)) (hp : post (.returned (some (.int v))) h) :
    W p l e R s m args below meth c H locs cells slots (gx_MQ below (gh_Qc D cl b0 post) args s cells slots (fun q => b0 ≤ q)) (F0 m pc ls [.int v]) :=
  gx_mono gx_MQ_of (W.zret hx hb hr hn (fun t ht _ => ⟨h, hp, by rw [ht]; exact hG.ends⟩) hG.wr hdg hlocks)
theorem gh_lret {post : Outcome → gh_M → Prop} {v : Int64} (hx : p.tables.exec = Jvm.exec) (hb : c.code = cc) (hr : meth.sig.returnType = some .long) (hlocks : meth.locks = false) (hG : gh_P D cl b0 h s.heap H locs) (hdg : decode cc pc = .ok (.lreturn, 1)) (hp : post (.returned (some (.long v))) h) :
    W p l e R s m args below meth c H locs cells slots (gx_MQ below (gh_Qc D cl b0 post) args s cells slots (fun q => b0 ≤ q)) (F0 m pc ls [.long v]) :=
  gx_mono gx_MQ_of (W.lret hx hb hr (fun t ht _ => ⟨h, hp, by rw [ht]; exact hG.ends⟩) hG.wr hdg hlocks)
theorem gh_aret {post : Outcome → gh_M → Prop} {a : Nat} {rt : FieldType} (hx : p.tables.exec = Jvm.exec) (hb : c.code = cc) (hr : meth.sig.returnType = some rt) (hlocks : meth.locks = false) (hrt : (∃ n, rt = .object n) ∨ ∃ t, rt = .array t) (hG : gh_P D cl b0 h s.heap H locs) (hdg : decode cc pc = .ok (.areturn, 1)) (hp : post (.returned (some (.ref a))) h) :
    W p l e R s m args below meth c H locs cells slots (gx_MQ below (gh_Qc D cl b0 post) args s cells slots (fun q => b0 ≤ q)) (F0 m pc ls [.ref a]) :=
  gx_mono gx_MQ_of (W.aret hx hb hr hrt (Or.inr ⟨a, rfl⟩) (fun t ht _ => ⟨h, hp, by rw [ht]; exact hG.ends⟩) hG.wr hdg hlocks)
theorem gh_vret {post : Outcome → gh_M → Prop} (hx : p.tables.exec = Jvm.exec) (hb : c.code = cc) (hr : meth.sig.returnType = none) (hlocks : meth.locks = false) (hG : gh_P D cl b0 h s.heap H locs) (hdg : decode cc pc = .ok (.return_, 1)) (hp : post (.returned none) h) :
    W p l e R s m args below meth c H locs cells slots (gx_MQ below (gh_Qc D cl b0 post) args s cells slots (fun q => b0 ≤ q)) (F0 m pc ls []) :=
  gx_mono gx_MQ_of (W.vret hx hb hr (fun t ht _ => ⟨h, hp, by rw [ht]; exact hG.ends⟩) hG.wr hdg hlocks)
theorem gh_tret {post : Outcome → gh_M → Prop} {a : Nat} {st : List Value} (hx : p.tables.exec = Jvm.exec) (hb : c.code = cc) (hlocks : meth.locks = false) (hout : ∀ x ∈ c.exceptionTable.toList, covers x pc = false) (hG : gh_P D cl b0 h s.heap H locs) (hdg : decode cc pc = .ok (.athrow, 1)) (hp : post (.threw a) h) :
    W p l e R s m args below meth c H locs cells slots (gx_MQ below (gh_Qc D cl b0 post) args s cells slots (fun q => b0 ≤ q)) (F0 m pc ls (.ref a :: st)) :=
  gx_athrow hx hb hout hlocks hdg (fun t ht _ => ⟨h, hp, by rw [ht]; exact hG.ends⟩) hG.wr
theorem gh_pass {post : Outcome → gh_M → Prop} {a : Nat} {st : List Value} (hlocks : meth.locks = false) (hout : ∀ x ∈ c.exceptionTable.toList, covers x pc = false) (hG : gh_P D cl b0 h s.heap H locs) (hp : post (.threw a) h) :
    gx_WT p l e R s m args below meth c H locs cells slots (gx_MQ below (gh_Qc D cl b0 post) args s cells slots (fun q => b0 ≤ q)) (F0 m pc ls st) a :=
  gx_leave hout hlocks (fun t ht _ => ⟨h, hp, by rw [ht]; exact hG.ends⟩) hG.wr
end GI
/-- outcomes -/
def rI (r : Int32) (h : gh_M) : Outcome → gh_M → Prop := fun oc h' => oc = .returned (some (.int r)) ∧ h' = h
def rL (r : Int64) (h : gh_M) : Outcome → gh_M → Prop := fun oc h' => oc = .returned (some (.long r)) ∧ h' = h
def rA (r : Nat) (h : gh_M) : Outcome → gh_M → Prop := fun oc h' => oc = .returned (some (.ref r)) ∧ h' = h
def rV (h : gh_M) : Outcome → gh_M → Prop := fun oc h' => oc = .returned none ∧ h' = h
/-- what is fixed while a method runs -/
def gh_ctx (p : Program) (s : State) (m : MethodId) (args : Array Value) (meth : Method) (c : Code) (cc : ByteArray) (nL : Nat) (ret : Option FieldType) (y : MethodName) (ws : List Cond) : Prop :=
  p.tables.exec = Jvm.exec ∧ c.code = cc ∧ meth.sig.returnType = ret ∧ c.maxLocals = nL ∧ s.vm.findClass y.cls = some m.cls ∧ meth.locks = false ∧ (∀ w ∈ ws, w.before args s = true) ∧ meth.name = y.name
theorem gh_ofW {l : Launch} {D : va_G} {cl : List vw_C} {tys : List (ClassId × FieldType)} {XF : State → Prop} {b0 : Nat} {y : MethodName} {ws : List Cond} {rm : Room} {av : List Value} {h : gh_M} {post : Outcome → gh_M → Prop} {cc : ByteArray} {maxL : Nat} {ret : Option FieldType} (hy : plainName y.cls = true) (hlen : (lg_sl av).length ≤ maxL)
    (body : ∀ p e s m below meth c ls, gh_ctx p s m av.toArray meth c cc maxL ret y (Cond.code y cc maxL ret :: ws) → (∀ x ∈ c.exceptionTable.toList, ∀ pc, covers x pc = false) → lv_has ls maxL (lv_args 0 av) → gh_P D cl b0 h s.heap s.heap [] → va_K D cl tys s → XF s →
      W p l e rm s m av.toArray below meth c s.heap [] 0 0 (gx_MQ below (gh_Qc D cl b0 post) av.toArray s rm.cells rm.slots (fun q => b0 ≤ q)) (F0 m 0 ls [])) : gh_C l D cl tys XF b0 y (Cond.code y cc maxL ret :: ws) rm av h post := by
  refine gx_ofW (cc := cc) (maxL := maxL) (ret := ret) hy rfl ?_
  intro p e s m args below meth c s₁ B hml hno hv
  obtain ⟨rfl, hG, hK, hX⟩ := hv
  have hl := lv_entry av (n := maxL) hlen
  rw [lg_entry_eq]
  exact body p e s m below meth c _ ⟨B.exec, B.bytes, B.returns, hml, findClass_of_methodNamed B.named, B.notSynchronized, atoms_spec (ws := Cond.code y cc maxL ret :: ws) B.pre, (name_of_methodNamed B.named B.method).1⟩ hno hl hG hK hX
theorem gh_ofWh {l : Launch} {D : va_G} {cl : List vw_C} {tys : List (ClassId × FieldType)} {XF : State → Prop} {b0 : Nat} {y : MethodName} {ws : List Cond} {rm : Room} {av : List Value} {h : gh_M} {post : Outcome → gh_M → Prop} {cc : ByteArray} {maxL : Nat} {ret : Option FieldType} {hs : List (Nat × Nat × Nat × Nat)} (hy : plainName y.cls = true) (hlen : (lg_sl av).length ≤ maxL)
    (body : ∀ p e s m below meth c ls, gh_ctx p s m av.toArray meth c cc maxL ret y (Cond.codeWith y cc maxL ret hs :: ws) → c.exceptionTable.toList = tableOf hs → lv_has ls maxL (lv_args 0 av) → gh_P D cl b0 h s.heap s.heap [] → va_K D cl tys s → XF s →
      W p l e rm s m av.toArray below meth c s.heap [] 0 0 (gx_MQ below (gh_Qc D cl b0 post) av.toArray s rm.cells rm.slots (fun q => b0 ≤ q)) (F0 m 0 ls [])) : gh_C l D cl tys XF b0 y (Cond.codeWith y cc maxL ret hs :: ws) rm av h post := by
  refine gx_ofWh (cc := cc) (maxL := maxL) (ret := ret) hy rfl ?_
  intro p e s m args below meth c s₁ B hml hno hv
  obtain ⟨rfl, hG, hK, hX⟩ := hv
  have hl := lv_entry av (n := maxL) hlen
  rw [lg_entry_eq]
  exact body p e s m below meth c _ ⟨B.exec, B.bytes, B.returns, hml, findClass_of_methodNamed B.named, B.notSynchronized, atoms_spec (ws := Cond.codeWith y cc maxL ret hs :: ws) B.pre, (name_of_methodNamed B.named B.method).1⟩ hno hl hG hK hX
end
section
/-! Counting, and the sweep along a line: how often a line goes in, by planes and by places. -/
/-- how many of the first m numbers p holds of -/
def mc_cnt (p : Nat → Bool) : Nat → Nat
  | 0 => 0
  | m + 1 => mc_cnt p m + (if p m = true then 1 else 0)
theorem mc_congr {p q : Nat → Bool} {m : Nat} (h : ∀ i, i < m → p i = q i) : mc_cnt p m = mc_cnt q m := by
  induction m with
  | zero => rfl
  | succ m ih =>
    simp only [mc_cnt]
    rw [ih (fun i hi => h i (by omega)), h m (by omega)]
theorem mc_zero {p : Nat → Bool} {m : Nat} (h : ∀ i, i < m → p i = false) : mc_cnt p m = 0 := by
  induction m with
  | zero => rfl
  | succ m ih =>
    simp only [mc_cnt]
    rw [ih (fun i hi => h i (by omega)), h m (by omega)]
    rfl
theorem mc_add {p q r : Nat → Bool} {m : Nat} (h : ∀ i, i < m → (p i = true ↔ (q i = true ∨ r i = true))) (hd : ∀ i, i < m → ¬ (q i = true ∧ r i = true)) : mc_cnt p m = mc_cnt q m + mc_cnt r m := by
  induction m with
  | zero => rfl
  | succ m ih =>
    simp only [mc_cnt]
    rw [ih (fun i hi => h i (by omega)) (fun i hi => hd i (by omega))]
    have h1 := h m (by omega)
    have h2 := hd m (by omega)
    cases hp : p m <;> cases hq : q m <;> cases hr : r m <;> simp_all <;> omega
theorem mc_one {p : Nat → Bool} {m j : Nat} (hj : j < m) (h : ∀ i, i < m → p i = true → i = j) : mc_cnt p m = if p j = true then 1 else 0 := by
  induction m with
  | zero => omega
  | succ m ih =>
    simp only [mc_cnt]
    by_cases hm : j = m
    · subst hm
      rw [mc_zero (fun i hi => ?_)]
      · simp
      · cases hp : p i with
        | false => rfl
        | true => exact absurd (h i (by omega) hp) (by omega)
    · rw [ih (by omega) (fun i hi hp => h i (by omega) hp)]
      have : p m = false := by
        cases hp : p m with
        | false => rfl
        | true => exact absurd (h m (by omega) hp) (fun q => hm q.symm)
      rw [this]
      simp
theorem mc_lt {p q : Nat → Bool} {m j : Nat} (h : ∀ i, i < m → p i = true → q i = true) (hj : j < m) (hp : p j = false) (hq : q j = true) : mc_cnt p m < mc_cnt q m := by
  induction m with
  | zero => omega
  | succ m ih =>
    simp only [mc_cnt]
    by_cases hm : j = m
    · subst hm
      have hle : mc_cnt p j ≤ mc_cnt q j := by
        clear ih hj hp hq
        induction j with
        | zero => exact Nat.le_refl _
        | succ k ih2 =>
          simp only [mc_cnt]
          have h1 := ih2 (fun i hi => h i (by omega))
          have h2 := h k (by omega)
          cases hp : p k <;> cases hq : q k <;> simp_all <;> omega
      rw [hp, hq]
      simp
      omega
    · have h1 := ih (fun i hi => h i (by omega)) (by omega)
      have h2 := h m (by omega)
      cases hp : p m <;> cases hq : q m <;> simp_all <;> omega
theorem mc_le (p : Nat → Bool) (m : Nat) : mc_cnt p m ≤ m := by
  induction m with
  | zero => exact Nat.le_refl _
  | succ m ih =>
    simp only [mc_cnt]
    split <;> omega
/-- the next place behind x: the least key above x, and below hi -/
def sw_nx (act : Nat → Bool) (key : Nat → Int) (x hi : Int) : Nat → Int
  | 0 => hi
  | k + 1 => if act k = true ∧ x < key k ∧ key k < sw_nx act key x hi k then key k else sw_nx act key x hi k
theorem sw_nx_le (act : Nat → Bool) (key : Nat → Int) (x hi : Int) (n : Nat) : sw_nx act key x hi n ≤ hi := by
  induction n with
  | zero => exact Int.le_refl _
  | succ k ih =>
    simp only [sw_nx]
    split <;> omega
theorem sw_nx_gt {act : Nat → Bool} {key : Nat → Int} {x hi : Int} (hx : x < hi) (n : Nat) : x < sw_nx act key x hi n := by
  induction n with
  | zero => exact hx
  | succ k ih =>
    simp only [sw_nx]
    split
    · omega
    · exact ih
theorem sw_nx_least {act : Nat → Bool} {key : Nat → Int} {x hi : Int} {n k : Nat} (hk : k < n) (ha : act k = true) (hx : x < key k) : sw_nx act key x hi n ≤ key k := by
  induction n with
  | zero => omega
  | succ j ih =>
    simp only [sw_nx]
    by_cases hj : k = j
    · subst hj
      split
      · omega
      · rename_i hn
        have := hn
        simp only [ha, hx, true_and] at this
        omega
    · have := ih (by omega)
      split <;> omega
theorem sw_nx_in {act : Nat → Bool} {key : Nat → Int} {x hi : Int} (n : Nat) : sw_nx act key x hi n = hi ∨ ∃ k, k < n ∧ act k = true ∧ x < key k ∧ key k < hi ∧ key k = sw_nx act key x hi n := by
  induction n with
  | zero => exact Or.inl rfl
  | succ j ih =>
    simp only [sw_nx]
    split
    · rename_i hc
      have := sw_nx_le act key x hi j
      exact Or.inr ⟨j, by omega, hc.1, hc.2.1, by omega, rfl⟩
    · rcases ih with h | ⟨k, h1, h2, h3, h4, h5⟩
      · exact Or.inl h
      · exact Or.inr ⟨k, by omega, h2, h3, h4, h5⟩
/-- the sweep from x on, what lay before it being 'inn' -/
def sw_run (F : Int → Bool) (act : Nat → Bool) (key : Nat → Int) (hi : Int) (n : Nat) : Nat → Int → Bool → Nat
  | 0, _, _ => 0
  | f + 1, x, inn => if x < hi then (if F x = true ∧ inn = false then 1 else 0) + sw_run F act key hi n f (sw_nx act key x hi n) (F x) else 0
/-- what the two ways to count have in common: ev i: the plane i has a place on the line within lo .. hb, at ky i -/
theorem sw_main {F B : Int → Bool} {act ev : Nat → Bool} {key ky : Nat → Int} {lo hb : Int} {n m : Nat} (hlh : lo < hb)
    (hbox : ∀ i, i < m → ev i = true → lo ≤ ky i ∧ ky i ≤ hb)
    (hinj : ∀ i j, i < m → j < m → ev i = true → ev j = true → ky i = ky j → i = j)
    (hlo : ∃ i, i < m ∧ ev i = true ∧ ky i = lo)
    (hto : ∀ k, k < n → act k = true → lo ≤ key k → key k ≤ hb → ∃ i, i < m ∧ ev i = true ∧ ky i = key k)
    (hof : ∀ i, i < m → ev i = true → lo < ky i → ky i < hb → ∃ k, k < n ∧ act k = true ∧ key k = ky i)
    (hB : ∀ x y, lo ≤ y → y < x → x < hb → (∀ k, k < n → act k = true → ¬ (y < key k ∧ key k < x)) → B x = F y) :
    ∀ (f : Nat) (x : Int) (inn : Bool), (x < hb → mc_cnt (fun k => act k && decide (x < key k) && decide (key k < hb)) n < f) → lo ≤ x → x ≤ hb → (x < hb → ∃ i, i < m ∧ ev i = true ∧ ky i = x) → (x < hb → inn = if x = lo then false else B x) →
      sw_run F act key hb n f x inn = mc_cnt (fun i => ev i && (decide (x ≤ ky i) && decide (ky i < hb)) && (F (ky i) && !(if ky i = lo then false else B (ky i)))) m := by
  have hend : ∀ x, ¬ x < hb → mc_cnt (fun i => ev i && (decide (x ≤ ky i) && decide (ky i < hb)) && (F (ky i) && !(if ky i = lo then false else B (ky i)))) m = 0 := by
    intro x hx
    refine mc_zero (fun i hi => ?_)
    cases he : ev i with
    | false => simp
    | true =>
      have h1 := hbox i hi he
      have h2 : (decide (x ≤ ky i) && decide (ky i < hb)) = false := by
        by_cases h3 : x ≤ ky i
        · have h4 : ¬ ky i < hb := by omega
          simp [h4]
        · simp [h3]
      rw [h2]
      rfl
  intro f
  induction f with
  | zero =>
    intro x inn hf hx1 hx2 hev hin
    simp only [sw_run]
    exact (hend x (fun h => by have := hf h; omega)).symm
  | succ f ih =>
    intro x inn hf hx1 hx2 hev hin
    simp only [sw_run]
    by_cases hxh : x < hb
    · rw [if_pos hxh]
      have hg := sw_nx_gt (act := act) (key := key) hxh n
      have hl := sw_nx_le act key x hb n
      obtain ⟨i0, hi0, he0, hk0⟩ := hev hxh
      have hrec := ih (sw_nx act key x hb n) (F x) ?_ (by omega) hl ?_ ?_
      · rw [hrec]
        have hone := mc_one (p := fun i => ev i && decide (ky i = x) && (F (ky i) && !(if ky i = lo then false else B (ky i)))) (m := m) (j := i0) hi0 (fun i hi hp => by
          simp only [Bool.and_eq_true, decide_eq_true_eq] at hp
          exact hinj i i0 hi hi0 hp.1.1 he0 (by rw [hp.1.2, hk0]))
        rw [mc_add (p := fun i => ev i && (decide (x ≤ ky i) && decide (ky i < hb)) && (F (ky i) && !(if ky i = lo then false else B (ky i)))) (q := fun i => ev i && decide (ky i = x) && (F (ky i) && !(if ky i = lo then false else B (ky i)))) (r := fun i => ev i && (decide (sw_nx act key x hb n ≤ ky i) && decide (ky i < hb)) && (F (ky i) && !(if ky i = lo then false else B (ky i)))) ?_ ?_, hone]
        · congr 1
          simp only [he0, hk0, decide_true, Bool.true_and, hin hxh]
          cases F x <;> cases (if x = lo then false else B x) <;> simp
        · intro i hi
          simp only [Bool.and_eq_true, decide_eq_true_eq]
          constructor
          · rintro ⟨⟨h1, h2, h3⟩, h4⟩
            by_cases hq : ky i = x
            · exact Or.inl ⟨⟨h1, hq⟩, h4⟩
            · refine Or.inr ⟨⟨h1, ?_, h3⟩, h4⟩
              obtain ⟨k, g1, g2, g3⟩ := hof i hi h1 (by omega) h3
              have := sw_nx_least (key := key) (hi := hb) g1 g2 (x := x) (by omega)
              omega
          · rintro (⟨⟨h1, h2⟩, h4⟩ | ⟨⟨h1, h2, h3⟩, h4⟩)
            · exact ⟨⟨h1, by omega, by omega⟩, h4⟩
            · exact ⟨⟨h1, by omega, h3⟩, h4⟩
        · intro i hi
          simp only [Bool.and_eq_true, decide_eq_true_eq]
          rintro ⟨⟨⟨h1, h2⟩, h4⟩, ⟨⟨h5, h6, h7⟩, h8⟩⟩
          omega
      · intro hlt
        have hf2 := hf hxh
        rcases sw_nx_in (act := act) (key := key) (x := x) (hi := hb) n with hq | ⟨k, h1, h2, h3, h4, h5⟩
        · omega
        · have := mc_lt (p := fun k => act k && decide (sw_nx act key x hb n < key k) && decide (key k < hb)) (q := fun k => act k && decide (x < key k) && decide (key k < hb)) (m := n) (j := k) (fun i hi hp => by
            simp only [Bool.and_eq_true, decide_eq_true_eq] at hp ⊢
            exact ⟨⟨hp.1.1, by omega⟩, hp.2⟩) h1 (by simp [h2, h5]) (by simp [h2, h3, h4])
          omega
      · intro hlt
        rcases sw_nx_in (act := act) (key := key) (x := x) (hi := hb) n with hq | ⟨k, h1, h2, h3, h4, h5⟩
        · omega
        · obtain ⟨i, g1, g2, g3⟩ := hto k h1 h2 (by omega) (by omega)
          exact ⟨i, g1, g2, by omega⟩
      · intro hlt
        rw [if_neg (by omega)]
        exact (hB _ x hx1 hg hlt (fun k hk ha hq => by
          have := sw_nx_least (hi := hb) hk ha (x := x) hq.1
          omega)).symm
    · rw [if_neg hxh]
      exact (hend x hxh).symm
end
section
/-! Planes as vectors of whole numbers: when two are one, which way they look. -/
/-- the numbers of two planes stand in one proportion: 0, 1, 2 the normal, 3 the distance -/
def pv_one (p q : Nat → Int) : Prop := ∀ x y, x < 4 → y < 4 → p x * q y = p y * q x
/-- the normals alone -/
def pv_par (p q : Nat → Int) : Prop := ∀ x y, x < 3 → y < 3 → p x * q y = p y * q x
def pv_nz (p : Nat → Int) : Prop := ∃ x, x < 3 ∧ p x ≠ 0
def pv_dot (p q : Nat → Int) : Int := p 0 * q 0 + p 1 * q 1 + p 2 * q 2
/-- what a plane says at a point (x, y, z) / w -/
def pv_at (p : Nat → Int) (x y z w : Int) : Int := p 0 * x + p 1 * y + p 2 * z - p 3 * w
theorem pv_one_par {p q : Nat → Int} (h : pv_one p q) : pv_par p q := fun x y hx hy => h x y (by omega) (by omega)
theorem pv_one_symm {p q : Nat → Int} (h : pv_one p q) : pv_one q p := fun x y hx hy => by
  have := h y x hy hx
  rw [Int.mul_comm (q x), Int.mul_comm (q y)]
  exact this
theorem pv_par_symm {p q : Nat → Int} (h : pv_par p q) : pv_par q p := fun x y hx hy => by
  have := h y x hy hx
  rw [Int.mul_comm (q x), Int.mul_comm (q y)]
  exact this
theorem pv_one_refl (p : Nat → Int) : pv_one p p := fun x y _ _ => Int.mul_comm _ _
theorem pv_cancel {a b c : Int} (hc : c ≠ 0) (h : a * c = b * c) : a = b := Int.eq_of_mul_eq_mul_right hc h
theorem pv_one_trans {p q r : Nat → Int} (hq : pv_nz q) (h1 : pv_one p q) (h2 : pv_one q r) : pv_one p r := by
  obtain ⟨m, hm, hne⟩ := hq
  intro x y hx hy
  have e1 := h1 x m hx (by omega)
  have e2 := h1 y m hy (by omega)
  have e3 := h2 m y (by omega) hy
  have e4 := h2 m x (by omega) hx
  apply pv_cancel (c := q m * q m) (Int.mul_ne_zero hne hne)
  grind
theorem pv_par_trans {p q r : Nat → Int} (hq : pv_nz q) (h1 : pv_par p q) (h2 : pv_par q r) : pv_par p r := by
  obtain ⟨m, hm, hne⟩ := hq
  intro x y hx hy
  have e1 := h1 x m hx (by omega)
  have e2 := h1 y m hy (by omega)
  have e3 := h2 m y (by omega) hy
  have e4 := h2 m x (by omega) hx
  apply pv_cancel (c := q m * q m) (Int.mul_ne_zero hne hne)
  grind
/-- two planes with one direction through one point are one -/
theorem pv_meet {p q : Nat → Int} {x y z w : Int} (hw : w ≠ 0) (h : pv_par p q) (hp : pv_at p x y z w = 0) (hq : pv_at q x y z w = 0) : pv_one p q := by
  have h01 := h 0 1 (by omega) (by omega)
  have h02 := h 0 2 (by omega) (by omega)
  have h12 := h 1 2 (by omega) (by omega)
  simp only [pv_at] at hp hq
  have d0 : p 0 * q 3 = p 3 * q 0 := pv_cancel hw (by grind)
  have d1 : p 1 * q 3 = p 3 * q 1 := pv_cancel hw (by grind)
  have d2 : p 2 * q 3 = p 3 * q 2 := pv_cancel hw (by grind)
  intro a b ha hb
  rcases (by omega : a = 0 ∨ a = 1 ∨ a = 2 ∨ a = 3) with rfl | rfl | rfl | rfl <;> rcases (by omega : b = 0 ∨ b = 1 ∨ b = 2 ∨ b = 3) with rfl | rfl | rfl | rfl <;> grind
/-- planes that are one have their points together -/
theorem pv_one_at {p q : Nat → Int} {x y z w : Int} (hn : pv_nz p) (h : pv_one p q) (hp : pv_at p x y z w = 0) : pv_at q x y z w = 0 := by
  obtain ⟨m, hm, hne⟩ := hn
  have e0 := h m 0 (by omega) (by omega)
  have e1 := h m 1 (by omega) (by omega)
  have e2 := h m 2 (by omega) (by omega)
  have e3 := h m 3 (by omega) (by omega)
  simp only [pv_at] at hp ⊢
  apply pv_cancel hne
  have : (q 0 * x + q 1 * y + q 2 * z - q 3 * w) * p m = q m * (p 0 * x + p 1 * y + p 2 * z - p 3 * w) := by grind
  rw [this, hp]
  simp
theorem pv_self (a : Int) : 0 ≤ a * a := by
  by_cases h : 0 ≤ a
  · exact Int.mul_nonneg h h
  · have h2 : 0 ≤ (-a) * (-a) := Int.mul_nonneg (by omega) (by omega)
    rwa [Int.neg_mul_neg] at h2
theorem pv_sq {p q : Nat → Int} (h : pv_par p q) (i j : Nat) (hi : i < 3) (hj : j < 3) : 0 ≤ (p i * q i) * (p j * q j) := by
  have e := h i j hi hj
  have : (p i * q i) * (p j * q j) = (p i * q j) * (p i * q j) := by grind
  rw [this]
  exact pv_self _
theorem pv_sgn {a b : Int} (h : 0 ≤ a * b) (ha : 0 < a) : 0 ≤ b := by
  by_cases hb : 0 ≤ b
  · exact hb
  · exfalso
    have : a * b < 0 := Int.mul_neg_of_pos_of_neg ha (by omega)
    omega
theorem pv_sgn' {a b : Int} (h : 0 ≤ a * b) (ha : a < 0) : b ≤ 0 := by
  by_cases hb : b ≤ 0
  · exact hb
  · exfalso
    have : a * b < 0 := Int.mul_neg_of_neg_of_pos ha (by omega)
    omega
/-- with one direction, some product of the two normals is not 0 -/
theorem pv_par_ne {p q : Nat → Int} (hp : pv_nz p) (hq : pv_nz q) (h : pv_par p q) : p 0 * q 0 ≠ 0 ∨ p 1 * q 1 ≠ 0 ∨ p 2 * q 2 ≠ 0 := by
  obtain ⟨i, hi, hpi⟩ := hp
  obtain ⟨j, hj, hqj⟩ := hq
  have hij : p i * q j ≠ 0 := Int.mul_ne_zero hpi hqj
  have e := h i j hi hj
  have h2 : (p i * q i) * (p j * q j) = (p i * q j) * (p i * q j) := by grind
  have h3 : (p i * q i) * (p j * q j) ≠ 0 := by rw [h2]; exact Int.mul_ne_zero hij hij
  have h4 : p i * q i ≠ 0 := fun k => h3 (by rw [k]; simp)
  rcases (by omega : i = 0 ∨ i = 1 ∨ i = 2) with rfl | rfl | rfl
  · exact Or.inl h4
  · exact Or.inr (Or.inl h4)
  · exact Or.inr (Or.inr h4)
/-- the sign of the last product that is not 0 -/
def pv_last (a b c : Int) : Int := if c > 0 then 1 else if c < 0 then -1 else if b > 0 then 1 else if b < 0 then -1 else if a > 0 then 1 else if a < 0 then -1 else 0
theorem pv_last_dot {p q : Nat → Int} (hp : pv_nz p) (hq : pv_nz q) (h : pv_par p q) : (0 < pv_last (p 0 * q 0) (p 1 * q 1) (p 2 * q 2) ↔ 0 < pv_dot p q) ∧ pv_last (p 0 * q 0) (p 1 * q 1) (p 2 * q 2) ≠ 0 := by
  have hne := pv_par_ne hp hq h
  have s01 := pv_sq h 0 1 (by omega) (by omega)
  have s02 := pv_sq h 0 2 (by omega) (by omega)
  have s12 := pv_sq h 1 2 (by omega) (by omega)
  have s10 := pv_sq h 1 0 (by omega) (by omega)
  have s20 := pv_sq h 2 0 (by omega) (by omega)
  have s21 := pv_sq h 2 1 (by omega) (by omega)
  simp only [pv_dot]
  generalize p 0 * q 0 = a at *
  generalize p 1 * q 1 = b at *
  generalize p 2 * q 2 = c at *
  have f1 := @pv_sgn a b s01
  have f2 := @pv_sgn a c s02
  have f3 := @pv_sgn b c s12
  have f4 := @pv_sgn b a s10
  have f5 := @pv_sgn c a s20
  have f6 := @pv_sgn c b s21
  have g1 := @pv_sgn' a b s01
  have g2 := @pv_sgn' a c s02
  have g3 := @pv_sgn' b c s12
  have g4 := @pv_sgn' b a s10
  have g5 := @pv_sgn' c a s20
  have g6 := @pv_sgn' c b s21
  clear s01 s02 s12 s10 s20 s21
  unfold pv_last
  refine ⟨⟨fun k => ?_, fun k => ?_⟩, ?_⟩
  · split at k
    · omega
    · split at k
      · omega
      · split at k
        · omega
        · split at k
          · omega
          · split at k
            · omega
            · split at k <;> omega
  · repeat' split
    all_goals omega
  · repeat' split
    all_goals omega
/-- bits: the number whose bit i is f i, of the first n -/
def pb_num (f : Nat → Bool) : Nat → Nat
  | 0 => 0
  | n + 1 => pb_num f n + (if f n = true then 2 ^ n else 0)
theorem pb_lt (f : Nat → Bool) (n : Nat) : pb_num f n < 2 ^ n := by
  induction n with
  | zero => simp [pb_num]
  | succ n ih =>
    simp only [pb_num]
    split <;> omega
theorem pb_congr {f g : Nat → Bool} {n : Nat} (h : ∀ i, i < n → f i = g i) : pb_num f n = pb_num g n := by
  induction n with
  | zero => rfl
  | succ n ih =>
    simp only [pb_num]
    rw [ih (fun i hi => h i (by omega)), h n (by omega)]
theorem pb_shift (f : Nat → Bool) (k n : Nat) : pb_num f (k + n) = pb_num f k + 2 ^ k * pb_num (fun i => f (k + i)) n := by
  induction n with
  | zero => simp [pb_num]
  | succ n ih =>
    rw [show k + (n + 1) = (k + n) + 1 by omega]
    simp only [pb_num]
    rw [ih, Nat.mul_add, ← Nat.add_assoc]
    congr 1
    split
    · rw [Nat.pow_add]
    · simp
theorem pb_div (f : Nat → Bool) (k n : Nat) : pb_num f (k + n) / 2 ^ k = pb_num (fun i => f (k + i)) n := by
  rw [pb_shift, Nat.add_mul_div_left _ _ (Nat.two_pow_pos k), Nat.div_eq_of_lt (pb_lt f k)]
  simp
theorem pb_mod (f : Nat → Bool) (k n : Nat) : pb_num f (k + n) % 2 ^ k = pb_num f k := by
  rw [pb_shift, Nat.add_mul_mod_self_left, Nat.mod_eq_of_lt (pb_lt f k)]
theorem pb_all (f : Nat → Bool) (n : Nat) : pb_num f n = 2 ^ n - 1 ↔ ∀ i, i < n → f i = true := by
  induction n with
  | zero => simp [pb_num]
  | succ n ih =>
    simp only [pb_num]
    have hl := pb_lt f n
    have hp := Nat.two_pow_pos n
    constructor
    · intro h i hi
      cases hf : f n with
      | false =>
        rw [hf] at h
        simp at h
        omega
      | true =>
        rw [hf] at h
        simp at h
        by_cases hin : i = n
        · subst hin; exact hf
        · exact ih.mp (by omega) i (by omega)
    · intro h
      rw [ih.mpr (fun i hi => h i (by omega)), h n (by omega)]
      simp
      omega
end
section
/-! The first number of a plane, and the planes through a point. -/
/-- fs i is the least number of a plane that is one with the plane i -/
def fo_ok (P : Nat → Nat → Int) (fs : Nat → Nat) (m : Nat) : Prop := ∀ i, i < m → fs i ≤ i ∧ (∀ j, j < fs i → ¬ pv_one (P j) (P i)) ∧ pv_one (P (fs i)) (P i)
theorem fo_iff {P : Nat → Nat → Int} {fs : Nat → Nat} {m i j : Nat} (hn : ∀ i, i < m → pv_nz (P i)) (h : fo_ok P fs m) (hi : i < m) (hj : j < m) : fs i = fs j ↔ pv_one (P i) (P j) := by
  obtain ⟨a1, a2, a3⟩ := h i hi
  obtain ⟨b1, b2, b3⟩ := h j hj
  constructor
  · intro e
    rw [← e] at b3
    exact pv_one_trans (hn (fs i) (by omega)) (pv_one_symm a3) b3
  · intro e
    have c1 : pv_one (P (fs i)) (P j) := pv_one_trans (hn i hi) a3 e
    have c2 : pv_one (P (fs j)) (P i) := pv_one_trans (hn j hj) b3 (pv_one_symm e)
    have d1 : ¬ fs i < fs j := fun k => b2 _ k c1
    have d2 : ¬ fs j < fs i := fun k => a2 _ k c2
    omega
theorem fo_idem {P : Nat → Nat → Int} {fs : Nat → Nat} {m i : Nat} (hn : ∀ i, i < m → pv_nz (P i)) (h : fo_ok P fs m) (hi : i < m) : fs (fs i) = fs i := by
  obtain ⟨a1, a2, a3⟩ := h i hi
  exact (fo_iff hn h (by omega) hi).mpr a3
theorem fo_on {P : Nat → Nat → Int} {fs : Nat → Nat} {m i j : Nat} {x y z w : Int} (hn : ∀ i, i < m → pv_nz (P i)) (h : fo_ok P fs m) (hi : i < m) (hj : j < m) (hw : w ≠ 0) (h1 : pv_at (P i) x y z w = 0) (h2 : pv_at (P j) x y z w = 0) : fs i = fs j ↔ pv_par (P i) (P j) :=
  ⟨fun e => pv_one_par ((fo_iff hn h hi hj).mp e), fun e => (fo_iff hn h hi hj).mpr (pv_meet hw e h1 h2)⟩
/-- one more plane -/
theorem fo_add {P : Nat → Nat → Int} {fs : Nat → Nat} {m f : Nat} (h : fo_ok P fs m) (hf : f ≤ m) (h1 : ∀ j, j < f → ¬ pv_one (P j) (P m)) (h2 : f < m → pv_one (P f) (P m)) : fo_ok P (fun i => if i = m then f else fs i) (m + 1) := by
  intro i hi
  by_cases him : i = m
  · subst him
    simp only [if_true]
    refine ⟨hf, h1, ?_⟩
    by_cases hlt : f < i
    · exact h2 hlt
    · have : f = i := by omega
      rw [this]
      exact pv_one_refl _
  · simp only [him, if_false]
    exact h i (by omega)
/-- the only plane through a point, by its first number -/
def fo_only (on : Nat → Bool) (fs : Nat → Nat) (m f : Nat) : Prop := (∃ i, i < m ∧ on i = true) ∧ ∀ i, i < m → on i = true → fs i = f
def fo_none (on : Nat → Bool) (fs : Nat → Nat) (m : Nat) : Prop := (∀ i, i < m → on i = false) ∨ ∃ i j, i < m ∧ j < m ∧ on i = true ∧ on j = true ∧ fs i ≠ fs j
theorem fo_not_both {on : Nat → Bool} {fs : Nat → Nat} {m f : Nat} (h1 : fo_only on fs m f) (h2 : fo_none on fs m) : False := by
  obtain ⟨⟨i, hi, hon⟩, hall⟩ := h1
  rcases h2 with h | ⟨a, b, ha, hb, ha2, hb2, hne⟩
  · rw [h i hi] at hon
    cases hon
  · exact hne ((hall a ha ha2).trans (hall b hb hb2).symm)
end
section
/-! What a call needs of the tables; what a state has beside its world. -/
theorem gx_co {R : Room} {s : State} {args : Array Value} {y : MethodName} {bytes : ByteArray} {maxL : Nat} {ret : Option FieldType} {rm : Room} (n : Nat) (hts : ∀ w ∈ tB, w.before args s = true) (hc : Cond.code y bytes maxL ret ∈ tB) (hi : Cond.initialized y.cls ∈ tB)
    (hd : y.cls ≠ "java/lang/invoke/MethodHandle" ∧ y.cls ≠ "java/lang/invoke/VarHandle" ∧ (parseMethodDescriptor y.desc).map (fun d => d.parameters.length) = some n) (hR : rm.frames + 1 ≤ R.frames ∧ 8 + (maxL + 11) + rm.locals ≤ R.locals) :
    gx_Call R s args y maxL (Cond.code y bytes maxL ret :: tB) rm rm.cells rm.slots n := by
  have hG : ∀ w ∈ Cond.code y bytes maxL ret :: tB, w ∈ tB ∧ ((w.onTables && w.keeps) = true ∨ ∃ ty, w = .arrayClass ty) := by
    intro w hw
    rcases List.mem_cons.mp hw with rfl | hw
    · exact ⟨hc, good_tB _ hc⟩
    · exact ⟨hw, good_tB w hw⟩
  obtain ⟨mk, hnamed⟩ := Cond.code_named (hts _ hc)
  obtain ⟨methM, cM, hmethM, hcM, -, hlM, -, -, -, hsigM⟩ := Cond.code_spec hnamed (hts _ hc)
  refine ⟨rfl, rfl, hR.1, hR.2, pay_in hts hG, ⟨mk, methM, cM, hnamed, hmethM, hcM, hlM, hsigM⟩, hts _ hi, ⟨hd.1, hd.2.1⟩, fun sig h => ?_⟩
  have h2 := hd.2.2
  rw [h] at h2
  exact (Option.some.inj h2).symm
theorem gx_coW {R : Room} {s : State} {args : Array Value} {y : MethodName} {bytes : ByteArray} {maxL : Nat} {ret : Option FieldType} {hs : List (Nat × Nat × Nat × Nat)} {rm : Room} (n : Nat) (hts : ∀ w ∈ tB, w.before args s = true) (hc : Cond.codeWith y bytes maxL ret hs ∈ tB) (hi : Cond.initialized y.cls ∈ tB)
    (hd : y.cls ≠ "java/lang/invoke/MethodHandle" ∧ y.cls ≠ "java/lang/invoke/VarHandle" ∧ (parseMethodDescriptor y.desc).map (fun d => d.parameters.length) = some n) (hR : rm.frames + 1 ≤ R.frames ∧ 8 + (maxL + 11) + rm.locals ≤ R.locals) :
    gx_Call R s args y maxL (Cond.codeWith y bytes maxL ret hs :: tB) rm rm.cells rm.slots n := by
  have hG : ∀ w ∈ Cond.codeWith y bytes maxL ret hs :: tB, w ∈ tB ∧ ((w.onTables && w.keeps) = true ∨ ∃ ty, w = .arrayClass ty) := by
    intro w hw
    rcases List.mem_cons.mp hw with rfl | hw
    · exact ⟨hc, good_tB _ hc⟩
    · exact ⟨hw, good_tB w hw⟩
  obtain ⟨mk, methM, cM, hnamed, hmethM, hcM, -, hlM, -, -, -, hsigM⟩ := Cond.codeWith_spec (hts _ hc)
  refine ⟨rfl, rfl, hR.1, hR.2, pay_in hts hG, ⟨mk, methM, cM, hnamed, hmethM, hcM, hlM, hsigM⟩, hts _ hi, ⟨hd.1, hd.2.1⟩, fun sig h => ?_⟩
  have h2 := hd.2.2
  rw [h] at h2
  exact (Option.some.inj h2).symm
abbrev w_X_init : List Cond := Cond.code y_X_init b_X_init 2 none :: tB
theorem q_X_init {R : Room} {s : State} {args : Array Value} {rm : Room} (hts : ∀ w ∈ tB, w.before args s = true) (hR : rm.frames + 1 ≤ R.frames ∧ 8 + (2 + 11) + rm.locals ≤ R.locals) : gx_Call R s args y_X_init 2 w_X_init rm rm.cells rm.slots 0 := gx_co 0 hts k_1_19 k_1_1 (by decide +kernel) hR
abbrev w_X_plane : List Cond := Cond.code y_X_plane b_X_plane 6 (some .int) :: tB
theorem q_X_plane {R : Room} {s : State} {args : Array Value} {rm : Room} (hts : ∀ w ∈ tB, w.before args s = true) (hR : rm.frames + 1 ≤ R.frames ∧ 8 + (6 + 11) + rm.locals ≤ R.locals) : gx_Call R s args y_X_plane 6 w_X_plane rm rm.cells rm.slots 4 := gx_co 4 hts k_1_142 k_1_1 (by decide +kernel) hR
abbrev w_X_planes : List Cond := Cond.code y_X_planes b_X_planes 1 (some .int) :: tB
theorem q_X_planes {R : Room} {s : State} {args : Array Value} {rm : Room} (hts : ∀ w ∈ tB, w.before args s = true) (hR : rm.frames + 1 ≤ R.frames ∧ 8 + (1 + 11) + rm.locals ≤ R.locals) : gx_Call R s args y_X_planes 1 w_X_planes rm rm.cells rm.slots 0 := gx_co 0 hts k_1_125 k_1_1 (by decide +kernel) hR
abbrev w_X_convex : List Cond := Cond.code y_X_convex b_X_convex 2 (some .int) :: tB
theorem q_X_convex {R : Room} {s : State} {args : Array Value} {rm : Room} (hts : ∀ w ∈ tB, w.before args s = true) (hR : rm.frames + 1 ≤ R.frames ∧ 8 + (2 + 11) + rm.locals ≤ R.locals) : gx_Call R s args y_X_convex 2 w_X_convex rm rm.cells rm.slots 1 := gx_co 1 hts k_2_4 k_1_1 (by decide +kernel) hR
abbrev w_X_join : List Cond := Cond.code y_X_join b_X_join 2 (some .int) :: tB
theorem q_X_join {R : Room} {s : State} {args : Array Value} {rm : Room} (hts : ∀ w ∈ tB, w.before args s = true) (hR : rm.frames + 1 ≤ R.frames ∧ 8 + (2 + 11) + rm.locals ≤ R.locals) : gx_Call R s args y_X_join 2 w_X_join rm rm.cells rm.slots 1 := gx_co 1 hts k_2_21 k_1_1 (by decide +kernel) hR
abbrev w_X_turn : List Cond := Cond.code y_X_turn b_X_turn 1 none :: tB
theorem q_X_turn {R : Room} {s : State} {args : Array Value} {rm : Room} (hts : ∀ w ∈ tB, w.before args s = true) (hR : rm.frames + 1 ≤ R.frames ∧ 8 + (1 + 11) + rm.locals ≤ R.locals) : gx_Call R s args y_X_turn 1 w_X_turn rm rm.cells rm.slots 0 := gx_co 0 hts k_2_38 k_1_1 (by decide +kernel) hR
abbrev w_X_copy : List Cond := Cond.code y_X_copy b_X_copy 2 (some .int) :: tB
theorem q_X_copy {R : Room} {s : State} {args : Array Value} {rm : Room} (hts : ∀ w ∈ tB, w.before args s = true) (hR : rm.frames + 1 ≤ R.frames ∧ 8 + (2 + 11) + rm.locals ≤ R.locals) : gx_Call R s args y_X_copy 2 w_X_copy rm rm.cells rm.slots 1 := gx_co 1 hts k_2_55 k_1_1 (by decide +kernel) hR
abbrev w_X_drop : List Cond := Cond.code y_X_drop b_X_drop 1 (some .int) :: tB
theorem q_X_drop {R : Room} {s : State} {args : Array Value} {rm : Room} (hts : ∀ w ∈ tB, w.before args s = true) (hR : rm.frames + 1 ≤ R.frames ∧ 8 + (1 + 11) + rm.locals ≤ R.locals) : gx_Call R s args y_X_drop 1 w_X_drop rm rm.cells rm.slots 0 := gx_co 0 hts k_2_82 k_1_1 (by decide +kernel) hR
abbrev w_X_solids : List Cond := Cond.code y_X_solids b_X_solids 1 (some .int) :: tB
theorem q_X_solids {R : Room} {s : State} {args : Array Value} {rm : Room} (hts : ∀ w ∈ tB, w.before args s = true) (hR : rm.frames + 1 ≤ R.frames ∧ 8 + (1 + 11) + rm.locals ≤ R.locals) : gx_Call R s args y_X_solids 1 w_X_solids rm rm.cells rm.slots 0 := gx_co 0 hts k_1_133 k_1_1 (by decide +kernel) hR
abbrev w_X_inside : List Cond := Cond.code y_X_inside b_X_inside 5 (some .int) :: tB
theorem q_X_inside {R : Room} {s : State} {args : Array Value} {rm : Room} (hts : ∀ w ∈ tB, w.before args s = true) (hR : rm.frames + 1 ≤ R.frames ∧ 8 + (5 + 11) + rm.locals ≤ R.locals) : gx_Call R s args y_X_inside 5 w_X_inside rm rm.cells rm.slots 4 := gx_co 4 hts k_2_89 k_1_1 (by decide +kernel) hR
abbrev w_X_side : List Cond := Cond.code y_X_side b_X_side 6 (some .int) :: tB
theorem q_X_side {R : Room} {s : State} {args : Array Value} {rm : Room} (hts : ∀ w ∈ tB, w.before args s = true) (hR : rm.frames + 1 ≤ R.frames ∧ 8 + (6 + 11) + rm.locals ≤ R.locals) : gx_Call R s args y_X_side 6 w_X_side rm rm.cells rm.slots 4 := gx_co 4 hts k_2_132 k_1_1 (by decide +kernel) hR
abbrev w_X_enters : List Cond := Cond.code y_X_enters b_X_enters 6 (some .int) :: tB
theorem q_X_enters {R : Room} {s : State} {args : Array Value} {rm : Room} (hts : ∀ w ∈ tB, w.before args s = true) (hR : rm.frames + 1 ≤ R.frames ∧ 8 + (6 + 11) + rm.locals ≤ R.locals) : gx_Call R s args y_X_enters 6 w_X_enters rm rm.cells rm.slots 3 := gx_co 3 hts k_2_180 k_1_1 (by decide +kernel) hR
abbrev w_X_isEntry : List Cond := Cond.code y_X_isEntry b_X_isEntry 10 (some .boolean) :: tB
theorem q_X_isEntry {R : Room} {s : State} {args : Array Value} {rm : Room} (hts : ∀ w ∈ tB, w.before args s = true) (hR : rm.frames + 1 ≤ R.frames ∧ 8 + (10 + 11) + rm.locals ≤ R.locals) : gx_Call R s args y_X_isEntry 10 w_X_isEntry rm rm.cells rm.slots 4 := gx_co 4 hts k_2_194 k_1_1 (by decide +kernel) hR
abbrev w_X_lookAtSpot : List Cond := Cond.code y_X_lookAtSpot b_X_lookAtSpot 4 (some .int) :: tB
theorem q_X_lookAtSpot {R : Room} {s : State} {args : Array Value} {rm : Room} (hts : ∀ w ∈ tB, w.before args s = true) (hR : rm.frames + 1 ≤ R.frames ∧ 8 + (4 + 11) + rm.locals ≤ R.locals) : gx_Call R s args y_X_lookAtSpot 4 w_X_lookAtSpot rm rm.cells rm.slots 1 := gx_co 1 hts k_2_156 k_1_1 (by decide +kernel) hR
abbrev w_X_topHas : List Cond := Cond.code y_X_topHas b_X_topHas 2 (some .boolean) :: tB
theorem q_X_topHas {R : Room} {s : State} {args : Array Value} {rm : Room} (hts : ∀ w ∈ tB, w.before args s = true) (hR : rm.frames + 1 ≤ R.frames ∧ 8 + (2 + 11) + rm.locals ≤ R.locals) : gx_Call R s args y_X_topHas 2 w_X_topHas rm rm.cells rm.slots 1 := gx_co 1 hts k_2_114 k_1_1 (by decide +kernel) hR
abbrev w_X_requireRoom : List Cond := Cond.code y_X_requireRoom b_X_requireRoom 1 none :: tB
theorem q_X_requireRoom {R : Room} {s : State} {args : Array Value} {rm : Room} (hts : ∀ w ∈ tB, w.before args s = true) (hR : rm.frames + 1 ≤ R.frames ∧ 8 + (1 + 11) + rm.locals ≤ R.locals) : gx_Call R s args y_X_requireRoom 1 w_X_requireRoom rm rm.cells rm.slots 0 := gx_co 0 hts k_2_9 k_1_1 (by decide +kernel) hR
abbrev w_X_requireSolid : List Cond := Cond.code y_X_requireSolid b_X_requireSolid 1 none :: tB
theorem q_X_requireSolid {R : Room} {s : State} {args : Array Value} {rm : Room} (hts : ∀ w ∈ tB, w.before args s = true) (hR : rm.frames + 1 ≤ R.frames ∧ 8 + (1 + 11) + rm.locals ≤ R.locals) : gx_Call R s args y_X_requireSolid 1 w_X_requireSolid rm rm.cells rm.slots 0 := gx_co 0 hts k_2_42 k_1_1 (by decide +kernel) hR
abbrev w_X_requirePoint : List Cond := Cond.code y_X_requirePoint b_X_requirePoint 4 none :: tB
theorem q_X_requirePoint {R : Room} {s : State} {args : Array Value} {rm : Room} (hts : ∀ w ∈ tB, w.before args s = true) (hR : rm.frames + 1 ≤ R.frames ∧ 8 + (4 + 11) + rm.locals ≤ R.locals) : gx_Call R s args y_X_requirePoint 4 w_X_requirePoint rm rm.cells rm.slots 4 := gx_co 4 hts k_2_92 k_1_1 (by decide +kernel) hR
abbrev w_X_isBeyond : List Cond := Cond.code y_X_isBeyond b_X_isBeyond 2 (some .boolean) :: tB
theorem q_X_isBeyond {R : Room} {s : State} {args : Array Value} {rm : Room} (hts : ∀ w ∈ tB, w.before args s = true) (hR : rm.frames + 1 ≤ R.frames ∧ 8 + (2 + 11) + rm.locals ≤ R.locals) : gx_Call R s args y_X_isBeyond 2 w_X_isBeyond rm rm.cells rm.slots 2 := gx_co 2 hts k_1_215 k_1_1 (by decide +kernel) hR
abbrev w_Mo_init : List Cond := Cond.code y_Mo_init b_Mo_init 1 none :: tB
theorem q_Mo_init {R : Room} {s : State} {args : Array Value} {rm : Room} (hts : ∀ w ∈ tB, w.before args s = true) (hR : rm.frames + 1 ≤ R.frames ∧ 8 + (1 + 11) + rm.locals ≤ R.locals) : gx_Call R s args y_Mo_init 1 w_Mo_init rm rm.cells rm.slots 0 := gx_co 0 hts k_2_221 k_1_6 (by decide +kernel) hR
abbrev w_Mo_thrown : List Cond := Cond.code y_Mo_thrown b_Mo_thrown 1 (some .int) :: tB
theorem q_Mo_thrown {R : Room} {s : State} {args : Array Value} {rm : Room} (hts : ∀ w ∈ tB, w.before args s = true) (hR : rm.frames + 1 ≤ R.frames ∧ 8 + (1 + 11) + rm.locals ≤ R.locals) : gx_Call R s args y_Mo_thrown 1 w_Mo_thrown rm rm.cells rm.slots 0 := gx_co 0 hts k_3_14 k_1_6 (by decide +kernel) hR
abbrev w_Mo_within : List Cond := Cond.code y_Mo_within b_Mo_within 2 (some .boolean) :: tB
theorem q_Mo_within {R : Room} {s : State} {args : Array Value} {rm : Room} (hts : ∀ w ∈ tB, w.before args s = true) (hR : rm.frames + 1 ≤ R.frames ∧ 8 + (2 + 11) + rm.locals ≤ R.locals) : gx_Call R s args y_Mo_within 2 w_Mo_within rm rm.cells rm.slots 2 := gx_co 2 hts k_3_22 k_1_6 (by decide +kernel) hR
abbrev w_Mo_plane : List Cond := Cond.code y_Mo_plane b_Mo_plane 6 (some .int) :: tB
theorem q_Mo_plane {R : Room} {s : State} {args : Array Value} {rm : Room} (hts : ∀ w ∈ tB, w.before args s = true) (hR : rm.frames + 1 ≤ R.frames ∧ 8 + (6 + 11) + rm.locals ≤ R.locals) : gx_Call R s args y_Mo_plane 6 w_Mo_plane rm rm.cells rm.slots 4 := gx_co 4 hts k_3_18 k_1_6 (by decide +kernel) hR
abbrev w_Mo_planes : List Cond := Cond.code y_Mo_planes b_Mo_planes 1 (some .int) :: tB
theorem q_Mo_planes {R : Room} {s : State} {args : Array Value} {rm : Room} (hts : ∀ w ∈ tB, w.before args s = true) (hR : rm.frames + 1 ≤ R.frames ∧ 8 + (1 + 11) + rm.locals ≤ R.locals) : gx_Call R s args y_Mo_planes 1 w_Mo_planes rm rm.cells rm.slots 0 := gx_co 0 hts k_3_27 k_1_6 (by decide +kernel) hR
abbrev w_Mo_convex : List Cond := Cond.code y_Mo_convex b_Mo_convex 3 (some .int) :: tB
theorem q_Mo_convex {R : Room} {s : State} {args : Array Value} {rm : Room} (hts : ∀ w ∈ tB, w.before args s = true) (hR : rm.frames + 1 ≤ R.frames ∧ 8 + (3 + 11) + rm.locals ≤ R.locals) : gx_Call R s args y_Mo_convex 3 w_Mo_convex rm rm.cells rm.slots 1 := gx_co 1 hts k_3_31 k_1_6 (by decide +kernel) hR
abbrev w_Mo_join : List Cond := Cond.code y_Mo_join b_Mo_join 7 (some .int) :: tB
theorem q_Mo_join {R : Room} {s : State} {args : Array Value} {rm : Room} (hts : ∀ w ∈ tB, w.before args s = true) (hR : rm.frames + 1 ≤ R.frames ∧ 8 + (7 + 11) + rm.locals ≤ R.locals) : gx_Call R s args y_Mo_join 7 w_Mo_join rm rm.cells rm.slots 1 := gx_co 1 hts k_3_35 k_1_6 (by decide +kernel) hR
abbrev w_Mo_turn : List Cond := Cond.code y_Mo_turn b_Mo_turn 2 none :: tB
theorem q_Mo_turn {R : Room} {s : State} {args : Array Value} {rm : Room} (hts : ∀ w ∈ tB, w.before args s = true) (hR : rm.frames + 1 ≤ R.frames ∧ 8 + (2 + 11) + rm.locals ≤ R.locals) : gx_Call R s args y_Mo_turn 2 w_Mo_turn rm rm.cells rm.slots 0 := gx_co 0 hts k_3_40 k_1_6 (by decide +kernel) hR
abbrev w_Mo_copy : List Cond := Cond.code y_Mo_copy b_Mo_copy 3 (some .int) :: tB
theorem q_Mo_copy {R : Room} {s : State} {args : Array Value} {rm : Room} (hts : ∀ w ∈ tB, w.before args s = true) (hR : rm.frames + 1 ≤ R.frames ∧ 8 + (3 + 11) + rm.locals ≤ R.locals) : gx_Call R s args y_Mo_copy 3 w_Mo_copy rm rm.cells rm.slots 1 := gx_co 1 hts k_3_44 k_1_6 (by decide +kernel) hR
abbrev w_Mo_drop : List Cond := Cond.code y_Mo_drop b_Mo_drop 1 (some .int) :: tB
theorem q_Mo_drop {R : Room} {s : State} {args : Array Value} {rm : Room} (hts : ∀ w ∈ tB, w.before args s = true) (hR : rm.frames + 1 ≤ R.frames ∧ 8 + (1 + 11) + rm.locals ≤ R.locals) : gx_Call R s args y_Mo_drop 1 w_Mo_drop rm rm.cells rm.slots 0 := gx_co 0 hts k_3_48 k_1_6 (by decide +kernel) hR
abbrev w_Mo_solids : List Cond := Cond.code y_Mo_solids b_Mo_solids 1 (some .int) :: tB
theorem q_Mo_solids {R : Room} {s : State} {args : Array Value} {rm : Room} (hts : ∀ w ∈ tB, w.before args s = true) (hR : rm.frames + 1 ≤ R.frames ∧ 8 + (1 + 11) + rm.locals ≤ R.locals) : gx_Call R s args y_Mo_solids 1 w_Mo_solids rm rm.cells rm.slots 0 := gx_co 0 hts k_3_52 k_1_6 (by decide +kernel) hR
abbrev w_Mo_topHas : List Cond := Cond.code y_Mo_topHas b_Mo_topHas 2 (some .boolean) :: tB
theorem q_Mo_topHas {R : Room} {s : State} {args : Array Value} {rm : Room} (hts : ∀ w ∈ tB, w.before args s = true) (hR : rm.frames + 1 ≤ R.frames ∧ 8 + (2 + 11) + rm.locals ≤ R.locals) : gx_Call R s args y_Mo_topHas 2 w_Mo_topHas rm rm.cells rm.slots 1 := gx_co 1 hts k_3_78 k_1_6 (by decide +kernel) hR
abbrev w_Mo_isPoint : List Cond := Cond.code y_Mo_isPoint b_Mo_isPoint 4 (some .boolean) :: tB
theorem q_Mo_isPoint {R : Room} {s : State} {args : Array Value} {rm : Room} (hts : ∀ w ∈ tB, w.before args s = true) (hR : rm.frames + 1 ≤ R.frames ∧ 8 + (4 + 11) + rm.locals ≤ R.locals) : gx_Call R s args y_Mo_isPoint 4 w_Mo_isPoint rm rm.cells rm.slots 4 := gx_co 4 hts k_3_59 k_1_6 (by decide +kernel) hR
abbrev w_Mo_look : List Cond := Cond.code y_Mo_look b_Mo_look 6 none :: tB
theorem q_Mo_look {R : Room} {s : State} {args : Array Value} {rm : Room} (hts : ∀ w ∈ tB, w.before args s = true) (hR : rm.frames + 1 ≤ R.frames ∧ 8 + (6 + 11) + rm.locals ≤ R.locals) : gx_Call R s args y_Mo_look 6 w_Mo_look rm rm.cells rm.slots 4 := gx_co 4 hts k_3_63 k_1_6 (by decide +kernel) hR
abbrev w_Mo_lies : List Cond := Cond.code y_Mo_lies b_Mo_lies 3 (some .int) :: tB
theorem q_Mo_lies {R : Room} {s : State} {args : Array Value} {rm : Room} (hts : ∀ w ∈ tB, w.before args s = true) (hR : rm.frames + 1 ≤ R.frames ∧ 8 + (3 + 11) + rm.locals ≤ R.locals) : gx_Call R s args y_Mo_lies 3 w_Mo_lies rm rm.cells rm.slots 2 := gx_co 2 hts k_3_70 k_1_6 (by decide +kernel) hR
abbrev w_Mo_choice : List Cond := Cond.code y_Mo_choice b_Mo_choice 3 (some .int) :: tB
theorem q_Mo_choice {R : Room} {s : State} {args : Array Value} {rm : Room} (hts : ∀ w ∈ tB, w.before args s = true) (hR : rm.frames + 1 ≤ R.frames ∧ 8 + (3 + 11) + rm.locals ≤ R.locals) : gx_Call R s args y_Mo_choice 3 w_Mo_choice rm rm.cells rm.slots 0 := gx_co 0 hts k_3_74 k_1_6 (by decide +kernel) hR
abbrev w_Mo_isOnGiven : List Cond := Cond.code y_Mo_isOnGiven b_Mo_isOnGiven 3 (some .boolean) :: tB
theorem q_Mo_isOnGiven {R : Room} {s : State} {args : Array Value} {rm : Room} (hts : ∀ w ∈ tB, w.before args s = true) (hR : rm.frames + 1 ≤ R.frames ∧ 8 + (3 + 11) + rm.locals ≤ R.locals) : gx_Call R s args y_Mo_isOnGiven 3 w_Mo_isOnGiven rm rm.cells rm.slots 0 := gx_co 0 hts k_3_67 k_1_6 (by decide +kernel) hR
abbrev w_Mo_inside : List Cond := Cond.code y_Mo_inside b_Mo_inside 6 (some .int) :: tB
theorem q_Mo_inside {R : Room} {s : State} {args : Array Value} {rm : Room} (hts : ∀ w ∈ tB, w.before args s = true) (hR : rm.frames + 1 ≤ R.frames ∧ 8 + (6 + 11) + rm.locals ≤ R.locals) : gx_Call R s args y_Mo_inside 6 w_Mo_inside rm rm.cells rm.slots 4 := gx_co 4 hts k_3_56 k_1_6 (by decide +kernel) hR
abbrev w_Mo_normal : List Cond := Cond.code y_Mo_normal b_Mo_normal 3 (some .int) :: tB
theorem q_Mo_normal {R : Room} {s : State} {args : Array Value} {rm : Room} (hts : ∀ w ∈ tB, w.before args s = true) (hR : rm.frames + 1 ≤ R.frames ∧ 8 + (3 + 11) + rm.locals ≤ R.locals) : gx_Call R s args y_Mo_normal 3 w_Mo_normal rm rm.cells rm.slots 2 := gx_co 2 hts k_3_94 k_1_6 (by decide +kernel) hR
abbrev w_Mo_alike : List Cond := Cond.code y_Mo_alike b_Mo_alike 9 (some .int) :: tB
theorem q_Mo_alike {R : Room} {s : State} {args : Array Value} {rm : Room} (hts : ∀ w ∈ tB, w.before args s = true) (hR : rm.frames + 1 ≤ R.frames ∧ 8 + (9 + 11) + rm.locals ≤ R.locals) : gx_Call R s args y_Mo_alike 9 w_Mo_alike rm rm.cells rm.slots 2 := gx_co 2 hts k_3_90 k_1_6 (by decide +kernel) hR
abbrev w_Mo_choiceAt : List Cond := Cond.code y_Mo_choiceAt b_Mo_choiceAt 6 (some .int) :: tB
theorem q_Mo_choiceAt {R : Room} {s : State} {args : Array Value} {rm : Room} (hts : ∀ w ∈ tB, w.before args s = true) (hR : rm.frames + 1 ≤ R.frames ∧ 8 + (6 + 11) + rm.locals ≤ R.locals) : gx_Call R s args y_Mo_choiceAt 6 w_Mo_choiceAt rm rm.cells rm.slots 2 := gx_co 2 hts k_3_98 k_1_6 (by decide +kernel) hR
abbrev w_Mo_sideOf : List Cond := Cond.code y_Mo_sideOf b_Mo_sideOf 9 (some .int) :: tB
theorem q_Mo_sideOf {R : Room} {s : State} {args : Array Value} {rm : Room} (hts : ∀ w ∈ tB, w.before args s = true) (hR : rm.frames + 1 ≤ R.frames ∧ 8 + (9 + 11) + rm.locals ≤ R.locals) : gx_Call R s args y_Mo_sideOf 9 w_Mo_sideOf rm rm.cells rm.slots 4 := gx_co 4 hts k_3_86 k_1_6 (by decide +kernel) hR
abbrev w_Mo_side : List Cond := Cond.code y_Mo_side b_Mo_side 9 (some .int) :: tB
theorem q_Mo_side {R : Room} {s : State} {args : Array Value} {rm : Room} (hts : ∀ w ∈ tB, w.before args s = true) (hR : rm.frames + 1 ≤ R.frames ∧ 8 + (9 + 11) + rm.locals ≤ R.locals) : gx_Call R s args y_Mo_side 9 w_Mo_side rm rm.cells rm.slots 4 := gx_co 4 hts k_3_82 k_1_6 (by decide +kernel) hR
abbrev w_Mo_compare : List Cond := Cond.code y_Mo_compare b_Mo_compare 12 (some .int) :: tB
theorem q_Mo_compare {R : Room} {s : State} {args : Array Value} {rm : Room} (hts : ∀ w ∈ tB, w.before args s = true) (hR : rm.frames + 1 ≤ R.frames ∧ 8 + (12 + 11) + rm.locals ≤ R.locals) : gx_Call R s args y_Mo_compare 12 w_Mo_compare rm rm.cells rm.slots 4 := gx_co 4 hts k_3_118 k_1_6 (by decide +kernel) hR
abbrev w_Mo_meet : List Cond := Cond.code y_Mo_meet b_Mo_meet 11 (some .boolean) :: tB
theorem q_Mo_meet {R : Room} {s : State} {args : Array Value} {rm : Room} (hts : ∀ w ∈ tB, w.before args s = true) (hR : rm.frames + 1 ≤ R.frames ∧ 8 + (11 + 11) + rm.locals ≤ R.locals) : gx_Call R s args y_Mo_meet 11 w_Mo_meet rm rm.cells rm.slots 3 := gx_co 3 hts k_3_106 k_1_6 (by decide +kernel) hR
abbrev w_Mo_isInBox : List Cond := Cond.code y_Mo_isInBox b_Mo_isInBox 2 (some .boolean) :: tB
theorem q_Mo_isInBox {R : Room} {s : State} {args : Array Value} {rm : Room} (hts : ∀ w ∈ tB, w.before args s = true) (hR : rm.frames + 1 ≤ R.frames ∧ 8 + (2 + 11) + rm.locals ≤ R.locals) : gx_Call R s args y_Mo_isInBox 2 w_Mo_isInBox rm rm.cells rm.slots 1 := gx_co 1 hts k_3_114 k_1_6 (by decide +kernel) hR
abbrev w_Mo_isCrossed : List Cond := Cond.code y_Mo_isCrossed b_Mo_isCrossed 6 (some .boolean) :: tB
theorem q_Mo_isCrossed {R : Room} {s : State} {args : Array Value} {rm : Room} (hts : ∀ w ∈ tB, w.before args s = true) (hR : rm.frames + 1 ≤ R.frames ∧ 8 + (6 + 11) + rm.locals ≤ R.locals) : gx_Call R s args y_Mo_isCrossed 6 w_Mo_isCrossed rm rm.cells rm.slots 1 := gx_co 1 hts k_3_110 k_1_6 (by decide +kernel) hR
abbrev w_Mo_choiceBehind : List Cond := Cond.code y_Mo_choiceBehind b_Mo_choiceBehind 10 (some .int) :: tB
theorem q_Mo_choiceBehind {R : Room} {s : State} {args : Array Value} {rm : Room} (hts : ∀ w ∈ tB, w.before args s = true) (hR : rm.frames + 1 ≤ R.frames ∧ 8 + (10 + 11) + rm.locals ≤ R.locals) : gx_Call R s args y_Mo_choiceBehind 10 w_Mo_choiceBehind rm rm.cells rm.slots 3 := gx_co 3 hts k_3_123 k_1_6 (by decide +kernel) hR
abbrev w_Mo_enters : List Cond := Cond.code y_Mo_enters b_Mo_enters 16 (some .int) :: tB
theorem q_Mo_enters {R : Room} {s : State} {args : Array Value} {rm : Room} (hts : ∀ w ∈ tB, w.before args s = true) (hR : rm.frames + 1 ≤ R.frames ∧ 8 + (16 + 11) + rm.locals ≤ R.locals) : gx_Call R s args y_Mo_enters 16 w_Mo_enters rm rm.cells rm.slots 3 := gx_co 3 hts k_3_102 k_1_6 (by decide +kernel) hR
abbrev w_Pl_init : List Cond := Cond.code y_Pl_init b_Pl_init 9 none :: tB
theorem q_Pl_init {R : Room} {s : State} {args : Array Value} {rm : Room} (hts : ∀ w ∈ tB, w.before args s = true) (hR : rm.frames + 1 ≤ R.frames ∧ 8 + (9 + 11) + rm.locals ≤ R.locals) : gx_Call R s args y_Pl_init 9 w_Pl_init rm rm.cells rm.slots 4 := gx_co 4 hts k_1_35 k_1_3 (by decide +kernel) hR
abbrev w_Pl_factor : List Cond := Cond.code y_Pl_factor b_Pl_factor 2 (some .long) :: tB
theorem q_Pl_factor {R : Room} {s : State} {args : Array Value} {rm : Room} (hts : ∀ w ∈ tB, w.before args s = true) (hR : rm.frames + 1 ≤ R.frames ∧ 8 + (2 + 11) + rm.locals ≤ R.locals) : gx_Call R s args y_Pl_factor 2 w_Pl_factor rm rm.cells rm.slots 1 := gx_co 1 hts k_2_202 k_1_3 (by decide +kernel) hR
abbrev w_Pl_excess : List Cond := Cond.code y_Pl_excess b_Pl_excess 2 (some .long) :: tB
theorem q_Pl_excess {R : Room} {s : State} {args : Array Value} {rm : Room} (hts : ∀ w ∈ tB, w.before args s = true) (hR : rm.frames + 1 ≤ R.frames ∧ 8 + (2 + 11) + rm.locals ≤ R.locals) : gx_Call R s args y_Pl_excess 2 w_Pl_excess rm rm.cells rm.slots 1 := gx_co 1 hts k_2_106 k_1_3 (by decide +kernel) hR
abbrev w_Pl_isOneWith : List Cond := Cond.code y_Pl_isOneWith b_Pl_isOneWith 2 (some .boolean) :: tB
theorem q_Pl_isOneWith {R : Room} {s : State} {args : Array Value} {rm : Room} (hts : ∀ w ∈ tB, w.before args s = true) (hR : rm.frames + 1 ≤ R.frames ∧ 8 + (2 + 11) + rm.locals ≤ R.locals) : gx_Call R s args y_Pl_isOneWith 2 w_Pl_isOneWith rm rm.cells rm.slots 1 := gx_co 1 hts k_1_62 k_1_3 (by decide +kernel) hR
abbrev w_Pl_looksLike : List Cond := Cond.code y_Pl_looksLike b_Pl_looksLike 2 (some .boolean) :: tB
theorem q_Pl_looksLike {R : Room} {s : State} {args : Array Value} {rm : Room} (hts : ∀ w ∈ tB, w.before args s = true) (hR : rm.frames + 1 ≤ R.frames ∧ 8 + (2 + 11) + rm.locals ≤ R.locals) : gx_Call R s args y_Pl_looksLike 2 w_Pl_looksLike rm rm.cells rm.slots 1 := gx_co 1 hts k_2_169 k_1_3 (by decide +kernel) hR
abbrev w_Ps_init : List Cond := Cond.code y_Ps_init b_Ps_init 1 none :: tB
theorem q_Ps_init {R : Room} {s : State} {args : Array Value} {rm : Room} (hts : ∀ w ∈ tB, w.before args s = true) (hR : rm.frames + 1 ≤ R.frames ∧ 8 + (1 + 11) + rm.locals ≤ R.locals) : gx_Call R s args y_Ps_init 1 w_Ps_init rm rm.cells rm.slots 0 := gx_co 0 hts k_1_27 k_1_2 (by decide +kernel) hR
abbrev w_Ps_isCellInBox : List Cond := Cond.code y_Ps_isCellInBox b_Ps_isCellInBox 1 (some .boolean) :: tB
theorem q_Ps_isCellInBox {R : Room} {s : State} {args : Array Value} {rm : Room} (hts : ∀ w ∈ tB, w.before args s = true) (hR : rm.frames + 1 ≤ R.frames ∧ 8 + (1 + 11) + rm.locals ≤ R.locals) : gx_Call R s args y_Ps_isCellInBox 1 w_Ps_isCellInBox rm rm.cells rm.slots 1 := gx_co 1 hts k_2_117 k_1_2 (by decide +kernel) hR
abbrev w_Ps_givenOfCell : List Cond := Cond.code y_Ps_givenOfCell b_Ps_givenOfCell 1 (some .int) :: tB
theorem q_Ps_givenOfCell {R : Room} {s : State} {args : Array Value} {rm : Room} (hts : ∀ w ∈ tB, w.before args s = true) (hR : rm.frames + 1 ≤ R.frames ∧ 8 + (1 + 11) + rm.locals ≤ R.locals) : gx_Call R s args y_Ps_givenOfCell 1 w_Ps_givenOfCell rm rm.cells rm.slots 1 := gx_co 1 hts k_2_120 k_1_2 (by decide +kernel) hR
abbrev w_Ps_add : List Cond := Cond.code y_Ps_add b_Ps_add 2 none :: tB
theorem q_Ps_add {R : Room} {s : State} {args : Array Value} {rm : Room} (hts : ∀ w ∈ tB, w.before args s = true) (hR : rm.frames + 1 ≤ R.frames ∧ 8 + (2 + 11) + rm.locals ≤ R.locals) : gx_Call R s args y_Ps_add 2 w_Ps_add rm rm.cells rm.slots 1 := gx_co 1 hts k_1_54 k_1_2 (by decide +kernel) hR
abbrev w_Ps_firstOneWith : List Cond := Cond.code y_Ps_firstOneWith b_Ps_firstOneWith 3 (some .int) :: tB
theorem q_Ps_firstOneWith {R : Room} {s : State} {args : Array Value} {rm : Room} (hts : ∀ w ∈ tB, w.before args s = true) (hR : rm.frames + 1 ≤ R.frames ∧ 8 + (3 + 11) + rm.locals ≤ R.locals) : gx_Call R s args y_Ps_firstOneWith 3 w_Ps_firstOneWith rm rm.cells rm.slots 1 := gx_co 1 hts k_1_58 k_1_2 (by decide +kernel) hR
abbrev w_Ps_count : List Cond := Cond.code y_Ps_count b_Ps_count 1 (some .int) :: tB
theorem q_Ps_count {R : Room} {s : State} {args : Array Value} {rm : Room} (hts : ∀ w ∈ tB, w.before args s = true) (hR : rm.frames + 1 ≤ R.frames ∧ 8 + (1 + 11) + rm.locals ≤ R.locals) : gx_Call R s args y_Ps_count 1 w_Ps_count rm rm.cells rm.slots 0 := gx_co 0 hts k_2_186 k_1_2 (by decide +kernel) hR
abbrev w_Ps_given : List Cond := Cond.code y_Ps_given b_Ps_given 1 (some .int) :: tB
theorem q_Ps_given {R : Room} {s : State} {args : Array Value} {rm : Room} (hts : ∀ w ∈ tB, w.before args s = true) (hR : rm.frames + 1 ≤ R.frames ∧ 8 + (1 + 11) + rm.locals ≤ R.locals) : gx_Call R s args y_Ps_given 1 w_Ps_given rm rm.cells rm.slots 0 := gx_co 0 hts k_1_129 k_1_2 (by decide +kernel) hR
abbrev w_Ps_get : List Cond := Cond.code y_Ps_get b_Ps_get 2 (some (.object "CarvedSolids$Plane")) :: tB
theorem q_Ps_get {R : Room} {s : State} {args : Array Value} {rm : Room} (hts : ∀ w ∈ tB, w.before args s = true) (hR : rm.frames + 1 ≤ R.frames ∧ 8 + (2 + 11) + rm.locals ≤ R.locals) : gx_Call R s args y_Ps_get 2 w_Ps_get rm rm.cells rm.slots 1 := gx_co 1 hts k_2_198 k_1_2 (by decide +kernel) hR
abbrev w_Ps_isFirst : List Cond := Cond.code y_Ps_isFirst b_Ps_isFirst 2 (some .boolean) :: tB
theorem q_Ps_isFirst {R : Room} {s : State} {args : Array Value} {rm : Room} (hts : ∀ w ∈ tB, w.before args s = true) (hR : rm.frames + 1 ≤ R.frames ∧ 8 + (2 + 11) + rm.locals ≤ R.locals) : gx_Call R s args y_Ps_isFirst 2 w_Ps_isFirst rm rm.cells rm.slots 1 := gx_co 1 hts k_2_190 k_1_2 (by decide +kernel) hR
abbrev w_Ps_isInBox : List Cond := Cond.code y_Ps_isInBox b_Ps_isInBox 3 (some .boolean) :: tB
theorem q_Ps_isInBox {R : Room} {s : State} {args : Array Value} {rm : Room} (hts : ∀ w ∈ tB, w.before args s = true) (hR : rm.frames + 1 ≤ R.frames ∧ 8 + (3 + 11) + rm.locals ≤ R.locals) : gx_Call R s args y_Ps_isInBox 3 w_Ps_isInBox rm rm.cells rm.slots 1 := gx_co 1 hts k_2_215 k_1_2 (by decide +kernel) hR
abbrev w_Ps_isOnAny : List Cond := Cond.code y_Ps_isOnAny b_Ps_isOnAny 3 (some .boolean) :: tB
theorem q_Ps_isOnAny {R : Room} {s : State} {args : Array Value} {rm : Room} (hts : ∀ w ∈ tB, w.before args s = true) (hR : rm.frames + 1 ≤ R.frames ∧ 8 + (3 + 11) + rm.locals ≤ R.locals) : gx_Call R s args y_Ps_isOnAny 3 w_Ps_isOnAny rm rm.cells rm.slots 1 := gx_co 1 hts k_2_102 k_1_2 (by decide +kernel) hR
abbrev w_Ps_onlyOneAt : List Cond := Cond.code y_Ps_onlyOneAt b_Ps_onlyOneAt 4 (some .int) :: tB
theorem q_Ps_onlyOneAt {R : Room} {s : State} {args : Array Value} {rm : Room} (hts : ∀ w ∈ tB, w.before args s = true) (hR : rm.frames + 1 ≤ R.frames ∧ 8 + (4 + 11) + rm.locals ≤ R.locals) : gx_Call R s args y_Ps_onlyOneAt 4 w_Ps_onlyOneAt rm rm.cells rm.slots 1 := gx_co 1 hts k_2_136 k_1_2 (by decide +kernel) hR
abbrev w_Ps_cellOf : List Cond := Cond.code y_Ps_cellOf b_Ps_cellOf 4 (some .int) :: tB
theorem q_Ps_cellOf {R : Room} {s : State} {args : Array Value} {rm : Room} (hts : ∀ w ∈ tB, w.before args s = true) (hR : rm.frames + 1 ≤ R.frames ∧ 8 + (4 + 11) + rm.locals ≤ R.locals) : gx_Call R s args y_Ps_cellOf 4 w_Ps_cellOf rm rm.cells rm.slots 1 := gx_co 1 hts k_2_110 k_1_2 (by decide +kernel) hR
abbrev w_Ps_cellWhereLess : List Cond := Cond.code y_Ps_cellWhereLess b_Ps_cellWhereLess 3 (some .int) :: tB
theorem q_Ps_cellWhereLess {R : Room} {s : State} {args : Array Value} {rm : Room} (hts : ∀ w ∈ tB, w.before args s = true) (hR : rm.frames + 1 ≤ R.frames ∧ 8 + (3 + 11) + rm.locals ≤ R.locals) : gx_Call R s args y_Ps_cellWhereLess 3 w_Ps_cellWhereLess rm rm.cells rm.slots 2 := gx_co 2 hts k_2_160 k_1_2 (by decide +kernel) hR
abbrev w_Ps_cellWhereMore : List Cond := Cond.code y_Ps_cellWhereMore b_Ps_cellWhereMore 3 (some .int) :: tB
theorem q_Ps_cellWhereMore {R : Room} {s : State} {args : Array Value} {rm : Room} (hts : ∀ w ∈ tB, w.before args s = true) (hR : rm.frames + 1 ≤ R.frames ∧ 8 + (3 + 11) + rm.locals ≤ R.locals) : gx_Call R s args y_Ps_cellWhereMore 3 w_Ps_cellWhereMore rm rm.cells rm.slots 2 := gx_co 2 hts k_2_173 k_1_2 (by decide +kernel) hR
abbrev w_Ps_halfSpacesAlong : List Cond := Cond.code y_Ps_halfSpacesAlong b_Ps_halfSpacesAlong 5 (some .int) :: tB
theorem q_Ps_halfSpacesAlong {R : Room} {s : State} {args : Array Value} {rm : Room} (hts : ∀ w ∈ tB, w.before args s = true) (hR : rm.frames + 1 ≤ R.frames ∧ 8 + (5 + 11) + rm.locals ≤ R.locals) : gx_Call R s args y_Ps_halfSpacesAlong 5 w_Ps_halfSpacesAlong rm rm.cells rm.slots 2 := gx_co 2 hts k_2_165 k_1_2 (by decide +kernel) hR
abbrev w_Pt_init : List Cond := Cond.code y_Pt_init b_Pt_init 1 none :: tB
theorem q_Pt_init {R : Room} {s : State} {args : Array Value} {rm : Room} (hts : ∀ w ∈ tB, w.before args s = true) (hR : rm.frames + 1 ≤ R.frames ∧ 8 + (1 + 11) + rm.locals ≤ R.locals) : gx_Call R s args y_Pt_init 1 w_Pt_init rm rm.cells rm.slots 0 := gx_co 0 hts k_1_90 k_1_5 (by decide +kernel) hR
abbrev w_Pt_place : List Cond := Cond.code y_Pt_place b_Pt_place 9 none :: tB
theorem q_Pt_place {R : Room} {s : State} {args : Array Value} {rm : Room} (hts : ∀ w ∈ tB, w.before args s = true) (hR : rm.frames + 1 ≤ R.frames ∧ 8 + (9 + 11) + rm.locals ≤ R.locals) : gx_Call R s args y_Pt_place 9 w_Pt_place rm rm.cells rm.slots 4 := gx_co 4 hts k_2_98 k_1_5 (by decide +kernel) hR
abbrev w_Pt_placeOnAxis : List Cond := Cond.code y_Pt_placeOnAxis b_Pt_placeOnAxis 14 none :: tB
theorem q_Pt_placeOnAxis {R : Room} {s : State} {args : Array Value} {rm : Room} (hts : ∀ w ∈ tB, w.before args s = true) (hR : rm.frames + 1 ≤ R.frames ∧ 8 + (14 + 11) + rm.locals ≤ R.locals) : gx_Call R s args y_Pt_placeOnAxis 14 w_Pt_placeOnAxis rm rm.cells rm.slots 5 := gx_co 5 hts k_2_206 k_1_5 (by decide +kernel) hR
abbrev w_So_init : List Cond := Cond.code y_So_init b_So_init 1 none :: tB
theorem q_So_init {R : Room} {s : State} {args : Array Value} {rm : Room} (hts : ∀ w ∈ tB, w.before args s = true) (hR : rm.frames + 1 ≤ R.frames ∧ 8 + (1 + 11) + rm.locals ≤ R.locals) : gx_Call R s args y_So_init 1 w_So_init rm rm.cells rm.slots 0 := gx_co 0 hts k_1_79 k_1_4 (by decide +kernel) hR
abbrev w_So_has : List Cond := Cond.code y_So_has b_So_has 2 (some .boolean) :: tB
theorem q_So_has {R : Room} {s : State} {args : Array Value} {rm : Room} (hts : ∀ w ∈ tB, w.before args s = true) (hR : rm.frames + 1 ≤ R.frames ∧ 8 + (2 + 11) + rm.locals ≤ R.locals) : gx_Call R s args y_So_has 2 w_So_has rm rm.cells rm.slots 1 := gx_co 1 hts k_2_124 k_1_4 (by decide +kernel) hR
abbrev w_So_becomeConvex : List Cond := Cond.code y_So_becomeConvex b_So_becomeConvex 3 none :: tB
theorem q_So_becomeConvex {R : Room} {s : State} {args : Array Value} {rm : Room} (hts : ∀ w ∈ tB, w.before args s = true) (hR : rm.frames + 1 ≤ R.frames ∧ 8 + (3 + 11) + rm.locals ≤ R.locals) : gx_Call R s args y_So_becomeConvex 3 w_So_becomeConvex rm rm.cells rm.slots 1 := gx_co 1 hts k_2_14 k_1_4 (by decide +kernel) hR
abbrev w_So_becomeLike : List Cond := Cond.code y_So_becomeLike b_So_becomeLike 3 none :: tB
theorem q_So_becomeLike {R : Room} {s : State} {args : Array Value} {rm : Room} (hts : ∀ w ∈ tB, w.before args s = true) (hR : rm.frames + 1 ≤ R.frames ∧ 8 + (3 + 11) + rm.locals ≤ R.locals) : gx_Call R s args y_So_becomeLike 3 w_So_becomeLike rm rm.cells rm.slots 1 := gx_co 1 hts k_2_75 k_1_4 (by decide +kernel) hR
abbrev w_So_becomeItsRest : List Cond := Cond.code y_So_becomeItsRest b_So_becomeItsRest 2 none :: tB
theorem q_So_becomeItsRest {R : Room} {s : State} {args : Array Value} {rm : Room} (hts : ∀ w ∈ tB, w.before args s = true) (hR : rm.frames + 1 ≤ R.frames ∧ 8 + (2 + 11) + rm.locals ≤ R.locals) : gx_Call R s args y_So_becomeItsRest 2 w_So_becomeItsRest rm rm.cells rm.slots 0 := gx_co 0 hts k_2_47 k_1_4 (by decide +kernel) hR
abbrev w_So_joinWith : List Cond := Cond.code y_So_joinWith b_So_joinWith 4 none :: tB
theorem q_So_joinWith {R : Room} {s : State} {args : Array Value} {rm : Room} (hts : ∀ w ∈ tB, w.before args s = true) (hR : rm.frames + 1 ≤ R.frames ∧ 8 + (4 + 11) + rm.locals ≤ R.locals) : gx_Call R s args y_So_joinWith 4 w_So_joinWith rm rm.cells rm.slots 2 := gx_co 2 hts k_2_27 k_1_4 (by decide +kernel) hR
abbrev w_So_joined : List Cond := Cond.code y_So_joined b_So_joined 5 (some .long) :: tB
theorem q_So_joined {R : Room} {s : State} {args : Array Value} {rm : Room} (hts : ∀ w ∈ tB, w.before args s = true) (hR : rm.frames + 1 ≤ R.frames ∧ 8 + (5 + 11) + rm.locals ≤ R.locals) : gx_Call R s args y_So_joined 5 w_So_joined rm rm.cells rm.slots 3 := gx_co 3 hts k_2_30 k_1_4 (by decide +kernel) hR
abbrev w_La_plane : List Cond := Cond.codeWith y_La_plane b_La_plane 7 (some .int) [(0, 14, 17, 13), (0, 14, 21, 15)] :: tB
theorem q_La_plane {R : Room} {s : State} {args : Array Value} {rm : Room} (hts : ∀ w ∈ tB, w.before args s = true) (hR : rm.frames + 1 ≤ R.frames ∧ 8 + (7 + 11) + rm.locals ≤ R.locals) : gx_Call R s args y_La_plane 7 w_La_plane rm rm.cells rm.slots 6 := gx_coW 6 hts k_1_136 k_1_0 (by decide +kernel) hR
abbrev w_La_convex : List Cond := Cond.codeWith y_La_convex b_La_convex 4 (some .int) [(0, 9, 12, 13), (0, 9, 15, 15)] :: tB
theorem q_La_convex {R : Room} {s : State} {args : Array Value} {rm : Room} (hts : ∀ w ∈ tB, w.before args s = true) (hR : rm.frames + 1 ≤ R.frames ∧ 8 + (4 + 11) + rm.locals ≤ R.locals) : gx_Call R s args y_La_convex 4 w_La_convex rm rm.cells rm.slots 3 := gx_coW 3 hts k_2_0 k_1_0 (by decide +kernel) hR
abbrev w_La_join : List Cond := Cond.codeWith y_La_join b_La_join 4 (some .int) [(0, 9, 12, 13), (0, 9, 15, 15)] :: tB
theorem q_La_join {R : Room} {s : State} {args : Array Value} {rm : Room} (hts : ∀ w ∈ tB, w.before args s = true) (hR : rm.frames + 1 ≤ R.frames ∧ 8 + (4 + 11) + rm.locals ≤ R.locals) : gx_Call R s args y_La_join 4 w_La_join rm rm.cells rm.slots 3 := gx_coW 3 hts k_2_17 k_1_0 (by decide +kernel) hR
abbrev w_La_turn : List Cond := Cond.codeWith y_La_turn b_La_turn 2 (some .int) [(0, 4, 7, 15)] :: tB
theorem q_La_turn {R : Room} {s : State} {args : Array Value} {rm : Room} (hts : ∀ w ∈ tB, w.before args s = true) (hR : rm.frames + 1 ≤ R.frames ∧ 8 + (2 + 11) + rm.locals ≤ R.locals) : gx_Call R s args y_La_turn 2 w_La_turn rm rm.cells rm.slots 1 := gx_coW 1 hts k_2_34 k_1_0 (by decide +kernel) hR
abbrev w_La_copy : List Cond := Cond.codeWith y_La_copy b_La_copy 4 (some .int) [(0, 9, 12, 30), (0, 9, 15, 15)] :: tB
theorem q_La_copy {R : Room} {s : State} {args : Array Value} {rm : Room} (hts : ∀ w ∈ tB, w.before args s = true) (hR : rm.frames + 1 ≤ R.frames ∧ 8 + (4 + 11) + rm.locals ≤ R.locals) : gx_Call R s args y_La_copy 4 w_La_copy rm rm.cells rm.slots 3 := gx_coW 3 hts k_2_50 k_1_0 (by decide +kernel) hR
abbrev w_La_drop : List Cond := Cond.codeWith y_La_drop b_La_drop 3 (some .int) [(0, 8, 11, 15)] :: tB
theorem q_La_drop {R : Room} {s : State} {args : Array Value} {rm : Room} (hts : ∀ w ∈ tB, w.before args s = true) (hR : rm.frames + 1 ≤ R.frames ∧ 8 + (3 + 11) + rm.locals ≤ R.locals) : gx_Call R s args y_La_drop 3 w_La_drop rm rm.cells rm.slots 2 := gx_coW 2 hts k_2_78 k_1_0 (by decide +kernel) hR
abbrev w_La_inside : List Cond := Cond.codeWith y_La_inside b_La_inside 7 (some .int) [(0, 14, 17, 13), (0, 14, 21, 15)] :: tB
theorem q_La_inside {R : Room} {s : State} {args : Array Value} {rm : Room} (hts : ∀ w ∈ tB, w.before args s = true) (hR : rm.frames + 1 ≤ R.frames ∧ 8 + (7 + 11) + rm.locals ≤ R.locals) : gx_Call R s args y_La_inside 7 w_La_inside rm rm.cells rm.slots 6 := gx_coW 6 hts k_2_85 k_1_0 (by decide +kernel) hR
abbrev w_La_side : List Cond := Cond.codeWith y_La_side b_La_side 7 (some .int) [(0, 14, 17, 13), (0, 14, 21, 15), (0, 14, 25, 42)] :: tB
theorem q_La_side {R : Room} {s : State} {args : Array Value} {rm : Room} (hts : ∀ w ∈ tB, w.before args s = true) (hR : rm.frames + 1 ≤ R.frames ∧ 8 + (7 + 11) + rm.locals ≤ R.locals) : gx_Call R s args y_La_side 7 w_La_side rm rm.cells rm.slots 6 := gx_coW 6 hts k_2_127 k_1_0 (by decide +kernel) hR
abbrev w_La_enters : List Cond := Cond.codeWith y_La_enters b_La_enters 6 (some .int) [(0, 12, 15, 13), (0, 12, 19, 15), (0, 12, 23, 42)] :: tB
theorem q_La_enters {R : Room} {s : State} {args : Array Value} {rm : Room} (hts : ∀ w ∈ tB, w.before args s = true) (hR : rm.frames + 1 ≤ R.frames ∧ 8 + (6 + 11) + rm.locals ≤ R.locals) : gx_Call R s args y_La_enters 6 w_La_enters rm rm.cells rm.slots 5 := gx_coW 5 hts k_2_176 k_1_0 (by decide +kernel) hR
abbrev xS : List (Nat × String) := [(36, "a, b and c are all 0"), (46, "a, b and c go from -1000000 to 1000000"), (49, "d goes from -1000000000 to 1000000000"), (57, "eight planes are given"), (69, "the set has a plane that is not given"), (189, "there are six solids"), (78, "solids are joined in the ways 0 to 3"), (80, "there are not two solids"), (191, "there is no solid"), (94, "there is no such solid"), (193, "w goes from 1 to 1000"), (195, "x, y and z go from -1000000 to 1000000"), (125, "the point is not on a side"), (132, "the axes are 0, 1 and 2"), (134, "u and v go from -999 to 999"), (171, "the line has a point of the box on two planes")]
abbrev xE : List String := [R_IA, R_IS, R_IO, R_NS]
abbrev xD : List MethodName := [⟨"java/lang/Exception", "<init>", "()V"⟩, ⟨"java/lang/Exception", "<init>", "(Ljava/lang/String;)V"⟩, ⟨"java/lang/RuntimeException", "<init>", "()V"⟩, ⟨"java/lang/RuntimeException", "<init>", "(Ljava/lang/String;)V"⟩, ⟨"java/lang/Throwable", "<init>", "()V"⟩, ⟨"java/lang/Throwable", "<init>", "(Ljava/lang/String;)V"⟩]
/-- what a state has beside its world: links between nest mates, the exceptions' classes, two statics, the messages -/
def xF (b0 : Nat) (U : State) : Prop :=
  (∀ q ∈ [(22, "x"), (27, "y"), (30, "z"), (33, "w")], va_Nw (.fieldLinkNest R_Pl q.1 R_Pt q.2 "J" R_X) U) ∧ va_Nw (.methodLinkNest R_X 25 y_Pt_init R_X) U ∧ (va_AO R_Pl U ∧ va_AO R_So U) ∧
  (∀ E ∈ xE, va_Nw (.castable E E) U) ∧ (∀ E ∈ xE, ∀ F ∈ xE, E ≠ F → va_Nc E F U) ∧ (∀ y ∈ xD, va_Nw (.declares y) U) ∧
  (vx_Zq Bundle.tN "UNASSIGNED_STACK" Bundle.steD (fun q => b0 ≤ q) U U.heap ∧ vx_Zq Bundle.tN "SUPPRESSED_SENTINEL" Bundle.listD (fun q => b0 ≤ q) U U.heap) ∧ ∀ q ∈ xS, ∃ a, vk_R R_X q.1 q.2 a U
theorem xF_ok (b0 : Nat) : gh_X b0 (xF b0) := by
  intro U V hW hb hq h
  obtain ⟨h1, h2, ⟨h3, h4⟩, h5, h6, h7, ⟨h8, h9⟩, h10⟩ := h
  have hk : ∀ a : Nat, a < U.heap.size → ¬ b0 ≤ a → V.heap[a]? = U.heap[a]? := fun a _ ha => hq a (by omega)
  refine ⟨fun q hq => va_Nw.warmF hW (h1 q hq), va_Nw.warmM hW h2, ⟨va_AO.moved hW.alike h3, va_AO.moved hW.alike h4⟩, fun E hE => va_Nw.warmC hW (h5 E hE), fun E hE F hF hn => va_Nc.moved hW.alike (h6 E hE F hF hn), fun y hy => va_Nw.warmD hW (h7 y hy), ⟨vx_Zq.moved hW.alike (h8.kept hk), vx_Zq.moved hW.alike (h9.kept hk)⟩, fun q hq => ?_⟩
  obtain ⟨a, ha⟩ := h10 q hq
  exact ⟨a, vk_R.warm hW ha⟩
abbrev tZ (cI cJ cP cS : ClassId) : List (ClassId × FieldType) := [(cI, .int), (cJ, .long), (cP, .object R_Pl), (cS, .object R_So)]
end
section
/-! Loops; what the methods compute, as functions. -/
/-- a loop that counts up to n and writes nothing -/
theorem lp_up {α : Type} {G : Array Slot → Prop} (n : Nat) (I : Nat → α → Array Slot → Prop) (step : ∀ k a ls, k ≤ n → I k a ls → (∀ a' ls', k < n → I (k + 1) a' ls' → G ls') → G ls) : ∀ k a ls, k ≤ n → I k a ls → G ls := by
  have H : ∀ d k a ls, n - k < d → k ≤ n → I k a ls → G ls := by
    intro d
    induction d with
    | zero => intro k a ls hd; omega
    | succ d ih =>
      intro k a ls hd hk hI
      exact step k a ls hk hI (fun a' ls' hlt hI' => ih (k + 1) a' ls' (by omega) (by omega) hI')
  exact fun k a ls hk hI => H (n - k + 1) k a ls (by omega) hk hI
/-- .. and may write -/
theorem lp_upH {α : Type} {G : Array Slot → Heap → List Loc → Prop} (n : Nat) (I : Nat → α → Array Slot → Heap → List Loc → Prop) (step : ∀ k a ls H l9, k ≤ n → I k a ls H l9 → (∀ a' ls' H' l', k < n → I (k + 1) a' ls' H' l' → G ls' H' l') → G ls H l9) : ∀ k a ls H l9, k ≤ n → I k a ls H l9 → G ls H l9 := by
  have K : ∀ d k a ls H l9, n - k < d → k ≤ n → I k a ls H l9 → G ls H l9 := by
    intro d
    induction d with
    | zero => intro k a ls H l9 hd; omega
    | succ d ih =>
      intro k a ls H l9 hd hk hI
      exact step k a ls H l9 hk hI (fun a' ls' H' l' hlt hI' => ih (k + 1) a' ls' H' l' (by omega) (by omega) hI')
  exact fun k a ls H l9 hk hI => K (n - k + 1) k a ls H l9 (by omega) hk hI
/-- .. by a measure -/
theorem lp_mu {α : Type} {G : Array Slot → Prop} (I : α → Array Slot → Prop) (μ : α → Nat) (step : ∀ a ls, I a ls → (∀ a' ls', μ a' < μ a → I a' ls' → G ls') → G ls) : ∀ a ls, I a ls → G ls := by
  have H : ∀ d a ls, μ a < d → I a ls → G ls := by
    intro d
    induction d with
    | zero => intro a ls hd; omega
    | succ d ih =>
      intro a ls hd hI
      exact step a ls hI (fun a' ls' hlt hI' => ih a' ls' (by omega) hI')
  exact fun a ls hI => H (μ a + 1) a ls (by omega) hI
theorem gh_gen {p : Program} {l : Launch} {e : Env} {R : Room} {s : State} {m : MethodId} {args : Array Value} {below : List Frame} {meth : Method} {c : Code} {H H0 : Heap} {locs : List Loc} {cells slots : Nat} {Q : State → Prop} {D : va_G} {cl : List vw_C} {b0 : Nat} {h : gh_M} {g : JFrame}
    (hG : gh_P D cl b0 h H0 H locs) (k : ∀ (H : Heap) (l9 : List Loc), gh_P D cl b0 h H0 H l9 → W p l e R s m args below meth c H l9 cells slots Q g) : W p l e R s m args below meth c H locs cells slots Q g := k H locs hG
theorem nc_le {a b : Nat} (ha : a < 2 ^ 31) (hb : b < 2 ^ 31) {x y : Int32} (hx : x = nI a) (hy : y = nI b) : x ≤ y ↔ a ≤ b := by subst hx; subst hy; exact nI_leI ha hb
theorem nc_lt {a b : Nat} (ha : a < 2 ^ 31) (hb : b < 2 ^ 31) {x y : Int32} (hx : x = nI a) (hy : y = nI b) : x < y ↔ a < b := by subst hx; subst hy; exact nI_ltI ha hb
theorem nc_eq {a b : Nat} (ha : a < 2 ^ 31) (hb : b < 2 ^ 31) {x y : Int32} (hx : x = nI a) (hy : y = nI b) : x = y ↔ a = b := by subst hx; subst hy; exact nI_eq ha hb
def m_b (b : Bool) : Int32 := if b = true then 1 else 0
theorem mb_0 {b : Bool} : m_b b = 0 ↔ b = false := by cases b <;> simp [m_b]
theorem mb_1 {b : Bool} : ¬ m_b b = 0 ↔ b = true := by cases b <;> simp [m_b]
theorem mb_nz (b : Bool) : narrow .boolean (.int (m_b b)) = .int (m_b b) := by cases b <;> rfl
theorem mb_eq {a b : Bool} : m_b a = m_b b ↔ a = b := by cases a <;> cases b <;> simp [m_b]
def m_fac (ax : Int32) (pa pb pc : Int64) : Int64 := if ax = 0 then pa else if ax = 1 then pb else pc
def m_exc (pa pb pc pd x y z w : Int64) : Int64 := pa * x + pb * y + pc * z - pd * w
def m_one (pa pb pc pd qa qb qc qd : Int64) : Bool := decide (pa * qb = pb * qa) && (decide (pa * qc = pc * qa) && (decide (pb * qc = pc * qb) && (decide (pa * qd = pd * qa) && (decide (pb * qd = pd * qb) && decide (pc * qd = pd * qc)))))
def m_lk (pa pb pc qa qb qc : Int64) : Bool := decide (0 < pa * qa + pb * qb + pc * qc)
/-- bits set where g holds -/
def m_bits (g : Nat → Bool) : Nat → Int32
  | 0 => 0
  | k + 1 => if g k = true then m_bits g k ||| ((1 : Int32) <<< (nI k &&& 31)) else m_bits g k
def m_any (g : Nat → Bool) (n : Nat) : Bool := (List.range n).any g
def m_all (g : Nat → Bool) (n : Nat) : Bool := (List.range n).all g
theorem m_any_t {g : Nat → Bool} {n k : Nat} (hk : k < n) (h : g k = true) : m_any g n = true := List.any_eq_true.mpr ⟨k, List.mem_range.mpr hk, h⟩
theorem m_any_f {g : Nat → Bool} {n : Nat} (h : ∀ i, i < n → g i = false) : m_any g n = false := by
  cases hh : m_any g n with
  | false => rfl
  | true =>
    obtain ⟨k, hk, hg⟩ := List.any_eq_true.mp hh
    rw [h k (List.mem_range.mp hk)] at hg
    cases hg
theorem m_all_f {g : Nat → Bool} {n k : Nat} (hk : k < n) (h : g k = false) : m_all g n = false := by
  cases hh : m_all g n with
  | false => rfl
  | true =>
    have := List.all_eq_true.mp hh k (List.mem_range.mpr hk)
    rw [h] at this
    cases this
theorem m_all_t {g : Nat → Bool} {n : Nat} (h : ∀ i, i < n → g i = true) : m_all g n = true := List.all_eq_true.mpr (fun i hi => h i (List.mem_range.mp hi))
/-- the least number that g holds of, or n -/
def m_fst (g : Nat → Bool) : Nat → Nat
  | 0 => 0
  | n + 1 => if m_fst g n < n then m_fst g n else if g n = true then n else n + 1
theorem m_fst_no {g : Nat → Bool} {n : Nat} (h : ∀ j, j < n → g j = false) : m_fst g n = n := by
  induction n with
  | zero => rfl
  | succ n ih =>
    simp only [m_fst]
    rw [ih (fun j hj => h j (by omega)), h n (by omega)]
    simp
theorem m_fst_at {g : Nat → Bool} {n k : Nat} (h : ∀ j, j < k → g j = false) (hk : k < n) (hg : g k = true) : m_fst g n = k := by
  induction n with
  | zero => omega
  | succ n ih =>
    simp only [m_fst]
    by_cases hkn : k = n
    · subst hkn
      rw [m_fst_no h]
      simp [hg]
    · rw [ih (by omega)]
      simp
      omega
/-- the only first number among those that on holds of, so far; none: there are two -/
def m_fnd (on : Nat → Bool) (fs : Nat → Nat) : Nat → Option Int32
  | 0 => some (-1)
  | k + 1 => match m_fnd on fs k with
    | none => none
    | some v => if on k = true then (if v ≠ -1 ∧ v ≠ nI (fs k) then none else some (nI (fs k))) else some v
def m_only (on : Nat → Bool) (fs : Nat → Nat) (n : Nat) : Int32 := (m_fnd on fs n).getD (-1)
theorem m_fnd_none {on : Nat → Bool} {fs : Nat → Nat} {k : Nat} (h : m_fnd on fs k = none) : ∀ n, k ≤ n → m_fnd on fs n = none := by
  intro n
  induction n with
  | zero => intro hk; rw [show k = 0 by omega] at h; exact h
  | succ n ih =>
    intro hk
    by_cases hkn : k = n + 1
    · subst hkn; exact h
    · simp only [m_fnd]
      rw [ih (by omega)]
theorem m_bits_t {g : Nat → Bool} {k : Nat} (h : g k = true) : m_bits g (k + 1) = m_bits g k ||| ((1 : Int32) <<< (nI k &&& 31)) := by simp only [m_bits]; rw [if_pos h]
theorem m_bits_f {g : Nat → Bool} {k : Nat} (h : g k = false) : m_bits g (k + 1) = m_bits g k := by simp only [m_bits]; rw [if_neg (by rw [h]; decide)]
theorem m_fnd_s1 {on : Nat → Bool} {fs : Nat → Nat} {k : Nat} {v : Int32} (h : m_fnd on fs k = some v) (ho : on k = false) : m_fnd on fs (k + 1) = some v := by
  simp only [m_fnd]
  rw [h]
  simp [ho]
theorem m_fnd_s2 {on : Nat → Bool} {fs : Nat → Nat} {k : Nat} {v : Int32} (h : m_fnd on fs k = some v) (ho : on k = true) (hv : v = -1 ∨ v = nI (fs k)) : m_fnd on fs (k + 1) = some (nI (fs k)) := by
  simp only [m_fnd]
  rw [h]
  rcases hv with hv | hv <;> simp [ho, hv]
theorem m_fnd_n {on : Nat → Bool} {fs : Nat → Nat} {k : Nat} {v : Int32} (h : m_fnd on fs k = some v) (ho : on k = true) (h1 : ¬ v = -1) (h2 : ¬ v = nI (fs k)) : m_fnd on fs (k + 1) = none := by
  simp only [m_fnd]
  rw [h]
  simp [ho, h1, h2]
end
section
section
variable {l : Launch} {D : va_G} {cI cJ cP cS : ClassId} {b0 : Nat} {h : gh_M}

set_option maxHeartbeats 4000000 in
set_option maxRecDepth 100000 in
/-- Point(): nothing but Object() -/
theorem c_Pt_init {a : Nat} : gh_C l D vC (tZ cI cJ cP cS) (xF b0) b0 y_Pt_init w_Pt_init ({ frames := 1, cells := 0, slots := 0, locals := 12 }) [.ref a] h (rV h) := by
  refine gh_ofW (by decide) (Nat.le_of_ble_eq_true rfl) ?_
  intro p e s m below meth c ls hctx hno hl hG hK hX
  obtain ⟨hx, hb, hr, hml, hown, hlk, hts, hnm⟩ := hctx
  have htb : ∀ w ∈ tB, w.before _ s = true := fun w hw => hts w (List.mem_cons_of_mem _ hw)
  replace hl : lv_has ls 1 [(0, .ref a)] := hl
  refine lv_aload_n hx hb d_Pt_init_0 rfl (lv_at hl 0 rfl) ?_
  refine W.objInit hx hb hown (htb _ k_1_91) (htb _ k_1_21) (htb _ k_1_22) rfl (by rw [hml]; exact hl.1) rfl d_Pt_init_1 (Nat.le_of_ble_eq_true rfl) (Nat.le_of_ble_eq_true rfl) ?_
  refine W.eq (g2 := F0 m 4 ls []) rfl ?_
  exact gh_vret hx hb hr hlk hG d_Pt_init_4 ⟨rfl, rfl⟩

set_option maxHeartbeats 4000000 in
set_option maxRecDepth 100000 in
/-- place -/
theorem c_Pt_place {a : Nat} {x0 y0 z0 w0 x y z w : Int64} (ha : h a = some (.inr (3, [.long x0, .long y0, .long z0, .long w0]))) : gh_C l D vC (tZ cI cJ cP cS) (xF b0) b0 y_Pt_place w_Pt_place ({ frames := 0, cells := 0, slots := 0, locals := 0 }) [.ref a, .long x, .long y, .long z, .long w] h (rV (gh_up h a (.inr (3, [.long x, .long y, .long z, .long w])))) := by
  refine gh_ofW (by decide) (Nat.le_of_ble_eq_true rfl) ?_
  intro p e s m below meth c ls hctx hno hl hG hK hX
  obtain ⟨hx, hb, hr, hml, hown, hlk, hts, hnm⟩ := hctx
  have htb : ∀ w ∈ tB, w.before _ s = true := fun w hw => hts w (List.mem_cons_of_mem _ hw)
  replace hl : lv_has ls 9 [(0, .ref a), (1, .long x), (3, .long y), (5, .long z), (7, .long w)] := hl
  refine lv_aload_n hx hb d_Pt_place_0 rfl (lv_at hl 0 rfl) ?_
  refine lv_lload_n hx hb d_Pt_place_1 rfl (lv_at hl 1 rfl) ?_
  refine gh_put (ci := 3) (ty := .long) hx hb htb in_Pt t_Pt ty_Pt nm_Pt hown hK hG ha rfl 0 (by decide) (htb _ k_1_92) (fun _ h9 => h9) rfl (by decide +kernel) rfl rfl (Nat.le_of_ble_eq_true rfl) d_Pt_place_2 (fun H l9 hG => ?_)
  have hq1 : (gh_up h a (.inr (3, [.long x, .long y0, .long z0, .long w0]))) a = some (.inr (3, [.long x, .long y0, .long z0, .long w0])) := gh_self _ _ _
  replace hG : gh_P D vC b0 (gh_up h a (.inr (3, [.long x, .long y0, .long z0, .long w0]))) s.heap _ _ := hG
  refine lv_aload_n hx hb d_Pt_place_5 rfl (lv_at hl 0 rfl) ?_
  refine lv_lload_n hx hb d_Pt_place_6 rfl (lv_at hl 2 rfl) ?_
  refine gh_put (ci := 3) (ty := .long) hx hb htb in_Pt t_Pt ty_Pt nm_Pt hown hK hG hq1 rfl 1 (by decide) (htb _ k_1_94) (fun _ h9 => h9) rfl (by decide +kernel) rfl rfl (Nat.le_of_ble_eq_true rfl) d_Pt_place_7 (fun H l9 hG => ?_)
  have hq2 : (gh_up (gh_up h a (.inr (3, [.long x, .long y0, .long z0, .long w0]))) a (.inr (3, [.long x, .long y, .long z0, .long w0]))) a = some (.inr (3, [.long x, .long y, .long z0, .long w0])) := gh_self _ _ _
  replace hG : gh_P D vC b0 (gh_up (gh_up h a (.inr (3, [.long x, .long y0, .long z0, .long w0]))) a (.inr (3, [.long x, .long y, .long z0, .long w0]))) s.heap _ _ := hG
  refine lv_aload_n hx hb d_Pt_place_10 rfl (lv_at hl 0 rfl) ?_
  refine lv_lload hx hb d_Pt_place_11 (lv_at hl 3 rfl) ?_
  refine gh_put (ci := 3) (ty := .long) hx hb htb in_Pt t_Pt ty_Pt nm_Pt hown hK hG hq2 rfl 2 (by decide) (htb _ k_1_96) (fun _ h9 => h9) rfl (by decide +kernel) rfl rfl (Nat.le_of_ble_eq_true rfl) d_Pt_place_13 (fun H l9 hG => ?_)
  have hq3 : (gh_up (gh_up (gh_up h a (.inr (3, [.long x, .long y0, .long z0, .long w0]))) a (.inr (3, [.long x, .long y, .long z0, .long w0]))) a (.inr (3, [.long x, .long y, .long z, .long w0]))) a = some (.inr (3, [.long x, .long y, .long z, .long w0])) := gh_self _ _ _
  replace hG : gh_P D vC b0 (gh_up (gh_up (gh_up h a (.inr (3, [.long x, .long y0, .long z0, .long w0]))) a (.inr (3, [.long x, .long y, .long z0, .long w0]))) a (.inr (3, [.long x, .long y, .long z, .long w0]))) s.heap _ _ := hG
  refine lv_aload_n hx hb d_Pt_place_16 rfl (lv_at hl 0 rfl) ?_
  refine lv_lload hx hb d_Pt_place_17 (lv_at hl 4 rfl) ?_
  refine gh_put (ci := 3) (ty := .long) hx hb htb in_Pt t_Pt ty_Pt nm_Pt hown hK hG hq3 rfl 3 (by decide) (htb _ k_1_98) (fun _ h9 => h9) rfl (by decide +kernel) rfl rfl (Nat.le_of_ble_eq_true rfl) d_Pt_place_19 (fun H l9 hG => ?_)
  have hq4 : (gh_up (gh_up (gh_up (gh_up h a (.inr (3, [.long x, .long y0, .long z0, .long w0]))) a (.inr (3, [.long x, .long y, .long z0, .long w0]))) a (.inr (3, [.long x, .long y, .long z, .long w0]))) a (.inr (3, [.long x, .long y, .long z, .long w]))) a = some (.inr (3, [.long x, .long y, .long z, .long w])) := gh_self _ _ _
  replace hG : gh_P D vC b0 (gh_up (gh_up (gh_up (gh_up h a (.inr (3, [.long x, .long y0, .long z0, .long w0]))) a (.inr (3, [.long x, .long y, .long z0, .long w0]))) a (.inr (3, [.long x, .long y, .long z, .long w0]))) a (.inr (3, [.long x, .long y, .long z, .long w]))) s.heap _ _ := hG
  exact gh_vret hx hb hr hlk hG d_Pt_place_22 ⟨rfl, by simp only [gh_uu]⟩

def m_onax (ax : Int32) (al u v w : Int64) : List Value := if ax = 0 then [.long al, .long (u * w), .long (v * w), .long w] else if ax = 1 then [.long (u * w), .long al, .long (v * w), .long w] else [.long (u * w), .long (v * w), .long al, .long w]

set_option maxHeartbeats 4000000 in
set_option maxRecDepth 100000 in
/-- placeOnAxis -/
theorem c_Pt_placeOnAxis {a : Nat} {ax : Int32} {x0 y0 z0 w0 al u v w : Int64} (ha : h a = some (.inr (3, [.long x0, .long y0, .long z0, .long w0]))) : gh_C l D vC (tZ cI cJ cP cS) (xF b0) b0 y_Pt_placeOnAxis w_Pt_placeOnAxis ({ frames := 1, cells := 0, slots := 0, locals := 28 }) [.ref a, .int ax, .long al, .long u, .long v, .long w] h (rV (gh_up h a (.inr (3, m_onax ax al u v w)))) := by
  refine gh_ofW (by decide) (Nat.le_of_ble_eq_true rfl) ?_
  intro p e s m below meth c ls hctx hno hl hG hK hX
  obtain ⟨hx, hb, hr, hml, hown, hlk, hts, hnm⟩ := hctx
  have htb : ∀ w ∈ tB, w.before _ s = true := fun w hw => hts w (List.mem_cons_of_mem _ hw)
  replace hl : lv_has ls 14 [(0, .ref a), (1, .int ax), (2, .long al), (4, .long u), (6, .long v), (8, .long w)] := hl
  refine lv_lload hx hb d_Pt_placeOnAxis_0 (lv_at hl 3 rfl) ?_
  refine lv_lload hx hb d_Pt_placeOnAxis_2 (lv_at hl 5 rfl) ?_
  refine lv_lmul hx hb d_Pt_placeOnAxis_4 ?_
  refine lv_lstore (lv' := [(10, .long (u * w)), (0, .ref a), (1, .int ax), (2, .long al), (4, .long u), (6, .long v), (8, .long w)]) hx hb d_Pt_placeOnAxis_5 hl (by decide) rfl (fun ls hl => ?_)
  refine lv_lload hx hb d_Pt_placeOnAxis_7 (lv_at hl 5 rfl) ?_
  refine lv_lload hx hb d_Pt_placeOnAxis_9 (lv_at hl 6 rfl) ?_
  refine lv_lmul hx hb d_Pt_placeOnAxis_11 ?_
  refine lv_lstore (lv' := [(12, .long (v * w)), (10, .long (u * w)), (0, .ref a), (1, .int ax), (2, .long al), (4, .long u), (6, .long v), (8, .long w)]) hx hb d_Pt_placeOnAxis_12 hl (by decide) rfl (fun ls hl => ?_)
  refine lv_iload_n hx hb d_Pt_placeOnAxis_14 rfl (lv_at hl 3 rfl) ?_
  refine lv_if_ne (tgt := 32) hx hb d_Pt_placeOnAxis_15 (by decide) (fun hc15 => ?_) (fun hc15 => ?_)
  · skip
    refine lv_iload_n hx hb d_Pt_placeOnAxis_32 rfl (lv_at hl 3 rfl) ?_
    refine lv_iconst (v := 1) hx hb d_Pt_placeOnAxis_33 (by decide) ?_
    refine lv_icmp_ne (tgt := 51) hx hb d_Pt_placeOnAxis_34 (by decide) (fun hc34 => ?_) (fun hc34 => ?_)
    · skip
      refine lv_aload_n hx hb d_Pt_placeOnAxis_51 rfl (lv_at hl 2 rfl) ?_
      refine lv_lload hx hb d_Pt_placeOnAxis_52 (lv_at hl 1 rfl) ?_
      refine lv_lload hx hb d_Pt_placeOnAxis_54 (lv_at hl 0 rfl) ?_
      refine lv_lload_n hx hb d_Pt_placeOnAxis_56 rfl (lv_at hl 4 rfl) ?_
      refine lv_lload hx hb d_Pt_placeOnAxis_57 (lv_at hl 7 rfl) ?_
      refine gh_cV (ci := 3) (As := [.long (u * w), .long (v * w), .long al, .long w]) (rest := []) (xF_ok b0) hx hb hml hown hK hX hG rfl ha (c_Pt_place ha) (q_Pt_place htb ⟨by decide, by decide⟩) (htb _ k_2_207) (htb _ k_2_96) (htb _ k_2_97) rfl hl.1 rfl (Nat.le_of_ble_eq_true rfl) d_Pt_placeOnAxis_59 ⟨by decide, by decide⟩ (fun v9 h9 H l9 hp9 hG => ?_) (fun _ _ _ _ hp9 _ => by cases hp9.1)
      obtain ⟨hv9, hh9⟩ := hp9
      cases hv9
      rw [hh9] at hG
      refine W.eq (g2 := F0 m 62 ls []) rfl ?_
      refine W.widen (k := 0) (n := 0) (by decide) (by decide) ?_
      exact gh_vret hx hb hr hlk hG d_Pt_placeOnAxis_62 ⟨rfl, by simp_all [m_onax]⟩
    · skip
      refine lv_aload_n hx hb d_Pt_placeOnAxis_37 rfl (lv_at hl 2 rfl) ?_
      refine lv_lload hx hb d_Pt_placeOnAxis_38 (lv_at hl 1 rfl) ?_
      refine lv_lload_n hx hb d_Pt_placeOnAxis_40 rfl (lv_at hl 4 rfl) ?_
      refine lv_lload hx hb d_Pt_placeOnAxis_41 (lv_at hl 0 rfl) ?_
      refine lv_lload hx hb d_Pt_placeOnAxis_43 (lv_at hl 7 rfl) ?_
      refine gh_cV (ci := 3) (As := [.long (u * w), .long al, .long (v * w), .long w]) (rest := []) (xF_ok b0) hx hb hml hown hK hX hG rfl ha (c_Pt_place ha) (q_Pt_place htb ⟨by decide, by decide⟩) (htb _ k_2_207) (htb _ k_2_96) (htb _ k_2_97) rfl hl.1 rfl (Nat.le_of_ble_eq_true rfl) d_Pt_placeOnAxis_45 ⟨by decide, by decide⟩ (fun v9 h9 H l9 hp9 hG => ?_) (fun _ _ _ _ hp9 _ => by cases hp9.1)
      obtain ⟨hv9, hh9⟩ := hp9
      cases hv9
      rw [hh9] at hG
      refine W.eq (g2 := F0 m 48 ls []) rfl ?_
      refine W.widen (k := 0) (n := 0) (by decide) (by decide) ?_
      refine lv_goto (tgt := 62) hx hb d_Pt_placeOnAxis_48 (by decide) ?_
      exact gh_vret hx hb hr hlk hG d_Pt_placeOnAxis_62 ⟨rfl, by simp_all [m_onax]⟩
  · skip
    refine lv_aload_n hx hb d_Pt_placeOnAxis_18 rfl (lv_at hl 2 rfl) ?_
    refine lv_lload_n hx hb d_Pt_placeOnAxis_19 rfl (lv_at hl 4 rfl) ?_
    refine lv_lload hx hb d_Pt_placeOnAxis_20 (lv_at hl 1 rfl) ?_
    refine lv_lload hx hb d_Pt_placeOnAxis_22 (lv_at hl 0 rfl) ?_
    refine lv_lload hx hb d_Pt_placeOnAxis_24 (lv_at hl 7 rfl) ?_
    refine gh_cV (ci := 3) (As := [.long al, .long (u * w), .long (v * w), .long w]) (rest := []) (xF_ok b0) hx hb hml hown hK hX hG rfl ha (c_Pt_place ha) (q_Pt_place htb ⟨by decide, by decide⟩) (htb _ k_2_207) (htb _ k_2_96) (htb _ k_2_97) rfl hl.1 rfl (Nat.le_of_ble_eq_true rfl) d_Pt_placeOnAxis_26 ⟨by decide, by decide⟩ (fun v9 h9 H l9 hp9 hG => ?_) (fun _ _ _ _ hp9 _ => by cases hp9.1)
    obtain ⟨hv9, hh9⟩ := hp9
    cases hv9
    rw [hh9] at hG
    refine W.eq (g2 := F0 m 29 ls []) rfl ?_
    refine W.widen (k := 0) (n := 0) (by decide) (by decide) ?_
    refine lv_goto (tgt := 62) hx hb d_Pt_placeOnAxis_29 (by decide) ?_
    exact gh_vret hx hb hr hlk hG d_Pt_placeOnAxis_62 ⟨rfl, by simp_all [m_onax]⟩

set_option maxHeartbeats 4000000 in
set_option maxRecDepth 100000 in
/-- Plane(a, b, c, d) -/
theorem c_Pl_init {a : Nat} {x y z w : Int64} (ha : h a = some (.inr (1, [.long 0, .long 0, .long 0, .long 0]))) : gh_C l D vC (tZ cI cJ cP cS) (xF b0) b0 y_Pl_init w_Pl_init ({ frames := 1, cells := 0, slots := 0, locals := 12 }) [.ref a, .long x, .long y, .long z, .long w] h (rV (gh_up h a (.inr (1, [.long x, .long y, .long z, .long w])))) := by
  refine gh_ofW (by decide) (Nat.le_of_ble_eq_true rfl) ?_
  intro p e s m below meth c ls hctx hno hl hG hK hX
  obtain ⟨hx, hb, hr, hml, hown, hlk, hts, hnm⟩ := hctx
  have htb : ∀ w ∈ tB, w.before _ s = true := fun w hw => hts w (List.mem_cons_of_mem _ hw)
  replace hl : lv_has ls 9 [(0, .ref a), (1, .long x), (3, .long y), (5, .long z), (7, .long w)] := hl
  refine lv_aload_n hx hb d_Pl_init_0 rfl (lv_at hl 0 rfl) ?_
  refine W.objInit hx hb hown (htb _ k_1_36) (htb _ k_1_21) (htb _ k_1_22) rfl (by rw [hml]; exact hl.1) rfl d_Pl_init_1 (Nat.le_of_ble_eq_true rfl) (Nat.le_of_ble_eq_true rfl) ?_
  refine W.eq (g2 := F0 m 4 ls []) rfl ?_
  refine lv_aload_n hx hb d_Pl_init_4 rfl (lv_at hl 0 rfl) ?_
  refine lv_lload_n hx hb d_Pl_init_5 rfl (lv_at hl 1 rfl) ?_
  refine gh_putF (ci := 1) (ty := .long) hx hb htb in_Pl t_Pl ty_Pl nm_Pl hown hK hG ha rfl 0 (by decide) (htb _ k_1_37) (fun _ h9 => h9) rfl hnm rfl (by decide +kernel) rfl rfl (Nat.le_of_ble_eq_true rfl) d_Pl_init_6 (fun H l9 hG => ?_)
  have hq1 : (gh_up h a (.inr (1, [.long x, .long 0, .long 0, .long 0]))) a = some (.inr (1, [.long x, .long 0, .long 0, .long 0])) := gh_self _ _ _
  replace hG : gh_P D vC b0 (gh_up h a (.inr (1, [.long x, .long 0, .long 0, .long 0]))) s.heap _ _ := hG
  refine lv_aload_n hx hb d_Pl_init_9 rfl (lv_at hl 0 rfl) ?_
  refine lv_lload_n hx hb d_Pl_init_10 rfl (lv_at hl 2 rfl) ?_
  refine gh_putF (ci := 1) (ty := .long) hx hb htb in_Pl t_Pl ty_Pl nm_Pl hown hK hG hq1 rfl 1 (by decide) (htb _ k_1_38) (fun _ h9 => h9) rfl hnm rfl (by decide +kernel) rfl rfl (Nat.le_of_ble_eq_true rfl) d_Pl_init_11 (fun H l9 hG => ?_)
  have hq2 : (gh_up (gh_up h a (.inr (1, [.long x, .long 0, .long 0, .long 0]))) a (.inr (1, [.long x, .long y, .long 0, .long 0]))) a = some (.inr (1, [.long x, .long y, .long 0, .long 0])) := gh_self _ _ _
  replace hG : gh_P D vC b0 (gh_up (gh_up h a (.inr (1, [.long x, .long 0, .long 0, .long 0]))) a (.inr (1, [.long x, .long y, .long 0, .long 0]))) s.heap _ _ := hG
  refine lv_aload_n hx hb d_Pl_init_14 rfl (lv_at hl 0 rfl) ?_
  refine lv_lload hx hb d_Pl_init_15 (lv_at hl 3 rfl) ?_
  refine gh_putF (ci := 1) (ty := .long) hx hb htb in_Pl t_Pl ty_Pl nm_Pl hown hK hG hq2 rfl 2 (by decide) (htb _ k_1_39) (fun _ h9 => h9) rfl hnm rfl (by decide +kernel) rfl rfl (Nat.le_of_ble_eq_true rfl) d_Pl_init_17 (fun H l9 hG => ?_)
  have hq3 : (gh_up (gh_up (gh_up h a (.inr (1, [.long x, .long 0, .long 0, .long 0]))) a (.inr (1, [.long x, .long y, .long 0, .long 0]))) a (.inr (1, [.long x, .long y, .long z, .long 0]))) a = some (.inr (1, [.long x, .long y, .long z, .long 0])) := gh_self _ _ _
  replace hG : gh_P D vC b0 (gh_up (gh_up (gh_up h a (.inr (1, [.long x, .long 0, .long 0, .long 0]))) a (.inr (1, [.long x, .long y, .long 0, .long 0]))) a (.inr (1, [.long x, .long y, .long z, .long 0]))) s.heap _ _ := hG
  refine lv_aload_n hx hb d_Pl_init_20 rfl (lv_at hl 0 rfl) ?_
  refine lv_lload hx hb d_Pl_init_21 (lv_at hl 4 rfl) ?_
  refine gh_putF (ci := 1) (ty := .long) hx hb htb in_Pl t_Pl ty_Pl nm_Pl hown hK hG hq3 rfl 3 (by decide) (htb _ k_1_40) (fun _ h9 => h9) rfl hnm rfl (by decide +kernel) rfl rfl (Nat.le_of_ble_eq_true rfl) d_Pl_init_23 (fun H l9 hG => ?_)
  have hq4 : (gh_up (gh_up (gh_up (gh_up h a (.inr (1, [.long x, .long 0, .long 0, .long 0]))) a (.inr (1, [.long x, .long y, .long 0, .long 0]))) a (.inr (1, [.long x, .long y, .long z, .long 0]))) a (.inr (1, [.long x, .long y, .long z, .long w]))) a = some (.inr (1, [.long x, .long y, .long z, .long w])) := gh_self _ _ _
  replace hG : gh_P D vC b0 (gh_up (gh_up (gh_up (gh_up h a (.inr (1, [.long x, .long 0, .long 0, .long 0]))) a (.inr (1, [.long x, .long y, .long 0, .long 0]))) a (.inr (1, [.long x, .long y, .long z, .long 0]))) a (.inr (1, [.long x, .long y, .long z, .long w]))) s.heap _ _ := hG
  exact gh_vret hx hb hr hlk hG d_Pl_init_26 ⟨rfl, by simp only [gh_uu]⟩

set_option maxHeartbeats 4000000 in
set_option maxRecDepth 100000 in
/-- factor -/
theorem c_Pl_factor {a : Nat} {ax : Int32} {pa pb pc pd : Int64} (ha : h a = some (.inr (1, [.long pa, .long pb, .long pc, .long pd]))) : gh_C l D vC (tZ cI cJ cP cS) (xF b0) b0 y_Pl_factor w_Pl_factor ({ frames := 0, cells := 0, slots := 0, locals := 0 }) [.ref a, .int ax] h (rL (m_fac ax pa pb pc) h) := by
  refine gh_ofW (by decide) (Nat.le_of_ble_eq_true rfl) ?_
  intro p e s m below meth c ls hctx hno hl hG hK hX
  obtain ⟨hx, hb, hr, hml, hown, hlk, hts, hnm⟩ := hctx
  have htb : ∀ w ∈ tB, w.before _ s = true := fun w hw => hts w (List.mem_cons_of_mem _ hw)
  replace hl : lv_has ls 2 [(0, .ref a), (1, .int ax)] := hl
  refine lv_iload_n hx hb d_Pl_factor_0 rfl (lv_at hl 1 rfl) ?_
  refine lv_if_ne (tgt := 9) hx hb d_Pl_factor_1 (by decide) (fun hc1 => ?_) (fun hc1 => ?_)
  · skip
    refine lv_iload_n hx hb d_Pl_factor_9 rfl (lv_at hl 1 rfl) ?_
    refine lv_iconst (v := 1) hx hb d_Pl_factor_10 (by decide) ?_
    refine lv_icmp_ne (tgt := 21) hx hb d_Pl_factor_11 (by decide) (fun hc11 => ?_) (fun hc11 => ?_)
    · skip
      refine lv_aload_n hx hb d_Pl_factor_21 rfl (lv_at hl 0 rfl) ?_
      refine gh_get (ci := 1) hx hb htb in_Pl hown hK hG ha rfl 2 (by decide) (htb _ k_1_39) (fun _ h9 => h9) rfl d_Pl_factor_22 ?_
      exact gh_lret hx hb hr hlk hG d_Pl_factor_25 ⟨by unfold m_fac; simp_all, rfl⟩
    · skip
      refine lv_aload_n hx hb d_Pl_factor_14 rfl (lv_at hl 0 rfl) ?_
      refine gh_get (ci := 1) hx hb htb in_Pl hown hK hG ha rfl 1 (by decide) (htb _ k_1_38) (fun _ h9 => h9) rfl d_Pl_factor_15 ?_
      refine lv_goto (tgt := 25) hx hb d_Pl_factor_18 (by decide) ?_
      exact gh_lret hx hb hr hlk hG d_Pl_factor_25 ⟨by unfold m_fac; simp_all, rfl⟩
  · skip
    refine lv_aload_n hx hb d_Pl_factor_4 rfl (lv_at hl 0 rfl) ?_
    refine gh_get (ci := 1) hx hb htb in_Pl hown hK hG ha rfl 0 (by decide) (htb _ k_1_37) (fun _ h9 => h9) rfl d_Pl_factor_5 ?_
    exact gh_lret hx hb hr hlk hG d_Pl_factor_8 ⟨by unfold m_fac; simp_all, rfl⟩

set_option maxHeartbeats 4000000 in
set_option maxRecDepth 100000 in
/-- excess -/
theorem c_Pl_excess {a q : Nat} {pa pb pc pd x y z w : Int64} (ha : h a = some (.inr (1, [.long pa, .long pb, .long pc, .long pd]))) (hp : h q = some (.inr (3, [.long x, .long y, .long z, .long w]))) : gh_C l D vC (tZ cI cJ cP cS) (xF b0) b0 y_Pl_excess w_Pl_excess ({ frames := 0, cells := 0, slots := 0, locals := 0 }) [.ref a, .ref q] h (rL (m_exc pa pb pc pd x y z w) h) := by
  refine gh_ofW (by decide) (Nat.le_of_ble_eq_true rfl) ?_
  intro p e s m below meth c ls hctx hno hl hG hK hX
  obtain ⟨hx, hb, hr, hml, hown, hlk, hts, hnm⟩ := hctx
  have htb : ∀ w ∈ tB, w.before _ s = true := fun w hw => hts w (List.mem_cons_of_mem _ hw)
  replace hl : lv_has ls 2 [(0, .ref a), (1, .ref q)] := hl
  refine lv_aload_n hx hb d_Pl_excess_0 rfl (lv_at hl 0 rfl) ?_
  refine gh_get (ci := 1) hx hb htb in_Pl hown hK hG ha rfl 0 (by decide) (htb _ k_1_37) (fun _ h9 => h9) rfl d_Pl_excess_1 ?_
  refine lv_aload_n hx hb d_Pl_excess_4 rfl (lv_at hl 1 rfl) ?_
  refine gh_getN (ci := 3) hx hb htb in_Pt hown hK hG hp rfl 0 (by decide) (va_Nw.use rfl (hX.1 (22, "x") (by decide))) (fun _ h9 => h9) rfl d_Pl_excess_5 ?_
  refine lv_lmul hx hb d_Pl_excess_8 ?_
  refine lv_aload_n hx hb d_Pl_excess_9 rfl (lv_at hl 0 rfl) ?_
  refine gh_get (ci := 1) hx hb htb in_Pl hown hK hG ha rfl 1 (by decide) (htb _ k_1_38) (fun _ h9 => h9) rfl d_Pl_excess_10 ?_
  refine lv_aload_n hx hb d_Pl_excess_13 rfl (lv_at hl 1 rfl) ?_
  refine gh_getN (ci := 3) hx hb htb in_Pt hown hK hG hp rfl 1 (by decide) (va_Nw.use rfl (hX.1 (27, "y") (by decide))) (fun _ h9 => h9) rfl d_Pl_excess_14 ?_
  refine lv_lmul hx hb d_Pl_excess_17 ?_
  refine lv_ladd hx hb d_Pl_excess_18 ?_
  refine lv_aload_n hx hb d_Pl_excess_19 rfl (lv_at hl 0 rfl) ?_
  refine gh_get (ci := 1) hx hb htb in_Pl hown hK hG ha rfl 2 (by decide) (htb _ k_1_39) (fun _ h9 => h9) rfl d_Pl_excess_20 ?_
  refine lv_aload_n hx hb d_Pl_excess_23 rfl (lv_at hl 1 rfl) ?_
  refine gh_getN (ci := 3) hx hb htb in_Pt hown hK hG hp rfl 2 (by decide) (va_Nw.use rfl (hX.1 (30, "z") (by decide))) (fun _ h9 => h9) rfl d_Pl_excess_24 ?_
  refine lv_lmul hx hb d_Pl_excess_27 ?_
  refine lv_ladd hx hb d_Pl_excess_28 ?_
  refine lv_aload_n hx hb d_Pl_excess_29 rfl (lv_at hl 0 rfl) ?_
  refine gh_get (ci := 1) hx hb htb in_Pl hown hK hG ha rfl 3 (by decide) (htb _ k_1_40) (fun _ h9 => h9) rfl d_Pl_excess_30 ?_
  refine lv_aload_n hx hb d_Pl_excess_33 rfl (lv_at hl 1 rfl) ?_
  refine gh_getN (ci := 3) hx hb htb in_Pt hown hK hG hp rfl 3 (by decide) (va_Nw.use rfl (hX.1 (33, "w") (by decide))) (fun _ h9 => h9) rfl d_Pl_excess_34 ?_
  refine lv_lmul hx hb d_Pl_excess_37 ?_
  refine lv_lsub hx hb d_Pl_excess_38 ?_
  exact gh_lret hx hb hr hlk hG d_Pl_excess_39 ⟨rfl, rfl⟩

set_option maxHeartbeats 4000000 in
set_option maxRecDepth 100000 in
/-- isOneWith -/
theorem c_Pl_isOneWith {a q : Nat} {pa pb pc pd qa qb qc qd : Int64} (ha : h a = some (.inr (1, [.long pa, .long pb, .long pc, .long pd]))) (hq : h q = some (.inr (1, [.long qa, .long qb, .long qc, .long qd]))) : gh_C l D vC (tZ cI cJ cP cS) (xF b0) b0 y_Pl_isOneWith w_Pl_isOneWith ({ frames := 0, cells := 0, slots := 0, locals := 0 }) [.ref a, .ref q] h (rI (m_b (m_one pa pb pc pd qa qb qc qd)) h) := by
  refine gh_ofW (by decide) (Nat.le_of_ble_eq_true rfl) ?_
  intro p e s m below meth c ls hctx hno hl hG hK hX
  obtain ⟨hx, hb, hr, hml, hown, hlk, hts, hnm⟩ := hctx
  have htb : ∀ w ∈ tB, w.before _ s = true := fun w hw => hts w (List.mem_cons_of_mem _ hw)
  replace hl : lv_has ls 2 [(0, .ref a), (1, .ref q)] := hl
  refine lv_aload_n hx hb d_Pl_isOneWith_0 rfl (lv_at hl 0 rfl) ?_
  refine gh_get (ci := 1) hx hb htb in_Pl hown hK hG ha rfl 0 (by decide) (htb _ k_1_37) (fun _ h9 => h9) rfl d_Pl_isOneWith_1 ?_
  refine lv_aload_n hx hb d_Pl_isOneWith_4 rfl (lv_at hl 1 rfl) ?_
  refine gh_get (ci := 1) hx hb htb in_Pl hown hK hG hq rfl 1 (by decide) (htb _ k_1_38) (fun _ h9 => h9) rfl d_Pl_isOneWith_5 ?_
  refine lv_lmul hx hb d_Pl_isOneWith_8 ?_
  refine lv_aload_n hx hb d_Pl_isOneWith_9 rfl (lv_at hl 0 rfl) ?_
  refine gh_get (ci := 1) hx hb htb in_Pl hown hK hG ha rfl 1 (by decide) (htb _ k_1_38) (fun _ h9 => h9) rfl d_Pl_isOneWith_10 ?_
  refine lv_aload_n hx hb d_Pl_isOneWith_13 rfl (lv_at hl 1 rfl) ?_
  refine gh_get (ci := 1) hx hb htb in_Pl hown hK hG hq rfl 0 (by decide) (htb _ k_1_37) (fun _ h9 => h9) rfl d_Pl_isOneWith_14 ?_
  refine lv_lmul hx hb d_Pl_isOneWith_17 ?_
  refine W.lcmp hx hb d_Pl_isOneWith_18 ?_
  refine lv_if_ne (tgt := 136) hx hb d_Pl_isOneWith_19 (by decide) (fun hc19 => ?_) (fun hc19 => ?_)
  · skip
    rw [lg_cmp_eq] at hc19
    refine lv_iconst (v := 0) hx hb d_Pl_isOneWith_136 (by decide) ?_
    exact gh_iret hx hb hr hlk rfl hG d_Pl_isOneWith_137 ⟨by simp_all [m_one, m_b], rfl⟩
  · skip
    rw [lg_cmp_eq] at hc19
    refine lv_aload_n hx hb d_Pl_isOneWith_22 rfl (lv_at hl 0 rfl) ?_
    refine gh_get (ci := 1) hx hb htb in_Pl hown hK hG ha rfl 0 (by decide) (htb _ k_1_37) (fun _ h9 => h9) rfl d_Pl_isOneWith_23 ?_
    refine lv_aload_n hx hb d_Pl_isOneWith_26 rfl (lv_at hl 1 rfl) ?_
    refine gh_get (ci := 1) hx hb htb in_Pl hown hK hG hq rfl 2 (by decide) (htb _ k_1_39) (fun _ h9 => h9) rfl d_Pl_isOneWith_27 ?_
    refine lv_lmul hx hb d_Pl_isOneWith_30 ?_
    refine lv_aload_n hx hb d_Pl_isOneWith_31 rfl (lv_at hl 0 rfl) ?_
    refine gh_get (ci := 1) hx hb htb in_Pl hown hK hG ha rfl 2 (by decide) (htb _ k_1_39) (fun _ h9 => h9) rfl d_Pl_isOneWith_32 ?_
    refine lv_aload_n hx hb d_Pl_isOneWith_35 rfl (lv_at hl 1 rfl) ?_
    refine gh_get (ci := 1) hx hb htb in_Pl hown hK hG hq rfl 0 (by decide) (htb _ k_1_37) (fun _ h9 => h9) rfl d_Pl_isOneWith_36 ?_
    refine lv_lmul hx hb d_Pl_isOneWith_39 ?_
    refine W.lcmp hx hb d_Pl_isOneWith_40 ?_
    refine lv_if_ne (tgt := 136) hx hb d_Pl_isOneWith_41 (by decide) (fun hc41 => ?_) (fun hc41 => ?_)
    · skip
      rw [lg_cmp_eq] at hc41
      refine lv_iconst (v := 0) hx hb d_Pl_isOneWith_136 (by decide) ?_
      exact gh_iret hx hb hr hlk rfl hG d_Pl_isOneWith_137 ⟨by simp_all [m_one, m_b], rfl⟩
    · skip
      rw [lg_cmp_eq] at hc41
      refine lv_aload_n hx hb d_Pl_isOneWith_44 rfl (lv_at hl 0 rfl) ?_
      refine gh_get (ci := 1) hx hb htb in_Pl hown hK hG ha rfl 1 (by decide) (htb _ k_1_38) (fun _ h9 => h9) rfl d_Pl_isOneWith_45 ?_
      refine lv_aload_n hx hb d_Pl_isOneWith_48 rfl (lv_at hl 1 rfl) ?_
      refine gh_get (ci := 1) hx hb htb in_Pl hown hK hG hq rfl 2 (by decide) (htb _ k_1_39) (fun _ h9 => h9) rfl d_Pl_isOneWith_49 ?_
      refine lv_lmul hx hb d_Pl_isOneWith_52 ?_
      refine lv_aload_n hx hb d_Pl_isOneWith_53 rfl (lv_at hl 0 rfl) ?_
      refine gh_get (ci := 1) hx hb htb in_Pl hown hK hG ha rfl 2 (by decide) (htb _ k_1_39) (fun _ h9 => h9) rfl d_Pl_isOneWith_54 ?_
      refine lv_aload_n hx hb d_Pl_isOneWith_57 rfl (lv_at hl 1 rfl) ?_
      refine gh_get (ci := 1) hx hb htb in_Pl hown hK hG hq rfl 1 (by decide) (htb _ k_1_38) (fun _ h9 => h9) rfl d_Pl_isOneWith_58 ?_
      refine lv_lmul hx hb d_Pl_isOneWith_61 ?_
      refine W.lcmp hx hb d_Pl_isOneWith_62 ?_
      refine lv_if_ne (tgt := 136) hx hb d_Pl_isOneWith_63 (by decide) (fun hc63 => ?_) (fun hc63 => ?_)
      · skip
        rw [lg_cmp_eq] at hc63
        refine lv_iconst (v := 0) hx hb d_Pl_isOneWith_136 (by decide) ?_
        exact gh_iret hx hb hr hlk rfl hG d_Pl_isOneWith_137 ⟨by simp_all [m_one, m_b], rfl⟩
      · skip
        rw [lg_cmp_eq] at hc63
        refine lv_aload_n hx hb d_Pl_isOneWith_66 rfl (lv_at hl 0 rfl) ?_
        refine gh_get (ci := 1) hx hb htb in_Pl hown hK hG ha rfl 0 (by decide) (htb _ k_1_37) (fun _ h9 => h9) rfl d_Pl_isOneWith_67 ?_
        refine lv_aload_n hx hb d_Pl_isOneWith_70 rfl (lv_at hl 1 rfl) ?_
        refine gh_get (ci := 1) hx hb htb in_Pl hown hK hG hq rfl 3 (by decide) (htb _ k_1_40) (fun _ h9 => h9) rfl d_Pl_isOneWith_71 ?_
        refine lv_lmul hx hb d_Pl_isOneWith_74 ?_
        refine lv_aload_n hx hb d_Pl_isOneWith_75 rfl (lv_at hl 0 rfl) ?_
        refine gh_get (ci := 1) hx hb htb in_Pl hown hK hG ha rfl 3 (by decide) (htb _ k_1_40) (fun _ h9 => h9) rfl d_Pl_isOneWith_76 ?_
        refine lv_aload_n hx hb d_Pl_isOneWith_79 rfl (lv_at hl 1 rfl) ?_
        refine gh_get (ci := 1) hx hb htb in_Pl hown hK hG hq rfl 0 (by decide) (htb _ k_1_37) (fun _ h9 => h9) rfl d_Pl_isOneWith_80 ?_
        refine lv_lmul hx hb d_Pl_isOneWith_83 ?_
        refine W.lcmp hx hb d_Pl_isOneWith_84 ?_
        refine lv_if_ne (tgt := 136) hx hb d_Pl_isOneWith_85 (by decide) (fun hc85 => ?_) (fun hc85 => ?_)
        · skip
          rw [lg_cmp_eq] at hc85
          refine lv_iconst (v := 0) hx hb d_Pl_isOneWith_136 (by decide) ?_
          exact gh_iret hx hb hr hlk rfl hG d_Pl_isOneWith_137 ⟨by simp_all [m_one, m_b], rfl⟩
        · skip
          rw [lg_cmp_eq] at hc85
          refine lv_aload_n hx hb d_Pl_isOneWith_88 rfl (lv_at hl 0 rfl) ?_
          refine gh_get (ci := 1) hx hb htb in_Pl hown hK hG ha rfl 1 (by decide) (htb _ k_1_38) (fun _ h9 => h9) rfl d_Pl_isOneWith_89 ?_
          refine lv_aload_n hx hb d_Pl_isOneWith_92 rfl (lv_at hl 1 rfl) ?_
          refine gh_get (ci := 1) hx hb htb in_Pl hown hK hG hq rfl 3 (by decide) (htb _ k_1_40) (fun _ h9 => h9) rfl d_Pl_isOneWith_93 ?_
          refine lv_lmul hx hb d_Pl_isOneWith_96 ?_
          refine lv_aload_n hx hb d_Pl_isOneWith_97 rfl (lv_at hl 0 rfl) ?_
          refine gh_get (ci := 1) hx hb htb in_Pl hown hK hG ha rfl 3 (by decide) (htb _ k_1_40) (fun _ h9 => h9) rfl d_Pl_isOneWith_98 ?_
          refine lv_aload_n hx hb d_Pl_isOneWith_101 rfl (lv_at hl 1 rfl) ?_
          refine gh_get (ci := 1) hx hb htb in_Pl hown hK hG hq rfl 1 (by decide) (htb _ k_1_38) (fun _ h9 => h9) rfl d_Pl_isOneWith_102 ?_
          refine lv_lmul hx hb d_Pl_isOneWith_105 ?_
          refine W.lcmp hx hb d_Pl_isOneWith_106 ?_
          refine lv_if_ne (tgt := 136) hx hb d_Pl_isOneWith_107 (by decide) (fun hc107 => ?_) (fun hc107 => ?_)
          · skip
            rw [lg_cmp_eq] at hc107
            refine lv_iconst (v := 0) hx hb d_Pl_isOneWith_136 (by decide) ?_
            exact gh_iret hx hb hr hlk rfl hG d_Pl_isOneWith_137 ⟨by simp_all [m_one, m_b], rfl⟩
          · skip
            rw [lg_cmp_eq] at hc107
            refine lv_aload_n hx hb d_Pl_isOneWith_110 rfl (lv_at hl 0 rfl) ?_
            refine gh_get (ci := 1) hx hb htb in_Pl hown hK hG ha rfl 2 (by decide) (htb _ k_1_39) (fun _ h9 => h9) rfl d_Pl_isOneWith_111 ?_
            refine lv_aload_n hx hb d_Pl_isOneWith_114 rfl (lv_at hl 1 rfl) ?_
            refine gh_get (ci := 1) hx hb htb in_Pl hown hK hG hq rfl 3 (by decide) (htb _ k_1_40) (fun _ h9 => h9) rfl d_Pl_isOneWith_115 ?_
            refine lv_lmul hx hb d_Pl_isOneWith_118 ?_
            refine lv_aload_n hx hb d_Pl_isOneWith_119 rfl (lv_at hl 0 rfl) ?_
            refine gh_get (ci := 1) hx hb htb in_Pl hown hK hG ha rfl 3 (by decide) (htb _ k_1_40) (fun _ h9 => h9) rfl d_Pl_isOneWith_120 ?_
            refine lv_aload_n hx hb d_Pl_isOneWith_123 rfl (lv_at hl 1 rfl) ?_
            refine gh_get (ci := 1) hx hb htb in_Pl hown hK hG hq rfl 2 (by decide) (htb _ k_1_39) (fun _ h9 => h9) rfl d_Pl_isOneWith_124 ?_
            refine lv_lmul hx hb d_Pl_isOneWith_127 ?_
            refine W.lcmp hx hb d_Pl_isOneWith_128 ?_
            refine lv_if_ne (tgt := 136) hx hb d_Pl_isOneWith_129 (by decide) (fun hc129 => ?_) (fun hc129 => ?_)
            · skip
              rw [lg_cmp_eq] at hc129
              refine lv_iconst (v := 0) hx hb d_Pl_isOneWith_136 (by decide) ?_
              exact gh_iret hx hb hr hlk rfl hG d_Pl_isOneWith_137 ⟨by simp_all [m_one, m_b], rfl⟩
            · skip
              rw [lg_cmp_eq] at hc129
              refine lv_iconst (v := 1) hx hb d_Pl_isOneWith_132 (by decide) ?_
              refine lv_goto (tgt := 137) hx hb d_Pl_isOneWith_133 (by decide) ?_
              exact gh_iret hx hb hr hlk rfl hG d_Pl_isOneWith_137 ⟨by simp_all [m_one, m_b], rfl⟩

set_option maxHeartbeats 4000000 in
set_option maxRecDepth 100000 in
/-- looksLike -/
theorem c_Pl_looksLike {a q : Nat} {pa pb pc pd qa qb qc qd : Int64} (ha : h a = some (.inr (1, [.long pa, .long pb, .long pc, .long pd]))) (hq : h q = some (.inr (1, [.long qa, .long qb, .long qc, .long qd]))) : gh_C l D vC (tZ cI cJ cP cS) (xF b0) b0 y_Pl_looksLike w_Pl_looksLike ({ frames := 0, cells := 0, slots := 0, locals := 0 }) [.ref a, .ref q] h (rI (m_b (m_lk pa pb pc qa qb qc)) h) := by
  refine gh_ofW (by decide) (Nat.le_of_ble_eq_true rfl) ?_
  intro p e s m below meth c ls hctx hno hl hG hK hX
  obtain ⟨hx, hb, hr, hml, hown, hlk, hts, hnm⟩ := hctx
  have htb : ∀ w ∈ tB, w.before _ s = true := fun w hw => hts w (List.mem_cons_of_mem _ hw)
  replace hl : lv_has ls 2 [(0, .ref a), (1, .ref q)] := hl
  refine lv_aload_n hx hb d_Pl_looksLike_0 rfl (lv_at hl 0 rfl) ?_
  refine gh_get (ci := 1) hx hb htb in_Pl hown hK hG ha rfl 0 (by decide) (htb _ k_1_37) (fun _ h9 => h9) rfl d_Pl_looksLike_1 ?_
  refine lv_aload_n hx hb d_Pl_looksLike_4 rfl (lv_at hl 1 rfl) ?_
  refine gh_get (ci := 1) hx hb htb in_Pl hown hK hG hq rfl 0 (by decide) (htb _ k_1_37) (fun _ h9 => h9) rfl d_Pl_looksLike_5 ?_
  refine lv_lmul hx hb d_Pl_looksLike_8 ?_
  refine lv_aload_n hx hb d_Pl_looksLike_9 rfl (lv_at hl 0 rfl) ?_
  refine gh_get (ci := 1) hx hb htb in_Pl hown hK hG ha rfl 1 (by decide) (htb _ k_1_38) (fun _ h9 => h9) rfl d_Pl_looksLike_10 ?_
  refine lv_aload_n hx hb d_Pl_looksLike_13 rfl (lv_at hl 1 rfl) ?_
  refine gh_get (ci := 1) hx hb htb in_Pl hown hK hG hq rfl 1 (by decide) (htb _ k_1_38) (fun _ h9 => h9) rfl d_Pl_looksLike_14 ?_
  refine lv_lmul hx hb d_Pl_looksLike_17 ?_
  refine lv_ladd hx hb d_Pl_looksLike_18 ?_
  refine lv_aload_n hx hb d_Pl_looksLike_19 rfl (lv_at hl 0 rfl) ?_
  refine gh_get (ci := 1) hx hb htb in_Pl hown hK hG ha rfl 2 (by decide) (htb _ k_1_39) (fun _ h9 => h9) rfl d_Pl_looksLike_20 ?_
  refine lv_aload_n hx hb d_Pl_looksLike_23 rfl (lv_at hl 1 rfl) ?_
  refine gh_get (ci := 1) hx hb htb in_Pl hown hK hG hq rfl 2 (by decide) (htb _ k_1_39) (fun _ h9 => h9) rfl d_Pl_looksLike_24 ?_
  refine lv_lmul hx hb d_Pl_looksLike_27 ?_
  refine lv_ladd hx hb d_Pl_looksLike_28 ?_
  refine lv_lconst (v := 0) hx hb d_Pl_looksLike_29 (by decide) ?_
  refine W.lcmp hx hb d_Pl_looksLike_30 ?_
  refine lv_if_le (tgt := 38) hx hb d_Pl_looksLike_31 (by decide) (fun hc31 => ?_) (fun hc31 => ?_)
  · skip
    rw [lg_cmp_le] at hc31
    refine lv_iconst (v := 0) hx hb d_Pl_looksLike_38 (by decide) ?_
    exact gh_iret hx hb hr hlk rfl hG d_Pl_looksLike_39 ⟨by simp_all [m_lk, m_b], rfl⟩
  · skip
    rw [lg_cmp_le] at hc31
    refine lv_iconst (v := 1) hx hb d_Pl_looksLike_34 (by decide) ?_
    refine lv_goto (tgt := 39) hx hb d_Pl_looksLike_35 (by decide) ?_
    exact gh_iret hx hb hr hlk rfl hG d_Pl_looksLike_39 ⟨by simp_all [m_lk, m_b], rfl⟩

end
end
section
section
variable {l : Launch} {D : va_G} {cI cJ cP cS : ClassId} {b0 : Nat} {h : gh_M}

set_option maxHeartbeats 4000000 in
set_option maxRecDepth 100000 in
/-- isCellInBox -/
theorem c_Ps_isCellInBox {ce : Int32} : gh_C l D vC (tZ cI cJ cP cS) (xF b0) b0 y_Ps_isCellInBox w_Ps_isCellInBox ({ frames := 0, cells := 0, slots := 0, locals := 0 }) [.int ce] h (rI (m_b (decide (ce &&& 63 = 63))) h) := by
  refine gh_ofW (by decide) (Nat.le_of_ble_eq_true rfl) ?_
  intro p e s m below meth c ls hctx hno hl hG hK hX
  obtain ⟨hx, hb, hr, hml, hown, hlk, hts, hnm⟩ := hctx
  have htb : ∀ w ∈ tB, w.before _ s = true := fun w hw => hts w (List.mem_cons_of_mem _ hw)
  replace hl : lv_has ls 1 [(0, .int ce)] := hl
  refine lv_iload_n hx hb d_Ps_isCellInBox_0 rfl (lv_at hl 0 rfl) ?_
  refine lv_bipush (v := 63) hx hb d_Ps_isCellInBox_1 (by decide) ?_
  refine lv_iand hx hb d_Ps_isCellInBox_3 ?_
  refine lv_bipush (v := 63) hx hb d_Ps_isCellInBox_4 (by decide) ?_
  refine lv_icmp_ne (tgt := 13) hx hb d_Ps_isCellInBox_6 (by decide) (fun hc6 => ?_) (fun hc6 => ?_)
  · skip
    refine lv_iconst (v := 0) hx hb d_Ps_isCellInBox_13 (by decide) ?_
    exact gh_iret hx hb hr hlk rfl hG d_Ps_isCellInBox_14 ⟨by simp_all [m_b], rfl⟩
  · skip
    refine lv_iconst (v := 1) hx hb d_Ps_isCellInBox_9 (by decide) ?_
    refine lv_goto (tgt := 14) hx hb d_Ps_isCellInBox_10 (by decide) ?_
    exact gh_iret hx hb hr hlk rfl hG d_Ps_isCellInBox_14 ⟨by simp_all [m_b], rfl⟩

set_option maxHeartbeats 4000000 in
set_option maxRecDepth 100000 in
/-- givenOfCell -/
theorem c_Ps_givenOfCell {ce : Int32} : gh_C l D vC (tZ cI cJ cP cS) (xF b0) b0 y_Ps_givenOfCell w_Ps_givenOfCell ({ frames := 0, cells := 0, slots := 0, locals := 0 }) [.int ce] h (rI (ce >>> ((6 : Int32) &&& 31)) h) := by
  refine gh_ofW (by decide) (Nat.le_of_ble_eq_true rfl) ?_
  intro p e s m below meth c ls hctx hno hl hG hK hX
  obtain ⟨hx, hb, hr, hml, hown, hlk, hts, hnm⟩ := hctx
  have htb : ∀ w ∈ tB, w.before _ s = true := fun w hw => hts w (List.mem_cons_of_mem _ hw)
  replace hl : lv_has ls 1 [(0, .int ce)] := hl
  refine lv_iload_n hx hb d_Ps_givenOfCell_0 rfl (lv_at hl 0 rfl) ?_
  refine lv_bipush (v := 6) hx hb d_Ps_givenOfCell_1 (by decide) ?_
  refine lv_ishr hx hb d_Ps_givenOfCell_3 ?_
  exact gh_iret hx hb hr hlk rfl hG d_Ps_givenOfCell_4 ⟨rfl, rfl⟩

set_option maxHeartbeats 4000000 in
set_option maxRecDepth 100000 in
/-- count -/
theorem c_Ps_count {sp al fi : Nat} {n : Nat} {ga : Nat → Option Nat} {gf : Nat → Int32} {pl fs : Nat → Nat} {pa pb pc pd : Nat → Int64} (hsp : h sp = some (.inr (2, [.ref al, .ref fi, .int (nI n)]))) (hal : h al = some (.inl (cP, 14, .inr (.inr (.inr (.inr ga)))))) (hfi : h fi = some (.inl (cI, 14, .inl gf))) (hga : ∀ i, i < n → ga i = some (pl i)) (hgf : ∀ i, i < n → gf i = nI (fs i)) (hfs : ∀ i, fs i < 14) (hpl : ∀ i, i < n → h (pl i) = some (.inr (1, [.long (pa i), .long (pb i), .long (pc i), .long (pd i)]))) (hn : n ≤ 14) : gh_C l D vC (tZ cI cJ cP cS) (xF b0) b0 y_Ps_count w_Ps_count ({ frames := 0, cells := 0, slots := 0, locals := 0 }) [.ref sp] h (rI (nI n) h) := by
  refine gh_ofW (by decide) (Nat.le_of_ble_eq_true rfl) ?_
  intro p e s m below meth c ls hctx hno hl hG hK hX
  obtain ⟨hx, hb, hr, hml, hown, hlk, hts, hnm⟩ := hctx
  have htb : ∀ w ∈ tB, w.before _ s = true := fun w hw => hts w (List.mem_cons_of_mem _ hw)
  replace hl : lv_has ls 1 [(0, .ref sp)] := hl
  refine lv_aload_n hx hb d_Ps_count_0 rfl (lv_at hl 0 rfl) ?_
  refine gh_get (ci := 2) hx hb htb in_Ps hown hK hG hsp rfl 2 (by decide) (htb _ k_1_66) (fun _ h9 => h9) rfl d_Ps_count_1 ?_
  exact gh_iret hx hb hr hlk rfl hG d_Ps_count_4 ⟨rfl, rfl⟩

set_option maxHeartbeats 4000000 in
set_option maxRecDepth 100000 in
/-- given -/
theorem c_Ps_given {sp al fi : Nat} {n : Nat} {ga : Nat → Option Nat} {gf : Nat → Int32} {pl fs : Nat → Nat} {pa pb pc pd : Nat → Int64} (hsp : h sp = some (.inr (2, [.ref al, .ref fi, .int (nI n)]))) (hal : h al = some (.inl (cP, 14, .inr (.inr (.inr (.inr ga)))))) (hfi : h fi = some (.inl (cI, 14, .inl gf))) (hga : ∀ i, i < n → ga i = some (pl i)) (hgf : ∀ i, i < n → gf i = nI (fs i)) (hfs : ∀ i, fs i < 14) (hpl : ∀ i, i < n → h (pl i) = some (.inr (1, [.long (pa i), .long (pb i), .long (pc i), .long (pd i)]))) (hn : n ≤ 14) (h6 : 6 ≤ n) : gh_C l D vC (tZ cI cJ cP cS) (xF b0) b0 y_Ps_given w_Ps_given ({ frames := 0, cells := 0, slots := 0, locals := 0 }) [.ref sp] h (rI (nI (n - 6)) h) := by
  refine gh_ofW (by decide) (Nat.le_of_ble_eq_true rfl) ?_
  intro p e s m below meth c ls hctx hno hl hG hK hX
  obtain ⟨hx, hb, hr, hml, hown, hlk, hts, hnm⟩ := hctx
  have htb : ∀ w ∈ tB, w.before _ s = true := fun w hw => hts w (List.mem_cons_of_mem _ hw)
  replace hl : lv_has ls 1 [(0, .ref sp)] := hl
  refine lv_aload_n hx hb d_Ps_given_0 rfl (lv_at hl 0 rfl) ?_
  refine gh_get (ci := 2) hx hb htb in_Ps hown hK hG hsp rfl 2 (by decide) (htb _ k_1_66) (fun _ h9 => h9) rfl d_Ps_given_1 ?_
  refine lv_bipush (v := 6) hx hb d_Ps_given_4 (by decide) ?_
  refine lv_isub hx hb d_Ps_given_6 ?_
  exact gh_iret hx hb hr hlk rfl hG d_Ps_given_7 ⟨by rw [show (6 : Int32) = nI 6 from rfl, pk_sub h6], rfl⟩

set_option maxHeartbeats 4000000 in
set_option maxRecDepth 100000 in
/-- get -/
theorem c_Ps_get {sp al fi : Nat} {n : Nat} {ga : Nat → Option Nat} {gf : Nat → Int32} {pl fs : Nat → Nat} {pa pb pc pd : Nat → Int64} (hsp : h sp = some (.inr (2, [.ref al, .ref fi, .int (nI n)]))) (hal : h al = some (.inl (cP, 14, .inr (.inr (.inr (.inr ga)))))) (hfi : h fi = some (.inl (cI, 14, .inl gf))) (hga : ∀ i, i < n → ga i = some (pl i)) (hgf : ∀ i, i < n → gf i = nI (fs i)) (hfs : ∀ i, fs i < 14) (hpl : ∀ i, i < n → h (pl i) = some (.inr (1, [.long (pa i), .long (pb i), .long (pc i), .long (pd i)]))) (hn : n ≤ 14) {i : Nat} (hi : i < n) : gh_C l D vC (tZ cI cJ cP cS) (xF b0) b0 y_Ps_get w_Ps_get ({ frames := 0, cells := 0, slots := 0, locals := 0 }) [.ref sp, .int (nI i)] h (rA (pl i) h) := by
  refine gh_ofW (by decide) (Nat.le_of_ble_eq_true rfl) ?_
  intro p e s m below meth c ls hctx hno hl hG hK hX
  obtain ⟨hx, hb, hr, hml, hown, hlk, hts, hnm⟩ := hctx
  have htb : ∀ w ∈ tB, w.before _ s = true := fun w hw => hts w (List.mem_cons_of_mem _ hw)
  replace hl : lv_has ls 2 [(0, .ref sp), (1, .int (nI i))] := hl
  refine lv_aload_n hx hb d_Ps_get_0 rfl (lv_at hl 0 rfl) ?_
  refine gh_get (ci := 2) hx hb htb in_Ps hown hK hG hsp rfl 0 (by decide) (htb _ k_1_64) (fun _ h9 => h9) rfl d_Ps_get_1 ?_
  refine lv_iload_n hx hb d_Ps_get_4 rfl (lv_at hl 1 rfl) ?_
  refine gh_aald (v := pl i) hx hb hK hG 2 hal rfl (vp_in_nI (by omega) (by decide)) (by rw [nI_clamp (by omega)]; exact hga _ (by omega)) d_Ps_get_5 ?_
  exact gh_aret hx hb hr hlk (Or.inl ⟨_, rfl⟩) hG d_Ps_get_6 ⟨rfl, rfl⟩

set_option maxHeartbeats 4000000 in
set_option maxRecDepth 100000 in
/-- isFirst -/
theorem c_Ps_isFirst {sp al fi : Nat} {n : Nat} {ga : Nat → Option Nat} {gf : Nat → Int32} {pl fs : Nat → Nat} {pa pb pc pd : Nat → Int64} (hsp : h sp = some (.inr (2, [.ref al, .ref fi, .int (nI n)]))) (hal : h al = some (.inl (cP, 14, .inr (.inr (.inr (.inr ga)))))) (hfi : h fi = some (.inl (cI, 14, .inl gf))) (hga : ∀ i, i < n → ga i = some (pl i)) (hgf : ∀ i, i < n → gf i = nI (fs i)) (hfs : ∀ i, fs i < 14) (hpl : ∀ i, i < n → h (pl i) = some (.inr (1, [.long (pa i), .long (pb i), .long (pc i), .long (pd i)]))) (hn : n ≤ 14) {i : Nat} (hi : i < n) : gh_C l D vC (tZ cI cJ cP cS) (xF b0) b0 y_Ps_isFirst w_Ps_isFirst ({ frames := 0, cells := 0, slots := 0, locals := 0 }) [.ref sp, .int (nI i)] h (rI (m_b (decide (fs i = i))) h) := by
  refine gh_ofW (by decide) (Nat.le_of_ble_eq_true rfl) ?_
  intro p e s m below meth c ls hctx hno hl hG hK hX
  obtain ⟨hx, hb, hr, hml, hown, hlk, hts, hnm⟩ := hctx
  have htb : ∀ w ∈ tB, w.before _ s = true := fun w hw => hts w (List.mem_cons_of_mem _ hw)
  replace hl : lv_has ls 2 [(0, .ref sp), (1, .int (nI i))] := hl
  refine lv_aload_n hx hb d_Ps_isFirst_0 rfl (lv_at hl 0 rfl) ?_
  refine gh_get (ci := 2) hx hb htb in_Ps hown hK hG hsp rfl 1 (by decide) (htb _ k_1_65) (fun _ h9 => h9) rfl d_Ps_isFirst_1 ?_
  refine lv_iload_n hx hb d_Ps_isFirst_4 rfl (lv_at hl 1 rfl) ?_
  have hfb1 := hfs i
  refine gh_iald (v := nI (fs i)) hx hb hK hG 0 hfi rfl (vp_in_nI (by omega) (by decide)) (by rw [nI_clamp (by omega)]; exact hgf _ (by omega)) d_Ps_isFirst_5 ?_
  refine lv_iload_n hx hb d_Ps_isFirst_6 rfl (lv_at hl 1 rfl) ?_
  refine lv_icmp_ne (tgt := 14) hx hb d_Ps_isFirst_7 (by decide) (fun hc7 => ?_) (fun hc7 => ?_)
  · skip
    replace hc7 : ¬ (fs i) = i := fun q9 => hc7 ((nc_eq (a := (fs i)) (b := i) (by omega) (by omega) rfl rfl).mpr q9)
    refine lv_iconst (v := 0) hx hb d_Ps_isFirst_14 (by decide) ?_
    exact gh_iret hx hb hr hlk rfl hG d_Ps_isFirst_15 ⟨by simp_all [m_b], rfl⟩
  · skip
    replace hc7 : (fs i) = i := (nc_eq (a := (fs i)) (b := i) (by omega) (by omega) rfl rfl).mp hc7
    refine lv_iconst (v := 1) hx hb d_Ps_isFirst_10 (by decide) ?_
    refine lv_goto (tgt := 15) hx hb d_Ps_isFirst_11 (by decide) ?_
    exact gh_iret hx hb hr hlk rfl hG d_Ps_isFirst_15 ⟨by simp_all [m_b], rfl⟩

set_option maxHeartbeats 4000000 in
set_option maxRecDepth 100000 in
/-- isInBox -/
theorem c_Ps_isInBox {sp al fi : Nat} {n : Nat} {ga : Nat → Option Nat} {gf : Nat → Int32} {pl fs : Nat → Nat} {pa pb pc pd : Nat → Int64} (hsp : h sp = some (.inr (2, [.ref al, .ref fi, .int (nI n)]))) (hal : h al = some (.inl (cP, 14, .inr (.inr (.inr (.inr ga)))))) (hfi : h fi = some (.inl (cI, 14, .inl gf))) (hga : ∀ i, i < n → ga i = some (pl i)) (hgf : ∀ i, i < n → gf i = nI (fs i)) (hfs : ∀ i, fs i < 14) (hpl : ∀ i, i < n → h (pl i) = some (.inr (1, [.long (pa i), .long (pb i), .long (pc i), .long (pd i)]))) (hn : n ≤ 14) {q : Nat} {x y z w : Int64} (hp : h q = some (.inr (3, [.long x, .long y, .long z, .long w]))) (h6 : 6 ≤ n) : gh_C l D vC (tZ cI cJ cP cS) (xF b0) b0 y_Ps_isInBox w_Ps_isInBox ({ frames := 1, cells := 0, slots := 0, locals := 21 }) [.ref sp, .ref q] h (rI (m_b (m_all (fun i => decide (m_exc (pa i) (pb i) (pc i) (pd i) x y z w ≤ 0)) 6)) h) := by
  refine gh_ofW (by decide) (Nat.le_of_ble_eq_true rfl) ?_
  intro p e s m below meth c ls hctx hno hl hG hK hX
  obtain ⟨hx, hb, hr, hml, hown, hlk, hts, hnm⟩ := hctx
  have htb : ∀ w ∈ tB, w.before _ s = true := fun w hw => hts w (List.mem_cons_of_mem _ hw)
  replace hl : lv_has ls 3 [(0, .ref sp), (1, .ref q)] := hl
  refine lv_iconst (v := 0) hx hb d_Ps_isInBox_0 (by decide) ?_
  refine lv_istore_n (lv' := [(2, .int 0), (0, .ref sp), (1, .ref q)]) hx hb d_Ps_isInBox_1 rfl hl (by decide) rfl (fun ls hl => ?_)
  refine gh_gen hG (fun H l9 hG => ?_)
  refine lp_upH (α := Unit) (G := fun ls H l9 => W p l e _ s m _ below meth c H l9 _ _ _ (F0 m 2 ls [])) 6 (fun k _u ls H l9 => (∀ i, i < k → decide (m_exc (pa i) (pb i) (pc i) (pd i) x y z w ≤ 0) = true) ∧ lv_has ls 3 [(0, .ref sp), (1, .ref q), (2, .int (nI k))] ∧ gh_P D vC b0 h s.heap H l9) ?_ 0 () ls H l9 (Nat.zero_le _) ⟨(fun i hi => absurd hi (Nat.not_lt_zero i)), (lv_sub hl [1, 2, 0] rfl), hG⟩
  intro k _u ls H l9 hk hI ih
  obtain ⟨hi1, hl, hG⟩ := hI
  refine lv_iload_n hx hb d_Ps_isInBox_2 rfl (lv_at hl 2 rfl) ?_
  refine lv_bipush (v := 6) hx hb d_Ps_isInBox_3 (by decide) ?_
  refine lv_icmp_ge (tgt := 31) hx hb d_Ps_isInBox_5 (by decide) (fun hc5 => ?_) (fun hc5 => ?_)
  · skip
    replace hc5 : 6 ≤ k := (nc_le (a := 6) (b := k) (by omega) (by omega) rfl rfl).mp hc5
    refine lv_iconst (v := 1) hx hb d_Ps_isInBox_31 (by decide) ?_
    exact gh_iret hx hb hr hlk rfl hG d_Ps_isInBox_32 ⟨by rw [m_all_t (fun i hi => hi1 i (by omega))]; rfl, rfl⟩
  · skip
    replace hc5 : ¬ 6 ≤ k := fun q9 => hc5 ((nc_le (a := 6) (b := k) (by omega) (by omega) rfl rfl).mpr q9)
    refine lv_aload_n hx hb d_Ps_isInBox_8 rfl (lv_at hl 0 rfl) ?_
    refine gh_get (ci := 2) hx hb htb in_Ps hown hK hG hsp rfl 0 (by decide) (htb _ k_1_64) (fun _ h9 => h9) rfl d_Ps_isInBox_9 ?_
    refine lv_iload_n hx hb d_Ps_isInBox_12 rfl (lv_at hl 2 rfl) ?_
    refine gh_aald (v := pl k) hx hb hK hG 2 hal rfl (vp_in_nI (by omega) (by decide)) (by rw [nI_clamp (by omega)]; exact hga _ (by omega)) d_Ps_isInBox_13 ?_
    refine lv_aload_n hx hb d_Ps_isInBox_14 rfl (lv_at hl 1 rfl) ?_
    refine gh_cV (ci := 1) (As := [.ref q]) (rest := []) (xF_ok b0) hx hb hml hown hK hX hG rfl (hpl k (by omega)) (c_Pl_excess (hpl k (by omega)) hp) (q_Pl_excess htb ⟨by decide, by decide⟩) (htb _ k_2_103) (htb _ k_2_104) (htb _ k_2_105) rfl hl.1 rfl (Nat.le_of_ble_eq_true rfl) d_Ps_isInBox_15 ⟨by decide, by decide⟩ (fun v9 h9 H l9 hp9 hG => ?_) (fun _ _ _ _ hp9 _ => by cases hp9.1)
    obtain ⟨hv9, hh9⟩ := hp9
    cases hv9
    rw [hh9] at hG
    refine W.eq (g2 := F0 m 18 ls [.long (m_exc (pa k) (pb k) (pc k) (pd k) x y z w)]) rfl ?_
    refine W.widen (k := 0) (n := 0) (by decide) (by decide) ?_
    refine lv_lconst (v := 0) hx hb d_Ps_isInBox_18 (by decide) ?_
    refine W.lcmp hx hb d_Ps_isInBox_19 ?_
    refine lv_if_le (tgt := 25) hx hb d_Ps_isInBox_20 (by decide) (fun hc20 => ?_) (fun hc20 => ?_)
    · skip
      rw [lg_cmp_le] at hc20
      refine lv_iinc (k := 2) (v := nI (k + 1)) (lv' := [(2, .int (nI (k + 1))), (0, .ref sp), (1, .ref q)]) hx hb d_Ps_isInBox_25 hl rfl (nI_1 k) (by decide) rfl (fun ls hl => ?_)
      refine lv_goto (tgt := 2) hx hb d_Ps_isInBox_28 (by decide) ?_
      exact ih () ls H l9 (by omega) ⟨lt_s hi1 (decide_eq_true hc20), (lv_sub hl [1, 2, 0] rfl), hG⟩
    · skip
      rw [lg_cmp_le] at hc20
      refine lv_iconst (v := 0) hx hb d_Ps_isInBox_23 (by decide) ?_
      exact gh_iret hx hb hr hlk rfl hG d_Ps_isInBox_24 ⟨by rw [m_all_f (k := k) (by omega) (decide_eq_false hc20)]; rfl, rfl⟩

set_option maxHeartbeats 4000000 in
set_option maxRecDepth 100000 in
/-- isOnAny -/
theorem c_Ps_isOnAny {sp al fi : Nat} {n : Nat} {ga : Nat → Option Nat} {gf : Nat → Int32} {pl fs : Nat → Nat} {pa pb pc pd : Nat → Int64} (hsp : h sp = some (.inr (2, [.ref al, .ref fi, .int (nI n)]))) (hal : h al = some (.inl (cP, 14, .inr (.inr (.inr (.inr ga)))))) (hfi : h fi = some (.inl (cI, 14, .inl gf))) (hga : ∀ i, i < n → ga i = some (pl i)) (hgf : ∀ i, i < n → gf i = nI (fs i)) (hfs : ∀ i, fs i < 14) (hpl : ∀ i, i < n → h (pl i) = some (.inr (1, [.long (pa i), .long (pb i), .long (pc i), .long (pd i)]))) (hn : n ≤ 14) {q : Nat} {x y z w : Int64} (hp : h q = some (.inr (3, [.long x, .long y, .long z, .long w]))) : gh_C l D vC (tZ cI cJ cP cS) (xF b0) b0 y_Ps_isOnAny w_Ps_isOnAny ({ frames := 1, cells := 0, slots := 0, locals := 21 }) [.ref sp, .ref q] h (rI (m_b (m_any (fun i => decide (m_exc (pa i) (pb i) (pc i) (pd i) x y z w = 0)) n)) h) := by
  refine gh_ofW (by decide) (Nat.le_of_ble_eq_true rfl) ?_
  intro p e s m below meth c ls hctx hno hl hG hK hX
  obtain ⟨hx, hb, hr, hml, hown, hlk, hts, hnm⟩ := hctx
  have htb : ∀ w ∈ tB, w.before _ s = true := fun w hw => hts w (List.mem_cons_of_mem _ hw)
  replace hl : lv_has ls 3 [(0, .ref sp), (1, .ref q)] := hl
  refine lv_iconst (v := 0) hx hb d_Ps_isOnAny_0 (by decide) ?_
  refine lv_istore_n (lv' := [(2, .int 0), (0, .ref sp), (1, .ref q)]) hx hb d_Ps_isOnAny_1 rfl hl (by decide) rfl (fun ls hl => ?_)
  refine gh_gen hG (fun H l9 hG => ?_)
  refine lp_upH (α := Unit) (G := fun ls H l9 => W p l e _ s m _ below meth c H l9 _ _ _ (F0 m 2 ls [])) n (fun k _u ls H l9 => (∀ i, i < k → decide (m_exc (pa i) (pb i) (pc i) (pd i) x y z w = 0) = false) ∧ lv_has ls 3 [(0, .ref sp), (1, .ref q), (2, .int (nI k))] ∧ gh_P D vC b0 h s.heap H l9) ?_ 0 () ls H l9 (Nat.zero_le _) ⟨(fun i hi => absurd hi (Nat.not_lt_zero i)), (lv_sub hl [1, 2, 0] rfl), hG⟩
  intro k _u ls H l9 hk hI ih
  obtain ⟨hi1, hl, hG⟩ := hI
  refine lv_iload_n hx hb d_Ps_isOnAny_2 rfl (lv_at hl 2 rfl) ?_
  refine lv_aload_n hx hb d_Ps_isOnAny_3 rfl (lv_at hl 0 rfl) ?_
  refine gh_get (ci := 2) hx hb htb in_Ps hown hK hG hsp rfl 2 (by decide) (htb _ k_1_66) (fun _ h9 => h9) rfl d_Ps_isOnAny_4 ?_
  refine lv_icmp_ge (tgt := 33) hx hb d_Ps_isOnAny_7 (by decide) (fun hc7 => ?_) (fun hc7 => ?_)
  · skip
    replace hc7 : n ≤ k := (nc_le (a := n) (b := k) (by omega) (by omega) rfl rfl).mp hc7
    refine lv_iconst (v := 0) hx hb d_Ps_isOnAny_33 (by decide) ?_
    exact gh_iret hx hb hr hlk rfl hG d_Ps_isOnAny_34 ⟨by rw [m_any_f (fun i hi => hi1 i (by omega))]; rfl, rfl⟩
  · skip
    replace hc7 : ¬ n ≤ k := fun q9 => hc7 ((nc_le (a := n) (b := k) (by omega) (by omega) rfl rfl).mpr q9)
    refine lv_aload_n hx hb d_Ps_isOnAny_10 rfl (lv_at hl 0 rfl) ?_
    refine gh_get (ci := 2) hx hb htb in_Ps hown hK hG hsp rfl 0 (by decide) (htb _ k_1_64) (fun _ h9 => h9) rfl d_Ps_isOnAny_11 ?_
    refine lv_iload_n hx hb d_Ps_isOnAny_14 rfl (lv_at hl 2 rfl) ?_
    refine gh_aald (v := pl k) hx hb hK hG 2 hal rfl (vp_in_nI (by omega) (by decide)) (by rw [nI_clamp (by omega)]; exact hga _ (by omega)) d_Ps_isOnAny_15 ?_
    refine lv_aload_n hx hb d_Ps_isOnAny_16 rfl (lv_at hl 1 rfl) ?_
    refine gh_cV (ci := 1) (As := [.ref q]) (rest := []) (xF_ok b0) hx hb hml hown hK hX hG rfl (hpl k (by omega)) (c_Pl_excess (hpl k (by omega)) hp) (q_Pl_excess htb ⟨by decide, by decide⟩) (htb _ k_2_103) (htb _ k_2_104) (htb _ k_2_105) rfl hl.1 rfl (Nat.le_of_ble_eq_true rfl) d_Ps_isOnAny_17 ⟨by decide, by decide⟩ (fun v9 h9 H l9 hp9 hG => ?_) (fun _ _ _ _ hp9 _ => by cases hp9.1)
    obtain ⟨hv9, hh9⟩ := hp9
    cases hv9
    rw [hh9] at hG
    refine W.eq (g2 := F0 m 20 ls [.long (m_exc (pa k) (pb k) (pc k) (pd k) x y z w)]) rfl ?_
    refine W.widen (k := 0) (n := 0) (by decide) (by decide) ?_
    refine lv_lconst (v := 0) hx hb d_Ps_isOnAny_20 (by decide) ?_
    refine W.lcmp hx hb d_Ps_isOnAny_21 ?_
    refine lv_if_ne (tgt := 27) hx hb d_Ps_isOnAny_22 (by decide) (fun hc22 => ?_) (fun hc22 => ?_)
    · skip
      rw [lg_cmp_eq] at hc22
      refine lv_iinc (k := 2) (v := nI (k + 1)) (lv' := [(2, .int (nI (k + 1))), (0, .ref sp), (1, .ref q)]) hx hb d_Ps_isOnAny_27 hl rfl (nI_1 k) (by decide) rfl (fun ls hl => ?_)
      refine lv_goto (tgt := 2) hx hb d_Ps_isOnAny_30 (by decide) ?_
      exact ih () ls H l9 (by omega) ⟨lt_s hi1 (decide_eq_false hc22), (lv_sub hl [1, 2, 0] rfl), hG⟩
    · skip
      rw [lg_cmp_eq] at hc22
      refine lv_iconst (v := 1) hx hb d_Ps_isOnAny_25 (by decide) ?_
      exact gh_iret hx hb hr hlk rfl hG d_Ps_isOnAny_26 ⟨by rw [m_any_t (k := k) (by omega) (decide_eq_true hc22)]; rfl, rfl⟩

set_option maxHeartbeats 4000000 in
set_option maxRecDepth 100000 in
/-- cellOf -/
theorem c_Ps_cellOf {sp al fi : Nat} {n : Nat} {ga : Nat → Option Nat} {gf : Nat → Int32} {pl fs : Nat → Nat} {pa pb pc pd : Nat → Int64} (hsp : h sp = some (.inr (2, [.ref al, .ref fi, .int (nI n)]))) (hal : h al = some (.inl (cP, 14, .inr (.inr (.inr (.inr ga)))))) (hfi : h fi = some (.inl (cI, 14, .inl gf))) (hga : ∀ i, i < n → ga i = some (pl i)) (hgf : ∀ i, i < n → gf i = nI (fs i)) (hfs : ∀ i, fs i < 14) (hpl : ∀ i, i < n → h (pl i) = some (.inr (1, [.long (pa i), .long (pb i), .long (pc i), .long (pd i)]))) (hn : n ≤ 14) {q : Nat} {x y z w : Int64} (hp : h q = some (.inr (3, [.long x, .long y, .long z, .long w]))) : gh_C l D vC (tZ cI cJ cP cS) (xF b0) b0 y_Ps_cellOf w_Ps_cellOf ({ frames := 1, cells := 0, slots := 0, locals := 21 }) [.ref sp, .ref q] h (rI (m_bits (fun i => decide (m_exc (pa i) (pb i) (pc i) (pd i) x y z w < 0)) n) h) := by
  refine gh_ofW (by decide) (Nat.le_of_ble_eq_true rfl) ?_
  intro p e s m below meth c ls hctx hno hl hG hK hX
  obtain ⟨hx, hb, hr, hml, hown, hlk, hts, hnm⟩ := hctx
  have htb : ∀ w ∈ tB, w.before _ s = true := fun w hw => hts w (List.mem_cons_of_mem _ hw)
  replace hl : lv_has ls 4 [(0, .ref sp), (1, .ref q)] := hl
  refine lv_iconst (v := 0) hx hb d_Ps_cellOf_0 (by decide) ?_
  refine lv_istore_n (lv' := [(2, .int 0), (0, .ref sp), (1, .ref q)]) hx hb d_Ps_cellOf_1 rfl hl (by decide) rfl (fun ls hl => ?_)
  refine lv_iconst (v := 0) hx hb d_Ps_cellOf_2 (by decide) ?_
  refine lv_istore_n (lv' := [(3, .int 0), (2, .int 0), (0, .ref sp), (1, .ref q)]) hx hb d_Ps_cellOf_3 rfl hl (by decide) rfl (fun ls hl => ?_)
  refine gh_gen hG (fun H l9 hG => ?_)
  refine lp_upH (α := Int32) (G := fun ls H l9 => W p l e _ s m _ below meth c H l9 _ _ _ (F0 m 4 ls [])) n (fun k acc ls H l9 => (acc = m_bits (fun i => decide (m_exc (pa i) (pb i) (pc i) (pd i) x y z w < 0)) k) ∧ lv_has ls 4 [(0, .ref sp), (1, .ref q), (2, .int acc), (3, .int (nI k))] ∧ gh_P D vC b0 h s.heap H l9) ?_ 0 0 ls H l9 (Nat.zero_le _) ⟨rfl, (lv_sub hl [2, 3, 1, 0] rfl), hG⟩
  intro k acc ls H l9 hk hI ih
  obtain ⟨hi1, hl, hG⟩ := hI
  refine lv_iload_n hx hb d_Ps_cellOf_4 rfl (lv_at hl 3 rfl) ?_
  refine lv_aload_n hx hb d_Ps_cellOf_5 rfl (lv_at hl 0 rfl) ?_
  refine gh_get (ci := 2) hx hb htb in_Ps hown hK hG hsp rfl 2 (by decide) (htb _ k_1_66) (fun _ h9 => h9) rfl d_Ps_cellOf_6 ?_
  refine lv_icmp_ge (tgt := 39) hx hb d_Ps_cellOf_9 (by decide) (fun hc9 => ?_) (fun hc9 => ?_)
  · skip
    replace hc9 : n ≤ k := (nc_le (a := n) (b := k) (by omega) (by omega) rfl rfl).mp hc9
    refine lv_iload_n hx hb d_Ps_cellOf_39 rfl (lv_at hl 2 rfl) ?_
    exact gh_iret hx hb hr hlk rfl hG d_Ps_cellOf_40 ⟨by rw [hi1, show k = n by omega], rfl⟩
  · skip
    replace hc9 : ¬ n ≤ k := fun q9 => hc9 ((nc_le (a := n) (b := k) (by omega) (by omega) rfl rfl).mpr q9)
    refine lv_aload_n hx hb d_Ps_cellOf_12 rfl (lv_at hl 0 rfl) ?_
    refine gh_get (ci := 2) hx hb htb in_Ps hown hK hG hsp rfl 0 (by decide) (htb _ k_1_64) (fun _ h9 => h9) rfl d_Ps_cellOf_13 ?_
    refine lv_iload_n hx hb d_Ps_cellOf_16 rfl (lv_at hl 3 rfl) ?_
    refine gh_aald (v := pl k) hx hb hK hG 2 hal rfl (vp_in_nI (by omega) (by decide)) (by rw [nI_clamp (by omega)]; exact hga _ (by omega)) d_Ps_cellOf_17 ?_
    refine lv_aload_n hx hb d_Ps_cellOf_18 rfl (lv_at hl 1 rfl) ?_
    refine gh_cV (ci := 1) (As := [.ref q]) (rest := []) (xF_ok b0) hx hb hml hown hK hX hG rfl (hpl k (by omega)) (c_Pl_excess (hpl k (by omega)) hp) (q_Pl_excess htb ⟨by decide, by decide⟩) (htb _ k_2_103) (htb _ k_2_104) (htb _ k_2_105) rfl hl.1 rfl (Nat.le_of_ble_eq_true rfl) d_Ps_cellOf_19 ⟨by decide, by decide⟩ (fun v9 h9 H l9 hp9 hG => ?_) (fun _ _ _ _ hp9 _ => by cases hp9.1)
    obtain ⟨hv9, hh9⟩ := hp9
    cases hv9
    rw [hh9] at hG
    refine W.eq (g2 := F0 m 22 ls [.long (m_exc (pa k) (pb k) (pc k) (pd k) x y z w)]) rfl ?_
    refine W.widen (k := 0) (n := 0) (by decide) (by decide) ?_
    refine lv_lconst (v := 0) hx hb d_Ps_cellOf_22 (by decide) ?_
    refine W.lcmp hx hb d_Ps_cellOf_23 ?_
    refine lv_if_ge (tgt := 33) hx hb d_Ps_cellOf_24 (by decide) (fun hc24 => ?_) (fun hc24 => ?_)
    · skip
      rw [lg_cmp_ge] at hc24
      refine lv_iinc (k := 3) (v := nI (k + 1)) (lv' := [(3, .int (nI (k + 1))), (0, .ref sp), (1, .ref q), (2, .int acc)]) hx hb d_Ps_cellOf_33 hl rfl (nI_1 k) (by decide) rfl (fun ls hl => ?_)
      refine lv_goto (tgt := 4) hx hb d_Ps_cellOf_36 (by decide) ?_
      exact ih acc ls H l9 (by omega) ⟨(by rw [hi1, m_bits_f (g := (fun i => decide (m_exc (pa i) (pb i) (pc i) (pd i) x y z w < 0))) (decide_eq_false (Int64.not_lt.mpr hc24))]), (lv_sub hl [1, 2, 3, 0] rfl), hG⟩
    · skip
      rw [lg_cmp_ge] at hc24
      refine lv_iload_n hx hb d_Ps_cellOf_27 rfl (lv_at hl 2 rfl) ?_
      refine lv_iconst (v := 1) hx hb d_Ps_cellOf_28 (by decide) ?_
      refine lv_iload_n hx hb d_Ps_cellOf_29 rfl (lv_at hl 3 rfl) ?_
      refine lv_ishl hx hb d_Ps_cellOf_30 ?_
      refine lv_ior hx hb d_Ps_cellOf_31 ?_
      refine lv_istore_n (lv' := [(2, .int (acc ||| (1 <<< ((nI k) &&& 31)))), (0, .ref sp), (1, .ref q), (3, .int (nI k))]) hx hb d_Ps_cellOf_32 rfl hl (by decide) rfl (fun ls hl => ?_)
      refine lv_iinc (k := 3) (v := nI (k + 1)) (lv' := [(3, .int (nI (k + 1))), (2, .int (acc ||| (1 <<< ((nI k) &&& 31)))), (0, .ref sp), (1, .ref q)]) hx hb d_Ps_cellOf_33 hl rfl (nI_1 k) (by decide) rfl (fun ls hl => ?_)
      refine lv_goto (tgt := 4) hx hb d_Ps_cellOf_36 (by decide) ?_
      exact ih (acc ||| (1 <<< ((nI k) &&& 31))) ls H l9 (by omega) ⟨(by rw [hi1, m_bits_t (g := (fun i => decide (m_exc (pa i) (pb i) (pc i) (pd i) x y z w < 0))) (decide_eq_true (Int64.not_le.mp hc24))]), (lv_sub hl [2, 3, 1, 0] rfl), hG⟩

set_option maxHeartbeats 4000000 in
set_option maxRecDepth 100000 in
/-- onlyOneAt -/
theorem c_Ps_onlyOneAt {sp al fi : Nat} {n : Nat} {ga : Nat → Option Nat} {gf : Nat → Int32} {pl fs : Nat → Nat} {pa pb pc pd : Nat → Int64} (hsp : h sp = some (.inr (2, [.ref al, .ref fi, .int (nI n)]))) (hal : h al = some (.inl (cP, 14, .inr (.inr (.inr (.inr ga)))))) (hfi : h fi = some (.inl (cI, 14, .inl gf))) (hga : ∀ i, i < n → ga i = some (pl i)) (hgf : ∀ i, i < n → gf i = nI (fs i)) (hfs : ∀ i, fs i < 14) (hpl : ∀ i, i < n → h (pl i) = some (.inr (1, [.long (pa i), .long (pb i), .long (pc i), .long (pd i)]))) (hn : n ≤ 14) {q : Nat} {x y z w : Int64} (hp : h q = some (.inr (3, [.long x, .long y, .long z, .long w]))) : gh_C l D vC (tZ cI cJ cP cS) (xF b0) b0 y_Ps_onlyOneAt w_Ps_onlyOneAt ({ frames := 1, cells := 0, slots := 0, locals := 21 }) [.ref sp, .ref q] h (rI (m_only (fun i => decide (m_exc (pa i) (pb i) (pc i) (pd i) x y z w = 0)) fs n) h) := by
  refine gh_ofW (by decide) (Nat.le_of_ble_eq_true rfl) ?_
  intro p e s m below meth c ls hctx hno hl hG hK hX
  obtain ⟨hx, hb, hr, hml, hown, hlk, hts, hnm⟩ := hctx
  have htb : ∀ w ∈ tB, w.before _ s = true := fun w hw => hts w (List.mem_cons_of_mem _ hw)
  replace hl : lv_has ls 4 [(0, .ref sp), (1, .ref q)] := hl
  refine lv_iconst (v := (-1)) hx hb d_Ps_onlyOneAt_0 (by decide) ?_
  refine lv_istore_n (lv' := [(2, .int (-1)), (0, .ref sp), (1, .ref q)]) hx hb d_Ps_onlyOneAt_1 rfl hl (by decide) rfl (fun ls hl => ?_)
  refine lv_iconst (v := 0) hx hb d_Ps_onlyOneAt_2 (by decide) ?_
  refine lv_istore_n (lv' := [(3, .int 0), (2, .int (-1)), (0, .ref sp), (1, .ref q)]) hx hb d_Ps_onlyOneAt_3 rfl hl (by decide) rfl (fun ls hl => ?_)
  refine gh_gen hG (fun H l9 hG => ?_)
  refine lp_upH (α := Int32) (G := fun ls H l9 => W p l e _ s m _ below meth c H l9 _ _ _ (F0 m 4 ls [])) n (fun k acc ls H l9 => (m_fnd (fun i => decide (m_exc (pa i) (pb i) (pc i) (pd i) x y z w = 0)) fs k = some acc) ∧ lv_has ls 4 [(0, .ref sp), (1, .ref q), (2, .int acc), (3, .int (nI k))] ∧ gh_P D vC b0 h s.heap H l9) ?_ 0 (-1) ls H l9 (Nat.zero_le _) ⟨rfl, (lv_sub hl [2, 3, 1, 0] rfl), hG⟩
  intro k acc ls H l9 hk hI ih
  obtain ⟨hi1, hl, hG⟩ := hI
  refine lv_iload_n hx hb d_Ps_onlyOneAt_4 rfl (lv_at hl 3 rfl) ?_
  refine lv_aload_n hx hb d_Ps_onlyOneAt_5 rfl (lv_at hl 0 rfl) ?_
  refine gh_get (ci := 2) hx hb htb in_Ps hown hK hG hsp rfl 2 (by decide) (htb _ k_1_66) (fun _ h9 => h9) rfl d_Ps_onlyOneAt_6 ?_
  refine lv_icmp_ge (tgt := 57) hx hb d_Ps_onlyOneAt_9 (by decide) (fun hc9 => ?_) (fun hc9 => ?_)
  · skip
    replace hc9 : n ≤ k := (nc_le (a := n) (b := k) (by omega) (by omega) rfl rfl).mp hc9
    refine lv_iload_n hx hb d_Ps_onlyOneAt_57 rfl (lv_at hl 2 rfl) ?_
    exact gh_iret hx hb hr hlk rfl hG d_Ps_onlyOneAt_58 ⟨by unfold m_only; rw [show n = k by omega, hi1]; rfl, rfl⟩
  · skip
    replace hc9 : ¬ n ≤ k := fun q9 => hc9 ((nc_le (a := n) (b := k) (by omega) (by omega) rfl rfl).mpr q9)
    refine lv_aload_n hx hb d_Ps_onlyOneAt_12 rfl (lv_at hl 0 rfl) ?_
    refine gh_get (ci := 2) hx hb htb in_Ps hown hK hG hsp rfl 0 (by decide) (htb _ k_1_64) (fun _ h9 => h9) rfl d_Ps_onlyOneAt_13 ?_
    refine lv_iload_n hx hb d_Ps_onlyOneAt_16 rfl (lv_at hl 3 rfl) ?_
    refine gh_aald (v := pl k) hx hb hK hG 2 hal rfl (vp_in_nI (by omega) (by decide)) (by rw [nI_clamp (by omega)]; exact hga _ (by omega)) d_Ps_onlyOneAt_17 ?_
    refine lv_aload_n hx hb d_Ps_onlyOneAt_18 rfl (lv_at hl 1 rfl) ?_
    refine gh_cV (ci := 1) (As := [.ref q]) (rest := []) (xF_ok b0) hx hb hml hown hK hX hG rfl (hpl k (by omega)) (c_Pl_excess (hpl k (by omega)) hp) (q_Pl_excess htb ⟨by decide, by decide⟩) (htb _ k_2_103) (htb _ k_2_104) (htb _ k_2_105) rfl hl.1 rfl (Nat.le_of_ble_eq_true rfl) d_Ps_onlyOneAt_19 ⟨by decide, by decide⟩ (fun v9 h9 H l9 hp9 hG => ?_) (fun _ _ _ _ hp9 _ => by cases hp9.1)
    obtain ⟨hv9, hh9⟩ := hp9
    cases hv9
    rw [hh9] at hG
    refine W.eq (g2 := F0 m 22 ls [.long (m_exc (pa k) (pb k) (pc k) (pd k) x y z w)]) rfl ?_
    refine W.widen (k := 0) (n := 0) (by decide) (by decide) ?_
    refine lv_lconst (v := 0) hx hb d_Ps_onlyOneAt_22 (by decide) ?_
    refine W.lcmp hx hb d_Ps_onlyOneAt_23 ?_
    refine lv_if_ne (tgt := 51) hx hb d_Ps_onlyOneAt_24 (by decide) (fun hc24 => ?_) (fun hc24 => ?_)
    · skip
      rw [lg_cmp_eq] at hc24
      refine lv_iinc (k := 3) (v := nI (k + 1)) (lv' := [(3, .int (nI (k + 1))), (0, .ref sp), (1, .ref q), (2, .int acc)]) hx hb d_Ps_onlyOneAt_51 hl rfl (nI_1 k) (by decide) rfl (fun ls hl => ?_)
      refine lv_goto (tgt := 4) hx hb d_Ps_onlyOneAt_54 (by decide) ?_
      exact ih acc ls H l9 (by omega) ⟨(m_fnd_s1 (on := (fun i => decide (m_exc (pa i) (pb i) (pc i) (pd i) x y z w = 0))) hi1 (decide_eq_false hc24)), (lv_sub hl [1, 2, 3, 0] rfl), hG⟩
    · skip
      rw [lg_cmp_eq] at hc24
      refine lv_iload_n hx hb d_Ps_onlyOneAt_27 rfl (lv_at hl 2 rfl) ?_
      refine lv_iconst (v := (-1)) hx hb d_Ps_onlyOneAt_28 (by decide) ?_
      refine lv_icmp_eq (tgt := 44) hx hb d_Ps_onlyOneAt_29 (by decide) (fun hc29 => ?_) (fun hc29 => ?_)
      · skip
        refine lv_aload_n hx hb d_Ps_onlyOneAt_44 rfl (lv_at hl 0 rfl) ?_
        refine gh_get (ci := 2) hx hb htb in_Ps hown hK hG hsp rfl 1 (by decide) (htb _ k_1_65) (fun _ h9 => h9) rfl d_Ps_onlyOneAt_45 ?_
        refine lv_iload_n hx hb d_Ps_onlyOneAt_48 rfl (lv_at hl 3 rfl) ?_
        have hfb1 := hfs k
        refine gh_iald (v := nI (fs k)) hx hb hK hG 0 hfi rfl (vp_in_nI (by omega) (by decide)) (by rw [nI_clamp (by omega)]; exact hgf _ (by omega)) d_Ps_onlyOneAt_49 ?_
        refine lv_istore_n (lv' := [(2, .int (nI (fs k))), (0, .ref sp), (1, .ref q), (3, .int (nI k))]) hx hb d_Ps_onlyOneAt_50 rfl hl (by decide) rfl (fun ls hl => ?_)
        refine lv_iinc (k := 3) (v := nI (k + 1)) (lv' := [(3, .int (nI (k + 1))), (2, .int (nI (fs k))), (0, .ref sp), (1, .ref q)]) hx hb d_Ps_onlyOneAt_51 hl rfl (nI_1 k) (by decide) rfl (fun ls hl => ?_)
        refine lv_goto (tgt := 4) hx hb d_Ps_onlyOneAt_54 (by decide) ?_
        exact ih (nI (fs k)) ls H l9 (by omega) ⟨(m_fnd_s2 (on := (fun i => decide (m_exc (pa i) (pb i) (pc i) (pd i) x y z w = 0))) hi1 (decide_eq_true hc24) (Or.inl hc29)), (lv_sub hl [2, 3, 1, 0] rfl), hG⟩
      · skip
        refine lv_iload_n hx hb d_Ps_onlyOneAt_32 rfl (lv_at hl 2 rfl) ?_
        refine lv_aload_n hx hb d_Ps_onlyOneAt_33 rfl (lv_at hl 0 rfl) ?_
        refine gh_get (ci := 2) hx hb htb in_Ps hown hK hG hsp rfl 1 (by decide) (htb _ k_1_65) (fun _ h9 => h9) rfl d_Ps_onlyOneAt_34 ?_
        refine lv_iload_n hx hb d_Ps_onlyOneAt_37 rfl (lv_at hl 3 rfl) ?_
        have hfb2 := hfs k
        refine gh_iald (v := nI (fs k)) hx hb hK hG 0 hfi rfl (vp_in_nI (by omega) (by decide)) (by rw [nI_clamp (by omega)]; exact hgf _ (by omega)) d_Ps_onlyOneAt_38 ?_
        refine lv_icmp_eq (tgt := 44) hx hb d_Ps_onlyOneAt_39 (by decide) (fun hc39 => ?_) (fun hc39 => ?_)
        · skip
          refine lv_aload_n hx hb d_Ps_onlyOneAt_44 rfl (lv_at hl 0 rfl) ?_
          refine gh_get (ci := 2) hx hb htb in_Ps hown hK hG hsp rfl 1 (by decide) (htb _ k_1_65) (fun _ h9 => h9) rfl d_Ps_onlyOneAt_45 ?_
          refine lv_iload_n hx hb d_Ps_onlyOneAt_48 rfl (lv_at hl 3 rfl) ?_
          have hfb3 := hfs k
          refine gh_iald (v := nI (fs k)) hx hb hK hG 0 hfi rfl (vp_in_nI (by omega) (by decide)) (by rw [nI_clamp (by omega)]; exact hgf _ (by omega)) d_Ps_onlyOneAt_49 ?_
          refine lv_istore_n (lv' := [(2, .int (nI (fs k))), (0, .ref sp), (1, .ref q), (3, .int (nI k))]) hx hb d_Ps_onlyOneAt_50 rfl hl (by decide) rfl (fun ls hl => ?_)
          refine lv_iinc (k := 3) (v := nI (k + 1)) (lv' := [(3, .int (nI (k + 1))), (2, .int (nI (fs k))), (0, .ref sp), (1, .ref q)]) hx hb d_Ps_onlyOneAt_51 hl rfl (nI_1 k) (by decide) rfl (fun ls hl => ?_)
          refine lv_goto (tgt := 4) hx hb d_Ps_onlyOneAt_54 (by decide) ?_
          exact ih (nI (fs k)) ls H l9 (by omega) ⟨(m_fnd_s2 (on := (fun i => decide (m_exc (pa i) (pb i) (pc i) (pd i) x y z w = 0))) hi1 (decide_eq_true hc24) (Or.inr hc39)), (lv_sub hl [2, 3, 1, 0] rfl), hG⟩
        · skip
          refine lv_iconst (v := (-1)) hx hb d_Ps_onlyOneAt_42 (by decide) ?_
          exact gh_iret hx hb hr hlk rfl hG d_Ps_onlyOneAt_43 ⟨by unfold m_only; rw [m_fnd_none (k := k + 1) (m_fnd_n (on := (fun i => decide (m_exc (pa i) (pb i) (pc i) (pd i) x y z w = 0))) hi1 (decide_eq_true hc24) hc29 hc39) n (by omega)]; rfl, rfl⟩

set_option maxHeartbeats 4000000 in
set_option maxRecDepth 100000 in
/-- halfSpacesAlong -/
theorem c_Ps_halfSpacesAlong {sp al fi : Nat} {n : Nat} {ga : Nat → Option Nat} {gf : Nat → Int32} {pl fs : Nat → Nat} {pa pb pc pd : Nat → Int64} (hsp : h sp = some (.inr (2, [.ref al, .ref fi, .int (nI n)]))) (hal : h al = some (.inl (cP, 14, .inr (.inr (.inr (.inr ga)))))) (hfi : h fi = some (.inl (cI, 14, .inl gf))) (hga : ∀ i, i < n → ga i = some (pl i)) (hgf : ∀ i, i < n → gf i = nI (fs i)) (hfs : ∀ i, fs i < 14) (hpl : ∀ i, i < n → h (pl i) = some (.inr (1, [.long (pa i), .long (pb i), .long (pc i), .long (pd i)]))) (hn : n ≤ 14) {fc : Nat} {sm : Bool} (hfc : fc < n) : gh_C l D vC (tZ cI cJ cP cS) (xF b0) b0 y_Ps_halfSpacesAlong w_Ps_halfSpacesAlong ({ frames := 1, cells := 0, slots := 0, locals := 21 }) [.ref sp, .int (nI fc), .int (m_b sm)] h (rI (m_bits (fun i => decide (fs i = fc) && (m_lk (pa i) (pb i) (pc i) (pa fc) (pb fc) (pc fc) == sm)) n) h) := by
  refine gh_ofW (by decide) (Nat.le_of_ble_eq_true rfl) ?_
  intro p e s m below meth c ls hctx hno hl hG hK hX
  obtain ⟨hx, hb, hr, hml, hown, hlk, hts, hnm⟩ := hctx
  have htb : ∀ w ∈ tB, w.before _ s = true := fun w hw => hts w (List.mem_cons_of_mem _ hw)
  replace hl : lv_has ls 5 [(0, .ref sp), (1, .int (nI fc)), (2, .int (m_b sm))] := hl
  refine lv_iconst (v := 0) hx hb d_Ps_halfSpacesAlong_0 (by decide) ?_
  refine lv_istore_n (lv' := [(3, .int 0), (0, .ref sp), (1, .int (nI fc)), (2, .int (m_b sm))]) hx hb d_Ps_halfSpacesAlong_1 rfl hl (by decide) rfl (fun ls hl => ?_)
  refine lv_iconst (v := 0) hx hb d_Ps_halfSpacesAlong_2 (by decide) ?_
  refine lv_istore (lv' := [(4, .int 0), (3, .int 0), (0, .ref sp), (1, .int (nI fc)), (2, .int (m_b sm))]) hx hb d_Ps_halfSpacesAlong_3 hl (by decide) rfl (fun ls hl => ?_)
  refine gh_gen hG (fun H l9 hG => ?_)
  refine lp_upH (α := Int32) (G := fun ls H l9 => W p l e _ s m _ below meth c H l9 _ _ _ (F0 m 5 ls [])) n (fun k acc ls H l9 => (acc = m_bits (fun i => decide (fs i = fc) && (m_lk (pa i) (pb i) (pc i) (pa fc) (pb fc) (pc fc) == sm)) k) ∧ lv_has ls 5 [(0, .ref sp), (1, .int (nI fc)), (2, .int (m_b sm)), (3, .int acc), (4, .int (nI k))] ∧ gh_P D vC b0 h s.heap H l9) ?_ 0 0 ls H l9 (Nat.zero_le _) ⟨rfl, (lv_sub hl [2, 3, 4, 1, 0] rfl), hG⟩
  intro k acc ls H l9 hk hI ih
  obtain ⟨hi1, hl, hG⟩ := hI
  refine lv_iload hx hb d_Ps_halfSpacesAlong_5 (lv_at hl 4 rfl) ?_
  refine lv_aload_n hx hb d_Ps_halfSpacesAlong_7 rfl (lv_at hl 0 rfl) ?_
  refine gh_get (ci := 2) hx hb htb in_Ps hown hK hG hsp rfl 2 (by decide) (htb _ k_1_66) (fun _ h9 => h9) rfl d_Ps_halfSpacesAlong_8 ?_
  refine lv_icmp_ge (tgt := 58) hx hb d_Ps_halfSpacesAlong_11 (by decide) (fun hc11 => ?_) (fun hc11 => ?_)
  · skip
    replace hc11 : n ≤ k := (nc_le (a := n) (b := k) (by omega) (by omega) rfl rfl).mp hc11
    refine lv_iload_n hx hb d_Ps_halfSpacesAlong_58 rfl (lv_at hl 3 rfl) ?_
    exact gh_iret hx hb hr hlk rfl hG d_Ps_halfSpacesAlong_59 ⟨by rw [hi1, show k = n by omega], rfl⟩
  · skip
    replace hc11 : ¬ n ≤ k := fun q9 => hc11 ((nc_le (a := n) (b := k) (by omega) (by omega) rfl rfl).mpr q9)
    refine lv_aload_n hx hb d_Ps_halfSpacesAlong_14 rfl (lv_at hl 0 rfl) ?_
    refine gh_get (ci := 2) hx hb htb in_Ps hown hK hG hsp rfl 1 (by decide) (htb _ k_1_65) (fun _ h9 => h9) rfl d_Ps_halfSpacesAlong_15 ?_
    refine lv_iload hx hb d_Ps_halfSpacesAlong_18 (lv_at hl 4 rfl) ?_
    have hfb1 := hfs k
    refine gh_iald (v := nI (fs k)) hx hb hK hG 0 hfi rfl (vp_in_nI (by omega) (by decide)) (by rw [nI_clamp (by omega)]; exact hgf _ (by omega)) d_Ps_halfSpacesAlong_20 ?_
    refine lv_iload_n hx hb d_Ps_halfSpacesAlong_21 rfl (lv_at hl 1 rfl) ?_
    refine lv_icmp_ne (tgt := 52) hx hb d_Ps_halfSpacesAlong_22 (by decide) (fun hc22 => ?_) (fun hc22 => ?_)
    · skip
      replace hc22 : ¬ (fs k) = fc := fun q9 => hc22 ((nc_eq (a := (fs k)) (b := fc) (by omega) (by omega) rfl rfl).mpr q9)
      refine lv_iinc (k := 4) (v := nI (k + 1)) (lv' := [(4, .int (nI (k + 1))), (0, .ref sp), (1, .int (nI fc)), (2, .int (m_b sm)), (3, .int acc)]) hx hb d_Ps_halfSpacesAlong_52 hl rfl (nI_1 k) (by decide) rfl (fun ls hl => ?_)
      refine lv_goto (tgt := 5) hx hb d_Ps_halfSpacesAlong_55 (by decide) ?_
      exact ih acc ls H l9 (by omega) ⟨(by rw [hi1, m_bits_f (g := (fun i => decide (fs i = fc) && (m_lk (pa i) (pb i) (pc i) (pa fc) (pb fc) (pc fc) == sm))) (by simp [hc22])]), (lv_sub hl [1, 2, 3, 4, 0] rfl), hG⟩
    · skip
      replace hc22 : (fs k) = fc := (nc_eq (a := (fs k)) (b := fc) (by omega) (by omega) rfl rfl).mp hc22
      refine lv_aload_n hx hb d_Ps_halfSpacesAlong_25 rfl (lv_at hl 0 rfl) ?_
      refine gh_get (ci := 2) hx hb htb in_Ps hown hK hG hsp rfl 0 (by decide) (htb _ k_1_64) (fun _ h9 => h9) rfl d_Ps_halfSpacesAlong_26 ?_
      refine lv_iload hx hb d_Ps_halfSpacesAlong_29 (lv_at hl 4 rfl) ?_
      refine gh_aald (v := pl k) hx hb hK hG 2 hal rfl (vp_in_nI (by omega) (by decide)) (by rw [nI_clamp (by omega)]; exact hga _ (by omega)) d_Ps_halfSpacesAlong_31 ?_
      refine lv_aload_n hx hb d_Ps_halfSpacesAlong_32 rfl (lv_at hl 0 rfl) ?_
      refine gh_get (ci := 2) hx hb htb in_Ps hown hK hG hsp rfl 0 (by decide) (htb _ k_1_64) (fun _ h9 => h9) rfl d_Ps_halfSpacesAlong_33 ?_
      refine lv_iload_n hx hb d_Ps_halfSpacesAlong_36 rfl (lv_at hl 1 rfl) ?_
      refine gh_aald (v := pl fc) hx hb hK hG 2 hal rfl (vp_in_nI (by omega) (by decide)) (by rw [nI_clamp (by omega)]; exact hga _ (by omega)) d_Ps_halfSpacesAlong_37 ?_
      refine gh_cV (ci := 1) (As := [.ref (pl fc)]) (rest := []) (xF_ok b0) hx hb hml hown hK hX hG rfl (hpl k (by omega)) (c_Pl_looksLike (hpl k (by omega)) (hpl fc (by omega))) (q_Pl_looksLike htb ⟨by decide, by decide⟩) (htb _ k_2_166) (htb _ k_2_167) (htb _ k_2_168) rfl hl.1 rfl (Nat.le_of_ble_eq_true rfl) d_Ps_halfSpacesAlong_38 ⟨by decide, by decide⟩ (fun v9 h9 H l9 hp9 hG => ?_) (fun _ _ _ _ hp9 _ => by cases hp9.1)
      obtain ⟨hv9, hh9⟩ := hp9
      cases hv9
      rw [hh9] at hG
      refine W.eq (g2 := F0 m 41 ls [.int (m_b (m_lk (pa k) (pb k) (pc k) (pa fc) (pb fc) (pc fc)))]) rfl ?_
      refine W.widen (k := 0) (n := 0) (by decide) (by decide) ?_
      refine lv_iload_n hx hb d_Ps_halfSpacesAlong_41 rfl (lv_at hl 2 rfl) ?_
      refine lv_icmp_ne (tgt := 52) hx hb d_Ps_halfSpacesAlong_42 (by decide) (fun hc42 => ?_) (fun hc42 => ?_)
      · skip
        refine lv_iinc (k := 4) (v := nI (k + 1)) (lv' := [(4, .int (nI (k + 1))), (0, .ref sp), (1, .int (nI fc)), (2, .int (m_b sm)), (3, .int acc)]) hx hb d_Ps_halfSpacesAlong_52 hl rfl (nI_1 k) (by decide) rfl (fun ls hl => ?_)
        refine lv_goto (tgt := 5) hx hb d_Ps_halfSpacesAlong_55 (by decide) ?_
        exact ih acc ls H l9 (by omega) ⟨(by rw [hi1, m_bits_f (g := (fun i => decide (fs i = fc) && (m_lk (pa i) (pb i) (pc i) (pa fc) (pb fc) (pc fc) == sm))) (by have q9 := mt mb_eq.mpr hc42; simp_all)]), (lv_sub hl [1, 2, 3, 4, 0] rfl), hG⟩
      · skip
        refine lv_iload_n hx hb d_Ps_halfSpacesAlong_45 rfl (lv_at hl 3 rfl) ?_
        refine lv_iconst (v := 1) hx hb d_Ps_halfSpacesAlong_46 (by decide) ?_
        refine lv_iload hx hb d_Ps_halfSpacesAlong_47 (lv_at hl 4 rfl) ?_
        refine lv_ishl hx hb d_Ps_halfSpacesAlong_49 ?_
        refine lv_ior hx hb d_Ps_halfSpacesAlong_50 ?_
        refine lv_istore_n (lv' := [(3, .int (acc ||| (1 <<< ((nI k) &&& 31)))), (0, .ref sp), (1, .int (nI fc)), (2, .int (m_b sm)), (4, .int (nI k))]) hx hb d_Ps_halfSpacesAlong_51 rfl hl (by decide) rfl (fun ls hl => ?_)
        refine lv_iinc (k := 4) (v := nI (k + 1)) (lv' := [(4, .int (nI (k + 1))), (3, .int (acc ||| (1 <<< ((nI k) &&& 31)))), (0, .ref sp), (1, .int (nI fc)), (2, .int (m_b sm))]) hx hb d_Ps_halfSpacesAlong_52 hl rfl (nI_1 k) (by decide) rfl (fun ls hl => ?_)
        refine lv_goto (tgt := 5) hx hb d_Ps_halfSpacesAlong_55 (by decide) ?_
        exact ih (acc ||| (1 <<< ((nI k) &&& 31))) ls H l9 (by omega) ⟨(by rw [hi1, m_bits_t (g := (fun i => decide (fs i = fc) && (m_lk (pa i) (pb i) (pc i) (pa fc) (pb fc) (pc fc) == sm))) (by have q9 := mb_eq.mp hc42; simp_all)]), (lv_sub hl [2, 3, 4, 1, 0] rfl), hG⟩

set_option maxHeartbeats 4000000 in
set_option maxRecDepth 100000 in
/-- cellWhereLess -/
theorem c_Ps_cellWhereLess {sp al fi : Nat} {n : Nat} {ga : Nat → Option Nat} {gf : Nat → Int32} {pl fs : Nat → Nat} {pa pb pc pd : Nat → Int64} (hsp : h sp = some (.inr (2, [.ref al, .ref fi, .int (nI n)]))) (hal : h al = some (.inl (cP, 14, .inr (.inr (.inr (.inr ga)))))) (hfi : h fi = some (.inl (cI, 14, .inl gf))) (hga : ∀ i, i < n → ga i = some (pl i)) (hgf : ∀ i, i < n → gf i = nI (fs i)) (hfs : ∀ i, fs i < 14) (hpl : ∀ i, i < n → h (pl i) = some (.inr (1, [.long (pa i), .long (pb i), .long (pc i), .long (pd i)]))) (hn : n ≤ 14) {q : Nat} {x y z w : Int64} (hp : h q = some (.inr (3, [.long x, .long y, .long z, .long w]))) {fc : Nat} (hfc : fc < n) : gh_C l D vC (tZ cI cJ cP cS) (xF b0) b0 y_Ps_cellWhereLess w_Ps_cellWhereLess ({ frames := 2, cells := 0, slots := 0, locals := 50 }) [.ref sp, .ref q, .int (nI fc)] h (rI (m_bits (fun i => decide (m_exc (pa i) (pb i) (pc i) (pd i) x y z w < 0)) n ||| m_bits (fun i => decide (fs i = fc) && (m_lk (pa i) (pb i) (pc i) (pa fc) (pb fc) (pc fc) == true)) n) h) := by
  refine gh_ofW (by decide) (Nat.le_of_ble_eq_true rfl) ?_
  intro p e s m below meth c ls hctx hno hl hG hK hX
  obtain ⟨hx, hb, hr, hml, hown, hlk, hts, hnm⟩ := hctx
  have htb : ∀ w ∈ tB, w.before _ s = true := fun w hw => hts w (List.mem_cons_of_mem _ hw)
  replace hl : lv_has ls 3 [(0, .ref sp), (1, .ref q), (2, .int (nI fc))] := hl
  refine lv_aload_n hx hb d_Ps_cellWhereLess_0 rfl (lv_at hl 0 rfl) ?_
  refine lv_aload_n hx hb d_Ps_cellWhereLess_1 rfl (lv_at hl 1 rfl) ?_
  refine gh_cV (ci := 2) (As := [.ref q]) (rest := []) (xF_ok b0) hx hb hml hown hK hX hG rfl hsp (c_Ps_cellOf hsp hal hfi hga hgf hfs hpl hn hp) (q_Ps_cellOf htb ⟨by decide, by decide⟩) (htb _ k_2_161) (htb _ k_2_108) (htb _ k_2_109) rfl hl.1 rfl (Nat.le_of_ble_eq_true rfl) d_Ps_cellWhereLess_2 ⟨by decide, by decide⟩ (fun v9 h9 H l9 hp9 hG => ?_) (fun _ _ _ _ hp9 _ => by cases hp9.1)
  obtain ⟨hv9, hh9⟩ := hp9
  cases hv9
  rw [hh9] at hG
  refine W.eq (g2 := F0 m 5 ls [.int (m_bits (fun i => decide (m_exc (pa i) (pb i) (pc i) (pd i) x y z w < 0)) n)]) rfl ?_
  refine W.widen (k := 0) (n := 0) (by decide) (by decide) ?_
  refine lv_aload_n hx hb d_Ps_cellWhereLess_5 rfl (lv_at hl 0 rfl) ?_
  refine lv_iload_n hx hb d_Ps_cellWhereLess_6 rfl (lv_at hl 2 rfl) ?_
  refine lv_iconst (v := 1) hx hb d_Ps_cellWhereLess_7 (by decide) ?_
  refine gh_cV (ci := 2) (As := [.int (nI fc), .int 1]) (rest := [.int (m_bits (fun i => decide (m_exc (pa i) (pb i) (pc i) (pd i) x y z w < 0)) n)]) (xF_ok b0) hx hb hml hown hK hX hG rfl hsp (c_Ps_halfSpacesAlong (sm := true) hsp hal hfi hga hgf hfs hpl hn (by omega)) (q_Ps_halfSpacesAlong htb ⟨by decide, by decide⟩) (htb _ k_2_162) (htb _ k_2_164) (htb _ k_s_Ps_halfSpacesAlong) rfl hl.1 rfl (Nat.le_of_ble_eq_true rfl) d_Ps_cellWhereLess_8 ⟨by decide, by decide⟩ (fun v9 h9 H l9 hp9 hG => ?_) (fun _ _ _ _ hp9 _ => by cases hp9.1)
  obtain ⟨hv9, hh9⟩ := hp9
  cases hv9
  rw [hh9] at hG
  refine W.eq (g2 := F0 m 11 ls [.int (m_bits (fun i => decide (fs i = fc) && (m_lk (pa i) (pb i) (pc i) (pa fc) (pb fc) (pc fc) == true)) n), .int (m_bits (fun i => decide (m_exc (pa i) (pb i) (pc i) (pd i) x y z w < 0)) n)]) rfl ?_
  refine W.widen (k := 0) (n := 0) (by decide) (by decide) ?_
  refine lv_ior hx hb d_Ps_cellWhereLess_11 ?_
  exact gh_iret hx hb hr hlk rfl hG d_Ps_cellWhereLess_12 ⟨rfl, rfl⟩

set_option maxHeartbeats 4000000 in
set_option maxRecDepth 100000 in
/-- cellWhereMore -/
theorem c_Ps_cellWhereMore {sp al fi : Nat} {n : Nat} {ga : Nat → Option Nat} {gf : Nat → Int32} {pl fs : Nat → Nat} {pa pb pc pd : Nat → Int64} (hsp : h sp = some (.inr (2, [.ref al, .ref fi, .int (nI n)]))) (hal : h al = some (.inl (cP, 14, .inr (.inr (.inr (.inr ga)))))) (hfi : h fi = some (.inl (cI, 14, .inl gf))) (hga : ∀ i, i < n → ga i = some (pl i)) (hgf : ∀ i, i < n → gf i = nI (fs i)) (hfs : ∀ i, fs i < 14) (hpl : ∀ i, i < n → h (pl i) = some (.inr (1, [.long (pa i), .long (pb i), .long (pc i), .long (pd i)]))) (hn : n ≤ 14) {q : Nat} {x y z w : Int64} (hp : h q = some (.inr (3, [.long x, .long y, .long z, .long w]))) {fc : Nat} (hfc : fc < n) : gh_C l D vC (tZ cI cJ cP cS) (xF b0) b0 y_Ps_cellWhereMore w_Ps_cellWhereMore ({ frames := 2, cells := 0, slots := 0, locals := 50 }) [.ref sp, .ref q, .int (nI fc)] h (rI (m_bits (fun i => decide (m_exc (pa i) (pb i) (pc i) (pd i) x y z w < 0)) n ||| m_bits (fun i => decide (fs i = fc) && (m_lk (pa i) (pb i) (pc i) (pa fc) (pb fc) (pc fc) == false)) n) h) := by
  refine gh_ofW (by decide) (Nat.le_of_ble_eq_true rfl) ?_
  intro p e s m below meth c ls hctx hno hl hG hK hX
  obtain ⟨hx, hb, hr, hml, hown, hlk, hts, hnm⟩ := hctx
  have htb : ∀ w ∈ tB, w.before _ s = true := fun w hw => hts w (List.mem_cons_of_mem _ hw)
  replace hl : lv_has ls 3 [(0, .ref sp), (1, .ref q), (2, .int (nI fc))] := hl
  refine lv_aload_n hx hb d_Ps_cellWhereMore_0 rfl (lv_at hl 0 rfl) ?_
  refine lv_aload_n hx hb d_Ps_cellWhereMore_1 rfl (lv_at hl 1 rfl) ?_
  refine gh_cV (ci := 2) (As := [.ref q]) (rest := []) (xF_ok b0) hx hb hml hown hK hX hG rfl hsp (c_Ps_cellOf hsp hal hfi hga hgf hfs hpl hn hp) (q_Ps_cellOf htb ⟨by decide, by decide⟩) (htb _ k_2_161) (htb _ k_2_108) (htb _ k_2_109) rfl hl.1 rfl (Nat.le_of_ble_eq_true rfl) d_Ps_cellWhereMore_2 ⟨by decide, by decide⟩ (fun v9 h9 H l9 hp9 hG => ?_) (fun _ _ _ _ hp9 _ => by cases hp9.1)
  obtain ⟨hv9, hh9⟩ := hp9
  cases hv9
  rw [hh9] at hG
  refine W.eq (g2 := F0 m 5 ls [.int (m_bits (fun i => decide (m_exc (pa i) (pb i) (pc i) (pd i) x y z w < 0)) n)]) rfl ?_
  refine W.widen (k := 0) (n := 0) (by decide) (by decide) ?_
  refine lv_aload_n hx hb d_Ps_cellWhereMore_5 rfl (lv_at hl 0 rfl) ?_
  refine lv_iload_n hx hb d_Ps_cellWhereMore_6 rfl (lv_at hl 2 rfl) ?_
  refine lv_iconst (v := 0) hx hb d_Ps_cellWhereMore_7 (by decide) ?_
  refine gh_cV (ci := 2) (As := [.int (nI fc), .int 0]) (rest := [.int (m_bits (fun i => decide (m_exc (pa i) (pb i) (pc i) (pd i) x y z w < 0)) n)]) (xF_ok b0) hx hb hml hown hK hX hG rfl hsp (c_Ps_halfSpacesAlong (sm := false) hsp hal hfi hga hgf hfs hpl hn (by omega)) (q_Ps_halfSpacesAlong htb ⟨by decide, by decide⟩) (htb _ k_2_162) (htb _ k_2_164) (htb _ k_s_Ps_halfSpacesAlong) rfl hl.1 rfl (Nat.le_of_ble_eq_true rfl) d_Ps_cellWhereMore_8 ⟨by decide, by decide⟩ (fun v9 h9 H l9 hp9 hG => ?_) (fun _ _ _ _ hp9 _ => by cases hp9.1)
  obtain ⟨hv9, hh9⟩ := hp9
  cases hv9
  rw [hh9] at hG
  refine W.eq (g2 := F0 m 11 ls [.int (m_bits (fun i => decide (fs i = fc) && (m_lk (pa i) (pb i) (pc i) (pa fc) (pb fc) (pc fc) == false)) n), .int (m_bits (fun i => decide (m_exc (pa i) (pb i) (pc i) (pd i) x y z w < 0)) n)]) rfl ?_
  refine W.widen (k := 0) (n := 0) (by decide) (by decide) ?_
  refine lv_ior hx hb d_Ps_cellWhereMore_11 ?_
  exact gh_iret hx hb hr hlk rfl hG d_Ps_cellWhereMore_12 ⟨rfl, rfl⟩

set_option maxHeartbeats 4000000 in
set_option maxRecDepth 100000 in
/-- firstOneWith -/
theorem c_Ps_firstOneWith {sp al fi : Nat} {n : Nat} {ga : Nat → Option Nat} {gf : Nat → Int32} {pl fs : Nat → Nat} {pa pb pc pd : Nat → Int64} (hsp : h sp = some (.inr (2, [.ref al, .ref fi, .int (nI n)]))) (hal : h al = some (.inl (cP, 14, .inr (.inr (.inr (.inr ga)))))) (hfi : h fi = some (.inl (cI, 14, .inl gf))) (hga : ∀ i, i < n → ga i = some (pl i)) (hgf : ∀ i, i < n → gf i = nI (fs i)) (hfs : ∀ i, fs i < 14) (hpl : ∀ i, i < n → h (pl i) = some (.inr (1, [.long (pa i), .long (pb i), .long (pc i), .long (pd i)]))) (hn : n ≤ 14) {q : Nat} {qa qb qc qd : Int64} (hq : h q = some (.inr (1, [.long qa, .long qb, .long qc, .long qd]))) : gh_C l D vC (tZ cI cJ cP cS) (xF b0) b0 y_Ps_firstOneWith w_Ps_firstOneWith ({ frames := 1, cells := 0, slots := 0, locals := 21 }) [.ref sp, .ref q] h (rI (nI (m_fst (fun i => m_one (pa i) (pb i) (pc i) (pd i) qa qb qc qd) n)) h) := by
  refine gh_ofW (by decide) (Nat.le_of_ble_eq_true rfl) ?_
  intro p e s m below meth c ls hctx hno hl hG hK hX
  obtain ⟨hx, hb, hr, hml, hown, hlk, hts, hnm⟩ := hctx
  have htb : ∀ w ∈ tB, w.before _ s = true := fun w hw => hts w (List.mem_cons_of_mem _ hw)
  replace hl : lv_has ls 3 [(0, .ref sp), (1, .ref q)] := hl
  refine lv_iconst (v := 0) hx hb d_Ps_firstOneWith_0 (by decide) ?_
  refine lv_istore_n (lv' := [(2, .int 0), (0, .ref sp), (1, .ref q)]) hx hb d_Ps_firstOneWith_1 rfl hl (by decide) rfl (fun ls hl => ?_)
  refine gh_gen hG (fun H l9 hG => ?_)
  refine lp_upH (α := Unit) (G := fun ls H l9 => W p l e _ s m _ below meth c H l9 _ _ _ (F0 m 2 ls [])) n (fun k _u ls H l9 => (∀ i, i < k → (fun i => m_one (pa i) (pb i) (pc i) (pd i) qa qb qc qd) i = false) ∧ lv_has ls 3 [(0, .ref sp), (1, .ref q), (2, .int (nI k))] ∧ gh_P D vC b0 h s.heap H l9) ?_ 0 () ls H l9 (Nat.zero_le _) ⟨(fun i hi => absurd hi (Nat.not_lt_zero i)), (lv_sub hl [1, 2, 0] rfl), hG⟩
  intro k _u ls H l9 hk hI ih
  obtain ⟨hi1, hl, hG⟩ := hI
  refine lv_iload_n hx hb d_Ps_firstOneWith_2 rfl (lv_at hl 2 rfl) ?_
  refine lv_aload_n hx hb d_Ps_firstOneWith_3 rfl (lv_at hl 0 rfl) ?_
  refine gh_get (ci := 2) hx hb htb in_Ps hown hK hG hsp rfl 2 (by decide) (htb _ k_1_66) (fun _ h9 => h9) rfl d_Ps_firstOneWith_4 ?_
  refine lv_icmp_ge (tgt := 31) hx hb d_Ps_firstOneWith_7 (by decide) (fun hc7 => ?_) (fun hc7 => ?_)
  · skip
    replace hc7 : n ≤ k := (nc_le (a := n) (b := k) (by omega) (by omega) rfl rfl).mp hc7
    refine lv_aload_n hx hb d_Ps_firstOneWith_31 rfl (lv_at hl 0 rfl) ?_
    refine gh_get (ci := 2) hx hb htb in_Ps hown hK hG hsp rfl 2 (by decide) (htb _ k_1_66) (fun _ h9 => h9) rfl d_Ps_firstOneWith_32 ?_
    exact gh_iret hx hb hr hlk rfl hG d_Ps_firstOneWith_35 ⟨by rw [m_fst_no (fun i hi => hi1 i (by omega))], rfl⟩
  · skip
    replace hc7 : ¬ n ≤ k := fun q9 => hc7 ((nc_le (a := n) (b := k) (by omega) (by omega) rfl rfl).mpr q9)
    refine lv_aload_n hx hb d_Ps_firstOneWith_10 rfl (lv_at hl 0 rfl) ?_
    refine gh_get (ci := 2) hx hb htb in_Ps hown hK hG hsp rfl 0 (by decide) (htb _ k_1_64) (fun _ h9 => h9) rfl d_Ps_firstOneWith_11 ?_
    refine lv_iload_n hx hb d_Ps_firstOneWith_14 rfl (lv_at hl 2 rfl) ?_
    refine gh_aald (v := pl k) hx hb hK hG 2 hal rfl (vp_in_nI (by omega) (by decide)) (by rw [nI_clamp (by omega)]; exact hga _ (by omega)) d_Ps_firstOneWith_15 ?_
    refine lv_aload_n hx hb d_Ps_firstOneWith_16 rfl (lv_at hl 1 rfl) ?_
    refine gh_cV (ci := 1) (As := [.ref q]) (rest := []) (xF_ok b0) hx hb hml hown hK hX hG rfl (hpl k (by omega)) (c_Pl_isOneWith (hpl k (by omega)) hq) (q_Pl_isOneWith htb ⟨by decide, by decide⟩) (htb _ k_1_59) (htb _ k_1_60) (htb _ k_1_61) rfl hl.1 rfl (Nat.le_of_ble_eq_true rfl) d_Ps_firstOneWith_17 ⟨by decide, by decide⟩ (fun v9 h9 H l9 hp9 hG => ?_) (fun _ _ _ _ hp9 _ => by cases hp9.1)
    obtain ⟨hv9, hh9⟩ := hp9
    cases hv9
    rw [hh9] at hG
    refine W.eq (g2 := F0 m 20 ls [.int (m_b (m_one (pa k) (pb k) (pc k) (pd k) qa qb qc qd))]) rfl ?_
    refine W.widen (k := 0) (n := 0) (by decide) (by decide) ?_
    refine lv_if_eq (tgt := 25) hx hb d_Ps_firstOneWith_20 (by decide) (fun hc20 => ?_) (fun hc20 => ?_)
    · skip
      replace hc20 := mb_0.mp hc20
      refine lv_iinc (k := 2) (v := nI (k + 1)) (lv' := [(2, .int (nI (k + 1))), (0, .ref sp), (1, .ref q)]) hx hb d_Ps_firstOneWith_25 hl rfl (nI_1 k) (by decide) rfl (fun ls hl => ?_)
      refine lv_goto (tgt := 2) hx hb d_Ps_firstOneWith_28 (by decide) ?_
      exact ih () ls H l9 (by omega) ⟨lt_s hi1 hc20, (lv_sub hl [1, 2, 0] rfl), hG⟩
    · skip
      replace hc20 := mb_1.mp hc20
      refine lv_iload_n hx hb d_Ps_firstOneWith_23 rfl (lv_at hl 2 rfl) ?_
      exact gh_iret hx hb hr hlk rfl hG d_Ps_firstOneWith_24 ⟨by rw [m_fst_at hi1 (show k < n by omega) hc20], rfl⟩

end
end
section
/-- the world of the planes, in one word -/
def wPs (cI cP : ClassId) (h : gh_M) (sp al fi n : Nat) (ga : Nat → Option Nat) (gf : Nat → Int32) (pl fs : Nat → Nat) (pa pb pc pd : Nat → Int64) : Prop :=
  h sp = some (.inr (2, [.ref al, .ref fi, .int (nI n)])) ∧ h al = some (.inl (cP, 14, .inr (.inr (.inr (.inr ga))))) ∧ h fi = some (.inl (cI, 14, .inl gf)) ∧ (∀ i, i < n → ga i = some (pl i)) ∧ (∀ i, i < n → gf i = nI (fs i)) ∧ (∀ i, fs i < 14) ∧
  (∀ i, i < n → h (pl i) = some (.inr (1, [.long (pa i), .long (pb i), .long (pc i), .long (pd i)]))) ∧ n ≤ 14
/-- the world behind add -/
def m_addH (cI cP : ClassId) (h : gh_M) (sp al fi n : Nat) (ga : Nat → Option Nat) (gf : Nat → Int32) (q r : Nat) : gh_M :=
  gh_up (gh_up (gh_up h al (.inl (cP, 14, .inr (.inr (.inr (.inr (va_up ga n (some q)))))))) fi (.inl (cI, 14, .inl (upd gf n (nI r))))) sp (.inr (2, [.ref al, .ref fi, .int (nI (n + 1))]))
theorem m_addH_ne {cI cP : ClassId} {h : gh_M} {sp al fi n : Nat} {ga : Nat → Option Nat} {gf : Nat → Int32} {q r x : Nat} (h1 : x ≠ sp) (h2 : x ≠ al) (h3 : x ≠ fi) : m_addH cI cP h sp al fi n ga gf q r x = h x := by
  unfold m_addH
  rw [gh_ne h1, gh_ne h3, gh_ne h2]
theorem wPs_add {cI cP : ClassId} {h : gh_M} {sp al fi n q r : Nat} {ga : Nat → Option Nat} {gf : Nat → Int32} {pl fs : Nat → Nat} {pa pb pc pd : Nat → Int64} {qa qb qc qd : Int64} (hw : wPs cI cP h sp al fi n ga gf pl fs pa pb pc pd) (hn : n < 14) (hr : r < 14) (hq : h q = some (.inr (1, [.long qa, .long qb, .long qc, .long qd]))) :
    wPs cI cP (m_addH cI cP h sp al fi n ga gf q r) sp al fi (n + 1) (va_up ga n (some q)) (upd gf n (nI r)) (va_up pl n q) (va_up fs n r) (va_up pa n qa) (va_up pb n qb) (va_up pc n qc) (va_up pd n qd) := by
  obtain ⟨h1, h2, h3, h4, h5, h6, h7, h8⟩ := hw
  have e1 : sp ≠ al := fun k => by rw [k, h2] at h1; cases h1
  have e2 : sp ≠ fi := fun k => by rw [k, h3] at h1; cases h1
  have e3 : al ≠ fi := fun k => by rw [k, h3] at h2; cases h2
  have hx : ∀ x ws, h x = some (.inr (1, ws)) → m_addH cI cP h sp al fi n ga gf q r x = some (.inr (1, ws)) := by
    intro x ws hx
    rw [m_addH_ne (fun k => by rw [k, h1] at hx; cases hx) (fun k => by rw [k, h2] at hx; cases hx) (fun k => by rw [k, h3] at hx; cases hx)]
    exact hx
  refine ⟨gh_self _ _ _, ?_, ?_, ?_, ?_, ?_, ?_, by omega⟩
  · unfold m_addH
    rw [gh_ne e1.symm, gh_ne e3, gh_self]
  · unfold m_addH
    rw [gh_ne e2.symm, gh_self]
  · intro i hi
    unfold va_up
    split
    · rfl
    · exact h4 i (by omega)
  · intro i hi
    unfold va_up upd
    split
    · rfl
    · exact h5 i (by omega)
  · intro i
    unfold va_up
    split
    · exact hr
    · exact h6 i
  · intro i hi
    unfold va_up
    split
    · exact hx q _ hq
    · exact hx (pl i) _ (h7 i (by omega))
theorem m_fst_le (g : Nat → Bool) (n : Nat) : m_fst g n ≤ n := by
  induction n with
  | zero => exact Nat.le_refl _
  | succ n ih =>
    simp only [m_fst]
    split
    · omega
    · split <;> omega

section
variable {l : Launch} {D : va_G} {cI cJ cP cS : ClassId} {b0 : Nat} {h : gh_M}

set_option maxHeartbeats 4000000 in
set_option maxRecDepth 100000 in
/-- add -/
theorem c_Ps_add {sp al fi : Nat} {n : Nat} {ga : Nat → Option Nat} {gf : Nat → Int32} {pl fs : Nat → Nat} {pa pb pc pd : Nat → Int64} (hsp : h sp = some (.inr (2, [.ref al, .ref fi, .int (nI n)]))) (hal : h al = some (.inl (cP, 14, .inr (.inr (.inr (.inr ga)))))) (hfi : h fi = some (.inl (cI, 14, .inl gf))) (hga : ∀ i, i < n → ga i = some (pl i)) (hgf : ∀ i, i < n → gf i = nI (fs i)) (hfs : ∀ i, fs i < 14) (hpl : ∀ i, i < n → h (pl i) = some (.inr (1, [.long (pa i), .long (pb i), .long (pc i), .long (pd i)]))) (hn : n ≤ 14) {q : Nat} {qa qb qc qd : Int64} (hq : h q = some (.inr (1, [.long qa, .long qb, .long qc, .long qd]))) (hn1 : n < 14) : gh_C l D vC (tZ cI cJ cP cS) (xF b0) b0 y_Ps_add w_Ps_add ({ frames := 2, cells := 0, slots := 0, locals := 50 }) [.ref sp, .ref q] h (rV (m_addH cI cP h sp al fi n ga gf q (m_fst (fun i => m_one (pa i) (pb i) (pc i) (pd i) qa qb qc qd) n))) := by
  refine gh_ofW (by decide) (Nat.le_of_ble_eq_true rfl) ?_
  intro p e s m below meth c ls hctx hno hl hG hK hX
  obtain ⟨hx, hb, hr, hml, hown, hlk, hts, hnm⟩ := hctx
  have htb : ∀ w ∈ tB, w.before _ s = true := fun w hw => hts w (List.mem_cons_of_mem _ hw)
  replace hl : lv_has ls 2 [(0, .ref sp), (1, .ref q)] := hl
  refine lv_aload_n hx hb d_Ps_add_0 rfl (lv_at hl 0 rfl) ?_
  refine gh_get (ci := 2) hx hb htb in_Ps hown hK hG hsp rfl 0 (by decide) (htb _ k_1_64) (fun _ h9 => h9) rfl d_Ps_add_1 ?_
  refine lv_aload_n hx hb d_Ps_add_4 rfl (lv_at hl 0 rfl) ?_
  refine gh_get (ci := 2) hx hb htb in_Ps hown hK hG hsp rfl 2 (by decide) (htb _ k_1_66) (fun _ h9 => h9) rfl d_Ps_add_5 ?_
  refine lv_aload_n hx hb d_Ps_add_8 rfl (lv_at hl 1 rfl) ?_
  refine gh_aast (r := (R_Pl, T_Pl, 4)) hx hb hK hG 2 1 hal rfl hq rfl (vp_in_nI (by omega) (by decide)) d_Ps_add_9 (fun H l9 hG => ?_)
  rw [nI_clamp (by omega)] at hG
  have hq1 : (gh_up h al (.inl (cP, 14, .inr (.inr (.inr (.inr (va_up ga n (some q)))))))) al = some (.inl (cP, 14, .inr (.inr (.inr (.inr (va_up ga n (some q))))))) := gh_self _ _ _
  replace hG : gh_P D vC b0 (gh_up h al (.inl (cP, 14, .inr (.inr (.inr (.inr (va_up ga n (some q)))))))) s.heap _ _ := hG
  have hsp_1 : (gh_up h al (.inl (cP, 14, .inr (.inr (.inr (.inr (va_up ga n (some q)))))))) sp = some (.inr (2, [.ref al, .ref fi, .int (nI n)])) := gh_keep hal hsp (by simp)
  have hfi_1 : (gh_up h al (.inl (cP, 14, .inr (.inr (.inr (.inr (va_up ga n (some q)))))))) fi = some (.inl (cI, 14, .inl gf)) := gh_keep hal hfi (by simp)
  have hq_1 : (gh_up h al (.inl (cP, 14, .inr (.inr (.inr (.inr (va_up ga n (some q)))))))) q = some (.inr (1, [.long qa, .long qb, .long qc, .long qd])) := gh_keep hal hq (by simp)
  replace hpl : ∀ i, i < n → (gh_up h al (.inl (cP, 14, .inr (.inr (.inr (.inr (va_up ga n (some q)))))))) (pl i) = some (.inr (1, [.long (pa i), .long (pb i), .long (pc i), .long (pd i)])) := fun i hi => gh_keep hal (hpl i hi) (by simp)
  refine lv_aload_n hx hb d_Ps_add_10 rfl (lv_at hl 0 rfl) ?_
  refine gh_get (ci := 2) hx hb htb in_Ps hown hK hG hsp_1 rfl 1 (by decide) (htb _ k_1_65) (fun _ h9 => h9) rfl d_Ps_add_11 ?_
  refine lv_aload_n hx hb d_Ps_add_14 rfl (lv_at hl 0 rfl) ?_
  refine gh_get (ci := 2) hx hb htb in_Ps hown hK hG hsp_1 rfl 2 (by decide) (htb _ k_1_66) (fun _ h9 => h9) rfl d_Ps_add_15 ?_
  refine lv_aload_n hx hb d_Ps_add_18 rfl (lv_at hl 0 rfl) ?_
  refine lv_aload_n hx hb d_Ps_add_19 rfl (lv_at hl 1 rfl) ?_
  have hga2 : ∀ i, i < n → (va_up ga n (some q)) i = some (pl i) := fun i hi => by unfold va_up; rw [if_neg (by omega)]; exact hga i hi
  refine gh_cV (ci := 2) (As := [.ref q]) (rest := [.int (nI n), .ref fi]) (xF_ok b0) hx hb hml hown hK hX hG rfl hsp_1 (c_Ps_firstOneWith hsp_1 hq1 hfi_1 hga2 hgf hfs hpl hn hq_1) (q_Ps_firstOneWith htb ⟨by decide, by decide⟩) (htb _ k_1_55) (htb _ k_1_57) (htb _ k_s_Ps_firstOneWith) rfl hl.1 rfl (Nat.le_of_ble_eq_true rfl) d_Ps_add_20 ⟨by decide, by decide⟩ (fun v9 h9 H l9 hp9 hG => ?_) (fun _ _ _ _ hp9 _ => by cases hp9.1)
  obtain ⟨hv9, hh9⟩ := hp9
  cases hv9
  rw [hh9] at hG
  refine W.eq (g2 := F0 m 23 ls [.int (nI (m_fst (fun i => m_one (pa i) (pb i) (pc i) (pd i) qa qb qc qd) n)), .int (nI n), .ref fi]) rfl ?_
  refine W.widen (k := 0) (n := 0) (by decide) (by decide) ?_
  refine gh_iast hx hb hK hG 0 hfi_1 rfl (vp_in_nI (by omega) (by decide)) d_Ps_add_23 (fun H l9 hG => ?_)
  rw [nI_clamp (by omega)] at hG
  have hq2 : (gh_up (gh_up h al (.inl (cP, 14, .inr (.inr (.inr (.inr (va_up ga n (some q)))))))) fi (.inl (cI, 14, .inl (upd gf n (nI (m_fst (fun i => m_one (pa i) (pb i) (pc i) (pd i) qa qb qc qd) n)))))) fi = some (.inl (cI, 14, .inl (upd gf n (nI (m_fst (fun i => m_one (pa i) (pb i) (pc i) (pd i) qa qb qc qd) n))))) := gh_self _ _ _
  replace hG : gh_P D vC b0 (gh_up (gh_up h al (.inl (cP, 14, .inr (.inr (.inr (.inr (va_up ga n (some q)))))))) fi (.inl (cI, 14, .inl (upd gf n (nI (m_fst (fun i => m_one (pa i) (pb i) (pc i) (pd i) qa qb qc qd) n)))))) s.heap _ _ := hG
  have hsp_2 : (gh_up (gh_up h al (.inl (cP, 14, .inr (.inr (.inr (.inr (va_up ga n (some q)))))))) fi (.inl (cI, 14, .inl (upd gf n (nI (m_fst (fun i => m_one (pa i) (pb i) (pc i) (pd i) qa qb qc qd) n)))))) sp = some (.inr (2, [.ref al, .ref fi, .int (nI n)])) := gh_keep hfi_1 hsp_1 (by simp)
  have hq_2 : (gh_up (gh_up h al (.inl (cP, 14, .inr (.inr (.inr (.inr (va_up ga n (some q)))))))) fi (.inl (cI, 14, .inl (upd gf n (nI (m_fst (fun i => m_one (pa i) (pb i) (pc i) (pd i) qa qb qc qd) n)))))) q = some (.inr (1, [.long qa, .long qb, .long qc, .long qd])) := gh_keep hfi_1 hq_1 (by simp)
  have hq1_2 : (gh_up (gh_up h al (.inl (cP, 14, .inr (.inr (.inr (.inr (va_up ga n (some q)))))))) fi (.inl (cI, 14, .inl (upd gf n (nI (m_fst (fun i => m_one (pa i) (pb i) (pc i) (pd i) qa qb qc qd) n)))))) al = some (.inl (cP, 14, .inr (.inr (.inr (.inr (va_up ga n (some q))))))) := gh_keep hfi_1 hq1 (by simp)
  replace hpl : ∀ i, i < n → (gh_up (gh_up h al (.inl (cP, 14, .inr (.inr (.inr (.inr (va_up ga n (some q)))))))) fi (.inl (cI, 14, .inl (upd gf n (nI (m_fst (fun i => m_one (pa i) (pb i) (pc i) (pd i) qa qb qc qd) n)))))) (pl i) = some (.inr (1, [.long (pa i), .long (pb i), .long (pc i), .long (pd i)])) := fun i hi => gh_keep hfi_1 (hpl i hi) (by simp)
  refine lv_aload_n hx hb d_Ps_add_24 rfl (lv_at hl 0 rfl) ?_
  refine lv_dup hx hb d_Ps_add_25 rfl ?_
  refine gh_get (ci := 2) hx hb htb in_Ps hown hK hG hsp_2 rfl 2 (by decide) (htb _ k_1_66) (fun _ h9 => h9) rfl d_Ps_add_26 ?_
  refine lv_iconst (v := 1) hx hb d_Ps_add_29 (by decide) ?_
  refine lv_iadd hx hb d_Ps_add_30 ?_
  refine gh_put (ci := 2) (ty := .int) hx hb htb in_Ps t_Ps ty_Ps nm_Ps hown hK hG hsp_2 rfl 2 (by decide) (htb _ k_1_66) (fun _ h9 => h9) rfl (by decide +kernel) rfl rfl (Nat.le_of_ble_eq_true rfl) d_Ps_add_31 (fun H l9 hG => ?_)
  have hq3 : (gh_up (gh_up (gh_up h al (.inl (cP, 14, .inr (.inr (.inr (.inr (va_up ga n (some q)))))))) fi (.inl (cI, 14, .inl (upd gf n (nI (m_fst (fun i => m_one (pa i) (pb i) (pc i) (pd i) qa qb qc qd) n)))))) sp (.inr (2, [.ref al, .ref fi, .int ((nI n) + 1)]))) sp = some (.inr (2, [.ref al, .ref fi, .int ((nI n) + 1)])) := gh_self _ _ _
  replace hG : gh_P D vC b0 (gh_up (gh_up (gh_up h al (.inl (cP, 14, .inr (.inr (.inr (.inr (va_up ga n (some q)))))))) fi (.inl (cI, 14, .inl (upd gf n (nI (m_fst (fun i => m_one (pa i) (pb i) (pc i) (pd i) qa qb qc qd) n)))))) sp (.inr (2, [.ref al, .ref fi, .int ((nI n) + 1)]))) s.heap _ _ := hG
  have hq_3 : (gh_up (gh_up (gh_up h al (.inl (cP, 14, .inr (.inr (.inr (.inr (va_up ga n (some q)))))))) fi (.inl (cI, 14, .inl (upd gf n (nI (m_fst (fun i => m_one (pa i) (pb i) (pc i) (pd i) qa qb qc qd) n)))))) sp (.inr (2, [.ref al, .ref fi, .int ((nI n) + 1)]))) q = some (.inr (1, [.long qa, .long qb, .long qc, .long qd])) := gh_keep hsp_2 hq_2 (by simp)
  have hq1_3 : (gh_up (gh_up (gh_up h al (.inl (cP, 14, .inr (.inr (.inr (.inr (va_up ga n (some q)))))))) fi (.inl (cI, 14, .inl (upd gf n (nI (m_fst (fun i => m_one (pa i) (pb i) (pc i) (pd i) qa qb qc qd) n)))))) sp (.inr (2, [.ref al, .ref fi, .int ((nI n) + 1)]))) al = some (.inl (cP, 14, .inr (.inr (.inr (.inr (va_up ga n (some q))))))) := gh_keep hsp_2 hq1_2 (by simp)
  have hq2_3 : (gh_up (gh_up (gh_up h al (.inl (cP, 14, .inr (.inr (.inr (.inr (va_up ga n (some q)))))))) fi (.inl (cI, 14, .inl (upd gf n (nI (m_fst (fun i => m_one (pa i) (pb i) (pc i) (pd i) qa qb qc qd) n)))))) sp (.inr (2, [.ref al, .ref fi, .int ((nI n) + 1)]))) fi = some (.inl (cI, 14, .inl (upd gf n (nI (m_fst (fun i => m_one (pa i) (pb i) (pc i) (pd i) qa qb qc qd) n))))) := gh_keep hsp_2 hq2 (by simp)
  replace hpl : ∀ i, i < n → (gh_up (gh_up (gh_up h al (.inl (cP, 14, .inr (.inr (.inr (.inr (va_up ga n (some q)))))))) fi (.inl (cI, 14, .inl (upd gf n (nI (m_fst (fun i => m_one (pa i) (pb i) (pc i) (pd i) qa qb qc qd) n)))))) sp (.inr (2, [.ref al, .ref fi, .int ((nI n) + 1)]))) (pl i) = some (.inr (1, [.long (pa i), .long (pb i), .long (pc i), .long (pd i)])) := fun i hi => gh_keep hsp_2 (hpl i hi) (by simp)
  exact gh_vret hx hb hr hlk hG d_Ps_add_34 ⟨rfl, by simp only [m_addH, nI_1]⟩

end
end
section
theorem wPs_pl {cI cP : ClassId} {h : gh_M} {sp al fi n q : Nat} {e : va_E} {ga : Nat → Option Nat} {gf : Nat → Int32} {pl fs : Nat → Nat} {pa pb pc pd : Nat → Int64} (hw : wPs cI cP h sp al fi n ga gf pl fs pa pb pc pd) (hf : h q = none) : wPs cI cP (gh_up h q e) sp al fi n ga gf pl fs pa pb pc pd := by
  obtain ⟨h1, h2, h3, h4, h5, h6, h7, h8⟩ := hw
  exact ⟨gh_keepN hf h1, gh_keepN hf h2, gh_keepN hf h3, h4, h5, h6, fun i hi => gh_keepN hf (h7 i hi), h8⟩
/-- while the planes are made: their world, and what was there before -/
def wB (cI cP : ClassId) (h0 h : gh_M) (sp al fi n : Nat) (ga : Nat → Option Nat) (gf : Nat → Int32) (pl fs : Nat → Nat) (pa pb pc pd : Nat → Int64) : Prop :=
  wPs cI cP h sp al fi n ga gf pl fs pa pb pc pd ∧ (h0 al = none ∧ h0 fi = none) ∧ ∀ x e, h0 x = some e → x ≠ sp → h x = some e
theorem wB_add {cI cP : ClassId} {h0 h : gh_M} {sp al fi n q r : Nat} {ga : Nat → Option Nat} {gf : Nat → Int32} {pl fs : Nat → Nat} {pa pb pc pd : Nat → Int64} {qa qb qc qd : Int64} (hw : wB cI cP h0 h sp al fi n ga gf pl fs pa pb pc pd) (hf : h q = none) (hn : n < 14) (hr : r < 14) :
    wB cI cP h0 (m_addH cI cP (gh_up h q (.inr (1, [.long qa, .long qb, .long qc, .long qd]))) sp al fi n ga gf q r) sp al fi (n + 1) (va_up ga n (some q)) (upd gf n (nI r)) (va_up pl n q) (va_up fs n r) (va_up pa n qa) (va_up pb n qb) (va_up pc n qc) (va_up pd n qd) := by
  obtain ⟨h1, ⟨h2, h3⟩, h4⟩ := hw
  refine ⟨wPs_add (wPs_pl h1 hf) hn hr (gh_self _ _ _), ⟨h2, h3⟩, fun x e hx hne => ?_⟩
  rw [m_addH_ne hne (fun k => by rw [k, h2] at hx; cases hx) (fun k => by rw [k, h3] at hx; cases hx)]
  exact gh_keepN hf (h4 x e hx hne)

/-- the box's planes: the number of coordinate c of plane i -/
def m_bx (c i : Nat) : Int64 := if i = 2 * c then 1 else if i = 2 * c + 1 then -1 else 0

section
variable {l : Launch} {D : va_G} {cI cJ cP cS : ClassId} {b0 : Nat} {h : gh_M}

set_option maxHeartbeats 4000000 in
set_option maxRecDepth 100000 in
/-- Planes(): the six planes of the box -/
theorem c_Ps_init {a : Nat} (ha : h a = some (.inr (2, [.null, .null, .int 0]))) : gh_C l D vC (tZ cI cJ cP cS) (xF b0) b0 y_Ps_init w_Ps_init ({ frames := 3, cells := 8, slots := 52, locals := 90 }) [.ref a] h (fun oc h2 => oc = .returned none ∧ ∃ (al fi : Nat) (ga : Nat → Option Nat) (gf : Nat → Int32) (pl fs : Nat → Nat) (pa pb pc pd : Nat → Int64), wB cI cP h h2 a al fi 6 ga gf pl fs pa pb pc pd ∧ (∀ i, i < 6 → fs i = i) ∧ (∀ i, i < 6 → pa i = m_bx 0 i ∧ pb i = m_bx 1 i ∧ pc i = m_bx 2 i ∧ pd i = 1000)) := by
  refine gh_ofW (by decide) (Nat.le_of_ble_eq_true rfl) ?_
  intro p e s m below meth c ls hctx hno hl hG hK hX
  obtain ⟨hx, hb, hr, hml, hown, hlk, hts, hnm⟩ := hctx
  have htb : ∀ w ∈ tB, w.before _ s = true := fun w hw => hts w (List.mem_cons_of_mem _ hw)
  replace hl : lv_has ls 1 [(0, .ref a)] := hl
  refine lv_aload_n hx hb d_Ps_init_0 rfl (lv_at hl 0 rfl) ?_
  refine W.objInit hx hb hown (htb _ k_1_28) (htb _ k_1_21) (htb _ k_1_22) rfl (by rw [hml]; exact hl.1) rfl d_Ps_init_1 (Nat.le_of_ble_eq_true rfl) (Nat.le_of_ble_eq_true rfl) ?_
  refine W.eq (g2 := F0 m 4 ls []) rfl ?_
  refine lv_aload_n hx hb d_Ps_init_4 rfl (lv_at hl 0 rfl) ?_
  refine lv_bipush (v := 14) hx hb d_Ps_init_5 (by decide) ?_
  refine gh_newq hx hb hown (htb _ k_1_29) hX.2.2.1.1 hK hG 2 rfl (by decide) (N' := 14) rfl (by decide) (by decide) (by decide) d_Ps_init_7 (fun q1 H hf1 hG => ?_)
  have hq2 : (gh_up h q1 (.inl (cP, 14, .inr (.inr (.inr (.inr (fun _ => none))))))) q1 = some (.inl (cP, 14, .inr (.inr (.inr (.inr (fun _ => none)))))) := gh_self _ _ _
  replace hG : gh_P D vC b0 (gh_up h q1 (.inl (cP, 14, .inr (.inr (.inr (.inr (fun _ => none))))))) s.heap _ _ := hG
  have ha_2 : (gh_up h q1 (.inl (cP, 14, .inr (.inr (.inr (.inr (fun _ => none))))))) a = some (.inr (2, [.null, .null, .int 0])) := gh_keepN hf1 ha
  refine W.widen (k := 1) (n := 14) (by decide) (by decide) ?_
  refine gh_putF (ci := 2) (ty := .array (.object "CarvedSolids$Plane")) hx hb htb in_Ps t_Ps ty_Ps nm_Ps hown hK hG ha_2 rfl 0 (by decide) (htb _ k_1_64) (fun _ h9 => h9) rfl hnm rfl (by decide +kernel) rfl rfl (Nat.le_of_ble_eq_true rfl) d_Ps_init_10 (fun H l9 hG => ?_)
  have hq3 : (gh_up (gh_up h q1 (.inl (cP, 14, .inr (.inr (.inr (.inr (fun _ => none))))))) a (.inr (2, [.ref q1, .null, .int 0]))) a = some (.inr (2, [.ref q1, .null, .int 0])) := gh_self _ _ _
  replace hG : gh_P D vC b0 (gh_up (gh_up h q1 (.inl (cP, 14, .inr (.inr (.inr (.inr (fun _ => none))))))) a (.inr (2, [.ref q1, .null, .int 0]))) s.heap _ _ := hG
  have hq2_3 : (gh_up (gh_up h q1 (.inl (cP, 14, .inr (.inr (.inr (.inr (fun _ => none))))))) a (.inr (2, [.ref q1, .null, .int 0]))) q1 = some (.inl (cP, 14, .inr (.inr (.inr (.inr (fun _ => none)))))) := gh_keep ha_2 hq2 (by simp)
  refine lv_aload_n hx hb d_Ps_init_13 rfl (lv_at hl 0 rfl) ?_
  refine lv_bipush (v := 14) hx hb d_Ps_init_14 (by decide) ?_
  refine gh_newa (atype := .int) (a0 := (14, .inl (fun _ => 0))) hx hb (htb _ k_1_50) rfl hK hG 0 rfl (fun _ => rfl) (by decide) rfl (by decide) (by decide) (by decide) d_Ps_init_16 (fun q4 H hf4 hG => ?_)
  have hq5 : (gh_up (gh_up (gh_up h q1 (.inl (cP, 14, .inr (.inr (.inr (.inr (fun _ => none))))))) a (.inr (2, [.ref q1, .null, .int 0]))) q4 (.inl (cI, 14, .inl (fun _ => 0)))) q4 = some (.inl (cI, 14, .inl (fun _ => 0))) := gh_self _ _ _
  replace hG : gh_P D vC b0 (gh_up (gh_up (gh_up h q1 (.inl (cP, 14, .inr (.inr (.inr (.inr (fun _ => none))))))) a (.inr (2, [.ref q1, .null, .int 0]))) q4 (.inl (cI, 14, .inl (fun _ => 0)))) s.heap _ _ := hG
  have hq2_5 : (gh_up (gh_up (gh_up h q1 (.inl (cP, 14, .inr (.inr (.inr (.inr (fun _ => none))))))) a (.inr (2, [.ref q1, .null, .int 0]))) q4 (.inl (cI, 14, .inl (fun _ => 0)))) q1 = some (.inl (cP, 14, .inr (.inr (.inr (.inr (fun _ => none)))))) := gh_keepN hf4 hq2_3
  have hq3_5 : (gh_up (gh_up (gh_up h q1 (.inl (cP, 14, .inr (.inr (.inr (.inr (fun _ => none))))))) a (.inr (2, [.ref q1, .null, .int 0]))) q4 (.inl (cI, 14, .inl (fun _ => 0)))) a = some (.inr (2, [.ref q1, .null, .int 0])) := gh_keepN hf4 hq3
  refine W.widen (k := 2) (n := 28) (by decide) (by decide) ?_
  refine gh_putF (ci := 2) (ty := .array (.int)) hx hb htb in_Ps t_Ps ty_Ps nm_Ps hown hK hG hq3_5 rfl 1 (by decide) (htb _ k_1_65) (fun _ h9 => h9) rfl hnm rfl (by decide +kernel) rfl rfl (Nat.le_of_ble_eq_true rfl) d_Ps_init_18 (fun H l9 hG => ?_)
  have hq6 : (gh_up (gh_up (gh_up (gh_up h q1 (.inl (cP, 14, .inr (.inr (.inr (.inr (fun _ => none))))))) a (.inr (2, [.ref q1, .null, .int 0]))) q4 (.inl (cI, 14, .inl (fun _ => 0)))) a (.inr (2, [.ref q1, .ref q4, .int 0]))) a = some (.inr (2, [.ref q1, .ref q4, .int 0])) := gh_self _ _ _
  replace hG : gh_P D vC b0 (gh_up (gh_up (gh_up (gh_up h q1 (.inl (cP, 14, .inr (.inr (.inr (.inr (fun _ => none))))))) a (.inr (2, [.ref q1, .null, .int 0]))) q4 (.inl (cI, 14, .inl (fun _ => 0)))) a (.inr (2, [.ref q1, .ref q4, .int 0]))) s.heap _ _ := hG
  have hq2_6 : (gh_up (gh_up (gh_up (gh_up h q1 (.inl (cP, 14, .inr (.inr (.inr (.inr (fun _ => none))))))) a (.inr (2, [.ref q1, .null, .int 0]))) q4 (.inl (cI, 14, .inl (fun _ => 0)))) a (.inr (2, [.ref q1, .ref q4, .int 0]))) q1 = some (.inl (cP, 14, .inr (.inr (.inr (.inr (fun _ => none)))))) := gh_keep hq3_5 hq2_5 (by simp)
  have hq5_6 : (gh_up (gh_up (gh_up (gh_up h q1 (.inl (cP, 14, .inr (.inr (.inr (.inr (fun _ => none))))))) a (.inr (2, [.ref q1, .null, .int 0]))) q4 (.inl (cI, 14, .inl (fun _ => 0)))) a (.inr (2, [.ref q1, .ref q4, .int 0]))) q4 = some (.inl (cI, 14, .inl (fun _ => 0))) := gh_keep hq3_5 hq5 (by simp)
  refine lv_aload_n hx hb d_Ps_init_21 rfl (lv_at hl 0 rfl) ?_
  refine lv_iconst (v := 0) hx hb d_Ps_init_22 (by decide) ?_
  refine gh_put (ci := 2) (ty := .int) hx hb htb in_Ps t_Ps ty_Ps nm_Ps hown hK hG hq6 rfl 2 (by decide) (htb _ k_1_66) (fun _ h9 => h9) rfl (by decide +kernel) rfl rfl (Nat.le_of_ble_eq_true rfl) d_Ps_init_23 (fun H l9 hG => ?_)
  have hq7 : (gh_up (gh_up (gh_up (gh_up (gh_up h q1 (.inl (cP, 14, .inr (.inr (.inr (.inr (fun _ => none))))))) a (.inr (2, [.ref q1, .null, .int 0]))) q4 (.inl (cI, 14, .inl (fun _ => 0)))) a (.inr (2, [.ref q1, .ref q4, .int 0]))) a (.inr (2, [.ref q1, .ref q4, .int 0]))) a = some (.inr (2, [.ref q1, .ref q4, .int 0])) := gh_self _ _ _
  replace hG : gh_P D vC b0 (gh_up (gh_up (gh_up (gh_up (gh_up h q1 (.inl (cP, 14, .inr (.inr (.inr (.inr (fun _ => none))))))) a (.inr (2, [.ref q1, .null, .int 0]))) q4 (.inl (cI, 14, .inl (fun _ => 0)))) a (.inr (2, [.ref q1, .ref q4, .int 0]))) a (.inr (2, [.ref q1, .ref q4, .int 0]))) s.heap _ _ := hG
  have hq2_7 : (gh_up (gh_up (gh_up (gh_up (gh_up h q1 (.inl (cP, 14, .inr (.inr (.inr (.inr (fun _ => none))))))) a (.inr (2, [.ref q1, .null, .int 0]))) q4 (.inl (cI, 14, .inl (fun _ => 0)))) a (.inr (2, [.ref q1, .ref q4, .int 0]))) a (.inr (2, [.ref q1, .ref q4, .int 0]))) q1 = some (.inl (cP, 14, .inr (.inr (.inr (.inr (fun _ => none)))))) := gh_keep hq6 hq2_6 (by simp)
  have hq5_7 : (gh_up (gh_up (gh_up (gh_up (gh_up h q1 (.inl (cP, 14, .inr (.inr (.inr (.inr (fun _ => none))))))) a (.inr (2, [.ref q1, .null, .int 0]))) q4 (.inl (cI, 14, .inl (fun _ => 0)))) a (.inr (2, [.ref q1, .ref q4, .int 0]))) a (.inr (2, [.ref q1, .ref q4, .int 0]))) q4 = some (.inl (cI, 14, .inl (fun _ => 0))) := gh_keep hq6 hq5_6 (by simp)
  obtain ⟨hh, hhe⟩ : ∃ hh, hh = gh_up (gh_up (gh_up (gh_up (gh_up h q1 (.inl (cP, 14, .inr (.inr (.inr (.inr (fun _ => none))))))) a (.inr (2, [.ref q1, .null, .int 0]))) q4 (.inl (cI, 14, .inl (fun _ => 0)))) a (.inr (2, [.ref q1, .ref q4, .int 0]))) a (.inr (2, [.ref q1, .ref q4, .int 0])) := ⟨_, rfl⟩
  have hw : wB cI cP h hh a q1 q4 0 (fun _ => none) (fun _ => 0) (fun _ => 0) (fun _ => 0) (fun _ => 0) (fun _ => 0) (fun _ => 0) (fun _ => 0) := by
    rw [hhe]
    refine ⟨⟨hq7, hq2_7, hq5_7, fun i hi => absurd hi (Nat.not_lt_zero i), fun i hi => absurd hi (Nat.not_lt_zero i), fun i => by show 0 < 14; omega, fun i hi => absurd hi (Nat.not_lt_zero i), by decide⟩, ⟨hf1, ?_⟩, fun x e hx hne => ?_⟩
    · cases hz : h q4 with
      | none => rfl
      | some e0 =>
        have z1 := gh_keepN (e := .inl (cP, 14, .inr (.inr (.inr (.inr (fun _ => none)))))) hf1 hz
        have z2 : q4 ≠ a := fun k9 => by rw [k9] at hz; rw [hz] at ha; cases ha; rw [k9] at hf4; exact absurd hf4 (by rw [gh_self]; exact fun z => by cases z)
        rw [gh_ne z2, z1] at hf4
        cases hf4
    · rw [gh_ne hne, gh_ne hne, gh_ne (fun k9 => ?_), gh_ne hne, gh_ne (fun k9 => ?_)]
      · exact hx
      · rw [k9, hf1] at hx; cases hx
      · have z1 := gh_keepN (e := .inl (cP, 14, .inr (.inr (.inr (.inr (fun _ => none)))))) hf1 hx
        rw [k9] at z1 hne
        rw [gh_ne hne, z1] at hf4
        cases hf4
  rw [← hhe] at hG
  clear hhe
  refine lv_aload_n hx hb d_Ps_init_26 rfl (lv_at hl 0 rfl) ?_
  refine gh_new (ci := 1) (fs := [.long 0, .long 0, .long 0, .long 0]) hx hb htb in_Pl t_Pl ty_Pl hown (htb _ k_1_29) (htb _ k_1_31) (htb _ k_1_3) hK hG rfl (fun j hj => by rcases (show j = 0 ∨ j = 1 ∨ j = 2 ∨ j = 3 by omega) with rfl | rfl | rfl | rfl <;> rfl) (by decide) (by decide) d_Ps_init_27 (fun q8 H hf8 hG => ?_)
  have hq9 : (gh_up hh q8 (.inr (1, [.long 0, .long 0, .long 0, .long 0]))) q8 = some (.inr (1, [.long 0, .long 0, .long 0, .long 0])) := gh_self _ _ _
  replace hG : gh_P D vC b0 (gh_up hh q8 (.inr (1, [.long 0, .long 0, .long 0, .long 0]))) s.heap _ _ := hG
  refine W.widen (k := 3) (n := 32) (by decide) (by decide) ?_
  refine lv_dup hx hb d_Ps_init_30 rfl ?_
  refine lv_lconst (v := 1) hx hb d_Ps_init_31 (by decide) ?_
  refine lv_lconst (v := 0) hx hb d_Ps_init_32 (by decide) ?_
  refine lv_lconst (v := 0) hx hb d_Ps_init_33 (by decide) ?_
  refine lv_ldc2 (v := 1000) hx hb hown (htb _ k_1_32) d_Ps_init_34 ?_
  refine gh_cI (As := [.long 1, .long 0, .long 0, .long 1000]) (rest := [.ref q8, .ref a]) (xF_ok b0) hx hb hml hown hK hX hG (c_Pl_init hq9) (q_Pl_init htb ⟨by decide, by decide⟩) (htb _ k_1_33) (htb _ k_1_34) rfl (htb _ k_1_35) rfl hl.1 rfl (Nat.le_of_ble_eq_true rfl) d_Ps_init_37 ⟨by decide, by decide⟩ (fun v9 h9 H l9 hp9 hG => ?_) (fun _ _ _ _ hp9 _ => by cases hp9.1)
  obtain ⟨hv9, hh9⟩ := hp9
  cases hv9
  rw [hh9, gh_uu] at hG
  refine W.eq (g2 := F0 m 40 ls [.ref q8, .ref a]) rfl ?_
  refine W.widen (k := 3) (n := 32) (by decide) (by decide) ?_
  have hw1 := wPs_pl (e := .inr (1, [.long 1, .long 0, .long 0, .long 1000])) hw.1 hf8
  refine gh_cV (ci := 2) (As := [.ref q8]) (rest := []) (xF_ok b0) hx hb hml hown hK hX hG rfl hw1.1 (c_Ps_add hw1.1 hw1.2.1 hw1.2.2.1 hw1.2.2.2.1 hw1.2.2.2.2.1 hw1.2.2.2.2.2.1 hw1.2.2.2.2.2.2.1 hw1.2.2.2.2.2.2.2 (gh_self hh q8 (.inr (1, [.long 1, .long 0, .long 0, .long 1000]))) (by decide)) (q_Ps_add htb ⟨by decide, by decide⟩) (htb _ k_1_51) (htb _ k_1_52) (htb _ k_1_53) rfl hl.1 rfl (Nat.le_of_ble_eq_true rfl) d_Ps_init_40 ⟨by decide, by decide⟩ (fun v9 h9 H l9 hp9 hG => ?_) (fun _ _ _ _ hp9 _ => by cases hp9.1)
  obtain ⟨hv9, hh9⟩ := hp9
  cases hv9
  rw [hh9] at hG
  replace hw : wB cI cP h _ a q1 q4 1 (va_up (fun _ => none) 0 (some q8)) (upd (fun _ => 0) 0 (nI 0)) (va_up (fun _ => 0) 0 q8) (va_up (fun _ => 0) 0 0) (va_up (fun _ => 0) 0 1) (va_up (fun _ => 0) 0 0) (va_up (fun _ => 0) 0 0) (va_up (fun _ => 0) 0 1000) := wB_add (r := 0) hw hf8 (by decide) (by decide)
  replace hG : gh_P D vC b0 (m_addH cI cP (gh_up hh q8 (.inr (1, [.long 1, .long 0, .long 0, .long 1000]))) a q1 q4 0 (fun _ => none) (fun _ => 0) q8 0) s.heap H l9 := by
    have z9 : m_fst (fun i => m_one ((fun _ => 0) i) ((fun _ => 0) i) ((fun _ => 0) i) ((fun _ => 0) i) 1 0 0 1000) 0 = 0 := by decide +kernel
    rw [z9] at hG
    exact hG
  clear hw1
  generalize m_addH cI cP (gh_up hh q8 (.inr (1, [.long 1, .long 0, .long 0, .long 1000]))) a q1 q4 0 (fun _ => none) (fun _ => 0) q8 0 = hh at hw hG
  refine W.eq (g2 := F0 m 43 ls []) rfl ?_
  refine W.widen (k := 3) (n := 32) (by decide) (by decide) ?_
  refine lv_aload_n hx hb d_Ps_init_43 rfl (lv_at hl 0 rfl) ?_
  refine gh_new (ci := 1) (fs := [.long 0, .long 0, .long 0, .long 0]) hx hb htb in_Pl t_Pl ty_Pl hown (htb _ k_1_29) (htb _ k_1_31) (htb _ k_1_3) hK hG rfl (fun j hj => by rcases (show j = 0 ∨ j = 1 ∨ j = 2 ∨ j = 3 by omega) with rfl | rfl | rfl | rfl <;> rfl) (by decide) (by decide) d_Ps_init_44 (fun q10 H hf10 hG => ?_)
  have hq11 : (gh_up hh q10 (.inr (1, [.long 0, .long 0, .long 0, .long 0]))) q10 = some (.inr (1, [.long 0, .long 0, .long 0, .long 0])) := gh_self _ _ _
  replace hG : gh_P D vC b0 (gh_up hh q10 (.inr (1, [.long 0, .long 0, .long 0, .long 0]))) s.heap _ _ := hG
  refine W.widen (k := 4) (n := 36) (by decide) (by decide) ?_
  refine lv_dup hx hb d_Ps_init_47 rfl ?_
  refine lv_ldc2 (v := (-1)) hx hb hown (htb _ k_1_63) d_Ps_init_48 ?_
  refine lv_lconst (v := 0) hx hb d_Ps_init_51 (by decide) ?_
  refine lv_lconst (v := 0) hx hb d_Ps_init_52 (by decide) ?_
  refine lv_ldc2 (v := 1000) hx hb hown (htb _ k_1_32) d_Ps_init_53 ?_
  refine gh_cI (As := [.long (-1), .long 0, .long 0, .long 1000]) (rest := [.ref q10, .ref a]) (xF_ok b0) hx hb hml hown hK hX hG (c_Pl_init hq11) (q_Pl_init htb ⟨by decide, by decide⟩) (htb _ k_1_33) (htb _ k_1_34) rfl (htb _ k_1_35) rfl hl.1 rfl (Nat.le_of_ble_eq_true rfl) d_Ps_init_56 ⟨by decide, by decide⟩ (fun v9 h9 H l9 hp9 hG => ?_) (fun _ _ _ _ hp9 _ => by cases hp9.1)
  obtain ⟨hv9, hh9⟩ := hp9
  cases hv9
  rw [hh9, gh_uu] at hG
  refine W.eq (g2 := F0 m 59 ls [.ref q10, .ref a]) rfl ?_
  refine W.widen (k := 4) (n := 36) (by decide) (by decide) ?_
  have hw1 := wPs_pl (e := .inr (1, [.long (-1), .long 0, .long 0, .long 1000])) hw.1 hf10
  refine gh_cV (ci := 2) (As := [.ref q10]) (rest := []) (xF_ok b0) hx hb hml hown hK hX hG rfl hw1.1 (c_Ps_add hw1.1 hw1.2.1 hw1.2.2.1 hw1.2.2.2.1 hw1.2.2.2.2.1 hw1.2.2.2.2.2.1 hw1.2.2.2.2.2.2.1 hw1.2.2.2.2.2.2.2 (gh_self hh q10 (.inr (1, [.long (-1), .long 0, .long 0, .long 1000]))) (by decide)) (q_Ps_add htb ⟨by decide, by decide⟩) (htb _ k_1_51) (htb _ k_1_52) (htb _ k_1_53) rfl hl.1 rfl (Nat.le_of_ble_eq_true rfl) d_Ps_init_59 ⟨by decide, by decide⟩ (fun v9 h9 H l9 hp9 hG => ?_) (fun _ _ _ _ hp9 _ => by cases hp9.1)
  obtain ⟨hv9, hh9⟩ := hp9
  cases hv9
  rw [hh9] at hG
  replace hw : wB cI cP h _ a q1 q4 2 (va_up (va_up (fun _ => none) 0 (some q8)) 1 (some q10)) (upd (upd (fun _ => 0) 0 (nI 0)) 1 (nI 1)) (va_up (va_up (fun _ => 0) 0 q8) 1 q10) (va_up (va_up (fun _ => 0) 0 0) 1 1) (va_up (va_up (fun _ => 0) 0 1) 1 (-1)) (va_up (va_up (fun _ => 0) 0 0) 1 0) (va_up (va_up (fun _ => 0) 0 0) 1 0) (va_up (va_up (fun _ => 0) 0 1000) 1 1000) := wB_add (r := 1) hw hf10 (by decide) (by decide)
  replace hG : gh_P D vC b0 (m_addH cI cP (gh_up hh q10 (.inr (1, [.long (-1), .long 0, .long 0, .long 1000]))) a q1 q4 1 (va_up (fun _ => none) 0 (some q8)) (upd (fun _ => 0) 0 (nI 0)) q10 1) s.heap H l9 := by
    have z9 : m_fst (fun i => m_one (va_up (fun _ => 0) 0 1 i) (va_up (fun _ => 0) 0 0 i) (va_up (fun _ => 0) 0 0 i) (va_up (fun _ => 0) 0 1000 i) (-1) 0 0 1000) 1 = 1 := by decide +kernel
    rw [z9] at hG
    exact hG
  clear hw1
  generalize m_addH cI cP (gh_up hh q10 (.inr (1, [.long (-1), .long 0, .long 0, .long 1000]))) a q1 q4 1 (va_up (fun _ => none) 0 (some q8)) (upd (fun _ => 0) 0 (nI 0)) q10 1 = hh at hw hG
  refine W.eq (g2 := F0 m 62 ls []) rfl ?_
  refine W.widen (k := 4) (n := 36) (by decide) (by decide) ?_
  refine lv_aload_n hx hb d_Ps_init_62 rfl (lv_at hl 0 rfl) ?_
  refine gh_new (ci := 1) (fs := [.long 0, .long 0, .long 0, .long 0]) hx hb htb in_Pl t_Pl ty_Pl hown (htb _ k_1_29) (htb _ k_1_31) (htb _ k_1_3) hK hG rfl (fun j hj => by rcases (show j = 0 ∨ j = 1 ∨ j = 2 ∨ j = 3 by omega) with rfl | rfl | rfl | rfl <;> rfl) (by decide) (by decide) d_Ps_init_63 (fun q12 H hf12 hG => ?_)
  have hq13 : (gh_up hh q12 (.inr (1, [.long 0, .long 0, .long 0, .long 0]))) q12 = some (.inr (1, [.long 0, .long 0, .long 0, .long 0])) := gh_self _ _ _
  replace hG : gh_P D vC b0 (gh_up hh q12 (.inr (1, [.long 0, .long 0, .long 0, .long 0]))) s.heap _ _ := hG
  refine W.widen (k := 5) (n := 40) (by decide) (by decide) ?_
  refine lv_dup hx hb d_Ps_init_66 rfl ?_
  refine lv_lconst (v := 0) hx hb d_Ps_init_67 (by decide) ?_
  refine lv_lconst (v := 1) hx hb d_Ps_init_68 (by decide) ?_
  refine lv_lconst (v := 0) hx hb d_Ps_init_69 (by decide) ?_
  refine lv_ldc2 (v := 1000) hx hb hown (htb _ k_1_32) d_Ps_init_70 ?_
  refine gh_cI (As := [.long 0, .long 1, .long 0, .long 1000]) (rest := [.ref q12, .ref a]) (xF_ok b0) hx hb hml hown hK hX hG (c_Pl_init hq13) (q_Pl_init htb ⟨by decide, by decide⟩) (htb _ k_1_33) (htb _ k_1_34) rfl (htb _ k_1_35) rfl hl.1 rfl (Nat.le_of_ble_eq_true rfl) d_Ps_init_73 ⟨by decide, by decide⟩ (fun v9 h9 H l9 hp9 hG => ?_) (fun _ _ _ _ hp9 _ => by cases hp9.1)
  obtain ⟨hv9, hh9⟩ := hp9
  cases hv9
  rw [hh9, gh_uu] at hG
  refine W.eq (g2 := F0 m 76 ls [.ref q12, .ref a]) rfl ?_
  refine W.widen (k := 5) (n := 40) (by decide) (by decide) ?_
  have hw1 := wPs_pl (e := .inr (1, [.long 0, .long 1, .long 0, .long 1000])) hw.1 hf12
  refine gh_cV (ci := 2) (As := [.ref q12]) (rest := []) (xF_ok b0) hx hb hml hown hK hX hG rfl hw1.1 (c_Ps_add hw1.1 hw1.2.1 hw1.2.2.1 hw1.2.2.2.1 hw1.2.2.2.2.1 hw1.2.2.2.2.2.1 hw1.2.2.2.2.2.2.1 hw1.2.2.2.2.2.2.2 (gh_self hh q12 (.inr (1, [.long 0, .long 1, .long 0, .long 1000]))) (by decide)) (q_Ps_add htb ⟨by decide, by decide⟩) (htb _ k_1_51) (htb _ k_1_52) (htb _ k_1_53) rfl hl.1 rfl (Nat.le_of_ble_eq_true rfl) d_Ps_init_76 ⟨by decide, by decide⟩ (fun v9 h9 H l9 hp9 hG => ?_) (fun _ _ _ _ hp9 _ => by cases hp9.1)
  obtain ⟨hv9, hh9⟩ := hp9
  cases hv9
  rw [hh9] at hG
  replace hw : wB cI cP h _ a q1 q4 3 (va_up (va_up (va_up (fun _ => none) 0 (some q8)) 1 (some q10)) 2 (some q12)) (upd (upd (upd (fun _ => 0) 0 (nI 0)) 1 (nI 1)) 2 (nI 2)) (va_up (va_up (va_up (fun _ => 0) 0 q8) 1 q10) 2 q12) (va_up (va_up (va_up (fun _ => 0) 0 0) 1 1) 2 2) (va_up (va_up (va_up (fun _ => 0) 0 1) 1 (-1)) 2 0) (va_up (va_up (va_up (fun _ => 0) 0 0) 1 0) 2 1) (va_up (va_up (va_up (fun _ => 0) 0 0) 1 0) 2 0) (va_up (va_up (va_up (fun _ => 0) 0 1000) 1 1000) 2 1000) := wB_add (r := 2) hw hf12 (by decide) (by decide)
  replace hG : gh_P D vC b0 (m_addH cI cP (gh_up hh q12 (.inr (1, [.long 0, .long 1, .long 0, .long 1000]))) a q1 q4 2 (va_up (va_up (fun _ => none) 0 (some q8)) 1 (some q10)) (upd (upd (fun _ => 0) 0 (nI 0)) 1 (nI 1)) q12 2) s.heap H l9 := by
    have z9 : m_fst (fun i => m_one (va_up (va_up (fun _ => 0) 0 1) 1 (-1) i) (va_up (va_up (fun _ => 0) 0 0) 1 0 i) (va_up (va_up (fun _ => 0) 0 0) 1 0 i) (va_up (va_up (fun _ => 0) 0 1000) 1 1000 i) 0 1 0 1000) 2 = 2 := by decide +kernel
    rw [z9] at hG
    exact hG
  clear hw1
  generalize m_addH cI cP (gh_up hh q12 (.inr (1, [.long 0, .long 1, .long 0, .long 1000]))) a q1 q4 2 (va_up (va_up (fun _ => none) 0 (some q8)) 1 (some q10)) (upd (upd (fun _ => 0) 0 (nI 0)) 1 (nI 1)) q12 2 = hh at hw hG
  refine W.eq (g2 := F0 m 79 ls []) rfl ?_
  refine W.widen (k := 5) (n := 40) (by decide) (by decide) ?_
  refine lv_aload_n hx hb d_Ps_init_79 rfl (lv_at hl 0 rfl) ?_
  refine gh_new (ci := 1) (fs := [.long 0, .long 0, .long 0, .long 0]) hx hb htb in_Pl t_Pl ty_Pl hown (htb _ k_1_29) (htb _ k_1_31) (htb _ k_1_3) hK hG rfl (fun j hj => by rcases (show j = 0 ∨ j = 1 ∨ j = 2 ∨ j = 3 by omega) with rfl | rfl | rfl | rfl <;> rfl) (by decide) (by decide) d_Ps_init_80 (fun q14 H hf14 hG => ?_)
  have hq15 : (gh_up hh q14 (.inr (1, [.long 0, .long 0, .long 0, .long 0]))) q14 = some (.inr (1, [.long 0, .long 0, .long 0, .long 0])) := gh_self _ _ _
  replace hG : gh_P D vC b0 (gh_up hh q14 (.inr (1, [.long 0, .long 0, .long 0, .long 0]))) s.heap _ _ := hG
  refine W.widen (k := 6) (n := 44) (by decide) (by decide) ?_
  refine lv_dup hx hb d_Ps_init_83 rfl ?_
  refine lv_lconst (v := 0) hx hb d_Ps_init_84 (by decide) ?_
  refine lv_ldc2 (v := (-1)) hx hb hown (htb _ k_1_63) d_Ps_init_85 ?_
  refine lv_lconst (v := 0) hx hb d_Ps_init_88 (by decide) ?_
  refine lv_ldc2 (v := 1000) hx hb hown (htb _ k_1_32) d_Ps_init_89 ?_
  refine gh_cI (As := [.long 0, .long (-1), .long 0, .long 1000]) (rest := [.ref q14, .ref a]) (xF_ok b0) hx hb hml hown hK hX hG (c_Pl_init hq15) (q_Pl_init htb ⟨by decide, by decide⟩) (htb _ k_1_33) (htb _ k_1_34) rfl (htb _ k_1_35) rfl hl.1 rfl (Nat.le_of_ble_eq_true rfl) d_Ps_init_92 ⟨by decide, by decide⟩ (fun v9 h9 H l9 hp9 hG => ?_) (fun _ _ _ _ hp9 _ => by cases hp9.1)
  obtain ⟨hv9, hh9⟩ := hp9
  cases hv9
  rw [hh9, gh_uu] at hG
  refine W.eq (g2 := F0 m 95 ls [.ref q14, .ref a]) rfl ?_
  refine W.widen (k := 6) (n := 44) (by decide) (by decide) ?_
  have hw1 := wPs_pl (e := .inr (1, [.long 0, .long (-1), .long 0, .long 1000])) hw.1 hf14
  refine gh_cV (ci := 2) (As := [.ref q14]) (rest := []) (xF_ok b0) hx hb hml hown hK hX hG rfl hw1.1 (c_Ps_add hw1.1 hw1.2.1 hw1.2.2.1 hw1.2.2.2.1 hw1.2.2.2.2.1 hw1.2.2.2.2.2.1 hw1.2.2.2.2.2.2.1 hw1.2.2.2.2.2.2.2 (gh_self hh q14 (.inr (1, [.long 0, .long (-1), .long 0, .long 1000]))) (by decide)) (q_Ps_add htb ⟨by decide, by decide⟩) (htb _ k_1_51) (htb _ k_1_52) (htb _ k_1_53) rfl hl.1 rfl (Nat.le_of_ble_eq_true rfl) d_Ps_init_95 ⟨by decide, by decide⟩ (fun v9 h9 H l9 hp9 hG => ?_) (fun _ _ _ _ hp9 _ => by cases hp9.1)
  obtain ⟨hv9, hh9⟩ := hp9
  cases hv9
  rw [hh9] at hG
  replace hw : wB cI cP h _ a q1 q4 4 (va_up (va_up (va_up (va_up (fun _ => none) 0 (some q8)) 1 (some q10)) 2 (some q12)) 3 (some q14)) (upd (upd (upd (upd (fun _ => 0) 0 (nI 0)) 1 (nI 1)) 2 (nI 2)) 3 (nI 3)) (va_up (va_up (va_up (va_up (fun _ => 0) 0 q8) 1 q10) 2 q12) 3 q14) (va_up (va_up (va_up (va_up (fun _ => 0) 0 0) 1 1) 2 2) 3 3) (va_up (va_up (va_up (va_up (fun _ => 0) 0 1) 1 (-1)) 2 0) 3 0) (va_up (va_up (va_up (va_up (fun _ => 0) 0 0) 1 0) 2 1) 3 (-1)) (va_up (va_up (va_up (va_up (fun _ => 0) 0 0) 1 0) 2 0) 3 0) (va_up (va_up (va_up (va_up (fun _ => 0) 0 1000) 1 1000) 2 1000) 3 1000) := wB_add (r := 3) hw hf14 (by decide) (by decide)
  replace hG : gh_P D vC b0 (m_addH cI cP (gh_up hh q14 (.inr (1, [.long 0, .long (-1), .long 0, .long 1000]))) a q1 q4 3 (va_up (va_up (va_up (fun _ => none) 0 (some q8)) 1 (some q10)) 2 (some q12)) (upd (upd (upd (fun _ => 0) 0 (nI 0)) 1 (nI 1)) 2 (nI 2)) q14 3) s.heap H l9 := by
    have z9 : m_fst (fun i => m_one (va_up (va_up (va_up (fun _ => 0) 0 1) 1 (-1)) 2 0 i) (va_up (va_up (va_up (fun _ => 0) 0 0) 1 0) 2 1 i) (va_up (va_up (va_up (fun _ => 0) 0 0) 1 0) 2 0 i) (va_up (va_up (va_up (fun _ => 0) 0 1000) 1 1000) 2 1000 i) 0 (-1) 0 1000) 3 = 3 := by decide +kernel
    rw [z9] at hG
    exact hG
  clear hw1
  generalize m_addH cI cP (gh_up hh q14 (.inr (1, [.long 0, .long (-1), .long 0, .long 1000]))) a q1 q4 3 (va_up (va_up (va_up (fun _ => none) 0 (some q8)) 1 (some q10)) 2 (some q12)) (upd (upd (upd (fun _ => 0) 0 (nI 0)) 1 (nI 1)) 2 (nI 2)) q14 3 = hh at hw hG
  refine W.eq (g2 := F0 m 98 ls []) rfl ?_
  refine W.widen (k := 6) (n := 44) (by decide) (by decide) ?_
  refine lv_aload_n hx hb d_Ps_init_98 rfl (lv_at hl 0 rfl) ?_
  refine gh_new (ci := 1) (fs := [.long 0, .long 0, .long 0, .long 0]) hx hb htb in_Pl t_Pl ty_Pl hown (htb _ k_1_29) (htb _ k_1_31) (htb _ k_1_3) hK hG rfl (fun j hj => by rcases (show j = 0 ∨ j = 1 ∨ j = 2 ∨ j = 3 by omega) with rfl | rfl | rfl | rfl <;> rfl) (by decide) (by decide) d_Ps_init_99 (fun q16 H hf16 hG => ?_)
  have hq17 : (gh_up hh q16 (.inr (1, [.long 0, .long 0, .long 0, .long 0]))) q16 = some (.inr (1, [.long 0, .long 0, .long 0, .long 0])) := gh_self _ _ _
  replace hG : gh_P D vC b0 (gh_up hh q16 (.inr (1, [.long 0, .long 0, .long 0, .long 0]))) s.heap _ _ := hG
  refine W.widen (k := 7) (n := 48) (by decide) (by decide) ?_
  refine lv_dup hx hb d_Ps_init_102 rfl ?_
  refine lv_lconst (v := 0) hx hb d_Ps_init_103 (by decide) ?_
  refine lv_lconst (v := 0) hx hb d_Ps_init_104 (by decide) ?_
  refine lv_lconst (v := 1) hx hb d_Ps_init_105 (by decide) ?_
  refine lv_ldc2 (v := 1000) hx hb hown (htb _ k_1_32) d_Ps_init_106 ?_
  refine gh_cI (As := [.long 0, .long 0, .long 1, .long 1000]) (rest := [.ref q16, .ref a]) (xF_ok b0) hx hb hml hown hK hX hG (c_Pl_init hq17) (q_Pl_init htb ⟨by decide, by decide⟩) (htb _ k_1_33) (htb _ k_1_34) rfl (htb _ k_1_35) rfl hl.1 rfl (Nat.le_of_ble_eq_true rfl) d_Ps_init_109 ⟨by decide, by decide⟩ (fun v9 h9 H l9 hp9 hG => ?_) (fun _ _ _ _ hp9 _ => by cases hp9.1)
  obtain ⟨hv9, hh9⟩ := hp9
  cases hv9
  rw [hh9, gh_uu] at hG
  refine W.eq (g2 := F0 m 112 ls [.ref q16, .ref a]) rfl ?_
  refine W.widen (k := 7) (n := 48) (by decide) (by decide) ?_
  have hw1 := wPs_pl (e := .inr (1, [.long 0, .long 0, .long 1, .long 1000])) hw.1 hf16
  refine gh_cV (ci := 2) (As := [.ref q16]) (rest := []) (xF_ok b0) hx hb hml hown hK hX hG rfl hw1.1 (c_Ps_add hw1.1 hw1.2.1 hw1.2.2.1 hw1.2.2.2.1 hw1.2.2.2.2.1 hw1.2.2.2.2.2.1 hw1.2.2.2.2.2.2.1 hw1.2.2.2.2.2.2.2 (gh_self hh q16 (.inr (1, [.long 0, .long 0, .long 1, .long 1000]))) (by decide)) (q_Ps_add htb ⟨by decide, by decide⟩) (htb _ k_1_51) (htb _ k_1_52) (htb _ k_1_53) rfl hl.1 rfl (Nat.le_of_ble_eq_true rfl) d_Ps_init_112 ⟨by decide, by decide⟩ (fun v9 h9 H l9 hp9 hG => ?_) (fun _ _ _ _ hp9 _ => by cases hp9.1)
  obtain ⟨hv9, hh9⟩ := hp9
  cases hv9
  rw [hh9] at hG
  replace hw : wB cI cP h _ a q1 q4 5 (va_up (va_up (va_up (va_up (va_up (fun _ => none) 0 (some q8)) 1 (some q10)) 2 (some q12)) 3 (some q14)) 4 (some q16)) (upd (upd (upd (upd (upd (fun _ => 0) 0 (nI 0)) 1 (nI 1)) 2 (nI 2)) 3 (nI 3)) 4 (nI 4)) (va_up (va_up (va_up (va_up (va_up (fun _ => 0) 0 q8) 1 q10) 2 q12) 3 q14) 4 q16) (va_up (va_up (va_up (va_up (va_up (fun _ => 0) 0 0) 1 1) 2 2) 3 3) 4 4) (va_up (va_up (va_up (va_up (va_up (fun _ => 0) 0 1) 1 (-1)) 2 0) 3 0) 4 0) (va_up (va_up (va_up (va_up (va_up (fun _ => 0) 0 0) 1 0) 2 1) 3 (-1)) 4 0) (va_up (va_up (va_up (va_up (va_up (fun _ => 0) 0 0) 1 0) 2 0) 3 0) 4 1) (va_up (va_up (va_up (va_up (va_up (fun _ => 0) 0 1000) 1 1000) 2 1000) 3 1000) 4 1000) := wB_add (r := 4) hw hf16 (by decide) (by decide)
  replace hG : gh_P D vC b0 (m_addH cI cP (gh_up hh q16 (.inr (1, [.long 0, .long 0, .long 1, .long 1000]))) a q1 q4 4 (va_up (va_up (va_up (va_up (fun _ => none) 0 (some q8)) 1 (some q10)) 2 (some q12)) 3 (some q14)) (upd (upd (upd (upd (fun _ => 0) 0 (nI 0)) 1 (nI 1)) 2 (nI 2)) 3 (nI 3)) q16 4) s.heap H l9 := by
    have z9 : m_fst (fun i => m_one (va_up (va_up (va_up (va_up (fun _ => 0) 0 1) 1 (-1)) 2 0) 3 0 i) (va_up (va_up (va_up (va_up (fun _ => 0) 0 0) 1 0) 2 1) 3 (-1) i) (va_up (va_up (va_up (va_up (fun _ => 0) 0 0) 1 0) 2 0) 3 0 i) (va_up (va_up (va_up (va_up (fun _ => 0) 0 1000) 1 1000) 2 1000) 3 1000 i) 0 0 1 1000) 4 = 4 := by decide +kernel
    rw [z9] at hG
    exact hG
  clear hw1
  generalize m_addH cI cP (gh_up hh q16 (.inr (1, [.long 0, .long 0, .long 1, .long 1000]))) a q1 q4 4 (va_up (va_up (va_up (va_up (fun _ => none) 0 (some q8)) 1 (some q10)) 2 (some q12)) 3 (some q14)) (upd (upd (upd (upd (fun _ => 0) 0 (nI 0)) 1 (nI 1)) 2 (nI 2)) 3 (nI 3)) q16 4 = hh at hw hG
  refine W.eq (g2 := F0 m 115 ls []) rfl ?_
  refine W.widen (k := 7) (n := 48) (by decide) (by decide) ?_
  refine lv_aload_n hx hb d_Ps_init_115 rfl (lv_at hl 0 rfl) ?_
  refine gh_new (ci := 1) (fs := [.long 0, .long 0, .long 0, .long 0]) hx hb htb in_Pl t_Pl ty_Pl hown (htb _ k_1_29) (htb _ k_1_31) (htb _ k_1_3) hK hG rfl (fun j hj => by rcases (show j = 0 ∨ j = 1 ∨ j = 2 ∨ j = 3 by omega) with rfl | rfl | rfl | rfl <;> rfl) (by decide) (by decide) d_Ps_init_116 (fun q18 H hf18 hG => ?_)
  have hq19 : (gh_up hh q18 (.inr (1, [.long 0, .long 0, .long 0, .long 0]))) q18 = some (.inr (1, [.long 0, .long 0, .long 0, .long 0])) := gh_self _ _ _
  replace hG : gh_P D vC b0 (gh_up hh q18 (.inr (1, [.long 0, .long 0, .long 0, .long 0]))) s.heap _ _ := hG
  refine W.widen (k := 8) (n := 52) (by decide) (by decide) ?_
  refine lv_dup hx hb d_Ps_init_119 rfl ?_
  refine lv_lconst (v := 0) hx hb d_Ps_init_120 (by decide) ?_
  refine lv_lconst (v := 0) hx hb d_Ps_init_121 (by decide) ?_
  refine lv_ldc2 (v := (-1)) hx hb hown (htb _ k_1_63) d_Ps_init_122 ?_
  refine lv_ldc2 (v := 1000) hx hb hown (htb _ k_1_32) d_Ps_init_125 ?_
  refine gh_cI (As := [.long 0, .long 0, .long (-1), .long 1000]) (rest := [.ref q18, .ref a]) (xF_ok b0) hx hb hml hown hK hX hG (c_Pl_init hq19) (q_Pl_init htb ⟨by decide, by decide⟩) (htb _ k_1_33) (htb _ k_1_34) rfl (htb _ k_1_35) rfl hl.1 rfl (Nat.le_of_ble_eq_true rfl) d_Ps_init_128 ⟨by decide, by decide⟩ (fun v9 h9 H l9 hp9 hG => ?_) (fun _ _ _ _ hp9 _ => by cases hp9.1)
  obtain ⟨hv9, hh9⟩ := hp9
  cases hv9
  rw [hh9, gh_uu] at hG
  refine W.eq (g2 := F0 m 131 ls [.ref q18, .ref a]) rfl ?_
  refine W.widen (k := 8) (n := 52) (by decide) (by decide) ?_
  have hw1 := wPs_pl (e := .inr (1, [.long 0, .long 0, .long (-1), .long 1000])) hw.1 hf18
  refine gh_cV (ci := 2) (As := [.ref q18]) (rest := []) (xF_ok b0) hx hb hml hown hK hX hG rfl hw1.1 (c_Ps_add hw1.1 hw1.2.1 hw1.2.2.1 hw1.2.2.2.1 hw1.2.2.2.2.1 hw1.2.2.2.2.2.1 hw1.2.2.2.2.2.2.1 hw1.2.2.2.2.2.2.2 (gh_self hh q18 (.inr (1, [.long 0, .long 0, .long (-1), .long 1000]))) (by decide)) (q_Ps_add htb ⟨by decide, by decide⟩) (htb _ k_1_51) (htb _ k_1_52) (htb _ k_1_53) rfl hl.1 rfl (Nat.le_of_ble_eq_true rfl) d_Ps_init_131 ⟨by decide, by decide⟩ (fun v9 h9 H l9 hp9 hG => ?_) (fun _ _ _ _ hp9 _ => by cases hp9.1)
  obtain ⟨hv9, hh9⟩ := hp9
  cases hv9
  rw [hh9] at hG
  replace hw : wB cI cP h _ a q1 q4 6 (va_up (va_up (va_up (va_up (va_up (va_up (fun _ => none) 0 (some q8)) 1 (some q10)) 2 (some q12)) 3 (some q14)) 4 (some q16)) 5 (some q18)) (upd (upd (upd (upd (upd (upd (fun _ => 0) 0 (nI 0)) 1 (nI 1)) 2 (nI 2)) 3 (nI 3)) 4 (nI 4)) 5 (nI 5)) (va_up (va_up (va_up (va_up (va_up (va_up (fun _ => 0) 0 q8) 1 q10) 2 q12) 3 q14) 4 q16) 5 q18) (va_up (va_up (va_up (va_up (va_up (va_up (fun _ => 0) 0 0) 1 1) 2 2) 3 3) 4 4) 5 5) (va_up (va_up (va_up (va_up (va_up (va_up (fun _ => 0) 0 1) 1 (-1)) 2 0) 3 0) 4 0) 5 0) (va_up (va_up (va_up (va_up (va_up (va_up (fun _ => 0) 0 0) 1 0) 2 1) 3 (-1)) 4 0) 5 0) (va_up (va_up (va_up (va_up (va_up (va_up (fun _ => 0) 0 0) 1 0) 2 0) 3 0) 4 1) 5 (-1)) (va_up (va_up (va_up (va_up (va_up (va_up (fun _ => 0) 0 1000) 1 1000) 2 1000) 3 1000) 4 1000) 5 1000) := wB_add (r := 5) hw hf18 (by decide) (by decide)
  replace hG : gh_P D vC b0 (m_addH cI cP (gh_up hh q18 (.inr (1, [.long 0, .long 0, .long (-1), .long 1000]))) a q1 q4 5 (va_up (va_up (va_up (va_up (va_up (fun _ => none) 0 (some q8)) 1 (some q10)) 2 (some q12)) 3 (some q14)) 4 (some q16)) (upd (upd (upd (upd (upd (fun _ => 0) 0 (nI 0)) 1 (nI 1)) 2 (nI 2)) 3 (nI 3)) 4 (nI 4)) q18 5) s.heap H l9 := by
    have z9 : m_fst (fun i => m_one (va_up (va_up (va_up (va_up (va_up (fun _ => 0) 0 1) 1 (-1)) 2 0) 3 0) 4 0 i) (va_up (va_up (va_up (va_up (va_up (fun _ => 0) 0 0) 1 0) 2 1) 3 (-1)) 4 0 i) (va_up (va_up (va_up (va_up (va_up (fun _ => 0) 0 0) 1 0) 2 0) 3 0) 4 1 i) (va_up (va_up (va_up (va_up (va_up (fun _ => 0) 0 1000) 1 1000) 2 1000) 3 1000) 4 1000 i) 0 0 (-1) 1000) 5 = 5 := by decide +kernel
    rw [z9] at hG
    exact hG
  clear hw1
  generalize m_addH cI cP (gh_up hh q18 (.inr (1, [.long 0, .long 0, .long (-1), .long 1000]))) a q1 q4 5 (va_up (va_up (va_up (va_up (va_up (fun _ => none) 0 (some q8)) 1 (some q10)) 2 (some q12)) 3 (some q14)) 4 (some q16)) (upd (upd (upd (upd (upd (fun _ => 0) 0 (nI 0)) 1 (nI 1)) 2 (nI 2)) 3 (nI 3)) 4 (nI 4)) q18 5 = hh at hw hG
  refine W.eq (g2 := F0 m 134 ls []) rfl ?_
  refine W.widen (k := 8) (n := 52) (by decide) (by decide) ?_
  exact gh_vret hx hb hr hlk hG d_Ps_init_134 ⟨rfl, q1, q4, _, _, _, _, _, _, _, _, hw, by decide, by decide +kernel⟩

end
end
section
/-- the cells of a convex solid, so far -/
def m_cvx (set : Int32) : Nat → Nat → Int64
  | 0 => fun _ => 0
  | k + 1 => if nI k &&& set = set then vp_updL (m_cvx set k) (k / 64) (m_cvx set k (k / 64) ||| ((1 : Int64) <<< (Int32.toInt64 (nI k) &&& 63))) else m_cvx set k
def m_jn (w : Nat) (a b : Int64) : Int64 := if w = 0 then a ||| b else if w = 1 then a &&& b else if w = 2 then a &&& (b ^^^ (-1)) else a ^^^ b
def m_has (f : Nat → Int64) (ce : Nat) : Bool := decide (¬ (f (ce / 64) >>> (Int32.toInt64 (nI ce) &&& 63)) &&& 1 = 0)
theorem up_in {f : Nat → Int64} {k : Nat} {x : Int64} {g : Nat → Int64} (h : ∀ j, j < k → f j = g j) (hx : x = g k) : ∀ j, j < k + 1 → vp_updL f k x j = g j := by
  intro j hj
  by_cases hjk : j = k
  · subst hjk; rw [pk_uLs]; exact hx
  · rw [pk_uLn hjk]; exact h j (by omega)
theorem up_out {f : Nat → Int64} {k : Nat} {x : Int64} {g : Nat → Int64} (h : ∀ j, k ≤ j → f j = g j) : ∀ j, k + 1 ≤ j → vp_updL f k x j = g j := by
  intro j hj
  rw [pk_uLn (by omega)]; exact h j (by omega)
theorem cvx_in {f : Nat → Int64} {k : Nat} {set : Int32} (hk : k < 256) (h : ∀ j, j < 4 → f j = m_cvx set k j) (hc : nI k &&& set = set) : ∀ j, j < 4 → vp_updL f (k / 64) (f (k / 64) ||| ((1 : Int64) <<< (Int32.toInt64 (nI k) &&& 63))) j = m_cvx set (k + 1) j := by
  intro j hj
  simp only [m_cvx, if_pos hc]
  by_cases hjk : j = k / 64
  · subst hjk; rw [pk_uLs, pk_uLs, h _ (by omega)]
  · rw [pk_uLn hjk, pk_uLn hjk]; exact h j hj
theorem cvx_out {f : Nat → Int64} {k : Nat} {set : Int32} (h : ∀ j, j < 4 → f j = m_cvx set k j) (hc : ¬ nI k &&& set = set) : ∀ j, j < 4 → f j = m_cvx set (k + 1) j := by
  intro j hj
  simp only [m_cvx, if_neg hc]
  exact h j hj

section
variable {l : Launch} {D : va_G} {cI cJ cP cS : ClassId} {b0 : Nat} {h : gh_M}

set_option maxHeartbeats 4000000 in
set_option maxRecDepth 100000 in
/-- Solid() -/
theorem c_So_init {a : Nat} (ha : h a = some (.inr (4, [.null]))) : gh_C l D vC (tZ cI cJ cP cS) (xF b0) b0 y_So_init w_So_init ({ frames := 1, cells := 1, slots := 4, locals := 12 }) [.ref a] h (fun oc h2 => oc = .returned none ∧ ∃ w, h w = none ∧ h2 = gh_up (gh_up h w (.inl (cJ, 4, .inr (.inl (fun _ => 0))))) a (.inr (4, [.ref w]))) := by
  refine gh_ofW (by decide) (Nat.le_of_ble_eq_true rfl) ?_
  intro p e s m below meth c ls hctx hno hl hG hK hX
  obtain ⟨hx, hb, hr, hml, hown, hlk, hts, hnm⟩ := hctx
  have htb : ∀ w ∈ tB, w.before _ s = true := fun w hw => hts w (List.mem_cons_of_mem _ hw)
  replace hl : lv_has ls 1 [(0, .ref a)] := hl
  refine lv_aload_n hx hb d_So_init_0 rfl (lv_at hl 0 rfl) ?_
  refine W.objInit hx hb hown (htb _ k_1_80) (htb _ k_1_21) (htb _ k_1_22) rfl (by rw [hml]; exact hl.1) rfl d_So_init_1 (Nat.le_of_ble_eq_true rfl) (Nat.le_of_ble_eq_true rfl) ?_
  refine W.eq (g2 := F0 m 4 ls []) rfl ?_
  refine lv_aload_n hx hb d_So_init_4 rfl (lv_at hl 0 rfl) ?_
  refine lv_iconst (v := 4) hx hb d_So_init_5 (by decide) ?_
  refine gh_newa (atype := .long) (a0 := (4, .inr (.inl (fun _ => 0)))) hx hb (htb _ k_1_85) rfl hK hG 1 rfl (fun _ => rfl) (by decide) rfl (by decide) (by decide) (by decide) d_So_init_6 (fun q1 H hf1 hG => ?_)
  have hq2 : (gh_up h q1 (.inl (cJ, 4, .inr (.inl (fun _ => 0))))) q1 = some (.inl (cJ, 4, .inr (.inl (fun _ => 0)))) := gh_self _ _ _
  replace hG : gh_P D vC b0 (gh_up h q1 (.inl (cJ, 4, .inr (.inl (fun _ => 0))))) s.heap _ _ := hG
  have ha_2 : (gh_up h q1 (.inl (cJ, 4, .inr (.inl (fun _ => 0))))) a = some (.inr (4, [.null])) := gh_keepN hf1 ha
  refine W.widen (k := 1) (n := 4) (by decide) (by decide) ?_
  refine gh_putF (ci := 4) (ty := .array (.long)) hx hb htb in_So t_So ty_So nm_So hown hK hG ha_2 rfl 0 (by decide) (htb _ k_1_81) (fun _ h9 => h9) rfl hnm rfl (by decide +kernel) rfl rfl (Nat.le_of_ble_eq_true rfl) d_So_init_8 (fun H l9 hG => ?_)
  have hq3 : (gh_up (gh_up h q1 (.inl (cJ, 4, .inr (.inl (fun _ => 0))))) a (.inr (4, [.ref q1]))) a = some (.inr (4, [.ref q1])) := gh_self _ _ _
  replace hG : gh_P D vC b0 (gh_up (gh_up h q1 (.inl (cJ, 4, .inr (.inl (fun _ => 0))))) a (.inr (4, [.ref q1]))) s.heap _ _ := hG
  have hq2_3 : (gh_up (gh_up h q1 (.inl (cJ, 4, .inr (.inl (fun _ => 0))))) a (.inr (4, [.ref q1]))) q1 = some (.inl (cJ, 4, .inr (.inl (fun _ => 0)))) := gh_keep ha_2 hq2 (by simp)
  exact gh_vret hx hb hr hlk hG d_So_init_11 ⟨rfl, q1, hf1, rfl⟩

set_option maxHeartbeats 4000000 in
set_option maxRecDepth 100000 in
/-- has -/
theorem c_So_has {a w : Nat} {f : Nat → Int64} (ha : h a = some (.inr (4, [.ref w]))) (hw : h w = some (.inl (cJ, 4, .inr (.inl f)))) {ce : Nat} (hce : ce < 256) : gh_C l D vC (tZ cI cJ cP cS) (xF b0) b0 y_So_has w_So_has ({ frames := 0, cells := 0, slots := 0, locals := 0 }) [.ref a, .int (nI ce)] h (rI (m_b (m_has f ce)) h) := by
  refine gh_ofW (by decide) (Nat.le_of_ble_eq_true rfl) ?_
  intro p e s m below meth c ls hctx hno hl hG hK hX
  obtain ⟨hx, hb, hr, hml, hown, hlk, hts, hnm⟩ := hctx
  have htb : ∀ w ∈ tB, w.before _ s = true := fun w hw => hts w (List.mem_cons_of_mem _ hw)
  replace hl : lv_has ls 2 [(0, .ref a), (1, .int (nI ce))] := hl
  refine lv_aload_n hx hb d_So_has_0 rfl (lv_at hl 0 rfl) ?_
  refine gh_get (ci := 4) hx hb htb in_So hown hK hG ha rfl 0 (by decide) (htb _ k_1_81) (fun _ h9 => h9) rfl d_So_has_1 ?_
  refine lv_iload_n hx hb d_So_has_4 rfl (lv_at hl 1 rfl) ?_
  refine lv_bipush (v := 6) hx hb d_So_has_5 (by decide) ?_
  refine lv_ishr hx hb d_So_has_7 ?_
  rw [show nI ce >>> ((6 : Int32) &&& 31) = nI (ce / 64) from pk_shrN (by omega) _ 6 (by decide)]
  refine gh_lald (v := f (ce / 64)) hx hb hK hG 1 hw rfl (vp_in_nI (by omega) (by decide)) (by rw [nI_clamp (by omega)]) d_So_has_8 ?_
  refine lv_iload_n hx hb d_So_has_9 rfl (lv_at hl 1 rfl) ?_
  refine lv_lshr (v := ((f (ce / 64)) >>> (Int32.toInt64 (nI ce) &&& 63))) hx hb d_So_has_10 rfl ?_
  refine lv_lconst (v := 1) hx hb d_So_has_11 (by decide) ?_
  refine lv_land hx hb d_So_has_12 ?_
  refine lv_lconst (v := 0) hx hb d_So_has_13 (by decide) ?_
  refine W.lcmp hx hb d_So_has_14 ?_
  refine lv_if_eq (tgt := 22) hx hb d_So_has_15 (by decide) (fun hc15 => ?_) (fun hc15 => ?_)
  · skip
    rw [lg_cmp_eq] at hc15
    refine lv_iconst (v := 0) hx hb d_So_has_22 (by decide) ?_
    exact gh_iret hx hb hr hlk rfl hG d_So_has_23 ⟨by simp_all [m_has, m_b], rfl⟩
  · skip
    rw [lg_cmp_eq] at hc15
    refine lv_iconst (v := 1) hx hb d_So_has_18 (by decide) ?_
    refine lv_goto (tgt := 23) hx hb d_So_has_19 (by decide) ?_
    exact gh_iret hx hb hr hlk rfl hG d_So_has_23 ⟨by simp_all [m_has, m_b], rfl⟩

set_option maxHeartbeats 4000000 in
set_option maxRecDepth 100000 in
/-- becomeConvex -/
theorem c_So_becomeConvex {a w : Nat} {f : Nat → Int64} (ha : h a = some (.inr (4, [.ref w]))) (hw : h w = some (.inl (cJ, 4, .inr (.inl f)))) {set : Int32} : gh_C l D vC (tZ cI cJ cP cS) (xF b0) b0 y_So_becomeConvex w_So_becomeConvex ({ frames := 0, cells := 0, slots := 0, locals := 0 }) [.ref a, .int set] h (fun oc h2 => oc = .returned none ∧ ∃ f2 : Nat → Int64, (∀ j, j < 4 → f2 j = m_cvx set 256 j) ∧ h2 = gh_up h w (.inl (cJ, 4, .inr (.inl f2)))) := by
  refine gh_ofW (by decide) (Nat.le_of_ble_eq_true rfl) ?_
  intro p e s m below meth c ls hctx hno hl hG hK hX
  obtain ⟨hx, hb, hr, hml, hown, hlk, hts, hnm⟩ := hctx
  have htb : ∀ w ∈ tB, w.before _ s = true := fun w hw => hts w (List.mem_cons_of_mem _ hw)
  replace hl : lv_has ls 3 [(0, .ref a), (1, .int set)] := hl
  refine lv_iconst (v := 0) hx hb d_So_becomeConvex_0 (by decide) ?_
  refine lv_istore_n (lv' := [(2, .int 0), (0, .ref a), (1, .int set)]) hx hb d_So_becomeConvex_1 rfl hl (by decide) rfl (fun ls hl => ?_)
  refine gh_gen hG (fun H l9 hG => ?_)
  refine lp_upH (α := Nat → Int64) (G := fun ls H l9 => W p l e _ s m _ below meth c H l9 _ _ _ (F0 m 2 ls [])) 4 (fun k1 f1 ls H l9 => (∀ j, j < k1 → f1 j = 0) ∧ lv_has ls 3 [(0, .ref a), (1, .int set), (2, .int (nI k1))] ∧ gh_P D vC b0 (gh_up h w (.inl (cJ, 4, .inr (.inl f1)))) s.heap H l9) ?_ 0 f ls H l9 (Nat.zero_le _) ⟨(fun j hj => absurd hj (Nat.not_lt_zero j)), (lv_sub hl [1, 2, 0] rfl), (by rw [gh_id hw]; exact hG)⟩
  intro k1 f1 ls H l9 hka hI iha
  obtain ⟨hi1a, hl, hG⟩ := hI
  have ha_f1 : (gh_up h w (.inl (cJ, 4, .inr (.inl f1)))) a = some (.inr (4, [.ref w])) := gh_keep hw ha (by simp)
  have hw_f1 : (gh_up h w (.inl (cJ, 4, .inr (.inl f1)))) w = some (.inl (cJ, 4, .inr (.inl f1))) := gh_self _ _ _
  refine lv_iload_n hx hb d_So_becomeConvex_2 rfl (lv_at hl 2 rfl) ?_
  refine lv_iconst (v := 4) hx hb d_So_becomeConvex_3 (by decide) ?_
  refine lv_icmp_ge (tgt := 20) hx hb d_So_becomeConvex_4 (by decide) (fun hc4 => ?_) (fun hc4 => ?_)
  · skip
    replace hc4 : 4 ≤ k1 := (nc_le (a := 4) (b := k1) (by omega) (by omega) rfl rfl).mp hc4
    refine lv_iconst (v := 0) hx hb d_So_becomeConvex_20 (by decide) ?_
    refine lv_istore_n (lv' := [(2, .int 0), (0, .ref a), (1, .int set)]) hx hb d_So_becomeConvex_21 rfl hl (by decide) rfl (fun ls hl => ?_)
    refine gh_gen hG (fun H l9 hG => ?_)
    refine lp_upH (α := Nat → Int64) (G := fun ls H l9 => W p l e _ s m _ below meth c H l9 _ _ _ (F0 m 22 ls [])) 256 (fun k2 f2 ls H l9 => (∀ j, j < 4 → f2 j = m_cvx set k2 j) ∧ lv_has ls 3 [(0, .ref a), (1, .int set), (2, .int (nI k2))] ∧ gh_P D vC b0 (gh_up h w (.inl (cJ, 4, .inr (.inl f2)))) s.heap H l9) ?_ 0 f1 ls H l9 (Nat.zero_le _) ⟨(fun j hj => hi1a j (by omega)), (lv_sub hl [1, 2, 0] rfl), hG⟩
    intro k2 f2 ls H l9 hkb hI ihb
    obtain ⟨hi1b, hl, hG⟩ := hI
    have ha_f2 : (gh_up h w (.inl (cJ, 4, .inr (.inl f2)))) a = some (.inr (4, [.ref w])) := gh_keep hw ha (by simp)
    have hw_f2 : (gh_up h w (.inl (cJ, 4, .inr (.inl f2)))) w = some (.inl (cJ, 4, .inr (.inl f2))) := gh_self _ _ _
    refine lv_iload_n hx hb d_So_becomeConvex_22 rfl (lv_at hl 2 rfl) ?_
    refine lv_sipush (v := 256) hx hb d_So_becomeConvex_23 (by decide) ?_
    refine lv_icmp_ge (tgt := 57) hx hb d_So_becomeConvex_26 (by decide) (fun hc26 => ?_) (fun hc26 => ?_)
    · skip
      replace hc26 : 256 ≤ k2 := (nc_le (a := 256) (b := k2) (by omega) (by omega) rfl rfl).mp hc26
      exact gh_vret hx hb hr hlk hG d_So_becomeConvex_57 ⟨rfl, f2, (fun j hj => by rw [hi1b j hj, show k2 = 256 by omega]), rfl⟩
    · skip
      replace hc26 : ¬ 256 ≤ k2 := fun q9 => hc26 ((nc_le (a := 256) (b := k2) (by omega) (by omega) rfl rfl).mpr q9)
      refine lv_iload_n hx hb d_So_becomeConvex_29 rfl (lv_at hl 2 rfl) ?_
      refine lv_iload_n hx hb d_So_becomeConvex_30 rfl (lv_at hl 1 rfl) ?_
      refine lv_iand hx hb d_So_becomeConvex_31 ?_
      refine lv_iload_n hx hb d_So_becomeConvex_32 rfl (lv_at hl 1 rfl) ?_
      refine lv_icmp_ne (tgt := 51) hx hb d_So_becomeConvex_33 (by decide) (fun hc33 => ?_) (fun hc33 => ?_)
      · skip
        refine lv_iinc (k := 2) (v := nI (k2 + 1)) (lv' := [(2, .int (nI (k2 + 1))), (0, .ref a), (1, .int set)]) hx hb d_So_becomeConvex_51 hl rfl (nI_1 k2) (by decide) rfl (fun ls hl => ?_)
        refine lv_goto (tgt := 22) hx hb d_So_becomeConvex_54 (by decide) ?_
        exact ihb f2 ls H l9 (by omega) ⟨cvx_out hi1b hc33, (lv_sub hl [1, 2, 0] rfl), (by first | exact hG | (rw [gh_uu] at hG; exact hG))⟩
      · skip
        refine lv_aload_n hx hb d_So_becomeConvex_36 rfl (lv_at hl 0 rfl) ?_
        refine gh_get (ci := 4) hx hb htb in_So hown hK hG ha_f2 rfl 0 (by decide) (htb _ k_1_81) (fun _ h9 => h9) rfl d_So_becomeConvex_37 ?_
        refine lv_iload_n hx hb d_So_becomeConvex_40 rfl (lv_at hl 2 rfl) ?_
        refine lv_bipush (v := 6) hx hb d_So_becomeConvex_41 (by decide) ?_
        refine lv_ishr hx hb d_So_becomeConvex_43 ?_
        rw [show nI k2 >>> ((6 : Int32) &&& 31) = nI (k2 / 64) from pk_shrN (by omega) _ 6 (by decide)]
        refine lv_dup2_11 hx hb d_So_becomeConvex_44 rfl rfl ?_
        refine gh_lald (v := f2 (k2 / 64)) hx hb hK hG 1 hw_f2 rfl (vp_in_nI (by omega) (by decide)) (by rw [nI_clamp (by omega)]) d_So_becomeConvex_45 ?_
        refine lv_lconst (v := 1) hx hb d_So_becomeConvex_46 (by decide) ?_
        refine lv_iload_n hx hb d_So_becomeConvex_47 rfl (lv_at hl 2 rfl) ?_
        refine lv_lshl (v := (1 <<< (Int32.toInt64 (nI k2) &&& 63))) hx hb d_So_becomeConvex_48 rfl ?_
        refine lv_lor hx hb d_So_becomeConvex_49 ?_
        refine gh_last hx hb hK hG 1 hw_f2 rfl (vp_in_nI (by omega) (by decide)) d_So_becomeConvex_50 (fun H l9 hG => ?_)
        rw [nI_clamp (by omega)] at hG
        have hq1 : (gh_up (gh_up h w (.inl (cJ, 4, .inr (.inl f2)))) w (.inl (cJ, 4, .inr (.inl (vp_updL f2 (k2 / 64) ((f2 (k2 / 64)) ||| (1 <<< (Int32.toInt64 (nI k2) &&& 63)))))))) w = some (.inl (cJ, 4, .inr (.inl (vp_updL f2 (k2 / 64) ((f2 (k2 / 64)) ||| (1 <<< (Int32.toInt64 (nI k2) &&& 63))))))) := gh_self _ _ _
        replace hG : gh_P D vC b0 (gh_up (gh_up h w (.inl (cJ, 4, .inr (.inl f2)))) w (.inl (cJ, 4, .inr (.inl (vp_updL f2 (k2 / 64) ((f2 (k2 / 64)) ||| (1 <<< (Int32.toInt64 (nI k2) &&& 63)))))))) s.heap _ _ := hG
        have ha_f2_1 : (gh_up (gh_up h w (.inl (cJ, 4, .inr (.inl f2)))) w (.inl (cJ, 4, .inr (.inl (vp_updL f2 (k2 / 64) ((f2 (k2 / 64)) ||| (1 <<< (Int32.toInt64 (nI k2) &&& 63)))))))) a = some (.inr (4, [.ref w])) := gh_keep hw_f2 ha_f2 (by simp)
        refine lv_iinc (k := 2) (v := nI (k2 + 1)) (lv' := [(2, .int (nI (k2 + 1))), (0, .ref a), (1, .int set)]) hx hb d_So_becomeConvex_51 hl rfl (nI_1 k2) (by decide) rfl (fun ls hl => ?_)
        refine lv_goto (tgt := 22) hx hb d_So_becomeConvex_54 (by decide) ?_
        exact ihb (vp_updL f2 (k2 / 64) ((f2 (k2 / 64)) ||| (1 <<< (Int32.toInt64 (nI k2) &&& 63)))) ls H l9 (by omega) ⟨cvx_in (by omega) hi1b hc33, (lv_sub hl [1, 2, 0] rfl), (by first | exact hG | (rw [gh_uu] at hG; exact hG))⟩
  · skip
    replace hc4 : ¬ 4 ≤ k1 := fun q9 => hc4 ((nc_le (a := 4) (b := k1) (by omega) (by omega) rfl rfl).mpr q9)
    refine lv_aload_n hx hb d_So_becomeConvex_7 rfl (lv_at hl 0 rfl) ?_
    refine gh_get (ci := 4) hx hb htb in_So hown hK hG ha_f1 rfl 0 (by decide) (htb _ k_1_81) (fun _ h9 => h9) rfl d_So_becomeConvex_8 ?_
    refine lv_iload_n hx hb d_So_becomeConvex_11 rfl (lv_at hl 2 rfl) ?_
    refine lv_lconst (v := 0) hx hb d_So_becomeConvex_12 (by decide) ?_
    refine gh_last hx hb hK hG 1 hw_f1 rfl (vp_in_nI (by omega) (by decide)) d_So_becomeConvex_13 (fun H l9 hG => ?_)
    rw [nI_clamp (by omega)] at hG
    have hq2 : (gh_up (gh_up h w (.inl (cJ, 4, .inr (.inl f1)))) w (.inl (cJ, 4, .inr (.inl (vp_updL f1 k1 0))))) w = some (.inl (cJ, 4, .inr (.inl (vp_updL f1 k1 0)))) := gh_self _ _ _
    replace hG : gh_P D vC b0 (gh_up (gh_up h w (.inl (cJ, 4, .inr (.inl f1)))) w (.inl (cJ, 4, .inr (.inl (vp_updL f1 k1 0))))) s.heap _ _ := hG
    have ha_f1_2 : (gh_up (gh_up h w (.inl (cJ, 4, .inr (.inl f1)))) w (.inl (cJ, 4, .inr (.inl (vp_updL f1 k1 0))))) a = some (.inr (4, [.ref w])) := gh_keep hw_f1 ha_f1 (by simp)
    refine lv_iinc (k := 2) (v := nI (k1 + 1)) (lv' := [(2, .int (nI (k1 + 1))), (0, .ref a), (1, .int set)]) hx hb d_So_becomeConvex_14 hl rfl (nI_1 k1) (by decide) rfl (fun ls hl => ?_)
    refine lv_goto (tgt := 2) hx hb d_So_becomeConvex_17 (by decide) ?_
    exact iha (vp_updL f1 k1 0) ls H l9 (by omega) ⟨up_in (g := fun _ => 0) hi1a rfl, (lv_sub hl [1, 2, 0] rfl), (by first | exact hG | (rw [gh_uu] at hG; exact hG))⟩

set_option maxHeartbeats 4000000 in
set_option maxRecDepth 100000 in
/-- becomeLike -/
theorem c_So_becomeLike {a w : Nat} {f : Nat → Int64} (ha : h a = some (.inr (4, [.ref w]))) (hw : h w = some (.inl (cJ, 4, .inr (.inl f)))) {b w2 : Nat} {g : Nat → Int64} (hb2 : h b = some (.inr (4, [.ref w2]))) (hw2 : h w2 = some (.inl (cJ, 4, .inr (.inl g)))) (hne : w2 ≠ w) : gh_C l D vC (tZ cI cJ cP cS) (xF b0) b0 y_So_becomeLike w_So_becomeLike ({ frames := 0, cells := 0, slots := 0, locals := 0 }) [.ref a, .ref b] h (fun oc h2 => oc = .returned none ∧ ∃ f2 : Nat → Int64, (∀ j, j < 4 → f2 j = g j) ∧ h2 = gh_up h w (.inl (cJ, 4, .inr (.inl f2)))) := by
  refine gh_ofW (by decide) (Nat.le_of_ble_eq_true rfl) ?_
  intro p e s m below meth c ls hctx hno hl hG hK hX
  obtain ⟨hx, hb, hr, hml, hown, hlk, hts, hnm⟩ := hctx
  have htb : ∀ w ∈ tB, w.before _ s = true := fun w hw => hts w (List.mem_cons_of_mem _ hw)
  replace hl : lv_has ls 3 [(0, .ref a), (1, .ref b)] := hl
  refine lv_iconst (v := 0) hx hb d_So_becomeLike_0 (by decide) ?_
  refine lv_istore_n (lv' := [(2, .int 0), (0, .ref a), (1, .ref b)]) hx hb d_So_becomeLike_1 rfl hl (by decide) rfl (fun ls hl => ?_)
  refine gh_gen hG (fun H l9 hG => ?_)
  refine lp_upH (α := Nat → Int64) (G := fun ls H l9 => W p l e _ s m _ below meth c H l9 _ _ _ (F0 m 2 ls [])) 4 (fun k f1 ls H l9 => ((∀ j, j < k → f1 j = g j) ∧ ∀ j, k ≤ j → f1 j = f j) ∧ lv_has ls 3 [(0, .ref a), (1, .ref b), (2, .int (nI k))] ∧ gh_P D vC b0 (gh_up h w (.inl (cJ, 4, .inr (.inl f1)))) s.heap H l9) ?_ 0 f ls H l9 (Nat.zero_le _) ⟨⟨fun j hj => absurd hj (Nat.not_lt_zero j), fun j _ => rfl⟩, (lv_sub hl [1, 2, 0] rfl), (by rw [gh_id hw]; exact hG)⟩
  intro k f1 ls H l9 hk hI ih
  obtain ⟨hi1, hl, hG⟩ := hI
  have ha_f1 : (gh_up h w (.inl (cJ, 4, .inr (.inl f1)))) a = some (.inr (4, [.ref w])) := gh_keep hw ha (by simp)
  have hw_f1 : (gh_up h w (.inl (cJ, 4, .inr (.inl f1)))) w = some (.inl (cJ, 4, .inr (.inl f1))) := gh_self _ _ _
  have hb_f1 : (gh_up h w (.inl (cJ, 4, .inr (.inl f1)))) b = some (.inr (4, [.ref w2])) := gh_keep hw hb2 (by simp)
  have hw2_f1 : (gh_up h w (.inl (cJ, 4, .inr (.inl f1)))) w2 = some (.inl (cJ, 4, .inr (.inl g))) := (gh_ne hne).trans hw2
  refine lv_iload_n hx hb d_So_becomeLike_2 rfl (lv_at hl 2 rfl) ?_
  refine lv_iconst (v := 4) hx hb d_So_becomeLike_3 (by decide) ?_
  refine lv_icmp_ge (tgt := 25) hx hb d_So_becomeLike_4 (by decide) (fun hc4 => ?_) (fun hc4 => ?_)
  · skip
    replace hc4 : 4 ≤ k := (nc_le (a := 4) (b := k) (by omega) (by omega) rfl rfl).mp hc4
    exact gh_vret hx hb hr hlk hG d_So_becomeLike_25 ⟨rfl, f1, (fun j hj => hi1.1 j (by omega)), rfl⟩
  · skip
    replace hc4 : ¬ 4 ≤ k := fun q9 => hc4 ((nc_le (a := 4) (b := k) (by omega) (by omega) rfl rfl).mpr q9)
    refine lv_aload_n hx hb d_So_becomeLike_7 rfl (lv_at hl 0 rfl) ?_
    refine gh_get (ci := 4) hx hb htb in_So hown hK hG ha_f1 rfl 0 (by decide) (htb _ k_1_81) (fun _ h9 => h9) rfl d_So_becomeLike_8 ?_
    refine lv_iload_n hx hb d_So_becomeLike_11 rfl (lv_at hl 2 rfl) ?_
    refine lv_aload_n hx hb d_So_becomeLike_12 rfl (lv_at hl 1 rfl) ?_
    refine gh_get (ci := 4) hx hb htb in_So hown hK hG hb_f1 rfl 0 (by decide) (htb _ k_1_81) (fun _ h9 => h9) rfl d_So_becomeLike_13 ?_
    refine lv_iload_n hx hb d_So_becomeLike_16 rfl (lv_at hl 2 rfl) ?_
    refine gh_lald (v := g k) hx hb hK hG 1 hw2_f1 rfl (vp_in_nI (by omega) (by decide)) (by rw [nI_clamp (by omega)]) d_So_becomeLike_17 ?_
    refine gh_last hx hb hK hG 1 hw_f1 rfl (vp_in_nI (by omega) (by decide)) d_So_becomeLike_18 (fun H l9 hG => ?_)
    rw [nI_clamp (by omega)] at hG
    have hq1 : (gh_up (gh_up h w (.inl (cJ, 4, .inr (.inl f1)))) w (.inl (cJ, 4, .inr (.inl (vp_updL f1 k (g k)))))) w = some (.inl (cJ, 4, .inr (.inl (vp_updL f1 k (g k))))) := gh_self _ _ _
    replace hG : gh_P D vC b0 (gh_up (gh_up h w (.inl (cJ, 4, .inr (.inl f1)))) w (.inl (cJ, 4, .inr (.inl (vp_updL f1 k (g k)))))) s.heap _ _ := hG
    have ha_f1_1 : (gh_up (gh_up h w (.inl (cJ, 4, .inr (.inl f1)))) w (.inl (cJ, 4, .inr (.inl (vp_updL f1 k (g k)))))) a = some (.inr (4, [.ref w])) := gh_keep hw_f1 ha_f1 (by simp)
    have hb_f1_1 : (gh_up (gh_up h w (.inl (cJ, 4, .inr (.inl f1)))) w (.inl (cJ, 4, .inr (.inl (vp_updL f1 k (g k)))))) b = some (.inr (4, [.ref w2])) := gh_keep hw_f1 hb_f1 (by simp)
    have hw2_f1_1 : (gh_up (gh_up h w (.inl (cJ, 4, .inr (.inl f1)))) w (.inl (cJ, 4, .inr (.inl (vp_updL f1 k (g k)))))) w2 = some (.inl (cJ, 4, .inr (.inl g))) := (gh_ne hne).trans hw2_f1
    refine lv_iinc (k := 2) (v := nI (k + 1)) (lv' := [(2, .int (nI (k + 1))), (0, .ref a), (1, .ref b)]) hx hb d_So_becomeLike_19 hl rfl (nI_1 k) (by decide) rfl (fun ls hl => ?_)
    refine lv_goto (tgt := 2) hx hb d_So_becomeLike_22 (by decide) ?_
    exact ih (vp_updL f1 k (g k)) ls H l9 (by omega) ⟨⟨up_in (g := fun j => g j) hi1.1 rfl, up_out hi1.2⟩, (lv_sub hl [1, 2, 0] rfl), (by first | exact hG | (rw [gh_uu] at hG; exact hG))⟩

set_option maxHeartbeats 4000000 in
set_option maxRecDepth 100000 in
/-- becomeItsRest -/
theorem c_So_becomeItsRest {a w : Nat} {f : Nat → Int64} (ha : h a = some (.inr (4, [.ref w]))) (hw : h w = some (.inl (cJ, 4, .inr (.inl f)))) : gh_C l D vC (tZ cI cJ cP cS) (xF b0) b0 y_So_becomeItsRest w_So_becomeItsRest ({ frames := 0, cells := 0, slots := 0, locals := 0 }) [.ref a] h (fun oc h2 => oc = .returned none ∧ ∃ f2 : Nat → Int64, (∀ j, j < 4 → f2 j = f j ^^^ (-1)) ∧ h2 = gh_up h w (.inl (cJ, 4, .inr (.inl f2)))) := by
  refine gh_ofW (by decide) (Nat.le_of_ble_eq_true rfl) ?_
  intro p e s m below meth c ls hctx hno hl hG hK hX
  obtain ⟨hx, hb, hr, hml, hown, hlk, hts, hnm⟩ := hctx
  have htb : ∀ w ∈ tB, w.before _ s = true := fun w hw => hts w (List.mem_cons_of_mem _ hw)
  replace hl : lv_has ls 2 [(0, .ref a)] := hl
  refine lv_iconst (v := 0) hx hb d_So_becomeItsRest_0 (by decide) ?_
  refine lv_istore_n (lv' := [(1, .int 0), (0, .ref a)]) hx hb d_So_becomeItsRest_1 rfl hl (by decide) rfl (fun ls hl => ?_)
  refine gh_gen hG (fun H l9 hG => ?_)
  refine lp_upH (α := Nat → Int64) (G := fun ls H l9 => W p l e _ s m _ below meth c H l9 _ _ _ (F0 m 2 ls [])) 4 (fun k f1 ls H l9 => ((∀ j, j < k → f1 j = f j ^^^ (-1)) ∧ ∀ j, k ≤ j → f1 j = f j) ∧ lv_has ls 2 [(0, .ref a), (1, .int (nI k))] ∧ gh_P D vC b0 (gh_up h w (.inl (cJ, 4, .inr (.inl f1)))) s.heap H l9) ?_ 0 f ls H l9 (Nat.zero_le _) ⟨⟨fun j hj => absurd hj (Nat.not_lt_zero j), fun j _ => rfl⟩, (lv_sub hl [1, 0] rfl), (by rw [gh_id hw]; exact hG)⟩
  intro k f1 ls H l9 hk hI ih
  obtain ⟨hi1, hl, hG⟩ := hI
  have ha_f1 : (gh_up h w (.inl (cJ, 4, .inr (.inl f1)))) a = some (.inr (4, [.ref w])) := gh_keep hw ha (by simp)
  have hw_f1 : (gh_up h w (.inl (cJ, 4, .inr (.inl f1)))) w = some (.inl (cJ, 4, .inr (.inl f1))) := gh_self _ _ _
  refine lv_iload_n hx hb d_So_becomeItsRest_2 rfl (lv_at hl 1 rfl) ?_
  refine lv_iconst (v := 4) hx hb d_So_becomeItsRest_3 (by decide) ?_
  refine lv_icmp_ge (tgt := 29) hx hb d_So_becomeItsRest_4 (by decide) (fun hc4 => ?_) (fun hc4 => ?_)
  · skip
    replace hc4 : 4 ≤ k := (nc_le (a := 4) (b := k) (by omega) (by omega) rfl rfl).mp hc4
    exact gh_vret hx hb hr hlk hG d_So_becomeItsRest_29 ⟨rfl, f1, (fun j hj => hi1.1 j (by omega)), rfl⟩
  · skip
    replace hc4 : ¬ 4 ≤ k := fun q9 => hc4 ((nc_le (a := 4) (b := k) (by omega) (by omega) rfl rfl).mpr q9)
    refine lv_aload_n hx hb d_So_becomeItsRest_7 rfl (lv_at hl 0 rfl) ?_
    refine gh_get (ci := 4) hx hb htb in_So hown hK hG ha_f1 rfl 0 (by decide) (htb _ k_1_81) (fun _ h9 => h9) rfl d_So_becomeItsRest_8 ?_
    refine lv_iload_n hx hb d_So_becomeItsRest_11 rfl (lv_at hl 1 rfl) ?_
    refine lv_aload_n hx hb d_So_becomeItsRest_12 rfl (lv_at hl 0 rfl) ?_
    refine gh_get (ci := 4) hx hb htb in_So hown hK hG ha_f1 rfl 0 (by decide) (htb _ k_1_81) (fun _ h9 => h9) rfl d_So_becomeItsRest_13 ?_
    refine lv_iload_n hx hb d_So_becomeItsRest_16 rfl (lv_at hl 1 rfl) ?_
    refine gh_lald (v := f1 k) hx hb hK hG 1 hw_f1 rfl (vp_in_nI (by omega) (by decide)) (by rw [nI_clamp (by omega)]) d_So_becomeItsRest_17 ?_
    refine lv_ldc2 (v := (-1)) hx hb hown (htb _ k_2_31) d_So_becomeItsRest_18 ?_
    refine lv_lxor hx hb d_So_becomeItsRest_21 ?_
    refine gh_last hx hb hK hG 1 hw_f1 rfl (vp_in_nI (by omega) (by decide)) d_So_becomeItsRest_22 (fun H l9 hG => ?_)
    rw [nI_clamp (by omega)] at hG
    have hq1 : (gh_up (gh_up h w (.inl (cJ, 4, .inr (.inl f1)))) w (.inl (cJ, 4, .inr (.inl (vp_updL f1 k ((f1 k) ^^^ (-1))))))) w = some (.inl (cJ, 4, .inr (.inl (vp_updL f1 k ((f1 k) ^^^ (-1)))))) := gh_self _ _ _
    replace hG : gh_P D vC b0 (gh_up (gh_up h w (.inl (cJ, 4, .inr (.inl f1)))) w (.inl (cJ, 4, .inr (.inl (vp_updL f1 k ((f1 k) ^^^ (-1))))))) s.heap _ _ := hG
    have ha_f1_1 : (gh_up (gh_up h w (.inl (cJ, 4, .inr (.inl f1)))) w (.inl (cJ, 4, .inr (.inl (vp_updL f1 k ((f1 k) ^^^ (-1))))))) a = some (.inr (4, [.ref w])) := gh_keep hw_f1 ha_f1 (by simp)
    refine lv_iinc (k := 1) (v := nI (k + 1)) (lv' := [(1, .int (nI (k + 1))), (0, .ref a)]) hx hb d_So_becomeItsRest_23 hl rfl (nI_1 k) (by decide) rfl (fun ls hl => ?_)
    refine lv_goto (tgt := 2) hx hb d_So_becomeItsRest_26 (by decide) ?_
    exact ih (vp_updL f1 k ((f1 k) ^^^ (-1))) ls H l9 (by omega) ⟨⟨up_in (g := fun j => f j ^^^ (-1)) hi1.1 (by rw [hi1.2 k (Nat.le_refl k)]), up_out hi1.2⟩, (lv_sub hl [1, 0] rfl), (by first | exact hG | (rw [gh_uu] at hG; exact hG))⟩

set_option maxHeartbeats 4000000 in
set_option maxRecDepth 100000 in
/-- joined -/
theorem c_So_joined {x y : Int64} {v : Nat} (hv : v < 4) : gh_C l D vC (tZ cI cJ cP cS) (xF b0) b0 y_So_joined w_So_joined ({ frames := 0, cells := 0, slots := 0, locals := 0 }) [.long x, .long y, .int (nI v)] h (rL (m_jn v x y) h) := by
  refine gh_ofW (by decide) (Nat.le_of_ble_eq_true rfl) ?_
  intro p e s m below meth c ls hctx hno hl hG hK hX
  obtain ⟨hx, hb, hr, hml, hown, hlk, hts, hnm⟩ := hctx
  have htb : ∀ w ∈ tB, w.before _ s = true := fun w hw => hts w (List.mem_cons_of_mem _ hw)
  replace hl : lv_has ls 5 [(0, .long x), (2, .long y), (4, .int (nI v))] := hl
  refine lv_iload hx hb d_So_joined_0 (lv_at hl 2 rfl) ?_
  rcases (show v = 0 ∨ v = 1 ∨ v = 2 ∨ v = 3 by omega) with rfl | rfl | rfl | rfl
  · skip
    refine lv_tableIn (tgt := 28) (off := 26) hx hb d_So_joined_2 (by decide) (by decide) rfl (by decide) ?_
    refine lv_lload_n hx hb d_So_joined_28 rfl (lv_at hl 0 rfl) ?_
    refine lv_lload_n hx hb d_So_joined_29 rfl (lv_at hl 1 rfl) ?_
    refine lv_lor hx hb d_So_joined_30 ?_
    exact gh_lret hx hb hr hlk hG d_So_joined_31 ⟨rfl, rfl⟩
  · skip
    refine lv_tableIn (tgt := 32) (off := 30) hx hb d_So_joined_2 (by decide) (by decide) rfl (by decide) ?_
    refine lv_lload_n hx hb d_So_joined_32 rfl (lv_at hl 0 rfl) ?_
    refine lv_lload_n hx hb d_So_joined_33 rfl (lv_at hl 1 rfl) ?_
    refine lv_land hx hb d_So_joined_34 ?_
    exact gh_lret hx hb hr hlk hG d_So_joined_35 ⟨rfl, rfl⟩
  · skip
    refine lv_tableIn (tgt := 36) (off := 34) hx hb d_So_joined_2 (by decide) (by decide) rfl (by decide) ?_
    refine lv_lload_n hx hb d_So_joined_36 rfl (lv_at hl 0 rfl) ?_
    refine lv_lload_n hx hb d_So_joined_37 rfl (lv_at hl 1 rfl) ?_
    refine lv_ldc2 (v := (-1)) hx hb hown (htb _ k_2_31) d_So_joined_38 ?_
    refine lv_lxor hx hb d_So_joined_41 ?_
    refine lv_land hx hb d_So_joined_42 ?_
    exact gh_lret hx hb hr hlk hG d_So_joined_43 ⟨rfl, rfl⟩
  · skip
    refine lv_tableOut (tgt := 44) hx hb d_So_joined_2 (by decide) (by decide) ?_
    refine lv_lload_n hx hb d_So_joined_44 rfl (lv_at hl 0 rfl) ?_
    refine lv_lload_n hx hb d_So_joined_45 rfl (lv_at hl 1 rfl) ?_
    refine lv_lxor hx hb d_So_joined_46 ?_
    exact gh_lret hx hb hr hlk hG d_So_joined_47 ⟨rfl, rfl⟩

set_option maxHeartbeats 4000000 in
set_option maxRecDepth 100000 in
/-- joinWith -/
theorem c_So_joinWith {a w : Nat} {f : Nat → Int64} (ha : h a = some (.inr (4, [.ref w]))) (hw : h w = some (.inl (cJ, 4, .inr (.inl f)))) {b w2 : Nat} {g : Nat → Int64} (hb2 : h b = some (.inr (4, [.ref w2]))) (hw2 : h w2 = some (.inl (cJ, 4, .inr (.inl g)))) (hne : w2 ≠ w) {v : Nat} (hv : v < 4) : gh_C l D vC (tZ cI cJ cP cS) (xF b0) b0 y_So_joinWith w_So_joinWith ({ frames := 1, cells := 0, slots := 0, locals := 24 }) [.ref a, .ref b, .int (nI v)] h (fun oc h2 => oc = .returned none ∧ ∃ f2 : Nat → Int64, (∀ j, j < 4 → f2 j = m_jn v (f j) (g j)) ∧ h2 = gh_up h w (.inl (cJ, 4, .inr (.inl f2)))) := by
  refine gh_ofW (by decide) (Nat.le_of_ble_eq_true rfl) ?_
  intro p e s m below meth c ls hctx hno hl hG hK hX
  obtain ⟨hx, hb, hr, hml, hown, hlk, hts, hnm⟩ := hctx
  have htb : ∀ w ∈ tB, w.before _ s = true := fun w hw => hts w (List.mem_cons_of_mem _ hw)
  replace hl : lv_has ls 4 [(0, .ref a), (1, .ref b), (2, .int (nI v))] := hl
  refine lv_iconst (v := 0) hx hb d_So_joinWith_0 (by decide) ?_
  refine lv_istore_n (lv' := [(3, .int 0), (0, .ref a), (1, .ref b), (2, .int (nI v))]) hx hb d_So_joinWith_1 rfl hl (by decide) rfl (fun ls hl => ?_)
  refine gh_gen hG (fun H l9 hG => ?_)
  refine lp_upH (α := Nat → Int64) (G := fun ls H l9 => W p l e _ s m _ below meth c H l9 _ _ _ (F0 m 2 ls [])) 4 (fun k f1 ls H l9 => ((∀ j, j < k → f1 j = m_jn v (f j) (g j)) ∧ ∀ j, k ≤ j → f1 j = f j) ∧ lv_has ls 4 [(0, .ref a), (1, .ref b), (2, .int (nI v)), (3, .int (nI k))] ∧ gh_P D vC b0 (gh_up h w (.inl (cJ, 4, .inr (.inl f1)))) s.heap H l9) ?_ 0 f ls H l9 (Nat.zero_le _) ⟨⟨fun j hj => absurd hj (Nat.not_lt_zero j), fun j _ => rfl⟩, (lv_sub hl [1, 2, 3, 0] rfl), (by rw [gh_id hw]; exact hG)⟩
  intro k f1 ls H l9 hk hI ih
  obtain ⟨hi1, hl, hG⟩ := hI
  have ha_f1 : (gh_up h w (.inl (cJ, 4, .inr (.inl f1)))) a = some (.inr (4, [.ref w])) := gh_keep hw ha (by simp)
  have hw_f1 : (gh_up h w (.inl (cJ, 4, .inr (.inl f1)))) w = some (.inl (cJ, 4, .inr (.inl f1))) := gh_self _ _ _
  have hb_f1 : (gh_up h w (.inl (cJ, 4, .inr (.inl f1)))) b = some (.inr (4, [.ref w2])) := gh_keep hw hb2 (by simp)
  have hw2_f1 : (gh_up h w (.inl (cJ, 4, .inr (.inl f1)))) w2 = some (.inl (cJ, 4, .inr (.inl g))) := (gh_ne hne).trans hw2
  refine lv_iload_n hx hb d_So_joinWith_2 rfl (lv_at hl 3 rfl) ?_
  refine lv_iconst (v := 4) hx hb d_So_joinWith_3 (by decide) ?_
  refine lv_icmp_ge (tgt := 35) hx hb d_So_joinWith_4 (by decide) (fun hc4 => ?_) (fun hc4 => ?_)
  · skip
    replace hc4 : 4 ≤ k := (nc_le (a := 4) (b := k) (by omega) (by omega) rfl rfl).mp hc4
    exact gh_vret hx hb hr hlk hG d_So_joinWith_35 ⟨rfl, f1, (fun j hj => hi1.1 j (by omega)), rfl⟩
  · skip
    replace hc4 : ¬ 4 ≤ k := fun q9 => hc4 ((nc_le (a := 4) (b := k) (by omega) (by omega) rfl rfl).mpr q9)
    refine lv_aload_n hx hb d_So_joinWith_7 rfl (lv_at hl 0 rfl) ?_
    refine gh_get (ci := 4) hx hb htb in_So hown hK hG ha_f1 rfl 0 (by decide) (htb _ k_1_81) (fun _ h9 => h9) rfl d_So_joinWith_8 ?_
    refine lv_iload_n hx hb d_So_joinWith_11 rfl (lv_at hl 3 rfl) ?_
    refine lv_aload_n hx hb d_So_joinWith_12 rfl (lv_at hl 0 rfl) ?_
    refine gh_get (ci := 4) hx hb htb in_So hown hK hG ha_f1 rfl 0 (by decide) (htb _ k_1_81) (fun _ h9 => h9) rfl d_So_joinWith_13 ?_
    refine lv_iload_n hx hb d_So_joinWith_16 rfl (lv_at hl 3 rfl) ?_
    refine gh_lald (v := f1 k) hx hb hK hG 1 hw_f1 rfl (vp_in_nI (by omega) (by decide)) (by rw [nI_clamp (by omega)]) d_So_joinWith_17 ?_
    refine lv_aload_n hx hb d_So_joinWith_18 rfl (lv_at hl 1 rfl) ?_
    refine gh_get (ci := 4) hx hb htb in_So hown hK hG hb_f1 rfl 0 (by decide) (htb _ k_1_81) (fun _ h9 => h9) rfl d_So_joinWith_19 ?_
    refine lv_iload_n hx hb d_So_joinWith_22 rfl (lv_at hl 3 rfl) ?_
    refine gh_lald (v := g k) hx hb hK hG 1 hw2_f1 rfl (vp_in_nI (by omega) (by decide)) (by rw [nI_clamp (by omega)]) d_So_joinWith_23 ?_
    refine lv_iload_n hx hb d_So_joinWith_24 rfl (lv_at hl 2 rfl) ?_
    refine gh_cS (As := [.long (f1 k), .long (g k), .int (nI v)]) (rest := [.int (nI k), .ref w]) (xF_ok b0) hx hb hml hown hK hX hG (c_So_joined (by omega)) (q_So_joined htb ⟨by decide, by decide⟩) (htb _ k_2_28) (htb _ k_2_29) rfl hl.1 rfl (Nat.le_of_ble_eq_true rfl) d_So_joinWith_25 ⟨by decide, by decide⟩ (fun v9 h9 H l9 hp9 hG => ?_) (fun _ _ _ _ hp9 _ => by cases hp9.1)
    obtain ⟨hv9, hh9⟩ := hp9
    cases hv9
    rw [hh9] at hG
    refine W.eq (g2 := F0 m 28 ls [.long (m_jn v (f1 k) (g k)), .int (nI k), .ref w]) rfl ?_
    refine W.widen (k := 0) (n := 0) (by decide) (by decide) ?_
    refine gh_last hx hb hK hG 1 hw_f1 rfl (vp_in_nI (by omega) (by decide)) d_So_joinWith_28 (fun H l9 hG => ?_)
    rw [nI_clamp (by omega)] at hG
    have hq1 : (gh_up (gh_up h w (.inl (cJ, 4, .inr (.inl f1)))) w (.inl (cJ, 4, .inr (.inl (vp_updL f1 k (m_jn v (f1 k) (g k))))))) w = some (.inl (cJ, 4, .inr (.inl (vp_updL f1 k (m_jn v (f1 k) (g k)))))) := gh_self _ _ _
    replace hG : gh_P D vC b0 (gh_up (gh_up h w (.inl (cJ, 4, .inr (.inl f1)))) w (.inl (cJ, 4, .inr (.inl (vp_updL f1 k (m_jn v (f1 k) (g k))))))) s.heap _ _ := hG
    have ha_f1_1 : (gh_up (gh_up h w (.inl (cJ, 4, .inr (.inl f1)))) w (.inl (cJ, 4, .inr (.inl (vp_updL f1 k (m_jn v (f1 k) (g k))))))) a = some (.inr (4, [.ref w])) := gh_keep hw_f1 ha_f1 (by simp)
    have hb_f1_1 : (gh_up (gh_up h w (.inl (cJ, 4, .inr (.inl f1)))) w (.inl (cJ, 4, .inr (.inl (vp_updL f1 k (m_jn v (f1 k) (g k))))))) b = some (.inr (4, [.ref w2])) := gh_keep hw_f1 hb_f1 (by simp)
    have hw2_f1_1 : (gh_up (gh_up h w (.inl (cJ, 4, .inr (.inl f1)))) w (.inl (cJ, 4, .inr (.inl (vp_updL f1 k (m_jn v (f1 k) (g k))))))) w2 = some (.inl (cJ, 4, .inr (.inl g))) := (gh_ne hne).trans hw2_f1
    refine lv_iinc (k := 3) (v := nI (k + 1)) (lv' := [(3, .int (nI (k + 1))), (0, .ref a), (1, .ref b), (2, .int (nI v))]) hx hb d_So_joinWith_29 hl rfl (nI_1 k) (by decide) rfl (fun ls hl => ?_)
    refine lv_goto (tgt := 2) hx hb d_So_joinWith_32 (by decide) ?_
    exact ih (vp_updL f1 k (m_jn v (f1 k) (g k))) ls H l9 (by omega) ⟨⟨up_in (g := fun j => m_jn v (f j) (g j)) hi1.1 (by rw [hi1.2 k (Nat.le_refl k)]), up_out hi1.2⟩, (lv_sub hl [1, 2, 3, 0] rfl), (by first | exact hG | (rw [gh_uu] at hG; exact hG))⟩

end
end
section
/-! An exception with a message is made: the call of its constructor, traces being off. -/
section XC
variable {p : Program} {l : Launch} {e : Env} {R : Room} {s : State} {m : MethodId} {args : Array Value} {below : List Frame} {meth : Method} {c : Code} {H : Heap} {locs : List Loc} {cells slots : Nat} {Q : State → Prop}
/-- traces are off on this launch -/
def xc_off (l : Launch) : Prop := ∀ e : Env, l.admits e → e.platform.stackTraces = false
/-- the words of an exception's making, its constructors' chain apart -/
def xcA (own : String) (ic : Nat) (X : String) : List Cond :=
  Bundle.throwableAtoms ++ Bundle.throwableSAtoms ++
  [.methodLink own ic (Bundle.initS X), .instantiable X 6, .castable X X, .selects X Bundle.tFill0 Bundle.tFill0, .selects X Bundle.tFill Bundle.tFill,
   .lays X Bundle.tN "cause" "Ljava/lang/Throwable;", .lays X Bundle.tN "stackTrace" Bundle.steD, .lays X Bundle.tN "suppressedExceptions" Bundle.listD, .lays X Bundle.tN "detailMessage" "Ljava/lang/String;",
   .isRef (.static Bundle.tN "UNASSIGNED_STACK" Bundle.steD), .isRef (.static Bundle.tN "SUPPRESSED_SENTINEL" Bundle.listD),
   .fieldLink Bundle.tN 198 Bundle.tN "backtrace" "Ljava/lang/Object;", .lays Bundle.tN Bundle.tN "backtrace" "Ljava/lang/Object;", .lays X Bundle.tN "backtrace" "Ljava/lang/Object;"]
/-- the chain: the first constructor by its own bytes, the rest as the library has it -/
theorem xc_chain {pl : Platform} (hpl : pl.magicAccessors = ({} : Platform).magicAccessors) {top : MethodId} (htop : s.methodNamed? (Bundle.initS Bundle.tN) = some top) {X Y : String} {r : List String} {index : Nat} {bytes : ByteArray} (hX : Bundle.fit X = true) (hY : Bundle.fit Y = true) (hr : ∀ n ∈ r, Bundle.fit n = true)
    (h0 : decode bytes 0 = .ok (.aload_n 0, 1)) (h1 : decode bytes 1 = .ok (.aload_n 1, 1)) (h2 : decode bytes 2 = .ok (.invokespecial index, 3)) (h5 : decode bytes 5 = .ok (.return_, 1))
    (ha : ∀ c ∈ Bundle.passSAtoms X Y index bytes, c.before args s = true) (hb : ∀ c ∈ Bundle.chainSAtoms Y r, c.before args s = true) :
    ∃ (P1 : PassC) (Ps : List PassC), Ps.length = r.length + 1 ∧ P1.LinksS pl s ∧ (∀ P, P ∈ Ps → P.LinksS pl s) ∧ s.methodNamed? (Bundle.initS X) = some P1.m ∧ P1.sup = firstOf top (Ps.map (·.toPassT)) ∧ PassesOn top (Ps.map (·.toPassT)) := by
  obtain ⟨P, L, hm, hs⟩ := PassC.ofS_atoms (args := args) (s := s) hpl (X := X) (Y := Y) (Bundle.fit_spec hX).1 (Bundle.fit_spec hY).2 h0 h1 h2 h5 ha
  obtain ⟨P', Ps, hlen, L', hL, hm', hsup, hpass⟩ := Bundle.chainS (args := args) hpl htop r Y hY hr hb
  refine ⟨P, P' :: Ps, by simp [hlen], L, ?_, hm, Option.some.inj (hs.symm.trans hm'), hsup, hpass⟩
  intro Q hQ
  rcases List.mem_cons.mp hQ with rfl | hQ
  · exact L'
  · exact hL Q hQ
set_option maxHeartbeats 4000000 in
theorem xc_init {cc : ByteArray} (hexec : p.tables.exec = Jvm.exec) (hb : c.code = cc) (htr : xc_off l) {own cls sup : String} {names : List String} {ic index : Nat} {bytes : ByteArray}
    (hown : s.vm.findClass own = some m.cls) (hcls : Jvm.Bundle.fit cls = true) (hsup : Jvm.Bundle.fit sup = true) (hnames : ∀ n ∈ names, Jvm.Bundle.fit n = true)
    (b0 : decode bytes 0 = .ok (.aload_n 0, 1)) (b1 : decode bytes 1 = .ok (.aload_n 1, 1)) (b2 : decode bytes 2 = .ok (.invokespecial index, 3)) (b5 : decode bytes 5 = .ok (.return_, 1))
    (h : ∀ a ∈ xcA own ic cls, a.before args s = true) (hpa : ∀ a ∈ Bundle.passSAtoms cls sup index bytes, a.before args s = true) (hch : ∀ a ∈ Bundle.chainSAtoms sup names, a.before args s = true)
    {A : Nat → Prop} (hlocs : ∀ x ∈ locs, A x.base) (hL0 : vx_L Bundle.tN "UNASSIGNED_STACK" Bundle.steD A s s.heap)
    {a : Addr} {cX : ClassId} {kX : Class} (hfoundX : s.vm.findClass cls = some cX) (hkX : s.vm.classes[cX]? = some kX) (hcell : H[a]? = some (freshCell cX kX)) (hnew : s.heap.size ≤ a)
    {msg : Value} (hmsg : msg.isRef = true) {pc : Nat} {ls : Array Slot} {rest : List Value} (hsize : ls.size = c.maxLocals)
    (hd6 : decode cc pc = .ok (.invokespecial ic, 3))
    (hRframes : names.length + 4 < R.frames) (hRlocals : (rest.map fun v => v.category).sum + (13 * (names.length + 2) + 42) ≤ R.locals)
    (kk : ∀ (H1 : Heap) (ce : Cell), H1[a]? = some ce → ce.cls = cX → ce.vm = .none → H1.size = H.size → (∀ q : Nat, q ≠ a → H1[q]? = H[q]?) → W p l e R s m args below meth c H1 locs cells slots Q (F0 m (pc + 3) ls rest)) :
    W p l e R s m args below meth c H locs cells slots Q (F0 m pc ls (msg :: .ref a :: rest)) := by
  intro V hV X
  subst hV
  subst hb
  have htr := htr e X.admits
  have howns : e.platform.frameOwnsMonitors = true := by rw [X.admits.platform]
  have hfin : e.platform.finalization = false := by rw [X.admits.platform]
  have hpl : e.platform.magicAccessors = ({} : Platform).magicAccessors := by rw [X.admits.platform]
  have a' : ∀ x, x ∈ xcA own ic cls → x.holds args s none s [] = true := fun x hx => h x hx
  obtain ⟨T, Z0, L, -, Y⟩ := ThrowableC.of_atoms (args := args) howns hfin hpl (fun x hx => h x (by simp [xcA, hx]))
  obtain ⟨Z, M, LZ, LM, hnZ⟩ := Init0T.ofS_atoms (args := args) hpl L Y (fun x hx => h x (by simp [xcA, hx]))
  obtain ⟨P1, Ps, hlen, L1, hL, hP1m, hlink1, hlink⟩ := xc_chain (args := args) hpl hnZ hcls hsup hnames b0 b1 b2 b5 hpa hch
  have hfound : s.vm.findClass cls = some P1.m.cls := findClass_of_methodNamed hP1m
  cases Option.some.inj (hfoundX.symm.trans hfound)
  obtain ⟨c1, kX', hc1, hk, hord, -, -, hn6⟩ := Cond.instantiable_spec (a' (.instantiable cls 6) (by simp [xcA]))
  cases Option.some.inj (hc1.symm.trans hfound)
  cases Option.some.inj (hkX.symm.trans hk)
  have hsel : ∀ (f : MethodName) (fm : MethodId), (Cond.selects cls f f) ∈ xcA own ic cls → s.methodNamed? f = some fm → (f.cls ≠ "java/lang/invoke/MethodHandle" ∧ f.cls ≠ "java/lang/invoke/VarHandle") → selectMethod e.platform s.vm P1.m.cls fm = .method fm := by
    intro f fm hf hn hne
    obtain ⟨c2, r2, m2, q1, q2, q3, q4, -⟩ := Cond.selects_spec (a' _ hf)
    cases Option.some.inj (q1.symm.trans hfound)
    cases Option.some.inj (q2.symm.trans (State.methodFound?_of_named hn hne))
    cases Option.some.inj (q3.symm.trans hn)
    rw [Launch.admits_selectMethod X.admits]; exact q4
  have hsel0 := hsel Jvm.Bundle.tFill0 T.fill0 (by simp [xcA]) Y.fill0 (by decide)
  have hselF := hsel Jvm.Bundle.tFill T.fill (by simp [xcA]) Y.fill (by decide)
  obtain ⟨cellS0, hcS0, hiss⟩ := Y.statics
  obtain ⟨u0, hu0⟩ := Cond.staticRefV Y.unassigned L.unassignedStatic L.statics hcS0 hiss (a' (.isRef (.static Jvm.Bundle.tN "UNASSIGNED_STACK" Jvm.Bundle.steD)) (by simp [xcA]))
  obtain ⟨sen, hsen⟩ := Cond.staticRefV Y.sentinel L.sentinelStatic L.statics hcS0 hiss (a' (.isRef (.static Jvm.Bundle.tN "SUPPRESSED_SENTINEL" Jvm.Bundle.listD)) (by simp [xcA]))
  obtain ⟨ci198, i198, fB, hk198, hg198, ha198, hsB, -, hnB, htB, hffB⟩ := Cond.ownField (t := .object "java/lang/Object") Y.found L.cls (by decide +kernel) (a' (.fieldLink Jvm.Bundle.tN 198 Jvm.Bundle.tN "backtrace" "Ljava/lang/Object;") (by simp [xcA])) (a' (.lays Jvm.Bundle.tN Jvm.Bundle.tN "backtrace" "Ljava/lang/Object;") (by simp [xcA])) e.platform hpl
  obtain ⟨cellS, hcS', heS, -, hkeep⟩ := X.same.2.2.2.2.2 T.aS cellS0 hcS0
  have hcellS : V.heap[T.aS]? = some cellS := hcS'
  have hout' : ∀ i, (⟨T.aS, i⟩ : Loc) ∉ locs := fun i hmem => by
    obtain ⟨c9, k9, i9, f9, a9, cell9, g1, g2, g3, g4, -, -, -, -, -, g10⟩ := hL0
    have e9 := g2.symm.trans Y.unassigned
    simp only [Option.some.injEq, Prod.mk.injEq] at e9
    have e8 : some a9 = some T.aS := by rw [← g4, e9.2.1]; exact L.statics
    cases e8
    exact g10 (hlocs _ hmem)
  have hknownS : cellS.vm ≠ .unknown := by
    rw [heS]; intro hu
    rw [show cellS0.vm = .unknown from hu] at hiss
    cases hiss
  have hneS : T.aS ≠ a := Nat.ne_of_lt (Nat.lt_of_lt_of_le (Array.getElem?_eq_some_iff.mp hcS0).1 hnew)
  obtain ⟨iM, hffM⟩ := Y.msg
  obtain ⟨tyC, dC, hdC, hdnC⟩ := Cond.laysAt hfound hk Y.cause (a' (.lays cls Jvm.Bundle.tN "cause" "Ljava/lang/Throwable;") (by simp [xcA]))
  obtain ⟨tyS, dS, hdS, hdnS⟩ := Cond.laysAt hfound hk Y.stack (a' (.lays cls Jvm.Bundle.tN "stackTrace" Jvm.Bundle.steD) (by simp [xcA]))
  obtain ⟨tyP, dP, hdP, hdnP⟩ := Cond.laysAt hfound hk Y.supp (a' (.lays cls Jvm.Bundle.tN "suppressedExceptions" Jvm.Bundle.listD) (by simp [xcA]))
  obtain ⟨tyM, dM, hdM, hdnM⟩ := Cond.laysAt hfound hk hffM (a' (.lays cls Jvm.Bundle.tN "detailMessage" "Ljava/lang/String;") (by simp [xcA]))
  obtain ⟨tyB, dB, hdB, hdnB⟩ := Cond.laysAt hfound hk hffB (a' (.lays cls Jvm.Bundle.tN "backtrace" "Ljava/lang/Object;") (by simp [xcA]))
  have bC := Cond.laysApart hdB hdC hdnB hdnC (by rw [hnB, Y.causeName]; decide)
  have bS := Cond.laysApart hdB hdS hdnB hdnS (by rw [hnB, Y.stackName]; decide)
  have bP := Cond.laysApart hdB hdP hdnB hdnP (by rw [hnB, Y.suppName]; decide)
  have hskip : SkipFacts T e.platform s (fun u => u) u0 ((preparedCellV T.toThrowableT (freshCell P1.m.cls kX) a u0 sen).withEntry V.cur) :=
    ⟨{ ci198 := ci198, i198 := i198, fBack := fB }, ⟨hk198, hg198, ha198, hsB⟩, by
      have := fresh_default (c := P1.m.cls) tyB
      rw [htB] at this
      simpa [preparedCellV, Cell.setSlot, Cell.withEntry, Array.getElem?_setIfInBounds, bC, bS, bP, bC.symm, bS.symm, bP.symm, defaultValue] using this, fun _ _ => rfl⟩
  obtain ⟨tm, methC, cdC, kC, vm₁, hnC, -, -, -, -, -, -, -, hW₁, st1⟩ := Steps.initColdS (tb := p.tables) (e := e) (below := below) (s := s) (U := V) X.here hexec X.warmed hpl hown (t := Jvm.Bundle.initS cls) rfl rfl (Jvm.Bundle.fit_spec hcls).2
    (a' (.methodLink own ic (Jvm.Bundle.initS cls)) (by simp [xcA])) (hpa (.instanceMethod (Jvm.Bundle.initS cls)) (by simp [Bundle.passSAtoms])) (bytes := bytes) (maxL := 2) (hpa (.code (Jvm.Bundle.initS cls) bytes 2 none) (by simp [Bundle.passSAtoms]))
    (f := F0 m pc ls (msg :: .ref a :: rest)) rfl (a := a) (msg := msg) (rest := rest) rfl hd6
  cases Option.some.inj (hnC.symm.trans hP1m)
  have X₁ := X.noted hW₁
  obtain ⟨vm₂, X₂, st2⟩ := X₁.ctorMessageOffV hexec (g := F0 m pc ls rest) rfl hsize T L Z LZ M LM (P1 :: Ps)
    (fun P hP => by rcases List.mem_cons.mp hP with rfl | hP; exact L1; exact hL P hP) ⟨hlink1, hlink⟩ (u0 := u0) (sen := sen) (self := a) hmsg (cell := freshCell P1.m.cls kX) (cellS := cellS)
    hcell (fun _ => by simp) (by simp) rfl rfl hsel0 hselF hcellS hneS hknownS (by rw [hkeep _ (hout' _)]; exact hu0) (by rw [hkeep _ (hout' _)]; exact hsen)
    (Takes.of_laid hk hord tyC (by rw [Y.causeType]; rfl)) (Takes.of_laid hk hord tyS (by rw [Y.stackType]; exact fits_refV_array _ u0)) (Takes.of_laid hk hord tyP (by rw [Y.suppType]; exact fits_refV_object _ sen))
    (Takes.of_laid hk hord tyM (by rw [Y.msgType]; exact fits_refV_object _ ⟨msg, hmsg⟩)) Y.objLocals hskip htr [] hd6
    (by simp only [List.length_cons, hlen]; omega) (by simp only [List.length_cons, hlen]; show 2 * 0 + _ + _ ≤ _; omega)
  have hlt : a < ((V.setVm vm₁).setVm vm₂).heap.size := (Array.getElem?_eq_some_iff.mp hcell).1
  have hU := heapAt_setCell_self (s := (V.setVm vm₁).setVm vm₂) (plainBareV T.toThrowableT (freshCell P1.m.cls kX) a u0 sen msg) hlt
  have X₃ := X₂.forget (fun y hy => by
    simp only [List.mem_cons, List.not_mem_nil, or_false] at hy
    rcases hy with rfl | rfl | rfl | rfl | rfl <;> exact hnew)
  obtain ⟨t, q1, q2⟩ := kk _ _ hU rfl rfl (size_setCell _ _ _) (fun q hq => heapAt_setCell_ne _ (Ne.symm hq)) _ rfl X₃
  refine ⟨t, st1 _ (fun acts => ?_), q2⟩
  rw [doInvoke_state]
  exact st2 _ q1
/-- the words of the exceptions that stay good by themselves -/
def xB : List Cond := xE.map (fun E => Cond.castable E E) ++ xD.map Cond.declares
theorem xB_ok {b0 : Nat} (hX : xF b0 s) : ∀ w ∈ xB, w.before args s = true := by
  intro w hw
  rcases List.mem_append.mp hw with h | h
  · obtain ⟨E, hE, rfl⟩ := List.mem_map.mp h
    exact va_Nw.use rfl (hX.2.2.2.1 E hE)
  · obtain ⟨y, hy, rfl⟩ := List.mem_map.mp h
    exact va_Nw.use rfl (hX.2.2.2.2.2.1 y hy)
abbrev xN : List String := ["java/lang/Exception"]
abbrev xR : String := "java/lang/RuntimeException"
/-- the words of a throw of X, but those that speak of the heap -/
def xcB (own : String) (ic : Nat) (X : String) (index : Nat) (bytes : ByteArray) : List Cond := (xcA own ic X ++ (Bundle.passSAtoms X xR index bytes ++ Bundle.chainSAtoms xR xN)).filter vx_no
set_option maxRecDepth 100000 in
theorem at_IA : ∀ w ∈ xcB R_X 38 R_IA 7 Bundle.six, w ∈ tB ∨ w ∈ xB := by decide +kernel
set_option maxRecDepth 100000 in
theorem at_IS : ∀ w ∈ xcB R_X 59 R_IS 7 Bundle.six, w ∈ tB ∨ w ∈ xB := by decide +kernel
set_option maxRecDepth 100000 in
theorem at_IO : ∀ w ∈ xcB R_X 96 R_IO 7 Bundle.six, w ∈ tB ∨ w ∈ xB := by decide +kernel
set_option maxRecDepth 100000 in
theorem at_NS : ∀ w ∈ xcB R_X 127 R_NS 13 prog_16_method_4_code, w ∈ tB ∨ w ∈ xB := by decide +kernel
set_option maxHeartbeats 4000000 in
/-- throw new E("text") in a method of the class -/
theorem gh_thr {D : va_G} {tys : List (ClassId × FieldType)} {b0 : Nat} {h : gh_M} {cc : ByteArray} {pc nL ci ik is ic : Nat} {ls : Array Slot} {rest : List Value} {post : Outcome → gh_M → Prop} {E text : String} (hx : p.tables.exec = Jvm.exec) (hb : c.code = cc) (htr : xc_off l) (hlk : meth.locks = false) (hno : ∀ x ∈ c.exceptionTable.toList, ∀ pc, covers x pc = false) (hml : c.maxLocals = nL) (hsize : ls.size = nL) (hown : s.vm.findClass R_X = some m.cls)
    (htb : ∀ w ∈ tB, w.before args s = true) (hK : va_K D vC tys s) (hX : xF b0 s) (hG : gh_P D vC b0 h s.heap H locs) (hci : vC[ci]? = some (E, T_0, 0)) (hfit : Bundle.fit E = true) (hk : Cond.classLink R_X ik E ∈ tB) (hini : Cond.initialized E ∈ tB) (hins : Cond.instantiable E 6 ∈ tB) (hstr : (is, text) ∈ xS) {index : Nat} {bytes : ByteArray} (b0' : decode bytes 0 = .ok (.aload_n 0, 1)) (b1' : decode bytes 1 = .ok (.aload_n 1, 1)) (b2' : decode bytes 2 = .ok (.invokespecial index, 3)) (b5' : decode bytes 5 = .ok (.return_, 1)) (hat : ∀ w ∈ xcB R_X ic E index bytes, w ∈ tB ∨ w ∈ xB)
    (d0 : decode cc pc = .ok (.new ik, 3)) (d3 : decode cc (pc + 3) = .ok (.dup, 1)) (d4 : decode cc (pc + 4) = .ok (.ldc is, 2)) (d6 : decode cc (pc + 6) = .ok (.invokespecial ic, 3)) (d9 : decode cc (pc + 9) = .ok (.athrow, 1))
    (hRframes : 5 < R.frames) (hRlocals : (rest.map fun v => v.category).sum + 82 ≤ R.locals) (hRcells : cells + 1 ≤ R.cells) (hRslots : slots + 6 ≤ R.slots)
    (hp : ∀ q : Nat, h q = none → post (.threw q) (gh_up h q (.inr (ci, [])))) :
    W p l e R s m args below meth c H locs cells slots (gx_MQ below (gh_Qc D vC b0 post) args s (cells + 1) (slots + 6) (fun q => b0 ≤ q)) (F0 m pc ls rest) := by
  have hown' : ∀ w ∈ xcA R_X ic E ++ (Bundle.passSAtoms E xR index bytes ++ Bundle.chainSAtoms xR xN), w.before args s = true := vx_own (fun w hw => (hat w hw).elim (htb w) (xB_ok hX w)) (vx_isRefq hX.2.2.2.2.2.2.1.1.1) (vx_isRefq hX.2.2.2.2.2.2.1.2.1) hX.2.2.2.2.2.2.1.1.2.word hX.2.2.2.2.2.2.1.2.2.word
  have hKn := hK.1 ci _ hci
  have hcl : s.vm.findClass E = some (D.1 ci) := hKn.2.1
  refine W.newcK hx hb hown (htb _ hk) (htb _ hins) (htb _ hini) rfl d0 hRcells hRslots hcl rfl fun H1 kC hkC e1 z1 o1 => ?_
  refine W.eq (g2 := F0 m (pc + 3) ls (.ref H.size :: rest)) rfl ?_
  refine lv_dup hx hb d3 rfl ?_
  obtain ⟨sa, hsa⟩ := hX.2.2.2.2.2.2.2 (is, text) hstr
  refine va_ldcS hx hb hown hsa d4 ?_
  obtain ⟨ws, hL, hP, hD, hS, hb0⟩ := hG
  refine xc_init (names := xN) (sup := xR) (A := fun q => b0 ≤ q) hx hb htr hown hfit (by decide +kernel) (by decide +kernel) b0' b1' b2' b5' (fun w hw => hown' w (List.mem_append_left _ hw)) (fun w hw => hown' w (List.mem_append_right _ (List.mem_append_left _ hw))) (fun w hw => hown' w (List.mem_append_right _ (List.mem_append_right _ hw))) hS.2.2 hX.2.2.2.2.2.2.1.1.2 hcl hkC (a := H.size) e1 hS.1 rfl (hsize.trans hml.symm) d6 (by simpa using hRframes) (by simp only [List.map_cons, List.sum_cons]; show 1 + _ + (13 * 3 + 42) ≤ _; omega) fun H2 ce f1 f2 f3 f4 f5 => ?_
  have hfr : h H.size = none := by
    cases hh : h H.size with
    | none => rfl
    | some x =>
      obtain ⟨j, hj⟩ := (hL _ _).mp hh
      exact absurd (hP j _ hj).lt (Nat.lt_irrefl _)
  have hD2 : va_D (fun q => b0 ≤ q) (ws ++ [(H.size, .inr (ci, []))]) := hD.push hP rfl (Nat.le_trans hb0 hS.1)
  have hk2 : ∀ (k : Nat) (x : Nat × va_E), ws[k]? = some x → H2[x.1]? = H[x.1]? := fun k x hx9 => by
    have hlt := (hP k x hx9).lt
    rw [f5 x.1 (Nat.ne_of_lt hlt)]
    exact o1 x.1 hlt
  have hP2 : va_P D vC (ws ++ [(H.size, .inr (ci, []))]) H2 := (hP.kept hk2).app (fun k x hx9 => by
    have hz : k < 1 := (List.getElem?_eq_some_iff.mp hx9).1
    rw [show k = 0 by omega] at hx9
    cases hx9
    exact ⟨_, hci, ce, f1, f2, f3, fun j hj => absurd hj (Nat.not_lt_zero j)⟩)
  have hS2 : va_S (fun q => b0 ≤ q) s.heap H2 locs := ⟨by rw [f4, z1]; exact Nat.le_trans hS.1 (Nat.le_succ _), fun x h1 h2 => by
    rw [f5 x (by have := hS.1; omega), o1 x (Nat.lt_of_lt_of_le h1 hS.1)]
    exact hS.2.1 x h1 h2, hS.2.2⟩
  exact gh_tret hx hb hlk (fun x hx9 => hno x hx9 _) ⟨_, hL.push hD2, hP2, hD2, hS2, hb0⟩ d9 (hp H.size hfr)
end XC
end
section
/-- outcomes that may be a throw -/
def rT (ci : Nat) (h : gh_M) : Outcome → gh_M → Prop := fun oc h2 => ∃ q, oc = .threw q ∧ h q = none ∧ h2 = gh_up h q (.inr (ci, []))
def rB (b : Bool) (P Q : Outcome → gh_M → Prop) : Outcome → gh_M → Prop := fun oc h2 => if b = true then P oc h2 else Q oc h2
theorem rB_1 {b : Bool} {P Q : Outcome → gh_M → Prop} {oc : Outcome} {h2 : gh_M} (hb : b = true) (h : P oc h2) : rB b P Q oc h2 := by unfold rB; rw [if_pos hb]; exact h
theorem rB_0 {b : Bool} {P Q : Outcome → gh_M → Prop} {oc : Outcome} {h2 : gh_M} (hb : b = false) (h : Q oc h2) : rB b P Q oc h2 := by unfold rB; rw [if_neg (by rw [hb]; decide)]; exact h
theorem rB_c {b : Bool} {P Q : Outcome → gh_M → Prop} {oc : Outcome} {h2 : gh_M} (h : rB b P Q oc h2) : (b = true ∧ P oc h2) ∨ (b = false ∧ Q oc h2) := by
  unfold rB at h
  cases b
  · exact Or.inr ⟨rfl, by simpa using h⟩
  · exact Or.inl ⟨rfl, by simpa using h⟩
theorem rB_r {b : Bool} {ci : Nat} {h h2 : gh_M} {Q : Outcome → gh_M → Prop} {v : Option Value} (hp : rB b (rT ci h) Q (.returned v) h2) : b = false ∧ Q (.returned v) h2 := by
  rcases rB_c hp with ⟨-, q, hq, -⟩ | hr
  · cases hq
  · exact hr
theorem rB_v {b : Bool} {ci : Nat} {h h2 : gh_M} {q : Addr} (hp : rB b (rT ci h) (rV h) (.threw q) h2) : b = true ∧ rT ci h (.threw q) h2 := by
  rcases rB_c hp with hr | ⟨-, hq, -⟩
  · exact hr
  · cases hq
section
variable {p : Program} {l : Launch} {e : Env} {R : Room} {s : State} {m : MethodId} {args : Array Value} {below : List Frame} {meth : Method} {c : Code} {H : Heap} {locs : List Loc} {cells slots : Nat} {Q : State → Prop}
theorem gx_widenT {g : JFrame} {q : Addr} {k n : Nat} (h1 : cells ≤ k) (h2 : slots ≤ n) (kk : gx_WT p l e R s m args below meth c H locs k n Q g q) : gx_WT p l e R s m args below meth c H locs cells slots Q g q := fun T hT X => kk T hT (stand_widen X h1 h2)
end
def m_bey (v most : Int32) : Bool := decide (v < -most) || decide (most < v)
def m_badP (a b c d : Int32) : Bool := (decide (a = 0) && (decide (b = 0) && decide (c = 0))) || (m_bey a 1000000 || (m_bey b 1000000 || (m_bey c 1000000 || m_bey d 1000000000)))
def m_badQ (x y z w : Int32) : Bool := decide (w < 1) || (decide (1000 < w) || (m_bey x 1000000 || (m_bey y 1000000 || m_bey z 1000000)))
def m_badV (set : Int32) (g : Nat) : Bool := decide (set < 0) || !decide (set >>> (nI g &&& 31) = 0)
def m_badJ (how : Int32) : Bool := decide (how < 0) || !decide (how < 4)
def m_badC (k : Int32) (ht : Nat) : Bool := decide (k < 0) || !decide (k < nI ht)
def m_top (f : Nat → Int64) (ce : Nat) : Bool := decide (nI ce &&& 63 = 63) && m_has f (ce / 64)

section
variable {l : Launch} {D : va_G} {cI cJ cP cS : ClassId} {b0 : Nat} {h : gh_M}

set_option maxHeartbeats 4000000 in
set_option maxRecDepth 100000 in
/-- isBeyond -/
theorem c_X_isBeyond {v w : Int32} : gh_C l D vC (tZ cI cJ cP cS) (xF b0) b0 y_X_isBeyond w_X_isBeyond ({ frames := 0, cells := 0, slots := 0, locals := 0 }) [.int v, .int w] h (rI (m_b (m_bey v w)) h) := by
  refine gh_ofW (by decide) (Nat.le_of_ble_eq_true rfl) ?_
  intro p e s m below meth c ls hctx hno hl hG hK hX
  obtain ⟨hx, hb, hr, hml, hown, hlk, hts, hnm⟩ := hctx
  have htb : ∀ w ∈ tB, w.before _ s = true := fun w hw => hts w (List.mem_cons_of_mem _ hw)
  replace hl : lv_has ls 2 [(0, .int v), (1, .int w)] := hl
  refine lv_iload_n hx hb d_X_isBeyond_0 rfl (lv_at hl 0 rfl) ?_
  refine lv_iload_n hx hb d_X_isBeyond_1 rfl (lv_at hl 1 rfl) ?_
  refine lv_ineg hx hb d_X_isBeyond_2 ?_
  refine lv_icmp_lt (tgt := 11) hx hb d_X_isBeyond_3 (by decide) (fun hc3 => ?_) (fun hc3 => ?_)
  · skip
    refine lv_iconst (v := 1) hx hb d_X_isBeyond_11 (by decide) ?_
    refine lv_goto (tgt := 16) hx hb d_X_isBeyond_12 (by decide) ?_
    exact gh_iret hx hb hr hlk rfl hG d_X_isBeyond_16 ⟨by simp [m_bey, m_b, hc3], rfl⟩
  · skip
    refine lv_iload_n hx hb d_X_isBeyond_6 rfl (lv_at hl 0 rfl) ?_
    refine lv_iload_n hx hb d_X_isBeyond_7 rfl (lv_at hl 1 rfl) ?_
    refine lv_icmp_le (tgt := 15) hx hb d_X_isBeyond_8 (by decide) (fun hc8 => ?_) (fun hc8 => ?_)
    · skip
      refine lv_iconst (v := 0) hx hb d_X_isBeyond_15 (by decide) ?_
      exact gh_iret hx hb hr hlk rfl hG d_X_isBeyond_16 ⟨by simp [m_bey, m_b, hc3, hc8], rfl⟩
    · skip
      refine lv_iconst (v := 1) hx hb d_X_isBeyond_11 (by decide) ?_
      refine lv_goto (tgt := 16) hx hb d_X_isBeyond_12 (by decide) ?_
      exact gh_iret hx hb hr hlk rfl hG d_X_isBeyond_16 ⟨by simp [m_bey, m_b, hc3, hc8], rfl⟩

set_option maxHeartbeats 4000000 in
set_option maxRecDepth 100000 in
/-- requireRoom -/
theorem c_X_requireRoom {x : Nat} {f0 f1 f2 : Value} {ht : Nat} (hxx : h x = some (.inr (0, [f0, f1, f2, .int (nI ht)]))) (hht : ht ≤ 6) (htr : xc_off l) : gh_C l D vC (tZ cI cJ cP cS) (xF b0) b0 y_X_requireRoom w_X_requireRoom ({ frames := 6, cells := 1, slots := 6, locals := 90 }) [.ref x] h (rB (decide (6 ≤ ht)) (rT 7 h) (rV h)) := by
  refine gh_ofW (by decide) (Nat.le_of_ble_eq_true rfl) ?_
  intro p e s m below meth c ls hctx hno hl hG hK hX
  obtain ⟨hx, hb, hr, hml, hown, hlk, hts, hnm⟩ := hctx
  have htb : ∀ w ∈ tB, w.before _ s = true := fun w hw => hts w (List.mem_cons_of_mem _ hw)
  replace hl : lv_has ls 1 [(0, .ref x)] := hl
  refine lv_aload_n hx hb d_X_requireRoom_0 rfl (lv_at hl 0 rfl) ?_
  refine gh_get (ci := 0) hx hb htb in_X hown hK hG hxx rfl 3 (by decide) (htb _ k_1_112) (fun _ h9 => h9) rfl d_X_requireRoom_1 ?_
  refine lv_bipush (v := 6) hx hb d_X_requireRoom_4 (by decide) ?_
  refine lv_icmp_lt (tgt := 19) hx hb d_X_requireRoom_6 (by decide) (fun hc6 => ?_) (fun hc6 => ?_)
  · skip
    replace hc6 : ht < 6 := (nc_lt (a := ht) (b := 6) (by omega) (by omega) rfl rfl).mp hc6
    refine W.widen (k := 1) (n := 6) (by decide) (by decide) ?_
    exact gh_vret hx hb hr hlk hG d_X_requireRoom_19 (rB_0 (decide_eq_false (by omega)) ⟨rfl, rfl⟩)
  · skip
    replace hc6 : ¬ ht < 6 := fun q9 => hc6 ((nc_lt (a := ht) (b := 6) (by omega) (by omega) rfl rfl).mpr q9)
    refine W.widen (k := 0) (n := 0) (by decide) (by decide) ?_
    exact gh_thr (bytes := Bundle.six) (index := 7) (is := 189) (E := R_IS) (ci := 7) hx hb htr hlk hno hml hl.1 hown htb hK hX hG rfl (by decide +kernel) k_1_219 k_1_11 k_1_220 (List.mem_of_getElem? (i := 5) rfl) (by decide +kernel) (by decide +kernel) (by decide +kernel) (by decide +kernel) at_IS d_X_requireRoom_9 d_X_requireRoom_12 d_X_requireRoom_13 d_X_requireRoom_15 d_X_requireRoom_18 (by decide) (by decide) (by decide) (by decide) (fun q9 hq9 => rB_1 (decide_eq_true (by omega)) ⟨q9, rfl, hq9, rfl⟩)

set_option maxHeartbeats 4000000 in
set_option maxRecDepth 100000 in
/-- requireSolid -/
theorem c_X_requireSolid {x : Nat} {f0 f1 f2 : Value} {ht : Nat} (hxx : h x = some (.inr (0, [f0, f1, f2, .int (nI ht)]))) (hht : ht ≤ 6) (htr : xc_off l) : gh_C l D vC (tZ cI cJ cP cS) (xF b0) b0 y_X_requireSolid w_X_requireSolid ({ frames := 6, cells := 1, slots := 6, locals := 90 }) [.ref x] h (rB (decide (ht = 0)) (rT 7 h) (rV h)) := by
  refine gh_ofW (by decide) (Nat.le_of_ble_eq_true rfl) ?_
  intro p e s m below meth c ls hctx hno hl hG hK hX
  obtain ⟨hx, hb, hr, hml, hown, hlk, hts, hnm⟩ := hctx
  have htb : ∀ w ∈ tB, w.before _ s = true := fun w hw => hts w (List.mem_cons_of_mem _ hw)
  replace hl : lv_has ls 1 [(0, .ref x)] := hl
  refine lv_aload_n hx hb d_X_requireSolid_0 rfl (lv_at hl 0 rfl) ?_
  refine gh_get (ci := 0) hx hb htb in_X hown hK hG hxx rfl 3 (by decide) (htb _ k_1_112) (fun _ h9 => h9) rfl d_X_requireSolid_1 ?_
  refine lv_if_ne (tgt := 17) hx hb d_X_requireSolid_4 (by decide) (fun hc4 => ?_) (fun hc4 => ?_)
  · skip
    replace hc4 : ¬ ht = 0 := fun q9 => hc4 ((nc_eq (a := ht) (b := 0) (by omega) (by omega) rfl rfl).mpr q9)
    refine W.widen (k := 1) (n := 6) (by decide) (by decide) ?_
    exact gh_vret hx hb hr hlk hG d_X_requireSolid_17 (rB_0 (decide_eq_false (by omega)) ⟨rfl, rfl⟩)
  · skip
    replace hc4 : ht = 0 := (nc_eq (a := ht) (b := 0) (by omega) (by omega) rfl rfl).mp hc4
    refine W.widen (k := 0) (n := 0) (by decide) (by decide) ?_
    exact gh_thr (bytes := Bundle.six) (index := 7) (is := 191) (E := R_IS) (ci := 7) hx hb htr hlk hno hml hl.1 hown htb hK hX hG rfl (by decide +kernel) k_1_219 k_1_11 k_1_220 (List.mem_of_getElem? (i := 8) rfl) (by decide +kernel) (by decide +kernel) (by decide +kernel) (by decide +kernel) at_IS d_X_requireSolid_7 d_X_requireSolid_10 d_X_requireSolid_11 d_X_requireSolid_13 d_X_requireSolid_16 (by decide) (by decide) (by decide) (by decide) (fun q9 hq9 => rB_1 (decide_eq_true (by omega)) ⟨q9, rfl, hq9, rfl⟩)


set_option maxHeartbeats 4000000 in
set_option maxRecDepth 100000 in
/-- requirePoint -/
theorem c_X_requirePoint {a b c1 d : Int32} (htr : xc_off l) : gh_C l D vC (tZ cI cJ cP cS) (xF b0) b0 y_X_requirePoint w_X_requirePoint ({ frames := 6, cells := 1, slots := 6, locals := 90 }) [.int a, .int b, .int c1, .int d] h (rB (m_badQ a b c1 d) (rT 6 h) (rV h)) := by
  refine gh_ofW (by decide) (Nat.le_of_ble_eq_true rfl) ?_
  intro p e s m below meth c ls hctx hno hl hG hK hX
  obtain ⟨hx, hb, hr, hml, hown, hlk, hts, hnm⟩ := hctx
  have htb : ∀ w ∈ tB, w.before _ s = true := fun w hw => hts w (List.mem_cons_of_mem _ hw)
  replace hl : lv_has ls 4 [(0, .int a), (1, .int b), (2, .int c1), (3, .int d)] := hl
  refine lv_iload_n hx hb d_X_requirePoint_0 rfl (lv_at hl 3 rfl) ?_
  refine lv_iconst (v := 1) hx hb d_X_requirePoint_1 (by decide) ?_
  refine lv_icmp_lt (tgt := 12) hx hb d_X_requirePoint_2 (by decide) (fun hc2 => ?_) (fun hc2 => ?_)
  · skip
    refine W.widen (k := 0) (n := 0) (by decide) (by decide) ?_
    exact gh_thr (bytes := Bundle.six) (index := 7) (is := 193) (E := R_IA) (ci := 6) hx hb htr hlk hno hml hl.1 hown htb hK hX hG rfl (by decide +kernel) k_1_143 k_1_10 k_1_144 (List.mem_of_getElem? (i := 10) rfl) (by decide +kernel) (by decide +kernel) (by decide +kernel) (by decide +kernel) at_IA d_X_requirePoint_12 d_X_requirePoint_15 d_X_requirePoint_16 d_X_requirePoint_18 d_X_requirePoint_21 (by decide) (by decide) (by decide) (by decide) (fun q9 hq9 => rB_1 (by simp [m_badQ, hc2]) ⟨q9, rfl, hq9, rfl⟩)
  · skip
    refine lv_iload_n hx hb d_X_requirePoint_5 rfl (lv_at hl 3 rfl) ?_
    refine lv_sipush (v := 1000) hx hb d_X_requirePoint_6 (by decide) ?_
    refine lv_icmp_le (tgt := 22) hx hb d_X_requirePoint_9 (by decide) (fun hc9 => ?_) (fun hc9 => ?_)
    · skip
      refine lv_iload_n hx hb d_X_requirePoint_22 rfl (lv_at hl 0 rfl) ?_
      refine lv_ldc (v := 1000000) hx hb hown (htb _ k_1_212) d_X_requirePoint_23 ?_
      refine gh_cS (As := [.int a, .int 1000000]) (rest := []) (xF_ok b0) hx hb hml hown hK hX hG c_X_isBeyond (q_X_isBeyond htb ⟨by decide, by decide⟩) (htb _ k_1_213) (htb _ k_1_214) rfl hl.1 rfl (Nat.le_of_ble_eq_true rfl) d_X_requirePoint_25 ⟨by decide, by decide⟩ (fun v9 h9 H l9 hp9 hG => ?_) (fun _ _ _ _ hp9 _ => by cases hp9.1)
      obtain ⟨hv9, hh9⟩ := hp9
      cases hv9
      rw [hh9] at hG
      refine W.eq (g2 := F0 m 28 ls [.int (m_b (m_bey a 1000000))]) rfl ?_
      refine W.widen (k := 0) (n := 0) (by decide) (by decide) ?_
      refine lv_if_ne (tgt := 49) hx hb d_X_requirePoint_28 (by decide) (fun hc28 => ?_) (fun hc28 => ?_)
      · skip
        replace hc28 := mb_1.mp hc28
        refine W.widen (k := 0) (n := 0) (by decide) (by decide) ?_
        exact gh_thr (bytes := Bundle.six) (index := 7) (is := 195) (E := R_IA) (ci := 6) hx hb htr hlk hno hml hl.1 hown htb hK hX hG rfl (by decide +kernel) k_1_143 k_1_10 k_1_144 (List.mem_of_getElem? (i := 11) rfl) (by decide +kernel) (by decide +kernel) (by decide +kernel) (by decide +kernel) at_IA d_X_requirePoint_49 d_X_requirePoint_52 d_X_requirePoint_53 d_X_requirePoint_55 d_X_requirePoint_58 (by decide) (by decide) (by decide) (by decide) (fun q9 hq9 => rB_1 (by simp [m_badQ, hc2, Int32.not_lt.mpr hc9, hc28]) ⟨q9, rfl, hq9, rfl⟩)
      · skip
        replace hc28 := mb_0.mp hc28
        refine lv_iload_n hx hb d_X_requirePoint_31 rfl (lv_at hl 1 rfl) ?_
        refine lv_ldc (v := 1000000) hx hb hown (htb _ k_1_212) d_X_requirePoint_32 ?_
        refine gh_cS (As := [.int b, .int 1000000]) (rest := []) (xF_ok b0) hx hb hml hown hK hX hG c_X_isBeyond (q_X_isBeyond htb ⟨by decide, by decide⟩) (htb _ k_1_213) (htb _ k_1_214) rfl hl.1 rfl (Nat.le_of_ble_eq_true rfl) d_X_requirePoint_34 ⟨by decide, by decide⟩ (fun v9 h9 H l9 hp9 hG => ?_) (fun _ _ _ _ hp9 _ => by cases hp9.1)
        obtain ⟨hv9, hh9⟩ := hp9
        cases hv9
        rw [hh9] at hG
        refine W.eq (g2 := F0 m 37 ls [.int (m_b (m_bey b 1000000))]) rfl ?_
        refine W.widen (k := 0) (n := 0) (by decide) (by decide) ?_
        refine lv_if_ne (tgt := 49) hx hb d_X_requirePoint_37 (by decide) (fun hc37 => ?_) (fun hc37 => ?_)
        · skip
          replace hc37 := mb_1.mp hc37
          refine W.widen (k := 0) (n := 0) (by decide) (by decide) ?_
          exact gh_thr (bytes := Bundle.six) (index := 7) (is := 195) (E := R_IA) (ci := 6) hx hb htr hlk hno hml hl.1 hown htb hK hX hG rfl (by decide +kernel) k_1_143 k_1_10 k_1_144 (List.mem_of_getElem? (i := 11) rfl) (by decide +kernel) (by decide +kernel) (by decide +kernel) (by decide +kernel) at_IA d_X_requirePoint_49 d_X_requirePoint_52 d_X_requirePoint_53 d_X_requirePoint_55 d_X_requirePoint_58 (by decide) (by decide) (by decide) (by decide) (fun q9 hq9 => rB_1 (by simp [m_badQ, hc2, Int32.not_lt.mpr hc9, hc28, hc37]) ⟨q9, rfl, hq9, rfl⟩)
        · skip
          replace hc37 := mb_0.mp hc37
          refine lv_iload_n hx hb d_X_requirePoint_40 rfl (lv_at hl 2 rfl) ?_
          refine lv_ldc (v := 1000000) hx hb hown (htb _ k_1_212) d_X_requirePoint_41 ?_
          refine gh_cS (As := [.int c1, .int 1000000]) (rest := []) (xF_ok b0) hx hb hml hown hK hX hG c_X_isBeyond (q_X_isBeyond htb ⟨by decide, by decide⟩) (htb _ k_1_213) (htb _ k_1_214) rfl hl.1 rfl (Nat.le_of_ble_eq_true rfl) d_X_requirePoint_43 ⟨by decide, by decide⟩ (fun v9 h9 H l9 hp9 hG => ?_) (fun _ _ _ _ hp9 _ => by cases hp9.1)
          obtain ⟨hv9, hh9⟩ := hp9
          cases hv9
          rw [hh9] at hG
          refine W.eq (g2 := F0 m 46 ls [.int (m_b (m_bey c1 1000000))]) rfl ?_
          refine W.widen (k := 0) (n := 0) (by decide) (by decide) ?_
          refine lv_if_eq (tgt := 59) hx hb d_X_requirePoint_46 (by decide) (fun hc46 => ?_) (fun hc46 => ?_)
          · skip
            replace hc46 := mb_0.mp hc46
            refine W.widen (k := 1) (n := 6) (by decide) (by decide) ?_
            exact gh_vret hx hb hr hlk hG d_X_requirePoint_59 (rB_0 (by simp [m_badQ, hc2, Int32.not_lt.mpr hc9, hc28, hc37, hc46]) ⟨rfl, rfl⟩)
          · skip
            replace hc46 := mb_1.mp hc46
            refine W.widen (k := 0) (n := 0) (by decide) (by decide) ?_
            exact gh_thr (bytes := Bundle.six) (index := 7) (is := 195) (E := R_IA) (ci := 6) hx hb htr hlk hno hml hl.1 hown htb hK hX hG rfl (by decide +kernel) k_1_143 k_1_10 k_1_144 (List.mem_of_getElem? (i := 11) rfl) (by decide +kernel) (by decide +kernel) (by decide +kernel) (by decide +kernel) at_IA d_X_requirePoint_49 d_X_requirePoint_52 d_X_requirePoint_53 d_X_requirePoint_55 d_X_requirePoint_58 (by decide) (by decide) (by decide) (by decide) (fun q9 hq9 => rB_1 (by simp [m_badQ, hc2, Int32.not_lt.mpr hc9, hc28, hc37, hc46]) ⟨q9, rfl, hq9, rfl⟩)
    · skip
      refine W.widen (k := 0) (n := 0) (by decide) (by decide) ?_
      exact gh_thr (bytes := Bundle.six) (index := 7) (is := 193) (E := R_IA) (ci := 6) hx hb htr hlk hno hml hl.1 hown htb hK hX hG rfl (by decide +kernel) k_1_143 k_1_10 k_1_144 (List.mem_of_getElem? (i := 10) rfl) (by decide +kernel) (by decide +kernel) (by decide +kernel) (by decide +kernel) at_IA d_X_requirePoint_12 d_X_requirePoint_15 d_X_requirePoint_16 d_X_requirePoint_18 d_X_requirePoint_21 (by decide) (by decide) (by decide) (by decide) (fun q9 hq9 => rB_1 (by simp [m_badQ, hc2, Int32.not_le.mp hc9]) ⟨q9, rfl, hq9, rfl⟩)

set_option maxHeartbeats 4000000 in
set_option maxRecDepth 100000 in
/-- planes -/
theorem c_X_planes {sp al fi : Nat} {n : Nat} {ga : Nat → Option Nat} {gf : Nat → Int32} {pl fs : Nat → Nat} {pa pb pc pd : Nat → Int64} (hsp : h sp = some (.inr (2, [.ref al, .ref fi, .int (nI n)]))) (hal : h al = some (.inl (cP, 14, .inr (.inr (.inr (.inr ga)))))) (hfi : h fi = some (.inl (cI, 14, .inl gf))) (hga : ∀ i, i < n → ga i = some (pl i)) (hgf : ∀ i, i < n → gf i = nI (fs i)) (hfs : ∀ i, fs i < 14) (hpl : ∀ i, i < n → h (pl i) = some (.inr (1, [.long (pa i), .long (pb i), .long (pc i), .long (pd i)]))) (hn : n ≤ 14) (h6 : 6 ≤ n) {x sk po : Nat} {gs : Nat → Option Nat} {so wo : Nat → Nat} {wd : Nat → Nat → Int64} {ht : Nat} {px py pz pw : Int64} (hxx : h x = some (.inr (0, [.ref sp, .ref sk, .ref po, .int (nI ht)]))) (hsk : h sk = some (.inl (cS, 6, .inr (.inr (.inr (.inr gs)))))) (hgs : ∀ j, j < 6 → gs j = some (so j)) (hpo : h po = some (.inr (3, [.long px, .long py, .long pz, .long pw]))) (hso : ∀ j, j < 6 → h (so j) = some (.inr (4, [.ref (wo j)]))) (hwo : ∀ j, j < 6 → h (wo j) = some (.inl (cJ, 4, .inr (.inl (wd j))))) (hwi : ∀ i j, i < 6 → j < 6 → wo i = wo j → i = j) (hht : ht ≤ 6) : gh_C l D vC (tZ cI cJ cP cS) (xF b0) b0 y_X_planes w_X_planes ({ frames := 1, cells := 0, slots := 0, locals := 20 }) [.ref x] h (rI (nI (n - 6)) h) := by
  refine gh_ofW (by decide) (Nat.le_of_ble_eq_true rfl) ?_
  intro p e s m below meth c ls hctx hno hl hG hK hX
  obtain ⟨hx, hb, hr, hml, hown, hlk, hts, hnm⟩ := hctx
  have htb : ∀ w ∈ tB, w.before _ s = true := fun w hw => hts w (List.mem_cons_of_mem _ hw)
  replace hl : lv_has ls 1 [(0, .ref x)] := hl
  refine lv_aload_n hx hb d_X_planes_0 rfl (lv_at hl 0 rfl) ?_
  refine gh_get (ci := 0) hx hb htb in_X hown hK hG hxx rfl 0 (by decide) (htb _ k_1_109) (fun _ h9 => h9) rfl d_X_planes_1 ?_
  refine gh_cV (ci := 2) (As := []) (rest := []) (xF_ok b0) hx hb hml hown hK hX hG rfl hsp (c_Ps_given hsp hal hfi hga hgf hfs hpl hn h6) (q_Ps_given htb ⟨by decide, by decide⟩) (htb _ k_1_126) (htb _ k_1_127) (htb _ k_1_128) rfl hl.1 rfl (Nat.le_of_ble_eq_true rfl) d_X_planes_4 ⟨by decide, by decide⟩ (fun v9 h9 H l9 hp9 hG => ?_) (fun _ _ _ _ hp9 _ => by cases hp9.1)
  obtain ⟨hv9, hh9⟩ := hp9
  cases hv9
  rw [hh9] at hG
  refine W.eq (g2 := F0 m 7 ls [.int (nI (n - 6))]) rfl ?_
  refine W.widen (k := 0) (n := 0) (by decide) (by decide) ?_
  exact gh_iret hx hb hr hlk rfl hG d_X_planes_7 ⟨rfl, rfl⟩

set_option maxHeartbeats 4000000 in
set_option maxRecDepth 100000 in
/-- solids -/
theorem c_X_solids {sp al fi : Nat} {n : Nat} {ga : Nat → Option Nat} {gf : Nat → Int32} {pl fs : Nat → Nat} {pa pb pc pd : Nat → Int64} (hsp : h sp = some (.inr (2, [.ref al, .ref fi, .int (nI n)]))) (hal : h al = some (.inl (cP, 14, .inr (.inr (.inr (.inr ga)))))) (hfi : h fi = some (.inl (cI, 14, .inl gf))) (hga : ∀ i, i < n → ga i = some (pl i)) (hgf : ∀ i, i < n → gf i = nI (fs i)) (hfs : ∀ i, fs i < 14) (hpl : ∀ i, i < n → h (pl i) = some (.inr (1, [.long (pa i), .long (pb i), .long (pc i), .long (pd i)]))) (hn : n ≤ 14) (h6 : 6 ≤ n) {x sk po : Nat} {gs : Nat → Option Nat} {so wo : Nat → Nat} {wd : Nat → Nat → Int64} {ht : Nat} {px py pz pw : Int64} (hxx : h x = some (.inr (0, [.ref sp, .ref sk, .ref po, .int (nI ht)]))) (hsk : h sk = some (.inl (cS, 6, .inr (.inr (.inr (.inr gs)))))) (hgs : ∀ j, j < 6 → gs j = some (so j)) (hpo : h po = some (.inr (3, [.long px, .long py, .long pz, .long pw]))) (hso : ∀ j, j < 6 → h (so j) = some (.inr (4, [.ref (wo j)]))) (hwo : ∀ j, j < 6 → h (wo j) = some (.inl (cJ, 4, .inr (.inl (wd j))))) (hwi : ∀ i j, i < 6 → j < 6 → wo i = wo j → i = j) (hht : ht ≤ 6) : gh_C l D vC (tZ cI cJ cP cS) (xF b0) b0 y_X_solids w_X_solids ({ frames := 0, cells := 0, slots := 0, locals := 0 }) [.ref x] h (rI (nI ht) h) := by
  refine gh_ofW (by decide) (Nat.le_of_ble_eq_true rfl) ?_
  intro p e s m below meth c ls hctx hno hl hG hK hX
  obtain ⟨hx, hb, hr, hml, hown, hlk, hts, hnm⟩ := hctx
  have htb : ∀ w ∈ tB, w.before _ s = true := fun w hw => hts w (List.mem_cons_of_mem _ hw)
  replace hl : lv_has ls 1 [(0, .ref x)] := hl
  refine lv_aload_n hx hb d_X_solids_0 rfl (lv_at hl 0 rfl) ?_
  refine gh_get (ci := 0) hx hb htb in_X hown hK hG hxx rfl 3 (by decide) (htb _ k_1_112) (fun _ h9 => h9) rfl d_X_solids_1 ?_
  exact gh_iret hx hb hr hlk rfl hG d_X_solids_4 ⟨rfl, rfl⟩

end
end
section
section
variable {l : Launch} {D : va_G} {cI cJ cP cS : ClassId} {b0 : Nat} {h : gh_M}

set_option maxHeartbeats 4000000 in
set_option maxRecDepth 100000 in
/-- plane -/
theorem c_X_plane {sp al fi : Nat} {n : Nat} {ga : Nat → Option Nat} {gf : Nat → Int32} {pl fs : Nat → Nat} {pa pb pc pd : Nat → Int64} (hsp : h sp = some (.inr (2, [.ref al, .ref fi, .int (nI n)]))) (hal : h al = some (.inl (cP, 14, .inr (.inr (.inr (.inr ga)))))) (hfi : h fi = some (.inl (cI, 14, .inl gf))) (hga : ∀ i, i < n → ga i = some (pl i)) (hgf : ∀ i, i < n → gf i = nI (fs i)) (hfs : ∀ i, fs i < 14) (hpl : ∀ i, i < n → h (pl i) = some (.inr (1, [.long (pa i), .long (pb i), .long (pc i), .long (pd i)]))) (hn : n ≤ 14) (h6 : 6 ≤ n) {x sk po : Nat} {gs : Nat → Option Nat} {so wo : Nat → Nat} {wd : Nat → Nat → Int64} {ht : Nat} {px py pz pw : Int64} (hxx : h x = some (.inr (0, [.ref sp, .ref sk, .ref po, .int (nI ht)]))) (hsk : h sk = some (.inl (cS, 6, .inr (.inr (.inr (.inr gs)))))) (hgs : ∀ j, j < 6 → gs j = some (so j)) (hpo : h po = some (.inr (3, [.long px, .long py, .long pz, .long pw]))) (hso : ∀ j, j < 6 → h (so j) = some (.inr (4, [.ref (wo j)]))) (hwo : ∀ j, j < 6 → h (wo j) = some (.inl (cJ, 4, .inr (.inl (wd j))))) (hwi : ∀ i j, i < 6 → j < 6 → wo i = wo j → i = j) (hht : ht ≤ 6) {a1 b1 c1 d1 : Int32} (htr : xc_off l) : gh_C l D vC (tZ cI cJ cP cS) (xF b0) b0 y_X_plane w_X_plane ({ frames := 6, cells := 1, slots := 6, locals := 100 }) [.ref x, .int a1, .int b1, .int c1, .int d1] h (rB (m_badP a1 b1 c1 d1) (rT 6 h) (rB (decide (14 ≤ n)) (rT 7 h) (fun oc h2 => oc = .returned (some (.int (nI (n - 6)))) ∧ ∃ q, h q = none ∧ h2 = m_addH cI cP (gh_up h q (.inr (1, [.long (Int32.toInt64 a1), .long (Int32.toInt64 b1), .long (Int32.toInt64 c1), .long (Int32.toInt64 d1)]))) sp al fi n ga gf q (m_fst (fun i => m_one (pa i) (pb i) (pc i) (pd i) (Int32.toInt64 a1) (Int32.toInt64 b1) (Int32.toInt64 c1) (Int32.toInt64 d1)) n)))) := by
  refine gh_ofW (by decide) (Nat.le_of_ble_eq_true rfl) ?_
  intro p e s m below meth c ls hctx hno hl hG hK hX
  obtain ⟨hx, hb, hr, hml, hown, hlk, hts, hnm⟩ := hctx
  have htb : ∀ w ∈ tB, w.before _ s = true := fun w hw => hts w (List.mem_cons_of_mem _ hw)
  replace hl : lv_has ls 6 [(0, .ref x), (1, .int a1), (2, .int b1), (3, .int c1), (4, .int d1)] := hl
  refine lv_iload_n hx hb d_X_plane_0 rfl (lv_at hl 1 rfl) ?_
  refine lv_if_ne (tgt := 22) hx hb d_X_plane_1 (by decide) (fun hc1 => ?_) (fun hc1 => ?_)
  · skip
    refine lv_iload_n hx hb d_X_plane_22 rfl (lv_at hl 1 rfl) ?_
    refine lv_ldc (v := 1000000) hx hb hown (htb _ k_1_212) d_X_plane_23 ?_
    refine gh_cS (As := [.int a1, .int 1000000]) (rest := []) (xF_ok b0) hx hb hml hown hK hX hG c_X_isBeyond (q_X_isBeyond htb ⟨by decide, by decide⟩) (htb _ k_1_213) (htb _ k_1_214) rfl hl.1 rfl (Nat.le_of_ble_eq_true rfl) d_X_plane_25 ⟨by decide, by decide⟩ (fun v9 h9 H l9 hp9 hG => ?_) (fun _ _ _ _ hp9 _ => by cases hp9.1)
    obtain ⟨hv9, hh9⟩ := hp9
    cases hv9
    rw [hh9] at hG
    refine W.eq (g2 := F0 m 28 ls [.int (m_b (m_bey a1 1000000))]) rfl ?_
    refine W.widen (k := 0) (n := 0) (by decide) (by decide) ?_
    refine lv_if_ne (tgt := 49) hx hb d_X_plane_28 (by decide) (fun hc28 => ?_) (fun hc28 => ?_)
    · skip
      replace hc28 := mb_1.mp hc28
      refine W.widen (k := 0) (n := 0) (by decide) (by decide) ?_
      exact gh_thr (bytes := Bundle.six) (index := 7) (is := 46) (E := R_IA) (ci := 6) hx hb htr hlk hno hml hl.1 hown htb hK hX hG rfl (by decide +kernel) k_1_143 k_1_10 k_1_144 (List.mem_of_getElem? (i := 1) rfl) (by decide +kernel) (by decide +kernel) (by decide +kernel) (by decide +kernel) at_IA d_X_plane_49 d_X_plane_52 d_X_plane_53 d_X_plane_55 d_X_plane_58 (by decide) (by decide) (by decide) (by decide) (fun q9 hq9 => rB_1 (by simp [m_badP, hc1, hc28]) ⟨q9, rfl, hq9, rfl⟩)
    · skip
      replace hc28 := mb_0.mp hc28
      refine lv_iload_n hx hb d_X_plane_31 rfl (lv_at hl 2 rfl) ?_
      refine lv_ldc (v := 1000000) hx hb hown (htb _ k_1_212) d_X_plane_32 ?_
      refine gh_cS (As := [.int b1, .int 1000000]) (rest := []) (xF_ok b0) hx hb hml hown hK hX hG c_X_isBeyond (q_X_isBeyond htb ⟨by decide, by decide⟩) (htb _ k_1_213) (htb _ k_1_214) rfl hl.1 rfl (Nat.le_of_ble_eq_true rfl) d_X_plane_34 ⟨by decide, by decide⟩ (fun v9 h9 H l9 hp9 hG => ?_) (fun _ _ _ _ hp9 _ => by cases hp9.1)
      obtain ⟨hv9, hh9⟩ := hp9
      cases hv9
      rw [hh9] at hG
      refine W.eq (g2 := F0 m 37 ls [.int (m_b (m_bey b1 1000000))]) rfl ?_
      refine W.widen (k := 0) (n := 0) (by decide) (by decide) ?_
      refine lv_if_ne (tgt := 49) hx hb d_X_plane_37 (by decide) (fun hc37 => ?_) (fun hc37 => ?_)
      · skip
        replace hc37 := mb_1.mp hc37
        refine W.widen (k := 0) (n := 0) (by decide) (by decide) ?_
        exact gh_thr (bytes := Bundle.six) (index := 7) (is := 46) (E := R_IA) (ci := 6) hx hb htr hlk hno hml hl.1 hown htb hK hX hG rfl (by decide +kernel) k_1_143 k_1_10 k_1_144 (List.mem_of_getElem? (i := 1) rfl) (by decide +kernel) (by decide +kernel) (by decide +kernel) (by decide +kernel) at_IA d_X_plane_49 d_X_plane_52 d_X_plane_53 d_X_plane_55 d_X_plane_58 (by decide) (by decide) (by decide) (by decide) (fun q9 hq9 => rB_1 (by simp [m_badP, hc1, hc28, hc37]) ⟨q9, rfl, hq9, rfl⟩)
      · skip
        replace hc37 := mb_0.mp hc37
        refine lv_iload_n hx hb d_X_plane_40 rfl (lv_at hl 3 rfl) ?_
        refine lv_ldc (v := 1000000) hx hb hown (htb _ k_1_212) d_X_plane_41 ?_
        refine gh_cS (As := [.int c1, .int 1000000]) (rest := []) (xF_ok b0) hx hb hml hown hK hX hG c_X_isBeyond (q_X_isBeyond htb ⟨by decide, by decide⟩) (htb _ k_1_213) (htb _ k_1_214) rfl hl.1 rfl (Nat.le_of_ble_eq_true rfl) d_X_plane_43 ⟨by decide, by decide⟩ (fun v9 h9 H l9 hp9 hG => ?_) (fun _ _ _ _ hp9 _ => by cases hp9.1)
        obtain ⟨hv9, hh9⟩ := hp9
        cases hv9
        rw [hh9] at hG
        refine W.eq (g2 := F0 m 46 ls [.int (m_b (m_bey c1 1000000))]) rfl ?_
        refine W.widen (k := 0) (n := 0) (by decide) (by decide) ?_
        refine lv_if_eq (tgt := 59) hx hb d_X_plane_46 (by decide) (fun hc46 => ?_) (fun hc46 => ?_)
        · skip
          replace hc46 := mb_0.mp hc46
          refine lv_iload hx hb d_X_plane_59 (lv_at hl 4 rfl) ?_
          refine lv_ldc (v := 1000000000) hx hb hown (htb _ k_1_217) d_X_plane_61 ?_
          refine gh_cS (As := [.int d1, .int 1000000000]) (rest := []) (xF_ok b0) hx hb hml hown hK hX hG c_X_isBeyond (q_X_isBeyond htb ⟨by decide, by decide⟩) (htb _ k_1_213) (htb _ k_1_214) rfl hl.1 rfl (Nat.le_of_ble_eq_true rfl) d_X_plane_63 ⟨by decide, by decide⟩ (fun v9 h9 H l9 hp9 hG => ?_) (fun _ _ _ _ hp9 _ => by cases hp9.1)
          obtain ⟨hv9, hh9⟩ := hp9
          cases hv9
          rw [hh9] at hG
          refine W.eq (g2 := F0 m 66 ls [.int (m_b (m_bey d1 1000000000))]) rfl ?_
          refine W.widen (k := 0) (n := 0) (by decide) (by decide) ?_
          refine lv_if_eq (tgt := 79) hx hb d_X_plane_66 (by decide) (fun hc66 => ?_) (fun hc66 => ?_)
          · skip
            replace hc66 := mb_0.mp hc66
            refine lv_aload_n hx hb d_X_plane_79 rfl (lv_at hl 0 rfl) ?_
            refine gh_get (ci := 0) hx hb htb in_X hown hK hG hxx rfl 0 (by decide) (htb _ k_1_109) (fun _ h9 => h9) rfl d_X_plane_80 ?_
            refine gh_cV (ci := 2) (As := []) (rest := []) (xF_ok b0) hx hb hml hown hK hX hG rfl hsp (c_Ps_given hsp hal hfi hga hgf hfs hpl hn h6) (q_Ps_given htb ⟨by decide, by decide⟩) (htb _ k_1_126) (htb _ k_1_127) (htb _ k_1_128) rfl hl.1 rfl (Nat.le_of_ble_eq_true rfl) d_X_plane_83 ⟨by decide, by decide⟩ (fun v9 h9 H l9 hp9 hG => ?_) (fun _ _ _ _ hp9 _ => by cases hp9.1)
            obtain ⟨hv9, hh9⟩ := hp9
            cases hv9
            rw [hh9] at hG
            refine W.eq (g2 := F0 m 86 ls [.int (nI (n - 6))]) rfl ?_
            refine W.widen (k := 0) (n := 0) (by decide) (by decide) ?_
            refine lv_bipush (v := 8) hx hb d_X_plane_86 (by decide) ?_
            refine lv_icmp_lt (tgt := 101) hx hb d_X_plane_88 (by decide) (fun hc88 => ?_) (fun hc88 => ?_)
            · skip
              replace hc88 : (n - 6) < 8 := (nc_lt (a := (n - 6)) (b := 8) (by omega) (by omega) rfl rfl).mp hc88
              refine lv_aload_n hx hb d_X_plane_101 rfl (lv_at hl 0 rfl) ?_
              refine gh_get (ci := 0) hx hb htb in_X hown hK hG hxx rfl 0 (by decide) (htb _ k_1_109) (fun _ h9 => h9) rfl d_X_plane_102 ?_
              refine gh_cV (ci := 2) (As := []) (rest := []) (xF_ok b0) hx hb hml hown hK hX hG rfl hsp (c_Ps_given hsp hal hfi hga hgf hfs hpl hn h6) (q_Ps_given htb ⟨by decide, by decide⟩) (htb _ k_1_126) (htb _ k_1_127) (htb _ k_1_128) rfl hl.1 rfl (Nat.le_of_ble_eq_true rfl) d_X_plane_105 ⟨by decide, by decide⟩ (fun v9 h9 H l9 hp9 hG => ?_) (fun _ _ _ _ hp9 _ => by cases hp9.1)
              obtain ⟨hv9, hh9⟩ := hp9
              cases hv9
              rw [hh9] at hG
              refine W.eq (g2 := F0 m 108 ls [.int (nI (n - 6))]) rfl ?_
              refine W.widen (k := 0) (n := 0) (by decide) (by decide) ?_
              refine lv_istore (lv' := [(5, .int (nI (n - 6))), (0, .ref x), (1, .int a1), (2, .int b1), (3, .int c1), (4, .int d1)]) hx hb d_X_plane_108 hl (by decide) rfl (fun ls hl => ?_)
              refine lv_aload_n hx hb d_X_plane_110 rfl (lv_at hl 1 rfl) ?_
              refine gh_get (ci := 0) hx hb htb in_X hown hK hG hxx rfl 0 (by decide) (htb _ k_1_109) (fun _ h9 => h9) rfl d_X_plane_111 ?_
              refine gh_new (ci := 1) (fs := [.long 0, .long 0, .long 0, .long 0]) hx hb htb in_Pl t_Pl ty_Pl hown (htb _ k_1_235) (htb _ k_1_31) (htb _ k_1_3) hK hG rfl (fun j hj => by rcases (show j = 0 ∨ j = 1 ∨ j = 2 ∨ j = 3 by omega) with rfl | rfl | rfl | rfl <;> rfl) (by decide) (by decide) d_X_plane_114 (fun q1 H hf1 hG => ?_)
              have hq2 : (gh_up h q1 (.inr (1, [.long 0, .long 0, .long 0, .long 0]))) q1 = some (.inr (1, [.long 0, .long 0, .long 0, .long 0])) := gh_self _ _ _
              replace hG : gh_P D vC b0 (gh_up h q1 (.inr (1, [.long 0, .long 0, .long 0, .long 0]))) s.heap _ _ := hG
              have hsp_2 : (gh_up h q1 (.inr (1, [.long 0, .long 0, .long 0, .long 0]))) sp = some (.inr (2, [.ref al, .ref fi, .int (nI n)])) := gh_keepN hf1 hsp
              have hal_2 : (gh_up h q1 (.inr (1, [.long 0, .long 0, .long 0, .long 0]))) al = some (.inl (cP, 14, .inr (.inr (.inr (.inr ga))))) := gh_keepN hf1 hal
              have hfi_2 : (gh_up h q1 (.inr (1, [.long 0, .long 0, .long 0, .long 0]))) fi = some (.inl (cI, 14, .inl gf)) := gh_keepN hf1 hfi
              have hxx_2 : (gh_up h q1 (.inr (1, [.long 0, .long 0, .long 0, .long 0]))) x = some (.inr (0, [.ref sp, .ref sk, .ref po, .int (nI ht)])) := gh_keepN hf1 hxx
              have hsk_2 : (gh_up h q1 (.inr (1, [.long 0, .long 0, .long 0, .long 0]))) sk = some (.inl (cS, 6, .inr (.inr (.inr (.inr gs))))) := gh_keepN hf1 hsk
              have hpo_2 : (gh_up h q1 (.inr (1, [.long 0, .long 0, .long 0, .long 0]))) po = some (.inr (3, [.long px, .long py, .long pz, .long pw])) := gh_keepN hf1 hpo
              refine W.widen (k := 1) (n := 4) (by decide) (by decide) ?_
              refine lv_dup hx hb d_X_plane_117 rfl ?_
              refine lv_iload_n hx hb d_X_plane_118 rfl (lv_at hl 2 rfl) ?_
              refine lv_i2l (v := Int32.toInt64 a1) hx hb d_X_plane_119 rfl ?_
              refine lv_iload_n hx hb d_X_plane_120 rfl (lv_at hl 3 rfl) ?_
              refine lv_i2l (v := Int32.toInt64 b1) hx hb d_X_plane_121 rfl ?_
              refine lv_iload_n hx hb d_X_plane_122 rfl (lv_at hl 4 rfl) ?_
              refine lv_i2l (v := Int32.toInt64 c1) hx hb d_X_plane_123 rfl ?_
              refine lv_iload hx hb d_X_plane_124 (lv_at hl 5 rfl) ?_
              refine lv_i2l (v := Int32.toInt64 d1) hx hb d_X_plane_126 rfl ?_
              refine gh_cI (As := [.long (Int32.toInt64 a1), .long (Int32.toInt64 b1), .long (Int32.toInt64 c1), .long (Int32.toInt64 d1)]) (rest := [.ref q1, .ref sp]) (xF_ok b0) hx hb hml hown hK hX hG (c_Pl_init hq2) (q_Pl_init htb ⟨by decide, by decide⟩) (htb _ k_1_236) (htb _ k_1_34) rfl (htb _ k_1_35) rfl hl.1 rfl (Nat.le_of_ble_eq_true rfl) d_X_plane_127 ⟨by decide, by decide⟩ (fun v9 h9 H l9 hp9 hG => ?_) (fun _ _ _ _ hp9 _ => by cases hp9.1)
              obtain ⟨hv9, hh9⟩ := hp9
              cases hv9
              rw [hh9, gh_uu] at hG
              have hk_sp : (gh_up h q1 (.inr (1, [.long (Int32.toInt64 a1), .long (Int32.toInt64 b1), .long (Int32.toInt64 c1), .long (Int32.toInt64 d1)]))) sp = some (.inr (2, [.ref al, .ref fi, .int (nI n)])) := gh_keepN hf1 hsp
              have hk_al : (gh_up h q1 (.inr (1, [.long (Int32.toInt64 a1), .long (Int32.toInt64 b1), .long (Int32.toInt64 c1), .long (Int32.toInt64 d1)]))) al = some (.inl (cP, 14, .inr (.inr (.inr (.inr ga))))) := gh_keepN hf1 hal
              have hk_fi : (gh_up h q1 (.inr (1, [.long (Int32.toInt64 a1), .long (Int32.toInt64 b1), .long (Int32.toInt64 c1), .long (Int32.toInt64 d1)]))) fi = some (.inl (cI, 14, .inl gf)) := gh_keepN hf1 hfi
              have hk_x : (gh_up h q1 (.inr (1, [.long (Int32.toInt64 a1), .long (Int32.toInt64 b1), .long (Int32.toInt64 c1), .long (Int32.toInt64 d1)]))) x = some (.inr (0, [.ref sp, .ref sk, .ref po, .int (nI ht)])) := gh_keepN hf1 hxx
              have hk_sk : (gh_up h q1 (.inr (1, [.long (Int32.toInt64 a1), .long (Int32.toInt64 b1), .long (Int32.toInt64 c1), .long (Int32.toInt64 d1)]))) sk = some (.inl (cS, 6, .inr (.inr (.inr (.inr gs))))) := gh_keepN hf1 hsk
              have hk_po : (gh_up h q1 (.inr (1, [.long (Int32.toInt64 a1), .long (Int32.toInt64 b1), .long (Int32.toInt64 c1), .long (Int32.toInt64 d1)]))) po = some (.inr (3, [.long px, .long py, .long pz, .long pw])) := gh_keepN hf1 hpo
              have hk_pl : ∀ i, i < n → (gh_up h q1 (.inr (1, [.long (Int32.toInt64 a1), .long (Int32.toInt64 b1), .long (Int32.toInt64 c1), .long (Int32.toInt64 d1)]))) (pl i) = some (.inr (1, [.long (pa i), .long (pb i), .long (pc i), .long (pd i)])) := fun i hi => gh_keepN hf1 (hpl i hi)
              have hk_q : (gh_up h q1 (.inr (1, [.long (Int32.toInt64 a1), .long (Int32.toInt64 b1), .long (Int32.toInt64 c1), .long (Int32.toInt64 d1)]))) q1 = some (.inr (1, [.long (Int32.toInt64 a1), .long (Int32.toInt64 b1), .long (Int32.toInt64 c1), .long (Int32.toInt64 d1)])) := gh_self _ _ _
              refine W.eq (g2 := F0 m 130 ls [.ref q1, .ref sp]) rfl ?_
              refine W.widen (k := 1) (n := 4) (by decide) (by decide) ?_
              refine gh_cV (ci := 2) (As := [.ref q1]) (rest := []) (xF_ok b0) hx hb hml hown hK hX hG rfl hk_sp (c_Ps_add hk_sp hk_al hk_fi hga hgf hfs hk_pl hn hk_q (by omega)) (q_Ps_add htb ⟨by decide, by decide⟩) (htb _ k_1_237) (htb _ k_1_52) (htb _ k_1_53) rfl hl.1 rfl (Nat.le_of_ble_eq_true rfl) d_X_plane_130 ⟨by decide, by decide⟩ (fun v9 h9 H l9 hp9 hG => ?_) (fun _ _ _ _ hp9 _ => by cases hp9.1)
              obtain ⟨hv9, hh9⟩ := hp9
              cases hv9
              rw [hh9] at hG
              refine W.eq (g2 := F0 m 133 ls []) rfl ?_
              refine W.widen (k := 1) (n := 4) (by decide) (by decide) ?_
              refine lv_iload hx hb d_X_plane_133 (lv_at hl 0 rfl) ?_
              refine W.widen (k := 1) (n := 6) (by decide) (by decide) ?_
              exact gh_iret hx hb hr hlk rfl hG d_X_plane_135 (rB_0 (by simp [m_badP, hc1, hc28, hc37, hc46, hc66]) (rB_0 (decide_eq_false (by omega)) ⟨rfl, q1, hf1, rfl⟩))
            · skip
              replace hc88 : ¬ (n - 6) < 8 := fun q9 => hc88 ((nc_lt (a := (n - 6)) (b := 8) (by omega) (by omega) rfl rfl).mpr q9)
              refine W.widen (k := 0) (n := 0) (by decide) (by decide) ?_
              exact gh_thr (bytes := Bundle.six) (index := 7) (is := 57) (E := R_IS) (ci := 7) hx hb htr hlk hno hml hl.1 hown htb hK hX hG rfl (by decide +kernel) k_1_219 k_1_11 k_1_220 (List.mem_of_getElem? (i := 3) rfl) (by decide +kernel) (by decide +kernel) (by decide +kernel) (by decide +kernel) at_IS d_X_plane_91 d_X_plane_94 d_X_plane_95 d_X_plane_97 d_X_plane_100 (by decide) (by decide) (by decide) (by decide) (fun q9 hq9 => rB_0 (by simp [m_badP, hc1, hc28, hc37, hc46, hc66]) (rB_1 (decide_eq_true (by omega)) ⟨q9, rfl, hq9, rfl⟩))
          · skip
            replace hc66 := mb_1.mp hc66
            refine W.widen (k := 0) (n := 0) (by decide) (by decide) ?_
            exact gh_thr (bytes := Bundle.six) (index := 7) (is := 49) (E := R_IA) (ci := 6) hx hb htr hlk hno hml hl.1 hown htb hK hX hG rfl (by decide +kernel) k_1_143 k_1_10 k_1_144 (List.mem_of_getElem? (i := 2) rfl) (by decide +kernel) (by decide +kernel) (by decide +kernel) (by decide +kernel) at_IA d_X_plane_69 d_X_plane_72 d_X_plane_73 d_X_plane_75 d_X_plane_78 (by decide) (by decide) (by decide) (by decide) (fun q9 hq9 => rB_1 (by simp [m_badP, hc1, hc28, hc37, hc46, hc66]) ⟨q9, rfl, hq9, rfl⟩)
        · skip
          replace hc46 := mb_1.mp hc46
          refine W.widen (k := 0) (n := 0) (by decide) (by decide) ?_
          exact gh_thr (bytes := Bundle.six) (index := 7) (is := 46) (E := R_IA) (ci := 6) hx hb htr hlk hno hml hl.1 hown htb hK hX hG rfl (by decide +kernel) k_1_143 k_1_10 k_1_144 (List.mem_of_getElem? (i := 1) rfl) (by decide +kernel) (by decide +kernel) (by decide +kernel) (by decide +kernel) at_IA d_X_plane_49 d_X_plane_52 d_X_plane_53 d_X_plane_55 d_X_plane_58 (by decide) (by decide) (by decide) (by decide) (fun q9 hq9 => rB_1 (by simp [m_badP, hc1, hc28, hc37, hc46]) ⟨q9, rfl, hq9, rfl⟩)
  · skip
    refine lv_iload_n hx hb d_X_plane_4 rfl (lv_at hl 2 rfl) ?_
    refine lv_if_ne (tgt := 22) hx hb d_X_plane_5 (by decide) (fun hc5 => ?_) (fun hc5 => ?_)
    · skip
      refine lv_iload_n hx hb d_X_plane_22 rfl (lv_at hl 1 rfl) ?_
      refine lv_ldc (v := 1000000) hx hb hown (htb _ k_1_212) d_X_plane_23 ?_
      refine gh_cS (As := [.int a1, .int 1000000]) (rest := []) (xF_ok b0) hx hb hml hown hK hX hG c_X_isBeyond (q_X_isBeyond htb ⟨by decide, by decide⟩) (htb _ k_1_213) (htb _ k_1_214) rfl hl.1 rfl (Nat.le_of_ble_eq_true rfl) d_X_plane_25 ⟨by decide, by decide⟩ (fun v9 h9 H l9 hp9 hG => ?_) (fun _ _ _ _ hp9 _ => by cases hp9.1)
      obtain ⟨hv9, hh9⟩ := hp9
      cases hv9
      rw [hh9] at hG
      refine W.eq (g2 := F0 m 28 ls [.int (m_b (m_bey a1 1000000))]) rfl ?_
      refine W.widen (k := 0) (n := 0) (by decide) (by decide) ?_
      refine lv_if_ne (tgt := 49) hx hb d_X_plane_28 (by decide) (fun hc28 => ?_) (fun hc28 => ?_)
      · skip
        replace hc28 := mb_1.mp hc28
        refine W.widen (k := 0) (n := 0) (by decide) (by decide) ?_
        exact gh_thr (bytes := Bundle.six) (index := 7) (is := 46) (E := R_IA) (ci := 6) hx hb htr hlk hno hml hl.1 hown htb hK hX hG rfl (by decide +kernel) k_1_143 k_1_10 k_1_144 (List.mem_of_getElem? (i := 1) rfl) (by decide +kernel) (by decide +kernel) (by decide +kernel) (by decide +kernel) at_IA d_X_plane_49 d_X_plane_52 d_X_plane_53 d_X_plane_55 d_X_plane_58 (by decide) (by decide) (by decide) (by decide) (fun q9 hq9 => rB_1 (by simp [m_badP, hc5, hc28]) ⟨q9, rfl, hq9, rfl⟩)
      · skip
        replace hc28 := mb_0.mp hc28
        refine lv_iload_n hx hb d_X_plane_31 rfl (lv_at hl 2 rfl) ?_
        refine lv_ldc (v := 1000000) hx hb hown (htb _ k_1_212) d_X_plane_32 ?_
        refine gh_cS (As := [.int b1, .int 1000000]) (rest := []) (xF_ok b0) hx hb hml hown hK hX hG c_X_isBeyond (q_X_isBeyond htb ⟨by decide, by decide⟩) (htb _ k_1_213) (htb _ k_1_214) rfl hl.1 rfl (Nat.le_of_ble_eq_true rfl) d_X_plane_34 ⟨by decide, by decide⟩ (fun v9 h9 H l9 hp9 hG => ?_) (fun _ _ _ _ hp9 _ => by cases hp9.1)
        obtain ⟨hv9, hh9⟩ := hp9
        cases hv9
        rw [hh9] at hG
        refine W.eq (g2 := F0 m 37 ls [.int (m_b (m_bey b1 1000000))]) rfl ?_
        refine W.widen (k := 0) (n := 0) (by decide) (by decide) ?_
        refine lv_if_ne (tgt := 49) hx hb d_X_plane_37 (by decide) (fun hc37 => ?_) (fun hc37 => ?_)
        · skip
          replace hc37 := mb_1.mp hc37
          refine W.widen (k := 0) (n := 0) (by decide) (by decide) ?_
          exact gh_thr (bytes := Bundle.six) (index := 7) (is := 46) (E := R_IA) (ci := 6) hx hb htr hlk hno hml hl.1 hown htb hK hX hG rfl (by decide +kernel) k_1_143 k_1_10 k_1_144 (List.mem_of_getElem? (i := 1) rfl) (by decide +kernel) (by decide +kernel) (by decide +kernel) (by decide +kernel) at_IA d_X_plane_49 d_X_plane_52 d_X_plane_53 d_X_plane_55 d_X_plane_58 (by decide) (by decide) (by decide) (by decide) (fun q9 hq9 => rB_1 (by simp [m_badP, hc5, hc28, hc37]) ⟨q9, rfl, hq9, rfl⟩)
        · skip
          replace hc37 := mb_0.mp hc37
          refine lv_iload_n hx hb d_X_plane_40 rfl (lv_at hl 3 rfl) ?_
          refine lv_ldc (v := 1000000) hx hb hown (htb _ k_1_212) d_X_plane_41 ?_
          refine gh_cS (As := [.int c1, .int 1000000]) (rest := []) (xF_ok b0) hx hb hml hown hK hX hG c_X_isBeyond (q_X_isBeyond htb ⟨by decide, by decide⟩) (htb _ k_1_213) (htb _ k_1_214) rfl hl.1 rfl (Nat.le_of_ble_eq_true rfl) d_X_plane_43 ⟨by decide, by decide⟩ (fun v9 h9 H l9 hp9 hG => ?_) (fun _ _ _ _ hp9 _ => by cases hp9.1)
          obtain ⟨hv9, hh9⟩ := hp9
          cases hv9
          rw [hh9] at hG
          refine W.eq (g2 := F0 m 46 ls [.int (m_b (m_bey c1 1000000))]) rfl ?_
          refine W.widen (k := 0) (n := 0) (by decide) (by decide) ?_
          refine lv_if_eq (tgt := 59) hx hb d_X_plane_46 (by decide) (fun hc46 => ?_) (fun hc46 => ?_)
          · skip
            replace hc46 := mb_0.mp hc46
            refine lv_iload hx hb d_X_plane_59 (lv_at hl 4 rfl) ?_
            refine lv_ldc (v := 1000000000) hx hb hown (htb _ k_1_217) d_X_plane_61 ?_
            refine gh_cS (As := [.int d1, .int 1000000000]) (rest := []) (xF_ok b0) hx hb hml hown hK hX hG c_X_isBeyond (q_X_isBeyond htb ⟨by decide, by decide⟩) (htb _ k_1_213) (htb _ k_1_214) rfl hl.1 rfl (Nat.le_of_ble_eq_true rfl) d_X_plane_63 ⟨by decide, by decide⟩ (fun v9 h9 H l9 hp9 hG => ?_) (fun _ _ _ _ hp9 _ => by cases hp9.1)
            obtain ⟨hv9, hh9⟩ := hp9
            cases hv9
            rw [hh9] at hG
            refine W.eq (g2 := F0 m 66 ls [.int (m_b (m_bey d1 1000000000))]) rfl ?_
            refine W.widen (k := 0) (n := 0) (by decide) (by decide) ?_
            refine lv_if_eq (tgt := 79) hx hb d_X_plane_66 (by decide) (fun hc66 => ?_) (fun hc66 => ?_)
            · skip
              replace hc66 := mb_0.mp hc66
              refine lv_aload_n hx hb d_X_plane_79 rfl (lv_at hl 0 rfl) ?_
              refine gh_get (ci := 0) hx hb htb in_X hown hK hG hxx rfl 0 (by decide) (htb _ k_1_109) (fun _ h9 => h9) rfl d_X_plane_80 ?_
              refine gh_cV (ci := 2) (As := []) (rest := []) (xF_ok b0) hx hb hml hown hK hX hG rfl hsp (c_Ps_given hsp hal hfi hga hgf hfs hpl hn h6) (q_Ps_given htb ⟨by decide, by decide⟩) (htb _ k_1_126) (htb _ k_1_127) (htb _ k_1_128) rfl hl.1 rfl (Nat.le_of_ble_eq_true rfl) d_X_plane_83 ⟨by decide, by decide⟩ (fun v9 h9 H l9 hp9 hG => ?_) (fun _ _ _ _ hp9 _ => by cases hp9.1)
              obtain ⟨hv9, hh9⟩ := hp9
              cases hv9
              rw [hh9] at hG
              refine W.eq (g2 := F0 m 86 ls [.int (nI (n - 6))]) rfl ?_
              refine W.widen (k := 0) (n := 0) (by decide) (by decide) ?_
              refine lv_bipush (v := 8) hx hb d_X_plane_86 (by decide) ?_
              refine lv_icmp_lt (tgt := 101) hx hb d_X_plane_88 (by decide) (fun hc88 => ?_) (fun hc88 => ?_)
              · skip
                replace hc88 : (n - 6) < 8 := (nc_lt (a := (n - 6)) (b := 8) (by omega) (by omega) rfl rfl).mp hc88
                refine lv_aload_n hx hb d_X_plane_101 rfl (lv_at hl 0 rfl) ?_
                refine gh_get (ci := 0) hx hb htb in_X hown hK hG hxx rfl 0 (by decide) (htb _ k_1_109) (fun _ h9 => h9) rfl d_X_plane_102 ?_
                refine gh_cV (ci := 2) (As := []) (rest := []) (xF_ok b0) hx hb hml hown hK hX hG rfl hsp (c_Ps_given hsp hal hfi hga hgf hfs hpl hn h6) (q_Ps_given htb ⟨by decide, by decide⟩) (htb _ k_1_126) (htb _ k_1_127) (htb _ k_1_128) rfl hl.1 rfl (Nat.le_of_ble_eq_true rfl) d_X_plane_105 ⟨by decide, by decide⟩ (fun v9 h9 H l9 hp9 hG => ?_) (fun _ _ _ _ hp9 _ => by cases hp9.1)
                obtain ⟨hv9, hh9⟩ := hp9
                cases hv9
                rw [hh9] at hG
                refine W.eq (g2 := F0 m 108 ls [.int (nI (n - 6))]) rfl ?_
                refine W.widen (k := 0) (n := 0) (by decide) (by decide) ?_
                refine lv_istore (lv' := [(5, .int (nI (n - 6))), (0, .ref x), (1, .int a1), (2, .int b1), (3, .int c1), (4, .int d1)]) hx hb d_X_plane_108 hl (by decide) rfl (fun ls hl => ?_)
                refine lv_aload_n hx hb d_X_plane_110 rfl (lv_at hl 1 rfl) ?_
                refine gh_get (ci := 0) hx hb htb in_X hown hK hG hxx rfl 0 (by decide) (htb _ k_1_109) (fun _ h9 => h9) rfl d_X_plane_111 ?_
                refine gh_new (ci := 1) (fs := [.long 0, .long 0, .long 0, .long 0]) hx hb htb in_Pl t_Pl ty_Pl hown (htb _ k_1_235) (htb _ k_1_31) (htb _ k_1_3) hK hG rfl (fun j hj => by rcases (show j = 0 ∨ j = 1 ∨ j = 2 ∨ j = 3 by omega) with rfl | rfl | rfl | rfl <;> rfl) (by decide) (by decide) d_X_plane_114 (fun q3 H hf3 hG => ?_)
                have hq4 : (gh_up h q3 (.inr (1, [.long 0, .long 0, .long 0, .long 0]))) q3 = some (.inr (1, [.long 0, .long 0, .long 0, .long 0])) := gh_self _ _ _
                replace hG : gh_P D vC b0 (gh_up h q3 (.inr (1, [.long 0, .long 0, .long 0, .long 0]))) s.heap _ _ := hG
                have hsp_4 : (gh_up h q3 (.inr (1, [.long 0, .long 0, .long 0, .long 0]))) sp = some (.inr (2, [.ref al, .ref fi, .int (nI n)])) := gh_keepN hf3 hsp
                have hal_4 : (gh_up h q3 (.inr (1, [.long 0, .long 0, .long 0, .long 0]))) al = some (.inl (cP, 14, .inr (.inr (.inr (.inr ga))))) := gh_keepN hf3 hal
                have hfi_4 : (gh_up h q3 (.inr (1, [.long 0, .long 0, .long 0, .long 0]))) fi = some (.inl (cI, 14, .inl gf)) := gh_keepN hf3 hfi
                have hxx_4 : (gh_up h q3 (.inr (1, [.long 0, .long 0, .long 0, .long 0]))) x = some (.inr (0, [.ref sp, .ref sk, .ref po, .int (nI ht)])) := gh_keepN hf3 hxx
                have hsk_4 : (gh_up h q3 (.inr (1, [.long 0, .long 0, .long 0, .long 0]))) sk = some (.inl (cS, 6, .inr (.inr (.inr (.inr gs))))) := gh_keepN hf3 hsk
                have hpo_4 : (gh_up h q3 (.inr (1, [.long 0, .long 0, .long 0, .long 0]))) po = some (.inr (3, [.long px, .long py, .long pz, .long pw])) := gh_keepN hf3 hpo
                refine W.widen (k := 1) (n := 4) (by decide) (by decide) ?_
                refine lv_dup hx hb d_X_plane_117 rfl ?_
                refine lv_iload_n hx hb d_X_plane_118 rfl (lv_at hl 2 rfl) ?_
                refine lv_i2l (v := Int32.toInt64 a1) hx hb d_X_plane_119 rfl ?_
                refine lv_iload_n hx hb d_X_plane_120 rfl (lv_at hl 3 rfl) ?_
                refine lv_i2l (v := Int32.toInt64 b1) hx hb d_X_plane_121 rfl ?_
                refine lv_iload_n hx hb d_X_plane_122 rfl (lv_at hl 4 rfl) ?_
                refine lv_i2l (v := Int32.toInt64 c1) hx hb d_X_plane_123 rfl ?_
                refine lv_iload hx hb d_X_plane_124 (lv_at hl 5 rfl) ?_
                refine lv_i2l (v := Int32.toInt64 d1) hx hb d_X_plane_126 rfl ?_
                refine gh_cI (As := [.long (Int32.toInt64 a1), .long (Int32.toInt64 b1), .long (Int32.toInt64 c1), .long (Int32.toInt64 d1)]) (rest := [.ref q3, .ref sp]) (xF_ok b0) hx hb hml hown hK hX hG (c_Pl_init hq4) (q_Pl_init htb ⟨by decide, by decide⟩) (htb _ k_1_236) (htb _ k_1_34) rfl (htb _ k_1_35) rfl hl.1 rfl (Nat.le_of_ble_eq_true rfl) d_X_plane_127 ⟨by decide, by decide⟩ (fun v9 h9 H l9 hp9 hG => ?_) (fun _ _ _ _ hp9 _ => by cases hp9.1)
                obtain ⟨hv9, hh9⟩ := hp9
                cases hv9
                rw [hh9, gh_uu] at hG
                have hk_sp : (gh_up h q3 (.inr (1, [.long (Int32.toInt64 a1), .long (Int32.toInt64 b1), .long (Int32.toInt64 c1), .long (Int32.toInt64 d1)]))) sp = some (.inr (2, [.ref al, .ref fi, .int (nI n)])) := gh_keepN hf3 hsp
                have hk_al : (gh_up h q3 (.inr (1, [.long (Int32.toInt64 a1), .long (Int32.toInt64 b1), .long (Int32.toInt64 c1), .long (Int32.toInt64 d1)]))) al = some (.inl (cP, 14, .inr (.inr (.inr (.inr ga))))) := gh_keepN hf3 hal
                have hk_fi : (gh_up h q3 (.inr (1, [.long (Int32.toInt64 a1), .long (Int32.toInt64 b1), .long (Int32.toInt64 c1), .long (Int32.toInt64 d1)]))) fi = some (.inl (cI, 14, .inl gf)) := gh_keepN hf3 hfi
                have hk_x : (gh_up h q3 (.inr (1, [.long (Int32.toInt64 a1), .long (Int32.toInt64 b1), .long (Int32.toInt64 c1), .long (Int32.toInt64 d1)]))) x = some (.inr (0, [.ref sp, .ref sk, .ref po, .int (nI ht)])) := gh_keepN hf3 hxx
                have hk_sk : (gh_up h q3 (.inr (1, [.long (Int32.toInt64 a1), .long (Int32.toInt64 b1), .long (Int32.toInt64 c1), .long (Int32.toInt64 d1)]))) sk = some (.inl (cS, 6, .inr (.inr (.inr (.inr gs))))) := gh_keepN hf3 hsk
                have hk_po : (gh_up h q3 (.inr (1, [.long (Int32.toInt64 a1), .long (Int32.toInt64 b1), .long (Int32.toInt64 c1), .long (Int32.toInt64 d1)]))) po = some (.inr (3, [.long px, .long py, .long pz, .long pw])) := gh_keepN hf3 hpo
                have hk_pl : ∀ i, i < n → (gh_up h q3 (.inr (1, [.long (Int32.toInt64 a1), .long (Int32.toInt64 b1), .long (Int32.toInt64 c1), .long (Int32.toInt64 d1)]))) (pl i) = some (.inr (1, [.long (pa i), .long (pb i), .long (pc i), .long (pd i)])) := fun i hi => gh_keepN hf3 (hpl i hi)
                have hk_q : (gh_up h q3 (.inr (1, [.long (Int32.toInt64 a1), .long (Int32.toInt64 b1), .long (Int32.toInt64 c1), .long (Int32.toInt64 d1)]))) q3 = some (.inr (1, [.long (Int32.toInt64 a1), .long (Int32.toInt64 b1), .long (Int32.toInt64 c1), .long (Int32.toInt64 d1)])) := gh_self _ _ _
                refine W.eq (g2 := F0 m 130 ls [.ref q3, .ref sp]) rfl ?_
                refine W.widen (k := 1) (n := 4) (by decide) (by decide) ?_
                refine gh_cV (ci := 2) (As := [.ref q3]) (rest := []) (xF_ok b0) hx hb hml hown hK hX hG rfl hk_sp (c_Ps_add hk_sp hk_al hk_fi hga hgf hfs hk_pl hn hk_q (by omega)) (q_Ps_add htb ⟨by decide, by decide⟩) (htb _ k_1_237) (htb _ k_1_52) (htb _ k_1_53) rfl hl.1 rfl (Nat.le_of_ble_eq_true rfl) d_X_plane_130 ⟨by decide, by decide⟩ (fun v9 h9 H l9 hp9 hG => ?_) (fun _ _ _ _ hp9 _ => by cases hp9.1)
                obtain ⟨hv9, hh9⟩ := hp9
                cases hv9
                rw [hh9] at hG
                refine W.eq (g2 := F0 m 133 ls []) rfl ?_
                refine W.widen (k := 1) (n := 4) (by decide) (by decide) ?_
                refine lv_iload hx hb d_X_plane_133 (lv_at hl 0 rfl) ?_
                refine W.widen (k := 1) (n := 6) (by decide) (by decide) ?_
                exact gh_iret hx hb hr hlk rfl hG d_X_plane_135 (rB_0 (by simp [m_badP, hc5, hc28, hc37, hc46, hc66]) (rB_0 (decide_eq_false (by omega)) ⟨rfl, q3, hf3, rfl⟩))
              · skip
                replace hc88 : ¬ (n - 6) < 8 := fun q9 => hc88 ((nc_lt (a := (n - 6)) (b := 8) (by omega) (by omega) rfl rfl).mpr q9)
                refine W.widen (k := 0) (n := 0) (by decide) (by decide) ?_
                exact gh_thr (bytes := Bundle.six) (index := 7) (is := 57) (E := R_IS) (ci := 7) hx hb htr hlk hno hml hl.1 hown htb hK hX hG rfl (by decide +kernel) k_1_219 k_1_11 k_1_220 (List.mem_of_getElem? (i := 3) rfl) (by decide +kernel) (by decide +kernel) (by decide +kernel) (by decide +kernel) at_IS d_X_plane_91 d_X_plane_94 d_X_plane_95 d_X_plane_97 d_X_plane_100 (by decide) (by decide) (by decide) (by decide) (fun q9 hq9 => rB_0 (by simp [m_badP, hc5, hc28, hc37, hc46, hc66]) (rB_1 (decide_eq_true (by omega)) ⟨q9, rfl, hq9, rfl⟩))
            · skip
              replace hc66 := mb_1.mp hc66
              refine W.widen (k := 0) (n := 0) (by decide) (by decide) ?_
              exact gh_thr (bytes := Bundle.six) (index := 7) (is := 49) (E := R_IA) (ci := 6) hx hb htr hlk hno hml hl.1 hown htb hK hX hG rfl (by decide +kernel) k_1_143 k_1_10 k_1_144 (List.mem_of_getElem? (i := 2) rfl) (by decide +kernel) (by decide +kernel) (by decide +kernel) (by decide +kernel) at_IA d_X_plane_69 d_X_plane_72 d_X_plane_73 d_X_plane_75 d_X_plane_78 (by decide) (by decide) (by decide) (by decide) (fun q9 hq9 => rB_1 (by simp [m_badP, hc5, hc28, hc37, hc46, hc66]) ⟨q9, rfl, hq9, rfl⟩)
          · skip
            replace hc46 := mb_1.mp hc46
            refine W.widen (k := 0) (n := 0) (by decide) (by decide) ?_
            exact gh_thr (bytes := Bundle.six) (index := 7) (is := 46) (E := R_IA) (ci := 6) hx hb htr hlk hno hml hl.1 hown htb hK hX hG rfl (by decide +kernel) k_1_143 k_1_10 k_1_144 (List.mem_of_getElem? (i := 1) rfl) (by decide +kernel) (by decide +kernel) (by decide +kernel) (by decide +kernel) at_IA d_X_plane_49 d_X_plane_52 d_X_plane_53 d_X_plane_55 d_X_plane_58 (by decide) (by decide) (by decide) (by decide) (fun q9 hq9 => rB_1 (by simp [m_badP, hc5, hc28, hc37, hc46]) ⟨q9, rfl, hq9, rfl⟩)
    · skip
      refine lv_iload_n hx hb d_X_plane_8 rfl (lv_at hl 3 rfl) ?_
      refine lv_if_ne (tgt := 22) hx hb d_X_plane_9 (by decide) (fun hc9 => ?_) (fun hc9 => ?_)
      · skip
        refine lv_iload_n hx hb d_X_plane_22 rfl (lv_at hl 1 rfl) ?_
        refine lv_ldc (v := 1000000) hx hb hown (htb _ k_1_212) d_X_plane_23 ?_
        refine gh_cS (As := [.int a1, .int 1000000]) (rest := []) (xF_ok b0) hx hb hml hown hK hX hG c_X_isBeyond (q_X_isBeyond htb ⟨by decide, by decide⟩) (htb _ k_1_213) (htb _ k_1_214) rfl hl.1 rfl (Nat.le_of_ble_eq_true rfl) d_X_plane_25 ⟨by decide, by decide⟩ (fun v9 h9 H l9 hp9 hG => ?_) (fun _ _ _ _ hp9 _ => by cases hp9.1)
        obtain ⟨hv9, hh9⟩ := hp9
        cases hv9
        rw [hh9] at hG
        refine W.eq (g2 := F0 m 28 ls [.int (m_b (m_bey a1 1000000))]) rfl ?_
        refine W.widen (k := 0) (n := 0) (by decide) (by decide) ?_
        refine lv_if_ne (tgt := 49) hx hb d_X_plane_28 (by decide) (fun hc28 => ?_) (fun hc28 => ?_)
        · skip
          replace hc28 := mb_1.mp hc28
          refine W.widen (k := 0) (n := 0) (by decide) (by decide) ?_
          exact gh_thr (bytes := Bundle.six) (index := 7) (is := 46) (E := R_IA) (ci := 6) hx hb htr hlk hno hml hl.1 hown htb hK hX hG rfl (by decide +kernel) k_1_143 k_1_10 k_1_144 (List.mem_of_getElem? (i := 1) rfl) (by decide +kernel) (by decide +kernel) (by decide +kernel) (by decide +kernel) at_IA d_X_plane_49 d_X_plane_52 d_X_plane_53 d_X_plane_55 d_X_plane_58 (by decide) (by decide) (by decide) (by decide) (fun q9 hq9 => rB_1 (by simp [m_badP, hc9, hc28]) ⟨q9, rfl, hq9, rfl⟩)
        · skip
          replace hc28 := mb_0.mp hc28
          refine lv_iload_n hx hb d_X_plane_31 rfl (lv_at hl 2 rfl) ?_
          refine lv_ldc (v := 1000000) hx hb hown (htb _ k_1_212) d_X_plane_32 ?_
          refine gh_cS (As := [.int b1, .int 1000000]) (rest := []) (xF_ok b0) hx hb hml hown hK hX hG c_X_isBeyond (q_X_isBeyond htb ⟨by decide, by decide⟩) (htb _ k_1_213) (htb _ k_1_214) rfl hl.1 rfl (Nat.le_of_ble_eq_true rfl) d_X_plane_34 ⟨by decide, by decide⟩ (fun v9 h9 H l9 hp9 hG => ?_) (fun _ _ _ _ hp9 _ => by cases hp9.1)
          obtain ⟨hv9, hh9⟩ := hp9
          cases hv9
          rw [hh9] at hG
          refine W.eq (g2 := F0 m 37 ls [.int (m_b (m_bey b1 1000000))]) rfl ?_
          refine W.widen (k := 0) (n := 0) (by decide) (by decide) ?_
          refine lv_if_ne (tgt := 49) hx hb d_X_plane_37 (by decide) (fun hc37 => ?_) (fun hc37 => ?_)
          · skip
            replace hc37 := mb_1.mp hc37
            refine W.widen (k := 0) (n := 0) (by decide) (by decide) ?_
            exact gh_thr (bytes := Bundle.six) (index := 7) (is := 46) (E := R_IA) (ci := 6) hx hb htr hlk hno hml hl.1 hown htb hK hX hG rfl (by decide +kernel) k_1_143 k_1_10 k_1_144 (List.mem_of_getElem? (i := 1) rfl) (by decide +kernel) (by decide +kernel) (by decide +kernel) (by decide +kernel) at_IA d_X_plane_49 d_X_plane_52 d_X_plane_53 d_X_plane_55 d_X_plane_58 (by decide) (by decide) (by decide) (by decide) (fun q9 hq9 => rB_1 (by simp [m_badP, hc9, hc28, hc37]) ⟨q9, rfl, hq9, rfl⟩)
          · skip
            replace hc37 := mb_0.mp hc37
            refine lv_iload_n hx hb d_X_plane_40 rfl (lv_at hl 3 rfl) ?_
            refine lv_ldc (v := 1000000) hx hb hown (htb _ k_1_212) d_X_plane_41 ?_
            refine gh_cS (As := [.int c1, .int 1000000]) (rest := []) (xF_ok b0) hx hb hml hown hK hX hG c_X_isBeyond (q_X_isBeyond htb ⟨by decide, by decide⟩) (htb _ k_1_213) (htb _ k_1_214) rfl hl.1 rfl (Nat.le_of_ble_eq_true rfl) d_X_plane_43 ⟨by decide, by decide⟩ (fun v9 h9 H l9 hp9 hG => ?_) (fun _ _ _ _ hp9 _ => by cases hp9.1)
            obtain ⟨hv9, hh9⟩ := hp9
            cases hv9
            rw [hh9] at hG
            refine W.eq (g2 := F0 m 46 ls [.int (m_b (m_bey c1 1000000))]) rfl ?_
            refine W.widen (k := 0) (n := 0) (by decide) (by decide) ?_
            refine lv_if_eq (tgt := 59) hx hb d_X_plane_46 (by decide) (fun hc46 => ?_) (fun hc46 => ?_)
            · skip
              replace hc46 := mb_0.mp hc46
              refine lv_iload hx hb d_X_plane_59 (lv_at hl 4 rfl) ?_
              refine lv_ldc (v := 1000000000) hx hb hown (htb _ k_1_217) d_X_plane_61 ?_
              refine gh_cS (As := [.int d1, .int 1000000000]) (rest := []) (xF_ok b0) hx hb hml hown hK hX hG c_X_isBeyond (q_X_isBeyond htb ⟨by decide, by decide⟩) (htb _ k_1_213) (htb _ k_1_214) rfl hl.1 rfl (Nat.le_of_ble_eq_true rfl) d_X_plane_63 ⟨by decide, by decide⟩ (fun v9 h9 H l9 hp9 hG => ?_) (fun _ _ _ _ hp9 _ => by cases hp9.1)
              obtain ⟨hv9, hh9⟩ := hp9
              cases hv9
              rw [hh9] at hG
              refine W.eq (g2 := F0 m 66 ls [.int (m_b (m_bey d1 1000000000))]) rfl ?_
              refine W.widen (k := 0) (n := 0) (by decide) (by decide) ?_
              refine lv_if_eq (tgt := 79) hx hb d_X_plane_66 (by decide) (fun hc66 => ?_) (fun hc66 => ?_)
              · skip
                replace hc66 := mb_0.mp hc66
                refine lv_aload_n hx hb d_X_plane_79 rfl (lv_at hl 0 rfl) ?_
                refine gh_get (ci := 0) hx hb htb in_X hown hK hG hxx rfl 0 (by decide) (htb _ k_1_109) (fun _ h9 => h9) rfl d_X_plane_80 ?_
                refine gh_cV (ci := 2) (As := []) (rest := []) (xF_ok b0) hx hb hml hown hK hX hG rfl hsp (c_Ps_given hsp hal hfi hga hgf hfs hpl hn h6) (q_Ps_given htb ⟨by decide, by decide⟩) (htb _ k_1_126) (htb _ k_1_127) (htb _ k_1_128) rfl hl.1 rfl (Nat.le_of_ble_eq_true rfl) d_X_plane_83 ⟨by decide, by decide⟩ (fun v9 h9 H l9 hp9 hG => ?_) (fun _ _ _ _ hp9 _ => by cases hp9.1)
                obtain ⟨hv9, hh9⟩ := hp9
                cases hv9
                rw [hh9] at hG
                refine W.eq (g2 := F0 m 86 ls [.int (nI (n - 6))]) rfl ?_
                refine W.widen (k := 0) (n := 0) (by decide) (by decide) ?_
                refine lv_bipush (v := 8) hx hb d_X_plane_86 (by decide) ?_
                refine lv_icmp_lt (tgt := 101) hx hb d_X_plane_88 (by decide) (fun hc88 => ?_) (fun hc88 => ?_)
                · skip
                  replace hc88 : (n - 6) < 8 := (nc_lt (a := (n - 6)) (b := 8) (by omega) (by omega) rfl rfl).mp hc88
                  refine lv_aload_n hx hb d_X_plane_101 rfl (lv_at hl 0 rfl) ?_
                  refine gh_get (ci := 0) hx hb htb in_X hown hK hG hxx rfl 0 (by decide) (htb _ k_1_109) (fun _ h9 => h9) rfl d_X_plane_102 ?_
                  refine gh_cV (ci := 2) (As := []) (rest := []) (xF_ok b0) hx hb hml hown hK hX hG rfl hsp (c_Ps_given hsp hal hfi hga hgf hfs hpl hn h6) (q_Ps_given htb ⟨by decide, by decide⟩) (htb _ k_1_126) (htb _ k_1_127) (htb _ k_1_128) rfl hl.1 rfl (Nat.le_of_ble_eq_true rfl) d_X_plane_105 ⟨by decide, by decide⟩ (fun v9 h9 H l9 hp9 hG => ?_) (fun _ _ _ _ hp9 _ => by cases hp9.1)
                  obtain ⟨hv9, hh9⟩ := hp9
                  cases hv9
                  rw [hh9] at hG
                  refine W.eq (g2 := F0 m 108 ls [.int (nI (n - 6))]) rfl ?_
                  refine W.widen (k := 0) (n := 0) (by decide) (by decide) ?_
                  refine lv_istore (lv' := [(5, .int (nI (n - 6))), (0, .ref x), (1, .int a1), (2, .int b1), (3, .int c1), (4, .int d1)]) hx hb d_X_plane_108 hl (by decide) rfl (fun ls hl => ?_)
                  refine lv_aload_n hx hb d_X_plane_110 rfl (lv_at hl 1 rfl) ?_
                  refine gh_get (ci := 0) hx hb htb in_X hown hK hG hxx rfl 0 (by decide) (htb _ k_1_109) (fun _ h9 => h9) rfl d_X_plane_111 ?_
                  refine gh_new (ci := 1) (fs := [.long 0, .long 0, .long 0, .long 0]) hx hb htb in_Pl t_Pl ty_Pl hown (htb _ k_1_235) (htb _ k_1_31) (htb _ k_1_3) hK hG rfl (fun j hj => by rcases (show j = 0 ∨ j = 1 ∨ j = 2 ∨ j = 3 by omega) with rfl | rfl | rfl | rfl <;> rfl) (by decide) (by decide) d_X_plane_114 (fun q5 H hf5 hG => ?_)
                  have hq6 : (gh_up h q5 (.inr (1, [.long 0, .long 0, .long 0, .long 0]))) q5 = some (.inr (1, [.long 0, .long 0, .long 0, .long 0])) := gh_self _ _ _
                  replace hG : gh_P D vC b0 (gh_up h q5 (.inr (1, [.long 0, .long 0, .long 0, .long 0]))) s.heap _ _ := hG
                  have hsp_6 : (gh_up h q5 (.inr (1, [.long 0, .long 0, .long 0, .long 0]))) sp = some (.inr (2, [.ref al, .ref fi, .int (nI n)])) := gh_keepN hf5 hsp
                  have hal_6 : (gh_up h q5 (.inr (1, [.long 0, .long 0, .long 0, .long 0]))) al = some (.inl (cP, 14, .inr (.inr (.inr (.inr ga))))) := gh_keepN hf5 hal
                  have hfi_6 : (gh_up h q5 (.inr (1, [.long 0, .long 0, .long 0, .long 0]))) fi = some (.inl (cI, 14, .inl gf)) := gh_keepN hf5 hfi
                  have hxx_6 : (gh_up h q5 (.inr (1, [.long 0, .long 0, .long 0, .long 0]))) x = some (.inr (0, [.ref sp, .ref sk, .ref po, .int (nI ht)])) := gh_keepN hf5 hxx
                  have hsk_6 : (gh_up h q5 (.inr (1, [.long 0, .long 0, .long 0, .long 0]))) sk = some (.inl (cS, 6, .inr (.inr (.inr (.inr gs))))) := gh_keepN hf5 hsk
                  have hpo_6 : (gh_up h q5 (.inr (1, [.long 0, .long 0, .long 0, .long 0]))) po = some (.inr (3, [.long px, .long py, .long pz, .long pw])) := gh_keepN hf5 hpo
                  refine W.widen (k := 1) (n := 4) (by decide) (by decide) ?_
                  refine lv_dup hx hb d_X_plane_117 rfl ?_
                  refine lv_iload_n hx hb d_X_plane_118 rfl (lv_at hl 2 rfl) ?_
                  refine lv_i2l (v := Int32.toInt64 a1) hx hb d_X_plane_119 rfl ?_
                  refine lv_iload_n hx hb d_X_plane_120 rfl (lv_at hl 3 rfl) ?_
                  refine lv_i2l (v := Int32.toInt64 b1) hx hb d_X_plane_121 rfl ?_
                  refine lv_iload_n hx hb d_X_plane_122 rfl (lv_at hl 4 rfl) ?_
                  refine lv_i2l (v := Int32.toInt64 c1) hx hb d_X_plane_123 rfl ?_
                  refine lv_iload hx hb d_X_plane_124 (lv_at hl 5 rfl) ?_
                  refine lv_i2l (v := Int32.toInt64 d1) hx hb d_X_plane_126 rfl ?_
                  refine gh_cI (As := [.long (Int32.toInt64 a1), .long (Int32.toInt64 b1), .long (Int32.toInt64 c1), .long (Int32.toInt64 d1)]) (rest := [.ref q5, .ref sp]) (xF_ok b0) hx hb hml hown hK hX hG (c_Pl_init hq6) (q_Pl_init htb ⟨by decide, by decide⟩) (htb _ k_1_236) (htb _ k_1_34) rfl (htb _ k_1_35) rfl hl.1 rfl (Nat.le_of_ble_eq_true rfl) d_X_plane_127 ⟨by decide, by decide⟩ (fun v9 h9 H l9 hp9 hG => ?_) (fun _ _ _ _ hp9 _ => by cases hp9.1)
                  obtain ⟨hv9, hh9⟩ := hp9
                  cases hv9
                  rw [hh9, gh_uu] at hG
                  have hk_sp : (gh_up h q5 (.inr (1, [.long (Int32.toInt64 a1), .long (Int32.toInt64 b1), .long (Int32.toInt64 c1), .long (Int32.toInt64 d1)]))) sp = some (.inr (2, [.ref al, .ref fi, .int (nI n)])) := gh_keepN hf5 hsp
                  have hk_al : (gh_up h q5 (.inr (1, [.long (Int32.toInt64 a1), .long (Int32.toInt64 b1), .long (Int32.toInt64 c1), .long (Int32.toInt64 d1)]))) al = some (.inl (cP, 14, .inr (.inr (.inr (.inr ga))))) := gh_keepN hf5 hal
                  have hk_fi : (gh_up h q5 (.inr (1, [.long (Int32.toInt64 a1), .long (Int32.toInt64 b1), .long (Int32.toInt64 c1), .long (Int32.toInt64 d1)]))) fi = some (.inl (cI, 14, .inl gf)) := gh_keepN hf5 hfi
                  have hk_x : (gh_up h q5 (.inr (1, [.long (Int32.toInt64 a1), .long (Int32.toInt64 b1), .long (Int32.toInt64 c1), .long (Int32.toInt64 d1)]))) x = some (.inr (0, [.ref sp, .ref sk, .ref po, .int (nI ht)])) := gh_keepN hf5 hxx
                  have hk_sk : (gh_up h q5 (.inr (1, [.long (Int32.toInt64 a1), .long (Int32.toInt64 b1), .long (Int32.toInt64 c1), .long (Int32.toInt64 d1)]))) sk = some (.inl (cS, 6, .inr (.inr (.inr (.inr gs))))) := gh_keepN hf5 hsk
                  have hk_po : (gh_up h q5 (.inr (1, [.long (Int32.toInt64 a1), .long (Int32.toInt64 b1), .long (Int32.toInt64 c1), .long (Int32.toInt64 d1)]))) po = some (.inr (3, [.long px, .long py, .long pz, .long pw])) := gh_keepN hf5 hpo
                  have hk_pl : ∀ i, i < n → (gh_up h q5 (.inr (1, [.long (Int32.toInt64 a1), .long (Int32.toInt64 b1), .long (Int32.toInt64 c1), .long (Int32.toInt64 d1)]))) (pl i) = some (.inr (1, [.long (pa i), .long (pb i), .long (pc i), .long (pd i)])) := fun i hi => gh_keepN hf5 (hpl i hi)
                  have hk_q : (gh_up h q5 (.inr (1, [.long (Int32.toInt64 a1), .long (Int32.toInt64 b1), .long (Int32.toInt64 c1), .long (Int32.toInt64 d1)]))) q5 = some (.inr (1, [.long (Int32.toInt64 a1), .long (Int32.toInt64 b1), .long (Int32.toInt64 c1), .long (Int32.toInt64 d1)])) := gh_self _ _ _
                  refine W.eq (g2 := F0 m 130 ls [.ref q5, .ref sp]) rfl ?_
                  refine W.widen (k := 1) (n := 4) (by decide) (by decide) ?_
                  refine gh_cV (ci := 2) (As := [.ref q5]) (rest := []) (xF_ok b0) hx hb hml hown hK hX hG rfl hk_sp (c_Ps_add hk_sp hk_al hk_fi hga hgf hfs hk_pl hn hk_q (by omega)) (q_Ps_add htb ⟨by decide, by decide⟩) (htb _ k_1_237) (htb _ k_1_52) (htb _ k_1_53) rfl hl.1 rfl (Nat.le_of_ble_eq_true rfl) d_X_plane_130 ⟨by decide, by decide⟩ (fun v9 h9 H l9 hp9 hG => ?_) (fun _ _ _ _ hp9 _ => by cases hp9.1)
                  obtain ⟨hv9, hh9⟩ := hp9
                  cases hv9
                  rw [hh9] at hG
                  refine W.eq (g2 := F0 m 133 ls []) rfl ?_
                  refine W.widen (k := 1) (n := 4) (by decide) (by decide) ?_
                  refine lv_iload hx hb d_X_plane_133 (lv_at hl 0 rfl) ?_
                  refine W.widen (k := 1) (n := 6) (by decide) (by decide) ?_
                  exact gh_iret hx hb hr hlk rfl hG d_X_plane_135 (rB_0 (by simp [m_badP, hc9, hc28, hc37, hc46, hc66]) (rB_0 (decide_eq_false (by omega)) ⟨rfl, q5, hf5, rfl⟩))
                · skip
                  replace hc88 : ¬ (n - 6) < 8 := fun q9 => hc88 ((nc_lt (a := (n - 6)) (b := 8) (by omega) (by omega) rfl rfl).mpr q9)
                  refine W.widen (k := 0) (n := 0) (by decide) (by decide) ?_
                  exact gh_thr (bytes := Bundle.six) (index := 7) (is := 57) (E := R_IS) (ci := 7) hx hb htr hlk hno hml hl.1 hown htb hK hX hG rfl (by decide +kernel) k_1_219 k_1_11 k_1_220 (List.mem_of_getElem? (i := 3) rfl) (by decide +kernel) (by decide +kernel) (by decide +kernel) (by decide +kernel) at_IS d_X_plane_91 d_X_plane_94 d_X_plane_95 d_X_plane_97 d_X_plane_100 (by decide) (by decide) (by decide) (by decide) (fun q9 hq9 => rB_0 (by simp [m_badP, hc9, hc28, hc37, hc46, hc66]) (rB_1 (decide_eq_true (by omega)) ⟨q9, rfl, hq9, rfl⟩))
              · skip
                replace hc66 := mb_1.mp hc66
                refine W.widen (k := 0) (n := 0) (by decide) (by decide) ?_
                exact gh_thr (bytes := Bundle.six) (index := 7) (is := 49) (E := R_IA) (ci := 6) hx hb htr hlk hno hml hl.1 hown htb hK hX hG rfl (by decide +kernel) k_1_143 k_1_10 k_1_144 (List.mem_of_getElem? (i := 2) rfl) (by decide +kernel) (by decide +kernel) (by decide +kernel) (by decide +kernel) at_IA d_X_plane_69 d_X_plane_72 d_X_plane_73 d_X_plane_75 d_X_plane_78 (by decide) (by decide) (by decide) (by decide) (fun q9 hq9 => rB_1 (by simp [m_badP, hc9, hc28, hc37, hc46, hc66]) ⟨q9, rfl, hq9, rfl⟩)
            · skip
              replace hc46 := mb_1.mp hc46
              refine W.widen (k := 0) (n := 0) (by decide) (by decide) ?_
              exact gh_thr (bytes := Bundle.six) (index := 7) (is := 46) (E := R_IA) (ci := 6) hx hb htr hlk hno hml hl.1 hown htb hK hX hG rfl (by decide +kernel) k_1_143 k_1_10 k_1_144 (List.mem_of_getElem? (i := 1) rfl) (by decide +kernel) (by decide +kernel) (by decide +kernel) (by decide +kernel) at_IA d_X_plane_49 d_X_plane_52 d_X_plane_53 d_X_plane_55 d_X_plane_58 (by decide) (by decide) (by decide) (by decide) (fun q9 hq9 => rB_1 (by simp [m_badP, hc9, hc28, hc37, hc46]) ⟨q9, rfl, hq9, rfl⟩)
      · skip
        refine W.widen (k := 0) (n := 0) (by decide) (by decide) ?_
        exact gh_thr (bytes := Bundle.six) (index := 7) (is := 36) (E := R_IA) (ci := 6) hx hb htr hlk hno hml hl.1 hown htb hK hX hG rfl (by decide +kernel) k_1_143 k_1_10 k_1_144 (List.mem_of_getElem? (i := 0) rfl) (by decide +kernel) (by decide +kernel) (by decide +kernel) (by decide +kernel) at_IA d_X_plane_12 d_X_plane_15 d_X_plane_16 d_X_plane_18 d_X_plane_21 (by decide) (by decide) (by decide) (by decide) (fun q9 hq9 => rB_1 (by simp [m_badP, hc1, hc5, hc9]) ⟨q9, rfl, hq9, rfl⟩)

set_option maxHeartbeats 4000000 in
set_option maxRecDepth 100000 in
/-- convex -/
theorem c_X_convex {sp al fi : Nat} {n : Nat} {ga : Nat → Option Nat} {gf : Nat → Int32} {pl fs : Nat → Nat} {pa pb pc pd : Nat → Int64} (hsp : h sp = some (.inr (2, [.ref al, .ref fi, .int (nI n)]))) (hal : h al = some (.inl (cP, 14, .inr (.inr (.inr (.inr ga)))))) (hfi : h fi = some (.inl (cI, 14, .inl gf))) (hga : ∀ i, i < n → ga i = some (pl i)) (hgf : ∀ i, i < n → gf i = nI (fs i)) (hfs : ∀ i, fs i < 14) (hpl : ∀ i, i < n → h (pl i) = some (.inr (1, [.long (pa i), .long (pb i), .long (pc i), .long (pd i)]))) (hn : n ≤ 14) (h6 : 6 ≤ n) {x sk po : Nat} {gs : Nat → Option Nat} {so wo : Nat → Nat} {wd : Nat → Nat → Int64} {ht : Nat} {px py pz pw : Int64} (hxx : h x = some (.inr (0, [.ref sp, .ref sk, .ref po, .int (nI ht)]))) (hsk : h sk = some (.inl (cS, 6, .inr (.inr (.inr (.inr gs)))))) (hgs : ∀ j, j < 6 → gs j = some (so j)) (hpo : h po = some (.inr (3, [.long px, .long py, .long pz, .long pw]))) (hso : ∀ j, j < 6 → h (so j) = some (.inr (4, [.ref (wo j)]))) (hwo : ∀ j, j < 6 → h (wo j) = some (.inl (cJ, 4, .inr (.inl (wd j))))) (hwi : ∀ i j, i < 6 → j < 6 → wo i = wo j → i = j) (hht : ht ≤ 6) {set : Int32} (htr : xc_off l) : gh_C l D vC (tZ cI cJ cP cS) (xF b0) b0 y_X_convex w_X_convex ({ frames := 7, cells := 1, slots := 6, locals := 130 }) [.ref x, .int set] h (rB (m_badV set (n - 6)) (rT 6 h) (rB (decide (6 ≤ ht)) (rT 7 h) (fun oc h2 => oc = .returned (some (.int (nI (ht + 1)))) ∧ ∃ f2 : Nat → Int64, (∀ j, j < 4 → f2 j = m_cvx set 256 j) ∧ h2 = gh_up (gh_up h (wo ht) (.inl (cJ, 4, .inr (.inl f2)))) x (.inr (0, [.ref sp, .ref sk, .ref po, .int (nI (ht + 1))]))))) := by
  refine gh_ofW (by decide) (Nat.le_of_ble_eq_true rfl) ?_
  intro p e s m below meth c ls hctx hno hl hG hK hX
  obtain ⟨hx, hb, hr, hml, hown, hlk, hts, hnm⟩ := hctx
  have htb : ∀ w ∈ tB, w.before _ s = true := fun w hw => hts w (List.mem_cons_of_mem _ hw)
  replace hl : lv_has ls 2 [(0, .ref x), (1, .int set)] := hl
  refine lv_iload_n hx hb d_X_convex_0 rfl (lv_at hl 1 rfl) ?_
  refine lv_if_lt (tgt := 16) hx hb d_X_convex_1 (by decide) (fun hc1 => ?_) (fun hc1 => ?_)
  · skip
    refine W.widen (k := 0) (n := 0) (by decide) (by decide) ?_
    exact gh_thr (bytes := Bundle.six) (index := 7) (is := 69) (E := R_IA) (ci := 6) hx hb htr hlk hno hml hl.1 hown htb hK hX hG rfl (by decide +kernel) k_1_143 k_1_10 k_1_144 (List.mem_of_getElem? (i := 4) rfl) (by decide +kernel) (by decide +kernel) (by decide +kernel) (by decide +kernel) at_IA d_X_convex_16 d_X_convex_19 d_X_convex_20 d_X_convex_22 d_X_convex_25 (by decide) (by decide) (by decide) (by decide) (fun q9 hq9 => rB_1 (by simp [m_badV, hc1]) ⟨q9, rfl, hq9, rfl⟩)
  · skip
    refine lv_iload_n hx hb d_X_convex_4 rfl (lv_at hl 1 rfl) ?_
    refine lv_aload_n hx hb d_X_convex_5 rfl (lv_at hl 0 rfl) ?_
    refine gh_get (ci := 0) hx hb htb in_X hown hK hG hxx rfl 0 (by decide) (htb _ k_1_109) (fun _ h9 => h9) rfl d_X_convex_6 ?_
    refine gh_cV (ci := 2) (As := []) (rest := [.int set]) (xF_ok b0) hx hb hml hown hK hX hG rfl hsp (c_Ps_given hsp hal hfi hga hgf hfs hpl hn h6) (q_Ps_given htb ⟨by decide, by decide⟩) (htb _ k_1_126) (htb _ k_1_127) (htb _ k_1_128) rfl hl.1 rfl (Nat.le_of_ble_eq_true rfl) d_X_convex_9 ⟨by decide, by decide⟩ (fun v9 h9 H l9 hp9 hG => ?_) (fun _ _ _ _ hp9 _ => by cases hp9.1)
    obtain ⟨hv9, hh9⟩ := hp9
    cases hv9
    rw [hh9] at hG
    refine W.eq (g2 := F0 m 12 ls [.int (nI (n - 6)), .int set]) rfl ?_
    refine W.widen (k := 0) (n := 0) (by decide) (by decide) ?_
    refine lv_ishr hx hb d_X_convex_12 ?_
    refine lv_if_eq (tgt := 26) hx hb d_X_convex_13 (by decide) (fun hc13 => ?_) (fun hc13 => ?_)
    · skip
      refine lv_aload_n hx hb d_X_convex_26 rfl (lv_at hl 0 rfl) ?_
      refine gh_cV (ci := 0) (As := []) (rest := []) (xF_ok b0) hx hb hml hown hK hX hG rfl hxx (c_X_requireRoom hxx hht htr) (q_X_requireRoom htb ⟨by decide, by decide⟩) (htb _ k_2_6) (htb _ k_2_8) (htb _ k_s_X_requireRoom) rfl hl.1 rfl (Nat.le_of_ble_eq_true rfl) d_X_convex_27 ⟨by decide, by decide⟩ (fun v9 h9 H l9 hp9 hG => ?_) (fun x9 h9 H l9 hp9 hG => gx_widenT (k := 1) (n := 6) (by decide) (by decide) (gh_pass hlk (fun z9 hz9 => hno z9 hz9 _) hG (rB_0 (by simp [m_badV, hc1, hc13]) (rB_1 (rB_v hp9).1 (rB_v hp9).2))))
      obtain ⟨hb9, hv9, hh9⟩ := rB_r hp9
      cases hv9
      rw [hh9] at hG
      have hroom := of_decide_eq_false hb9
      refine W.eq (g2 := F0 m 30 ls []) rfl ?_
      refine W.widen (k := 1) (n := 6) (by decide) (by decide) ?_
      refine lv_aload_n hx hb d_X_convex_30 rfl (lv_at hl 0 rfl) ?_
      refine gh_get (ci := 0) hx hb htb in_X hown hK hG hxx rfl 1 (by decide) (htb _ k_1_110) (fun _ h9 => h9) rfl d_X_convex_31 ?_
      refine lv_aload_n hx hb d_X_convex_34 rfl (lv_at hl 0 rfl) ?_
      refine gh_get (ci := 0) hx hb htb in_X hown hK hG hxx rfl 3 (by decide) (htb _ k_1_112) (fun _ h9 => h9) rfl d_X_convex_35 ?_
      refine gh_aald (v := so ht) hx hb hK hG 3 hsk rfl (vp_in_nI (by omega) (by decide)) (by rw [nI_clamp (by omega)]; exact hgs _ (by omega)) d_X_convex_38 ?_
      refine lv_iload_n hx hb d_X_convex_39 rfl (lv_at hl 1 rfl) ?_
      refine gh_cV (ci := 4) (As := [.int set]) (rest := []) (xF_ok b0) hx hb hml hown hK hX hG rfl (hso ht (by omega)) (c_So_becomeConvex (hso ht (by omega)) (hwo ht (by omega)) (set := set)) (q_So_becomeConvex htb ⟨by decide, by decide⟩) (htb _ k_2_11) (htb _ k_2_12) (htb _ k_2_13) rfl hl.1 rfl (Nat.le_of_ble_eq_true rfl) d_X_convex_40 ⟨by decide, by decide⟩ (fun v9 h9 H l9 hp9 hG => ?_) (fun _ _ _ _ hp9 _ => by cases hp9.1)
      obtain ⟨hv9, f2, hf2, hh9⟩ := hp9
      cases hv9
      rw [hh9] at hG
      have hq1 : (gh_up h (wo ht) (.inl (cJ, 4, .inr (.inl f2)))) (wo ht) = some (.inl (cJ, 4, .inr (.inl f2))) := gh_self _ _ _
      replace hG : gh_P D vC b0 (gh_up h (wo ht) (.inl (cJ, 4, .inr (.inl f2)))) s.heap _ _ := hG
      have hsp_1 : (gh_up h (wo ht) (.inl (cJ, 4, .inr (.inl f2)))) sp = some (.inr (2, [.ref al, .ref fi, .int (nI n)])) := gh_keep (hwo ht (by omega)) hsp (by simp)
      have hal_1 : (gh_up h (wo ht) (.inl (cJ, 4, .inr (.inl f2)))) al = some (.inl (cP, 14, .inr (.inr (.inr (.inr ga))))) := gh_keep (hwo ht (by omega)) hal (by simp)
      have hfi_1 : (gh_up h (wo ht) (.inl (cJ, 4, .inr (.inl f2)))) fi = some (.inl (cI, 14, .inl gf)) := gh_keep (hwo ht (by omega)) hfi (by simp)
      have hxx_1 : (gh_up h (wo ht) (.inl (cJ, 4, .inr (.inl f2)))) x = some (.inr (0, [.ref sp, .ref sk, .ref po, .int (nI ht)])) := gh_keep (hwo ht (by omega)) hxx (by simp)
      have hsk_1 : (gh_up h (wo ht) (.inl (cJ, 4, .inr (.inl f2)))) sk = some (.inl (cS, 6, .inr (.inr (.inr (.inr gs))))) := gh_keep (hwo ht (by omega)) hsk (by simp)
      have hpo_1 : (gh_up h (wo ht) (.inl (cJ, 4, .inr (.inl f2)))) po = some (.inr (3, [.long px, .long py, .long pz, .long pw])) := gh_keep (hwo ht (by omega)) hpo (by simp)
      refine W.eq (g2 := F0 m 43 ls []) rfl ?_
      refine W.widen (k := 1) (n := 6) (by decide) (by decide) ?_
      refine lv_aload_n hx hb d_X_convex_43 rfl (lv_at hl 0 rfl) ?_
      refine lv_dup hx hb d_X_convex_44 rfl ?_
      refine gh_get (ci := 0) hx hb htb in_X hown hK hG hxx_1 rfl 3 (by decide) (htb _ k_1_112) (fun _ h9 => h9) rfl d_X_convex_45 ?_
      refine lv_iconst (v := 1) hx hb d_X_convex_48 (by decide) ?_
      refine lv_iadd hx hb d_X_convex_49 ?_
      rw [show nI ht + 1 = nI (ht + 1) from nI_1 ht]
      refine gh_put (ci := 0) (ty := .int) hx hb htb in_X t_X ty_X nm_X hown hK hG hxx_1 rfl 3 (by decide) (htb _ k_1_112) (fun _ h9 => h9) rfl (by decide +kernel) rfl rfl (Nat.le_of_ble_eq_true rfl) d_X_convex_50 (fun H l9 hG => ?_)
      have hq2 : (gh_up (gh_up h (wo ht) (.inl (cJ, 4, .inr (.inl f2)))) x (.inr (0, [.ref sp, .ref sk, .ref po, .int (nI (ht + 1))]))) x = some (.inr (0, [.ref sp, .ref sk, .ref po, .int (nI (ht + 1))])) := gh_self _ _ _
      replace hG : gh_P D vC b0 (gh_up (gh_up h (wo ht) (.inl (cJ, 4, .inr (.inl f2)))) x (.inr (0, [.ref sp, .ref sk, .ref po, .int (nI (ht + 1))]))) s.heap _ _ := hG
      have hsp_2 : (gh_up (gh_up h (wo ht) (.inl (cJ, 4, .inr (.inl f2)))) x (.inr (0, [.ref sp, .ref sk, .ref po, .int (nI (ht + 1))]))) sp = some (.inr (2, [.ref al, .ref fi, .int (nI n)])) := gh_keep hxx_1 hsp_1 (by simp)
      have hal_2 : (gh_up (gh_up h (wo ht) (.inl (cJ, 4, .inr (.inl f2)))) x (.inr (0, [.ref sp, .ref sk, .ref po, .int (nI (ht + 1))]))) al = some (.inl (cP, 14, .inr (.inr (.inr (.inr ga))))) := gh_keep hxx_1 hal_1 (by simp)
      have hfi_2 : (gh_up (gh_up h (wo ht) (.inl (cJ, 4, .inr (.inl f2)))) x (.inr (0, [.ref sp, .ref sk, .ref po, .int (nI (ht + 1))]))) fi = some (.inl (cI, 14, .inl gf)) := gh_keep hxx_1 hfi_1 (by simp)
      have hsk_2 : (gh_up (gh_up h (wo ht) (.inl (cJ, 4, .inr (.inl f2)))) x (.inr (0, [.ref sp, .ref sk, .ref po, .int (nI (ht + 1))]))) sk = some (.inl (cS, 6, .inr (.inr (.inr (.inr gs))))) := gh_keep hxx_1 hsk_1 (by simp)
      have hpo_2 : (gh_up (gh_up h (wo ht) (.inl (cJ, 4, .inr (.inl f2)))) x (.inr (0, [.ref sp, .ref sk, .ref po, .int (nI (ht + 1))]))) po = some (.inr (3, [.long px, .long py, .long pz, .long pw])) := gh_keep hxx_1 hpo_1 (by simp)
      refine lv_aload_n hx hb d_X_convex_53 rfl (lv_at hl 0 rfl) ?_
      refine gh_get (ci := 0) hx hb htb in_X hown hK hG hq2 rfl 3 (by decide) (htb _ k_1_112) (fun _ h9 => h9) rfl d_X_convex_54 ?_
      exact gh_iret hx hb hr hlk rfl hG d_X_convex_57 (rB_0 (by simp [m_badV, hc1, hc13]) (rB_0 (decide_eq_false hroom) ⟨rfl, f2, hf2, rfl⟩))
    · skip
      refine W.widen (k := 0) (n := 0) (by decide) (by decide) ?_
      exact gh_thr (bytes := Bundle.six) (index := 7) (is := 69) (E := R_IA) (ci := 6) hx hb htr hlk hno hml hl.1 hown htb hK hX hG rfl (by decide +kernel) k_1_143 k_1_10 k_1_144 (List.mem_of_getElem? (i := 4) rfl) (by decide +kernel) (by decide +kernel) (by decide +kernel) (by decide +kernel) at_IA d_X_convex_16 d_X_convex_19 d_X_convex_20 d_X_convex_22 d_X_convex_25 (by decide) (by decide) (by decide) (by decide) (fun q9 hq9 => rB_1 (by simp [m_badV, hc1, hc13]) ⟨q9, rfl, hq9, rfl⟩)

set_option maxHeartbeats 4000000 in
set_option maxRecDepth 100000 in
/-- join -/
theorem c_X_join {sp al fi : Nat} {n : Nat} {ga : Nat → Option Nat} {gf : Nat → Int32} {pl fs : Nat → Nat} {pa pb pc pd : Nat → Int64} (hsp : h sp = some (.inr (2, [.ref al, .ref fi, .int (nI n)]))) (hal : h al = some (.inl (cP, 14, .inr (.inr (.inr (.inr ga)))))) (hfi : h fi = some (.inl (cI, 14, .inl gf))) (hga : ∀ i, i < n → ga i = some (pl i)) (hgf : ∀ i, i < n → gf i = nI (fs i)) (hfs : ∀ i, fs i < 14) (hpl : ∀ i, i < n → h (pl i) = some (.inr (1, [.long (pa i), .long (pb i), .long (pc i), .long (pd i)]))) (hn : n ≤ 14) (h6 : 6 ≤ n) {x sk po : Nat} {gs : Nat → Option Nat} {so wo : Nat → Nat} {wd : Nat → Nat → Int64} {ht : Nat} {px py pz pw : Int64} (hxx : h x = some (.inr (0, [.ref sp, .ref sk, .ref po, .int (nI ht)]))) (hsk : h sk = some (.inl (cS, 6, .inr (.inr (.inr (.inr gs)))))) (hgs : ∀ j, j < 6 → gs j = some (so j)) (hpo : h po = some (.inr (3, [.long px, .long py, .long pz, .long pw]))) (hso : ∀ j, j < 6 → h (so j) = some (.inr (4, [.ref (wo j)]))) (hwo : ∀ j, j < 6 → h (wo j) = some (.inl (cJ, 4, .inr (.inl (wd j))))) (hwi : ∀ i j, i < 6 → j < 6 → wo i = wo j → i = j) (hht : ht ≤ 6) {how : Int32} (htr : xc_off l) : gh_C l D vC (tZ cI cJ cP cS) (xF b0) b0 y_X_join w_X_join ({ frames := 6, cells := 1, slots := 6, locals := 100 }) [.ref x, .int how] h (rB (m_badJ how) (rT 6 h) (rB (decide (ht < 2)) (rT 7 h) (fun oc h2 => oc = .returned (some (.int (nI (ht - 1)))) ∧ ∃ (v : Nat) (f2 : Nat → Int64), how = nI v ∧ v < 4 ∧ (∀ j, j < 4 → f2 j = m_jn v (wd (ht - 2) j) (wd (ht - 1) j)) ∧ h2 = gh_up (gh_up h (wo (ht - 2)) (.inl (cJ, 4, .inr (.inl f2)))) x (.inr (0, [.ref sp, .ref sk, .ref po, .int (nI (ht - 1))]))))) := by
  refine gh_ofW (by decide) (Nat.le_of_ble_eq_true rfl) ?_
  intro p e s m below meth c ls hctx hno hl hG hK hX
  obtain ⟨hx, hb, hr, hml, hown, hlk, hts, hnm⟩ := hctx
  have htb : ∀ w ∈ tB, w.before _ s = true := fun w hw => hts w (List.mem_cons_of_mem _ hw)
  replace hl : lv_has ls 2 [(0, .ref x), (1, .int how)] := hl
  refine lv_iload_n hx hb d_X_join_0 rfl (lv_at hl 1 rfl) ?_
  refine lv_if_lt (tgt := 9) hx hb d_X_join_1 (by decide) (fun hc1 => ?_) (fun hc1 => ?_)
  · skip
    refine W.widen (k := 0) (n := 0) (by decide) (by decide) ?_
    exact gh_thr (bytes := Bundle.six) (index := 7) (is := 78) (E := R_IA) (ci := 6) hx hb htr hlk hno hml hl.1 hown htb hK hX hG rfl (by decide +kernel) k_1_143 k_1_10 k_1_144 (List.mem_of_getElem? (i := 6) rfl) (by decide +kernel) (by decide +kernel) (by decide +kernel) (by decide +kernel) at_IA d_X_join_9 d_X_join_12 d_X_join_13 d_X_join_15 d_X_join_18 (by decide) (by decide) (by decide) (by decide) (fun q9 hq9 => rB_1 (by simp [m_badJ, hc1]) ⟨q9, rfl, hq9, rfl⟩)
  · skip
    obtain ⟨v, hv, rfl⟩ := nI_of hc1
    refine lv_iload_n hx hb d_X_join_4 rfl (lv_at hl 1 rfl) ?_
    refine lv_iconst (v := 4) hx hb d_X_join_5 (by decide) ?_
    refine lv_icmp_lt (tgt := 19) hx hb d_X_join_6 (by decide) (fun hc6 => ?_) (fun hc6 => ?_)
    · skip
      replace hc6 : v < 4 := (nc_lt (a := v) (b := 4) (by omega) (by omega) rfl rfl).mp hc6
      have hbJ : m_badJ (nI v) = false := by simp only [m_badJ, Bool.or_eq_false_iff, Bool.not_eq_false', decide_eq_false_iff_not, decide_eq_true_eq]; exact ⟨hc1, (nc_lt (a := v) (b := 4) (by omega) (by omega) rfl rfl).mpr hc6⟩
      refine lv_aload_n hx hb d_X_join_19 rfl (lv_at hl 0 rfl) ?_
      refine gh_get (ci := 0) hx hb htb in_X hown hK hG hxx rfl 3 (by decide) (htb _ k_1_112) (fun _ h9 => h9) rfl d_X_join_20 ?_
      refine lv_iconst (v := 2) hx hb d_X_join_23 (by decide) ?_
      refine lv_icmp_ge (tgt := 37) hx hb d_X_join_24 (by decide) (fun hc24 => ?_) (fun hc24 => ?_)
      · skip
        replace hc24 : 2 ≤ ht := (nc_le (a := 2) (b := ht) (by omega) (by omega) rfl rfl).mp hc24
        refine lv_aload_n hx hb d_X_join_37 rfl (lv_at hl 0 rfl) ?_
        refine gh_get (ci := 0) hx hb htb in_X hown hK hG hxx rfl 1 (by decide) (htb _ k_1_110) (fun _ h9 => h9) rfl d_X_join_38 ?_
        refine lv_aload_n hx hb d_X_join_41 rfl (lv_at hl 0 rfl) ?_
        refine gh_get (ci := 0) hx hb htb in_X hown hK hG hxx rfl 3 (by decide) (htb _ k_1_112) (fun _ h9 => h9) rfl d_X_join_42 ?_
        refine lv_iconst (v := 2) hx hb d_X_join_45 (by decide) ?_
        refine lv_isub hx hb d_X_join_46 ?_
        rw [show nI ht - 2 = nI (ht - 2) from pk_sub (a := ht) (b := 2) (by omega)]
        refine gh_aald (v := so (ht - 2)) hx hb hK hG 3 hsk rfl (vp_in_nI (by omega) (by decide)) (by rw [nI_clamp (by omega)]; exact hgs _ (by omega)) d_X_join_47 ?_
        refine lv_aload_n hx hb d_X_join_48 rfl (lv_at hl 0 rfl) ?_
        refine gh_get (ci := 0) hx hb htb in_X hown hK hG hxx rfl 1 (by decide) (htb _ k_1_110) (fun _ h9 => h9) rfl d_X_join_49 ?_
        refine lv_aload_n hx hb d_X_join_52 rfl (lv_at hl 0 rfl) ?_
        refine gh_get (ci := 0) hx hb htb in_X hown hK hG hxx rfl 3 (by decide) (htb _ k_1_112) (fun _ h9 => h9) rfl d_X_join_53 ?_
        refine lv_iconst (v := 1) hx hb d_X_join_56 (by decide) ?_
        refine lv_isub hx hb d_X_join_57 ?_
        rw [show nI ht - 1 = nI (ht - 1) from pk_sub (a := ht) (b := 1) (by omega)]
        refine gh_aald (v := so (ht - 1)) hx hb hK hG 3 hsk rfl (vp_in_nI (by omega) (by decide)) (by rw [nI_clamp (by omega)]; exact hgs _ (by omega)) d_X_join_58 ?_
        refine lv_iload_n hx hb d_X_join_59 rfl (lv_at hl 1 rfl) ?_
        refine gh_cV (ci := 4) (As := [.ref (so (ht - 1)), .int (nI v)]) (rest := []) (xF_ok b0) hx hb hml hown hK hX hG rfl (hso (ht - 2) (by omega)) (c_So_joinWith (hso (ht - 2) (by omega)) (hwo (ht - 2) (by omega)) (hso (ht - 1) (by omega)) (hwo (ht - 1) (by omega)) (fun k9 => absurd (hwi _ _ (by omega) (by omega) k9) (by omega)) (by omega)) (q_So_joinWith htb ⟨by decide, by decide⟩) (htb _ k_2_24) (htb _ k_2_25) (htb _ k_2_26) rfl hl.1 rfl (Nat.le_of_ble_eq_true rfl) d_X_join_60 ⟨by decide, by decide⟩ (fun v9 h9 H l9 hp9 hG => ?_) (fun _ _ _ _ hp9 _ => by cases hp9.1)
        obtain ⟨hv9, f2, hf2, hh9⟩ := hp9
        cases hv9
        rw [hh9] at hG
        have hq1 : (gh_up h (wo (ht - 2)) (.inl (cJ, 4, .inr (.inl f2)))) (wo (ht - 2)) = some (.inl (cJ, 4, .inr (.inl f2))) := gh_self _ _ _
        replace hG : gh_P D vC b0 (gh_up h (wo (ht - 2)) (.inl (cJ, 4, .inr (.inl f2)))) s.heap _ _ := hG
        have hsp_1 : (gh_up h (wo (ht - 2)) (.inl (cJ, 4, .inr (.inl f2)))) sp = some (.inr (2, [.ref al, .ref fi, .int (nI n)])) := gh_keep (hwo (ht - 2) (by omega)) hsp (by simp)
        have hal_1 : (gh_up h (wo (ht - 2)) (.inl (cJ, 4, .inr (.inl f2)))) al = some (.inl (cP, 14, .inr (.inr (.inr (.inr ga))))) := gh_keep (hwo (ht - 2) (by omega)) hal (by simp)
        have hfi_1 : (gh_up h (wo (ht - 2)) (.inl (cJ, 4, .inr (.inl f2)))) fi = some (.inl (cI, 14, .inl gf)) := gh_keep (hwo (ht - 2) (by omega)) hfi (by simp)
        have hxx_1 : (gh_up h (wo (ht - 2)) (.inl (cJ, 4, .inr (.inl f2)))) x = some (.inr (0, [.ref sp, .ref sk, .ref po, .int (nI ht)])) := gh_keep (hwo (ht - 2) (by omega)) hxx (by simp)
        have hsk_1 : (gh_up h (wo (ht - 2)) (.inl (cJ, 4, .inr (.inl f2)))) sk = some (.inl (cS, 6, .inr (.inr (.inr (.inr gs))))) := gh_keep (hwo (ht - 2) (by omega)) hsk (by simp)
        have hpo_1 : (gh_up h (wo (ht - 2)) (.inl (cJ, 4, .inr (.inl f2)))) po = some (.inr (3, [.long px, .long py, .long pz, .long pw])) := gh_keep (hwo (ht - 2) (by omega)) hpo (by simp)
        refine W.eq (g2 := F0 m 63 ls []) rfl ?_
        refine W.widen (k := 0) (n := 0) (by decide) (by decide) ?_
        refine lv_aload_n hx hb d_X_join_63 rfl (lv_at hl 0 rfl) ?_
        refine lv_dup hx hb d_X_join_64 rfl ?_
        refine gh_get (ci := 0) hx hb htb in_X hown hK hG hxx_1 rfl 3 (by decide) (htb _ k_1_112) (fun _ h9 => h9) rfl d_X_join_65 ?_
        refine lv_iconst (v := 1) hx hb d_X_join_68 (by decide) ?_
        refine lv_isub hx hb d_X_join_69 ?_
        rw [show nI ht - 1 = nI (ht - 1) from pk_sub (a := ht) (b := 1) (by omega)]
        refine gh_put (ci := 0) (ty := .int) hx hb htb in_X t_X ty_X nm_X hown hK hG hxx_1 rfl 3 (by decide) (htb _ k_1_112) (fun _ h9 => h9) rfl (by decide +kernel) rfl rfl (Nat.le_of_ble_eq_true rfl) d_X_join_70 (fun H l9 hG => ?_)
        have hq2 : (gh_up (gh_up h (wo (ht - 2)) (.inl (cJ, 4, .inr (.inl f2)))) x (.inr (0, [.ref sp, .ref sk, .ref po, .int (nI (ht - 1))]))) x = some (.inr (0, [.ref sp, .ref sk, .ref po, .int (nI (ht - 1))])) := gh_self _ _ _
        replace hG : gh_P D vC b0 (gh_up (gh_up h (wo (ht - 2)) (.inl (cJ, 4, .inr (.inl f2)))) x (.inr (0, [.ref sp, .ref sk, .ref po, .int (nI (ht - 1))]))) s.heap _ _ := hG
        have hsp_2 : (gh_up (gh_up h (wo (ht - 2)) (.inl (cJ, 4, .inr (.inl f2)))) x (.inr (0, [.ref sp, .ref sk, .ref po, .int (nI (ht - 1))]))) sp = some (.inr (2, [.ref al, .ref fi, .int (nI n)])) := gh_keep hxx_1 hsp_1 (by simp)
        have hal_2 : (gh_up (gh_up h (wo (ht - 2)) (.inl (cJ, 4, .inr (.inl f2)))) x (.inr (0, [.ref sp, .ref sk, .ref po, .int (nI (ht - 1))]))) al = some (.inl (cP, 14, .inr (.inr (.inr (.inr ga))))) := gh_keep hxx_1 hal_1 (by simp)
        have hfi_2 : (gh_up (gh_up h (wo (ht - 2)) (.inl (cJ, 4, .inr (.inl f2)))) x (.inr (0, [.ref sp, .ref sk, .ref po, .int (nI (ht - 1))]))) fi = some (.inl (cI, 14, .inl gf)) := gh_keep hxx_1 hfi_1 (by simp)
        have hsk_2 : (gh_up (gh_up h (wo (ht - 2)) (.inl (cJ, 4, .inr (.inl f2)))) x (.inr (0, [.ref sp, .ref sk, .ref po, .int (nI (ht - 1))]))) sk = some (.inl (cS, 6, .inr (.inr (.inr (.inr gs))))) := gh_keep hxx_1 hsk_1 (by simp)
        have hpo_2 : (gh_up (gh_up h (wo (ht - 2)) (.inl (cJ, 4, .inr (.inl f2)))) x (.inr (0, [.ref sp, .ref sk, .ref po, .int (nI (ht - 1))]))) po = some (.inr (3, [.long px, .long py, .long pz, .long pw])) := gh_keep hxx_1 hpo_1 (by simp)
        refine lv_aload_n hx hb d_X_join_73 rfl (lv_at hl 0 rfl) ?_
        refine gh_get (ci := 0) hx hb htb in_X hown hK hG hq2 rfl 3 (by decide) (htb _ k_1_112) (fun _ h9 => h9) rfl d_X_join_74 ?_
        refine W.widen (k := 1) (n := 6) (by decide) (by decide) ?_
        exact gh_iret hx hb hr hlk rfl hG d_X_join_77 (rB_0 hbJ (rB_0 (decide_eq_false (by omega)) ⟨rfl, v, f2, rfl, hc6, hf2, rfl⟩))
      · skip
        replace hc24 : ¬ 2 ≤ ht := fun q9 => hc24 ((nc_le (a := 2) (b := ht) (by omega) (by omega) rfl rfl).mpr q9)
        refine W.widen (k := 0) (n := 0) (by decide) (by decide) ?_
        exact gh_thr (bytes := Bundle.six) (index := 7) (is := 80) (E := R_IS) (ci := 7) hx hb htr hlk hno hml hl.1 hown htb hK hX hG rfl (by decide +kernel) k_1_219 k_1_11 k_1_220 (List.mem_of_getElem? (i := 7) rfl) (by decide +kernel) (by decide +kernel) (by decide +kernel) (by decide +kernel) at_IS d_X_join_27 d_X_join_30 d_X_join_31 d_X_join_33 d_X_join_36 (by decide) (by decide) (by decide) (by decide) (fun q9 hq9 => rB_0 hbJ (rB_1 (decide_eq_true (by omega)) ⟨q9, rfl, hq9, rfl⟩))
    · skip
      replace hc6 : ¬ v < 4 := fun q9 => hc6 ((nc_lt (a := v) (b := 4) (by omega) (by omega) rfl rfl).mpr q9)
      have hq4 : ¬ nI v < 4 := fun k9 => hc6 ((nc_lt (a := v) (b := 4) (by omega) (by omega) rfl rfl).mp k9)
      refine W.widen (k := 0) (n := 0) (by decide) (by decide) ?_
      exact gh_thr (bytes := Bundle.six) (index := 7) (is := 78) (E := R_IA) (ci := 6) hx hb htr hlk hno hml hl.1 hown htb hK hX hG rfl (by decide +kernel) k_1_143 k_1_10 k_1_144 (List.mem_of_getElem? (i := 6) rfl) (by decide +kernel) (by decide +kernel) (by decide +kernel) (by decide +kernel) at_IA d_X_join_9 d_X_join_12 d_X_join_13 d_X_join_15 d_X_join_18 (by decide) (by decide) (by decide) (by decide) (fun q9 hq9 => rB_1 (by simp [m_badJ, hq4]) ⟨q9, rfl, hq9, rfl⟩)

set_option maxHeartbeats 4000000 in
set_option maxRecDepth 100000 in
/-- turn -/
theorem c_X_turn {sp al fi : Nat} {n : Nat} {ga : Nat → Option Nat} {gf : Nat → Int32} {pl fs : Nat → Nat} {pa pb pc pd : Nat → Int64} (hsp : h sp = some (.inr (2, [.ref al, .ref fi, .int (nI n)]))) (hal : h al = some (.inl (cP, 14, .inr (.inr (.inr (.inr ga)))))) (hfi : h fi = some (.inl (cI, 14, .inl gf))) (hga : ∀ i, i < n → ga i = some (pl i)) (hgf : ∀ i, i < n → gf i = nI (fs i)) (hfs : ∀ i, fs i < 14) (hpl : ∀ i, i < n → h (pl i) = some (.inr (1, [.long (pa i), .long (pb i), .long (pc i), .long (pd i)]))) (hn : n ≤ 14) (h6 : 6 ≤ n) {x sk po : Nat} {gs : Nat → Option Nat} {so wo : Nat → Nat} {wd : Nat → Nat → Int64} {ht : Nat} {px py pz pw : Int64} (hxx : h x = some (.inr (0, [.ref sp, .ref sk, .ref po, .int (nI ht)]))) (hsk : h sk = some (.inl (cS, 6, .inr (.inr (.inr (.inr gs)))))) (hgs : ∀ j, j < 6 → gs j = some (so j)) (hpo : h po = some (.inr (3, [.long px, .long py, .long pz, .long pw]))) (hso : ∀ j, j < 6 → h (so j) = some (.inr (4, [.ref (wo j)]))) (hwo : ∀ j, j < 6 → h (wo j) = some (.inl (cJ, 4, .inr (.inl (wd j))))) (hwi : ∀ i j, i < 6 → j < 6 → wo i = wo j → i = j) (hht : ht ≤ 6) (htr : xc_off l) : gh_C l D vC (tZ cI cJ cP cS) (xF b0) b0 y_X_turn w_X_turn ({ frames := 7, cells := 1, slots := 6, locals := 130 }) [.ref x] h (rB (decide (ht = 0)) (rT 7 h) (fun oc h2 => oc = .returned none ∧ ∃ f2 : Nat → Int64, (∀ j, j < 4 → f2 j = wd (ht - 1) j ^^^ (-1)) ∧ h2 = gh_up h (wo (ht - 1)) (.inl (cJ, 4, .inr (.inl f2))))) := by
  refine gh_ofW (by decide) (Nat.le_of_ble_eq_true rfl) ?_
  intro p e s m below meth c ls hctx hno hl hG hK hX
  obtain ⟨hx, hb, hr, hml, hown, hlk, hts, hnm⟩ := hctx
  have htb : ∀ w ∈ tB, w.before _ s = true := fun w hw => hts w (List.mem_cons_of_mem _ hw)
  replace hl : lv_has ls 1 [(0, .ref x)] := hl
  refine lv_aload_n hx hb d_X_turn_0 rfl (lv_at hl 0 rfl) ?_
  refine gh_cV (ci := 0) (As := []) (rest := []) (xF_ok b0) hx hb hml hown hK hX hG rfl hxx (c_X_requireSolid hxx hht htr) (q_X_requireSolid htb ⟨by decide, by decide⟩) (htb _ k_2_39) (htb _ k_2_41) (htb _ k_s_X_requireSolid) rfl hl.1 rfl (Nat.le_of_ble_eq_true rfl) d_X_turn_1 ⟨by decide, by decide⟩ (fun v9 h9 H l9 hp9 hG => ?_) (fun x9 h9 H l9 hp9 hG => gx_widenT (k := 1) (n := 6) (by decide) (by decide) (gh_pass hlk (fun z9 hz9 => hno z9 hz9 _) hG (rB_1 (rB_v hp9).1 (rB_v hp9).2)))
  obtain ⟨hb9, hv9, hh9⟩ := rB_r hp9
  cases hv9
  rw [hh9] at hG
  have hsol := of_decide_eq_false hb9
  refine W.eq (g2 := F0 m 4 ls []) rfl ?_
  refine W.widen (k := 1) (n := 6) (by decide) (by decide) ?_
  refine lv_aload_n hx hb d_X_turn_4 rfl (lv_at hl 0 rfl) ?_
  refine gh_get (ci := 0) hx hb htb in_X hown hK hG hxx rfl 1 (by decide) (htb _ k_1_110) (fun _ h9 => h9) rfl d_X_turn_5 ?_
  refine lv_aload_n hx hb d_X_turn_8 rfl (lv_at hl 0 rfl) ?_
  refine gh_get (ci := 0) hx hb htb in_X hown hK hG hxx rfl 3 (by decide) (htb _ k_1_112) (fun _ h9 => h9) rfl d_X_turn_9 ?_
  refine lv_iconst (v := 1) hx hb d_X_turn_12 (by decide) ?_
  refine lv_isub hx hb d_X_turn_13 ?_
  rw [show nI ht - 1 = nI (ht - 1) from pk_sub (a := ht) (b := 1) (by omega)]
  refine gh_aald (v := so (ht - 1)) hx hb hK hG 3 hsk rfl (vp_in_nI (by omega) (by decide)) (by rw [nI_clamp (by omega)]; exact hgs _ (by omega)) d_X_turn_14 ?_
  refine gh_cV (ci := 4) (As := []) (rest := []) (xF_ok b0) hx hb hml hown hK hX hG rfl (hso (ht - 1) (by omega)) (c_So_becomeItsRest (hso (ht - 1) (by omega)) (hwo (ht - 1) (by omega))) (q_So_becomeItsRest htb ⟨by decide, by decide⟩) (htb _ k_2_44) (htb _ k_2_45) (htb _ k_2_46) rfl hl.1 rfl (Nat.le_of_ble_eq_true rfl) d_X_turn_15 ⟨by decide, by decide⟩ (fun v9 h9 H l9 hp9 hG => ?_) (fun _ _ _ _ hp9 _ => by cases hp9.1)
  obtain ⟨hv9, f2, hf2, hh9⟩ := hp9
  cases hv9
  rw [hh9] at hG
  have hq1 : (gh_up h (wo (ht - 1)) (.inl (cJ, 4, .inr (.inl f2)))) (wo (ht - 1)) = some (.inl (cJ, 4, .inr (.inl f2))) := gh_self _ _ _
  replace hG : gh_P D vC b0 (gh_up h (wo (ht - 1)) (.inl (cJ, 4, .inr (.inl f2)))) s.heap _ _ := hG
  have hsp_1 : (gh_up h (wo (ht - 1)) (.inl (cJ, 4, .inr (.inl f2)))) sp = some (.inr (2, [.ref al, .ref fi, .int (nI n)])) := gh_keep (hwo (ht - 1) (by omega)) hsp (by simp)
  have hal_1 : (gh_up h (wo (ht - 1)) (.inl (cJ, 4, .inr (.inl f2)))) al = some (.inl (cP, 14, .inr (.inr (.inr (.inr ga))))) := gh_keep (hwo (ht - 1) (by omega)) hal (by simp)
  have hfi_1 : (gh_up h (wo (ht - 1)) (.inl (cJ, 4, .inr (.inl f2)))) fi = some (.inl (cI, 14, .inl gf)) := gh_keep (hwo (ht - 1) (by omega)) hfi (by simp)
  have hxx_1 : (gh_up h (wo (ht - 1)) (.inl (cJ, 4, .inr (.inl f2)))) x = some (.inr (0, [.ref sp, .ref sk, .ref po, .int (nI ht)])) := gh_keep (hwo (ht - 1) (by omega)) hxx (by simp)
  have hsk_1 : (gh_up h (wo (ht - 1)) (.inl (cJ, 4, .inr (.inl f2)))) sk = some (.inl (cS, 6, .inr (.inr (.inr (.inr gs))))) := gh_keep (hwo (ht - 1) (by omega)) hsk (by simp)
  have hpo_1 : (gh_up h (wo (ht - 1)) (.inl (cJ, 4, .inr (.inl f2)))) po = some (.inr (3, [.long px, .long py, .long pz, .long pw])) := gh_keep (hwo (ht - 1) (by omega)) hpo (by simp)
  refine W.eq (g2 := F0 m 18 ls []) rfl ?_
  refine W.widen (k := 1) (n := 6) (by decide) (by decide) ?_
  exact gh_vret hx hb hr hlk hG d_X_turn_18 (rB_0 (decide_eq_false hsol) ⟨rfl, f2, hf2, rfl⟩)

set_option maxHeartbeats 4000000 in
set_option maxRecDepth 100000 in
/-- drop -/
theorem c_X_drop {sp al fi : Nat} {n : Nat} {ga : Nat → Option Nat} {gf : Nat → Int32} {pl fs : Nat → Nat} {pa pb pc pd : Nat → Int64} (hsp : h sp = some (.inr (2, [.ref al, .ref fi, .int (nI n)]))) (hal : h al = some (.inl (cP, 14, .inr (.inr (.inr (.inr ga)))))) (hfi : h fi = some (.inl (cI, 14, .inl gf))) (hga : ∀ i, i < n → ga i = some (pl i)) (hgf : ∀ i, i < n → gf i = nI (fs i)) (hfs : ∀ i, fs i < 14) (hpl : ∀ i, i < n → h (pl i) = some (.inr (1, [.long (pa i), .long (pb i), .long (pc i), .long (pd i)]))) (hn : n ≤ 14) (h6 : 6 ≤ n) {x sk po : Nat} {gs : Nat → Option Nat} {so wo : Nat → Nat} {wd : Nat → Nat → Int64} {ht : Nat} {px py pz pw : Int64} (hxx : h x = some (.inr (0, [.ref sp, .ref sk, .ref po, .int (nI ht)]))) (hsk : h sk = some (.inl (cS, 6, .inr (.inr (.inr (.inr gs)))))) (hgs : ∀ j, j < 6 → gs j = some (so j)) (hpo : h po = some (.inr (3, [.long px, .long py, .long pz, .long pw]))) (hso : ∀ j, j < 6 → h (so j) = some (.inr (4, [.ref (wo j)]))) (hwo : ∀ j, j < 6 → h (wo j) = some (.inl (cJ, 4, .inr (.inl (wd j))))) (hwi : ∀ i j, i < 6 → j < 6 → wo i = wo j → i = j) (hht : ht ≤ 6) (htr : xc_off l) : gh_C l D vC (tZ cI cJ cP cS) (xF b0) b0 y_X_drop w_X_drop ({ frames := 7, cells := 1, slots := 6, locals := 130 }) [.ref x] h (rB (decide (ht = 0)) (rT 7 h) (fun oc h2 => oc = .returned (some (.int (nI (ht - 1)))) ∧ h2 = gh_up h x (.inr (0, [.ref sp, .ref sk, .ref po, .int (nI (ht - 1))])))) := by
  refine gh_ofW (by decide) (Nat.le_of_ble_eq_true rfl) ?_
  intro p e s m below meth c ls hctx hno hl hG hK hX
  obtain ⟨hx, hb, hr, hml, hown, hlk, hts, hnm⟩ := hctx
  have htb : ∀ w ∈ tB, w.before _ s = true := fun w hw => hts w (List.mem_cons_of_mem _ hw)
  replace hl : lv_has ls 1 [(0, .ref x)] := hl
  refine lv_aload_n hx hb d_X_drop_0 rfl (lv_at hl 0 rfl) ?_
  refine gh_cV (ci := 0) (As := []) (rest := []) (xF_ok b0) hx hb hml hown hK hX hG rfl hxx (c_X_requireSolid hxx hht htr) (q_X_requireSolid htb ⟨by decide, by decide⟩) (htb _ k_2_39) (htb _ k_2_41) (htb _ k_s_X_requireSolid) rfl hl.1 rfl (Nat.le_of_ble_eq_true rfl) d_X_drop_1 ⟨by decide, by decide⟩ (fun v9 h9 H l9 hp9 hG => ?_) (fun x9 h9 H l9 hp9 hG => gx_widenT (k := 1) (n := 6) (by decide) (by decide) (gh_pass hlk (fun z9 hz9 => hno z9 hz9 _) hG (rB_1 (rB_v hp9).1 (rB_v hp9).2)))
  obtain ⟨hb9, hv9, hh9⟩ := rB_r hp9
  cases hv9
  rw [hh9] at hG
  have hsol := of_decide_eq_false hb9
  refine W.eq (g2 := F0 m 4 ls []) rfl ?_
  refine W.widen (k := 1) (n := 6) (by decide) (by decide) ?_
  refine lv_aload_n hx hb d_X_drop_4 rfl (lv_at hl 0 rfl) ?_
  refine lv_dup hx hb d_X_drop_5 rfl ?_
  refine gh_get (ci := 0) hx hb htb in_X hown hK hG hxx rfl 3 (by decide) (htb _ k_1_112) (fun _ h9 => h9) rfl d_X_drop_6 ?_
  refine lv_iconst (v := 1) hx hb d_X_drop_9 (by decide) ?_
  refine lv_isub hx hb d_X_drop_10 ?_
  rw [show nI ht - 1 = nI (ht - 1) from pk_sub (a := ht) (b := 1) (by omega)]
  refine gh_put (ci := 0) (ty := .int) hx hb htb in_X t_X ty_X nm_X hown hK hG hxx rfl 3 (by decide) (htb _ k_1_112) (fun _ h9 => h9) rfl (by decide +kernel) rfl rfl (Nat.le_of_ble_eq_true rfl) d_X_drop_11 (fun H l9 hG => ?_)
  have hq1 : (gh_up h x (.inr (0, [.ref sp, .ref sk, .ref po, .int (nI (ht - 1))]))) x = some (.inr (0, [.ref sp, .ref sk, .ref po, .int (nI (ht - 1))])) := gh_self _ _ _
  replace hG : gh_P D vC b0 (gh_up h x (.inr (0, [.ref sp, .ref sk, .ref po, .int (nI (ht - 1))]))) s.heap _ _ := hG
  have hsp_1 : (gh_up h x (.inr (0, [.ref sp, .ref sk, .ref po, .int (nI (ht - 1))]))) sp = some (.inr (2, [.ref al, .ref fi, .int (nI n)])) := gh_keep hxx hsp (by simp)
  have hal_1 : (gh_up h x (.inr (0, [.ref sp, .ref sk, .ref po, .int (nI (ht - 1))]))) al = some (.inl (cP, 14, .inr (.inr (.inr (.inr ga))))) := gh_keep hxx hal (by simp)
  have hfi_1 : (gh_up h x (.inr (0, [.ref sp, .ref sk, .ref po, .int (nI (ht - 1))]))) fi = some (.inl (cI, 14, .inl gf)) := gh_keep hxx hfi (by simp)
  have hsk_1 : (gh_up h x (.inr (0, [.ref sp, .ref sk, .ref po, .int (nI (ht - 1))]))) sk = some (.inl (cS, 6, .inr (.inr (.inr (.inr gs))))) := gh_keep hxx hsk (by simp)
  have hpo_1 : (gh_up h x (.inr (0, [.ref sp, .ref sk, .ref po, .int (nI (ht - 1))]))) po = some (.inr (3, [.long px, .long py, .long pz, .long pw])) := gh_keep hxx hpo (by simp)
  refine lv_aload_n hx hb d_X_drop_14 rfl (lv_at hl 0 rfl) ?_
  refine gh_get (ci := 0) hx hb htb in_X hown hK hG hq1 rfl 3 (by decide) (htb _ k_1_112) (fun _ h9 => h9) rfl d_X_drop_15 ?_
  exact gh_iret hx hb hr hlk rfl hG d_X_drop_18 (rB_0 (decide_eq_false hsol) ⟨rfl, rfl⟩)

set_option maxHeartbeats 4000000 in
set_option maxRecDepth 100000 in
/-- copy -/
theorem c_X_copy {sp al fi : Nat} {n : Nat} {ga : Nat → Option Nat} {gf : Nat → Int32} {pl fs : Nat → Nat} {pa pb pc pd : Nat → Int64} (hsp : h sp = some (.inr (2, [.ref al, .ref fi, .int (nI n)]))) (hal : h al = some (.inl (cP, 14, .inr (.inr (.inr (.inr ga)))))) (hfi : h fi = some (.inl (cI, 14, .inl gf))) (hga : ∀ i, i < n → ga i = some (pl i)) (hgf : ∀ i, i < n → gf i = nI (fs i)) (hfs : ∀ i, fs i < 14) (hpl : ∀ i, i < n → h (pl i) = some (.inr (1, [.long (pa i), .long (pb i), .long (pc i), .long (pd i)]))) (hn : n ≤ 14) (h6 : 6 ≤ n) {x sk po : Nat} {gs : Nat → Option Nat} {so wo : Nat → Nat} {wd : Nat → Nat → Int64} {ht : Nat} {px py pz pw : Int64} (hxx : h x = some (.inr (0, [.ref sp, .ref sk, .ref po, .int (nI ht)]))) (hsk : h sk = some (.inl (cS, 6, .inr (.inr (.inr (.inr gs)))))) (hgs : ∀ j, j < 6 → gs j = some (so j)) (hpo : h po = some (.inr (3, [.long px, .long py, .long pz, .long pw]))) (hso : ∀ j, j < 6 → h (so j) = some (.inr (4, [.ref (wo j)]))) (hwo : ∀ j, j < 6 → h (wo j) = some (.inl (cJ, 4, .inr (.inl (wd j))))) (hwi : ∀ i j, i < 6 → j < 6 → wo i = wo j → i = j) (hht : ht ≤ 6) {k1 : Int32} (htr : xc_off l) : gh_C l D vC (tZ cI cJ cP cS) (xF b0) b0 y_X_copy w_X_copy ({ frames := 7, cells := 1, slots := 6, locals := 130 }) [.ref x, .int k1] h (rB (m_badC k1 ht) (rT 8 h) (rB (decide (6 ≤ ht)) (rT 7 h) (fun oc h2 => oc = .returned (some (.int (nI (ht + 1)))) ∧ ∃ (v : Nat) (f2 : Nat → Int64), k1 = nI v ∧ v < ht ∧ (∀ j, j < 4 → f2 j = wd (ht - 1 - v) j) ∧ h2 = gh_up (gh_up h (wo ht) (.inl (cJ, 4, .inr (.inl f2)))) x (.inr (0, [.ref sp, .ref sk, .ref po, .int (nI (ht + 1))]))))) := by
  refine gh_ofW (by decide) (Nat.le_of_ble_eq_true rfl) ?_
  intro p e s m below meth c ls hctx hno hl hG hK hX
  obtain ⟨hx, hb, hr, hml, hown, hlk, hts, hnm⟩ := hctx
  have htb : ∀ w ∈ tB, w.before _ s = true := fun w hw => hts w (List.mem_cons_of_mem _ hw)
  replace hl : lv_has ls 2 [(0, .ref x), (1, .int k1)] := hl
  refine lv_iload_n hx hb d_X_copy_0 rfl (lv_at hl 1 rfl) ?_
  refine lv_if_lt (tgt := 12) hx hb d_X_copy_1 (by decide) (fun hc1 => ?_) (fun hc1 => ?_)
  · skip
    refine W.widen (k := 0) (n := 0) (by decide) (by decide) ?_
    exact gh_thr (bytes := Bundle.six) (index := 7) (is := 94) (E := R_IO) (ci := 8) hx hb htr hlk hno hml hl.1 hown htb hK hX hG rfl (by decide +kernel) k_2_56 k_1_12 k_2_57 (List.mem_of_getElem? (i := 9) rfl) (by decide +kernel) (by decide +kernel) (by decide +kernel) (by decide +kernel) at_IO d_X_copy_12 d_X_copy_15 d_X_copy_16 d_X_copy_18 d_X_copy_21 (by decide) (by decide) (by decide) (by decide) (fun q9 hq9 => rB_1 (by simp [m_badC, hc1]) ⟨q9, rfl, hq9, rfl⟩)
  · skip
    obtain ⟨v, hv, rfl⟩ := nI_of hc1
    refine lv_iload_n hx hb d_X_copy_4 rfl (lv_at hl 1 rfl) ?_
    refine lv_aload_n hx hb d_X_copy_5 rfl (lv_at hl 0 rfl) ?_
    refine gh_get (ci := 0) hx hb htb in_X hown hK hG hxx rfl 3 (by decide) (htb _ k_1_112) (fun _ h9 => h9) rfl d_X_copy_6 ?_
    refine lv_icmp_lt (tgt := 22) hx hb d_X_copy_9 (by decide) (fun hc9 => ?_) (fun hc9 => ?_)
    · skip
      replace hc9 : v < ht := (nc_lt (a := v) (b := ht) (by omega) (by omega) rfl rfl).mp hc9
      have hbC : m_badC (nI v) ht = false := by simp only [m_badC, Bool.or_eq_false_iff, Bool.not_eq_false', decide_eq_false_iff_not, decide_eq_true_eq]; exact ⟨hc1, (nc_lt (a := v) (b := ht) (by omega) (by omega) rfl rfl).mpr hc9⟩
      refine lv_aload_n hx hb d_X_copy_22 rfl (lv_at hl 0 rfl) ?_
      refine gh_cV (ci := 0) (As := []) (rest := []) (xF_ok b0) hx hb hml hown hK hX hG rfl hxx (c_X_requireRoom hxx hht htr) (q_X_requireRoom htb ⟨by decide, by decide⟩) (htb _ k_2_6) (htb _ k_2_8) (htb _ k_s_X_requireRoom) rfl hl.1 rfl (Nat.le_of_ble_eq_true rfl) d_X_copy_23 ⟨by decide, by decide⟩ (fun v9 h9 H l9 hp9 hG => ?_) (fun x9 h9 H l9 hp9 hG => gx_widenT (k := 1) (n := 6) (by decide) (by decide) (gh_pass hlk (fun z9 hz9 => hno z9 hz9 _) hG (rB_0 hbC (rB_1 (rB_v hp9).1 (rB_v hp9).2))))
      obtain ⟨hb9, hv9, hh9⟩ := rB_r hp9
      cases hv9
      rw [hh9] at hG
      have hroom := of_decide_eq_false hb9
      refine W.eq (g2 := F0 m 26 ls []) rfl ?_
      refine W.widen (k := 1) (n := 6) (by decide) (by decide) ?_
      refine lv_aload_n hx hb d_X_copy_26 rfl (lv_at hl 0 rfl) ?_
      refine gh_get (ci := 0) hx hb htb in_X hown hK hG hxx rfl 1 (by decide) (htb _ k_1_110) (fun _ h9 => h9) rfl d_X_copy_27 ?_
      refine lv_aload_n hx hb d_X_copy_30 rfl (lv_at hl 0 rfl) ?_
      refine gh_get (ci := 0) hx hb htb in_X hown hK hG hxx rfl 3 (by decide) (htb _ k_1_112) (fun _ h9 => h9) rfl d_X_copy_31 ?_
      refine gh_aald (v := so ht) hx hb hK hG 3 hsk rfl (vp_in_nI (by omega) (by decide)) (by rw [nI_clamp (by omega)]; exact hgs _ (by omega)) d_X_copy_34 ?_
      refine lv_aload_n hx hb d_X_copy_35 rfl (lv_at hl 0 rfl) ?_
      refine gh_get (ci := 0) hx hb htb in_X hown hK hG hxx rfl 1 (by decide) (htb _ k_1_110) (fun _ h9 => h9) rfl d_X_copy_36 ?_
      refine lv_aload_n hx hb d_X_copy_39 rfl (lv_at hl 0 rfl) ?_
      refine gh_get (ci := 0) hx hb htb in_X hown hK hG hxx rfl 3 (by decide) (htb _ k_1_112) (fun _ h9 => h9) rfl d_X_copy_40 ?_
      refine lv_iconst (v := 1) hx hb d_X_copy_43 (by decide) ?_
      refine lv_isub hx hb d_X_copy_44 ?_
      rw [show nI ht - 1 = nI (ht - 1) from pk_sub (a := ht) (b := 1) (by omega)]
      refine lv_iload_n hx hb d_X_copy_45 rfl (lv_at hl 1 rfl) ?_
      refine lv_isub hx hb d_X_copy_46 ?_
      rw [show nI (ht - 1) - (nI v) = nI ((ht - 1) - v) from pk_sub (a := (ht - 1)) (b := v) (by omega)]
      refine gh_aald (v := so ((ht - 1) - v)) hx hb hK hG 3 hsk rfl (vp_in_nI (by omega) (by decide)) (by rw [nI_clamp (by omega)]; exact hgs _ (by omega)) d_X_copy_47 ?_
      refine gh_cV (ci := 4) (As := [.ref (so ((ht - 1) - v))]) (rest := []) (xF_ok b0) hx hb hml hown hK hX hG rfl (hso ht (by omega)) (c_So_becomeLike (hso ht (by omega)) (hwo ht (by omega)) (hso ((ht - 1) - v) (by omega)) (hwo ((ht - 1) - v) (by omega)) (fun k9 => absurd (hwi _ _ (by omega) (by omega) k9) (by omega))) (q_So_becomeLike htb ⟨by decide, by decide⟩) (htb _ k_2_72) (htb _ k_2_73) (htb _ k_2_74) rfl hl.1 rfl (Nat.le_of_ble_eq_true rfl) d_X_copy_48 ⟨by decide, by decide⟩ (fun v9 h9 H l9 hp9 hG => ?_) (fun _ _ _ _ hp9 _ => by cases hp9.1)
      obtain ⟨hv9, f2, hf2, hh9⟩ := hp9
      cases hv9
      rw [hh9] at hG
      have hq1 : (gh_up h (wo ht) (.inl (cJ, 4, .inr (.inl f2)))) (wo ht) = some (.inl (cJ, 4, .inr (.inl f2))) := gh_self _ _ _
      replace hG : gh_P D vC b0 (gh_up h (wo ht) (.inl (cJ, 4, .inr (.inl f2)))) s.heap _ _ := hG
      have hsp_1 : (gh_up h (wo ht) (.inl (cJ, 4, .inr (.inl f2)))) sp = some (.inr (2, [.ref al, .ref fi, .int (nI n)])) := gh_keep (hwo ht (by omega)) hsp (by simp)
      have hal_1 : (gh_up h (wo ht) (.inl (cJ, 4, .inr (.inl f2)))) al = some (.inl (cP, 14, .inr (.inr (.inr (.inr ga))))) := gh_keep (hwo ht (by omega)) hal (by simp)
      have hfi_1 : (gh_up h (wo ht) (.inl (cJ, 4, .inr (.inl f2)))) fi = some (.inl (cI, 14, .inl gf)) := gh_keep (hwo ht (by omega)) hfi (by simp)
      have hxx_1 : (gh_up h (wo ht) (.inl (cJ, 4, .inr (.inl f2)))) x = some (.inr (0, [.ref sp, .ref sk, .ref po, .int (nI ht)])) := gh_keep (hwo ht (by omega)) hxx (by simp)
      have hsk_1 : (gh_up h (wo ht) (.inl (cJ, 4, .inr (.inl f2)))) sk = some (.inl (cS, 6, .inr (.inr (.inr (.inr gs))))) := gh_keep (hwo ht (by omega)) hsk (by simp)
      have hpo_1 : (gh_up h (wo ht) (.inl (cJ, 4, .inr (.inl f2)))) po = some (.inr (3, [.long px, .long py, .long pz, .long pw])) := gh_keep (hwo ht (by omega)) hpo (by simp)
      refine W.eq (g2 := F0 m 51 ls []) rfl ?_
      refine W.widen (k := 1) (n := 6) (by decide) (by decide) ?_
      refine lv_aload_n hx hb d_X_copy_51 rfl (lv_at hl 0 rfl) ?_
      refine lv_dup hx hb d_X_copy_52 rfl ?_
      refine gh_get (ci := 0) hx hb htb in_X hown hK hG hxx_1 rfl 3 (by decide) (htb _ k_1_112) (fun _ h9 => h9) rfl d_X_copy_53 ?_
      refine lv_iconst (v := 1) hx hb d_X_copy_56 (by decide) ?_
      refine lv_iadd hx hb d_X_copy_57 ?_
      rw [show nI ht + 1 = nI (ht + 1) from nI_1 ht]
      refine gh_put (ci := 0) (ty := .int) hx hb htb in_X t_X ty_X nm_X hown hK hG hxx_1 rfl 3 (by decide) (htb _ k_1_112) (fun _ h9 => h9) rfl (by decide +kernel) rfl rfl (Nat.le_of_ble_eq_true rfl) d_X_copy_58 (fun H l9 hG => ?_)
      have hq2 : (gh_up (gh_up h (wo ht) (.inl (cJ, 4, .inr (.inl f2)))) x (.inr (0, [.ref sp, .ref sk, .ref po, .int (nI (ht + 1))]))) x = some (.inr (0, [.ref sp, .ref sk, .ref po, .int (nI (ht + 1))])) := gh_self _ _ _
      replace hG : gh_P D vC b0 (gh_up (gh_up h (wo ht) (.inl (cJ, 4, .inr (.inl f2)))) x (.inr (0, [.ref sp, .ref sk, .ref po, .int (nI (ht + 1))]))) s.heap _ _ := hG
      have hsp_2 : (gh_up (gh_up h (wo ht) (.inl (cJ, 4, .inr (.inl f2)))) x (.inr (0, [.ref sp, .ref sk, .ref po, .int (nI (ht + 1))]))) sp = some (.inr (2, [.ref al, .ref fi, .int (nI n)])) := gh_keep hxx_1 hsp_1 (by simp)
      have hal_2 : (gh_up (gh_up h (wo ht) (.inl (cJ, 4, .inr (.inl f2)))) x (.inr (0, [.ref sp, .ref sk, .ref po, .int (nI (ht + 1))]))) al = some (.inl (cP, 14, .inr (.inr (.inr (.inr ga))))) := gh_keep hxx_1 hal_1 (by simp)
      have hfi_2 : (gh_up (gh_up h (wo ht) (.inl (cJ, 4, .inr (.inl f2)))) x (.inr (0, [.ref sp, .ref sk, .ref po, .int (nI (ht + 1))]))) fi = some (.inl (cI, 14, .inl gf)) := gh_keep hxx_1 hfi_1 (by simp)
      have hsk_2 : (gh_up (gh_up h (wo ht) (.inl (cJ, 4, .inr (.inl f2)))) x (.inr (0, [.ref sp, .ref sk, .ref po, .int (nI (ht + 1))]))) sk = some (.inl (cS, 6, .inr (.inr (.inr (.inr gs))))) := gh_keep hxx_1 hsk_1 (by simp)
      have hpo_2 : (gh_up (gh_up h (wo ht) (.inl (cJ, 4, .inr (.inl f2)))) x (.inr (0, [.ref sp, .ref sk, .ref po, .int (nI (ht + 1))]))) po = some (.inr (3, [.long px, .long py, .long pz, .long pw])) := gh_keep hxx_1 hpo_1 (by simp)
      refine lv_aload_n hx hb d_X_copy_61 rfl (lv_at hl 0 rfl) ?_
      refine gh_get (ci := 0) hx hb htb in_X hown hK hG hq2 rfl 3 (by decide) (htb _ k_1_112) (fun _ h9 => h9) rfl d_X_copy_62 ?_
      exact gh_iret hx hb hr hlk rfl hG d_X_copy_65 (rB_0 hbC (rB_0 (decide_eq_false hroom) ⟨rfl, v, f2, rfl, hc9, hf2, rfl⟩))
    · skip
      replace hc9 : ¬ v < ht := fun q9 => hc9 ((nc_lt (a := v) (b := ht) (by omega) (by omega) rfl rfl).mpr q9)
      have hq4 : ¬ nI v < nI ht := fun k9 => hc9 ((nc_lt (a := v) (b := ht) (by omega) (by omega) rfl rfl).mp k9)
      refine W.widen (k := 0) (n := 0) (by decide) (by decide) ?_
      exact gh_thr (bytes := Bundle.six) (index := 7) (is := 94) (E := R_IO) (ci := 8) hx hb htr hlk hno hml hl.1 hown htb hK hX hG rfl (by decide +kernel) k_2_56 k_1_12 k_2_57 (List.mem_of_getElem? (i := 9) rfl) (by decide +kernel) (by decide +kernel) (by decide +kernel) (by decide +kernel) at_IO d_X_copy_12 d_X_copy_15 d_X_copy_16 d_X_copy_18 d_X_copy_21 (by decide) (by decide) (by decide) (by decide) (fun q9 hq9 => rB_1 (by simp [m_badC, hq4]) ⟨q9, rfl, hq9, rfl⟩)

end
end
section
theorem k_math : Cond.code Lib.MathLoose.abs_long.x Lib.MathLoose.abs_long.code 2 (some .long) ∈ tB := mB2 211 rfl rfl
theorem nI_or (a b : Nat) : nI a ||| nI b = nI (a ||| b) := by
  apply Int32.toBitVec_inj.1
  show BitVec.ofNat 32 a ||| BitVec.ofNat 32 b = BitVec.ofNat 32 (a ||| b)
  apply BitVec.eq_of_getLsbD_eq
  intro i hi
  simp [hi]
theorem sh_1 : ∀ k, k < 14 → (1 : Int32) <<< (nI k &&& 31) = nI (2 ^ k) := by decide +kernel
theorem pb_test (f : Nat → Bool) (n i : Nat) : (pb_num f n).testBit i = (decide (i < n) && f i) := by
  induction n with
  | zero => simp [pb_num]
  | succ n ih =>
    simp only [pb_num]
    have hl := pb_lt f n
    by_cases hf : f n = true
    · rw [if_pos hf, Nat.add_comm]
      rcases Nat.lt_trichotomy i n with h | h | h
      · rw [Nat.testBit_two_pow_add_gt h, ih]
        have h2 : i < n + 1 := by omega
        simp [h, h2]
      · subst h
        rw [Nat.testBit_two_pow_add_eq, ih]
        simp [hf]
      · have h2 : ¬ i < n + 1 := by omega
        have h3 : 2 ^ n + pb_num f n < 2 ^ i := by
          have : 2 ^ (n + 1) ≤ 2 ^ i := Nat.pow_le_pow_right (by decide) (by omega)
          omega
        rw [Nat.testBit_lt_two_pow h3]
        simp [h2]
    · rw [if_neg hf, Nat.add_zero, ih]
      by_cases h : i < n
      · have h2 : i < n + 1 := by omega
        simp [h, h2]
      · by_cases h3 : i = n
        · subst h3
          simp at hf
          simp [hf]
        · have h2 : ¬ i < n + 1 := by omega
          simp [h, h2]
theorem pb_or (f g : Nat → Bool) (n : Nat) : pb_num f n ||| pb_num g n = pb_num (fun i => f i || g i) n := by
  apply Nat.eq_of_testBit_eq
  intro i
  rw [Nat.testBit_or, pb_test, pb_test, pb_test]
  cases decide (i < n) <;> simp
theorem m_bits_num (g : Nat → Bool) (n : Nat) (hn : n ≤ 14) : m_bits g n = nI (pb_num g n) := by
  induction n with
  | zero => rfl
  | succ n ih =>
    simp only [m_bits, pb_num]
    split
    · rename_i hg
      rw [ih (by omega), sh_1 n (by omega), nI_or]
      congr 1
      have hl := pb_lt g n
      rw [Nat.or_comm, Nat.add_comm]
      have := Nat.two_pow_add_eq_or_of_lt hl 1
      rw [Nat.mul_one] at this
      exact this.symm
    · rw [ih (by omega), Nat.add_zero]
theorem m_bits_or (f g : Nat → Bool) (n : Nat) (hn : n ≤ 14) : m_bits f n ||| m_bits g n = nI (pb_num (fun i => f i || g i) n) := by
  rw [m_bits_num f n hn, m_bits_num g n hn, nI_or, pb_or]
theorem pb_14 (f : Nat → Bool) {n : Nat} (hn : n ≤ 14) : pb_num f n < 16384 := Nat.lt_of_lt_of_le (pb_lt f n) (Nat.pow_le_pow_right (by decide) hn : 2 ^ n ≤ 2 ^ 14)
theorem m_only_some {on : Nat → Bool} {fs : Nat → Nat} {n : Nat} (h : ¬ m_only on fs n = -1) : ∃ k, k < n ∧ on k = true ∧ m_only on fs n = nI (fs k) := by
  unfold m_only at *
  induction n with
  | zero => exact absurd rfl h
  | succ n ih =>
    cases hf : m_fnd on fs n with
    | none => exact absurd (by rw [m_fnd_none hf (n + 1) (by omega)]; rfl) h
    | some v =>
      cases ho : on n with
      | false =>
        rw [m_fnd_s1 hf ho] at h ⊢
        rw [hf] at ih
        obtain ⟨k, h1, h2, h3⟩ := ih h
        exact ⟨k, by omega, h2, h3⟩
      | true =>
        by_cases h1 : v = -1
        · rw [m_fnd_s2 hf ho (Or.inl h1)] at h ⊢
          exact ⟨n, by omega, ho, rfl⟩
        · by_cases h2 : v = nI (fs n)
          · rw [m_fnd_s2 hf ho (Or.inr h2)] at h ⊢
            exact ⟨n, by omega, ho, rfl⟩
          · exact absurd (by rw [m_fnd_n hf ho h1 h2]; rfl) h
def m_look (L M : Bool) : Int32 := if L = M then 0 else if L = true then 1 else -1
def m_ox (ax : Int32) (al u v w : Int64) : Int64 := if ax = 0 then al else u * w
def m_oy (ax : Int32) (al u v w : Int64) : Int64 := if ax = 0 then u * w else if ax = 1 then al else v * w
def m_oz (ax : Int32) (al u v w : Int64) : Int64 := if ax = 0 then v * w else if ax = 1 then v * w else al
theorem m_onax_eq (ax : Int32) (al u v w : Int64) : m_onax ax al u v w = [.long (m_ox ax al u v w), .long (m_oy ax al u v w), .long (m_oz ax al u v w), .long w] := by
  unfold m_onax m_ox m_oy m_oz
  split
  · rfl
  · split <;> rfl
/-- the two cells beside a point on the face fc, as numbers -/
def m_cs (n : Nat) (fs : Nat → Nat) (pa pb pc pd : Nat → Int64) (fc : Nat) (sm : Bool) (x y z w : Int64) : Nat := pb_num (fun i => decide (m_exc (pa i) (pb i) (pc i) (pd i) x y z w < 0) || (decide (fs i = fc) && (m_lk (pa i) (pb i) (pc i) (pa fc) (pb fc) (pc fc) == sm))) n
def m_lkat (f : Nat → Int64) (n : Nat) (fs : Nat → Nat) (pa pb pc pd : Nat → Int64) (fc : Nat) (x y z w : Int64) : Int32 := m_look (m_top f (m_cs n fs pa pb pc pd fc true x y z w)) (m_top f (m_cs n fs pa pb pc pd fc false x y z w))
/-- where the line meets a plane -/
def e_mis (ax : Int32) (u v pa pb pc pd : Int64) : Int64 := -(m_exc pa pb pc pd (m_ox ax 0 u v 1) (m_oy ax 0 u v 1) (m_oz ax 0 u v 1) 1)
def e_al (ax : Int32) (u v pa pb pc pd : Int64) : Int64 := if m_fac ax pa pb pc < 0 then -(e_mis ax u v pa pb pc pd) else e_mis ax u v pa pb pc pd
def e_w (ax : Int32) (pa pb pc : Int64) : Int64 := if 0 < m_fac ax pa pb pc then m_fac ax pa pb pc else -(m_fac ax pa pb pc)
def e_x (ax : Int32) (u v pa pb pc pd : Int64) : Int64 := m_ox ax (e_al ax u v pa pb pc pd) u v (e_w ax pa pb pc)
def e_y (ax : Int32) (u v pa pb pc pd : Int64) : Int64 := m_oy ax (e_al ax u v pa pb pc pd) u v (e_w ax pa pb pc)
def e_z (ax : Int32) (u v pa pb pc pd : Int64) : Int64 := m_oz ax (e_al ax u v pa pb pc pd) u v (e_w ax pa pb pc)

section
variable {l : Launch} {D : va_G} {cI cJ cP cS : ClassId} {b0 : Nat} {h : gh_M}

set_option maxHeartbeats 4000000 in
set_option maxRecDepth 100000 in
/-- topHas -/
theorem c_X_topHas {sp al fi : Nat} {n : Nat} {ga : Nat → Option Nat} {gf : Nat → Int32} {pl fs : Nat → Nat} {pa pb pc pd : Nat → Int64} (hsp : h sp = some (.inr (2, [.ref al, .ref fi, .int (nI n)]))) (hal : h al = some (.inl (cP, 14, .inr (.inr (.inr (.inr ga)))))) (hfi : h fi = some (.inl (cI, 14, .inl gf))) (hga : ∀ i, i < n → ga i = some (pl i)) (hgf : ∀ i, i < n → gf i = nI (fs i)) (hfs : ∀ i, fs i < 14) (hpl : ∀ i, i < n → h (pl i) = some (.inr (1, [.long (pa i), .long (pb i), .long (pc i), .long (pd i)]))) (hn : n ≤ 14) (h6 : 6 ≤ n) {x sk po : Nat} {gs : Nat → Option Nat} {so wo : Nat → Nat} {wd : Nat → Nat → Int64} {ht : Nat} {px py pz pw : Int64} (hxx : h x = some (.inr (0, [.ref sp, .ref sk, .ref po, .int (nI ht)]))) (hsk : h sk = some (.inl (cS, 6, .inr (.inr (.inr (.inr gs)))))) (hgs : ∀ j, j < 6 → gs j = some (so j)) (hpo : h po = some (.inr (3, [.long px, .long py, .long pz, .long pw]))) (hso : ∀ j, j < 6 → h (so j) = some (.inr (4, [.ref (wo j)]))) (hwo : ∀ j, j < 6 → h (wo j) = some (.inl (cJ, 4, .inr (.inl (wd j))))) (hwi : ∀ i j, i < 6 → j < 6 → wo i = wo j → i = j) (hht : ht ≤ 6) (hs1 : 1 ≤ ht) {ce : Nat} (hce : ce < 16384) : gh_C l D vC (tZ cI cJ cP cS) (xF b0) b0 y_X_topHas w_X_topHas ({ frames := 1, cells := 0, slots := 0, locals := 24 }) [.ref x, .int (nI ce)] h (rI (m_b (m_top (wd (ht - 1)) ce)) h) := by
  refine gh_ofW (by decide) (Nat.le_of_ble_eq_true rfl) ?_
  intro p e s m below meth c ls hctx hno hl hG hK hX
  obtain ⟨hx, hb, hr, hml, hown, hlk, hts, hnm⟩ := hctx
  have htb : ∀ w ∈ tB, w.before _ s = true := fun w hw => hts w (List.mem_cons_of_mem _ hw)
  replace hl : lv_has ls 2 [(0, .ref x), (1, .int (nI ce))] := hl
  refine lv_iload_n hx hb d_X_topHas_0 rfl (lv_at hl 1 rfl) ?_
  refine gh_cS (As := [.int (nI ce)]) (rest := []) (xF_ok b0) hx hb hml hown hK hX hG c_Ps_isCellInBox (q_Ps_isCellInBox htb ⟨by decide, by decide⟩) (htb _ k_2_115) (htb _ k_2_116) rfl hl.1 rfl (Nat.le_of_ble_eq_true rfl) d_X_topHas_1 ⟨by decide, by decide⟩ (fun v9 h9 H l9 hp9 hG => ?_) (fun _ _ _ _ hp9 _ => by cases hp9.1)
  obtain ⟨hv9, hh9⟩ := hp9
  cases hv9
  rw [hh9] at hG
  refine W.eq (g2 := F0 m 4 ls [.int (m_b (decide ((nI ce) &&& 63 = 63)))]) rfl ?_
  refine W.widen (k := 0) (n := 0) (by decide) (by decide) ?_
  refine lv_if_eq (tgt := 32) hx hb d_X_topHas_4 (by decide) (fun hc4 => ?_) (fun hc4 => ?_)
  · skip
    replace hc4 := mb_0.mp hc4
    refine lv_iconst (v := 0) hx hb d_X_topHas_32 (by decide) ?_
    exact gh_iret hx hb hr hlk rfl hG d_X_topHas_33 ⟨by simp [m_top, m_b, hc4], rfl⟩
  · skip
    replace hc4 := mb_1.mp hc4
    refine lv_aload_n hx hb d_X_topHas_7 rfl (lv_at hl 0 rfl) ?_
    refine gh_get (ci := 0) hx hb htb in_X hown hK hG hxx rfl 1 (by decide) (htb _ k_1_110) (fun _ h9 => h9) rfl d_X_topHas_8 ?_
    refine lv_aload_n hx hb d_X_topHas_11 rfl (lv_at hl 0 rfl) ?_
    refine gh_get (ci := 0) hx hb htb in_X hown hK hG hxx rfl 3 (by decide) (htb _ k_1_112) (fun _ h9 => h9) rfl d_X_topHas_12 ?_
    refine lv_iconst (v := 1) hx hb d_X_topHas_15 (by decide) ?_
    refine lv_isub hx hb d_X_topHas_16 ?_
    rw [show nI ht - 1 = nI (ht - 1) from pk_sub (a := ht) (b := 1) (by omega)]
    refine gh_aald (v := so (ht - 1)) hx hb hK hG 3 hsk rfl (vp_in_nI (by omega) (by decide)) (by rw [nI_clamp (by omega)]; exact hgs _ (by omega)) d_X_topHas_17 ?_
    refine lv_iload_n hx hb d_X_topHas_18 rfl (lv_at hl 1 rfl) ?_
    refine gh_cS (As := [.int (nI ce)]) (rest := [.ref (so (ht - 1))]) (xF_ok b0) hx hb hml hown hK hX hG c_Ps_givenOfCell (q_Ps_givenOfCell htb ⟨by decide, by decide⟩) (htb _ k_2_118) (htb _ k_2_119) rfl hl.1 rfl (Nat.le_of_ble_eq_true rfl) d_X_topHas_19 ⟨by decide, by decide⟩ (fun v9 h9 H l9 hp9 hG => ?_) (fun _ _ _ _ hp9 _ => by cases hp9.1)
    obtain ⟨hv9, hh9⟩ := hp9
    cases hv9
    rw [hh9] at hG
    refine W.eq (g2 := F0 m 22 ls [.int (nI ce >>> ((6 : Int32) &&& 31)), .ref (so (ht - 1))]) rfl ?_
    refine W.widen (k := 0) (n := 0) (by decide) (by decide) ?_
    rw [show nI ce >>> ((6 : Int32) &&& 31) = nI (ce / 64) from pk_shrN (by omega) _ 6 (by decide)]
    refine gh_cV (ci := 4) (As := [.int (nI (ce / 64))]) (rest := []) (xF_ok b0) hx hb hml hown hK hX hG rfl (hso (ht - 1) (by omega)) (c_So_has (hso (ht - 1) (by omega)) (hwo (ht - 1) (by omega)) (by omega)) (q_So_has htb ⟨by decide, by decide⟩) (htb _ k_2_121) (htb _ k_2_122) (htb _ k_2_123) rfl hl.1 rfl (Nat.le_of_ble_eq_true rfl) d_X_topHas_22 ⟨by decide, by decide⟩ (fun v9 h9 H l9 hp9 hG => ?_) (fun _ _ _ _ hp9 _ => by cases hp9.1)
    obtain ⟨hv9, hh9⟩ := hp9
    cases hv9
    rw [hh9] at hG
    refine W.eq (g2 := F0 m 25 ls [.int (m_b (m_has (wd (ht - 1)) (ce / 64)))]) rfl ?_
    refine W.widen (k := 0) (n := 0) (by decide) (by decide) ?_
    refine lv_if_eq (tgt := 32) hx hb d_X_topHas_25 (by decide) (fun hc25 => ?_) (fun hc25 => ?_)
    · skip
      replace hc25 := mb_0.mp hc25
      refine lv_iconst (v := 0) hx hb d_X_topHas_32 (by decide) ?_
      exact gh_iret hx hb hr hlk rfl hG d_X_topHas_33 ⟨by simp [m_top, m_b, hc4, hc25], rfl⟩
    · skip
      replace hc25 := mb_1.mp hc25
      refine lv_iconst (v := 1) hx hb d_X_topHas_28 (by decide) ?_
      refine lv_goto (tgt := 33) hx hb d_X_topHas_29 (by decide) ?_
      exact gh_iret hx hb hr hlk rfl hG d_X_topHas_33 ⟨by simp [m_top, m_b, hc4, hc25], rfl⟩

set_option maxHeartbeats 4000000 in
set_option maxRecDepth 100000 in
/-- lookAtSpot -/
theorem c_X_lookAtSpot {sp al fi : Nat} {n : Nat} {ga : Nat → Option Nat} {gf : Nat → Int32} {pl fs : Nat → Nat} {pa pb pc pd : Nat → Int64} (hsp : h sp = some (.inr (2, [.ref al, .ref fi, .int (nI n)]))) (hal : h al = some (.inl (cP, 14, .inr (.inr (.inr (.inr ga)))))) (hfi : h fi = some (.inl (cI, 14, .inl gf))) (hga : ∀ i, i < n → ga i = some (pl i)) (hgf : ∀ i, i < n → gf i = nI (fs i)) (hfs : ∀ i, fs i < 14) (hpl : ∀ i, i < n → h (pl i) = some (.inr (1, [.long (pa i), .long (pb i), .long (pc i), .long (pd i)]))) (hn : n ≤ 14) (h6 : 6 ≤ n) {x sk po : Nat} {gs : Nat → Option Nat} {so wo : Nat → Nat} {wd : Nat → Nat → Int64} {ht : Nat} {px py pz pw : Int64} (hxx : h x = some (.inr (0, [.ref sp, .ref sk, .ref po, .int (nI ht)]))) (hsk : h sk = some (.inl (cS, 6, .inr (.inr (.inr (.inr gs)))))) (hgs : ∀ j, j < 6 → gs j = some (so j)) (hpo : h po = some (.inr (3, [.long px, .long py, .long pz, .long pw]))) (hso : ∀ j, j < 6 → h (so j) = some (.inr (4, [.ref (wo j)]))) (hwo : ∀ j, j < 6 → h (wo j) = some (.inl (cJ, 4, .inr (.inl (wd j))))) (hwi : ∀ i j, i < 6 → j < 6 → wo i = wo j → i = j) (hht : ht ≤ 6) (hs1 : 1 ≤ ht) {fc : Nat} (hfc : fc < n) : gh_C l D vC (tZ cI cJ cP cS) (xF b0) b0 y_X_lookAtSpot w_X_lookAtSpot ({ frames := 3, cells := 0, slots := 0, locals := 80 }) [.ref x, .int (nI fc)] h (rI (m_lkat (wd (ht - 1)) n fs pa pb pc pd fc px py pz pw) h) := by
  refine gh_ofW (by decide) (Nat.le_of_ble_eq_true rfl) ?_
  intro p e s m below meth c ls hctx hno hl hG hK hX
  obtain ⟨hx, hb, hr, hml, hown, hlk, hts, hnm⟩ := hctx
  have htb : ∀ w ∈ tB, w.before _ s = true := fun w hw => hts w (List.mem_cons_of_mem _ hw)
  replace hl : lv_has ls 4 [(0, .ref x), (1, .int (nI fc))] := hl
  refine lv_aload_n hx hb d_X_lookAtSpot_0 rfl (lv_at hl 0 rfl) ?_
  refine lv_aload_n hx hb d_X_lookAtSpot_1 rfl (lv_at hl 0 rfl) ?_
  refine gh_get (ci := 0) hx hb htb in_X hown hK hG hxx rfl 0 (by decide) (htb _ k_1_109) (fun _ h9 => h9) rfl d_X_lookAtSpot_2 ?_
  refine lv_aload_n hx hb d_X_lookAtSpot_5 rfl (lv_at hl 0 rfl) ?_
  refine gh_get (ci := 0) hx hb htb in_X hown hK hG hxx rfl 2 (by decide) (htb _ k_1_111) (fun _ h9 => h9) rfl d_X_lookAtSpot_6 ?_
  refine lv_iload_n hx hb d_X_lookAtSpot_9 rfl (lv_at hl 1 rfl) ?_
  refine gh_cV (ci := 2) (As := [.ref po, .int (nI fc)]) (rest := [.ref x]) (xF_ok b0) hx hb hml hown hK hX hG rfl hsp (c_Ps_cellWhereLess hsp hal hfi hga hgf hfs hpl hn hpo (by omega)) (q_Ps_cellWhereLess htb ⟨by decide, by decide⟩) (htb _ k_2_157) (htb _ k_2_158) (htb _ k_2_159) rfl hl.1 rfl (Nat.le_of_ble_eq_true rfl) d_X_lookAtSpot_10 ⟨by decide, by decide⟩ (fun v9 h9 H l9 hp9 hG => ?_) (fun _ _ _ _ hp9 _ => by cases hp9.1)
  obtain ⟨hv9, hh9⟩ := hp9
  cases hv9
  rw [hh9] at hG
  refine W.eq (g2 := F0 m 13 ls [.int (m_bits (fun i => decide (m_exc (pa i) (pb i) (pc i) (pd i) px py pz pw < 0)) n ||| m_bits (fun i => decide (fs i = fc) && (m_lk (pa i) (pb i) (pc i) (pa fc) (pb fc) (pc fc) == true)) n), .ref x]) rfl ?_
  refine W.widen (k := 0) (n := 0) (by decide) (by decide) ?_
  rw [m_bits_or _ _ _ hn]
  refine W.eq (g2 := F0 m 13 ls [.int (nI (m_cs n fs pa pb pc pd fc true px py pz pw)), .ref x]) rfl ?_
  refine gh_cV (ci := 0) (As := [.int (nI (m_cs n fs pa pb pc pd fc true px py pz pw))]) (rest := []) (xF_ok b0) hx hb hml hown hK hX hG rfl hxx (c_X_topHas hsp hal hfi hga hgf hfs hpl hn h6 hxx hsk hgs hpo hso hwo hwi hht hs1 (pb_14 _ hn)) (q_X_topHas htb ⟨by decide, by decide⟩) (htb _ k_2_111) (htb _ k_2_113) (htb _ k_s_X_topHas) rfl hl.1 rfl (Nat.le_of_ble_eq_true rfl) d_X_lookAtSpot_13 ⟨by decide, by decide⟩ (fun v9 h9 H l9 hp9 hG => ?_) (fun _ _ _ _ hp9 _ => by cases hp9.1)
  obtain ⟨hv9, hh9⟩ := hp9
  cases hv9
  rw [hh9] at hG
  refine W.eq (g2 := F0 m 16 ls [.int (m_b (m_top (wd (ht - 1)) (m_cs n fs pa pb pc pd fc true px py pz pw)))]) rfl ?_
  refine W.widen (k := 0) (n := 0) (by decide) (by decide) ?_
  refine lv_istore_n (lv' := [(2, .int (m_b (m_top (wd (ht - 1)) (m_cs n fs pa pb pc pd fc true px py pz pw)))), (0, .ref x), (1, .int (nI fc))]) hx hb d_X_lookAtSpot_16 rfl hl (by decide) rfl (fun ls hl => ?_)
  refine lv_aload_n hx hb d_X_lookAtSpot_17 rfl (lv_at hl 1 rfl) ?_
  refine lv_aload_n hx hb d_X_lookAtSpot_18 rfl (lv_at hl 1 rfl) ?_
  refine gh_get (ci := 0) hx hb htb in_X hown hK hG hxx rfl 0 (by decide) (htb _ k_1_109) (fun _ h9 => h9) rfl d_X_lookAtSpot_19 ?_
  refine lv_aload_n hx hb d_X_lookAtSpot_22 rfl (lv_at hl 1 rfl) ?_
  refine gh_get (ci := 0) hx hb htb in_X hown hK hG hxx rfl 2 (by decide) (htb _ k_1_111) (fun _ h9 => h9) rfl d_X_lookAtSpot_23 ?_
  refine lv_iload_n hx hb d_X_lookAtSpot_26 rfl (lv_at hl 2 rfl) ?_
  refine gh_cV (ci := 2) (As := [.ref po, .int (nI fc)]) (rest := [.ref x]) (xF_ok b0) hx hb hml hown hK hX hG rfl hsp (c_Ps_cellWhereMore hsp hal hfi hga hgf hfs hpl hn hpo (by omega)) (q_Ps_cellWhereMore htb ⟨by decide, by decide⟩) (htb _ k_2_170) (htb _ k_2_171) (htb _ k_2_172) rfl hl.1 rfl (Nat.le_of_ble_eq_true rfl) d_X_lookAtSpot_27 ⟨by decide, by decide⟩ (fun v9 h9 H l9 hp9 hG => ?_) (fun _ _ _ _ hp9 _ => by cases hp9.1)
  obtain ⟨hv9, hh9⟩ := hp9
  cases hv9
  rw [hh9] at hG
  refine W.eq (g2 := F0 m 30 ls [.int (m_bits (fun i => decide (m_exc (pa i) (pb i) (pc i) (pd i) px py pz pw < 0)) n ||| m_bits (fun i => decide (fs i = fc) && (m_lk (pa i) (pb i) (pc i) (pa fc) (pb fc) (pc fc) == false)) n), .ref x]) rfl ?_
  refine W.widen (k := 0) (n := 0) (by decide) (by decide) ?_
  rw [m_bits_or _ _ _ hn]
  refine W.eq (g2 := F0 m 30 ls [.int (nI (m_cs n fs pa pb pc pd fc false px py pz pw)), .ref x]) rfl ?_
  refine gh_cV (ci := 0) (As := [.int (nI (m_cs n fs pa pb pc pd fc false px py pz pw))]) (rest := []) (xF_ok b0) hx hb hml hown hK hX hG rfl hxx (c_X_topHas hsp hal hfi hga hgf hfs hpl hn h6 hxx hsk hgs hpo hso hwo hwi hht hs1 (pb_14 _ hn)) (q_X_topHas htb ⟨by decide, by decide⟩) (htb _ k_2_111) (htb _ k_2_113) (htb _ k_s_X_topHas) rfl hl.1 rfl (Nat.le_of_ble_eq_true rfl) d_X_lookAtSpot_30 ⟨by decide, by decide⟩ (fun v9 h9 H l9 hp9 hG => ?_) (fun _ _ _ _ hp9 _ => by cases hp9.1)
  obtain ⟨hv9, hh9⟩ := hp9
  cases hv9
  rw [hh9] at hG
  refine W.eq (g2 := F0 m 33 ls [.int (m_b (m_top (wd (ht - 1)) (m_cs n fs pa pb pc pd fc false px py pz pw)))]) rfl ?_
  refine W.widen (k := 0) (n := 0) (by decide) (by decide) ?_
  refine lv_istore_n (lv' := [(3, .int (m_b (m_top (wd (ht - 1)) (m_cs n fs pa pb pc pd fc false px py pz pw)))), (2, .int (m_b (m_top (wd (ht - 1)) (m_cs n fs pa pb pc pd fc true px py pz pw)))), (0, .ref x), (1, .int (nI fc))]) hx hb d_X_lookAtSpot_33 rfl hl (by decide) rfl (fun ls hl => ?_)
  refine lv_iload_n hx hb d_X_lookAtSpot_34 rfl (lv_at hl 1 rfl) ?_
  refine lv_iload_n hx hb d_X_lookAtSpot_35 rfl (lv_at hl 0 rfl) ?_
  refine lv_icmp_ne (tgt := 41) hx hb d_X_lookAtSpot_36 (by decide) (fun hc36 => ?_) (fun hc36 => ?_)
  · skip
    refine lv_iload_n hx hb d_X_lookAtSpot_41 rfl (lv_at hl 1 rfl) ?_
    refine lv_if_eq (tgt := 49) hx hb d_X_lookAtSpot_42 (by decide) (fun hc42 => ?_) (fun hc42 => ?_)
    · skip
      replace hc42 := mb_0.mp hc42
      refine lv_iconst (v := (-1)) hx hb d_X_lookAtSpot_49 (by decide) ?_
      exact gh_iret hx hb hr hlk rfl hG d_X_lookAtSpot_50 ⟨by unfold m_lkat m_look; rw [if_neg (fun k9 => hc36 (mb_eq.mpr k9)), if_neg (by rw [hc42]; decide)], rfl⟩
    · skip
      replace hc42 := mb_1.mp hc42
      refine lv_iconst (v := 1) hx hb d_X_lookAtSpot_45 (by decide) ?_
      refine lv_goto (tgt := 50) hx hb d_X_lookAtSpot_46 (by decide) ?_
      exact gh_iret hx hb hr hlk rfl hG d_X_lookAtSpot_50 ⟨by unfold m_lkat m_look; rw [if_neg (fun k9 => hc36 (mb_eq.mpr k9)), if_pos hc42], rfl⟩
  · skip
    refine lv_iconst (v := 0) hx hb d_X_lookAtSpot_39 (by decide) ?_
    exact gh_iret hx hb hr hlk rfl hG d_X_lookAtSpot_40 ⟨by unfold m_lkat m_look; rw [if_pos (mb_eq.mp hc36)], rfl⟩

set_option maxHeartbeats 4000000 in
set_option maxRecDepth 100000 in
/-- inside -/
theorem c_X_inside {sp al fi : Nat} {n : Nat} {ga : Nat → Option Nat} {gf : Nat → Int32} {pl fs : Nat → Nat} {pa pb pc pd : Nat → Int64} (hsp : h sp = some (.inr (2, [.ref al, .ref fi, .int (nI n)]))) (hal : h al = some (.inl (cP, 14, .inr (.inr (.inr (.inr ga)))))) (hfi : h fi = some (.inl (cI, 14, .inl gf))) (hga : ∀ i, i < n → ga i = some (pl i)) (hgf : ∀ i, i < n → gf i = nI (fs i)) (hfs : ∀ i, fs i < 14) (hpl : ∀ i, i < n → h (pl i) = some (.inr (1, [.long (pa i), .long (pb i), .long (pc i), .long (pd i)]))) (hn : n ≤ 14) (h6 : 6 ≤ n) {x sk po : Nat} {gs : Nat → Option Nat} {so wo : Nat → Nat} {wd : Nat → Nat → Int64} {ht : Nat} {px py pz pw : Int64} (hxx : h x = some (.inr (0, [.ref sp, .ref sk, .ref po, .int (nI ht)]))) (hsk : h sk = some (.inl (cS, 6, .inr (.inr (.inr (.inr gs)))))) (hgs : ∀ j, j < 6 → gs j = some (so j)) (hpo : h po = some (.inr (3, [.long px, .long py, .long pz, .long pw]))) (hso : ∀ j, j < 6 → h (so j) = some (.inr (4, [.ref (wo j)]))) (hwo : ∀ j, j < 6 → h (wo j) = some (.inl (cJ, 4, .inr (.inl (wd j))))) (hwi : ∀ i j, i < 6 → j < 6 → wo i = wo j → i = j) (hht : ht ≤ 6) {a1 b1 c1 d1 : Int32} (htr : xc_off l) : gh_C l D vC (tZ cI cJ cP cS) (xF b0) b0 y_X_inside w_X_inside ({ frames := 7, cells := 2, slots := 12, locals := 130 }) [.ref x, .int a1, .int b1, .int c1, .int d1] h (rB (m_badQ a1 b1 c1 d1) (rT 6 h) (rB (decide (ht = 0)) (rT 7 h) (fun oc h2 => oc = .returned (some (.int (if m_any (fun i => decide (m_exc (pa i) (pb i) (pc i) (pd i) (Int32.toInt64 a1) (Int32.toInt64 b1) (Int32.toInt64 c1) (Int32.toInt64 d1) = 0)) n = true then 2 else m_b (m_top (wd (ht - 1)) (pb_num (fun i => decide (m_exc (pa i) (pb i) (pc i) (pd i) (Int32.toInt64 a1) (Int32.toInt64 b1) (Int32.toInt64 c1) (Int32.toInt64 d1) < 0)) n))))) ∧ h2 = gh_up h po (.inr (3, [.long (Int32.toInt64 a1), .long (Int32.toInt64 b1), .long (Int32.toInt64 c1), .long (Int32.toInt64 d1)]))))) := by
  refine gh_ofW (by decide) (Nat.le_of_ble_eq_true rfl) ?_
  intro p e s m below meth c ls hctx hno hl hG hK hX
  obtain ⟨hx, hb, hr, hml, hown, hlk, hts, hnm⟩ := hctx
  have htb : ∀ w ∈ tB, w.before _ s = true := fun w hw => hts w (List.mem_cons_of_mem _ hw)
  replace hl : lv_has ls 5 [(0, .ref x), (1, .int a1), (2, .int b1), (3, .int c1), (4, .int d1)] := hl
  refine lv_iload_n hx hb d_X_inside_0 rfl (lv_at hl 1 rfl) ?_
  refine lv_iload_n hx hb d_X_inside_1 rfl (lv_at hl 2 rfl) ?_
  refine lv_iload_n hx hb d_X_inside_2 rfl (lv_at hl 3 rfl) ?_
  refine lv_iload hx hb d_X_inside_3 (lv_at hl 4 rfl) ?_
  refine gh_cS (As := [.int a1, .int b1, .int c1, .int d1]) (rest := []) (xF_ok b0) hx hb hml hown hK hX hG (c_X_requirePoint htr) (q_X_requirePoint htb ⟨by decide, by decide⟩) (htb _ k_2_90) (htb _ k_2_91) rfl hl.1 rfl (Nat.le_of_ble_eq_true rfl) d_X_inside_5 ⟨by decide, by decide⟩ (fun v9 h9 H l9 hp9 hG => ?_) (fun x9 h9 H l9 hp9 hG => gx_widenT (k := 2) (n := 12) (by decide) (by decide) (gh_pass hlk (fun z9 hz9 => hno z9 hz9 _) hG (rB_1 (rB_v hp9).1 (rB_v hp9).2)))
  obtain ⟨hbq, hv9, hh9⟩ := rB_r hp9
  cases hv9
  rw [hh9] at hG
  refine W.eq (g2 := F0 m 8 ls []) rfl ?_
  refine W.widen (k := 1) (n := 6) (by decide) (by decide) ?_
  refine lv_aload_n hx hb d_X_inside_8 rfl (lv_at hl 0 rfl) ?_
  refine gh_cV (ci := 0) (As := []) (rest := []) (xF_ok b0) hx hb hml hown hK hX hG rfl hxx (c_X_requireSolid hxx hht htr) (q_X_requireSolid htb ⟨by decide, by decide⟩) (htb _ k_2_39) (htb _ k_2_41) (htb _ k_s_X_requireSolid) rfl hl.1 rfl (Nat.le_of_ble_eq_true rfl) d_X_inside_9 ⟨by decide, by decide⟩ (fun v9 h9 H l9 hp9 hG => ?_) (fun x9 h9 H l9 hp9 hG => gx_widenT (k := 2) (n := 12) (by decide) (by decide) (gh_pass hlk (fun z9 hz9 => hno z9 hz9 _) hG (rB_0 hbq (rB_1 (rB_v hp9).1 (rB_v hp9).2))))
  obtain ⟨hb9, hv9, hh9⟩ := rB_r hp9
  cases hv9
  rw [hh9] at hG
  have hsol := of_decide_eq_false hb9
  refine W.eq (g2 := F0 m 12 ls []) rfl ?_
  refine W.widen (k := 2) (n := 12) (by decide) (by decide) ?_
  have hs1 : 1 ≤ ht := by omega
  refine lv_aload_n hx hb d_X_inside_12 rfl (lv_at hl 0 rfl) ?_
  refine gh_get (ci := 0) hx hb htb in_X hown hK hG hxx rfl 2 (by decide) (htb _ k_1_111) (fun _ h9 => h9) rfl d_X_inside_13 ?_
  refine lv_iload_n hx hb d_X_inside_16 rfl (lv_at hl 1 rfl) ?_
  refine lv_i2l (v := Int32.toInt64 a1) hx hb d_X_inside_17 rfl ?_
  refine lv_iload_n hx hb d_X_inside_18 rfl (lv_at hl 2 rfl) ?_
  refine lv_i2l (v := Int32.toInt64 b1) hx hb d_X_inside_19 rfl ?_
  refine lv_iload_n hx hb d_X_inside_20 rfl (lv_at hl 3 rfl) ?_
  refine lv_i2l (v := Int32.toInt64 c1) hx hb d_X_inside_21 rfl ?_
  refine lv_iload hx hb d_X_inside_22 (lv_at hl 4 rfl) ?_
  refine lv_i2l (v := Int32.toInt64 d1) hx hb d_X_inside_24 rfl ?_
  refine gh_cV (ci := 3) (As := [.long (Int32.toInt64 a1), .long (Int32.toInt64 b1), .long (Int32.toInt64 c1), .long (Int32.toInt64 d1)]) (rest := []) (xF_ok b0) hx hb hml hown hK hX hG rfl hpo (c_Pt_place hpo) (q_Pt_place htb ⟨by decide, by decide⟩) (htb _ k_2_95) (htb _ k_2_96) (htb _ k_2_97) rfl hl.1 rfl (Nat.le_of_ble_eq_true rfl) d_X_inside_25 ⟨by decide, by decide⟩ (fun v9 h9 H l9 hp9 hG => ?_) (fun _ _ _ _ hp9 _ => by cases hp9.1)
  obtain ⟨hv9, hh9⟩ := hp9
  cases hv9
  rw [hh9] at hG
  have hq1 : (gh_up h po (.inr (3, [.long (Int32.toInt64 a1), .long (Int32.toInt64 b1), .long (Int32.toInt64 c1), .long (Int32.toInt64 d1)]))) po = some (.inr (3, [.long (Int32.toInt64 a1), .long (Int32.toInt64 b1), .long (Int32.toInt64 c1), .long (Int32.toInt64 d1)])) := gh_self _ _ _
  replace hG : gh_P D vC b0 (gh_up h po (.inr (3, [.long (Int32.toInt64 a1), .long (Int32.toInt64 b1), .long (Int32.toInt64 c1), .long (Int32.toInt64 d1)]))) s.heap _ _ := hG
  have hsp_1 : (gh_up h po (.inr (3, [.long (Int32.toInt64 a1), .long (Int32.toInt64 b1), .long (Int32.toInt64 c1), .long (Int32.toInt64 d1)]))) sp = some (.inr (2, [.ref al, .ref fi, .int (nI n)])) := gh_keep hpo hsp (by simp)
  have hal_1 : (gh_up h po (.inr (3, [.long (Int32.toInt64 a1), .long (Int32.toInt64 b1), .long (Int32.toInt64 c1), .long (Int32.toInt64 d1)]))) al = some (.inl (cP, 14, .inr (.inr (.inr (.inr ga))))) := gh_keep hpo hal (by simp)
  have hfi_1 : (gh_up h po (.inr (3, [.long (Int32.toInt64 a1), .long (Int32.toInt64 b1), .long (Int32.toInt64 c1), .long (Int32.toInt64 d1)]))) fi = some (.inl (cI, 14, .inl gf)) := gh_keep hpo hfi (by simp)
  have hxx_1 : (gh_up h po (.inr (3, [.long (Int32.toInt64 a1), .long (Int32.toInt64 b1), .long (Int32.toInt64 c1), .long (Int32.toInt64 d1)]))) x = some (.inr (0, [.ref sp, .ref sk, .ref po, .int (nI ht)])) := gh_keep hpo hxx (by simp)
  have hsk_1 : (gh_up h po (.inr (3, [.long (Int32.toInt64 a1), .long (Int32.toInt64 b1), .long (Int32.toInt64 c1), .long (Int32.toInt64 d1)]))) sk = some (.inl (cS, 6, .inr (.inr (.inr (.inr gs))))) := gh_keep hpo hsk (by simp)
  replace hpl : ∀ i, i < n → (gh_up h po (.inr (3, [.long (Int32.toInt64 a1), .long (Int32.toInt64 b1), .long (Int32.toInt64 c1), .long (Int32.toInt64 d1)]))) (pl i) = some (.inr (1, [.long (pa i), .long (pb i), .long (pc i), .long (pd i)])) := fun i hi => gh_keep hpo (hpl i hi) (by simp)
  replace hso : ∀ j, j < 6 → (gh_up h po (.inr (3, [.long (Int32.toInt64 a1), .long (Int32.toInt64 b1), .long (Int32.toInt64 c1), .long (Int32.toInt64 d1)]))) (so j) = some (.inr (4, [.ref (wo j)])) := fun j hj => gh_keep hpo (hso j hj) (by simp)
  replace hwo : ∀ j, j < 6 → (gh_up h po (.inr (3, [.long (Int32.toInt64 a1), .long (Int32.toInt64 b1), .long (Int32.toInt64 c1), .long (Int32.toInt64 d1)]))) (wo j) = some (.inl (cJ, 4, .inr (.inl (wd j)))) := fun j hj => gh_keep hpo (hwo j hj) (by simp)
  refine W.eq (g2 := F0 m 28 ls []) rfl ?_
  refine W.widen (k := 2) (n := 12) (by decide) (by decide) ?_
  refine lv_aload_n hx hb d_X_inside_28 rfl (lv_at hl 0 rfl) ?_
  refine gh_get (ci := 0) hx hb htb in_X hown hK hG hxx_1 rfl 0 (by decide) (htb _ k_1_109) (fun _ h9 => h9) rfl d_X_inside_29 ?_
  refine lv_aload_n hx hb d_X_inside_32 rfl (lv_at hl 0 rfl) ?_
  refine gh_get (ci := 0) hx hb htb in_X hown hK hG hxx_1 rfl 2 (by decide) (htb _ k_1_111) (fun _ h9 => h9) rfl d_X_inside_33 ?_
  refine gh_cV (ci := 2) (As := [.ref po]) (rest := []) (xF_ok b0) hx hb hml hown hK hX hG rfl hsp_1 (c_Ps_isOnAny hsp_1 hal_1 hfi_1 hga hgf hfs hpl hn hq1) (q_Ps_isOnAny htb ⟨by decide, by decide⟩) (htb _ k_2_99) (htb _ k_2_100) (htb _ k_2_101) rfl hl.1 rfl (Nat.le_of_ble_eq_true rfl) d_X_inside_36 ⟨by decide, by decide⟩ (fun v9 h9 H l9 hp9 hG => ?_) (fun _ _ _ _ hp9 _ => by cases hp9.1)
  obtain ⟨hv9, hh9⟩ := hp9
  cases hv9
  rw [hh9] at hG
  refine W.eq (g2 := F0 m 39 ls [.int (m_b (m_any (fun i => decide (m_exc (pa i) (pb i) (pc i) (pd i) (Int32.toInt64 a1) (Int32.toInt64 b1) (Int32.toInt64 c1) (Int32.toInt64 d1) = 0)) n))]) rfl ?_
  refine W.widen (k := 2) (n := 12) (by decide) (by decide) ?_
  refine lv_if_eq (tgt := 44) hx hb d_X_inside_39 (by decide) (fun hc39 => ?_) (fun hc39 => ?_)
  · skip
    replace hc39 := mb_0.mp hc39
    refine lv_aload_n hx hb d_X_inside_44 rfl (lv_at hl 0 rfl) ?_
    refine lv_aload_n hx hb d_X_inside_45 rfl (lv_at hl 0 rfl) ?_
    refine gh_get (ci := 0) hx hb htb in_X hown hK hG hxx_1 rfl 0 (by decide) (htb _ k_1_109) (fun _ h9 => h9) rfl d_X_inside_46 ?_
    refine lv_aload_n hx hb d_X_inside_49 rfl (lv_at hl 0 rfl) ?_
    refine gh_get (ci := 0) hx hb htb in_X hown hK hG hxx_1 rfl 2 (by decide) (htb _ k_1_111) (fun _ h9 => h9) rfl d_X_inside_50 ?_
    refine gh_cV (ci := 2) (As := [.ref po]) (rest := [.ref x]) (xF_ok b0) hx hb hml hown hK hX hG rfl hsp_1 (c_Ps_cellOf hsp_1 hal_1 hfi_1 hga hgf hfs hpl hn hq1) (q_Ps_cellOf htb ⟨by decide, by decide⟩) (htb _ k_2_107) (htb _ k_2_108) (htb _ k_2_109) rfl hl.1 rfl (Nat.le_of_ble_eq_true rfl) d_X_inside_53 ⟨by decide, by decide⟩ (fun v9 h9 H l9 hp9 hG => ?_) (fun _ _ _ _ hp9 _ => by cases hp9.1)
    obtain ⟨hv9, hh9⟩ := hp9
    cases hv9
    rw [hh9] at hG
    refine W.eq (g2 := F0 m 56 ls [.int (m_bits (fun i => decide (m_exc (pa i) (pb i) (pc i) (pd i) (Int32.toInt64 a1) (Int32.toInt64 b1) (Int32.toInt64 c1) (Int32.toInt64 d1) < 0)) n), .ref x]) rfl ?_
    refine W.widen (k := 2) (n := 12) (by decide) (by decide) ?_
    rw [m_bits_num _ _ hn]
    refine gh_cV (ci := 0) (As := [.int (nI (pb_num (fun i => decide (m_exc (pa i) (pb i) (pc i) (pd i) (Int32.toInt64 a1) (Int32.toInt64 b1) (Int32.toInt64 c1) (Int32.toInt64 d1) < 0)) n))]) (rest := []) (xF_ok b0) hx hb hml hown hK hX hG rfl hxx_1 (c_X_topHas hsp_1 hal_1 hfi_1 hga hgf hfs hpl hn h6 hxx_1 hsk_1 hgs hq1 hso hwo hwi hht hs1 (pb_14 _ hn)) (q_X_topHas htb ⟨by decide, by decide⟩) (htb _ k_2_111) (htb _ k_2_113) (htb _ k_s_X_topHas) rfl hl.1 rfl (Nat.le_of_ble_eq_true rfl) d_X_inside_56 ⟨by decide, by decide⟩ (fun v9 h9 H l9 hp9 hG => ?_) (fun _ _ _ _ hp9 _ => by cases hp9.1)
    obtain ⟨hv9, hh9⟩ := hp9
    cases hv9
    rw [hh9] at hG
    refine W.eq (g2 := F0 m 59 ls [.int (m_b (m_top (wd (ht - 1)) (pb_num (fun i => decide (m_exc (pa i) (pb i) (pc i) (pd i) (Int32.toInt64 a1) (Int32.toInt64 b1) (Int32.toInt64 c1) (Int32.toInt64 d1) < 0)) n)))]) rfl ?_
    refine W.widen (k := 2) (n := 12) (by decide) (by decide) ?_
    refine lv_if_eq (tgt := 66) hx hb d_X_inside_59 (by decide) (fun hc59 => ?_) (fun hc59 => ?_)
    · skip
      replace hc59 := mb_0.mp hc59
      refine lv_iconst (v := 0) hx hb d_X_inside_66 (by decide) ?_
      exact gh_iret hx hb hr hlk rfl hG d_X_inside_67 (rB_0 hbq (rB_0 (decide_eq_false hsol) ⟨by rw [if_neg (by rw [hc39]; decide), hc59]; rfl, rfl⟩))
    · skip
      replace hc59 := mb_1.mp hc59
      refine lv_iconst (v := 1) hx hb d_X_inside_62 (by decide) ?_
      refine lv_goto (tgt := 67) hx hb d_X_inside_63 (by decide) ?_
      exact gh_iret hx hb hr hlk rfl hG d_X_inside_67 (rB_0 hbq (rB_0 (decide_eq_false hsol) ⟨by rw [if_neg (by rw [hc39]; decide), hc59]; rfl, rfl⟩))
  · skip
    replace hc39 := mb_1.mp hc39
    refine lv_iconst (v := 2) hx hb d_X_inside_42 (by decide) ?_
    exact gh_iret hx hb hr hlk rfl hG d_X_inside_43 (rB_0 hbq (rB_0 (decide_eq_false hsol) ⟨by rw [if_pos hc39], rfl⟩))

end
end
section
/-- a loop that may make cells as it goes -/
theorem lp_upK {α : Type} {G : Nat → Array Slot → Heap → List Loc → Prop} (n : Nat) (I : Nat → α → Array Slot → Heap → List Loc → Prop) (step : ∀ k a ls H l9, k ≤ n → I k a ls H l9 → (∀ a' ls' H' l', k < n → I (k + 1) a' ls' H' l' → G (k + 1) ls' H' l') → G k ls H l9) : ∀ k a ls H l9, k ≤ n → I k a ls H l9 → G k ls H l9 := by
  have K : ∀ d k a ls H l9, n - k < d → k ≤ n → I k a ls H l9 → G k ls H l9 := by
    intro d
    induction d with
    | zero => intro k a ls H l9 hd; omega
    | succ d ih =>
      intro k a ls H l9 hd hk hI
      exact step k a ls H l9 hk hI (fun a' ls' H' l' hlt hI' => ih (k + 1) a' ls' H' l' (by omega) (by omega) hI')
  exact fun k a ls H l9 hk hI => K (n - k + 1) k a ls H l9 (by omega) hk hI

section
variable {l : Launch} {D : va_G} {cI cJ cP cS : ClassId} {b0 : Nat} {h : gh_M}

set_option maxHeartbeats 4000000 in
set_option maxRecDepth 100000 in
/-- side -/
theorem c_X_side {sp al fi : Nat} {n : Nat} {ga : Nat → Option Nat} {gf : Nat → Int32} {pl fs : Nat → Nat} {pa pb pc pd : Nat → Int64} (hsp : h sp = some (.inr (2, [.ref al, .ref fi, .int (nI n)]))) (hal : h al = some (.inl (cP, 14, .inr (.inr (.inr (.inr ga)))))) (hfi : h fi = some (.inl (cI, 14, .inl gf))) (hga : ∀ i, i < n → ga i = some (pl i)) (hgf : ∀ i, i < n → gf i = nI (fs i)) (hfs : ∀ i, fs i < 14) (hpl : ∀ i, i < n → h (pl i) = some (.inr (1, [.long (pa i), .long (pb i), .long (pc i), .long (pd i)]))) (hn : n ≤ 14) (h6 : 6 ≤ n) {x sk po : Nat} {gs : Nat → Option Nat} {so wo : Nat → Nat} {wd : Nat → Nat → Int64} {ht : Nat} {px py pz pw : Int64} (hxx : h x = some (.inr (0, [.ref sp, .ref sk, .ref po, .int (nI ht)]))) (hsk : h sk = some (.inl (cS, 6, .inr (.inr (.inr (.inr gs)))))) (hgs : ∀ j, j < 6 → gs j = some (so j)) (hpo : h po = some (.inr (3, [.long px, .long py, .long pz, .long pw]))) (hso : ∀ j, j < 6 → h (so j) = some (.inr (4, [.ref (wo j)]))) (hwo : ∀ j, j < 6 → h (wo j) = some (.inl (cJ, 4, .inr (.inl (wd j))))) (hwi : ∀ i j, i < 6 → j < 6 → wo i = wo j → i = j) (hht : ht ≤ 6) (hfi2 : ∀ i, i < n → fs i ≤ i) {a1 b1 c1 d1 : Int32} (htr : xc_off l) : gh_C l D vC (tZ cI cJ cP cS) (xF b0) b0 y_X_side w_X_side ({ frames := 7, cells := 3, slots := 18, locals := 130 }) [.ref x, .int a1, .int b1, .int c1, .int d1] h (rB (m_badQ a1 b1 c1 d1) (rT 6 h) (rB (decide (ht = 0)) (rT 7 h) (rB (decide (m_only (fun i => decide (m_exc (pa i) (pb i) (pc i) (pd i) (Int32.toInt64 a1) (Int32.toInt64 b1) (Int32.toInt64 c1) (Int32.toInt64 d1) = 0)) fs n = -1)) (rT 9 (gh_up h po (.inr (3, [.long (Int32.toInt64 a1), .long (Int32.toInt64 b1), .long (Int32.toInt64 c1), .long (Int32.toInt64 d1)])))) (fun oc h2 => oc = .returned (some (.int (m_lkat (wd (ht - 1)) n fs pa pb pc pd ((m_only (fun i => decide (m_exc (pa i) (pb i) (pc i) (pd i) (Int32.toInt64 a1) (Int32.toInt64 b1) (Int32.toInt64 c1) (Int32.toInt64 d1) = 0)) fs n).toNatClampNeg) (Int32.toInt64 a1) (Int32.toInt64 b1) (Int32.toInt64 c1) (Int32.toInt64 d1)))) ∧ h2 = gh_up h po (.inr (3, [.long (Int32.toInt64 a1), .long (Int32.toInt64 b1), .long (Int32.toInt64 c1), .long (Int32.toInt64 d1)])))))) := by
  refine gh_ofW (by decide) (Nat.le_of_ble_eq_true rfl) ?_
  intro p e s m below meth c ls hctx hno hl hG hK hX
  obtain ⟨hx, hb, hr, hml, hown, hlk, hts, hnm⟩ := hctx
  have htb : ∀ w ∈ tB, w.before _ s = true := fun w hw => hts w (List.mem_cons_of_mem _ hw)
  replace hl : lv_has ls 6 [(0, .ref x), (1, .int a1), (2, .int b1), (3, .int c1), (4, .int d1)] := hl
  refine lv_iload_n hx hb d_X_side_0 rfl (lv_at hl 1 rfl) ?_
  refine lv_iload_n hx hb d_X_side_1 rfl (lv_at hl 2 rfl) ?_
  refine lv_iload_n hx hb d_X_side_2 rfl (lv_at hl 3 rfl) ?_
  refine lv_iload hx hb d_X_side_3 (lv_at hl 4 rfl) ?_
  refine gh_cS (As := [.int a1, .int b1, .int c1, .int d1]) (rest := []) (xF_ok b0) hx hb hml hown hK hX hG (c_X_requirePoint htr) (q_X_requirePoint htb ⟨by decide, by decide⟩) (htb _ k_2_90) (htb _ k_2_91) rfl hl.1 rfl (Nat.le_of_ble_eq_true rfl) d_X_side_5 ⟨by decide, by decide⟩ (fun v9 h9 H l9 hp9 hG => ?_) (fun x9 h9 H l9 hp9 hG => gx_widenT (k := 3) (n := 18) (by decide) (by decide) (gh_pass hlk (fun z9 hz9 => hno z9 hz9 _) hG (rB_1 (rB_v hp9).1 (rB_v hp9).2)))
  obtain ⟨hbq, hv9, hh9⟩ := rB_r hp9
  cases hv9
  rw [hh9] at hG
  refine W.eq (g2 := F0 m 8 ls []) rfl ?_
  refine W.widen (k := 1) (n := 6) (by decide) (by decide) ?_
  refine lv_aload_n hx hb d_X_side_8 rfl (lv_at hl 0 rfl) ?_
  refine gh_cV (ci := 0) (As := []) (rest := []) (xF_ok b0) hx hb hml hown hK hX hG rfl hxx (c_X_requireSolid hxx hht htr) (q_X_requireSolid htb ⟨by decide, by decide⟩) (htb _ k_2_39) (htb _ k_2_41) (htb _ k_s_X_requireSolid) rfl hl.1 rfl (Nat.le_of_ble_eq_true rfl) d_X_side_9 ⟨by decide, by decide⟩ (fun v9 h9 H l9 hp9 hG => ?_) (fun x9 h9 H l9 hp9 hG => gx_widenT (k := 3) (n := 18) (by decide) (by decide) (gh_pass hlk (fun z9 hz9 => hno z9 hz9 _) hG (rB_0 hbq (rB_1 (rB_v hp9).1 (rB_v hp9).2))))
  obtain ⟨hb9, hv9, hh9⟩ := rB_r hp9
  cases hv9
  rw [hh9] at hG
  have hsol := of_decide_eq_false hb9
  refine W.eq (g2 := F0 m 12 ls []) rfl ?_
  refine W.widen (k := 2) (n := 12) (by decide) (by decide) ?_
  have hs1 : 1 ≤ ht := by omega
  refine lv_aload_n hx hb d_X_side_12 rfl (lv_at hl 0 rfl) ?_
  refine gh_get (ci := 0) hx hb htb in_X hown hK hG hxx rfl 2 (by decide) (htb _ k_1_111) (fun _ h9 => h9) rfl d_X_side_13 ?_
  refine lv_iload_n hx hb d_X_side_16 rfl (lv_at hl 1 rfl) ?_
  refine lv_i2l (v := Int32.toInt64 a1) hx hb d_X_side_17 rfl ?_
  refine lv_iload_n hx hb d_X_side_18 rfl (lv_at hl 2 rfl) ?_
  refine lv_i2l (v := Int32.toInt64 b1) hx hb d_X_side_19 rfl ?_
  refine lv_iload_n hx hb d_X_side_20 rfl (lv_at hl 3 rfl) ?_
  refine lv_i2l (v := Int32.toInt64 c1) hx hb d_X_side_21 rfl ?_
  refine lv_iload hx hb d_X_side_22 (lv_at hl 4 rfl) ?_
  refine lv_i2l (v := Int32.toInt64 d1) hx hb d_X_side_24 rfl ?_
  refine gh_cV (ci := 3) (As := [.long (Int32.toInt64 a1), .long (Int32.toInt64 b1), .long (Int32.toInt64 c1), .long (Int32.toInt64 d1)]) (rest := []) (xF_ok b0) hx hb hml hown hK hX hG rfl hpo (c_Pt_place hpo) (q_Pt_place htb ⟨by decide, by decide⟩) (htb _ k_2_95) (htb _ k_2_96) (htb _ k_2_97) rfl hl.1 rfl (Nat.le_of_ble_eq_true rfl) d_X_side_25 ⟨by decide, by decide⟩ (fun v9 h9 H l9 hp9 hG => ?_) (fun _ _ _ _ hp9 _ => by cases hp9.1)
  obtain ⟨hv9, hh9⟩ := hp9
  cases hv9
  rw [hh9] at hG
  have hq1 : (gh_up h po (.inr (3, [.long (Int32.toInt64 a1), .long (Int32.toInt64 b1), .long (Int32.toInt64 c1), .long (Int32.toInt64 d1)]))) po = some (.inr (3, [.long (Int32.toInt64 a1), .long (Int32.toInt64 b1), .long (Int32.toInt64 c1), .long (Int32.toInt64 d1)])) := gh_self _ _ _
  replace hG : gh_P D vC b0 (gh_up h po (.inr (3, [.long (Int32.toInt64 a1), .long (Int32.toInt64 b1), .long (Int32.toInt64 c1), .long (Int32.toInt64 d1)]))) s.heap _ _ := hG
  have hsp_1 : (gh_up h po (.inr (3, [.long (Int32.toInt64 a1), .long (Int32.toInt64 b1), .long (Int32.toInt64 c1), .long (Int32.toInt64 d1)]))) sp = some (.inr (2, [.ref al, .ref fi, .int (nI n)])) := gh_keep hpo hsp (by simp)
  have hal_1 : (gh_up h po (.inr (3, [.long (Int32.toInt64 a1), .long (Int32.toInt64 b1), .long (Int32.toInt64 c1), .long (Int32.toInt64 d1)]))) al = some (.inl (cP, 14, .inr (.inr (.inr (.inr ga))))) := gh_keep hpo hal (by simp)
  have hfi_1 : (gh_up h po (.inr (3, [.long (Int32.toInt64 a1), .long (Int32.toInt64 b1), .long (Int32.toInt64 c1), .long (Int32.toInt64 d1)]))) fi = some (.inl (cI, 14, .inl gf)) := gh_keep hpo hfi (by simp)
  have hxx_1 : (gh_up h po (.inr (3, [.long (Int32.toInt64 a1), .long (Int32.toInt64 b1), .long (Int32.toInt64 c1), .long (Int32.toInt64 d1)]))) x = some (.inr (0, [.ref sp, .ref sk, .ref po, .int (nI ht)])) := gh_keep hpo hxx (by simp)
  have hsk_1 : (gh_up h po (.inr (3, [.long (Int32.toInt64 a1), .long (Int32.toInt64 b1), .long (Int32.toInt64 c1), .long (Int32.toInt64 d1)]))) sk = some (.inl (cS, 6, .inr (.inr (.inr (.inr gs))))) := gh_keep hpo hsk (by simp)
  replace hpl : ∀ i, i < n → (gh_up h po (.inr (3, [.long (Int32.toInt64 a1), .long (Int32.toInt64 b1), .long (Int32.toInt64 c1), .long (Int32.toInt64 d1)]))) (pl i) = some (.inr (1, [.long (pa i), .long (pb i), .long (pc i), .long (pd i)])) := fun i hi => gh_keep hpo (hpl i hi) (by simp)
  replace hso : ∀ j, j < 6 → (gh_up h po (.inr (3, [.long (Int32.toInt64 a1), .long (Int32.toInt64 b1), .long (Int32.toInt64 c1), .long (Int32.toInt64 d1)]))) (so j) = some (.inr (4, [.ref (wo j)])) := fun j hj => gh_keep hpo (hso j hj) (by simp)
  replace hwo : ∀ j, j < 6 → (gh_up h po (.inr (3, [.long (Int32.toInt64 a1), .long (Int32.toInt64 b1), .long (Int32.toInt64 c1), .long (Int32.toInt64 d1)]))) (wo j) = some (.inl (cJ, 4, .inr (.inl (wd j)))) := fun j hj => gh_keep hpo (hwo j hj) (by simp)
  refine W.eq (g2 := F0 m 28 ls []) rfl ?_
  refine W.widen (k := 2) (n := 12) (by decide) (by decide) ?_
  refine lv_aload_n hx hb d_X_side_28 rfl (lv_at hl 0 rfl) ?_
  refine gh_get (ci := 0) hx hb htb in_X hown hK hG hxx_1 rfl 0 (by decide) (htb _ k_1_109) (fun _ h9 => h9) rfl d_X_side_29 ?_
  refine lv_aload_n hx hb d_X_side_32 rfl (lv_at hl 0 rfl) ?_
  refine gh_get (ci := 0) hx hb htb in_X hown hK hG hxx_1 rfl 2 (by decide) (htb _ k_1_111) (fun _ h9 => h9) rfl d_X_side_33 ?_
  refine gh_cV (ci := 2) (As := [.ref po]) (rest := []) (xF_ok b0) hx hb hml hown hK hX hG rfl hsp_1 (c_Ps_onlyOneAt hsp_1 hal_1 hfi_1 hga hgf hfs hpl hn hq1) (q_Ps_onlyOneAt htb ⟨by decide, by decide⟩) (htb _ k_2_133) (htb _ k_2_134) (htb _ k_2_135) rfl hl.1 rfl (Nat.le_of_ble_eq_true rfl) d_X_side_36 ⟨by decide, by decide⟩ (fun v9 h9 H l9 hp9 hG => ?_) (fun _ _ _ _ hp9 _ => by cases hp9.1)
  obtain ⟨hv9, hh9⟩ := hp9
  cases hv9
  rw [hh9] at hG
  refine W.eq (g2 := F0 m 39 ls [.int (m_only (fun i => decide (m_exc (pa i) (pb i) (pc i) (pd i) (Int32.toInt64 a1) (Int32.toInt64 b1) (Int32.toInt64 c1) (Int32.toInt64 d1) = 0)) fs n)]) rfl ?_
  refine W.widen (k := 2) (n := 12) (by decide) (by decide) ?_
  refine lv_istore (lv' := [(5, .int (m_only (fun i => decide (m_exc (pa i) (pb i) (pc i) (pd i) (Int32.toInt64 a1) (Int32.toInt64 b1) (Int32.toInt64 c1) (Int32.toInt64 d1) = 0)) fs n)), (0, .ref x), (1, .int a1), (2, .int b1), (3, .int c1), (4, .int d1)]) hx hb d_X_side_39 hl (by decide) rfl (fun ls hl => ?_)
  refine lv_iload hx hb d_X_side_41 (lv_at hl 0 rfl) ?_
  refine lv_iconst (v := (-1)) hx hb d_X_side_43 (by decide) ?_
  refine lv_icmp_ne (tgt := 57) hx hb d_X_side_44 (by decide) (fun hc44 => ?_) (fun hc44 => ?_)
  · skip
    obtain ⟨k9, hk9, hon9, he9⟩ := m_only_some hc44
    have hz9 := hfi2 k9 hk9
    rw [he9] at hl
    replace hl : lv_has ls 6 [(5, .int (nI (fs k9))), (0, .ref x), (1, .int a1), (2, .int b1), (3, .int c1), (4, .int d1)] := hl
    refine lv_aload_n hx hb d_X_side_57 rfl (lv_at hl 1 rfl) ?_
    refine lv_iload hx hb d_X_side_58 (lv_at hl 0 rfl) ?_
    refine gh_cV (ci := 0) (As := [.int (nI (fs k9))]) (rest := []) (xF_ok b0) hx hb hml hown hK hX hG rfl hxx_1 (c_X_lookAtSpot hsp_1 hal_1 hfi_1 hga hgf hfs hpl hn h6 hxx_1 hsk_1 hgs hq1 hso hwo hwi hht hs1 (fc := (fs k9)) (by omega)) (q_X_lookAtSpot htb ⟨by decide, by decide⟩) (htb _ k_2_153) (htb _ k_2_155) (htb _ k_s_X_lookAtSpot) rfl hl.1 rfl (Nat.le_of_ble_eq_true rfl) d_X_side_60 ⟨by decide, by decide⟩ (fun v9 h9 H l9 hp9 hG => ?_) (fun _ _ _ _ hp9 _ => by cases hp9.1)
    obtain ⟨hv9, hh9⟩ := hp9
    cases hv9
    rw [hh9] at hG
    refine W.eq (g2 := F0 m 63 ls [.int (m_lkat (wd (ht - 1)) n fs pa pb pc pd (fs k9) (Int32.toInt64 a1) (Int32.toInt64 b1) (Int32.toInt64 c1) (Int32.toInt64 d1))]) rfl ?_
    refine W.widen (k := 2) (n := 12) (by decide) (by decide) ?_
    refine W.widen (k := 3) (n := 18) (by decide) (by decide) ?_
    exact gh_iret hx hb hr hlk rfl hG d_X_side_63 (rB_0 hbq (rB_0 (decide_eq_false hsol) (rB_0 (decide_eq_false hc44) ⟨by rw [he9, nI_clamp (by have z9 := hfs k9; omega)], rfl⟩)))
  · skip
    refine W.widen (k := 2) (n := 12) (by decide) (by decide) ?_
    exact gh_thr (bytes := prog_16_method_4_code) (index := 13) (is := 125) (E := R_NS) (ci := 9) hx hb htr hlk hno hml hl.1 hown htb hK hX hG rfl (by decide +kernel) k_2_137 k_1_13 k_2_138 (List.mem_of_getElem? (i := 12) rfl) (by decide +kernel) (by decide +kernel) (by decide +kernel) (by decide +kernel) at_NS d_X_side_47 d_X_side_50 d_X_side_51 d_X_side_53 d_X_side_56 (by decide) (by decide) (by decide) (by decide) (fun q9 hq9 => rB_0 hbq (rB_0 (decide_eq_false hsol) (rB_1 (decide_eq_true hc44) ⟨q9, rfl, hq9, rfl⟩)))

set_option maxHeartbeats 4000000 in
set_option maxRecDepth 100000 in
/-- isEntry -/
theorem c_X_isEntry {sp al fi : Nat} {n : Nat} {ga : Nat → Option Nat} {gf : Nat → Int32} {pl fs : Nat → Nat} {pa pb pc pd : Nat → Int64} (hsp : h sp = some (.inr (2, [.ref al, .ref fi, .int (nI n)]))) (hal : h al = some (.inl (cP, 14, .inr (.inr (.inr (.inr ga)))))) (hfi : h fi = some (.inl (cI, 14, .inl gf))) (hga : ∀ i, i < n → ga i = some (pl i)) (hgf : ∀ i, i < n → gf i = nI (fs i)) (hfs : ∀ i, fs i < 14) (hpl : ∀ i, i < n → h (pl i) = some (.inr (1, [.long (pa i), .long (pb i), .long (pc i), .long (pd i)]))) (hn : n ≤ 14) (h6 : 6 ≤ n) {x sk po : Nat} {gs : Nat → Option Nat} {so wo : Nat → Nat} {wd : Nat → Nat → Int64} {ht : Nat} {px py pz pw : Int64} (hxx : h x = some (.inr (0, [.ref sp, .ref sk, .ref po, .int (nI ht)]))) (hsk : h sk = some (.inl (cS, 6, .inr (.inr (.inr (.inr gs)))))) (hgs : ∀ j, j < 6 → gs j = some (so j)) (hpo : h po = some (.inr (3, [.long px, .long py, .long pz, .long pw]))) (hso : ∀ j, j < 6 → h (so j) = some (.inr (4, [.ref (wo j)]))) (hwo : ∀ j, j < 6 → h (wo j) = some (.inl (cJ, 4, .inr (.inl (wd j))))) (hwi : ∀ i j, i < 6 → j < 6 → wo i = wo j → i = j) (hht : ht ≤ 6) (hfi2 : ∀ i, i < n → fs i ≤ i) (hs1 : 1 ≤ ht) {i0 : Nat} (hi0 : i0 < n) {ax u v : Int32} (htr : xc_off l) : gh_C l D vC (tZ cI cJ cP cS) (xF b0) b0 y_X_isEntry w_X_isEntry ({ frames := 6, cells := 1, slots := 6, locals := 110 }) [.ref x, .int (nI i0), .int ax, .int u, .int v] h (rB (decide (m_fac ax (pa i0) (pb i0) (pc i0) = 0)) (rI 0 h) (rB (!m_all (fun i => decide (m_exc (pa i) (pb i) (pc i) (pd i) (e_x ax (Int32.toInt64 u) (Int32.toInt64 v) (pa i0) (pb i0) (pc i0) (pd i0)) (e_y ax (Int32.toInt64 u) (Int32.toInt64 v) (pa i0) (pb i0) (pc i0) (pd i0)) (e_z ax (Int32.toInt64 u) (Int32.toInt64 v) (pa i0) (pb i0) (pc i0) (pd i0)) (e_w ax (pa i0) (pb i0) (pc i0)) ≤ 0)) 6) (rI 0 (gh_up h po (.inr (3, [.long (e_x ax (Int32.toInt64 u) (Int32.toInt64 v) (pa i0) (pb i0) (pc i0) (pd i0)), .long (e_y ax (Int32.toInt64 u) (Int32.toInt64 v) (pa i0) (pb i0) (pc i0) (pd i0)), .long (e_z ax (Int32.toInt64 u) (Int32.toInt64 v) (pa i0) (pb i0) (pc i0) (pd i0)), .long (e_w ax (pa i0) (pb i0) (pc i0))])))) (rB (decide (m_only (fun i => decide (m_exc (pa i) (pb i) (pc i) (pd i) (e_x ax (Int32.toInt64 u) (Int32.toInt64 v) (pa i0) (pb i0) (pc i0) (pd i0)) (e_y ax (Int32.toInt64 u) (Int32.toInt64 v) (pa i0) (pb i0) (pc i0) (pd i0)) (e_z ax (Int32.toInt64 u) (Int32.toInt64 v) (pa i0) (pb i0) (pc i0) (pd i0)) (e_w ax (pa i0) (pb i0) (pc i0)) = 0)) fs n = -1)) (rT 9 (gh_up h po (.inr (3, [.long (e_x ax (Int32.toInt64 u) (Int32.toInt64 v) (pa i0) (pb i0) (pc i0) (pd i0)), .long (e_y ax (Int32.toInt64 u) (Int32.toInt64 v) (pa i0) (pb i0) (pc i0) (pd i0)), .long (e_z ax (Int32.toInt64 u) (Int32.toInt64 v) (pa i0) (pb i0) (pc i0) (pd i0)), .long (e_w ax (pa i0) (pb i0) (pc i0))])))) (rI (m_b (m_lkat (wd (ht - 1)) n fs pa pb pc pd i0 (e_x ax (Int32.toInt64 u) (Int32.toInt64 v) (pa i0) (pb i0) (pc i0) (pd i0)) (e_y ax (Int32.toInt64 u) (Int32.toInt64 v) (pa i0) (pb i0) (pc i0) (pd i0)) (e_z ax (Int32.toInt64 u) (Int32.toInt64 v) (pa i0) (pb i0) (pc i0) (pd i0)) (e_w ax (pa i0) (pb i0) (pc i0)) == (if m_fac ax (pa i0) (pb i0) (pc i0) < 0 then 1 else -1))) (gh_up h po (.inr (3, [.long (e_x ax (Int32.toInt64 u) (Int32.toInt64 v) (pa i0) (pb i0) (pc i0) (pd i0)), .long (e_y ax (Int32.toInt64 u) (Int32.toInt64 v) (pa i0) (pb i0) (pc i0) (pd i0)), .long (e_z ax (Int32.toInt64 u) (Int32.toInt64 v) (pa i0) (pb i0) (pc i0) (pd i0)), .long (e_w ax (pa i0) (pb i0) (pc i0))]))))))) := by
  refine gh_ofW (by decide) (Nat.le_of_ble_eq_true rfl) ?_
  intro p e s m below meth c ls hctx hno hl hG hK hX
  obtain ⟨hx, hb, hr, hml, hown, hlk, hts, hnm⟩ := hctx
  have htb : ∀ w ∈ tB, w.before _ s = true := fun w hw => hts w (List.mem_cons_of_mem _ hw)
  replace hl : lv_has ls 10 [(0, .ref x), (1, .int (nI i0)), (2, .int ax), (3, .int u), (4, .int v)] := hl
  have hpl0 := hpl
  have hso0 := hso
  have hwo0 := hwo
  refine lv_aload_n hx hb d_X_isEntry_0 rfl (lv_at hl 0 rfl) ?_
  refine gh_get (ci := 0) hx hb htb in_X hown hK hG hxx rfl 0 (by decide) (htb _ k_1_109) (fun _ h9 => h9) rfl d_X_isEntry_1 ?_
  refine lv_iload_n hx hb d_X_isEntry_4 rfl (lv_at hl 1 rfl) ?_
  refine gh_cV (ci := 2) (As := [.int (nI i0)]) (rest := []) (xF_ok b0) hx hb hml hown hK hX hG rfl hsp (c_Ps_get hsp hal hfi hga hgf hfs hpl hn (by omega)) (q_Ps_get htb ⟨by decide, by decide⟩) (htb _ k_2_195) (htb _ k_2_196) (htb _ k_2_197) rfl hl.1 rfl (Nat.le_of_ble_eq_true rfl) d_X_isEntry_5 ⟨by decide, by decide⟩ (fun v9 h9 H l9 hp9 hG => ?_) (fun _ _ _ _ hp9 _ => by cases hp9.1)
  obtain ⟨hv9, hh9⟩ := hp9
  cases hv9
  rw [hh9] at hG
  refine W.eq (g2 := F0 m 8 ls [.ref (pl i0)]) rfl ?_
  refine W.widen (k := 0) (n := 0) (by decide) (by decide) ?_
  refine lv_astore (lv' := [(5, .ref (pl i0)), (0, .ref x), (1, .int (nI i0)), (2, .int ax), (3, .int u), (4, .int v)]) hx hb d_X_isEntry_8 hl (by decide) rfl (fun ls hl => ?_)
  refine lv_aload hx hb d_X_isEntry_10 (lv_at hl 0 rfl) ?_
  refine lv_iload_n hx hb d_X_isEntry_12 rfl (lv_at hl 3 rfl) ?_
  refine gh_cV (ci := 1) (As := [.int ax]) (rest := []) (xF_ok b0) hx hb hml hown hK hX hG rfl (hpl i0 (by omega)) (c_Pl_factor (hpl i0 (by omega))) (q_Pl_factor htb ⟨by decide, by decide⟩) (htb _ k_2_199) (htb _ k_2_200) (htb _ k_2_201) rfl hl.1 rfl (Nat.le_of_ble_eq_true rfl) d_X_isEntry_13 ⟨by decide, by decide⟩ (fun v9 h9 H l9 hp9 hG => ?_) (fun _ _ _ _ hp9 _ => by cases hp9.1)
  obtain ⟨hv9, hh9⟩ := hp9
  cases hv9
  rw [hh9] at hG
  refine W.eq (g2 := F0 m 16 ls [.long (m_fac ax (pa i0) (pb i0) (pc i0))]) rfl ?_
  refine W.widen (k := 0) (n := 0) (by decide) (by decide) ?_
  refine lv_lstore (lv' := [(6, .long (m_fac ax (pa i0) (pb i0) (pc i0))), (5, .ref (pl i0)), (0, .ref x), (1, .int (nI i0)), (2, .int ax), (3, .int u), (4, .int v)]) hx hb d_X_isEntry_16 hl (by decide) rfl (fun ls hl => ?_)
  refine lv_lload hx hb d_X_isEntry_18 (lv_at hl 0 rfl) ?_
  refine lv_lconst (v := 0) hx hb d_X_isEntry_20 (by decide) ?_
  refine W.lcmp hx hb d_X_isEntry_21 ?_
  refine lv_if_ne (tgt := 27) hx hb d_X_isEntry_22 (by decide) (fun hc22 => ?_) (fun hc22 => ?_)
  · skip
    rw [lg_cmp_eq] at hc22
    refine lv_aload_n hx hb d_X_isEntry_27 rfl (lv_at hl 2 rfl) ?_
    refine gh_get (ci := 0) hx hb htb in_X hown hK hG hxx rfl 2 (by decide) (htb _ k_1_111) (fun _ h9 => h9) rfl d_X_isEntry_28 ?_
    refine lv_iload_n hx hb d_X_isEntry_31 rfl (lv_at hl 4 rfl) ?_
    refine lv_lconst (v := 0) hx hb d_X_isEntry_32 (by decide) ?_
    refine lv_iload_n hx hb d_X_isEntry_33 rfl (lv_at hl 5 rfl) ?_
    refine lv_i2l (v := Int32.toInt64 u) hx hb d_X_isEntry_34 rfl ?_
    refine lv_iload hx hb d_X_isEntry_35 (lv_at hl 6 rfl) ?_
    refine lv_i2l (v := Int32.toInt64 v) hx hb d_X_isEntry_37 rfl ?_
    refine lv_lconst (v := 1) hx hb d_X_isEntry_38 (by decide) ?_
    refine gh_cV (ci := 3) (As := [.int ax, .long 0, .long (Int32.toInt64 u), .long (Int32.toInt64 v), .long 1]) (rest := []) (xF_ok b0) hx hb hml hown hK hX hG rfl hpo (c_Pt_placeOnAxis hpo) (q_Pt_placeOnAxis htb ⟨by decide, by decide⟩) (htb _ k_2_203) (htb _ k_2_204) (htb _ k_2_205) rfl hl.1 rfl (Nat.le_of_ble_eq_true rfl) d_X_isEntry_39 ⟨by decide, by decide⟩ (fun v9 h9 H l9 hp9 hG => ?_) (fun _ _ _ _ hp9 _ => by cases hp9.1)
    obtain ⟨hv9, hh9⟩ := hp9
    cases hv9
    rw [hh9, m_onax_eq] at hG
    have hq1 : (gh_up h po (.inr (3, [.long (m_ox ax 0 (Int32.toInt64 u) (Int32.toInt64 v) 1), .long (m_oy ax 0 (Int32.toInt64 u) (Int32.toInt64 v) 1), .long (m_oz ax 0 (Int32.toInt64 u) (Int32.toInt64 v) 1), .long 1]))) po = some (.inr (3, [.long (m_ox ax 0 (Int32.toInt64 u) (Int32.toInt64 v) 1), .long (m_oy ax 0 (Int32.toInt64 u) (Int32.toInt64 v) 1), .long (m_oz ax 0 (Int32.toInt64 u) (Int32.toInt64 v) 1), .long 1])) := gh_self _ _ _
    replace hG : gh_P D vC b0 (gh_up h po (.inr (3, [.long (m_ox ax 0 (Int32.toInt64 u) (Int32.toInt64 v) 1), .long (m_oy ax 0 (Int32.toInt64 u) (Int32.toInt64 v) 1), .long (m_oz ax 0 (Int32.toInt64 u) (Int32.toInt64 v) 1), .long 1]))) s.heap _ _ := hG
    have hsp_1 : (gh_up h po (.inr (3, [.long (m_ox ax 0 (Int32.toInt64 u) (Int32.toInt64 v) 1), .long (m_oy ax 0 (Int32.toInt64 u) (Int32.toInt64 v) 1), .long (m_oz ax 0 (Int32.toInt64 u) (Int32.toInt64 v) 1), .long 1]))) sp = some (.inr (2, [.ref al, .ref fi, .int (nI n)])) := gh_keep hpo hsp (by simp)
    have hal_1 : (gh_up h po (.inr (3, [.long (m_ox ax 0 (Int32.toInt64 u) (Int32.toInt64 v) 1), .long (m_oy ax 0 (Int32.toInt64 u) (Int32.toInt64 v) 1), .long (m_oz ax 0 (Int32.toInt64 u) (Int32.toInt64 v) 1), .long 1]))) al = some (.inl (cP, 14, .inr (.inr (.inr (.inr ga))))) := gh_keep hpo hal (by simp)
    have hfi_1 : (gh_up h po (.inr (3, [.long (m_ox ax 0 (Int32.toInt64 u) (Int32.toInt64 v) 1), .long (m_oy ax 0 (Int32.toInt64 u) (Int32.toInt64 v) 1), .long (m_oz ax 0 (Int32.toInt64 u) (Int32.toInt64 v) 1), .long 1]))) fi = some (.inl (cI, 14, .inl gf)) := gh_keep hpo hfi (by simp)
    have hxx_1 : (gh_up h po (.inr (3, [.long (m_ox ax 0 (Int32.toInt64 u) (Int32.toInt64 v) 1), .long (m_oy ax 0 (Int32.toInt64 u) (Int32.toInt64 v) 1), .long (m_oz ax 0 (Int32.toInt64 u) (Int32.toInt64 v) 1), .long 1]))) x = some (.inr (0, [.ref sp, .ref sk, .ref po, .int (nI ht)])) := gh_keep hpo hxx (by simp)
    have hsk_1 : (gh_up h po (.inr (3, [.long (m_ox ax 0 (Int32.toInt64 u) (Int32.toInt64 v) 1), .long (m_oy ax 0 (Int32.toInt64 u) (Int32.toInt64 v) 1), .long (m_oz ax 0 (Int32.toInt64 u) (Int32.toInt64 v) 1), .long 1]))) sk = some (.inl (cS, 6, .inr (.inr (.inr (.inr gs))))) := gh_keep hpo hsk (by simp)
    replace hpl : ∀ i, i < n → (gh_up h po (.inr (3, [.long (m_ox ax 0 (Int32.toInt64 u) (Int32.toInt64 v) 1), .long (m_oy ax 0 (Int32.toInt64 u) (Int32.toInt64 v) 1), .long (m_oz ax 0 (Int32.toInt64 u) (Int32.toInt64 v) 1), .long 1]))) (pl i) = some (.inr (1, [.long (pa i), .long (pb i), .long (pc i), .long (pd i)])) := fun i hi => gh_keep hpo (hpl i hi) (by simp)
    replace hso : ∀ j, j < 6 → (gh_up h po (.inr (3, [.long (m_ox ax 0 (Int32.toInt64 u) (Int32.toInt64 v) 1), .long (m_oy ax 0 (Int32.toInt64 u) (Int32.toInt64 v) 1), .long (m_oz ax 0 (Int32.toInt64 u) (Int32.toInt64 v) 1), .long 1]))) (so j) = some (.inr (4, [.ref (wo j)])) := fun j hj => gh_keep hpo (hso j hj) (by simp)
    replace hwo : ∀ j, j < 6 → (gh_up h po (.inr (3, [.long (m_ox ax 0 (Int32.toInt64 u) (Int32.toInt64 v) 1), .long (m_oy ax 0 (Int32.toInt64 u) (Int32.toInt64 v) 1), .long (m_oz ax 0 (Int32.toInt64 u) (Int32.toInt64 v) 1), .long 1]))) (wo j) = some (.inl (cJ, 4, .inr (.inl (wd j)))) := fun j hj => gh_keep hpo (hwo j hj) (by simp)
    refine W.eq (g2 := F0 m 42 ls []) rfl ?_
    refine W.widen (k := 0) (n := 0) (by decide) (by decide) ?_
    refine lv_aload hx hb d_X_isEntry_42 (lv_at hl 1 rfl) ?_
    refine lv_aload_n hx hb d_X_isEntry_44 rfl (lv_at hl 2 rfl) ?_
    refine gh_get (ci := 0) hx hb htb in_X hown hK hG hxx_1 rfl 2 (by decide) (htb _ k_1_111) (fun _ h9 => h9) rfl d_X_isEntry_45 ?_
    refine gh_cV (ci := 1) (As := [.ref po]) (rest := []) (xF_ok b0) hx hb hml hown hK hX hG rfl (hpl i0 (by omega)) (c_Pl_excess (hpl i0 (by omega)) hq1) (q_Pl_excess htb ⟨by decide, by decide⟩) (htb _ k_2_208) (htb _ k_2_104) (htb _ k_2_105) rfl hl.1 rfl (Nat.le_of_ble_eq_true rfl) d_X_isEntry_48 ⟨by decide, by decide⟩ (fun v9 h9 H l9 hp9 hG => ?_) (fun _ _ _ _ hp9 _ => by cases hp9.1)
    obtain ⟨hv9, hh9⟩ := hp9
    cases hv9
    rw [hh9] at hG
    refine W.eq (g2 := F0 m 51 ls [.long (m_exc (pa i0) (pb i0) (pc i0) (pd i0) (m_ox ax 0 (Int32.toInt64 u) (Int32.toInt64 v) 1) (m_oy ax 0 (Int32.toInt64 u) (Int32.toInt64 v) 1) (m_oz ax 0 (Int32.toInt64 u) (Int32.toInt64 v) 1) 1)]) rfl ?_
    refine W.widen (k := 0) (n := 0) (by decide) (by decide) ?_
    refine lv_lneg hx hb d_X_isEntry_51 ?_
    refine lv_lstore (lv' := [(8, .long (-(m_exc (pa i0) (pb i0) (pc i0) (pd i0) (m_ox ax 0 (Int32.toInt64 u) (Int32.toInt64 v) 1) (m_oy ax 0 (Int32.toInt64 u) (Int32.toInt64 v) 1) (m_oz ax 0 (Int32.toInt64 u) (Int32.toInt64 v) 1) 1))), (6, .long (m_fac ax (pa i0) (pb i0) (pc i0))), (5, .ref (pl i0)), (0, .ref x), (1, .int (nI i0)), (2, .int ax), (3, .int u), (4, .int v)]) hx hb d_X_isEntry_52 hl (by decide) rfl (fun ls hl => ?_)
    refine lv_aload_n hx hb d_X_isEntry_54 rfl (lv_at hl 3 rfl) ?_
    refine gh_get (ci := 0) hx hb htb in_X hown hK hG hxx_1 rfl 2 (by decide) (htb _ k_1_111) (fun _ h9 => h9) rfl d_X_isEntry_55 ?_
    refine lv_iload_n hx hb d_X_isEntry_58 rfl (lv_at hl 5 rfl) ?_
    refine lv_lload hx hb d_X_isEntry_59 (lv_at hl 1 rfl) ?_
    refine lv_lconst (v := 0) hx hb d_X_isEntry_61 (by decide) ?_
    refine W.lcmp hx hb d_X_isEntry_62 ?_
    refine lv_if_ge (tgt := 72) hx hb d_X_isEntry_63 (by decide) (fun hc63 => ?_) (fun hc63 => ?_)
    · skip
      rw [lg_cmp_ge] at hc63
      refine lv_lload hx hb d_X_isEntry_72 (lv_at hl 0 rfl) ?_
      refine lv_iload_n hx hb d_X_isEntry_74 rfl (lv_at hl 6 rfl) ?_
      refine lv_i2l (v := Int32.toInt64 u) hx hb d_X_isEntry_75 rfl ?_
      refine lv_iload hx hb d_X_isEntry_76 (lv_at hl 7 rfl) ?_
      refine lv_i2l (v := Int32.toInt64 v) hx hb d_X_isEntry_78 rfl ?_
      refine lv_lload hx hb d_X_isEntry_79 (lv_at hl 1 rfl) ?_
      refine va_mabs_long hx hb (hml.trans hl.1.symm) hown (htb _ k_2_209) (htb _ k_2_210) (htb _ k_1_14) (htb _ k_math) (by decide) (Nat.le_of_ble_eq_true rfl) (by decide) (by decide) d_X_isEntry_81 ?_
      refine W.eq (g2 := F0 m 84 ls [.long (if 0 < (m_fac ax (pa i0) (pb i0) (pc i0)) then (m_fac ax (pa i0) (pb i0) (pc i0)) else -(m_fac ax (pa i0) (pb i0) (pc i0))), .long (Int32.toInt64 v), .long (Int32.toInt64 u), .long (-(m_exc (pa i0) (pb i0) (pc i0) (pd i0) (m_ox ax 0 (Int32.toInt64 u) (Int32.toInt64 v) 1) (m_oy ax 0 (Int32.toInt64 u) (Int32.toInt64 v) 1) (m_oz ax 0 (Int32.toInt64 u) (Int32.toInt64 v) 1) 1)), .int ax, .ref po]) rfl ?_
      refine gh_cV (ci := 3) (As := [.int ax, .long (-(m_exc (pa i0) (pb i0) (pc i0) (pd i0) (m_ox ax 0 (Int32.toInt64 u) (Int32.toInt64 v) 1) (m_oy ax 0 (Int32.toInt64 u) (Int32.toInt64 v) 1) (m_oz ax 0 (Int32.toInt64 u) (Int32.toInt64 v) 1) 1)), .long (Int32.toInt64 u), .long (Int32.toInt64 v), .long (if 0 < (m_fac ax (pa i0) (pb i0) (pc i0)) then (m_fac ax (pa i0) (pb i0) (pc i0)) else -(m_fac ax (pa i0) (pb i0) (pc i0)))]) (rest := []) (xF_ok b0) hx hb hml hown hK hX hG rfl hq1 (c_Pt_placeOnAxis hq1) (q_Pt_placeOnAxis htb ⟨by decide, by decide⟩) (htb _ k_2_203) (htb _ k_2_204) (htb _ k_2_205) rfl hl.1 rfl (Nat.le_of_ble_eq_true rfl) d_X_isEntry_84 ⟨by decide, by decide⟩ (fun v9 h9 H l9 hp9 hG => ?_) (fun _ _ _ _ hp9 _ => by cases hp9.1)
      have hal9 : e_al ax (Int32.toInt64 u) (Int32.toInt64 v) (pa i0) (pb i0) (pc i0) (pd i0) = e_mis ax (Int32.toInt64 u) (Int32.toInt64 v) (pa i0) (pb i0) (pc i0) (pd i0) := by unfold e_al; rw [if_neg (Int64.not_lt.mpr hc63)]
      obtain ⟨hv9, hh9⟩ := hp9
      cases hv9
      rw [hh9, m_onax_eq, gh_uu] at hG
      replace hG : gh_P D vC b0 (gh_up h po (.inr (3, [.long (e_x ax (Int32.toInt64 u) (Int32.toInt64 v) (pa i0) (pb i0) (pc i0) (pd i0)), .long (e_y ax (Int32.toInt64 u) (Int32.toInt64 v) (pa i0) (pb i0) (pc i0) (pd i0)), .long (e_z ax (Int32.toInt64 u) (Int32.toInt64 v) (pa i0) (pb i0) (pc i0) (pd i0)), .long (e_w ax (pa i0) (pb i0) (pc i0))]))) s.heap H l9 := by unfold e_x e_y e_z; rw [hal9]; exact hG
      replace hpl := hpl0
      replace hso := hso0
      replace hwo := hwo0
      have hq2 : (gh_up h po (.inr (3, [.long (e_x ax (Int32.toInt64 u) (Int32.toInt64 v) (pa i0) (pb i0) (pc i0) (pd i0)), .long (e_y ax (Int32.toInt64 u) (Int32.toInt64 v) (pa i0) (pb i0) (pc i0) (pd i0)), .long (e_z ax (Int32.toInt64 u) (Int32.toInt64 v) (pa i0) (pb i0) (pc i0) (pd i0)), .long (e_w ax (pa i0) (pb i0) (pc i0))]))) po = some (.inr (3, [.long (e_x ax (Int32.toInt64 u) (Int32.toInt64 v) (pa i0) (pb i0) (pc i0) (pd i0)), .long (e_y ax (Int32.toInt64 u) (Int32.toInt64 v) (pa i0) (pb i0) (pc i0) (pd i0)), .long (e_z ax (Int32.toInt64 u) (Int32.toInt64 v) (pa i0) (pb i0) (pc i0) (pd i0)), .long (e_w ax (pa i0) (pb i0) (pc i0))])) := gh_self _ _ _
      replace hG : gh_P D vC b0 (gh_up h po (.inr (3, [.long (e_x ax (Int32.toInt64 u) (Int32.toInt64 v) (pa i0) (pb i0) (pc i0) (pd i0)), .long (e_y ax (Int32.toInt64 u) (Int32.toInt64 v) (pa i0) (pb i0) (pc i0) (pd i0)), .long (e_z ax (Int32.toInt64 u) (Int32.toInt64 v) (pa i0) (pb i0) (pc i0) (pd i0)), .long (e_w ax (pa i0) (pb i0) (pc i0))]))) s.heap _ _ := hG
      have hsp_2 : (gh_up h po (.inr (3, [.long (e_x ax (Int32.toInt64 u) (Int32.toInt64 v) (pa i0) (pb i0) (pc i0) (pd i0)), .long (e_y ax (Int32.toInt64 u) (Int32.toInt64 v) (pa i0) (pb i0) (pc i0) (pd i0)), .long (e_z ax (Int32.toInt64 u) (Int32.toInt64 v) (pa i0) (pb i0) (pc i0) (pd i0)), .long (e_w ax (pa i0) (pb i0) (pc i0))]))) sp = some (.inr (2, [.ref al, .ref fi, .int (nI n)])) := gh_keep hpo hsp (by simp)
      have hal_2 : (gh_up h po (.inr (3, [.long (e_x ax (Int32.toInt64 u) (Int32.toInt64 v) (pa i0) (pb i0) (pc i0) (pd i0)), .long (e_y ax (Int32.toInt64 u) (Int32.toInt64 v) (pa i0) (pb i0) (pc i0) (pd i0)), .long (e_z ax (Int32.toInt64 u) (Int32.toInt64 v) (pa i0) (pb i0) (pc i0) (pd i0)), .long (e_w ax (pa i0) (pb i0) (pc i0))]))) al = some (.inl (cP, 14, .inr (.inr (.inr (.inr ga))))) := gh_keep hpo hal (by simp)
      have hfi_2 : (gh_up h po (.inr (3, [.long (e_x ax (Int32.toInt64 u) (Int32.toInt64 v) (pa i0) (pb i0) (pc i0) (pd i0)), .long (e_y ax (Int32.toInt64 u) (Int32.toInt64 v) (pa i0) (pb i0) (pc i0) (pd i0)), .long (e_z ax (Int32.toInt64 u) (Int32.toInt64 v) (pa i0) (pb i0) (pc i0) (pd i0)), .long (e_w ax (pa i0) (pb i0) (pc i0))]))) fi = some (.inl (cI, 14, .inl gf)) := gh_keep hpo hfi (by simp)
      have hxx_2 : (gh_up h po (.inr (3, [.long (e_x ax (Int32.toInt64 u) (Int32.toInt64 v) (pa i0) (pb i0) (pc i0) (pd i0)), .long (e_y ax (Int32.toInt64 u) (Int32.toInt64 v) (pa i0) (pb i0) (pc i0) (pd i0)), .long (e_z ax (Int32.toInt64 u) (Int32.toInt64 v) (pa i0) (pb i0) (pc i0) (pd i0)), .long (e_w ax (pa i0) (pb i0) (pc i0))]))) x = some (.inr (0, [.ref sp, .ref sk, .ref po, .int (nI ht)])) := gh_keep hpo hxx (by simp)
      have hsk_2 : (gh_up h po (.inr (3, [.long (e_x ax (Int32.toInt64 u) (Int32.toInt64 v) (pa i0) (pb i0) (pc i0) (pd i0)), .long (e_y ax (Int32.toInt64 u) (Int32.toInt64 v) (pa i0) (pb i0) (pc i0) (pd i0)), .long (e_z ax (Int32.toInt64 u) (Int32.toInt64 v) (pa i0) (pb i0) (pc i0) (pd i0)), .long (e_w ax (pa i0) (pb i0) (pc i0))]))) sk = some (.inl (cS, 6, .inr (.inr (.inr (.inr gs))))) := gh_keep hpo hsk (by simp)
      replace hpl : ∀ i, i < n → (gh_up h po (.inr (3, [.long (e_x ax (Int32.toInt64 u) (Int32.toInt64 v) (pa i0) (pb i0) (pc i0) (pd i0)), .long (e_y ax (Int32.toInt64 u) (Int32.toInt64 v) (pa i0) (pb i0) (pc i0) (pd i0)), .long (e_z ax (Int32.toInt64 u) (Int32.toInt64 v) (pa i0) (pb i0) (pc i0) (pd i0)), .long (e_w ax (pa i0) (pb i0) (pc i0))]))) (pl i) = some (.inr (1, [.long (pa i), .long (pb i), .long (pc i), .long (pd i)])) := fun i hi => gh_keep hpo (hpl i hi) (by simp)
      replace hso : ∀ j, j < 6 → (gh_up h po (.inr (3, [.long (e_x ax (Int32.toInt64 u) (Int32.toInt64 v) (pa i0) (pb i0) (pc i0) (pd i0)), .long (e_y ax (Int32.toInt64 u) (Int32.toInt64 v) (pa i0) (pb i0) (pc i0) (pd i0)), .long (e_z ax (Int32.toInt64 u) (Int32.toInt64 v) (pa i0) (pb i0) (pc i0) (pd i0)), .long (e_w ax (pa i0) (pb i0) (pc i0))]))) (so j) = some (.inr (4, [.ref (wo j)])) := fun j hj => gh_keep hpo (hso j hj) (by simp)
      replace hwo : ∀ j, j < 6 → (gh_up h po (.inr (3, [.long (e_x ax (Int32.toInt64 u) (Int32.toInt64 v) (pa i0) (pb i0) (pc i0) (pd i0)), .long (e_y ax (Int32.toInt64 u) (Int32.toInt64 v) (pa i0) (pb i0) (pc i0) (pd i0)), .long (e_z ax (Int32.toInt64 u) (Int32.toInt64 v) (pa i0) (pb i0) (pc i0) (pd i0)), .long (e_w ax (pa i0) (pb i0) (pc i0))]))) (wo j) = some (.inl (cJ, 4, .inr (.inl (wd j)))) := fun j hj => gh_keep hpo (hwo j hj) (by simp)
      refine W.eq (g2 := F0 m 87 ls []) rfl ?_
      refine W.widen (k := 0) (n := 0) (by decide) (by decide) ?_
      refine lv_aload_n hx hb d_X_isEntry_87 rfl (lv_at hl 3 rfl) ?_
      refine gh_get (ci := 0) hx hb htb in_X hown hK hG hxx_2 rfl 0 (by decide) (htb _ k_1_109) (fun _ h9 => h9) rfl d_X_isEntry_88 ?_
      refine lv_aload_n hx hb d_X_isEntry_91 rfl (lv_at hl 3 rfl) ?_
      refine gh_get (ci := 0) hx hb htb in_X hown hK hG hxx_2 rfl 2 (by decide) (htb _ k_1_111) (fun _ h9 => h9) rfl d_X_isEntry_92 ?_
      refine gh_cV (ci := 2) (As := [.ref po]) (rest := []) (xF_ok b0) hx hb hml hown hK hX hG rfl hsp_2 (c_Ps_isInBox hsp_2 hal_2 hfi_2 hga hgf hfs hpl hn hq2 h6) (q_Ps_isInBox htb ⟨by decide, by decide⟩) (htb _ k_2_212) (htb _ k_2_213) (htb _ k_2_214) rfl hl.1 rfl (Nat.le_of_ble_eq_true rfl) d_X_isEntry_95 ⟨by decide, by decide⟩ (fun v9 h9 H l9 hp9 hG => ?_) (fun _ _ _ _ hp9 _ => by cases hp9.1)
      obtain ⟨hv9, hh9⟩ := hp9
      cases hv9
      rw [hh9] at hG
      refine W.eq (g2 := F0 m 98 ls [.int (m_b (m_all (fun i => decide (m_exc (pa i) (pb i) (pc i) (pd i) (e_x ax (Int32.toInt64 u) (Int32.toInt64 v) (pa i0) (pb i0) (pc i0) (pd i0)) (e_y ax (Int32.toInt64 u) (Int32.toInt64 v) (pa i0) (pb i0) (pc i0) (pd i0)) (e_z ax (Int32.toInt64 u) (Int32.toInt64 v) (pa i0) (pb i0) (pc i0) (pd i0)) (e_w ax (pa i0) (pb i0) (pc i0)) ≤ 0)) 6))]) rfl ?_
      refine W.widen (k := 0) (n := 0) (by decide) (by decide) ?_
      refine lv_if_ne (tgt := 103) hx hb d_X_isEntry_98 (by decide) (fun hc98 => ?_) (fun hc98 => ?_)
      · skip
        replace hc98 := mb_1.mp hc98
        refine lv_aload_n hx hb d_X_isEntry_103 rfl (lv_at hl 3 rfl) ?_
        refine gh_get (ci := 0) hx hb htb in_X hown hK hG hxx_2 rfl 0 (by decide) (htb _ k_1_109) (fun _ h9 => h9) rfl d_X_isEntry_104 ?_
        refine lv_aload_n hx hb d_X_isEntry_107 rfl (lv_at hl 3 rfl) ?_
        refine gh_get (ci := 0) hx hb htb in_X hown hK hG hxx_2 rfl 2 (by decide) (htb _ k_1_111) (fun _ h9 => h9) rfl d_X_isEntry_108 ?_
        refine gh_cV (ci := 2) (As := [.ref po]) (rest := []) (xF_ok b0) hx hb hml hown hK hX hG rfl hsp_2 (c_Ps_onlyOneAt hsp_2 hal_2 hfi_2 hga hgf hfs hpl hn hq2) (q_Ps_onlyOneAt htb ⟨by decide, by decide⟩) (htb _ k_2_133) (htb _ k_2_134) (htb _ k_2_135) rfl hl.1 rfl (Nat.le_of_ble_eq_true rfl) d_X_isEntry_111 ⟨by decide, by decide⟩ (fun v9 h9 H l9 hp9 hG => ?_) (fun _ _ _ _ hp9 _ => by cases hp9.1)
        obtain ⟨hv9, hh9⟩ := hp9
        cases hv9
        rw [hh9] at hG
        refine W.eq (g2 := F0 m 114 ls [.int (m_only (fun i => decide (m_exc (pa i) (pb i) (pc i) (pd i) (e_x ax (Int32.toInt64 u) (Int32.toInt64 v) (pa i0) (pb i0) (pc i0) (pd i0)) (e_y ax (Int32.toInt64 u) (Int32.toInt64 v) (pa i0) (pb i0) (pc i0) (pd i0)) (e_z ax (Int32.toInt64 u) (Int32.toInt64 v) (pa i0) (pb i0) (pc i0) (pd i0)) (e_w ax (pa i0) (pb i0) (pc i0)) = 0)) fs n)]) rfl ?_
        refine W.widen (k := 0) (n := 0) (by decide) (by decide) ?_
        refine lv_iconst (v := (-1)) hx hb d_X_isEntry_114 (by decide) ?_
        refine lv_icmp_ne (tgt := 128) hx hb d_X_isEntry_115 (by decide) (fun hc115 => ?_) (fun hc115 => ?_)
        · skip
          refine lv_aload_n hx hb d_X_isEntry_128 rfl (lv_at hl 3 rfl) ?_
          refine lv_iload_n hx hb d_X_isEntry_129 rfl (lv_at hl 4 rfl) ?_
          refine gh_cV (ci := 0) (As := [.int (nI i0)]) (rest := []) (xF_ok b0) hx hb hml hown hK hX hG rfl hxx_2 (c_X_lookAtSpot hsp_2 hal_2 hfi_2 hga hgf hfs hpl hn h6 hxx_2 hsk_2 hgs hq2 hso hwo hwi hht hs1 (fc := i0) (by omega)) (q_X_lookAtSpot htb ⟨by decide, by decide⟩) (htb _ k_2_153) (htb _ k_2_155) (htb _ k_s_X_lookAtSpot) rfl hl.1 rfl (Nat.le_of_ble_eq_true rfl) d_X_isEntry_130 ⟨by decide, by decide⟩ (fun v9 h9 H l9 hp9 hG => ?_) (fun _ _ _ _ hp9 _ => by cases hp9.1)
          obtain ⟨hv9, hh9⟩ := hp9
          cases hv9
          rw [hh9] at hG
          refine W.eq (g2 := F0 m 133 ls [.int (m_lkat (wd (ht - 1)) n fs pa pb pc pd i0 (e_x ax (Int32.toInt64 u) (Int32.toInt64 v) (pa i0) (pb i0) (pc i0) (pd i0)) (e_y ax (Int32.toInt64 u) (Int32.toInt64 v) (pa i0) (pb i0) (pc i0) (pd i0)) (e_z ax (Int32.toInt64 u) (Int32.toInt64 v) (pa i0) (pb i0) (pc i0) (pd i0)) (e_w ax (pa i0) (pb i0) (pc i0)))]) rfl ?_
          refine W.widen (k := 0) (n := 0) (by decide) (by decide) ?_
          refine lv_lload hx hb d_X_isEntry_133 (lv_at hl 1 rfl) ?_
          refine lv_lconst (v := 0) hx hb d_X_isEntry_135 (by decide) ?_
          refine W.lcmp hx hb d_X_isEntry_136 ?_
          refine lv_if_ge (tgt := 144) hx hb d_X_isEntry_137 (by decide) (fun hc137 => ?_) (fun hc137 => ?_)
          · skip
            rw [lg_cmp_ge] at hc137
            refine lv_iconst (v := (-1)) hx hb d_X_isEntry_144 (by decide) ?_
            refine lv_icmp_ne (tgt := 152) hx hb d_X_isEntry_145 (by decide) (fun hc145 => ?_) (fun hc145 => ?_)
            · skip
              refine lv_iconst (v := 0) hx hb d_X_isEntry_152 (by decide) ?_
              refine W.widen (k := 1) (n := 6) (by decide) (by decide) ?_
              exact gh_iret hx hb hr hlk rfl hG d_X_isEntry_153 (rB_0 (decide_eq_false hc22) (rB_0 (by rw [hc98]; rfl) (rB_0 (decide_eq_false hc115) ⟨by rw [if_neg (Int64.not_lt.mpr hc137), beq_eq_false_iff_ne.mpr hc145]; rfl, rfl⟩)))
            · skip
              refine lv_iconst (v := 1) hx hb d_X_isEntry_148 (by decide) ?_
              refine lv_goto (tgt := 153) hx hb d_X_isEntry_149 (by decide) ?_
              refine W.widen (k := 1) (n := 6) (by decide) (by decide) ?_
              exact gh_iret hx hb hr hlk rfl hG d_X_isEntry_153 (rB_0 (decide_eq_false hc22) (rB_0 (by rw [hc98]; rfl) (rB_0 (decide_eq_false hc115) ⟨by rw [if_neg (Int64.not_lt.mpr hc137), beq_iff_eq.mpr hc145]; rfl, rfl⟩)))
          · skip
            rw [lg_cmp_ge] at hc137
            refine lv_iconst (v := 1) hx hb d_X_isEntry_140 (by decide) ?_
            refine lv_goto (tgt := 145) hx hb d_X_isEntry_141 (by decide) ?_
            refine lv_icmp_ne (tgt := 152) hx hb d_X_isEntry_145 (by decide) (fun hc145 => ?_) (fun hc145 => ?_)
            · skip
              refine lv_iconst (v := 0) hx hb d_X_isEntry_152 (by decide) ?_
              refine W.widen (k := 1) (n := 6) (by decide) (by decide) ?_
              exact gh_iret hx hb hr hlk rfl hG d_X_isEntry_153 (rB_0 (decide_eq_false hc22) (rB_0 (by rw [hc98]; rfl) (rB_0 (decide_eq_false hc115) ⟨by rw [if_pos (Int64.not_le.mp hc137), beq_eq_false_iff_ne.mpr hc145]; rfl, rfl⟩)))
            · skip
              refine lv_iconst (v := 1) hx hb d_X_isEntry_148 (by decide) ?_
              refine lv_goto (tgt := 153) hx hb d_X_isEntry_149 (by decide) ?_
              refine W.widen (k := 1) (n := 6) (by decide) (by decide) ?_
              exact gh_iret hx hb hr hlk rfl hG d_X_isEntry_153 (rB_0 (decide_eq_false hc22) (rB_0 (by rw [hc98]; rfl) (rB_0 (decide_eq_false hc115) ⟨by rw [if_pos (Int64.not_le.mp hc137), beq_iff_eq.mpr hc145]; rfl, rfl⟩)))
        · skip
          refine W.widen (k := 0) (n := 0) (by decide) (by decide) ?_
          exact gh_thr (bytes := prog_16_method_4_code) (index := 13) (is := 171) (E := R_NS) (ci := 9) hx hb htr hlk hno hml hl.1 hown htb hK hX hG rfl (by decide +kernel) k_2_137 k_1_13 k_2_138 (List.mem_of_getElem? (i := 15) rfl) (by decide +kernel) (by decide +kernel) (by decide +kernel) (by decide +kernel) at_NS d_X_isEntry_118 d_X_isEntry_121 d_X_isEntry_122 d_X_isEntry_124 d_X_isEntry_127 (by decide) (by decide) (by decide) (by decide) (fun q9 hq9 => rB_0 (decide_eq_false hc22) (rB_0 (by rw [hc98]; rfl) (rB_1 (decide_eq_true hc115) ⟨q9, rfl, hq9, rfl⟩)))
      · skip
        replace hc98 := mb_0.mp hc98
        refine lv_iconst (v := 0) hx hb d_X_isEntry_101 (by decide) ?_
        refine W.widen (k := 1) (n := 6) (by decide) (by decide) ?_
        exact gh_iret hx hb hr hlk rfl hG d_X_isEntry_102 (rB_0 (decide_eq_false hc22) (rB_1 (by rw [hc98]; rfl) ⟨rfl, rfl⟩))
    · skip
      rw [lg_cmp_ge] at hc63
      refine lv_lload hx hb d_X_isEntry_66 (lv_at hl 0 rfl) ?_
      refine lv_lneg hx hb d_X_isEntry_68 ?_
      refine lv_goto (tgt := 74) hx hb d_X_isEntry_69 (by decide) ?_
      refine lv_iload_n hx hb d_X_isEntry_74 rfl (lv_at hl 6 rfl) ?_
      refine lv_i2l (v := Int32.toInt64 u) hx hb d_X_isEntry_75 rfl ?_
      refine lv_iload hx hb d_X_isEntry_76 (lv_at hl 7 rfl) ?_
      refine lv_i2l (v := Int32.toInt64 v) hx hb d_X_isEntry_78 rfl ?_
      refine lv_lload hx hb d_X_isEntry_79 (lv_at hl 1 rfl) ?_
      refine va_mabs_long hx hb (hml.trans hl.1.symm) hown (htb _ k_2_209) (htb _ k_2_210) (htb _ k_1_14) (htb _ k_math) (by decide) (Nat.le_of_ble_eq_true rfl) (by decide) (by decide) d_X_isEntry_81 ?_
      refine W.eq (g2 := F0 m 84 ls [.long (if 0 < (m_fac ax (pa i0) (pb i0) (pc i0)) then (m_fac ax (pa i0) (pb i0) (pc i0)) else -(m_fac ax (pa i0) (pb i0) (pc i0))), .long (Int32.toInt64 v), .long (Int32.toInt64 u), .long (-(-(m_exc (pa i0) (pb i0) (pc i0) (pd i0) (m_ox ax 0 (Int32.toInt64 u) (Int32.toInt64 v) 1) (m_oy ax 0 (Int32.toInt64 u) (Int32.toInt64 v) 1) (m_oz ax 0 (Int32.toInt64 u) (Int32.toInt64 v) 1) 1))), .int ax, .ref po]) rfl ?_
      refine gh_cV (ci := 3) (As := [.int ax, .long (-(-(m_exc (pa i0) (pb i0) (pc i0) (pd i0) (m_ox ax 0 (Int32.toInt64 u) (Int32.toInt64 v) 1) (m_oy ax 0 (Int32.toInt64 u) (Int32.toInt64 v) 1) (m_oz ax 0 (Int32.toInt64 u) (Int32.toInt64 v) 1) 1))), .long (Int32.toInt64 u), .long (Int32.toInt64 v), .long (if 0 < (m_fac ax (pa i0) (pb i0) (pc i0)) then (m_fac ax (pa i0) (pb i0) (pc i0)) else -(m_fac ax (pa i0) (pb i0) (pc i0)))]) (rest := []) (xF_ok b0) hx hb hml hown hK hX hG rfl hq1 (c_Pt_placeOnAxis hq1) (q_Pt_placeOnAxis htb ⟨by decide, by decide⟩) (htb _ k_2_203) (htb _ k_2_204) (htb _ k_2_205) rfl hl.1 rfl (Nat.le_of_ble_eq_true rfl) d_X_isEntry_84 ⟨by decide, by decide⟩ (fun v9 h9 H l9 hp9 hG => ?_) (fun _ _ _ _ hp9 _ => by cases hp9.1)
      have hal9 : e_al ax (Int32.toInt64 u) (Int32.toInt64 v) (pa i0) (pb i0) (pc i0) (pd i0) = -(e_mis ax (Int32.toInt64 u) (Int32.toInt64 v) (pa i0) (pb i0) (pc i0) (pd i0)) := by unfold e_al; rw [if_pos (Int64.not_le.mp hc63)]
      obtain ⟨hv9, hh9⟩ := hp9
      cases hv9
      rw [hh9, m_onax_eq, gh_uu] at hG
      replace hG : gh_P D vC b0 (gh_up h po (.inr (3, [.long (e_x ax (Int32.toInt64 u) (Int32.toInt64 v) (pa i0) (pb i0) (pc i0) (pd i0)), .long (e_y ax (Int32.toInt64 u) (Int32.toInt64 v) (pa i0) (pb i0) (pc i0) (pd i0)), .long (e_z ax (Int32.toInt64 u) (Int32.toInt64 v) (pa i0) (pb i0) (pc i0) (pd i0)), .long (e_w ax (pa i0) (pb i0) (pc i0))]))) s.heap H l9 := by unfold e_x e_y e_z; rw [hal9]; exact hG
      replace hpl := hpl0
      replace hso := hso0
      replace hwo := hwo0
      have hq3 : (gh_up h po (.inr (3, [.long (e_x ax (Int32.toInt64 u) (Int32.toInt64 v) (pa i0) (pb i0) (pc i0) (pd i0)), .long (e_y ax (Int32.toInt64 u) (Int32.toInt64 v) (pa i0) (pb i0) (pc i0) (pd i0)), .long (e_z ax (Int32.toInt64 u) (Int32.toInt64 v) (pa i0) (pb i0) (pc i0) (pd i0)), .long (e_w ax (pa i0) (pb i0) (pc i0))]))) po = some (.inr (3, [.long (e_x ax (Int32.toInt64 u) (Int32.toInt64 v) (pa i0) (pb i0) (pc i0) (pd i0)), .long (e_y ax (Int32.toInt64 u) (Int32.toInt64 v) (pa i0) (pb i0) (pc i0) (pd i0)), .long (e_z ax (Int32.toInt64 u) (Int32.toInt64 v) (pa i0) (pb i0) (pc i0) (pd i0)), .long (e_w ax (pa i0) (pb i0) (pc i0))])) := gh_self _ _ _
      replace hG : gh_P D vC b0 (gh_up h po (.inr (3, [.long (e_x ax (Int32.toInt64 u) (Int32.toInt64 v) (pa i0) (pb i0) (pc i0) (pd i0)), .long (e_y ax (Int32.toInt64 u) (Int32.toInt64 v) (pa i0) (pb i0) (pc i0) (pd i0)), .long (e_z ax (Int32.toInt64 u) (Int32.toInt64 v) (pa i0) (pb i0) (pc i0) (pd i0)), .long (e_w ax (pa i0) (pb i0) (pc i0))]))) s.heap _ _ := hG
      have hsp_3 : (gh_up h po (.inr (3, [.long (e_x ax (Int32.toInt64 u) (Int32.toInt64 v) (pa i0) (pb i0) (pc i0) (pd i0)), .long (e_y ax (Int32.toInt64 u) (Int32.toInt64 v) (pa i0) (pb i0) (pc i0) (pd i0)), .long (e_z ax (Int32.toInt64 u) (Int32.toInt64 v) (pa i0) (pb i0) (pc i0) (pd i0)), .long (e_w ax (pa i0) (pb i0) (pc i0))]))) sp = some (.inr (2, [.ref al, .ref fi, .int (nI n)])) := gh_keep hpo hsp (by simp)
      have hal_3 : (gh_up h po (.inr (3, [.long (e_x ax (Int32.toInt64 u) (Int32.toInt64 v) (pa i0) (pb i0) (pc i0) (pd i0)), .long (e_y ax (Int32.toInt64 u) (Int32.toInt64 v) (pa i0) (pb i0) (pc i0) (pd i0)), .long (e_z ax (Int32.toInt64 u) (Int32.toInt64 v) (pa i0) (pb i0) (pc i0) (pd i0)), .long (e_w ax (pa i0) (pb i0) (pc i0))]))) al = some (.inl (cP, 14, .inr (.inr (.inr (.inr ga))))) := gh_keep hpo hal (by simp)
      have hfi_3 : (gh_up h po (.inr (3, [.long (e_x ax (Int32.toInt64 u) (Int32.toInt64 v) (pa i0) (pb i0) (pc i0) (pd i0)), .long (e_y ax (Int32.toInt64 u) (Int32.toInt64 v) (pa i0) (pb i0) (pc i0) (pd i0)), .long (e_z ax (Int32.toInt64 u) (Int32.toInt64 v) (pa i0) (pb i0) (pc i0) (pd i0)), .long (e_w ax (pa i0) (pb i0) (pc i0))]))) fi = some (.inl (cI, 14, .inl gf)) := gh_keep hpo hfi (by simp)
      have hxx_3 : (gh_up h po (.inr (3, [.long (e_x ax (Int32.toInt64 u) (Int32.toInt64 v) (pa i0) (pb i0) (pc i0) (pd i0)), .long (e_y ax (Int32.toInt64 u) (Int32.toInt64 v) (pa i0) (pb i0) (pc i0) (pd i0)), .long (e_z ax (Int32.toInt64 u) (Int32.toInt64 v) (pa i0) (pb i0) (pc i0) (pd i0)), .long (e_w ax (pa i0) (pb i0) (pc i0))]))) x = some (.inr (0, [.ref sp, .ref sk, .ref po, .int (nI ht)])) := gh_keep hpo hxx (by simp)
      have hsk_3 : (gh_up h po (.inr (3, [.long (e_x ax (Int32.toInt64 u) (Int32.toInt64 v) (pa i0) (pb i0) (pc i0) (pd i0)), .long (e_y ax (Int32.toInt64 u) (Int32.toInt64 v) (pa i0) (pb i0) (pc i0) (pd i0)), .long (e_z ax (Int32.toInt64 u) (Int32.toInt64 v) (pa i0) (pb i0) (pc i0) (pd i0)), .long (e_w ax (pa i0) (pb i0) (pc i0))]))) sk = some (.inl (cS, 6, .inr (.inr (.inr (.inr gs))))) := gh_keep hpo hsk (by simp)
      replace hpl : ∀ i, i < n → (gh_up h po (.inr (3, [.long (e_x ax (Int32.toInt64 u) (Int32.toInt64 v) (pa i0) (pb i0) (pc i0) (pd i0)), .long (e_y ax (Int32.toInt64 u) (Int32.toInt64 v) (pa i0) (pb i0) (pc i0) (pd i0)), .long (e_z ax (Int32.toInt64 u) (Int32.toInt64 v) (pa i0) (pb i0) (pc i0) (pd i0)), .long (e_w ax (pa i0) (pb i0) (pc i0))]))) (pl i) = some (.inr (1, [.long (pa i), .long (pb i), .long (pc i), .long (pd i)])) := fun i hi => gh_keep hpo (hpl i hi) (by simp)
      replace hso : ∀ j, j < 6 → (gh_up h po (.inr (3, [.long (e_x ax (Int32.toInt64 u) (Int32.toInt64 v) (pa i0) (pb i0) (pc i0) (pd i0)), .long (e_y ax (Int32.toInt64 u) (Int32.toInt64 v) (pa i0) (pb i0) (pc i0) (pd i0)), .long (e_z ax (Int32.toInt64 u) (Int32.toInt64 v) (pa i0) (pb i0) (pc i0) (pd i0)), .long (e_w ax (pa i0) (pb i0) (pc i0))]))) (so j) = some (.inr (4, [.ref (wo j)])) := fun j hj => gh_keep hpo (hso j hj) (by simp)
      replace hwo : ∀ j, j < 6 → (gh_up h po (.inr (3, [.long (e_x ax (Int32.toInt64 u) (Int32.toInt64 v) (pa i0) (pb i0) (pc i0) (pd i0)), .long (e_y ax (Int32.toInt64 u) (Int32.toInt64 v) (pa i0) (pb i0) (pc i0) (pd i0)), .long (e_z ax (Int32.toInt64 u) (Int32.toInt64 v) (pa i0) (pb i0) (pc i0) (pd i0)), .long (e_w ax (pa i0) (pb i0) (pc i0))]))) (wo j) = some (.inl (cJ, 4, .inr (.inl (wd j)))) := fun j hj => gh_keep hpo (hwo j hj) (by simp)
      refine W.eq (g2 := F0 m 87 ls []) rfl ?_
      refine W.widen (k := 0) (n := 0) (by decide) (by decide) ?_
      refine lv_aload_n hx hb d_X_isEntry_87 rfl (lv_at hl 3 rfl) ?_
      refine gh_get (ci := 0) hx hb htb in_X hown hK hG hxx_3 rfl 0 (by decide) (htb _ k_1_109) (fun _ h9 => h9) rfl d_X_isEntry_88 ?_
      refine lv_aload_n hx hb d_X_isEntry_91 rfl (lv_at hl 3 rfl) ?_
      refine gh_get (ci := 0) hx hb htb in_X hown hK hG hxx_3 rfl 2 (by decide) (htb _ k_1_111) (fun _ h9 => h9) rfl d_X_isEntry_92 ?_
      refine gh_cV (ci := 2) (As := [.ref po]) (rest := []) (xF_ok b0) hx hb hml hown hK hX hG rfl hsp_3 (c_Ps_isInBox hsp_3 hal_3 hfi_3 hga hgf hfs hpl hn hq3 h6) (q_Ps_isInBox htb ⟨by decide, by decide⟩) (htb _ k_2_212) (htb _ k_2_213) (htb _ k_2_214) rfl hl.1 rfl (Nat.le_of_ble_eq_true rfl) d_X_isEntry_95 ⟨by decide, by decide⟩ (fun v9 h9 H l9 hp9 hG => ?_) (fun _ _ _ _ hp9 _ => by cases hp9.1)
      obtain ⟨hv9, hh9⟩ := hp9
      cases hv9
      rw [hh9] at hG
      refine W.eq (g2 := F0 m 98 ls [.int (m_b (m_all (fun i => decide (m_exc (pa i) (pb i) (pc i) (pd i) (e_x ax (Int32.toInt64 u) (Int32.toInt64 v) (pa i0) (pb i0) (pc i0) (pd i0)) (e_y ax (Int32.toInt64 u) (Int32.toInt64 v) (pa i0) (pb i0) (pc i0) (pd i0)) (e_z ax (Int32.toInt64 u) (Int32.toInt64 v) (pa i0) (pb i0) (pc i0) (pd i0)) (e_w ax (pa i0) (pb i0) (pc i0)) ≤ 0)) 6))]) rfl ?_
      refine W.widen (k := 0) (n := 0) (by decide) (by decide) ?_
      refine lv_if_ne (tgt := 103) hx hb d_X_isEntry_98 (by decide) (fun hc98 => ?_) (fun hc98 => ?_)
      · skip
        replace hc98 := mb_1.mp hc98
        refine lv_aload_n hx hb d_X_isEntry_103 rfl (lv_at hl 3 rfl) ?_
        refine gh_get (ci := 0) hx hb htb in_X hown hK hG hxx_3 rfl 0 (by decide) (htb _ k_1_109) (fun _ h9 => h9) rfl d_X_isEntry_104 ?_
        refine lv_aload_n hx hb d_X_isEntry_107 rfl (lv_at hl 3 rfl) ?_
        refine gh_get (ci := 0) hx hb htb in_X hown hK hG hxx_3 rfl 2 (by decide) (htb _ k_1_111) (fun _ h9 => h9) rfl d_X_isEntry_108 ?_
        refine gh_cV (ci := 2) (As := [.ref po]) (rest := []) (xF_ok b0) hx hb hml hown hK hX hG rfl hsp_3 (c_Ps_onlyOneAt hsp_3 hal_3 hfi_3 hga hgf hfs hpl hn hq3) (q_Ps_onlyOneAt htb ⟨by decide, by decide⟩) (htb _ k_2_133) (htb _ k_2_134) (htb _ k_2_135) rfl hl.1 rfl (Nat.le_of_ble_eq_true rfl) d_X_isEntry_111 ⟨by decide, by decide⟩ (fun v9 h9 H l9 hp9 hG => ?_) (fun _ _ _ _ hp9 _ => by cases hp9.1)
        obtain ⟨hv9, hh9⟩ := hp9
        cases hv9
        rw [hh9] at hG
        refine W.eq (g2 := F0 m 114 ls [.int (m_only (fun i => decide (m_exc (pa i) (pb i) (pc i) (pd i) (e_x ax (Int32.toInt64 u) (Int32.toInt64 v) (pa i0) (pb i0) (pc i0) (pd i0)) (e_y ax (Int32.toInt64 u) (Int32.toInt64 v) (pa i0) (pb i0) (pc i0) (pd i0)) (e_z ax (Int32.toInt64 u) (Int32.toInt64 v) (pa i0) (pb i0) (pc i0) (pd i0)) (e_w ax (pa i0) (pb i0) (pc i0)) = 0)) fs n)]) rfl ?_
        refine W.widen (k := 0) (n := 0) (by decide) (by decide) ?_
        refine lv_iconst (v := (-1)) hx hb d_X_isEntry_114 (by decide) ?_
        refine lv_icmp_ne (tgt := 128) hx hb d_X_isEntry_115 (by decide) (fun hc115 => ?_) (fun hc115 => ?_)
        · skip
          refine lv_aload_n hx hb d_X_isEntry_128 rfl (lv_at hl 3 rfl) ?_
          refine lv_iload_n hx hb d_X_isEntry_129 rfl (lv_at hl 4 rfl) ?_
          refine gh_cV (ci := 0) (As := [.int (nI i0)]) (rest := []) (xF_ok b0) hx hb hml hown hK hX hG rfl hxx_3 (c_X_lookAtSpot hsp_3 hal_3 hfi_3 hga hgf hfs hpl hn h6 hxx_3 hsk_3 hgs hq3 hso hwo hwi hht hs1 (fc := i0) (by omega)) (q_X_lookAtSpot htb ⟨by decide, by decide⟩) (htb _ k_2_153) (htb _ k_2_155) (htb _ k_s_X_lookAtSpot) rfl hl.1 rfl (Nat.le_of_ble_eq_true rfl) d_X_isEntry_130 ⟨by decide, by decide⟩ (fun v9 h9 H l9 hp9 hG => ?_) (fun _ _ _ _ hp9 _ => by cases hp9.1)
          obtain ⟨hv9, hh9⟩ := hp9
          cases hv9
          rw [hh9] at hG
          refine W.eq (g2 := F0 m 133 ls [.int (m_lkat (wd (ht - 1)) n fs pa pb pc pd i0 (e_x ax (Int32.toInt64 u) (Int32.toInt64 v) (pa i0) (pb i0) (pc i0) (pd i0)) (e_y ax (Int32.toInt64 u) (Int32.toInt64 v) (pa i0) (pb i0) (pc i0) (pd i0)) (e_z ax (Int32.toInt64 u) (Int32.toInt64 v) (pa i0) (pb i0) (pc i0) (pd i0)) (e_w ax (pa i0) (pb i0) (pc i0)))]) rfl ?_
          refine W.widen (k := 0) (n := 0) (by decide) (by decide) ?_
          refine lv_lload hx hb d_X_isEntry_133 (lv_at hl 1 rfl) ?_
          refine lv_lconst (v := 0) hx hb d_X_isEntry_135 (by decide) ?_
          refine W.lcmp hx hb d_X_isEntry_136 ?_
          refine lv_if_ge (tgt := 144) hx hb d_X_isEntry_137 (by decide) (fun hc137 => ?_) (fun hc137 => ?_)
          · skip
            rw [lg_cmp_ge] at hc137
            refine lv_iconst (v := (-1)) hx hb d_X_isEntry_144 (by decide) ?_
            refine lv_icmp_ne (tgt := 152) hx hb d_X_isEntry_145 (by decide) (fun hc145 => ?_) (fun hc145 => ?_)
            · skip
              refine lv_iconst (v := 0) hx hb d_X_isEntry_152 (by decide) ?_
              refine W.widen (k := 1) (n := 6) (by decide) (by decide) ?_
              exact gh_iret hx hb hr hlk rfl hG d_X_isEntry_153 (rB_0 (decide_eq_false hc22) (rB_0 (by rw [hc98]; rfl) (rB_0 (decide_eq_false hc115) ⟨by rw [if_neg (Int64.not_lt.mpr hc137), beq_eq_false_iff_ne.mpr hc145]; rfl, rfl⟩)))
            · skip
              refine lv_iconst (v := 1) hx hb d_X_isEntry_148 (by decide) ?_
              refine lv_goto (tgt := 153) hx hb d_X_isEntry_149 (by decide) ?_
              refine W.widen (k := 1) (n := 6) (by decide) (by decide) ?_
              exact gh_iret hx hb hr hlk rfl hG d_X_isEntry_153 (rB_0 (decide_eq_false hc22) (rB_0 (by rw [hc98]; rfl) (rB_0 (decide_eq_false hc115) ⟨by rw [if_neg (Int64.not_lt.mpr hc137), beq_iff_eq.mpr hc145]; rfl, rfl⟩)))
          · skip
            rw [lg_cmp_ge] at hc137
            refine lv_iconst (v := 1) hx hb d_X_isEntry_140 (by decide) ?_
            refine lv_goto (tgt := 145) hx hb d_X_isEntry_141 (by decide) ?_
            refine lv_icmp_ne (tgt := 152) hx hb d_X_isEntry_145 (by decide) (fun hc145 => ?_) (fun hc145 => ?_)
            · skip
              refine lv_iconst (v := 0) hx hb d_X_isEntry_152 (by decide) ?_
              refine W.widen (k := 1) (n := 6) (by decide) (by decide) ?_
              exact gh_iret hx hb hr hlk rfl hG d_X_isEntry_153 (rB_0 (decide_eq_false hc22) (rB_0 (by rw [hc98]; rfl) (rB_0 (decide_eq_false hc115) ⟨by rw [if_pos (Int64.not_le.mp hc137), beq_eq_false_iff_ne.mpr hc145]; rfl, rfl⟩)))
            · skip
              refine lv_iconst (v := 1) hx hb d_X_isEntry_148 (by decide) ?_
              refine lv_goto (tgt := 153) hx hb d_X_isEntry_149 (by decide) ?_
              refine W.widen (k := 1) (n := 6) (by decide) (by decide) ?_
              exact gh_iret hx hb hr hlk rfl hG d_X_isEntry_153 (rB_0 (decide_eq_false hc22) (rB_0 (by rw [hc98]; rfl) (rB_0 (decide_eq_false hc115) ⟨by rw [if_pos (Int64.not_le.mp hc137), beq_iff_eq.mpr hc145]; rfl, rfl⟩)))
        · skip
          refine W.widen (k := 0) (n := 0) (by decide) (by decide) ?_
          exact gh_thr (bytes := prog_16_method_4_code) (index := 13) (is := 171) (E := R_NS) (ci := 9) hx hb htr hlk hno hml hl.1 hown htb hK hX hG rfl (by decide +kernel) k_2_137 k_1_13 k_2_138 (List.mem_of_getElem? (i := 15) rfl) (by decide +kernel) (by decide +kernel) (by decide +kernel) (by decide +kernel) at_NS d_X_isEntry_118 d_X_isEntry_121 d_X_isEntry_122 d_X_isEntry_124 d_X_isEntry_127 (by decide) (by decide) (by decide) (by decide) (fun q9 hq9 => rB_0 (decide_eq_false hc22) (rB_0 (by rw [hc98]; rfl) (rB_1 (decide_eq_true hc115) ⟨q9, rfl, hq9, rfl⟩)))
      · skip
        replace hc98 := mb_0.mp hc98
        refine lv_iconst (v := 0) hx hb d_X_isEntry_101 (by decide) ?_
        refine W.widen (k := 1) (n := 6) (by decide) (by decide) ?_
        exact gh_iret hx hb hr hlk rfl hG d_X_isEntry_102 (rB_0 (decide_eq_false hc22) (rB_1 (by rw [hc98]; rfl) ⟨rfl, rfl⟩))
  · skip
    rw [lg_cmp_eq] at hc22
    refine lv_iconst (v := 0) hx hb d_X_isEntry_25 (by decide) ?_
    refine W.widen (k := 1) (n := 6) (by decide) (by decide) ?_
    exact gh_iret hx hb hr hlk rfl hG d_X_isEntry_26 (rB_1 (decide_eq_true hc22) ⟨rfl, rfl⟩)

end
end
