/-- a cell of the class's own kinds -/
def own (e : va_E) : Bool := match e with
  | .inl (_, n, _) => n == 14 || n == 6 || n == 4
  | .inr (c, _) => decide (c < 5)
theorem wPs_keep {cI cP : ClassId} {h : gh_M} {sp al fi n q : Nat} {e1 : va_E} {ga : Nat → Option Nat} {gf : Nat → Int32} {pl fs : Nat → Nat} {pa pb pc pd : Nat → Int64} (hw : wPs cI cP h sp al fi n ga gf pl fs pa pb pc pd) (hq : ∀ e, h q = some e → (∀ ws, e ≠ .inr (1, ws)) ∧ (∀ ws, e ≠ .inr (2, ws)) ∧ ∀ c f, e ≠ .inl (c, 14, f)) : wPs cI cP (gh_up h q e1) sp al fi n ga gf pl fs pa pb pc pd := by
  obtain ⟨h1, h2, h3, h4, h5, h6, h7, h8⟩ := hw
  refine ⟨?_, ?_, ?_, h4, h5, h6, fun i hi => ?_, h8⟩
  · rw [gh_ne (fun k => ?_)]
    · exact h1
    · rw [k] at h1; exact (hq _ h1).2.1 _ rfl
  · rw [gh_ne (fun k => ?_)]
    · exact h2
    · rw [k] at h2; exact (hq _ h2).2.2 _ _ rfl
  · rw [gh_ne (fun k => ?_)]
    · exact h3
    · rw [k] at h3; exact (hq _ h3).2.2 _ _ rfl
  · have h9 := h7 i hi
    rw [gh_ne (fun k => ?_)]
    · exact h9
    · rw [k] at h9; exact (hq _ h9).1 _ rfl
/-- the class's world -/
def wX (cI cJ cP cS : ClassId) (h : gh_M) (x sp al fi n : Nat) (ga : Nat → Option Nat) (gf : Nat → Int32) (pl fs : Nat → Nat) (pa pb pc pd : Nat → Int64) (sk po : Nat) (gs : Nat → Option Nat) (so wo : Nat → Nat) (wd : Nat → Nat → Int64) (ht : Nat) (px py pz pw : Int64) : Prop :=
  wPs cI cP h sp al fi n ga gf pl fs pa pb pc pd ∧ 6 ≤ n ∧ h x = some (.inr (0, [.ref sp, .ref sk, .ref po, .int (nI ht)])) ∧ h sk = some (.inl (cS, 6, .inr (.inr (.inr (.inr gs))))) ∧ (∀ j, j < 6 → gs j = some (so j)) ∧ h po = some (.inr (3, [.long px, .long py, .long pz, .long pw])) ∧
  (∀ j, j < 6 → h (so j) = some (.inr (4, [.ref (wo j)]))) ∧ (∀ j, j < 6 → h (wo j) = some (.inl (cJ, 4, .inr (.inl (wd j))))) ∧ (∀ i j, i < 6 → j < 6 → wo i = wo j → i = j) ∧ ht ≤ 6
/-- while the solids are made -/
def wC (cI cJ cP cS : ClassId) (h0 h : gh_M) (x sp al fi : Nat) (ga : Nat → Option Nat) (gf : Nat → Int32) (pl fs : Nat → Nat) (pa pb pc pd : Nat → Int64) (sk k : Nat) (gs : Nat → Option Nat) (so wo : Nat → Nat) : Prop :=
  wPs cI cP h sp al fi 6 ga gf pl fs pa pb pc pd ∧ h x = some (.inr (0, [.ref sp, .ref sk, .null, .int 0])) ∧ h sk = some (.inl (cS, 6, .inr (.inr (.inr (.inr gs))))) ∧ (∀ j, j < k → gs j = some (so j)) ∧
  (∀ j, j < k → h (so j) = some (.inr (4, [.ref (wo j)]))) ∧ (∀ j, j < k → h (wo j) = some (.inl (cJ, 4, .inr (.inl (fun _ => 0))))) ∧ (∀ i j, i < k → j < k → wo i = wo j → i = j) ∧ h0 sk = none ∧ ∀ q e, h0 q = some e → q ≠ x → h q = some e
theorem wC_step {cI cJ cP cS : ClassId} {h0 h : gh_M} {x sp al fi : Nat} {ga : Nat → Option Nat} {gf : Nat → Int32} {pl fs : Nat → Nat} {pa pb pc pd : Nat → Int64} {sk k q w : Nat} {gs : Nat → Option Nat} {so wo : Nat → Nat} {e0 : va_E} (hw : wC cI cJ cP cS h0 h x sp al fi ga gf pl fs pa pb pc pd sk k gs so wo) (hq : h q = none) (hw2 : (gh_up h q e0) w = none) :
    wC cI cJ cP cS h0 (gh_up (gh_up (gh_up (gh_up h q e0) w (.inl (cJ, 4, .inr (.inl (fun _ => 0))))) q (.inr (4, [.ref w]))) sk (.inl (cS, 6, .inr (.inr (.inr (.inr (va_up gs k (some q)))))))) x sp al fi ga gf pl fs pa pb pc pd sk (k + 1) (va_up gs k (some q)) (va_up so k q) (va_up wo k w) := by
  obtain ⟨h1, h2, h3, h4, h5, h6, h7, h8, h9⟩ := hw
  have hwq : w ≠ q := fun z => by rw [z, gh_self] at hw2; cases hw2
  have hw0 : h w = none := by rw [gh_ne hwq] at hw2; exact hw2
  have hsq : sk ≠ q := fun z => by rw [z, hq] at h3; cases h3
  have hsw : sk ≠ w := fun z => by rw [z, hw0] at h3; cases h3
  have keep : ∀ a e, h a = some e → a ≠ sk → (gh_up (gh_up (gh_up (gh_up h q e0) w (.inl (cJ, 4, .inr (.inl (fun _ => 0))))) q (.inr (4, [.ref w]))) sk (.inl (cS, 6, .inr (.inr (.inr (.inr (va_up gs k (some q)))))))) a = some e := by
    intro a e ha hs
    have n1 : a ≠ q := fun z => by rw [z, hq] at ha; cases ha
    have n2 : a ≠ w := fun z => by rw [z, hw0] at ha; cases ha
    rw [gh_ne hs, gh_ne n1, gh_ne n2, gh_ne n1]
    exact ha
  have hp : wPs cI cP (gh_up (gh_up (gh_up (gh_up h q e0) w (.inl (cJ, 4, .inr (.inl (fun _ => 0))))) q (.inr (4, [.ref w]))) sk (.inl (cS, 6, .inr (.inr (.inr (.inr (va_up gs k (some q)))))))) sp al fi 6 ga gf pl fs pa pb pc pd := by
    obtain ⟨g1, g2, g3, g4, g5, g6, g7, g8⟩ := h1
    exact ⟨keep _ _ g1 (fun z => by rw [z, h3] at g1; cases g1), keep _ _ g2 (fun z => by rw [z, h3] at g2; cases g2), keep _ _ g3 (fun z => by rw [z, h3] at g3; cases g3), g4, g5, g6, fun i hi => keep _ _ (g7 i hi) (fun z => by have g := g7 i hi; rw [z, h3] at g; cases g), g8⟩
  refine ⟨hp, keep _ _ h2 (fun z => by rw [z, h3] at h2; cases h2), gh_self _ _ _, ?_, ?_, ?_, ?_, h8, fun a e ha hx => keep _ _ (h9 a e ha hx) (fun z => by rw [z, h8] at ha; cases ha)⟩
  · intro j hj
    by_cases hjk : j = k
    · rw [hjk]; simp [va_up]
    · simp only [va_up, if_neg hjk]; exact h4 j (by omega)
  · intro j hj
    by_cases hjk : j = k
    · rw [hjk]
      simp only [va_up, if_true]
      rw [gh_ne hsq.symm, gh_self]
    · simp only [va_up, if_neg hjk]
      have g := h5 j (by omega)
      exact keep _ _ g (fun z => by rw [z, h3] at g; cases g)
  · intro j hj
    by_cases hjk : j = k
    · rw [hjk]
      simp only [va_up, if_true]
      rw [gh_ne hsw.symm, gh_ne hwq, gh_self]
    · simp only [va_up, if_neg hjk]
      have g := h6 j (by omega)
      exact keep _ _ g (fun z => by rw [z, h3] at g; cases g)
  · intro i j hi hj he
    by_cases hik : i = k
    · by_cases hjk : j = k
      · omega
      · exfalso
        rw [hik] at he
        simp only [va_up, if_true, if_neg hjk] at he
        have g := h6 j (by omega)
        rw [← he, hw0] at g
        cases g
    · by_cases hjk : j = k
      · exfalso
        rw [hjk] at he
        simp only [va_up, if_true, if_neg hik] at he
        have g := h6 i (by omega)
        rw [he, hw0] at g
        cases g
      · simp only [va_up, if_neg hik, if_neg hjk] at he
        exact h7 i j (by omega) (by omega) he
section
variable {p : Program} {l : Launch} {e : Env} {R : Room} {s : State} {m : MethodId} {args : Array Value} {below : List Frame} {meth : Method} {c : Code} {H : Heap} {locs : List Loc} {cells slots : Nat} {Q : State → Prop}
  {y : MethodName} {cc : ByteArray} {maxL nL mc ms n index : Nat} {ws : List Cond} {rm : Room} {Pc : Array Value → State → Prop} {Qc : Array Value → State → Outcome → State → Prop} {free : Addr → Prop} {own0 host : String} {b : Addr} {As rest : List Value} {g : JFrame}
/-- the call of a nest mate's constructor -/
theorem gx_runIN (hx : p.tables.exec = Jvm.exec) (hb : c.code = cc) (hml : c.maxLocals = nL) (ho : s.vm.findClass own0 = some m.cls) (hM : gx_Met l y ws rm Pc Qc mc ms free) (cw : gx_Call R s args y maxL ws rm mc ms n) (hl : (Cond.methodLinkNest own0 index y host).before args s = true) (hin : (Cond.instanceMethod y).before args s = true) (hy1 : y.name = "<init>") {bytes : ByteArray} (hcode : (Cond.code y bytes maxL none).before args s = true)
    (hbl : FrameBlind Pc) (hp : ∀ U : State, U.heap = H → s.WarmedH U.vm → Pc (Value.ref b :: As).toArray U)
    (hg : g.method = m) (hn : As.length = n) (hsize : g.locals.size = nL) (hstack : g.stack = As.reverse ++ .ref b :: rest) (hW : 2 * g.monitorRoom + (rest.map fun v => v.category).sum ≤ 8) (hdg : decode cc g.pc = .ok (.invokespecial index, 3)) (hf : cells + mc ≤ R.cells ∧ slots + ms ≤ R.slots) :
    gx_Run p l e R s m args below meth c H locs cells slots mc ms g rest (Qc (Value.ref b :: As).toArray) free := by
  obtain ⟨hrc, hrs, hfr, hlo, hws, ⟨mk, methM, cM, hnamed, hmethM, hcM, hlM, hsigM⟩, hinit, hy, hlen⟩ := cw
  subst hb
  subst hg
  intro T hT X
  have hpl : e.platform.magicAccessors = ({} : Platform).magicAccessors := by rw [X.admits.platform]
  obtain ⟨mk', methM', cM', kP, vm₁, hnamed', hmethM', hcodeM, -, hlocalsM, -, hkP, -, hW₁, hstep₁⟩ := Steps.initColdArgsNest (e := e) X.here hx X.warmed hpl ho hy1 hy hl hin hcode (f := g) rfl (fun sig h => hn.trans (hlen sig h)) hstack hdg
  cases hnamed.symm.trans hnamed'
  have X₁ := X.noted hW₁
  have hini1 : (Cond.initialized y.cls).before (Value.ref b :: As).toArray (T.setVm vm₁) = true := word_at X₁.warmed (Or.inl (by first | rfl | simp [Cond.onTables, Cond.keeps, Cond.steady])) hinit
  obtain ⟨o, t, T', L, X', hL, e1, e2, hq, hs⟩ := gx_back X₁ hM hrc hrs hfr hlo (g := { g with stack := rest }) rfl (hsize.trans hml.symm) hdg hW (X₁.named hnamed) (a := (Value.ref b :: As).toArray) (fun w hw => hws w hw _ _ X₁.warmed) hini1
    ⟨methM, cM, by rw [X₁.warmed.alike.method?]; exact hmethM, hcM, hlM⟩ hf.1 hf.2 (hbl _ _ _ _ (hp (T.setVm vm₁) hT X₁.warmed))
  refine ⟨o, _, t, T', L, ?_, ?_, X', hL, e1, e2, hq, ?_⟩
  · exact hT
  · exact X₁.warmed
  · cases o with
    | returned v => exact fun tg h => hstep₁ _ fun acts => by rw [doInvoke_state]; exact Steps.trans hs h
    | threw x => exact fun tg h => hstep₁ _ fun acts => by rw [doInvoke_state]; exact Steps.trans hs h
end

section
variable {l : Launch} {D : va_G} {cI cJ cP cS : ClassId} {b0 : Nat} {h : gh_M}

set_option maxHeartbeats 4000000 in
set_option maxRecDepth 100000 in
/-- CarvedSolids() -/
theorem c_X_init {a : Nat} (ha : h a = some (.inr (0, [.null, .null, .null, .int 0]))) : gh_C l D vC (tZ cI cJ cP cS) (xF b0) b0 y_X_init w_X_init ({ frames := 4, cells := 23, slots := 95, locals := 130 }) [.ref a] h (fun oc h2 => oc = .returned none ∧ ∃ (sp al fi : Nat) (ga : Nat → Option Nat) (gf : Nat → Int32) (pl fs : Nat → Nat) (pa pb pc pd : Nat → Int64) (sk po : Nat) (gs : Nat → Option Nat) (so wo : Nat → Nat), wX cI cJ cP cS h2 a sp al fi 6 ga gf pl fs pa pb pc pd sk po gs so wo (fun _ _ => 0) 0 0 0 0 0 ∧ (∀ i, i < 6 → fs i = i) ∧ (∀ i, i < 6 → pa i = m_bx 0 i ∧ pb i = m_bx 1 i ∧ pc i = m_bx 2 i ∧ pd i = 1000) ∧ ∀ q e, h q = some e → q ≠ a → h2 q = some e) := by
  refine gh_ofW (by decide) (Nat.le_of_ble_eq_true rfl) ?_
  intro p e s m below meth c ls hctx hno hl hG hK hX
  obtain ⟨hx, hb, hr, hml, hown, hlk, hts, hnm⟩ := hctx
  have htb : ∀ w ∈ tB, w.before _ s = true := fun w hw => hts w (List.mem_cons_of_mem _ hw)
  replace hl : lv_has ls 2 [(0, .ref a)] := hl
  refine lv_aload_n hx hb d_X_init_0 rfl (lv_at hl 0 rfl) ?_
  refine W.objInit hx hb hown (htb _ k_1_20) (htb _ k_1_21) (htb _ k_1_22) rfl (by rw [hml]; exact hl.1) rfl d_X_init_1 (Nat.le_of_ble_eq_true rfl) (Nat.le_of_ble_eq_true rfl) ?_
  refine W.eq (g2 := F0 m 4 ls []) rfl ?_
  refine lv_aload_n hx hb d_X_init_4 rfl (lv_at hl 0 rfl) ?_
  refine gh_new (ci := 2) (fs := [.null, .null, .int 0]) hx hb htb in_Ps t_Ps ty_Ps hown (htb _ k_1_23) (htb _ k_1_24) (htb _ k_1_2) hK hG rfl (fun j hj => by rcases (show j = 0 ∨ j = 1 ∨ j = 2 by omega) with rfl | rfl | rfl <;> rfl) (by decide) (by decide) d_X_init_5 (fun q1 H hf1 hG => ?_)
  have hq2 : (gh_up h q1 (.inr (2, [.null, .null, .int 0]))) q1 = some (.inr (2, [.null, .null, .int 0])) := gh_self _ _ _
  replace hG : gh_P D vC b0 (gh_up h q1 (.inr (2, [.null, .null, .int 0]))) s.heap _ _ := hG
  have ha_2 : (gh_up h q1 (.inr (2, [.null, .null, .int 0]))) a = some (.inr (0, [.null, .null, .null, .int 0])) := gh_keepN hf1 ha
  refine W.widen (k := 1) (n := 3) (by decide) (by decide) ?_
  refine lv_dup hx hb d_X_init_8 rfl ?_
  refine gh_cI (As := []) (rest := [.ref q1, .ref a]) (xF_ok b0) hx hb hml hown hK hX hG (c_Ps_init hq2) (q_Ps_init htb ⟨by decide, by decide⟩) (htb _ k_1_25) (htb _ k_1_26) rfl (htb _ k_1_27) rfl hl.1 rfl (Nat.le_of_ble_eq_true rfl) d_X_init_9 ⟨by decide, by decide⟩ (fun v9 h9 H l9 hp9 hG => ?_) (fun _ _ _ _ hp9 _ => by cases hp9.1)
  obtain ⟨hv9, al, fi, ga, gf, pl, fs, pa, pb, pc, pd, hw, hfs6, hbx⟩ := hp9
  cases hv9
  have hk_a : h9 a = some (.inr (0, [.null, .null, .null, .int 0])) := hw.2.2 a _ ha_2 (fun z => absurd ((congrArg (gh_up h q1 (.inr (2, [.null, .null, .int 0]))) z).symm.trans ha_2) (by rw [hq2]; simp))
  have hfr9 : ∀ z e, h z = some e → z ≠ a → h9 z = some e := fun z e hz hn => hw.2.2 z e (gh_keepN hf1 hz) (fun k9 => by rw [k9, hf1] at hz; cases hz)
  replace hw := hw.1
  refine W.eq (g2 := F0 m 12 ls [.ref q1, .ref a]) rfl ?_
  refine W.widen (k := 9) (n := 55) (by decide) (by decide) ?_
  refine gh_putF (ci := 0) (ty := .object "CarvedSolids$Planes") hx hb htb in_X t_X ty_X nm_X hown hK hG hk_a rfl 0 (by decide) (htb _ k_1_109) (fun _ h9 => h9) rfl hnm rfl (by decide +kernel) rfl rfl (Nat.le_of_ble_eq_true rfl) d_X_init_12 (fun H l9 hG => ?_)
  have hq3 : (gh_up h9 a (.inr (0, [.ref q1, .null, .null, .int 0]))) a = some (.inr (0, [.ref q1, .null, .null, .int 0])) := gh_self _ _ _
  replace hG : gh_P D vC b0 (gh_up h9 a (.inr (0, [.ref q1, .null, .null, .int 0]))) s.heap _ _ := hG
  refine lv_aload_n hx hb d_X_init_15 rfl (lv_at hl 0 rfl) ?_
  refine lv_bipush (v := 6) hx hb d_X_init_16 (by decide) ?_
  refine gh_newq hx hb hown (htb _ k_1_74) hX.2.2.1.2 hK hG 3 rfl (by decide) (N' := 6) rfl (by decide) (by decide) (by decide) d_X_init_18 (fun q4 H hf4 hG => ?_)
  have hq5 : (gh_up (gh_up h9 a (.inr (0, [.ref q1, .null, .null, .int 0]))) q4 (.inl (cS, 6, .inr (.inr (.inr (.inr (fun _ => none))))))) q4 = some (.inl (cS, 6, .inr (.inr (.inr (.inr (fun _ => none)))))) := gh_self _ _ _
  replace hG : gh_P D vC b0 (gh_up (gh_up h9 a (.inr (0, [.ref q1, .null, .null, .int 0]))) q4 (.inl (cS, 6, .inr (.inr (.inr (.inr (fun _ => none))))))) s.heap _ _ := hG
  have hq3_5 : (gh_up (gh_up h9 a (.inr (0, [.ref q1, .null, .null, .int 0]))) q4 (.inl (cS, 6, .inr (.inr (.inr (.inr (fun _ => none))))))) a = some (.inr (0, [.ref q1, .null, .null, .int 0])) := gh_keepN hf4 hq3
  refine W.widen (k := 10) (n := 61) (by decide) (by decide) ?_
  refine gh_putF (ci := 0) (ty := .array (.object "CarvedSolids$Solid")) hx hb htb in_X t_X ty_X nm_X hown hK hG hq3_5 rfl 1 (by decide) (htb _ k_1_110) (fun _ h9 => h9) rfl hnm rfl (by decide +kernel) rfl rfl (Nat.le_of_ble_eq_true rfl) d_X_init_21 (fun H l9 hG => ?_)
  have hq6 : (gh_up (gh_up (gh_up h9 a (.inr (0, [.ref q1, .null, .null, .int 0]))) q4 (.inl (cS, 6, .inr (.inr (.inr (.inr (fun _ => none))))))) a (.inr (0, [.ref q1, .ref q4, .null, .int 0]))) a = some (.inr (0, [.ref q1, .ref q4, .null, .int 0])) := gh_self _ _ _
  replace hG : gh_P D vC b0 (gh_up (gh_up (gh_up h9 a (.inr (0, [.ref q1, .null, .null, .int 0]))) q4 (.inl (cS, 6, .inr (.inr (.inr (.inr (fun _ => none))))))) a (.inr (0, [.ref q1, .ref q4, .null, .int 0]))) s.heap _ _ := hG
  have hq5_6 : (gh_up (gh_up (gh_up h9 a (.inr (0, [.ref q1, .null, .null, .int 0]))) q4 (.inl (cS, 6, .inr (.inr (.inr (.inr (fun _ => none))))))) a (.inr (0, [.ref q1, .ref q4, .null, .int 0]))) q4 = some (.inl (cS, 6, .inr (.inr (.inr (.inr (fun _ => none)))))) := gh_keep hq3_5 hq5 (by simp)
  obtain ⟨hh, hhe⟩ : ∃ hh, hh = gh_up (gh_up (gh_up h9 a (.inr (0, [.ref q1, .null, .null, .int 0]))) q4 (.inl (cS, 6, .inr (.inr (.inr (.inr (fun _ => none))))))) a (.inr (0, [.ref q1, .ref q4, .null, .int 0])) := ⟨_, rfl⟩
  have hw : wC cI cJ cP cS h hh a q1 al fi ga gf pl fs pa pb pc pd q4 0 (fun _ => none) (fun _ => 0) (fun _ => 0) := by
    rw [hhe]
    refine ⟨?_, hq6, hq5_6, fun j hj => absurd hj (Nat.not_lt_zero j), fun j hj => absurd hj (Nat.not_lt_zero j), fun j hj => absurd hj (Nat.not_lt_zero j), fun i j hi => absurd hi (Nat.not_lt_zero i), ?_, ?_⟩
    · refine wPs_keep (wPs_keep (wPs_keep hw ?_) ?_) ?_
      · intro e he; rw [hk_a] at he; cases he; exact ⟨fun _ z => (by cases z), fun _ z => (by cases z), fun _ _ z => (by cases z)⟩
      · intro e he; rw [hf4] at he; cases he
      · intro e he; rw [hq3_5] at he; cases he; exact ⟨fun _ z => (by cases z), fun _ z => (by cases z), fun _ _ z => (by cases z)⟩
    · cases hz : h q4 with
      | none => rfl
      | some e0 =>
        have z2 : q4 ≠ a := fun k9 => by have g := hf4; rw [k9, gh_self] at g; cases g
        have z1 := hfr9 _ _ hz z2
        have g := hf4
        rw [gh_ne z2, z1] at g
        cases g
    · intro q e hq hn
      have z1 := hfr9 q e hq hn
      have z3 : q ≠ q4 := fun k9 => by have g := hf4; rw [← k9, gh_ne hn, z1] at g; cases g
      rw [gh_ne hn, gh_ne z3, gh_ne hn]
      exact z1
  rw [← hhe] at hG
  clear hhe
  clear hfr9 hk_a
  refine lv_iconst (v := 0) hx hb d_X_init_24 (by decide) ?_
  refine lv_istore_n (lv' := [(1, .int 0), (0, .ref a)]) hx hb d_X_init_25 rfl hl (by decide) rfl (fun ls hl => ?_)
  refine gh_gen hG (fun H l9 hG => ?_)
  refine lp_upK (α := gh_M × (Nat → Option Nat) × (Nat → Nat) × (Nat → Nat)) (G := fun k ls H l9 => W p l e _ s m _ below meth c H l9 (10 + 2 * k) (61 + 5 * k) _ (F0 m 26 ls [])) 6 (fun k u9 ls H l9 => wC cI cJ cP cS h u9.1 a q1 al fi ga gf pl fs pa pb pc pd q4 k u9.2.1 u9.2.2.1 u9.2.2.2 ∧ lv_has ls 2 [(0, .ref a), (1, .int (nI k))] ∧ gh_P D vC b0 u9.1 s.heap H l9) ?_ 0 (hh, fun _ => none, fun _ => 0, fun _ => 0) ls H l9 (Nat.zero_le _) ⟨hw, (lv_sub hl [1, 0] rfl), hG⟩
  clear hw hG
  intro k u9 ls H l9 hk hI ih
  obtain ⟨hw, hl, hG⟩ := hI
  obtain ⟨hu, gs, so, wo⟩ := u9
  replace hw : wC cI cJ cP cS h hu a q1 al fi ga gf pl fs pa pb pc pd q4 k gs so wo := hw
  replace hG : gh_P D vC b0 hu s.heap H l9 := hG
  have hxa := hw.2.1
  have hsk := hw.2.2.1
  refine lv_iload_n hx hb d_X_init_26 rfl (lv_at hl 1 rfl) ?_
  refine lv_bipush (v := 6) hx hb d_X_init_27 (by decide) ?_
  refine lv_icmp_ge (tgt := 51) hx hb d_X_init_29 (by decide) (fun hc29 => ?_) (fun hc29 => ?_)
  · skip
    replace hc29 : 6 ≤ k := (nc_le (a := 6) (b := k) (by omega) (by omega) rfl rfl).mp hc29
    refine lv_aload_n hx hb d_X_init_51 rfl (lv_at hl 0 rfl) ?_
    refine gh_new (ci := 3) (fs := [.long 0, .long 0, .long 0, .long 0]) hx hb htb in_Pt t_Pt ty_Pt hown (htb _ k_1_86) (htb _ k_1_87) (htb _ k_1_5) hK hG rfl (fun j hj => by rcases (show j = 0 ∨ j = 1 ∨ j = 2 ∨ j = 3 by omega) with rfl | rfl | rfl | rfl <;> rfl) (by show 10 + 2 * k + 1 ≤ 23; omega) (by show 61 + 5 * k + 4 ≤ 95; omega) d_X_init_52 (fun q7 H hf7 hG => ?_)
    have hq8 : (gh_up hu q7 (.inr (3, [.long 0, .long 0, .long 0, .long 0]))) q7 = some (.inr (3, [.long 0, .long 0, .long 0, .long 0])) := gh_self _ _ _
    replace hG : gh_P D vC b0 (gh_up hu q7 (.inr (3, [.long 0, .long 0, .long 0, .long 0]))) s.heap _ _ := hG
    have hxa_8 : (gh_up hu q7 (.inr (3, [.long 0, .long 0, .long 0, .long 0]))) a = some (.inr (0, [.ref q1, .ref q4, .null, .int 0])) := gh_keepN hf7 hxa
    have hsk_8 : (gh_up hu q7 (.inr (3, [.long 0, .long 0, .long 0, .long 0]))) q4 = some (.inl (cS, 6, .inr (.inr (.inr (.inr gs))))) := gh_keepN hf7 hsk
    refine W.widen (k := 10 + 2 * k + 1) (n := 61 + 5 * k + 4) (by show 10 + 2 * k + 1 ≤ 10 + 2 * k + 1; omega) (by show 61 + 5 * k + 4 ≤ 61 + 5 * k + 4; omega) ?_
    refine lv_dup hx hb d_X_init_55 rfl ?_
    refine gh_go (gx_runIN (As := []) (rest := [.ref q7, .ref a]) hx hb hml hown (c_Pt_init (l := l) (D := D) (cI := cI) (cJ := cJ) (cP := cP) (cS := cS) (b0 := b0) (h := gh_up hu q7 (.inr (3, [.long 0, .long 0, .long 0, .long 0]))) (a := q7)) (q_Pt_init htb ⟨by decide, by decide⟩) (va_Nw.use rfl hX.2.1) (htb _ k_1_89) rfl (htb _ k_1_90) (gh_blind (xF_ok b0)) (gh_pre (xF_ok b0) hG hK hX) rfl rfl hl.1 rfl (lv_room (Nat.le_of_ble_eq_true rfl)) d_X_init_56 ⟨by show 10 + 2 * k + 1 + 0 ≤ 23; omega, by show 61 + 5 * k + 4 + 0 ≤ 95; omega⟩) hG (fun v9 h9 H l9 hp9 hG => ?_) (fun _ _ _ _ hp9 _ => by cases hp9.1)
    obtain ⟨hv9, hh9⟩ := hp9
    cases hv9
    rw [hh9] at hG
    refine W.eq (g2 := F0 m 59 ls [.ref q7, .ref a]) rfl ?_
    refine W.widen (k := 10 + 2 * k + 1) (n := 61 + 5 * k + 4) (by show 10 + 2 * k + 1 + 0 ≤ 10 + 2 * k + 1; omega) (by show 61 + 5 * k + 4 + 0 ≤ 61 + 5 * k + 4; omega) ?_
    refine gh_putF (ci := 0) (ty := .object "CarvedSolids$Point") hx hb htb in_X t_X ty_X nm_X hown hK hG hxa_8 rfl 2 (by decide) (htb _ k_1_111) (fun _ h9 => h9) rfl hnm rfl (by decide +kernel) rfl rfl (Nat.le_of_ble_eq_true rfl) d_X_init_59 (fun H l9 hG => ?_)
    have hq9 : (gh_up (gh_up hu q7 (.inr (3, [.long 0, .long 0, .long 0, .long 0]))) a (.inr (0, [.ref q1, .ref q4, .ref q7, .int 0]))) a = some (.inr (0, [.ref q1, .ref q4, .ref q7, .int 0])) := gh_self _ _ _
    replace hG : gh_P D vC b0 (gh_up (gh_up hu q7 (.inr (3, [.long 0, .long 0, .long 0, .long 0]))) a (.inr (0, [.ref q1, .ref q4, .ref q7, .int 0]))) s.heap _ _ := hG
    have hsk_9 : (gh_up (gh_up hu q7 (.inr (3, [.long 0, .long 0, .long 0, .long 0]))) a (.inr (0, [.ref q1, .ref q4, .ref q7, .int 0]))) q4 = some (.inl (cS, 6, .inr (.inr (.inr (.inr gs))))) := gh_keep hxa_8 hsk_8 (by simp)
    have hq8_9 : (gh_up (gh_up hu q7 (.inr (3, [.long 0, .long 0, .long 0, .long 0]))) a (.inr (0, [.ref q1, .ref q4, .ref q7, .int 0]))) q7 = some (.inr (3, [.long 0, .long 0, .long 0, .long 0])) := gh_keep hxa_8 hq8 (by simp)
    refine lv_aload_n hx hb d_X_init_62 rfl (lv_at hl 0 rfl) ?_
    refine lv_iconst (v := 0) hx hb d_X_init_63 (by decide) ?_
    refine gh_put (ci := 0) (ty := .int) hx hb htb in_X t_X ty_X nm_X hown hK hG hq9 rfl 3 (by decide) (htb _ k_1_112) (fun _ h9 => h9) rfl (by decide +kernel) rfl rfl (Nat.le_of_ble_eq_true rfl) d_X_init_64 (fun H l9 hG => ?_)
    have hq10 : (gh_up (gh_up (gh_up hu q7 (.inr (3, [.long 0, .long 0, .long 0, .long 0]))) a (.inr (0, [.ref q1, .ref q4, .ref q7, .int 0]))) a (.inr (0, [.ref q1, .ref q4, .ref q7, .int 0]))) a = some (.inr (0, [.ref q1, .ref q4, .ref q7, .int 0])) := gh_self _ _ _
    replace hG : gh_P D vC b0 (gh_up (gh_up (gh_up hu q7 (.inr (3, [.long 0, .long 0, .long 0, .long 0]))) a (.inr (0, [.ref q1, .ref q4, .ref q7, .int 0]))) a (.inr (0, [.ref q1, .ref q4, .ref q7, .int 0]))) s.heap _ _ := hG
    have hsk_10 : (gh_up (gh_up (gh_up hu q7 (.inr (3, [.long 0, .long 0, .long 0, .long 0]))) a (.inr (0, [.ref q1, .ref q4, .ref q7, .int 0]))) a (.inr (0, [.ref q1, .ref q4, .ref q7, .int 0]))) q4 = some (.inl (cS, 6, .inr (.inr (.inr (.inr gs))))) := gh_keep hq9 hsk_9 (by simp)
    have hq8_10 : (gh_up (gh_up (gh_up hu q7 (.inr (3, [.long 0, .long 0, .long 0, .long 0]))) a (.inr (0, [.ref q1, .ref q4, .ref q7, .int 0]))) a (.inr (0, [.ref q1, .ref q4, .ref q7, .int 0]))) q7 = some (.inr (3, [.long 0, .long 0, .long 0, .long 0])) := gh_keep hq9 hq8_9 (by simp)
    have hk6 : k = 6 := by omega
    subst hk6
    obtain ⟨w1, w2, w3, w4, w5, w6, w7, w8, w9⟩ := hw
    have hkk : ∀ z e, hu z = some e → z ≠ a → (gh_up (gh_up (gh_up hu q7 (.inr (3, [.long 0, .long 0, .long 0, .long 0]))) a (.inr (0, [.ref q1, .ref q4, .ref q7, .int 0]))) a (.inr (0, [.ref q1, .ref q4, .ref q7, .int 0]))) z = some e := fun z e hz hn => by
      rw [gh_ne hn, gh_ne hn, gh_keepN hf7 hz]
    refine W.widen (k := 23) (n := 95) (by omega) (by omega) ?_
    refine gh_vret hx hb hr hlk hG d_X_init_67 ⟨rfl, q1, al, fi, ga, gf, pl, fs, pa, pb, pc, pd, q4, q7, gs, so, wo, ⟨?_, by decide, hq10, hkk _ _ w3 (fun z => by rw [z, hxa] at w3; cases w3), w4, hq8_10, fun j hj => hkk _ _ (w5 j hj) (fun z => by have g := w5 j hj; rw [z, hxa] at g; cases g), fun j hj => hkk _ _ (w6 j hj) (fun z => by have g := w6 j hj; rw [z, hxa] at g; cases g), w7, by decide⟩, hfs6, hbx, fun z e hz hn => hkk _ _ (w9 z e hz hn) hn⟩
    obtain ⟨g1, g2, g3, g4, g5, g6, g7, g8⟩ := w1
    exact ⟨hkk _ _ g1 (fun z => by rw [z, hxa] at g1; cases g1), hkk _ _ g2 (fun z => by rw [z, hxa] at g2; cases g2), hkk _ _ g3 (fun z => by rw [z, hxa] at g3; cases g3), g4, g5, g6, fun i hi => hkk _ _ (g7 i hi) (fun z => by have g := g7 i hi; rw [z, hxa] at g; cases g), g8⟩
  · skip
    replace hc29 : ¬ 6 ≤ k := fun q9 => hc29 ((nc_le (a := 6) (b := k) (by omega) (by omega) rfl rfl).mpr q9)
    refine lv_aload_n hx hb d_X_init_32 rfl (lv_at hl 0 rfl) ?_
    refine gh_get (ci := 0) hx hb htb in_X hown hK hG hxa rfl 1 (by decide) (htb _ k_1_110) (fun _ h9 => h9) rfl d_X_init_33 ?_
    refine lv_iload_n hx hb d_X_init_36 rfl (lv_at hl 1 rfl) ?_
    refine gh_new (ci := 4) (fs := [.null]) hx hb htb in_So t_So ty_So hown (htb _ k_1_74) (htb _ k_1_76) (htb _ k_1_4) hK hG rfl (fun j hj => by rcases (show j = 0 by omega) with rfl <;> rfl) (by show 10 + 2 * k + 1 ≤ 23; omega) (by show 61 + 5 * k + 1 ≤ 95; omega) d_X_init_37 (fun q11 H hf11 hG => ?_)
    have hq12 : (gh_up hu q11 (.inr (4, [.null]))) q11 = some (.inr (4, [.null])) := gh_self _ _ _
    replace hG : gh_P D vC b0 (gh_up hu q11 (.inr (4, [.null]))) s.heap _ _ := hG
    have hxa_12 : (gh_up hu q11 (.inr (4, [.null]))) a = some (.inr (0, [.ref q1, .ref q4, .null, .int 0])) := gh_keepN hf11 hxa
    have hsk_12 : (gh_up hu q11 (.inr (4, [.null]))) q4 = some (.inl (cS, 6, .inr (.inr (.inr (.inr gs))))) := gh_keepN hf11 hsk
    refine W.widen (k := 10 + 2 * k + 1) (n := 61 + 5 * k + 1) (by show 10 + 2 * k + 1 ≤ 10 + 2 * k + 1; omega) (by show 61 + 5 * k + 1 ≤ 61 + 5 * k + 1; omega) ?_
    refine lv_dup hx hb d_X_init_40 rfl ?_
    refine gh_cI (As := []) (rest := [.ref q11, .int (nI k), .ref q4]) (xF_ok b0) hx hb hml hown hK hX hG (c_So_init hq12) (q_So_init htb ⟨by decide, by decide⟩) (htb _ k_1_77) (htb _ k_1_78) rfl (htb _ k_1_79) rfl hl.1 rfl (Nat.le_of_ble_eq_true rfl) d_X_init_41 ⟨by show 10 + 2 * k + 1 + 1 ≤ 23; omega, by show 61 + 5 * k + 1 + 4 ≤ 95; omega⟩ (fun v9 h9 H l9 hp9 hG => ?_) (fun _ _ _ _ hp9 _ => by cases hp9.1)
    obtain ⟨hv9, w9, hw9, hh9⟩ := hp9
    cases hv9
    rw [hh9] at hG
    have hk_q : (gh_up (gh_up (gh_up hu q11 (.inr (4, [.null]))) w9 (.inl (cJ, 4, .inr (.inl (fun _ => 0))))) q11 (.inr (4, [.ref w9]))) q11 = some (.inr (4, [.ref w9])) := gh_self _ _ _
    have hk_a : (gh_up (gh_up (gh_up hu q11 (.inr (4, [.null]))) w9 (.inl (cJ, 4, .inr (.inl (fun _ => 0))))) q11 (.inr (4, [.ref w9]))) a = some (.inr (0, [.ref q1, .ref q4, .null, .int 0])) := (gh_ne (fun z => absurd ((congrArg (gh_up hu q11 (.inr (4, [.null]))) z).symm.trans hxa_12) (by rw [hq12]; simp))).trans (gh_keepN hw9 hxa_12)
    have hk_q4 : (gh_up (gh_up (gh_up hu q11 (.inr (4, [.null]))) w9 (.inl (cJ, 4, .inr (.inl (fun _ => 0))))) q11 (.inr (4, [.ref w9]))) q4 = some (.inl (cS, 6, .inr (.inr (.inr (.inr gs))))) := (gh_ne (fun z => absurd ((congrArg (gh_up hu q11 (.inr (4, [.null]))) z).symm.trans hsk_12) (by rw [hq12]; simp))).trans (gh_keepN hw9 hsk_12)
    refine W.eq (g2 := F0 m 44 ls [.ref q11, .int (nI k), .ref q4]) rfl ?_
    refine W.widen (k := 10 + 2 * k + 1 + 1) (n := 61 + 5 * k + 1 + 4) (by show 10 + 2 * k + 1 + 1 ≤ 10 + 2 * k + 1 + 1; omega) (by show 61 + 5 * k + 1 + 4 ≤ 61 + 5 * k + 1 + 4; omega) ?_
    refine gh_aast (r := (R_So, T_So, 1)) hx hb hK hG 3 4 hk_q4 rfl hk_q rfl (vp_in_nI (by omega) (by decide)) d_X_init_44 (fun H l9 hG => ?_)
    rw [nI_clamp (by omega)] at hG
    have hq13 : (gh_up (gh_up (gh_up (gh_up hu q11 (.inr (4, [.null]))) w9 (.inl (cJ, 4, .inr (.inl (fun _ => 0))))) q11 (.inr (4, [.ref w9]))) q4 (.inl (cS, 6, .inr (.inr (.inr (.inr (va_up gs k (some q11)))))))) q4 = some (.inl (cS, 6, .inr (.inr (.inr (.inr (va_up gs k (some q11))))))) := gh_self _ _ _
    replace hG : gh_P D vC b0 (gh_up (gh_up (gh_up (gh_up hu q11 (.inr (4, [.null]))) w9 (.inl (cJ, 4, .inr (.inl (fun _ => 0))))) q11 (.inr (4, [.ref w9]))) q4 (.inl (cS, 6, .inr (.inr (.inr (.inr (va_up gs k (some q11)))))))) s.heap _ _ := hG
    have hk_q_13 : (gh_up (gh_up (gh_up (gh_up hu q11 (.inr (4, [.null]))) w9 (.inl (cJ, 4, .inr (.inl (fun _ => 0))))) q11 (.inr (4, [.ref w9]))) q4 (.inl (cS, 6, .inr (.inr (.inr (.inr (va_up gs k (some q11)))))))) q11 = some (.inr (4, [.ref w9])) := gh_keep hk_q4 hk_q (by simp)
    have hk_a_13 : (gh_up (gh_up (gh_up (gh_up hu q11 (.inr (4, [.null]))) w9 (.inl (cJ, 4, .inr (.inl (fun _ => 0))))) q11 (.inr (4, [.ref w9]))) q4 (.inl (cS, 6, .inr (.inr (.inr (.inr (va_up gs k (some q11)))))))) a = some (.inr (0, [.ref q1, .ref q4, .null, .int 0])) := gh_keep hk_q4 hk_a (by simp)
    refine lv_iinc (k := 1) (v := nI (k + 1)) (lv' := [(1, .int (nI (k + 1))), (0, .ref a)]) hx hb d_X_init_45 hl rfl (nI_1 k) (by decide) rfl (fun ls hl => ?_)
    refine lv_goto (tgt := 26) hx hb d_X_init_48 (by decide) ?_
    exact ih (_, va_up gs k (some q11), va_up so k q11, va_up wo k w9) ls H l9 (by omega) ⟨wC_step hw hf11 hw9, (lv_sub hl [1, 0] rfl), hG⟩

end
