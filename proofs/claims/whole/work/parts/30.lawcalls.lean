section
variable {p : Program} {l : Launch} {e : Env} {R : Room} {s : State} {m : MethodId} {args : Array Value} {below : List Frame} {meth : Method} {c : Code} {H : Heap} {locs : List Loc} {cells slots : Nat} {Q : State → Prop}
  {D : va_G} {cl : List vw_C} {tys : List (ClassId × FieldType)} {b0 : Nat} {h : gh_M} {pc : Nat} {ls : Array Slot} {rest : List Value} {H0 : Heap}
/-- caught by a row of this method's table -/
theorem gh_catch {own name E : String} {T : u_T} {N ci q : Nat} {fs : List Value} (hown : s.vm.findClass own = some m.cls) (hK : va_K D cl tys s) (hG : gh_P D cl b0 h H0 H locs) (hc : cl[ci]? = some (E, T, N)) (he : h q = some (.inr (ci, fs)))
    (pre : List ExceptionTableEntry) (x : ExceptionTableEntry) (suf : List ExceptionTableEntry) (hsplit : c.exceptionTable.toList = pre ++ x :: suf)
    (hpass : ∀ z ∈ pre, covers z pc = false ∨ (z.catchType ≠ 0 ∧ ∃ nm : String, (Cond.classLink own z.catchType nm).before args s = true ∧ va_Nc E nm s)) (hx : covers x pc = true) (h0 : x.catchType ≠ 0)
    (hlink : (Cond.classLink own x.catchType name).before args s = true) (hcast : (Cond.castable E name).before args s = true)
    (kk : W p l e R s m args below meth c H locs cells slots Q (F0 m x.handlerPc ls [.ref q])) : gx_WT p l e R s m args below meth c H locs cells slots Q (F0 m pc ls rest) q := by
  obtain ⟨ws, hL, hP, -⟩ := hG
  obtain ⟨k0, hk0⟩ := (hL q _).mp he
  obtain ⟨q', h1, cell, g1, g2, g3, -⟩ := hP k0 _ hk0
  exact vx_catch hown pre x suf hsplit hpass hx h0 hlink hcast g1 g3 (by rw [g2]; exact (hK.1 ci _ hc).2.1) kk
end
theorem ps_0 {P : ExceptionTableEntry → Prop} : ∀ z ∈ ([] : List ExceptionTableEntry), P z := fun z hz => by cases hz
theorem ps_1 {P : ExceptionTableEntry → Prop} {a : ExceptionTableEntry} (h : P a) : ∀ z ∈ [a], P z := fun z hz => by rw [List.mem_singleton.mp hz]; exact h
theorem ps_2 {P : ExceptionTableEntry → Prop} {a b : ExceptionTableEntry} (h : P a) (h2 : P b) : ∀ z ∈ [a, b], P z := fun z hz => by
  rcases List.mem_cons.mp hz with h9 | h9
  · rw [h9]; exact h
  · exact ps_1 h2 z h9
/-- what a call through the law's catching method comes to -/
def lwP (post : Outcome → gh_M → Prop) (ou : Nat) (cJ : ClassId) (fo : Nat → Int64) (cs : List (Nat × Int32)) : Outcome → gh_M → Prop := fun oc h2 =>
  (∃ r h1, post (.returned (some (.int r))) h1 ∧ oc = .returned (some (.int 0)) ∧ h2 = gh_up h1 ou (.inl (cJ, 1, .inr (.inl (vp_updL fo 0 (Int32.toInt64 r)))))) ∨
  (∃ q k, post (.threw q) h2 ∧ k ∈ cs ∧ h2 q = some (.inr (k.1, [])) ∧ oc = .returned (some (.int k.2)))
def lwT (post : Outcome → gh_M → Prop) (cs : List (Nat × Int32)) : Outcome → gh_M → Prop := fun oc h2 =>
  (post (.returned none) h2 ∧ oc = .returned (some (.int 0))) ∨ (∃ q k, post (.threw q) h2 ∧ k ∈ cs ∧ h2 q = some (.inr (k.1, [])) ∧ oc = .returned (some (.int k.2)))

section
variable {l : Launch} {D : va_G} {cI cJ cP cS : ClassId} {b0 : Nat} {h : gh_M}

set_option maxHeartbeats 4000000 in
set_option maxRecDepth 100000 in
/-- the law's plane -/
theorem c_La_plane {x ou : Nat} {p0 p1 p2 p3 : Int32} {xf : List Value} {post : Outcome → gh_M → Prop} (hxx : h x = some (.inr (0, xf))) (hC : gh_C l D vC (tZ cI cJ cP cS) (xF b0) b0 y_X_plane w_X_plane ({ frames := 6, cells := 1, slots := 6, locals := 100 }) [.ref x, .int p0, .int p1, .int p2, .int p3] h post) {fo : Nat → Int64} (hrr : ∀ v h1, post (.returned v) h1 → ∃ r, v = some (.int r) ∧ h1 ou = some (.inl (cJ, 1, .inr (.inl fo)))) (htt : ∀ q h1, post (.threw q) h1 → h1 q = some (.inr (6, [])) ∨ h1 q = some (.inr (7, []))) : gh_C l D vC (tZ cI cJ cP cS) (xF b0) b0 y_La_plane w_La_plane ({ frames := 7, cells := 1, slots := 6, locals := 160 }) [.ref x, .int p0, .int p1, .int p2, .int p3, .ref ou] h (lwP post ou cJ fo [(6, 1), (7, 2)]) := by
  refine gh_ofWh (by decide) (Nat.le_of_ble_eq_true rfl) ?_
  intro p e s m below meth c ls hctx hno hl hG hK hX
  obtain ⟨hx, hb, hr, hml, hown, hlk, hts, hnm⟩ := hctx
  have htb : ∀ w ∈ tB, w.before _ s = true := fun w hw => hts w (List.mem_cons_of_mem _ hw)
  replace hl : lv_has ls 7 [(0, .ref x), (1, .int p0), (2, .int p1), (3, .int p2), (4, .int p3), (5, .ref ou)] := hl
  refine lv_aload hx hb d_La_plane_0 (lv_at hl 5 rfl) ?_
  refine lv_iconst (v := 0) hx hb d_La_plane_2 (by decide) ?_
  refine lv_aload_n hx hb d_La_plane_3 rfl (lv_at hl 0 rfl) ?_
  refine lv_iload_n hx hb d_La_plane_4 rfl (lv_at hl 1 rfl) ?_
  refine lv_iload_n hx hb d_La_plane_5 rfl (lv_at hl 2 rfl) ?_
  refine lv_iload_n hx hb d_La_plane_6 rfl (lv_at hl 3 rfl) ?_
  refine lv_iload hx hb d_La_plane_7 (lv_at hl 4 rfl) ?_
  refine gh_cV (ci := 0) (As := [.int p0, .int p1, .int p2, .int p3]) (rest := [.int 0, .ref ou]) (xF_ok b0) hx hb hml hown hK hX hG rfl hxx hC (q_X_plane htb ⟨by decide, by decide⟩) (htb _ k_1_139) (htb _ k_1_140) (htb _ k_1_141) rfl hl.1 rfl (Nat.le_of_ble_eq_true rfl) d_La_plane_9 ⟨by decide, by decide⟩ (fun v9 h9 H l9 hp9 hG => ?_) (fun x9 h9 H l9 hp9 hG => ?_)
  · skip
    obtain ⟨r9, hr9, hou⟩ := hrr _ _ hp9
    cases hr9
    refine W.eq (g2 := F0 m 12 ls [.int r9, .int 0, .ref ou]) rfl ?_
    refine W.widen (k := 1) (n := 6) (by decide) (by decide) ?_
    refine lv_i2l (v := Int32.toInt64 r9) hx hb d_La_plane_12 rfl ?_
    refine gh_last hx hb hK hG 1 hou rfl (vp_in_nI (n := 0) (by decide) (by decide)) d_La_plane_13 (fun H l9 hG => ?_)
    have hq1 : (gh_up h9 ou (.inl (cJ, 1, .inr (.inl (vp_updL fo 0 (Int32.toInt64 r9)))))) ou = some (.inl (cJ, 1, .inr (.inl (vp_updL fo 0 (Int32.toInt64 r9))))) := gh_self _ _ _
    replace hG : gh_P D vC b0 (gh_up h9 ou (.inl (cJ, 1, .inr (.inl (vp_updL fo 0 (Int32.toInt64 r9)))))) s.heap _ _ := hG
    refine lv_goto (tgt := 25) hx hb d_La_plane_14 (by decide) ?_
    refine lv_iconst (v := 0) hx hb d_La_plane_25 (by decide) ?_
    exact gh_iret hx hb hr hlk rfl hG d_La_plane_26 (Or.inl ⟨r9, h9, hp9, rfl, rfl⟩)
  · skip
    rcases htt _ _ hp9 with he | he
    · skip
      refine gh_catch (E := R_IA) (name := R_IA) (ci := 6) hown hK hG rfl he [] ⟨0, 14, 17, 13⟩ [⟨0, 14, 21, 15⟩] hno (ps_0) (by decide) (by decide) (htb _ k_1_137) (va_Nw.use rfl (hX.2.2.2.1 R_IA (List.mem_of_getElem? (i := 0) rfl))) ?_
      refine W.eq (g2 := F0 m 17 ls [.ref x9]) rfl ?_
      refine lv_astore (lv' := [(6, .ref x9), (0, .ref x), (1, .int p0), (2, .int p1), (3, .int p2), (4, .int p3), (5, .ref ou)]) hx hb d_La_plane_17 hl (by decide) rfl (fun ls hl => ?_)
      refine lv_iconst (v := 1) hx hb d_La_plane_19 (by decide) ?_
      exact gh_iret hx hb hr hlk rfl hG d_La_plane_20 (Or.inr ⟨x9, _, hp9, (List.mem_of_getElem? (i := 0) rfl), he, rfl⟩)
    · skip
      refine gh_catch (E := R_IS) (name := R_IS) (ci := 7) hown hK hG rfl he [⟨0, 14, 17, 13⟩] ⟨0, 14, 21, 15⟩ [] hno (ps_1 (Or.inr ⟨by decide, R_IA, (htb _ k_1_137), hX.2.2.2.2.1 R_IS (List.mem_of_getElem? (i := 1) rfl) R_IA (List.mem_of_getElem? (i := 0) rfl) (by decide)⟩)) (by decide) (by decide) (htb _ k_1_138) (va_Nw.use rfl (hX.2.2.2.1 R_IS (List.mem_of_getElem? (i := 1) rfl))) ?_
      refine W.eq (g2 := F0 m 21 ls [.ref x9]) rfl ?_
      refine lv_astore (lv' := [(6, .ref x9), (0, .ref x), (1, .int p0), (2, .int p1), (3, .int p2), (4, .int p3), (5, .ref ou)]) hx hb d_La_plane_21 hl (by decide) rfl (fun ls hl => ?_)
      refine lv_iconst (v := 2) hx hb d_La_plane_23 (by decide) ?_
      exact gh_iret hx hb hr hlk rfl hG d_La_plane_24 (Or.inr ⟨x9, _, hp9, (List.mem_of_getElem? (i := 1) rfl), he, rfl⟩)

set_option maxHeartbeats 4000000 in
set_option maxRecDepth 100000 in
/-- the law's convex -/
theorem c_La_convex {x ou : Nat} {p0 : Int32} {xf : List Value} {post : Outcome → gh_M → Prop} (hxx : h x = some (.inr (0, xf))) (hC : gh_C l D vC (tZ cI cJ cP cS) (xF b0) b0 y_X_convex w_X_convex ({ frames := 7, cells := 1, slots := 6, locals := 130 }) [.ref x, .int p0] h post) {fo : Nat → Int64} (hrr : ∀ v h1, post (.returned v) h1 → ∃ r, v = some (.int r) ∧ h1 ou = some (.inl (cJ, 1, .inr (.inl fo)))) (htt : ∀ q h1, post (.threw q) h1 → h1 q = some (.inr (6, [])) ∨ h1 q = some (.inr (7, []))) : gh_C l D vC (tZ cI cJ cP cS) (xF b0) b0 y_La_convex w_La_convex ({ frames := 8, cells := 1, slots := 6, locals := 190 }) [.ref x, .int p0, .ref ou] h (lwP post ou cJ fo [(6, 1), (7, 2)]) := by
  refine gh_ofWh (by decide) (Nat.le_of_ble_eq_true rfl) ?_
  intro p e s m below meth c ls hctx hno hl hG hK hX
  obtain ⟨hx, hb, hr, hml, hown, hlk, hts, hnm⟩ := hctx
  have htb : ∀ w ∈ tB, w.before _ s = true := fun w hw => hts w (List.mem_cons_of_mem _ hw)
  replace hl : lv_has ls 4 [(0, .ref x), (1, .int p0), (2, .ref ou)] := hl
  refine lv_aload_n hx hb d_La_convex_0 rfl (lv_at hl 2 rfl) ?_
  refine lv_iconst (v := 0) hx hb d_La_convex_1 (by decide) ?_
  refine lv_aload_n hx hb d_La_convex_2 rfl (lv_at hl 0 rfl) ?_
  refine lv_iload_n hx hb d_La_convex_3 rfl (lv_at hl 1 rfl) ?_
  refine gh_cV (ci := 0) (As := [.int p0]) (rest := [.int 0, .ref ou]) (xF_ok b0) hx hb hml hown hK hX hG rfl hxx hC (q_X_convex htb ⟨by decide, by decide⟩) (htb _ k_2_1) (htb _ k_2_2) (htb _ k_2_3) rfl hl.1 rfl (Nat.le_of_ble_eq_true rfl) d_La_convex_4 ⟨by decide, by decide⟩ (fun v9 h9 H l9 hp9 hG => ?_) (fun x9 h9 H l9 hp9 hG => ?_)
  · skip
    obtain ⟨r9, hr9, hou⟩ := hrr _ _ hp9
    cases hr9
    refine W.eq (g2 := F0 m 7 ls [.int r9, .int 0, .ref ou]) rfl ?_
    refine W.widen (k := 1) (n := 6) (by decide) (by decide) ?_
    refine lv_i2l (v := Int32.toInt64 r9) hx hb d_La_convex_7 rfl ?_
    refine gh_last hx hb hK hG 1 hou rfl (vp_in_nI (n := 0) (by decide) (by decide)) d_La_convex_8 (fun H l9 hG => ?_)
    have hq1 : (gh_up h9 ou (.inl (cJ, 1, .inr (.inl (vp_updL fo 0 (Int32.toInt64 r9)))))) ou = some (.inl (cJ, 1, .inr (.inl (vp_updL fo 0 (Int32.toInt64 r9))))) := gh_self _ _ _
    replace hG : gh_P D vC b0 (gh_up h9 ou (.inl (cJ, 1, .inr (.inl (vp_updL fo 0 (Int32.toInt64 r9)))))) s.heap _ _ := hG
    refine lv_goto (tgt := 18) hx hb d_La_convex_9 (by decide) ?_
    refine lv_iconst (v := 0) hx hb d_La_convex_18 (by decide) ?_
    exact gh_iret hx hb hr hlk rfl hG d_La_convex_19 (Or.inl ⟨r9, h9, hp9, rfl, rfl⟩)
  · skip
    rcases htt _ _ hp9 with he | he
    · skip
      refine gh_catch (E := R_IA) (name := R_IA) (ci := 6) hown hK hG rfl he [] ⟨0, 9, 12, 13⟩ [⟨0, 9, 15, 15⟩] hno (ps_0) (by decide) (by decide) (htb _ k_1_137) (va_Nw.use rfl (hX.2.2.2.1 R_IA (List.mem_of_getElem? (i := 0) rfl))) ?_
      refine W.eq (g2 := F0 m 12 ls [.ref x9]) rfl ?_
      refine lv_astore_n (lv' := [(3, .ref x9), (0, .ref x), (1, .int p0), (2, .ref ou)]) hx hb d_La_convex_12 rfl hl (by decide) rfl (fun ls hl => ?_)
      refine lv_iconst (v := 1) hx hb d_La_convex_13 (by decide) ?_
      exact gh_iret hx hb hr hlk rfl hG d_La_convex_14 (Or.inr ⟨x9, _, hp9, (List.mem_of_getElem? (i := 0) rfl), he, rfl⟩)
    · skip
      refine gh_catch (E := R_IS) (name := R_IS) (ci := 7) hown hK hG rfl he [⟨0, 9, 12, 13⟩] ⟨0, 9, 15, 15⟩ [] hno (ps_1 (Or.inr ⟨by decide, R_IA, (htb _ k_1_137), hX.2.2.2.2.1 R_IS (List.mem_of_getElem? (i := 1) rfl) R_IA (List.mem_of_getElem? (i := 0) rfl) (by decide)⟩)) (by decide) (by decide) (htb _ k_1_138) (va_Nw.use rfl (hX.2.2.2.1 R_IS (List.mem_of_getElem? (i := 1) rfl))) ?_
      refine W.eq (g2 := F0 m 15 ls [.ref x9]) rfl ?_
      refine lv_astore_n (lv' := [(3, .ref x9), (0, .ref x), (1, .int p0), (2, .ref ou)]) hx hb d_La_convex_15 rfl hl (by decide) rfl (fun ls hl => ?_)
      refine lv_iconst (v := 2) hx hb d_La_convex_16 (by decide) ?_
      exact gh_iret hx hb hr hlk rfl hG d_La_convex_17 (Or.inr ⟨x9, _, hp9, (List.mem_of_getElem? (i := 1) rfl), he, rfl⟩)

set_option maxHeartbeats 4000000 in
set_option maxRecDepth 100000 in
/-- the law's join -/
theorem c_La_join {x ou : Nat} {p0 : Int32} {xf : List Value} {post : Outcome → gh_M → Prop} (hxx : h x = some (.inr (0, xf))) (hC : gh_C l D vC (tZ cI cJ cP cS) (xF b0) b0 y_X_join w_X_join ({ frames := 6, cells := 1, slots := 6, locals := 100 }) [.ref x, .int p0] h post) {fo : Nat → Int64} (hrr : ∀ v h1, post (.returned v) h1 → ∃ r, v = some (.int r) ∧ h1 ou = some (.inl (cJ, 1, .inr (.inl fo)))) (htt : ∀ q h1, post (.threw q) h1 → h1 q = some (.inr (6, [])) ∨ h1 q = some (.inr (7, []))) : gh_C l D vC (tZ cI cJ cP cS) (xF b0) b0 y_La_join w_La_join ({ frames := 7, cells := 1, slots := 6, locals := 160 }) [.ref x, .int p0, .ref ou] h (lwP post ou cJ fo [(6, 1), (7, 2)]) := by
  refine gh_ofWh (by decide) (Nat.le_of_ble_eq_true rfl) ?_
  intro p e s m below meth c ls hctx hno hl hG hK hX
  obtain ⟨hx, hb, hr, hml, hown, hlk, hts, hnm⟩ := hctx
  have htb : ∀ w ∈ tB, w.before _ s = true := fun w hw => hts w (List.mem_cons_of_mem _ hw)
  replace hl : lv_has ls 4 [(0, .ref x), (1, .int p0), (2, .ref ou)] := hl
  refine lv_aload_n hx hb d_La_join_0 rfl (lv_at hl 2 rfl) ?_
  refine lv_iconst (v := 0) hx hb d_La_join_1 (by decide) ?_
  refine lv_aload_n hx hb d_La_join_2 rfl (lv_at hl 0 rfl) ?_
  refine lv_iload_n hx hb d_La_join_3 rfl (lv_at hl 1 rfl) ?_
  refine gh_cV (ci := 0) (As := [.int p0]) (rest := [.int 0, .ref ou]) (xF_ok b0) hx hb hml hown hK hX hG rfl hxx hC (q_X_join htb ⟨by decide, by decide⟩) (htb _ k_2_18) (htb _ k_2_19) (htb _ k_2_20) rfl hl.1 rfl (Nat.le_of_ble_eq_true rfl) d_La_join_4 ⟨by decide, by decide⟩ (fun v9 h9 H l9 hp9 hG => ?_) (fun x9 h9 H l9 hp9 hG => ?_)
  · skip
    obtain ⟨r9, hr9, hou⟩ := hrr _ _ hp9
    cases hr9
    refine W.eq (g2 := F0 m 7 ls [.int r9, .int 0, .ref ou]) rfl ?_
    refine W.widen (k := 1) (n := 6) (by decide) (by decide) ?_
    refine lv_i2l (v := Int32.toInt64 r9) hx hb d_La_join_7 rfl ?_
    refine gh_last hx hb hK hG 1 hou rfl (vp_in_nI (n := 0) (by decide) (by decide)) d_La_join_8 (fun H l9 hG => ?_)
    have hq1 : (gh_up h9 ou (.inl (cJ, 1, .inr (.inl (vp_updL fo 0 (Int32.toInt64 r9)))))) ou = some (.inl (cJ, 1, .inr (.inl (vp_updL fo 0 (Int32.toInt64 r9))))) := gh_self _ _ _
    replace hG : gh_P D vC b0 (gh_up h9 ou (.inl (cJ, 1, .inr (.inl (vp_updL fo 0 (Int32.toInt64 r9)))))) s.heap _ _ := hG
    refine lv_goto (tgt := 18) hx hb d_La_join_9 (by decide) ?_
    refine lv_iconst (v := 0) hx hb d_La_join_18 (by decide) ?_
    exact gh_iret hx hb hr hlk rfl hG d_La_join_19 (Or.inl ⟨r9, h9, hp9, rfl, rfl⟩)
  · skip
    rcases htt _ _ hp9 with he | he
    · skip
      refine gh_catch (E := R_IA) (name := R_IA) (ci := 6) hown hK hG rfl he [] ⟨0, 9, 12, 13⟩ [⟨0, 9, 15, 15⟩] hno (ps_0) (by decide) (by decide) (htb _ k_1_137) (va_Nw.use rfl (hX.2.2.2.1 R_IA (List.mem_of_getElem? (i := 0) rfl))) ?_
      refine W.eq (g2 := F0 m 12 ls [.ref x9]) rfl ?_
      refine lv_astore_n (lv' := [(3, .ref x9), (0, .ref x), (1, .int p0), (2, .ref ou)]) hx hb d_La_join_12 rfl hl (by decide) rfl (fun ls hl => ?_)
      refine lv_iconst (v := 1) hx hb d_La_join_13 (by decide) ?_
      exact gh_iret hx hb hr hlk rfl hG d_La_join_14 (Or.inr ⟨x9, _, hp9, (List.mem_of_getElem? (i := 0) rfl), he, rfl⟩)
    · skip
      refine gh_catch (E := R_IS) (name := R_IS) (ci := 7) hown hK hG rfl he [⟨0, 9, 12, 13⟩] ⟨0, 9, 15, 15⟩ [] hno (ps_1 (Or.inr ⟨by decide, R_IA, (htb _ k_1_137), hX.2.2.2.2.1 R_IS (List.mem_of_getElem? (i := 1) rfl) R_IA (List.mem_of_getElem? (i := 0) rfl) (by decide)⟩)) (by decide) (by decide) (htb _ k_1_138) (va_Nw.use rfl (hX.2.2.2.1 R_IS (List.mem_of_getElem? (i := 1) rfl))) ?_
      refine W.eq (g2 := F0 m 15 ls [.ref x9]) rfl ?_
      refine lv_astore_n (lv' := [(3, .ref x9), (0, .ref x), (1, .int p0), (2, .ref ou)]) hx hb d_La_join_15 rfl hl (by decide) rfl (fun ls hl => ?_)
      refine lv_iconst (v := 2) hx hb d_La_join_16 (by decide) ?_
      exact gh_iret hx hb hr hlk rfl hG d_La_join_17 (Or.inr ⟨x9, _, hp9, (List.mem_of_getElem? (i := 1) rfl), he, rfl⟩)

set_option maxHeartbeats 4000000 in
set_option maxRecDepth 100000 in
/-- the law's turn -/
theorem c_La_turn {x : Nat} {xf : List Value} {post : Outcome → gh_M → Prop} (hxx : h x = some (.inr (0, xf))) (hC : gh_C l D vC (tZ cI cJ cP cS) (xF b0) b0 y_X_turn w_X_turn ({ frames := 7, cells := 1, slots := 6, locals := 130 }) [.ref x] h post) (hrr : ∀ v h1, post (.returned v) h1 → v = none) (htt : ∀ q h1, post (.threw q) h1 → h1 q = some (.inr (7, []))) : gh_C l D vC (tZ cI cJ cP cS) (xF b0) b0 y_La_turn w_La_turn ({ frames := 8, cells := 1, slots := 6, locals := 190 }) [.ref x] h (lwT post [(7, 1)]) := by
  refine gh_ofWh (by decide) (Nat.le_of_ble_eq_true rfl) ?_
  intro p e s m below meth c ls hctx hno hl hG hK hX
  obtain ⟨hx, hb, hr, hml, hown, hlk, hts, hnm⟩ := hctx
  have htb : ∀ w ∈ tB, w.before _ s = true := fun w hw => hts w (List.mem_cons_of_mem _ hw)
  replace hl : lv_has ls 2 [(0, .ref x)] := hl
  refine lv_aload_n hx hb d_La_turn_0 rfl (lv_at hl 0 rfl) ?_
  refine gh_cV (ci := 0) (As := []) (rest := []) (xF_ok b0) hx hb hml hown hK hX hG rfl hxx hC (q_X_turn htb ⟨by decide, by decide⟩) (htb _ k_2_35) (htb _ k_2_36) (htb _ k_2_37) rfl hl.1 rfl (Nat.le_of_ble_eq_true rfl) d_La_turn_1 ⟨by decide, by decide⟩ (fun v9 h9 H l9 hp9 hG => ?_) (fun x9 h9 H l9 hp9 hG => ?_)
  · skip
    cases hrr _ _ hp9
    refine W.eq (g2 := F0 m 4 ls []) rfl ?_
    refine W.widen (k := 1) (n := 6) (by decide) (by decide) ?_
    refine lv_goto (tgt := 10) hx hb d_La_turn_4 (by decide) ?_
    refine lv_iconst (v := 0) hx hb d_La_turn_10 (by decide) ?_
    exact gh_iret hx hb hr hlk rfl hG d_La_turn_11 (Or.inl ⟨hp9, rfl⟩)
  · skip
    rcases htt _ _ hp9 with he
    · skip
      refine gh_catch (E := R_IS) (name := R_IS) (ci := 7) hown hK hG rfl he [] ⟨0, 4, 7, 15⟩ [] hno (ps_0) (by decide) (by decide) (htb _ k_1_138) (va_Nw.use rfl (hX.2.2.2.1 R_IS (List.mem_of_getElem? (i := 1) rfl))) ?_
      refine W.eq (g2 := F0 m 7 ls [.ref x9]) rfl ?_
      refine lv_astore_n (lv' := [(1, .ref x9), (0, .ref x)]) hx hb d_La_turn_7 rfl hl (by decide) rfl (fun ls hl => ?_)
      refine lv_iconst (v := 1) hx hb d_La_turn_8 (by decide) ?_
      exact gh_iret hx hb hr hlk rfl hG d_La_turn_9 (Or.inr ⟨x9, _, hp9, (List.mem_of_getElem? (i := 0) rfl), he, rfl⟩)

set_option maxHeartbeats 4000000 in
set_option maxRecDepth 100000 in
/-- the law's copy -/
theorem c_La_copy {x ou : Nat} {p0 : Int32} {xf : List Value} {post : Outcome → gh_M → Prop} (hxx : h x = some (.inr (0, xf))) (hC : gh_C l D vC (tZ cI cJ cP cS) (xF b0) b0 y_X_copy w_X_copy ({ frames := 7, cells := 1, slots := 6, locals := 130 }) [.ref x, .int p0] h post) {fo : Nat → Int64} (hrr : ∀ v h1, post (.returned v) h1 → ∃ r, v = some (.int r) ∧ h1 ou = some (.inl (cJ, 1, .inr (.inl fo)))) (htt : ∀ q h1, post (.threw q) h1 → h1 q = some (.inr (8, [])) ∨ h1 q = some (.inr (7, []))) : gh_C l D vC (tZ cI cJ cP cS) (xF b0) b0 y_La_copy w_La_copy ({ frames := 8, cells := 1, slots := 6, locals := 190 }) [.ref x, .int p0, .ref ou] h (lwP post ou cJ fo [(8, 1), (7, 2)]) := by
  refine gh_ofWh (by decide) (Nat.le_of_ble_eq_true rfl) ?_
  intro p e s m below meth c ls hctx hno hl hG hK hX
  obtain ⟨hx, hb, hr, hml, hown, hlk, hts, hnm⟩ := hctx
  have htb : ∀ w ∈ tB, w.before _ s = true := fun w hw => hts w (List.mem_cons_of_mem _ hw)
  replace hl : lv_has ls 4 [(0, .ref x), (1, .int p0), (2, .ref ou)] := hl
  refine lv_aload_n hx hb d_La_copy_0 rfl (lv_at hl 2 rfl) ?_
  refine lv_iconst (v := 0) hx hb d_La_copy_1 (by decide) ?_
  refine lv_aload_n hx hb d_La_copy_2 rfl (lv_at hl 0 rfl) ?_
  refine lv_iload_n hx hb d_La_copy_3 rfl (lv_at hl 1 rfl) ?_
  refine gh_cV (ci := 0) (As := [.int p0]) (rest := [.int 0, .ref ou]) (xF_ok b0) hx hb hml hown hK hX hG rfl hxx hC (q_X_copy htb ⟨by decide, by decide⟩) (htb _ k_2_52) (htb _ k_2_53) (htb _ k_2_54) rfl hl.1 rfl (Nat.le_of_ble_eq_true rfl) d_La_copy_4 ⟨by decide, by decide⟩ (fun v9 h9 H l9 hp9 hG => ?_) (fun x9 h9 H l9 hp9 hG => ?_)
  · skip
    obtain ⟨r9, hr9, hou⟩ := hrr _ _ hp9
    cases hr9
    refine W.eq (g2 := F0 m 7 ls [.int r9, .int 0, .ref ou]) rfl ?_
    refine W.widen (k := 1) (n := 6) (by decide) (by decide) ?_
    refine lv_i2l (v := Int32.toInt64 r9) hx hb d_La_copy_7 rfl ?_
    refine gh_last hx hb hK hG 1 hou rfl (vp_in_nI (n := 0) (by decide) (by decide)) d_La_copy_8 (fun H l9 hG => ?_)
    have hq1 : (gh_up h9 ou (.inl (cJ, 1, .inr (.inl (vp_updL fo 0 (Int32.toInt64 r9)))))) ou = some (.inl (cJ, 1, .inr (.inl (vp_updL fo 0 (Int32.toInt64 r9))))) := gh_self _ _ _
    replace hG : gh_P D vC b0 (gh_up h9 ou (.inl (cJ, 1, .inr (.inl (vp_updL fo 0 (Int32.toInt64 r9)))))) s.heap _ _ := hG
    refine lv_goto (tgt := 18) hx hb d_La_copy_9 (by decide) ?_
    refine lv_iconst (v := 0) hx hb d_La_copy_18 (by decide) ?_
    exact gh_iret hx hb hr hlk rfl hG d_La_copy_19 (Or.inl ⟨r9, h9, hp9, rfl, rfl⟩)
  · skip
    rcases htt _ _ hp9 with he | he
    · skip
      refine gh_catch (E := R_IO) (name := R_IO) (ci := 8) hown hK hG rfl he [] ⟨0, 9, 12, 30⟩ [⟨0, 9, 15, 15⟩] hno (ps_0) (by decide) (by decide) (htb _ k_2_51) (va_Nw.use rfl (hX.2.2.2.1 R_IO (List.mem_of_getElem? (i := 2) rfl))) ?_
      refine W.eq (g2 := F0 m 12 ls [.ref x9]) rfl ?_
      refine lv_astore_n (lv' := [(3, .ref x9), (0, .ref x), (1, .int p0), (2, .ref ou)]) hx hb d_La_copy_12 rfl hl (by decide) rfl (fun ls hl => ?_)
      refine lv_iconst (v := 1) hx hb d_La_copy_13 (by decide) ?_
      exact gh_iret hx hb hr hlk rfl hG d_La_copy_14 (Or.inr ⟨x9, _, hp9, (List.mem_of_getElem? (i := 0) rfl), he, rfl⟩)
    · skip
      refine gh_catch (E := R_IS) (name := R_IS) (ci := 7) hown hK hG rfl he [⟨0, 9, 12, 30⟩] ⟨0, 9, 15, 15⟩ [] hno (ps_1 (Or.inr ⟨by decide, R_IO, (htb _ k_2_51), hX.2.2.2.2.1 R_IS (List.mem_of_getElem? (i := 1) rfl) R_IO (List.mem_of_getElem? (i := 2) rfl) (by decide)⟩)) (by decide) (by decide) (htb _ k_1_138) (va_Nw.use rfl (hX.2.2.2.1 R_IS (List.mem_of_getElem? (i := 1) rfl))) ?_
      refine W.eq (g2 := F0 m 15 ls [.ref x9]) rfl ?_
      refine lv_astore_n (lv' := [(3, .ref x9), (0, .ref x), (1, .int p0), (2, .ref ou)]) hx hb d_La_copy_15 rfl hl (by decide) rfl (fun ls hl => ?_)
      refine lv_iconst (v := 2) hx hb d_La_copy_16 (by decide) ?_
      exact gh_iret hx hb hr hlk rfl hG d_La_copy_17 (Or.inr ⟨x9, _, hp9, (List.mem_of_getElem? (i := 1) rfl), he, rfl⟩)

set_option maxHeartbeats 4000000 in
set_option maxRecDepth 100000 in
/-- the law's drop -/
theorem c_La_drop {x ou : Nat} {xf : List Value} {post : Outcome → gh_M → Prop} (hxx : h x = some (.inr (0, xf))) (hC : gh_C l D vC (tZ cI cJ cP cS) (xF b0) b0 y_X_drop w_X_drop ({ frames := 7, cells := 1, slots := 6, locals := 130 }) [.ref x] h post) {fo : Nat → Int64} (hrr : ∀ v h1, post (.returned v) h1 → ∃ r, v = some (.int r) ∧ h1 ou = some (.inl (cJ, 1, .inr (.inl fo)))) (htt : ∀ q h1, post (.threw q) h1 → h1 q = some (.inr (7, []))) : gh_C l D vC (tZ cI cJ cP cS) (xF b0) b0 y_La_drop w_La_drop ({ frames := 8, cells := 1, slots := 6, locals := 190 }) [.ref x, .ref ou] h (lwP post ou cJ fo [(7, 1)]) := by
  refine gh_ofWh (by decide) (Nat.le_of_ble_eq_true rfl) ?_
  intro p e s m below meth c ls hctx hno hl hG hK hX
  obtain ⟨hx, hb, hr, hml, hown, hlk, hts, hnm⟩ := hctx
  have htb : ∀ w ∈ tB, w.before _ s = true := fun w hw => hts w (List.mem_cons_of_mem _ hw)
  replace hl : lv_has ls 3 [(0, .ref x), (1, .ref ou)] := hl
  refine lv_aload_n hx hb d_La_drop_0 rfl (lv_at hl 1 rfl) ?_
  refine lv_iconst (v := 0) hx hb d_La_drop_1 (by decide) ?_
  refine lv_aload_n hx hb d_La_drop_2 rfl (lv_at hl 0 rfl) ?_
  refine gh_cV (ci := 0) (As := []) (rest := [.int 0, .ref ou]) (xF_ok b0) hx hb hml hown hK hX hG rfl hxx hC (q_X_drop htb ⟨by decide, by decide⟩) (htb _ k_2_79) (htb _ k_2_80) (htb _ k_2_81) rfl hl.1 rfl (Nat.le_of_ble_eq_true rfl) d_La_drop_3 ⟨by decide, by decide⟩ (fun v9 h9 H l9 hp9 hG => ?_) (fun x9 h9 H l9 hp9 hG => ?_)
  · skip
    obtain ⟨r9, hr9, hou⟩ := hrr _ _ hp9
    cases hr9
    refine W.eq (g2 := F0 m 6 ls [.int r9, .int 0, .ref ou]) rfl ?_
    refine W.widen (k := 1) (n := 6) (by decide) (by decide) ?_
    refine lv_i2l (v := Int32.toInt64 r9) hx hb d_La_drop_6 rfl ?_
    refine gh_last hx hb hK hG 1 hou rfl (vp_in_nI (n := 0) (by decide) (by decide)) d_La_drop_7 (fun H l9 hG => ?_)
    have hq1 : (gh_up h9 ou (.inl (cJ, 1, .inr (.inl (vp_updL fo 0 (Int32.toInt64 r9)))))) ou = some (.inl (cJ, 1, .inr (.inl (vp_updL fo 0 (Int32.toInt64 r9))))) := gh_self _ _ _
    replace hG : gh_P D vC b0 (gh_up h9 ou (.inl (cJ, 1, .inr (.inl (vp_updL fo 0 (Int32.toInt64 r9)))))) s.heap _ _ := hG
    refine lv_goto (tgt := 14) hx hb d_La_drop_8 (by decide) ?_
    refine lv_iconst (v := 0) hx hb d_La_drop_14 (by decide) ?_
    exact gh_iret hx hb hr hlk rfl hG d_La_drop_15 (Or.inl ⟨r9, h9, hp9, rfl, rfl⟩)
  · skip
    rcases htt _ _ hp9 with he
    · skip
      refine gh_catch (E := R_IS) (name := R_IS) (ci := 7) hown hK hG rfl he [] ⟨0, 8, 11, 15⟩ [] hno (ps_0) (by decide) (by decide) (htb _ k_1_138) (va_Nw.use rfl (hX.2.2.2.1 R_IS (List.mem_of_getElem? (i := 1) rfl))) ?_
      refine W.eq (g2 := F0 m 11 ls [.ref x9]) rfl ?_
      refine lv_astore_n (lv' := [(2, .ref x9), (0, .ref x), (1, .ref ou)]) hx hb d_La_drop_11 rfl hl (by decide) rfl (fun ls hl => ?_)
      refine lv_iconst (v := 1) hx hb d_La_drop_12 (by decide) ?_
      exact gh_iret hx hb hr hlk rfl hG d_La_drop_13 (Or.inr ⟨x9, _, hp9, (List.mem_of_getElem? (i := 0) rfl), he, rfl⟩)

set_option maxHeartbeats 4000000 in
set_option maxRecDepth 100000 in
/-- the law's inside -/
theorem c_La_inside {x ou : Nat} {p0 p1 p2 p3 : Int32} {xf : List Value} {post : Outcome → gh_M → Prop} (hxx : h x = some (.inr (0, xf))) (hC : gh_C l D vC (tZ cI cJ cP cS) (xF b0) b0 y_X_inside w_X_inside ({ frames := 7, cells := 2, slots := 12, locals := 130 }) [.ref x, .int p0, .int p1, .int p2, .int p3] h post) {fo : Nat → Int64} (hrr : ∀ v h1, post (.returned v) h1 → ∃ r, v = some (.int r) ∧ h1 ou = some (.inl (cJ, 1, .inr (.inl fo)))) (htt : ∀ q h1, post (.threw q) h1 → h1 q = some (.inr (6, [])) ∨ h1 q = some (.inr (7, []))) : gh_C l D vC (tZ cI cJ cP cS) (xF b0) b0 y_La_inside w_La_inside ({ frames := 8, cells := 2, slots := 12, locals := 190 }) [.ref x, .int p0, .int p1, .int p2, .int p3, .ref ou] h (lwP post ou cJ fo [(6, 1), (7, 2)]) := by
  refine gh_ofWh (by decide) (Nat.le_of_ble_eq_true rfl) ?_
  intro p e s m below meth c ls hctx hno hl hG hK hX
  obtain ⟨hx, hb, hr, hml, hown, hlk, hts, hnm⟩ := hctx
  have htb : ∀ w ∈ tB, w.before _ s = true := fun w hw => hts w (List.mem_cons_of_mem _ hw)
  replace hl : lv_has ls 7 [(0, .ref x), (1, .int p0), (2, .int p1), (3, .int p2), (4, .int p3), (5, .ref ou)] := hl
  refine lv_aload hx hb d_La_inside_0 (lv_at hl 5 rfl) ?_
  refine lv_iconst (v := 0) hx hb d_La_inside_2 (by decide) ?_
  refine lv_aload_n hx hb d_La_inside_3 rfl (lv_at hl 0 rfl) ?_
  refine lv_iload_n hx hb d_La_inside_4 rfl (lv_at hl 1 rfl) ?_
  refine lv_iload_n hx hb d_La_inside_5 rfl (lv_at hl 2 rfl) ?_
  refine lv_iload_n hx hb d_La_inside_6 rfl (lv_at hl 3 rfl) ?_
  refine lv_iload hx hb d_La_inside_7 (lv_at hl 4 rfl) ?_
  refine gh_cV (ci := 0) (As := [.int p0, .int p1, .int p2, .int p3]) (rest := [.int 0, .ref ou]) (xF_ok b0) hx hb hml hown hK hX hG rfl hxx hC (q_X_inside htb ⟨by decide, by decide⟩) (htb _ k_2_86) (htb _ k_2_87) (htb _ k_2_88) rfl hl.1 rfl (Nat.le_of_ble_eq_true rfl) d_La_inside_9 ⟨by decide, by decide⟩ (fun v9 h9 H l9 hp9 hG => ?_) (fun x9 h9 H l9 hp9 hG => ?_)
  · skip
    obtain ⟨r9, hr9, hou⟩ := hrr _ _ hp9
    cases hr9
    refine W.eq (g2 := F0 m 12 ls [.int r9, .int 0, .ref ou]) rfl ?_
    refine W.widen (k := 2) (n := 12) (by decide) (by decide) ?_
    refine lv_i2l (v := Int32.toInt64 r9) hx hb d_La_inside_12 rfl ?_
    refine gh_last hx hb hK hG 1 hou rfl (vp_in_nI (n := 0) (by decide) (by decide)) d_La_inside_13 (fun H l9 hG => ?_)
    have hq1 : (gh_up h9 ou (.inl (cJ, 1, .inr (.inl (vp_updL fo 0 (Int32.toInt64 r9)))))) ou = some (.inl (cJ, 1, .inr (.inl (vp_updL fo 0 (Int32.toInt64 r9))))) := gh_self _ _ _
    replace hG : gh_P D vC b0 (gh_up h9 ou (.inl (cJ, 1, .inr (.inl (vp_updL fo 0 (Int32.toInt64 r9)))))) s.heap _ _ := hG
    refine lv_goto (tgt := 25) hx hb d_La_inside_14 (by decide) ?_
    refine lv_iconst (v := 0) hx hb d_La_inside_25 (by decide) ?_
    exact gh_iret hx hb hr hlk rfl hG d_La_inside_26 (Or.inl ⟨r9, h9, hp9, rfl, rfl⟩)
  · skip
    rcases htt _ _ hp9 with he | he
    · skip
      refine gh_catch (E := R_IA) (name := R_IA) (ci := 6) hown hK hG rfl he [] ⟨0, 14, 17, 13⟩ [⟨0, 14, 21, 15⟩] hno (ps_0) (by decide) (by decide) (htb _ k_1_137) (va_Nw.use rfl (hX.2.2.2.1 R_IA (List.mem_of_getElem? (i := 0) rfl))) ?_
      refine W.eq (g2 := F0 m 17 ls [.ref x9]) rfl ?_
      refine lv_astore (lv' := [(6, .ref x9), (0, .ref x), (1, .int p0), (2, .int p1), (3, .int p2), (4, .int p3), (5, .ref ou)]) hx hb d_La_inside_17 hl (by decide) rfl (fun ls hl => ?_)
      refine lv_iconst (v := 1) hx hb d_La_inside_19 (by decide) ?_
      exact gh_iret hx hb hr hlk rfl hG d_La_inside_20 (Or.inr ⟨x9, _, hp9, (List.mem_of_getElem? (i := 0) rfl), he, rfl⟩)
    · skip
      refine gh_catch (E := R_IS) (name := R_IS) (ci := 7) hown hK hG rfl he [⟨0, 14, 17, 13⟩] ⟨0, 14, 21, 15⟩ [] hno (ps_1 (Or.inr ⟨by decide, R_IA, (htb _ k_1_137), hX.2.2.2.2.1 R_IS (List.mem_of_getElem? (i := 1) rfl) R_IA (List.mem_of_getElem? (i := 0) rfl) (by decide)⟩)) (by decide) (by decide) (htb _ k_1_138) (va_Nw.use rfl (hX.2.2.2.1 R_IS (List.mem_of_getElem? (i := 1) rfl))) ?_
      refine W.eq (g2 := F0 m 21 ls [.ref x9]) rfl ?_
      refine lv_astore (lv' := [(6, .ref x9), (0, .ref x), (1, .int p0), (2, .int p1), (3, .int p2), (4, .int p3), (5, .ref ou)]) hx hb d_La_inside_21 hl (by decide) rfl (fun ls hl => ?_)
      refine lv_iconst (v := 2) hx hb d_La_inside_23 (by decide) ?_
      exact gh_iret hx hb hr hlk rfl hG d_La_inside_24 (Or.inr ⟨x9, _, hp9, (List.mem_of_getElem? (i := 1) rfl), he, rfl⟩)

set_option maxHeartbeats 4000000 in
set_option maxRecDepth 100000 in
/-- the law's side -/
theorem c_La_side {x ou : Nat} {p0 p1 p2 p3 : Int32} {xf : List Value} {post : Outcome → gh_M → Prop} (hxx : h x = some (.inr (0, xf))) (hC : gh_C l D vC (tZ cI cJ cP cS) (xF b0) b0 y_X_side w_X_side ({ frames := 7, cells := 3, slots := 18, locals := 130 }) [.ref x, .int p0, .int p1, .int p2, .int p3] h post) {fo : Nat → Int64} (hrr : ∀ v h1, post (.returned v) h1 → ∃ r, v = some (.int r) ∧ h1 ou = some (.inl (cJ, 1, .inr (.inl fo)))) (htt : ∀ q h1, post (.threw q) h1 → h1 q = some (.inr (6, [])) ∨ h1 q = some (.inr (7, [])) ∨ h1 q = some (.inr (9, []))) : gh_C l D vC (tZ cI cJ cP cS) (xF b0) b0 y_La_side w_La_side ({ frames := 8, cells := 3, slots := 18, locals := 190 }) [.ref x, .int p0, .int p1, .int p2, .int p3, .ref ou] h (lwP post ou cJ fo [(6, 1), (7, 2), (9, 3)]) := by
  refine gh_ofWh (by decide) (Nat.le_of_ble_eq_true rfl) ?_
  intro p e s m below meth c ls hctx hno hl hG hK hX
  obtain ⟨hx, hb, hr, hml, hown, hlk, hts, hnm⟩ := hctx
  have htb : ∀ w ∈ tB, w.before _ s = true := fun w hw => hts w (List.mem_cons_of_mem _ hw)
  replace hl : lv_has ls 7 [(0, .ref x), (1, .int p0), (2, .int p1), (3, .int p2), (4, .int p3), (5, .ref ou)] := hl
  refine lv_aload hx hb d_La_side_0 (lv_at hl 5 rfl) ?_
  refine lv_iconst (v := 0) hx hb d_La_side_2 (by decide) ?_
  refine lv_aload_n hx hb d_La_side_3 rfl (lv_at hl 0 rfl) ?_
  refine lv_iload_n hx hb d_La_side_4 rfl (lv_at hl 1 rfl) ?_
  refine lv_iload_n hx hb d_La_side_5 rfl (lv_at hl 2 rfl) ?_
  refine lv_iload_n hx hb d_La_side_6 rfl (lv_at hl 3 rfl) ?_
  refine lv_iload hx hb d_La_side_7 (lv_at hl 4 rfl) ?_
  refine gh_cV (ci := 0) (As := [.int p0, .int p1, .int p2, .int p3]) (rest := [.int 0, .ref ou]) (xF_ok b0) hx hb hml hown hK hX hG rfl hxx hC (q_X_side htb ⟨by decide, by decide⟩) (htb _ k_2_129) (htb _ k_2_130) (htb _ k_2_131) rfl hl.1 rfl (Nat.le_of_ble_eq_true rfl) d_La_side_9 ⟨by decide, by decide⟩ (fun v9 h9 H l9 hp9 hG => ?_) (fun x9 h9 H l9 hp9 hG => ?_)
  · skip
    obtain ⟨r9, hr9, hou⟩ := hrr _ _ hp9
    cases hr9
    refine W.eq (g2 := F0 m 12 ls [.int r9, .int 0, .ref ou]) rfl ?_
    refine W.widen (k := 3) (n := 18) (by decide) (by decide) ?_
    refine lv_i2l (v := Int32.toInt64 r9) hx hb d_La_side_12 rfl ?_
    refine gh_last hx hb hK hG 1 hou rfl (vp_in_nI (n := 0) (by decide) (by decide)) d_La_side_13 (fun H l9 hG => ?_)
    have hq1 : (gh_up h9 ou (.inl (cJ, 1, .inr (.inl (vp_updL fo 0 (Int32.toInt64 r9)))))) ou = some (.inl (cJ, 1, .inr (.inl (vp_updL fo 0 (Int32.toInt64 r9))))) := gh_self _ _ _
    replace hG : gh_P D vC b0 (gh_up h9 ou (.inl (cJ, 1, .inr (.inl (vp_updL fo 0 (Int32.toInt64 r9)))))) s.heap _ _ := hG
    refine lv_goto (tgt := 29) hx hb d_La_side_14 (by decide) ?_
    refine lv_iconst (v := 0) hx hb d_La_side_29 (by decide) ?_
    exact gh_iret hx hb hr hlk rfl hG d_La_side_30 (Or.inl ⟨r9, h9, hp9, rfl, rfl⟩)
  · skip
    rcases htt _ _ hp9 with he | he | he
    · skip
      refine gh_catch (E := R_IA) (name := R_IA) (ci := 6) hown hK hG rfl he [] ⟨0, 14, 17, 13⟩ [⟨0, 14, 21, 15⟩, ⟨0, 14, 25, 42⟩] hno (ps_0) (by decide) (by decide) (htb _ k_1_137) (va_Nw.use rfl (hX.2.2.2.1 R_IA (List.mem_of_getElem? (i := 0) rfl))) ?_
      refine W.eq (g2 := F0 m 17 ls [.ref x9]) rfl ?_
      refine lv_astore (lv' := [(6, .ref x9), (0, .ref x), (1, .int p0), (2, .int p1), (3, .int p2), (4, .int p3), (5, .ref ou)]) hx hb d_La_side_17 hl (by decide) rfl (fun ls hl => ?_)
      refine lv_iconst (v := 1) hx hb d_La_side_19 (by decide) ?_
      exact gh_iret hx hb hr hlk rfl hG d_La_side_20 (Or.inr ⟨x9, _, hp9, (List.mem_of_getElem? (i := 0) rfl), he, rfl⟩)
    · skip
      refine gh_catch (E := R_IS) (name := R_IS) (ci := 7) hown hK hG rfl he [⟨0, 14, 17, 13⟩] ⟨0, 14, 21, 15⟩ [⟨0, 14, 25, 42⟩] hno (ps_1 (Or.inr ⟨by decide, R_IA, (htb _ k_1_137), hX.2.2.2.2.1 R_IS (List.mem_of_getElem? (i := 1) rfl) R_IA (List.mem_of_getElem? (i := 0) rfl) (by decide)⟩)) (by decide) (by decide) (htb _ k_1_138) (va_Nw.use rfl (hX.2.2.2.1 R_IS (List.mem_of_getElem? (i := 1) rfl))) ?_
      refine W.eq (g2 := F0 m 21 ls [.ref x9]) rfl ?_
      refine lv_astore (lv' := [(6, .ref x9), (0, .ref x), (1, .int p0), (2, .int p1), (3, .int p2), (4, .int p3), (5, .ref ou)]) hx hb d_La_side_21 hl (by decide) rfl (fun ls hl => ?_)
      refine lv_iconst (v := 2) hx hb d_La_side_23 (by decide) ?_
      exact gh_iret hx hb hr hlk rfl hG d_La_side_24 (Or.inr ⟨x9, _, hp9, (List.mem_of_getElem? (i := 1) rfl), he, rfl⟩)
    · skip
      refine gh_catch (E := R_NS) (name := R_NS) (ci := 9) hown hK hG rfl he [⟨0, 14, 17, 13⟩, ⟨0, 14, 21, 15⟩] ⟨0, 14, 25, 42⟩ [] hno (ps_2 (Or.inr ⟨by decide, R_IA, (htb _ k_1_137), hX.2.2.2.2.1 R_NS (List.mem_of_getElem? (i := 3) rfl) R_IA (List.mem_of_getElem? (i := 0) rfl) (by decide)⟩) (Or.inr ⟨by decide, R_IS, (htb _ k_1_138), hX.2.2.2.2.1 R_NS (List.mem_of_getElem? (i := 3) rfl) R_IS (List.mem_of_getElem? (i := 1) rfl) (by decide)⟩)) (by decide) (by decide) (htb _ k_2_128) (va_Nw.use rfl (hX.2.2.2.1 R_NS (List.mem_of_getElem? (i := 3) rfl))) ?_
      refine W.eq (g2 := F0 m 25 ls [.ref x9]) rfl ?_
      refine lv_astore (lv' := [(6, .ref x9), (0, .ref x), (1, .int p0), (2, .int p1), (3, .int p2), (4, .int p3), (5, .ref ou)]) hx hb d_La_side_25 hl (by decide) rfl (fun ls hl => ?_)
      refine lv_iconst (v := 3) hx hb d_La_side_27 (by decide) ?_
      exact gh_iret hx hb hr hlk rfl hG d_La_side_28 (Or.inr ⟨x9, _, hp9, (List.mem_of_getElem? (i := 2) rfl), he, rfl⟩)

set_option maxHeartbeats 4000000 in
set_option maxRecDepth 100000 in
/-- the law's enters -/
theorem c_La_enters {x ou : Nat} {p0 p1 p2 : Int32} {xf : List Value} {post : Outcome → gh_M → Prop} (hxx : h x = some (.inr (0, xf))) (hC : gh_C l D vC (tZ cI cJ cP cS) (xF b0) b0 y_X_enters w_X_enters ({ frames := 7, cells := 15, slots := 90, locals := 150 }) [.ref x, .int p0, .int p1, .int p2] h post) {fo : Nat → Int64} (hrr : ∀ v h1, post (.returned v) h1 → ∃ r, v = some (.int r) ∧ h1 ou = some (.inl (cJ, 1, .inr (.inl fo)))) (htt : ∀ q h1, post (.threw q) h1 → h1 q = some (.inr (6, [])) ∨ h1 q = some (.inr (7, [])) ∨ h1 q = some (.inr (9, []))) : gh_C l D vC (tZ cI cJ cP cS) (xF b0) b0 y_La_enters w_La_enters ({ frames := 8, cells := 15, slots := 90, locals := 210 }) [.ref x, .int p0, .int p1, .int p2, .ref ou] h (lwP post ou cJ fo [(6, 1), (7, 2), (9, 3)]) := by
  refine gh_ofWh (by decide) (Nat.le_of_ble_eq_true rfl) ?_
  intro p e s m below meth c ls hctx hno hl hG hK hX
  obtain ⟨hx, hb, hr, hml, hown, hlk, hts, hnm⟩ := hctx
  have htb : ∀ w ∈ tB, w.before _ s = true := fun w hw => hts w (List.mem_cons_of_mem _ hw)
  replace hl : lv_has ls 6 [(0, .ref x), (1, .int p0), (2, .int p1), (3, .int p2), (4, .ref ou)] := hl
  refine lv_aload hx hb d_La_enters_0 (lv_at hl 4 rfl) ?_
  refine lv_iconst (v := 0) hx hb d_La_enters_2 (by decide) ?_
  refine lv_aload_n hx hb d_La_enters_3 rfl (lv_at hl 0 rfl) ?_
  refine lv_iload_n hx hb d_La_enters_4 rfl (lv_at hl 1 rfl) ?_
  refine lv_iload_n hx hb d_La_enters_5 rfl (lv_at hl 2 rfl) ?_
  refine lv_iload_n hx hb d_La_enters_6 rfl (lv_at hl 3 rfl) ?_
  refine gh_cV (ci := 0) (As := [.int p0, .int p1, .int p2]) (rest := [.int 0, .ref ou]) (xF_ok b0) hx hb hml hown hK hX hG rfl hxx hC (q_X_enters htb ⟨by decide, by decide⟩) (htb _ k_2_177) (htb _ k_2_178) (htb _ k_2_179) rfl hl.1 rfl (Nat.le_of_ble_eq_true rfl) d_La_enters_7 ⟨by decide, by decide⟩ (fun v9 h9 H l9 hp9 hG => ?_) (fun x9 h9 H l9 hp9 hG => ?_)
  · skip
    obtain ⟨r9, hr9, hou⟩ := hrr _ _ hp9
    cases hr9
    refine W.eq (g2 := F0 m 10 ls [.int r9, .int 0, .ref ou]) rfl ?_
    refine W.widen (k := 15) (n := 90) (by decide) (by decide) ?_
    refine lv_i2l (v := Int32.toInt64 r9) hx hb d_La_enters_10 rfl ?_
    refine gh_last hx hb hK hG 1 hou rfl (vp_in_nI (n := 0) (by decide) (by decide)) d_La_enters_11 (fun H l9 hG => ?_)
    have hq1 : (gh_up h9 ou (.inl (cJ, 1, .inr (.inl (vp_updL fo 0 (Int32.toInt64 r9)))))) ou = some (.inl (cJ, 1, .inr (.inl (vp_updL fo 0 (Int32.toInt64 r9))))) := gh_self _ _ _
    replace hG : gh_P D vC b0 (gh_up h9 ou (.inl (cJ, 1, .inr (.inl (vp_updL fo 0 (Int32.toInt64 r9)))))) s.heap _ _ := hG
    refine lv_goto (tgt := 27) hx hb d_La_enters_12 (by decide) ?_
    refine lv_iconst (v := 0) hx hb d_La_enters_27 (by decide) ?_
    exact gh_iret hx hb hr hlk rfl hG d_La_enters_28 (Or.inl ⟨r9, h9, hp9, rfl, rfl⟩)
  · skip
    rcases htt _ _ hp9 with he | he | he
    · skip
      refine gh_catch (E := R_IA) (name := R_IA) (ci := 6) hown hK hG rfl he [] ⟨0, 12, 15, 13⟩ [⟨0, 12, 19, 15⟩, ⟨0, 12, 23, 42⟩] hno (ps_0) (by decide) (by decide) (htb _ k_1_137) (va_Nw.use rfl (hX.2.2.2.1 R_IA (List.mem_of_getElem? (i := 0) rfl))) ?_
      refine W.eq (g2 := F0 m 15 ls [.ref x9]) rfl ?_
      refine lv_astore (lv' := [(5, .ref x9), (0, .ref x), (1, .int p0), (2, .int p1), (3, .int p2), (4, .ref ou)]) hx hb d_La_enters_15 hl (by decide) rfl (fun ls hl => ?_)
      refine lv_iconst (v := 1) hx hb d_La_enters_17 (by decide) ?_
      exact gh_iret hx hb hr hlk rfl hG d_La_enters_18 (Or.inr ⟨x9, _, hp9, (List.mem_of_getElem? (i := 0) rfl), he, rfl⟩)
    · skip
      refine gh_catch (E := R_IS) (name := R_IS) (ci := 7) hown hK hG rfl he [⟨0, 12, 15, 13⟩] ⟨0, 12, 19, 15⟩ [⟨0, 12, 23, 42⟩] hno (ps_1 (Or.inr ⟨by decide, R_IA, (htb _ k_1_137), hX.2.2.2.2.1 R_IS (List.mem_of_getElem? (i := 1) rfl) R_IA (List.mem_of_getElem? (i := 0) rfl) (by decide)⟩)) (by decide) (by decide) (htb _ k_1_138) (va_Nw.use rfl (hX.2.2.2.1 R_IS (List.mem_of_getElem? (i := 1) rfl))) ?_
      refine W.eq (g2 := F0 m 19 ls [.ref x9]) rfl ?_
      refine lv_astore (lv' := [(5, .ref x9), (0, .ref x), (1, .int p0), (2, .int p1), (3, .int p2), (4, .ref ou)]) hx hb d_La_enters_19 hl (by decide) rfl (fun ls hl => ?_)
      refine lv_iconst (v := 2) hx hb d_La_enters_21 (by decide) ?_
      exact gh_iret hx hb hr hlk rfl hG d_La_enters_22 (Or.inr ⟨x9, _, hp9, (List.mem_of_getElem? (i := 1) rfl), he, rfl⟩)
    · skip
      refine gh_catch (E := R_NS) (name := R_NS) (ci := 9) hown hK hG rfl he [⟨0, 12, 15, 13⟩, ⟨0, 12, 19, 15⟩] ⟨0, 12, 23, 42⟩ [] hno (ps_2 (Or.inr ⟨by decide, R_IA, (htb _ k_1_137), hX.2.2.2.2.1 R_NS (List.mem_of_getElem? (i := 3) rfl) R_IA (List.mem_of_getElem? (i := 0) rfl) (by decide)⟩) (Or.inr ⟨by decide, R_IS, (htb _ k_1_138), hX.2.2.2.2.1 R_NS (List.mem_of_getElem? (i := 3) rfl) R_IS (List.mem_of_getElem? (i := 1) rfl) (by decide)⟩)) (by decide) (by decide) (htb _ k_2_128) (va_Nw.use rfl (hX.2.2.2.1 R_NS (List.mem_of_getElem? (i := 3) rfl))) ?_
      refine W.eq (g2 := F0 m 23 ls [.ref x9]) rfl ?_
      refine lv_astore (lv' := [(5, .ref x9), (0, .ref x), (1, .int p0), (2, .int p1), (3, .int p2), (4, .ref ou)]) hx hb d_La_enters_23 hl (by decide) rfl (fun ls hl => ?_)
      refine lv_iconst (v := 3) hx hb d_La_enters_25 (by decide) ?_
      exact gh_iret hx hb hr hlk rfl hG d_La_enters_26 (Or.inr ⟨x9, _, hp9, (List.mem_of_getElem? (i := 2) rfl), he, rfl⟩)

end
