/-- a cell of the model's own kinds -/
def ownM (e : va_E) : Bool := match e with
  | .inl (_, n, _) => n == 24 || n == 8
  | .inr (c, _) => c == 5
/-- what is not of the model's own kinds stays -/
def frM (h h2 : gh_M) : Prop := ∀ q e, h q = some e → ownM e = false → h2 q = some e
theorem frM_rf (h : gh_M) : frM h h := fun _ _ k _ => k
theorem frM_tr {h h1 h2 : gh_M} (a : frM h h1) (b : frM h1 h2) : frM h h2 := fun q e k o => b q e (a q e k o) o
theorem frM_up {h h1 : gh_M} {q : Nat} {e0 e : va_E} (a : frM h h1) (h0 : h1 q = some e0) (ho : ownM e0 = true) : frM h (gh_up h1 q e) := by
  intro x y hx hy
  have h2 := a x y hx hy
  rw [gh_ne (fun k => ?_)]
  · exact h2
  · rw [k, h0] at h2
    cases h2
    rw [ho] at hy
    cases hy
/-- the model's world -/
def wM (cI cJ : ClassId) (h : gh_M) (mo nm fr hs va tp dn : Nat) (th : Int32) (g my : Nat) (nf ff : Nat → Int32) (hf vf tf df : Nat → Int64) : Prop :=
  h mo = some (.inr (5, [.int th, .int (nI g), .ref nm, .ref fr, .int (nI my), .ref hs, .ref va, .ref tp, .ref dn])) ∧ h nm = some (.inl (cI, 24, .inl nf)) ∧ h fr = some (.inl (cI, 8, .inl ff)) ∧ h hs = some (.inl (cJ, 24, .inr (.inl hf))) ∧
  h va = some (.inl (cJ, 8, .inr (.inl vf))) ∧ h tp = some (.inl (cJ, 8, .inr (.inl tf))) ∧ h dn = some (.inl (cJ, 8, .inr (.inl df))) ∧ va ≠ tp ∧ va ≠ dn ∧ tp ≠ dn ∧ g ≤ 8 ∧ my ≤ 6
theorem wM_mk {cI cJ : ClassId} {h : gh_M} {mo nm fr hs va tp dn : Nat} {th : Int32} {g my : Nat} {nf ff : Nat → Int32} {hf vf tf df : Nat → Int64} (h1 : h mo = some (.inr (5, [.int th, .int (nI g), .ref nm, .ref fr, .int (nI my), .ref hs, .ref va, .ref tp, .ref dn]))) (h2 : h nm = some (.inl (cI, 24, .inl nf))) (h3 : h fr = some (.inl (cI, 8, .inl ff))) (h4 : h hs = some (.inl (cJ, 24, .inr (.inl hf))))
  (h5 : h va = some (.inl (cJ, 8, .inr (.inl vf)))) (h6 : h tp = some (.inl (cJ, 8, .inr (.inl tf)))) (h7 : h dn = some (.inl (cJ, 8, .inr (.inl df)))) (h8 : va ≠ tp) (h9 : va ≠ dn) (h10 : tp ≠ dn) (h11 : g ≤ 8) (h12 : my ≤ 6) : wM cI cJ h mo nm fr hs va tp dn th g my nf ff hf vf tf df := ⟨h1, h2, h3, h4, h5, h6, h7, h8, h9, h10, h11, h12⟩
def rW (v : Option Value) (P : gh_M → Prop) : Outcome → gh_M → Prop := fun oc h2 => oc = .returned v ∧ P h2
theorem nm_mul (a b : Nat) : nI a * nI b = nI (a * b) := (Int32.ofNat_mul a b).symm
theorem mb_n0 {b : Bool} : m_b (!b) = 0 ↔ b = true := by cases b <;> simp [m_b]
theorem mb_n1 {b : Bool} : ¬ m_b (!b) = 0 ↔ b = false := by cases b <;> simp [m_b]
def v_lies (x w : Int32) : Int32 := if 1000 * w ≤ (if 0 ≤ x then x else -x) then (if (if 0 ≤ x then x else -x) = 1000 * w then 0 else -1) else 1
def v_cmp (t d t2 d2 : Int64) : Int32 := if t2 * d ≤ t * d2 then (if t * d2 ≤ t2 * d then 0 else 1) else -1
def v_top (hf : Nat → Int64) (my c : Nat) : Bool := decide ((hf (4 * my - 4 + c / 64) >>> (Int32.toInt64 (nI (c % 64)) &&& 63)) &&& 1 = 1)
def v_nor (nf : Nat → Int32) (p i : Nat) : Int32 := if 10 ≤ p then (if (p - 10) % 3 = i then (if 13 ≤ p then -1 else 1) else 0) else nf (3 * p + i)

section
variable {l : Launch} {D : va_G} {cI cJ cP cS : ClassId} {b0 : Nat} {h : gh_M}

set_option maxHeartbeats 4000000 in
set_option maxRecDepth 100000 in
/-- thrown -/
theorem c_Mo_thrown {mo nm fr hs va tp dn g my : Nat} {th : Int32} {nf ff : Nat → Int32} {hf vf tf df : Nat → Int64} (hW : wM cI cJ h mo nm fr hs va tp dn th g my nf ff hf vf tf df) : gh_C l D vC (tZ cI cJ cP cS) (xF b0) b0 y_Mo_thrown w_Mo_thrown ({ frames := 0, cells := 0, slots := 0, locals := 0 }) [.ref mo] h (rI th h) := by
  refine gh_ofW (by decide) (Nat.le_of_ble_eq_true rfl) ?_
  intro p e s m below meth c ls hctx hno hl hG hK hX
  obtain ⟨hx, hb, hr, hml, hown, hlk, hts, hnm⟩ := hctx
  have htb : ∀ w ∈ tB, w.before _ s = true := fun w hw => hts w (List.mem_cons_of_mem _ hw)
  replace hl : lv_has ls 1 [(0, .ref mo)] := hl
  obtain ⟨zmo, znm, zfr, zhs, zva, ztp, zdn, zvt, zvd, ztd, zg, zy⟩ := hW
  have zf0 : frM h h := frM_rf h
  refine lv_aload_n hx hb d_Mo_thrown_0 rfl (lv_at hl 0 rfl) ?_
  refine gh_get (ci := 5) hx hb htb in_Mo hown hK hG zmo rfl 0 (by decide) (htb _ k_2_223) (fun _ h9 => h9) rfl d_Mo_thrown_1 ?_
  exact gh_iret hx hb hr hlk rfl hG d_Mo_thrown_4 ⟨rfl, rfl⟩

set_option maxHeartbeats 4000000 in
set_option maxRecDepth 100000 in
/-- within -/
theorem c_Mo_within {v w : Int32} : gh_C l D vC (tZ cI cJ cP cS) (xF b0) b0 y_Mo_within w_Mo_within ({ frames := 0, cells := 0, slots := 0, locals := 0 }) [.int v, .int w] h (rI (m_b (!m_bey v w)) h) := by
  refine gh_ofW (by decide) (Nat.le_of_ble_eq_true rfl) ?_
  intro p e s m below meth c ls hctx hno hl hG hK hX
  obtain ⟨hx, hb, hr, hml, hown, hlk, hts, hnm⟩ := hctx
  have htb : ∀ w ∈ tB, w.before _ s = true := fun w hw => hts w (List.mem_cons_of_mem _ hw)
  replace hl : lv_has ls 2 [(0, .int v), (1, .int w)] := hl
  refine lv_iload_n hx hb d_Mo_within_0 rfl (lv_at hl 0 rfl) ?_
  refine lv_iload_n hx hb d_Mo_within_1 rfl (lv_at hl 1 rfl) ?_
  refine lv_ineg hx hb d_Mo_within_2 ?_
  refine lv_icmp_lt (tgt := 15) hx hb d_Mo_within_3 (by decide) (fun hc3 => ?_) (fun hc3 => ?_)
  · skip
    refine lv_iconst (v := 0) hx hb d_Mo_within_15 (by decide) ?_
    exact gh_iret hx hb hr hlk rfl hG d_Mo_within_16 (⟨by simp [m_bey, m_b, hc3], rfl⟩)
  · skip
    refine lv_iload_n hx hb d_Mo_within_6 rfl (lv_at hl 0 rfl) ?_
    refine lv_iload_n hx hb d_Mo_within_7 rfl (lv_at hl 1 rfl) ?_
    refine lv_icmp_gt (tgt := 15) hx hb d_Mo_within_8 (by decide) (fun hc8 => ?_) (fun hc8 => ?_)
    · skip
      refine lv_iconst (v := 0) hx hb d_Mo_within_15 (by decide) ?_
      exact gh_iret hx hb hr hlk rfl hG d_Mo_within_16 (⟨by simp [m_bey, m_b, hc3, hc8], rfl⟩)
    · skip
      refine lv_iconst (v := 1) hx hb d_Mo_within_11 (by decide) ?_
      refine lv_goto (tgt := 16) hx hb d_Mo_within_12 (by decide) ?_
      exact gh_iret hx hb hr hlk rfl hG d_Mo_within_16 (⟨by simp [m_bey, m_b, hc3, hc8], rfl⟩)

set_option maxHeartbeats 4000000 in
set_option maxRecDepth 100000 in
/-- planes -/
theorem c_Mo_planes {mo nm fr hs va tp dn g my : Nat} {th : Int32} {nf ff : Nat → Int32} {hf vf tf df : Nat → Int64} (hW : wM cI cJ h mo nm fr hs va tp dn th g my nf ff hf vf tf df) : gh_C l D vC (tZ cI cJ cP cS) (xF b0) b0 y_Mo_planes w_Mo_planes ({ frames := 0, cells := 0, slots := 0, locals := 0 }) [.ref mo] h (rW (some (.int (nI g))) (fun h2 => wM cI cJ h2 mo nm fr hs va tp dn 0 g my nf ff hf vf tf df ∧ frM h h2)) := by
  refine gh_ofW (by decide) (Nat.le_of_ble_eq_true rfl) ?_
  intro p e s m below meth c ls hctx hno hl hG hK hX
  obtain ⟨hx, hb, hr, hml, hown, hlk, hts, hnm⟩ := hctx
  have htb : ∀ w ∈ tB, w.before _ s = true := fun w hw => hts w (List.mem_cons_of_mem _ hw)
  replace hl : lv_has ls 1 [(0, .ref mo)] := hl
  obtain ⟨zmo, znm, zfr, zhs, zva, ztp, zdn, zvt, zvd, ztd, zg, zy⟩ := hW
  have zf0 : frM h h := frM_rf h
  refine lv_aload_n hx hb d_Mo_planes_0 rfl (lv_at hl 0 rfl) ?_
  refine lv_iconst (v := 0) hx hb d_Mo_planes_1 (by decide) ?_
  refine gh_put (ci := 5) (ty := .int) hx hb htb in_Mo t_Mo ty_Mo nm_Mo hown hK hG zmo rfl 0 (by decide) (htb _ k_2_223) (fun _ h9 => h9) rfl (by decide +kernel) rfl rfl (Nat.le_of_ble_eq_true rfl) d_Mo_planes_2 (fun H l9 hG => ?_)
  have hq1 : (gh_up h mo (.inr (5, [.int 0, .int (nI g), .ref nm, .ref fr, .int (nI my), .ref hs, .ref va, .ref tp, .ref dn]))) mo = some (.inr (5, [.int 0, .int (nI g), .ref nm, .ref fr, .int (nI my), .ref hs, .ref va, .ref tp, .ref dn])) := gh_self _ _ _
  replace hG : gh_P D vC b0 (gh_up h mo (.inr (5, [.int 0, .int (nI g), .ref nm, .ref fr, .int (nI my), .ref hs, .ref va, .ref tp, .ref dn]))) s.heap _ _ := hG
  have znm_1 : (gh_up h mo (.inr (5, [.int 0, .int (nI g), .ref nm, .ref fr, .int (nI my), .ref hs, .ref va, .ref tp, .ref dn]))) nm = some (.inl (cI, 24, .inl nf)) := gh_keep zmo znm (by simp)
  have zfr_1 : (gh_up h mo (.inr (5, [.int 0, .int (nI g), .ref nm, .ref fr, .int (nI my), .ref hs, .ref va, .ref tp, .ref dn]))) fr = some (.inl (cI, 8, .inl ff)) := gh_keep zmo zfr (by simp)
  have zhs_1 : (gh_up h mo (.inr (5, [.int 0, .int (nI g), .ref nm, .ref fr, .int (nI my), .ref hs, .ref va, .ref tp, .ref dn]))) hs = some (.inl (cJ, 24, .inr (.inl hf))) := gh_keep zmo zhs (by simp)
  have zva_1 : (gh_up h mo (.inr (5, [.int 0, .int (nI g), .ref nm, .ref fr, .int (nI my), .ref hs, .ref va, .ref tp, .ref dn]))) va = some (.inl (cJ, 8, .inr (.inl vf))) := gh_keep zmo zva (by simp)
  have ztp_1 : (gh_up h mo (.inr (5, [.int 0, .int (nI g), .ref nm, .ref fr, .int (nI my), .ref hs, .ref va, .ref tp, .ref dn]))) tp = some (.inl (cJ, 8, .inr (.inl tf))) := gh_keep zmo ztp (by simp)
  have zdn_1 : (gh_up h mo (.inr (5, [.int 0, .int (nI g), .ref nm, .ref fr, .int (nI my), .ref hs, .ref va, .ref tp, .ref dn]))) dn = some (.inl (cJ, 8, .inr (.inl df))) := gh_keep zmo zdn (by simp)
  refine lv_aload_n hx hb d_Mo_planes_5 rfl (lv_at hl 0 rfl) ?_
  refine gh_get (ci := 5) hx hb htb in_Mo hown hK hG hq1 rfl 1 (by decide) (htb _ k_2_224) (fun _ h9 => h9) rfl d_Mo_planes_6 ?_
  exact gh_iret hx hb hr hlk rfl hG d_Mo_planes_9 (⟨rfl, (wM_mk hq1 znm_1 zfr_1 zhs_1 zva_1 ztp_1 zdn_1 zvt zvd ztd (by omega) (by omega)), (frM_up zf0 zmo rfl)⟩)

set_option maxHeartbeats 4000000 in
set_option maxRecDepth 100000 in
/-- solids -/
theorem c_Mo_solids {mo nm fr hs va tp dn g my : Nat} {th : Int32} {nf ff : Nat → Int32} {hf vf tf df : Nat → Int64} (hW : wM cI cJ h mo nm fr hs va tp dn th g my nf ff hf vf tf df) : gh_C l D vC (tZ cI cJ cP cS) (xF b0) b0 y_Mo_solids w_Mo_solids ({ frames := 0, cells := 0, slots := 0, locals := 0 }) [.ref mo] h (rW (some (.int (nI my))) (fun h2 => wM cI cJ h2 mo nm fr hs va tp dn 0 g my nf ff hf vf tf df ∧ frM h h2)) := by
  refine gh_ofW (by decide) (Nat.le_of_ble_eq_true rfl) ?_
  intro p e s m below meth c ls hctx hno hl hG hK hX
  obtain ⟨hx, hb, hr, hml, hown, hlk, hts, hnm⟩ := hctx
  have htb : ∀ w ∈ tB, w.before _ s = true := fun w hw => hts w (List.mem_cons_of_mem _ hw)
  replace hl : lv_has ls 1 [(0, .ref mo)] := hl
  obtain ⟨zmo, znm, zfr, zhs, zva, ztp, zdn, zvt, zvd, ztd, zg, zy⟩ := hW
  have zf0 : frM h h := frM_rf h
  refine lv_aload_n hx hb d_Mo_solids_0 rfl (lv_at hl 0 rfl) ?_
  refine lv_iconst (v := 0) hx hb d_Mo_solids_1 (by decide) ?_
  refine gh_put (ci := 5) (ty := .int) hx hb htb in_Mo t_Mo ty_Mo nm_Mo hown hK hG zmo rfl 0 (by decide) (htb _ k_2_223) (fun _ h9 => h9) rfl (by decide +kernel) rfl rfl (Nat.le_of_ble_eq_true rfl) d_Mo_solids_2 (fun H l9 hG => ?_)
  have hq1 : (gh_up h mo (.inr (5, [.int 0, .int (nI g), .ref nm, .ref fr, .int (nI my), .ref hs, .ref va, .ref tp, .ref dn]))) mo = some (.inr (5, [.int 0, .int (nI g), .ref nm, .ref fr, .int (nI my), .ref hs, .ref va, .ref tp, .ref dn])) := gh_self _ _ _
  replace hG : gh_P D vC b0 (gh_up h mo (.inr (5, [.int 0, .int (nI g), .ref nm, .ref fr, .int (nI my), .ref hs, .ref va, .ref tp, .ref dn]))) s.heap _ _ := hG
  have znm_1 : (gh_up h mo (.inr (5, [.int 0, .int (nI g), .ref nm, .ref fr, .int (nI my), .ref hs, .ref va, .ref tp, .ref dn]))) nm = some (.inl (cI, 24, .inl nf)) := gh_keep zmo znm (by simp)
  have zfr_1 : (gh_up h mo (.inr (5, [.int 0, .int (nI g), .ref nm, .ref fr, .int (nI my), .ref hs, .ref va, .ref tp, .ref dn]))) fr = some (.inl (cI, 8, .inl ff)) := gh_keep zmo zfr (by simp)
  have zhs_1 : (gh_up h mo (.inr (5, [.int 0, .int (nI g), .ref nm, .ref fr, .int (nI my), .ref hs, .ref va, .ref tp, .ref dn]))) hs = some (.inl (cJ, 24, .inr (.inl hf))) := gh_keep zmo zhs (by simp)
  have zva_1 : (gh_up h mo (.inr (5, [.int 0, .int (nI g), .ref nm, .ref fr, .int (nI my), .ref hs, .ref va, .ref tp, .ref dn]))) va = some (.inl (cJ, 8, .inr (.inl vf))) := gh_keep zmo zva (by simp)
  have ztp_1 : (gh_up h mo (.inr (5, [.int 0, .int (nI g), .ref nm, .ref fr, .int (nI my), .ref hs, .ref va, .ref tp, .ref dn]))) tp = some (.inl (cJ, 8, .inr (.inl tf))) := gh_keep zmo ztp (by simp)
  have zdn_1 : (gh_up h mo (.inr (5, [.int 0, .int (nI g), .ref nm, .ref fr, .int (nI my), .ref hs, .ref va, .ref tp, .ref dn]))) dn = some (.inl (cJ, 8, .inr (.inl df))) := gh_keep zmo zdn (by simp)
  refine lv_aload_n hx hb d_Mo_solids_5 rfl (lv_at hl 0 rfl) ?_
  refine gh_get (ci := 5) hx hb htb in_Mo hown hK hG hq1 rfl 4 (by decide) (htb _ k_2_227) (fun _ h9 => h9) rfl d_Mo_solids_6 ?_
  exact gh_iret hx hb hr hlk rfl hG d_Mo_solids_9 (⟨rfl, (wM_mk hq1 znm_1 zfr_1 zhs_1 zva_1 ztp_1 zdn_1 zvt zvd ztd (by omega) (by omega)), (frM_up zf0 zmo rfl)⟩)

set_option maxHeartbeats 4000000 in
set_option maxRecDepth 100000 in
/-- drop -/
theorem c_Mo_drop {mo nm fr hs va tp dn g my : Nat} {th : Int32} {nf ff : Nat → Int32} {hf vf tf df : Nat → Int64} (hW : wM cI cJ h mo nm fr hs va tp dn th g my nf ff hf vf tf df) : gh_C l D vC (tZ cI cJ cP cS) (xF b0) b0 y_Mo_drop w_Mo_drop ({ frames := 0, cells := 0, slots := 0, locals := 0 }) [.ref mo] h (rB (decide (my = 0)) (rW (some (.int 0)) (fun h2 => wM cI cJ h2 mo nm fr hs va tp dn 1 g my nf ff hf vf tf df ∧ frM h h2)) (rW (some (.int (nI (my - 1)))) (fun h2 => wM cI cJ h2 mo nm fr hs va tp dn 0 g (my - 1) nf ff hf vf tf df ∧ frM h h2))) := by
  refine gh_ofW (by decide) (Nat.le_of_ble_eq_true rfl) ?_
  intro p e s m below meth c ls hctx hno hl hG hK hX
  obtain ⟨hx, hb, hr, hml, hown, hlk, hts, hnm⟩ := hctx
  have htb : ∀ w ∈ tB, w.before _ s = true := fun w hw => hts w (List.mem_cons_of_mem _ hw)
  replace hl : lv_has ls 1 [(0, .ref mo)] := hl
  obtain ⟨zmo, znm, zfr, zhs, zva, ztp, zdn, zvt, zvd, ztd, zg, zy⟩ := hW
  have zf0 : frM h h := frM_rf h
  refine lv_aload_n hx hb d_Mo_drop_0 rfl (lv_at hl 0 rfl) ?_
  refine lv_aload_n hx hb d_Mo_drop_1 rfl (lv_at hl 0 rfl) ?_
  refine gh_get (ci := 5) hx hb htb in_Mo hown hK hG zmo rfl 4 (by decide) (htb _ k_2_227) (fun _ h9 => h9) rfl d_Mo_drop_2 ?_
  refine lv_if_ne (tgt := 12) hx hb d_Mo_drop_5 (by decide) (fun hc5 => ?_) (fun hc5 => ?_)
  · skip
    replace hc5 : ¬ my = 0 := fun q9 => hc5 ((nc_eq (a := my) (b := 0) (by omega) (by omega) rfl rfl).mpr q9)
    refine lv_iconst (v := 0) hx hb d_Mo_drop_12 (by decide) ?_
    refine gh_put (ci := 5) (ty := .int) hx hb htb in_Mo t_Mo ty_Mo nm_Mo hown hK hG zmo rfl 0 (by decide) (htb _ k_2_223) (fun _ h9 => h9) rfl (by decide +kernel) rfl rfl (Nat.le_of_ble_eq_true rfl) d_Mo_drop_13 (fun H l9 hG => ?_)
    have hq1 : (gh_up h mo (.inr (5, [.int 0, .int (nI g), .ref nm, .ref fr, .int (nI my), .ref hs, .ref va, .ref tp, .ref dn]))) mo = some (.inr (5, [.int 0, .int (nI g), .ref nm, .ref fr, .int (nI my), .ref hs, .ref va, .ref tp, .ref dn])) := gh_self _ _ _
    replace hG : gh_P D vC b0 (gh_up h mo (.inr (5, [.int 0, .int (nI g), .ref nm, .ref fr, .int (nI my), .ref hs, .ref va, .ref tp, .ref dn]))) s.heap _ _ := hG
    have znm_1 : (gh_up h mo (.inr (5, [.int 0, .int (nI g), .ref nm, .ref fr, .int (nI my), .ref hs, .ref va, .ref tp, .ref dn]))) nm = some (.inl (cI, 24, .inl nf)) := gh_keep zmo znm (by simp)
    have zfr_1 : (gh_up h mo (.inr (5, [.int 0, .int (nI g), .ref nm, .ref fr, .int (nI my), .ref hs, .ref va, .ref tp, .ref dn]))) fr = some (.inl (cI, 8, .inl ff)) := gh_keep zmo zfr (by simp)
    have zhs_1 : (gh_up h mo (.inr (5, [.int 0, .int (nI g), .ref nm, .ref fr, .int (nI my), .ref hs, .ref va, .ref tp, .ref dn]))) hs = some (.inl (cJ, 24, .inr (.inl hf))) := gh_keep zmo zhs (by simp)
    have zva_1 : (gh_up h mo (.inr (5, [.int 0, .int (nI g), .ref nm, .ref fr, .int (nI my), .ref hs, .ref va, .ref tp, .ref dn]))) va = some (.inl (cJ, 8, .inr (.inl vf))) := gh_keep zmo zva (by simp)
    have ztp_1 : (gh_up h mo (.inr (5, [.int 0, .int (nI g), .ref nm, .ref fr, .int (nI my), .ref hs, .ref va, .ref tp, .ref dn]))) tp = some (.inl (cJ, 8, .inr (.inl tf))) := gh_keep zmo ztp (by simp)
    have zdn_1 : (gh_up h mo (.inr (5, [.int 0, .int (nI g), .ref nm, .ref fr, .int (nI my), .ref hs, .ref va, .ref tp, .ref dn]))) dn = some (.inl (cJ, 8, .inr (.inl df))) := gh_keep zmo zdn (by simp)
    refine lv_aload_n hx hb d_Mo_drop_16 rfl (lv_at hl 0 rfl) ?_
    refine lv_aload_n hx hb d_Mo_drop_17 rfl (lv_at hl 0 rfl) ?_
    refine gh_get (ci := 5) hx hb htb in_Mo hown hK hG hq1 rfl 4 (by decide) (htb _ k_2_227) (fun _ h9 => h9) rfl d_Mo_drop_18 ?_
    refine lv_if_ne (tgt := 28) hx hb d_Mo_drop_21 (by decide) (fun hc21 => ?_) (fun hc21 => absurd ((nc_eq (a := my) (b := 0) (by omega) (by omega) rfl rfl).mp hc21) hc5)
    refine lv_aload_n hx hb d_Mo_drop_28 rfl (lv_at hl 0 rfl) ?_
    refine gh_get (ci := 5) hx hb htb in_Mo hown hK hG hq1 rfl 4 (by decide) (htb _ k_2_227) (fun _ h9 => h9) rfl d_Mo_drop_29 ?_
    refine lv_iconst (v := 1) hx hb d_Mo_drop_32 (by decide) ?_
    refine lv_isub hx hb d_Mo_drop_33 ?_
    rw [show nI my - 1 = nI (my - 1) from pk_sub (a := my) (b := 1) (by omega)]
    refine gh_put (ci := 5) (ty := .int) hx hb htb in_Mo t_Mo ty_Mo nm_Mo hown hK hG hq1 rfl 4 (by decide) (htb _ k_2_227) (fun _ h9 => h9) rfl (by decide +kernel) rfl rfl (Nat.le_of_ble_eq_true rfl) d_Mo_drop_34 (fun H l9 hG => ?_)
    have hq2 : (gh_up (gh_up h mo (.inr (5, [.int 0, .int (nI g), .ref nm, .ref fr, .int (nI my), .ref hs, .ref va, .ref tp, .ref dn]))) mo (.inr (5, [.int 0, .int (nI g), .ref nm, .ref fr, .int (nI (my - 1)), .ref hs, .ref va, .ref tp, .ref dn]))) mo = some (.inr (5, [.int 0, .int (nI g), .ref nm, .ref fr, .int (nI (my - 1)), .ref hs, .ref va, .ref tp, .ref dn])) := gh_self _ _ _
    replace hG : gh_P D vC b0 (gh_up (gh_up h mo (.inr (5, [.int 0, .int (nI g), .ref nm, .ref fr, .int (nI my), .ref hs, .ref va, .ref tp, .ref dn]))) mo (.inr (5, [.int 0, .int (nI g), .ref nm, .ref fr, .int (nI (my - 1)), .ref hs, .ref va, .ref tp, .ref dn]))) s.heap _ _ := hG
    have znm_2 : (gh_up (gh_up h mo (.inr (5, [.int 0, .int (nI g), .ref nm, .ref fr, .int (nI my), .ref hs, .ref va, .ref tp, .ref dn]))) mo (.inr (5, [.int 0, .int (nI g), .ref nm, .ref fr, .int (nI (my - 1)), .ref hs, .ref va, .ref tp, .ref dn]))) nm = some (.inl (cI, 24, .inl nf)) := gh_keep hq1 znm_1 (by simp)
    have zfr_2 : (gh_up (gh_up h mo (.inr (5, [.int 0, .int (nI g), .ref nm, .ref fr, .int (nI my), .ref hs, .ref va, .ref tp, .ref dn]))) mo (.inr (5, [.int 0, .int (nI g), .ref nm, .ref fr, .int (nI (my - 1)), .ref hs, .ref va, .ref tp, .ref dn]))) fr = some (.inl (cI, 8, .inl ff)) := gh_keep hq1 zfr_1 (by simp)
    have zhs_2 : (gh_up (gh_up h mo (.inr (5, [.int 0, .int (nI g), .ref nm, .ref fr, .int (nI my), .ref hs, .ref va, .ref tp, .ref dn]))) mo (.inr (5, [.int 0, .int (nI g), .ref nm, .ref fr, .int (nI (my - 1)), .ref hs, .ref va, .ref tp, .ref dn]))) hs = some (.inl (cJ, 24, .inr (.inl hf))) := gh_keep hq1 zhs_1 (by simp)
    have zva_2 : (gh_up (gh_up h mo (.inr (5, [.int 0, .int (nI g), .ref nm, .ref fr, .int (nI my), .ref hs, .ref va, .ref tp, .ref dn]))) mo (.inr (5, [.int 0, .int (nI g), .ref nm, .ref fr, .int (nI (my - 1)), .ref hs, .ref va, .ref tp, .ref dn]))) va = some (.inl (cJ, 8, .inr (.inl vf))) := gh_keep hq1 zva_1 (by simp)
    have ztp_2 : (gh_up (gh_up h mo (.inr (5, [.int 0, .int (nI g), .ref nm, .ref fr, .int (nI my), .ref hs, .ref va, .ref tp, .ref dn]))) mo (.inr (5, [.int 0, .int (nI g), .ref nm, .ref fr, .int (nI (my - 1)), .ref hs, .ref va, .ref tp, .ref dn]))) tp = some (.inl (cJ, 8, .inr (.inl tf))) := gh_keep hq1 ztp_1 (by simp)
    have zdn_2 : (gh_up (gh_up h mo (.inr (5, [.int 0, .int (nI g), .ref nm, .ref fr, .int (nI my), .ref hs, .ref va, .ref tp, .ref dn]))) mo (.inr (5, [.int 0, .int (nI g), .ref nm, .ref fr, .int (nI (my - 1)), .ref hs, .ref va, .ref tp, .ref dn]))) dn = some (.inl (cJ, 8, .inr (.inl df))) := gh_keep hq1 zdn_1 (by simp)
    refine lv_aload_n hx hb d_Mo_drop_37 rfl (lv_at hl 0 rfl) ?_
    refine gh_get (ci := 5) hx hb htb in_Mo hown hK hG hq2 rfl 4 (by decide) (htb _ k_2_227) (fun _ h9 => h9) rfl d_Mo_drop_38 ?_
    exact gh_iret hx hb hr hlk rfl hG d_Mo_drop_41 (rB_0 (decide_eq_false hc5) ⟨rfl, (wM_mk hq2 znm_2 zfr_2 zhs_2 zva_2 ztp_2 zdn_2 zvt zvd ztd (by omega) (by omega)), (frM_up (frM_up zf0 zmo rfl) hq1 rfl)⟩)
  · skip
    replace hc5 : my = 0 := (nc_eq (a := my) (b := 0) (by omega) (by omega) rfl rfl).mp hc5
    refine lv_iconst (v := 1) hx hb d_Mo_drop_8 (by decide) ?_
    refine lv_goto (tgt := 13) hx hb d_Mo_drop_9 (by decide) ?_
    refine gh_put (ci := 5) (ty := .int) hx hb htb in_Mo t_Mo ty_Mo nm_Mo hown hK hG zmo rfl 0 (by decide) (htb _ k_2_223) (fun _ h9 => h9) rfl (by decide +kernel) rfl rfl (Nat.le_of_ble_eq_true rfl) d_Mo_drop_13 (fun H l9 hG => ?_)
    have hq3 : (gh_up h mo (.inr (5, [.int 1, .int (nI g), .ref nm, .ref fr, .int (nI my), .ref hs, .ref va, .ref tp, .ref dn]))) mo = some (.inr (5, [.int 1, .int (nI g), .ref nm, .ref fr, .int (nI my), .ref hs, .ref va, .ref tp, .ref dn])) := gh_self _ _ _
    replace hG : gh_P D vC b0 (gh_up h mo (.inr (5, [.int 1, .int (nI g), .ref nm, .ref fr, .int (nI my), .ref hs, .ref va, .ref tp, .ref dn]))) s.heap _ _ := hG
    have znm_3 : (gh_up h mo (.inr (5, [.int 1, .int (nI g), .ref nm, .ref fr, .int (nI my), .ref hs, .ref va, .ref tp, .ref dn]))) nm = some (.inl (cI, 24, .inl nf)) := gh_keep zmo znm (by simp)
    have zfr_3 : (gh_up h mo (.inr (5, [.int 1, .int (nI g), .ref nm, .ref fr, .int (nI my), .ref hs, .ref va, .ref tp, .ref dn]))) fr = some (.inl (cI, 8, .inl ff)) := gh_keep zmo zfr (by simp)
    have zhs_3 : (gh_up h mo (.inr (5, [.int 1, .int (nI g), .ref nm, .ref fr, .int (nI my), .ref hs, .ref va, .ref tp, .ref dn]))) hs = some (.inl (cJ, 24, .inr (.inl hf))) := gh_keep zmo zhs (by simp)
    have zva_3 : (gh_up h mo (.inr (5, [.int 1, .int (nI g), .ref nm, .ref fr, .int (nI my), .ref hs, .ref va, .ref tp, .ref dn]))) va = some (.inl (cJ, 8, .inr (.inl vf))) := gh_keep zmo zva (by simp)
    have ztp_3 : (gh_up h mo (.inr (5, [.int 1, .int (nI g), .ref nm, .ref fr, .int (nI my), .ref hs, .ref va, .ref tp, .ref dn]))) tp = some (.inl (cJ, 8, .inr (.inl tf))) := gh_keep zmo ztp (by simp)
    have zdn_3 : (gh_up h mo (.inr (5, [.int 1, .int (nI g), .ref nm, .ref fr, .int (nI my), .ref hs, .ref va, .ref tp, .ref dn]))) dn = some (.inl (cJ, 8, .inr (.inl df))) := gh_keep zmo zdn (by simp)
    refine lv_aload_n hx hb d_Mo_drop_16 rfl (lv_at hl 0 rfl) ?_
    refine lv_aload_n hx hb d_Mo_drop_17 rfl (lv_at hl 0 rfl) ?_
    refine gh_get (ci := 5) hx hb htb in_Mo hown hK hG hq3 rfl 4 (by decide) (htb _ k_2_227) (fun _ h9 => h9) rfl d_Mo_drop_18 ?_
    refine lv_if_ne (tgt := 28) hx hb d_Mo_drop_21 (by decide) (fun hc21 => absurd ((nc_eq (a := my) (b := 0) (by omega) (by omega) rfl rfl).mpr hc5) hc21) (fun hc21 => ?_)
    refine lv_iconst (v := 0) hx hb d_Mo_drop_24 (by decide) ?_
    refine lv_goto (tgt := 34) hx hb d_Mo_drop_25 (by decide) ?_
    refine gh_put (ci := 5) (ty := .int) hx hb htb in_Mo t_Mo ty_Mo nm_Mo hown hK hG hq3 rfl 4 (by decide) (htb _ k_2_227) (fun _ h9 => h9) rfl (by decide +kernel) rfl rfl (Nat.le_of_ble_eq_true rfl) d_Mo_drop_34 (fun H l9 hG => ?_)
    have hq4 : (gh_up (gh_up h mo (.inr (5, [.int 1, .int (nI g), .ref nm, .ref fr, .int (nI my), .ref hs, .ref va, .ref tp, .ref dn]))) mo (.inr (5, [.int 1, .int (nI g), .ref nm, .ref fr, .int 0, .ref hs, .ref va, .ref tp, .ref dn]))) mo = some (.inr (5, [.int 1, .int (nI g), .ref nm, .ref fr, .int 0, .ref hs, .ref va, .ref tp, .ref dn])) := gh_self _ _ _
    replace hG : gh_P D vC b0 (gh_up (gh_up h mo (.inr (5, [.int 1, .int (nI g), .ref nm, .ref fr, .int (nI my), .ref hs, .ref va, .ref tp, .ref dn]))) mo (.inr (5, [.int 1, .int (nI g), .ref nm, .ref fr, .int 0, .ref hs, .ref va, .ref tp, .ref dn]))) s.heap _ _ := hG
    have znm_4 : (gh_up (gh_up h mo (.inr (5, [.int 1, .int (nI g), .ref nm, .ref fr, .int (nI my), .ref hs, .ref va, .ref tp, .ref dn]))) mo (.inr (5, [.int 1, .int (nI g), .ref nm, .ref fr, .int 0, .ref hs, .ref va, .ref tp, .ref dn]))) nm = some (.inl (cI, 24, .inl nf)) := gh_keep hq3 znm_3 (by simp)
    have zfr_4 : (gh_up (gh_up h mo (.inr (5, [.int 1, .int (nI g), .ref nm, .ref fr, .int (nI my), .ref hs, .ref va, .ref tp, .ref dn]))) mo (.inr (5, [.int 1, .int (nI g), .ref nm, .ref fr, .int 0, .ref hs, .ref va, .ref tp, .ref dn]))) fr = some (.inl (cI, 8, .inl ff)) := gh_keep hq3 zfr_3 (by simp)
    have zhs_4 : (gh_up (gh_up h mo (.inr (5, [.int 1, .int (nI g), .ref nm, .ref fr, .int (nI my), .ref hs, .ref va, .ref tp, .ref dn]))) mo (.inr (5, [.int 1, .int (nI g), .ref nm, .ref fr, .int 0, .ref hs, .ref va, .ref tp, .ref dn]))) hs = some (.inl (cJ, 24, .inr (.inl hf))) := gh_keep hq3 zhs_3 (by simp)
    have zva_4 : (gh_up (gh_up h mo (.inr (5, [.int 1, .int (nI g), .ref nm, .ref fr, .int (nI my), .ref hs, .ref va, .ref tp, .ref dn]))) mo (.inr (5, [.int 1, .int (nI g), .ref nm, .ref fr, .int 0, .ref hs, .ref va, .ref tp, .ref dn]))) va = some (.inl (cJ, 8, .inr (.inl vf))) := gh_keep hq3 zva_3 (by simp)
    have ztp_4 : (gh_up (gh_up h mo (.inr (5, [.int 1, .int (nI g), .ref nm, .ref fr, .int (nI my), .ref hs, .ref va, .ref tp, .ref dn]))) mo (.inr (5, [.int 1, .int (nI g), .ref nm, .ref fr, .int 0, .ref hs, .ref va, .ref tp, .ref dn]))) tp = some (.inl (cJ, 8, .inr (.inl tf))) := gh_keep hq3 ztp_3 (by simp)
    have zdn_4 : (gh_up (gh_up h mo (.inr (5, [.int 1, .int (nI g), .ref nm, .ref fr, .int (nI my), .ref hs, .ref va, .ref tp, .ref dn]))) mo (.inr (5, [.int 1, .int (nI g), .ref nm, .ref fr, .int 0, .ref hs, .ref va, .ref tp, .ref dn]))) dn = some (.inl (cJ, 8, .inr (.inl df))) := gh_keep hq3 zdn_3 (by simp)
    refine lv_aload_n hx hb d_Mo_drop_37 rfl (lv_at hl 0 rfl) ?_
    refine gh_get (ci := 5) hx hb htb in_Mo hown hK hG hq4 rfl 4 (by decide) (htb _ k_2_227) (fun _ h9 => h9) rfl d_Mo_drop_38 ?_
    exact gh_iret hx hb hr hlk rfl hG d_Mo_drop_41 (by obtain rfl := hc5; exact rB_1 rfl ⟨rfl, (wM_mk hq4 znm_4 zfr_4 zhs_4 zva_4 ztp_4 zdn_4 zvt zvd ztd (by omega) (by omega)), (frM_up (frM_up zf0 zmo rfl) hq3 rfl)⟩)

set_option maxHeartbeats 4000000 in
set_option maxRecDepth 100000 in
/-- isPoint -/
theorem c_Mo_isPoint {x y z w : Int32} : gh_C l D vC (tZ cI cJ cP cS) (xF b0) b0 y_Mo_isPoint w_Mo_isPoint ({ frames := 1, cells := 0, slots := 0, locals := 24 }) [.int x, .int y, .int z, .int w] h (rI (m_b (!m_badQ x y z w)) h) := by
  refine gh_ofW (by decide) (Nat.le_of_ble_eq_true rfl) ?_
  intro p e s m below meth c ls hctx hno hl hG hK hX
  obtain ⟨hx, hb, hr, hml, hown, hlk, hts, hnm⟩ := hctx
  have htb : ∀ w ∈ tB, w.before _ s = true := fun w hw => hts w (List.mem_cons_of_mem _ hw)
  replace hl : lv_has ls 4 [(0, .int x), (1, .int y), (2, .int z), (3, .int w)] := hl
  refine lv_iload_n hx hb d_Mo_isPoint_0 rfl (lv_at hl 0 rfl) ?_
  refine lv_ldc (v := 1000000) hx hb hown (htb _ k_3_19) d_Mo_isPoint_1 ?_
  refine gh_cS (As := [.int x, .int 1000000]) (rest := []) (xF_ok b0) hx hb hml hown hK hX hG c_Mo_within (q_Mo_within htb ⟨by decide, by decide⟩) (htb _ k_3_20) (htb _ k_3_21) rfl hl.1 rfl (Nat.le_of_ble_eq_true rfl) d_Mo_isPoint_3 ⟨by decide, by decide⟩ (fun v9 h9 H l9 hp9 hG => ?_) (fun _ _ _ _ hp9 _ => by cases hp9.1)
  obtain ⟨hv9, hh9⟩ := hp9
  cases hv9
  rw [hh9] at hG
  refine W.eq (g2 := F0 m 6 ls [.int (m_b (!m_bey x 1000000))]) rfl ?_
  refine W.widen (k := 0) (n := 0) (by decide) (by decide) ?_
  refine lv_if_eq (tgt := 43) hx hb d_Mo_isPoint_6 (by decide) (fun hc6 => ?_) (fun hc6 => ?_)
  · skip
    replace hc6 := mb_n0.mp hc6
    refine lv_iconst (v := 0) hx hb d_Mo_isPoint_43 (by decide) ?_
    exact gh_iret hx hb hr hlk rfl hG d_Mo_isPoint_44 (⟨by simp_all [m_badQ, m_b], rfl⟩)
  · skip
    replace hc6 := mb_n1.mp hc6
    refine lv_iload_n hx hb d_Mo_isPoint_9 rfl (lv_at hl 1 rfl) ?_
    refine lv_ldc (v := 1000000) hx hb hown (htb _ k_3_19) d_Mo_isPoint_10 ?_
    refine gh_cS (As := [.int y, .int 1000000]) (rest := []) (xF_ok b0) hx hb hml hown hK hX hG c_Mo_within (q_Mo_within htb ⟨by decide, by decide⟩) (htb _ k_3_20) (htb _ k_3_21) rfl hl.1 rfl (Nat.le_of_ble_eq_true rfl) d_Mo_isPoint_12 ⟨by decide, by decide⟩ (fun v9 h9 H l9 hp9 hG => ?_) (fun _ _ _ _ hp9 _ => by cases hp9.1)
    obtain ⟨hv9, hh9⟩ := hp9
    cases hv9
    rw [hh9] at hG
    refine W.eq (g2 := F0 m 15 ls [.int (m_b (!m_bey y 1000000))]) rfl ?_
    refine W.widen (k := 0) (n := 0) (by decide) (by decide) ?_
    refine lv_if_eq (tgt := 43) hx hb d_Mo_isPoint_15 (by decide) (fun hc15 => ?_) (fun hc15 => ?_)
    · skip
      replace hc15 := mb_n0.mp hc15
      refine lv_iconst (v := 0) hx hb d_Mo_isPoint_43 (by decide) ?_
      exact gh_iret hx hb hr hlk rfl hG d_Mo_isPoint_44 (⟨by simp_all [m_badQ, m_b], rfl⟩)
    · skip
      replace hc15 := mb_n1.mp hc15
      refine lv_iload_n hx hb d_Mo_isPoint_18 rfl (lv_at hl 2 rfl) ?_
      refine lv_ldc (v := 1000000) hx hb hown (htb _ k_3_19) d_Mo_isPoint_19 ?_
      refine gh_cS (As := [.int z, .int 1000000]) (rest := []) (xF_ok b0) hx hb hml hown hK hX hG c_Mo_within (q_Mo_within htb ⟨by decide, by decide⟩) (htb _ k_3_20) (htb _ k_3_21) rfl hl.1 rfl (Nat.le_of_ble_eq_true rfl) d_Mo_isPoint_21 ⟨by decide, by decide⟩ (fun v9 h9 H l9 hp9 hG => ?_) (fun _ _ _ _ hp9 _ => by cases hp9.1)
      obtain ⟨hv9, hh9⟩ := hp9
      cases hv9
      rw [hh9] at hG
      refine W.eq (g2 := F0 m 24 ls [.int (m_b (!m_bey z 1000000))]) rfl ?_
      refine W.widen (k := 0) (n := 0) (by decide) (by decide) ?_
      refine lv_if_eq (tgt := 43) hx hb d_Mo_isPoint_24 (by decide) (fun hc24 => ?_) (fun hc24 => ?_)
      · skip
        replace hc24 := mb_n0.mp hc24
        refine lv_iconst (v := 0) hx hb d_Mo_isPoint_43 (by decide) ?_
        exact gh_iret hx hb hr hlk rfl hG d_Mo_isPoint_44 (⟨by simp_all [m_badQ, m_b], rfl⟩)
      · skip
        replace hc24 := mb_n1.mp hc24
        refine lv_iload_n hx hb d_Mo_isPoint_27 rfl (lv_at hl 3 rfl) ?_
        refine lv_iconst (v := 1) hx hb d_Mo_isPoint_28 (by decide) ?_
        refine lv_icmp_lt (tgt := 43) hx hb d_Mo_isPoint_29 (by decide) (fun hc29 => ?_) (fun hc29 => ?_)
        · skip
          refine lv_iconst (v := 0) hx hb d_Mo_isPoint_43 (by decide) ?_
          exact gh_iret hx hb hr hlk rfl hG d_Mo_isPoint_44 (⟨by simp_all [m_badQ, m_b], rfl⟩)
        · skip
          refine lv_iload_n hx hb d_Mo_isPoint_32 rfl (lv_at hl 3 rfl) ?_
          refine lv_sipush (v := 1000) hx hb d_Mo_isPoint_33 (by decide) ?_
          refine lv_icmp_gt (tgt := 43) hx hb d_Mo_isPoint_36 (by decide) (fun hc36 => ?_) (fun hc36 => ?_)
          · skip
            refine lv_iconst (v := 0) hx hb d_Mo_isPoint_43 (by decide) ?_
            exact gh_iret hx hb hr hlk rfl hG d_Mo_isPoint_44 (⟨by simp_all [m_badQ, m_b], rfl⟩)
          · skip
            refine lv_iconst (v := 1) hx hb d_Mo_isPoint_39 (by decide) ?_
            refine lv_goto (tgt := 44) hx hb d_Mo_isPoint_40 (by decide) ?_
            exact gh_iret hx hb hr hlk rfl hG d_Mo_isPoint_44 (⟨by simp_all [m_badQ, m_b], rfl⟩)

set_option maxHeartbeats 4000000 in
set_option maxRecDepth 100000 in
/-- lies -/
theorem c_Mo_lies {x w : Int32} : gh_C l D vC (tZ cI cJ cP cS) (xF b0) b0 y_Mo_lies w_Mo_lies ({ frames := 0, cells := 0, slots := 0, locals := 0 }) [.int x, .int w] h (rI (v_lies x w) h) := by
  refine gh_ofW (by decide) (Nat.le_of_ble_eq_true rfl) ?_
  intro p e s m below meth c ls hctx hno hl hG hK hX
  obtain ⟨hx, hb, hr, hml, hown, hlk, hts, hnm⟩ := hctx
  have htb : ∀ w ∈ tB, w.before _ s = true := fun w hw => hts w (List.mem_cons_of_mem _ hw)
  replace hl : lv_has ls 3 [(0, .int x), (1, .int w)] := hl
  refine lv_iload_n hx hb d_Mo_lies_0 rfl (lv_at hl 0 rfl) ?_
  refine lv_if_ge (tgt := 9) hx hb d_Mo_lies_1 (by decide) (fun hc1 => ?_) (fun hc1 => ?_)
  · skip
    refine lv_iload_n hx hb d_Mo_lies_9 rfl (lv_at hl 0 rfl) ?_
    refine lv_istore_n (lv' := [(2, .int x), (0, .int x), (1, .int w)]) hx hb d_Mo_lies_10 rfl hl (by decide) rfl (fun ls hl => ?_)
    refine lv_iload_n hx hb d_Mo_lies_11 rfl (lv_at hl 0 rfl) ?_
    refine lv_sipush (v := 1000) hx hb d_Mo_lies_12 (by decide) ?_
    refine lv_iload_n hx hb d_Mo_lies_15 rfl (lv_at hl 2 rfl) ?_
    refine lv_imul hx hb d_Mo_lies_16 ?_
    refine lv_icmp_ge (tgt := 24) hx hb d_Mo_lies_17 (by decide) (fun hc17 => ?_) (fun hc17 => ?_)
    · skip
      refine lv_iload_n hx hb d_Mo_lies_24 rfl (lv_at hl 0 rfl) ?_
      refine lv_sipush (v := 1000) hx hb d_Mo_lies_25 (by decide) ?_
      refine lv_iload_n hx hb d_Mo_lies_28 rfl (lv_at hl 2 rfl) ?_
      refine lv_imul hx hb d_Mo_lies_29 ?_
      refine lv_icmp_ne (tgt := 37) hx hb d_Mo_lies_30 (by decide) (fun hc30 => ?_) (fun hc30 => ?_)
      · skip
        refine lv_iconst (v := (-1)) hx hb d_Mo_lies_37 (by decide) ?_
        exact gh_iret hx hb hr hlk rfl hG d_Mo_lies_38 (⟨by unfold v_lies; rw [if_pos hc1, if_pos hc17, if_neg hc30], rfl⟩)
      · skip
        refine lv_iconst (v := 0) hx hb d_Mo_lies_33 (by decide) ?_
        refine lv_goto (tgt := 38) hx hb d_Mo_lies_34 (by decide) ?_
        exact gh_iret hx hb hr hlk rfl hG d_Mo_lies_38 (⟨by unfold v_lies; rw [if_pos hc1, if_pos hc17, if_pos hc30], rfl⟩)
    · skip
      refine lv_iconst (v := 1) hx hb d_Mo_lies_20 (by decide) ?_
      refine lv_goto (tgt := 38) hx hb d_Mo_lies_21 (by decide) ?_
      exact gh_iret hx hb hr hlk rfl hG d_Mo_lies_38 (⟨by unfold v_lies; rw [if_pos hc1, if_neg hc17], rfl⟩)
  · skip
    refine lv_iload_n hx hb d_Mo_lies_4 rfl (lv_at hl 0 rfl) ?_
    refine lv_ineg hx hb d_Mo_lies_5 ?_
    refine lv_goto (tgt := 10) hx hb d_Mo_lies_6 (by decide) ?_
    refine lv_istore_n (lv' := [(2, .int (-x)), (0, .int x), (1, .int w)]) hx hb d_Mo_lies_10 rfl hl (by decide) rfl (fun ls hl => ?_)
    refine lv_iload_n hx hb d_Mo_lies_11 rfl (lv_at hl 0 rfl) ?_
    refine lv_sipush (v := 1000) hx hb d_Mo_lies_12 (by decide) ?_
    refine lv_iload_n hx hb d_Mo_lies_15 rfl (lv_at hl 2 rfl) ?_
    refine lv_imul hx hb d_Mo_lies_16 ?_
    refine lv_icmp_ge (tgt := 24) hx hb d_Mo_lies_17 (by decide) (fun hc17 => ?_) (fun hc17 => ?_)
    · skip
      refine lv_iload_n hx hb d_Mo_lies_24 rfl (lv_at hl 0 rfl) ?_
      refine lv_sipush (v := 1000) hx hb d_Mo_lies_25 (by decide) ?_
      refine lv_iload_n hx hb d_Mo_lies_28 rfl (lv_at hl 2 rfl) ?_
      refine lv_imul hx hb d_Mo_lies_29 ?_
      refine lv_icmp_ne (tgt := 37) hx hb d_Mo_lies_30 (by decide) (fun hc30 => ?_) (fun hc30 => ?_)
      · skip
        refine lv_iconst (v := (-1)) hx hb d_Mo_lies_37 (by decide) ?_
        exact gh_iret hx hb hr hlk rfl hG d_Mo_lies_38 (⟨by unfold v_lies; rw [if_neg hc1, if_pos hc17, if_neg hc30], rfl⟩)
      · skip
        refine lv_iconst (v := 0) hx hb d_Mo_lies_33 (by decide) ?_
        refine lv_goto (tgt := 38) hx hb d_Mo_lies_34 (by decide) ?_
        exact gh_iret hx hb hr hlk rfl hG d_Mo_lies_38 (⟨by unfold v_lies; rw [if_neg hc1, if_pos hc17, if_pos hc30], rfl⟩)
    · skip
      refine lv_iconst (v := 1) hx hb d_Mo_lies_20 (by decide) ?_
      refine lv_goto (tgt := 38) hx hb d_Mo_lies_21 (by decide) ?_
      exact gh_iret hx hb hr hlk rfl hG d_Mo_lies_38 (⟨by unfold v_lies; rw [if_neg hc1, if_neg hc17], rfl⟩)

set_option maxHeartbeats 4000000 in
set_option maxRecDepth 100000 in
/-- compare -/
theorem c_Mo_compare {t d t2 d2 : Int64} : gh_C l D vC (tZ cI cJ cP cS) (xF b0) b0 y_Mo_compare w_Mo_compare ({ frames := 0, cells := 0, slots := 0, locals := 0 }) [.long t, .long d, .long t2, .long d2] h (rI (v_cmp t d t2 d2) h) := by
  refine gh_ofW (by decide) (Nat.le_of_ble_eq_true rfl) ?_
  intro p e s m below meth c ls hctx hno hl hG hK hX
  obtain ⟨hx, hb, hr, hml, hown, hlk, hts, hnm⟩ := hctx
  have htb : ∀ w ∈ tB, w.before _ s = true := fun w hw => hts w (List.mem_cons_of_mem _ hw)
  replace hl : lv_has ls 12 [(0, .long t), (2, .long d), (4, .long t2), (6, .long d2)] := hl
  refine lv_lload_n hx hb d_Mo_compare_0 rfl (lv_at hl 0 rfl) ?_
  refine lv_lload hx hb d_Mo_compare_1 (lv_at hl 3 rfl) ?_
  refine lv_lmul hx hb d_Mo_compare_3 ?_
  refine lv_lstore (lv' := [(8, .long (t * d2)), (0, .long t), (2, .long d), (4, .long t2), (6, .long d2)]) hx hb d_Mo_compare_4 hl (by decide) rfl (fun ls hl => ?_)
  refine lv_lload hx hb d_Mo_compare_6 (lv_at hl 3 rfl) ?_
  refine lv_lload_n hx hb d_Mo_compare_8 rfl (lv_at hl 2 rfl) ?_
  refine lv_lmul hx hb d_Mo_compare_9 ?_
  refine lv_lstore (lv' := [(10, .long (t2 * d)), (8, .long (t * d2)), (0, .long t), (2, .long d), (4, .long t2), (6, .long d2)]) hx hb d_Mo_compare_10 hl (by decide) rfl (fun ls hl => ?_)
  refine lv_lload hx hb d_Mo_compare_12 (lv_at hl 1 rfl) ?_
  refine lv_lload hx hb d_Mo_compare_14 (lv_at hl 0 rfl) ?_
  refine W.lcmp hx hb d_Mo_compare_16 ?_
  refine lv_if_ge (tgt := 24) hx hb d_Mo_compare_17 (by decide) (fun hc17 => ?_) (fun hc17 => ?_)
  · skip
    rw [lg_cmp_ge] at hc17
    refine lv_lload hx hb d_Mo_compare_24 (lv_at hl 1 rfl) ?_
    refine lv_lload hx hb d_Mo_compare_26 (lv_at hl 0 rfl) ?_
    refine W.lcmp hx hb d_Mo_compare_28 ?_
    refine lv_if_le (tgt := 36) hx hb d_Mo_compare_29 (by decide) (fun hc29 => ?_) (fun hc29 => ?_)
    · skip
      rw [lg_cmp_le] at hc29
      refine lv_iconst (v := 0) hx hb d_Mo_compare_36 (by decide) ?_
      exact gh_iret hx hb hr hlk rfl hG d_Mo_compare_37 (⟨by simp [v_cmp, hc17, hc29], rfl⟩)
    · skip
      rw [lg_cmp_le] at hc29
      refine lv_iconst (v := 1) hx hb d_Mo_compare_32 (by decide) ?_
      refine lv_goto (tgt := 37) hx hb d_Mo_compare_33 (by decide) ?_
      exact gh_iret hx hb hr hlk rfl hG d_Mo_compare_37 (⟨by simp [v_cmp, hc17, hc29], rfl⟩)
  · skip
    rw [lg_cmp_ge] at hc17
    refine lv_iconst (v := (-1)) hx hb d_Mo_compare_20 (by decide) ?_
    refine lv_goto (tgt := 37) hx hb d_Mo_compare_21 (by decide) ?_
    exact gh_iret hx hb hr hlk rfl hG d_Mo_compare_37 (⟨by simp [v_cmp, hc17], rfl⟩)

set_option maxHeartbeats 4000000 in
set_option maxRecDepth 100000 in
/-- topHas -/
theorem c_Mo_topHas {mo nm fr hs va tp dn g my : Nat} {th : Int32} {nf ff : Nat → Int32} {hf vf tf df : Nat → Int64} (hW : wM cI cJ h mo nm fr hs va tp dn th g my nf ff hf vf tf df) (hy1 : 1 ≤ my) {ce : Nat} (hce : ce < 256) : gh_C l D vC (tZ cI cJ cP cS) (xF b0) b0 y_Mo_topHas w_Mo_topHas ({ frames := 0, cells := 0, slots := 0, locals := 0 }) [.ref mo, .int (nI ce)] h (rI (m_b (v_top hf my ce)) h) := by
  refine gh_ofW (by decide) (Nat.le_of_ble_eq_true rfl) ?_
  intro p e s m below meth c ls hctx hno hl hG hK hX
  obtain ⟨hx, hb, hr, hml, hown, hlk, hts, hnm⟩ := hctx
  have htb : ∀ w ∈ tB, w.before _ s = true := fun w hw => hts w (List.mem_cons_of_mem _ hw)
  replace hl : lv_has ls 2 [(0, .ref mo), (1, .int (nI ce))] := hl
  obtain ⟨zmo, znm, zfr, zhs, zva, ztp, zdn, zvt, zvd, ztd, zg, zy⟩ := hW
  have zf0 : frM h h := frM_rf h
  refine lv_aload_n hx hb d_Mo_topHas_0 rfl (lv_at hl 0 rfl) ?_
  refine gh_get (ci := 5) hx hb htb in_Mo hown hK hG zmo rfl 5 (by decide) (htb _ k_2_228) (fun _ h9 => h9) rfl d_Mo_topHas_1 ?_
  refine lv_iconst (v := 4) hx hb d_Mo_topHas_4 (by decide) ?_
  refine lv_aload_n hx hb d_Mo_topHas_5 rfl (lv_at hl 0 rfl) ?_
  refine gh_get (ci := 5) hx hb htb in_Mo hown hK hG zmo rfl 4 (by decide) (htb _ k_2_227) (fun _ h9 => h9) rfl d_Mo_topHas_6 ?_
  refine lv_imul hx hb d_Mo_topHas_9 ?_
  rw [show 4 * (nI my) = nI (4 * my) from nm_mul 4 my]
  refine lv_iconst (v := 4) hx hb d_Mo_topHas_10 (by decide) ?_
  refine lv_isub hx hb d_Mo_topHas_11 ?_
  rw [show nI (4 * my) - 4 = nI ((4 * my) - 4) from pk_sub (a := (4 * my)) (b := 4) (by omega)]
  refine lv_iload_n hx hb d_Mo_topHas_12 rfl (lv_at hl 1 rfl) ?_
  refine lv_bipush (v := 64) hx hb d_Mo_topHas_13 (by decide) ?_
  refine lv_idiv hx hb d_Mo_topHas_15 (by decide) ?_
  rw [show (nI ce) / 64 = nI (ce / 64) from pk_div (a := ce) (d := 64) (by omega) (by decide) (by decide)]
  refine lv_iadd hx hb d_Mo_topHas_16 ?_
  rw [show (nI ((4 * my) - 4)) + (nI (ce / 64)) = nI (((4 * my) - 4) + (ce / 64)) from nI_add ((4 * my) - 4) (ce / 64)]
  refine gh_lald (v := hf (((4 * my) - 4) + (ce / 64))) hx hb hK hG 1 zhs rfl (vp_in_nI (by omega) (by decide)) (by rw [nI_clamp (by omega)]) d_Mo_topHas_17 ?_
  refine lv_iload_n hx hb d_Mo_topHas_18 rfl (lv_at hl 1 rfl) ?_
  refine lv_bipush (v := 64) hx hb d_Mo_topHas_19 (by decide) ?_
  refine lv_irem hx hb d_Mo_topHas_21 (by decide) ?_
  rw [show (nI ce) - (nI ce) / 64 * 64 = nI (ce % 64) from pk_rem (a := ce) (d := 64) (by omega) (by decide) (by decide)]
  refine lv_lshr (v := ((hf (((4 * my) - 4) + (ce / 64))) >>> (Int32.toInt64 (nI (ce % 64)) &&& 63))) hx hb d_Mo_topHas_22 rfl ?_
  refine lv_lconst (v := 1) hx hb d_Mo_topHas_23 (by decide) ?_
  refine lv_land hx hb d_Mo_topHas_24 ?_
  refine lv_lconst (v := 1) hx hb d_Mo_topHas_25 (by decide) ?_
  refine W.lcmp hx hb d_Mo_topHas_26 ?_
  refine lv_if_ne (tgt := 34) hx hb d_Mo_topHas_27 (by decide) (fun hc27 => ?_) (fun hc27 => ?_)
  · skip
    rw [lg_cmp_eq] at hc27
    refine lv_iconst (v := 0) hx hb d_Mo_topHas_34 (by decide) ?_
    exact gh_iret hx hb hr hlk rfl hG d_Mo_topHas_35 (⟨by simp [v_top, m_b, hc27], rfl⟩)
  · skip
    rw [lg_cmp_eq] at hc27
    refine lv_iconst (v := 1) hx hb d_Mo_topHas_30 (by decide) ?_
    refine lv_goto (tgt := 35) hx hb d_Mo_topHas_31 (by decide) ?_
    exact gh_iret hx hb hr hlk rfl hG d_Mo_topHas_35 (⟨by simp [v_top, m_b, hc27], rfl⟩)

set_option maxHeartbeats 4000000 in
set_option maxRecDepth 100000 in
/-- normal -/
theorem c_Mo_normal {mo nm fr hs va tp dn g my : Nat} {th : Int32} {nf ff : Nat → Int32} {hf vf tf df : Nat → Int64} (hW : wM cI cJ h mo nm fr hs va tp dn th g my nf ff hf vf tf df) {pl i : Nat} (hp : pl < 8 ∨ (10 ≤ pl ∧ pl < 16)) (hi : i < 3) : gh_C l D vC (tZ cI cJ cP cS) (xF b0) b0 y_Mo_normal w_Mo_normal ({ frames := 0, cells := 0, slots := 0, locals := 0 }) [.ref mo, .int (nI pl), .int (nI i)] h (rI (v_nor nf pl i) h) := by
  refine gh_ofW (by decide) (Nat.le_of_ble_eq_true rfl) ?_
  intro p e s m below meth c ls hctx hno hl hG hK hX
  obtain ⟨hx, hb, hr, hml, hown, hlk, hts, hnm⟩ := hctx
  have htb : ∀ w ∈ tB, w.before _ s = true := fun w hw => hts w (List.mem_cons_of_mem _ hw)
  replace hl : lv_has ls 3 [(0, .ref mo), (1, .int (nI pl)), (2, .int (nI i))] := hl
  obtain ⟨zmo, znm, zfr, zhs, zva, ztp, zdn, zvt, zvd, ztd, zg, zy⟩ := hW
  have zf0 : frM h h := frM_rf h
  refine lv_iload_n hx hb d_Mo_normal_0 rfl (lv_at hl 1 rfl) ?_
  refine lv_bipush (v := 10) hx hb d_Mo_normal_1 (by decide) ?_
  refine lv_icmp_ge (tgt := 17) hx hb d_Mo_normal_3 (by decide) (fun hc3 => ?_) (fun hc3 => ?_)
  · skip
    replace hc3 : 10 ≤ pl := (nc_le (a := 10) (b := pl) (by omega) (by omega) rfl rfl).mp hc3
    refine lv_iload_n hx hb d_Mo_normal_17 rfl (lv_at hl 1 rfl) ?_
    refine lv_bipush (v := 10) hx hb d_Mo_normal_18 (by decide) ?_
    refine lv_isub hx hb d_Mo_normal_20 ?_
    rw [show nI pl - 10 = nI (pl - 10) from pk_sub (a := pl) (b := 10) (by omega)]
    refine lv_iconst (v := 3) hx hb d_Mo_normal_21 (by decide) ?_
    refine lv_irem hx hb d_Mo_normal_22 (by decide) ?_
    rw [show (nI (pl - 10)) - (nI (pl - 10)) / 3 * 3 = nI ((pl - 10) % 3) from pk_rem (a := (pl - 10)) (d := 3) (by omega) (by decide) (by decide)]
    refine lv_iload_n hx hb d_Mo_normal_23 rfl (lv_at hl 2 rfl) ?_
    refine lv_icmp_eq (tgt := 31) hx hb d_Mo_normal_24 (by decide) (fun hc24 => ?_) (fun hc24 => ?_)
    · skip
      replace hc24 : ((pl - 10) % 3) = i := (nc_eq (a := ((pl - 10) % 3)) (b := i) (by omega) (by omega) rfl rfl).mp hc24
      refine lv_iload_n hx hb d_Mo_normal_31 rfl (lv_at hl 1 rfl) ?_
      refine lv_bipush (v := 13) hx hb d_Mo_normal_32 (by decide) ?_
      refine lv_icmp_ge (tgt := 41) hx hb d_Mo_normal_34 (by decide) (fun hc34 => ?_) (fun hc34 => ?_)
      · skip
        replace hc34 : 13 ≤ pl := (nc_le (a := 13) (b := pl) (by omega) (by omega) rfl rfl).mp hc34
        refine lv_iconst (v := (-1)) hx hb d_Mo_normal_41 (by decide) ?_
        exact gh_iret hx hb hr hlk rfl hG d_Mo_normal_42 (⟨by unfold v_nor; rw [if_pos hc3, if_pos hc24, if_pos hc34], rfl⟩)
      · skip
        replace hc34 : ¬ 13 ≤ pl := fun q9 => hc34 ((nc_le (a := 13) (b := pl) (by omega) (by omega) rfl rfl).mpr q9)
        refine lv_iconst (v := 1) hx hb d_Mo_normal_37 (by decide) ?_
        refine lv_goto (tgt := 42) hx hb d_Mo_normal_38 (by decide) ?_
        exact gh_iret hx hb hr hlk rfl hG d_Mo_normal_42 (⟨by unfold v_nor; rw [if_pos hc3, if_pos hc24, if_neg hc34], rfl⟩)
    · skip
      replace hc24 : ¬ ((pl - 10) % 3) = i := fun q9 => hc24 ((nc_eq (a := ((pl - 10) % 3)) (b := i) (by omega) (by omega) rfl rfl).mpr q9)
      refine lv_iconst (v := 0) hx hb d_Mo_normal_27 (by decide) ?_
      refine lv_goto (tgt := 42) hx hb d_Mo_normal_28 (by decide) ?_
      exact gh_iret hx hb hr hlk rfl hG d_Mo_normal_42 (⟨by unfold v_nor; rw [if_pos hc3, if_neg hc24], rfl⟩)
  · skip
    replace hc3 : ¬ 10 ≤ pl := fun q9 => hc3 ((nc_le (a := 10) (b := pl) (by omega) (by omega) rfl rfl).mpr q9)
    refine lv_aload_n hx hb d_Mo_normal_6 rfl (lv_at hl 0 rfl) ?_
    refine gh_get (ci := 5) hx hb htb in_Mo hown hK hG zmo rfl 2 (by decide) (htb _ k_2_225) (fun _ h9 => h9) rfl d_Mo_normal_7 ?_
    refine lv_iconst (v := 3) hx hb d_Mo_normal_10 (by decide) ?_
    refine lv_iload_n hx hb d_Mo_normal_11 rfl (lv_at hl 1 rfl) ?_
    refine lv_imul hx hb d_Mo_normal_12 ?_
    rw [show 3 * (nI pl) = nI (3 * pl) from nm_mul 3 pl]
    refine lv_iload_n hx hb d_Mo_normal_13 rfl (lv_at hl 2 rfl) ?_
    refine lv_iadd hx hb d_Mo_normal_14 ?_
    rw [show (nI (3 * pl)) + (nI i) = nI ((3 * pl) + i) from nI_add (3 * pl) i]
    refine gh_iald (v := nf ((3 * pl) + i)) hx hb hK hG 0 znm rfl (vp_in_nI (by omega) (by decide)) (by rw [nI_clamp (by omega)]) d_Mo_normal_15 ?_
    exact gh_iret hx hb hr hlk rfl hG d_Mo_normal_16 (⟨by unfold v_nor; rw [if_neg hc3], rfl⟩)

end
