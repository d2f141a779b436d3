theorem wPs_pl {cI cP : ClassId} {h : gh_M} {sp al fi n q : Nat} {e : va_E} {ga : Nat → Option Nat} {gf : Nat → Int32} {pl fs : Nat → Nat} {pa pb pc pd : Nat → Int64} (hw : wPs cI cP h sp al fi n ga gf pl fs pa pb pc pd) (hf : h q = none) : wPs cI cP (gh_up h q e) sp al fi n ga gf pl fs pa pb pc pd := by
  obtain ⟨h1, h2, h3, h4, h5, h6, h7, h8⟩ := hw
  exact ⟨gh_keepN hf h1, gh_keepN hf h2, gh_keepN hf h3, h4, h5, h6, fun i hi => gh_keepN hf (h7 i hi), h8⟩
/-- while the planes are made: their world, and what was there before -/
def wB (cI cP : ClassId) (h0 h : gh_M) (sp al fi n : Nat) (ga : Nat → Option Nat) (gf : Nat → Int32) (pl fs : Nat → Nat) (pa pb pc pd : Nat → Int64) : Prop :=
  wPs cI cP h sp al fi n ga gf pl fs pa pb pc pd ∧ (h0 al = none ∧ h0 fi = none) ∧ ∀ x e, h0 x = some e → x ≠ sp → h x = some e
theorem wB_add {cI cP : ClassId} {h0 h : gh_M} {sp al fi n q r : Nat} {ga : Nat → Option Nat} {gf : Nat → Int32} {pl fs : Nat → Nat} {pa pb pc pd : Nat → Int64} {qa qb qc qd : Int64} (hw : wB cI cP h0 h sp al fi n ga gf pl fs pa pb pc pd) (hf : h q = none) (hn : n < 14) (hr : r < 14) :
    wB cI cP h0 (m_addH cI cP (gh_up h q (.inr (1, [.long qa, .long qb, .long qc, .long qd]))) sp al fi n ga gf q r) sp al fi (n + 1) (va_up ga n (some q)) (upd gf n (nI r)) (va_up pl n q) (va_up fs n r) (va_up pa n qa) (va_up pb n qb) (va_up pc n qc) (va_up pd n qd) := by
  obtain ⟨h1, ⟨h2, h3⟩, h4⟩ := hw
  refine ⟨wPs_add (wPs_pl h1 hf) hn hr (gh_self _ _ _), ⟨h2, h3⟩, fun x e hx hne => ?_⟩
  rw [m_addH_ne hne (fun k => by rw [k, h2] at hx; cases hx) (fun k => by rw [k, h3] at hx; cases hx)]
  exact gh_keepN hf (h4 x e hx hne)

/-- the box's planes: the number of coordinate c of plane i -/
def m_bx (c i : Nat) : Int64 := if i = 2 * c then 1 else if i = 2 * c + 1 then -1 else 0

section
variable {l : Launch} {D : va_G} {cI cJ cP cS : ClassId} {b0 : Nat} {h : gh_M}

set_option maxHeartbeats 4000000 in
set_option maxRecDepth 100000 in
/-- Planes(): the six planes of the box -/
theorem c_Ps_init {a : Nat} (ha : h a = some (.inr (2, [.null, .null, .int 0]))) : gh_C l D vC (tZ cI cJ cP cS) (xF b0) b0 y_Ps_init w_Ps_init ({ frames := 3, cells := 8, slots := 52, locals := 90 }) [.ref a] h (fun oc h2 => oc = .returned none ∧ ∃ (al fi : Nat) (ga : Nat → Option Nat) (gf : Nat → Int32) (pl fs : Nat → Nat) (pa pb pc pd : Nat → Int64), wB cI cP h h2 a al fi 6 ga gf pl fs pa pb pc pd ∧ (∀ i, i < 6 → fs i = i) ∧ (∀ i, i < 6 → pa i = m_bx 0 i ∧ pb i = m_bx 1 i ∧ pc i = m_bx 2 i ∧ pd i = 1000)) := by
  refine gh_ofW (by decide) (Nat.le_of_ble_eq_true rfl) ?_
  intro p e s m below meth c ls hctx hno hl hG hK hX
  obtain ⟨hx, hb, hr, hml, hown, hlk, hts, hnm⟩ := hctx
  have htb : ∀ w ∈ tB, w.before _ s = true := fun w hw => hts w (List.mem_cons_of_mem _ hw)
  replace hl : lv_has ls 1 [(0, .ref a)] := hl
  refine lv_aload_n hx hb d_Ps_init_0 rfl (lv_at hl 0 rfl) ?_
  refine W.objInit hx hb hown (htb _ k_1_28) (htb _ k_1_21) (htb _ k_1_22) rfl (by rw [hml]; exact hl.1) rfl d_Ps_init_1 (Nat.le_of_ble_eq_true rfl) (Nat.le_of_ble_eq_true rfl) ?_
  refine W.eq (g2 := F0 m 4 ls []) rfl ?_
  refine lv_aload_n hx hb d_Ps_init_4 rfl (lv_at hl 0 rfl) ?_
  refine lv_bipush (v := 14) hx hb d_Ps_init_5 (by decide) ?_
  refine gh_newq hx hb hown (htb _ k_1_29) hX.2.2.1.1 hK hG 2 rfl (by decide) (N' := 14) rfl (by decide) (by decide) (by decide) d_Ps_init_7 (fun q1 H hf1 hG => ?_)
  have hq2 : (gh_up h q1 (.inl (cP, 14, .inr (.inr (.inr (.inr (fun _ => none))))))) q1 = some (.inl (cP, 14, .inr (.inr (.inr (.inr (fun _ => none)))))) := gh_self _ _ _
  replace hG : gh_P D vC b0 (gh_up h q1 (.inl (cP, 14, .inr (.inr (.inr (.inr (fun _ => none))))))) s.heap _ _ := hG
  have ha_2 : (gh_up h q1 (.inl (cP, 14, .inr (.inr (.inr (.inr (fun _ => none))))))) a = some (.inr (2, [.null, .null, .int 0])) := gh_keepN hf1 ha
  refine W.widen (k := 1) (n := 14) (by decide) (by decide) ?_
  refine gh_putF (ci := 2) (ty := .array (.object "CarvedSolids$Plane")) hx hb htb in_Ps t_Ps ty_Ps nm_Ps hown hK hG ha_2 rfl 0 (by decide) (htb _ k_1_64) (fun _ h9 => h9) rfl hnm rfl (by decide +kernel) rfl rfl (Nat.le_of_ble_eq_true rfl) d_Ps_init_10 (fun H l9 hG => ?_)
  have hq3 : (gh_up (gh_up h q1 (.inl (cP, 14, .inr (.inr (.inr (.inr (fun _ => none))))))) a (.inr (2, [.ref q1, .null, .int 0]))) a = some (.inr (2, [.ref q1, .null, .int 0])) := gh_self _ _ _
  replace hG : gh_P D vC b0 (gh_up (gh_up h q1 (.inl (cP, 14, .inr (.inr (.inr (.inr (fun _ => none))))))) a (.inr (2, [.ref q1, .null, .int 0]))) s.heap _ _ := hG
  have hq2_3 : (gh_up (gh_up h q1 (.inl (cP, 14, .inr (.inr (.inr (.inr (fun _ => none))))))) a (.inr (2, [.ref q1, .null, .int 0]))) q1 = some (.inl (cP, 14, .inr (.inr (.inr (.inr (fun _ => none)))))) := gh_keep ha_2 hq2 (by simp)
  refine lv_aload_n hx hb d_Ps_init_13 rfl (lv_at hl 0 rfl) ?_
  refine lv_bipush (v := 14) hx hb d_Ps_init_14 (by decide) ?_
  refine gh_newa (atype := .int) (a0 := (14, .inl (fun _ => 0))) hx hb (htb _ k_1_50) rfl hK hG 0 rfl (fun _ => rfl) (by decide) rfl (by decide) (by decide) (by decide) d_Ps_init_16 (fun q4 H hf4 hG => ?_)
  have hq5 : (gh_up (gh_up (gh_up h q1 (.inl (cP, 14, .inr (.inr (.inr (.inr (fun _ => none))))))) a (.inr (2, [.ref q1, .null, .int 0]))) q4 (.inl (cI, 14, .inl (fun _ => 0)))) q4 = some (.inl (cI, 14, .inl (fun _ => 0))) := gh_self _ _ _
  replace hG : gh_P D vC b0 (gh_up (gh_up (gh_up h q1 (.inl (cP, 14, .inr (.inr (.inr (.inr (fun _ => none))))))) a (.inr (2, [.ref q1, .null, .int 0]))) q4 (.inl (cI, 14, .inl (fun _ => 0)))) s.heap _ _ := hG
  have hq2_5 : (gh_up (gh_up (gh_up h q1 (.inl (cP, 14, .inr (.inr (.inr (.inr (fun _ => none))))))) a (.inr (2, [.ref q1, .null, .int 0]))) q4 (.inl (cI, 14, .inl (fun _ => 0)))) q1 = some (.inl (cP, 14, .inr (.inr (.inr (.inr (fun _ => none)))))) := gh_keepN hf4 hq2_3
  have hq3_5 : (gh_up (gh_up (gh_up h q1 (.inl (cP, 14, .inr (.inr (.inr (.inr (fun _ => none))))))) a (.inr (2, [.ref q1, .null, .int 0]))) q4 (.inl (cI, 14, .inl (fun _ => 0)))) a = some (.inr (2, [.ref q1, .null, .int 0])) := gh_keepN hf4 hq3
  refine W.widen (k := 2) (n := 28) (by decide) (by decide) ?_
  refine gh_putF (ci := 2) (ty := .array (.int)) hx hb htb in_Ps t_Ps ty_Ps nm_Ps hown hK hG hq3_5 rfl 1 (by decide) (htb _ k_1_65) (fun _ h9 => h9) rfl hnm rfl (by decide +kernel) rfl rfl (Nat.le_of_ble_eq_true rfl) d_Ps_init_18 (fun H l9 hG => ?_)
  have hq6 : (gh_up (gh_up (gh_up (gh_up h q1 (.inl (cP, 14, .inr (.inr (.inr (.inr (fun _ => none))))))) a (.inr (2, [.ref q1, .null, .int 0]))) q4 (.inl (cI, 14, .inl (fun _ => 0)))) a (.inr (2, [.ref q1, .ref q4, .int 0]))) a = some (.inr (2, [.ref q1, .ref q4, .int 0])) := gh_self _ _ _
  replace hG : gh_P D vC b0 (gh_up (gh_up (gh_up (gh_up h q1 (.inl (cP, 14, .inr (.inr (.inr (.inr (fun _ => none))))))) a (.inr (2, [.ref q1, .null, .int 0]))) q4 (.inl (cI, 14, .inl (fun _ => 0)))) a (.inr (2, [.ref q1, .ref q4, .int 0]))) s.heap _ _ := hG
  have hq2_6 : (gh_up (gh_up (gh_up (gh_up h q1 (.inl (cP, 14, .inr (.inr (.inr (.inr (fun _ => none))))))) a (.inr (2, [.ref q1, .null, .int 0]))) q4 (.inl (cI, 14, .inl (fun _ => 0)))) a (.inr (2, [.ref q1, .ref q4, .int 0]))) q1 = some (.inl (cP, 14, .inr (.inr (.inr (.inr (fun _ => none)))))) := gh_keep hq3_5 hq2_5 (by simp)
  have hq5_6 : (gh_up (gh_up (gh_up (gh_up h q1 (.inl (cP, 14, .inr (.inr (.inr (.inr (fun _ => none))))))) a (.inr (2, [.ref q1, .null, .int 0]))) q4 (.inl (cI, 14, .inl (fun _ => 0)))) a (.inr (2, [.ref q1, .ref q4, .int 0]))) q4 = some (.inl (cI, 14, .inl (fun _ => 0))) := gh_keep hq3_5 hq5 (by simp)
  refine lv_aload_n hx hb d_Ps_init_21 rfl (lv_at hl 0 rfl) ?_
  refine lv_iconst (v := 0) hx hb d_Ps_init_22 (by decide) ?_
  refine gh_put (ci := 2) (ty := .int) hx hb htb in_Ps t_Ps ty_Ps nm_Ps hown hK hG hq6 rfl 2 (by decide) (htb _ k_1_66) (fun _ h9 => h9) rfl (by decide +kernel) rfl rfl (Nat.le_of_ble_eq_true rfl) d_Ps_init_23 (fun H l9 hG => ?_)
  have hq7 : (gh_up (gh_up (gh_up (gh_up (gh_up h q1 (.inl (cP, 14, .inr (.inr (.inr (.inr (fun _ => none))))))) a (.inr (2, [.ref q1, .null, .int 0]))) q4 (.inl (cI, 14, .inl (fun _ => 0)))) a (.inr (2, [.ref q1, .ref q4, .int 0]))) a (.inr (2, [.ref q1, .ref q4, .int 0]))) a = some (.inr (2, [.ref q1, .ref q4, .int 0])) := gh_self _ _ _
  replace hG : gh_P D vC b0 (gh_up (gh_up (gh_up (gh_up (gh_up h q1 (.inl (cP, 14, .inr (.inr (.inr (.inr (fun _ => none))))))) a (.inr (2, [.ref q1, .null, .int 0]))) q4 (.inl (cI, 14, .inl (fun _ => 0)))) a (.inr (2, [.ref q1, .ref q4, .int 0]))) a (.inr (2, [.ref q1, .ref q4, .int 0]))) s.heap _ _ := hG
  have hq2_7 : (gh_up (gh_up (gh_up (gh_up (gh_up h q1 (.inl (cP, 14, .inr (.inr (.inr (.inr (fun _ => none))))))) a (.inr (2, [.ref q1, .null, .int 0]))) q4 (.inl (cI, 14, .inl (fun _ => 0)))) a (.inr (2, [.ref q1, .ref q4, .int 0]))) a (.inr (2, [.ref q1, .ref q4, .int 0]))) q1 = some (.inl (cP, 14, .inr (.inr (.inr (.inr (fun _ => none)))))) := gh_keep hq6 hq2_6 (by simp)
  have hq5_7 : (gh_up (gh_up (gh_up (gh_up (gh_up h q1 (.inl (cP, 14, .inr (.inr (.inr (.inr (fun _ => none))))))) a (.inr (2, [.ref q1, .null, .int 0]))) q4 (.inl (cI, 14, .inl (fun _ => 0)))) a (.inr (2, [.ref q1, .ref q4, .int 0]))) a (.inr (2, [.ref q1, .ref q4, .int 0]))) q4 = some (.inl (cI, 14, .inl (fun _ => 0))) := gh_keep hq6 hq5_6 (by simp)
  obtain ⟨hh, hhe⟩ : ∃ hh, hh = gh_up (gh_up (gh_up (gh_up (gh_up h q1 (.inl (cP, 14, .inr (.inr (.inr (.inr (fun _ => none))))))) a (.inr (2, [.ref q1, .null, .int 0]))) q4 (.inl (cI, 14, .inl (fun _ => 0)))) a (.inr (2, [.ref q1, .ref q4, .int 0]))) a (.inr (2, [.ref q1, .ref q4, .int 0])) := ⟨_, rfl⟩
  have hw : wB cI cP h hh a q1 q4 0 (fun _ => none) (fun _ => 0) (fun _ => 0) (fun _ => 0) (fun _ => 0) (fun _ => 0) (fun _ => 0) (fun _ => 0) := by
    rw [hhe]
    refine ⟨⟨hq7, hq2_7, hq5_7, fun i hi => absurd hi (Nat.not_lt_zero i), fun i hi => absurd hi (Nat.not_lt_zero i), fun i => by show 0 < 14; omega, fun i hi => absurd hi (Nat.not_lt_zero i), by decide⟩, ⟨hf1, ?_⟩, fun x e hx hne => ?_⟩
    · cases hz : h q4 with
      | none => rfl
      | some e0 =>
        have z1 := gh_keepN (e := .inl (cP, 14, .inr (.inr (.inr (.inr (fun _ => none)))))) hf1 hz
        have z2 : q4 ≠ a := fun k9 => by rw [k9] at hz; rw [hz] at ha; cases ha; rw [k9] at hf4; exact absurd hf4 (by rw [gh_self]; exact fun z => by cases z)
        rw [gh_ne z2, z1] at hf4
        cases hf4
    · rw [gh_ne hne, gh_ne hne, gh_ne (fun k9 => ?_), gh_ne hne, gh_ne (fun k9 => ?_)]
      · exact hx
      · rw [k9, hf1] at hx; cases hx
      · have z1 := gh_keepN (e := .inl (cP, 14, .inr (.inr (.inr (.inr (fun _ => none)))))) hf1 hx
        rw [k9] at z1 hne
        rw [gh_ne hne, z1] at hf4
        cases hf4
  rw [← hhe] at hG
  clear hhe
  refine lv_aload_n hx hb d_Ps_init_26 rfl (lv_at hl 0 rfl) ?_
  refine gh_new (ci := 1) (fs := [.long 0, .long 0, .long 0, .long 0]) hx hb htb in_Pl t_Pl ty_Pl hown (htb _ k_1_29) (htb _ k_1_31) (htb _ k_1_3) hK hG rfl (fun j hj => by rcases (show j = 0 ∨ j = 1 ∨ j = 2 ∨ j = 3 by omega) with rfl | rfl | rfl | rfl <;> rfl) (by decide) (by decide) d_Ps_init_27 (fun q8 H hf8 hG => ?_)
  have hq9 : (gh_up hh q8 (.inr (1, [.long 0, .long 0, .long 0, .long 0]))) q8 = some (.inr (1, [.long 0, .long 0, .long 0, .long 0])) := gh_self _ _ _
  replace hG : gh_P D vC b0 (gh_up hh q8 (.inr (1, [.long 0, .long 0, .long 0, .long 0]))) s.heap _ _ := hG
  refine W.widen (k := 3) (n := 32) (by decide) (by decide) ?_
  refine lv_dup hx hb d_Ps_init_30 rfl ?_
  refine lv_lconst (v := 1) hx hb d_Ps_init_31 (by decide) ?_
  refine lv_lconst (v := 0) hx hb d_Ps_init_32 (by decide) ?_
  refine lv_lconst (v := 0) hx hb d_Ps_init_33 (by decide) ?_
  refine lv_ldc2 (v := 1000) hx hb hown (htb _ k_1_32) d_Ps_init_34 ?_
  refine gh_cI (As := [.long 1, .long 0, .long 0, .long 1000]) (rest := [.ref q8, .ref a]) (xF_ok b0) hx hb hml hown hK hX hG (c_Pl_init hq9) (q_Pl_init htb ⟨by decide, by decide⟩) (htb _ k_1_33) (htb _ k_1_34) rfl (htb _ k_1_35) rfl hl.1 rfl (Nat.le_of_ble_eq_true rfl) d_Ps_init_37 ⟨by decide, by decide⟩ (fun v9 h9 H l9 hp9 hG => ?_) (fun _ _ _ _ hp9 _ => by cases hp9.1)
  obtain ⟨hv9, hh9⟩ := hp9
  cases hv9
  rw [hh9, gh_uu] at hG
  refine W.eq (g2 := F0 m 40 ls [.ref q8, .ref a]) rfl ?_
  refine W.widen (k := 3) (n := 32) (by decide) (by decide) ?_
  have hw1 := wPs_pl (e := .inr (1, [.long 1, .long 0, .long 0, .long 1000])) hw.1 hf8
  refine gh_cV (ci := 2) (As := [.ref q8]) (rest := []) (xF_ok b0) hx hb hml hown hK hX hG rfl hw1.1 (c_Ps_add hw1.1 hw1.2.1 hw1.2.2.1 hw1.2.2.2.1 hw1.2.2.2.2.1 hw1.2.2.2.2.2.1 hw1.2.2.2.2.2.2.1 hw1.2.2.2.2.2.2.2 (gh_self hh q8 (.inr (1, [.long 1, .long 0, .long 0, .long 1000]))) (by decide)) (q_Ps_add htb ⟨by decide, by decide⟩) (htb _ k_1_51) (htb _ k_1_52) (htb _ k_1_53) rfl hl.1 rfl (Nat.le_of_ble_eq_true rfl) d_Ps_init_40 ⟨by decide, by decide⟩ (fun v9 h9 H l9 hp9 hG => ?_) (fun _ _ _ _ hp9 _ => by cases hp9.1)
  obtain ⟨hv9, hh9⟩ := hp9
  cases hv9
  rw [hh9] at hG
  replace hw : wB cI cP h _ a q1 q4 1 (va_up (fun _ => none) 0 (some q8)) (upd (fun _ => 0) 0 (nI 0)) (va_up (fun _ => 0) 0 q8) (va_up (fun _ => 0) 0 0) (va_up (fun _ => 0) 0 1) (va_up (fun _ => 0) 0 0) (va_up (fun _ => 0) 0 0) (va_up (fun _ => 0) 0 1000) := wB_add (r := 0) hw hf8 (by decide) (by decide)
  replace hG : gh_P D vC b0 (m_addH cI cP (gh_up hh q8 (.inr (1, [.long 1, .long 0, .long 0, .long 1000]))) a q1 q4 0 (fun _ => none) (fun _ => 0) q8 0) s.heap H l9 := by
    have z9 : m_fst (fun i => m_one ((fun _ => 0) i) ((fun _ => 0) i) ((fun _ => 0) i) ((fun _ => 0) i) 1 0 0 1000) 0 = 0 := by decide +kernel
    rw [z9] at hG
    exact hG
  clear hw1
  generalize m_addH cI cP (gh_up hh q8 (.inr (1, [.long 1, .long 0, .long 0, .long 1000]))) a q1 q4 0 (fun _ => none) (fun _ => 0) q8 0 = hh at hw hG
  refine W.eq (g2 := F0 m 43 ls []) rfl ?_
  refine W.widen (k := 3) (n := 32) (by decide) (by decide) ?_
  refine lv_aload_n hx hb d_Ps_init_43 rfl (lv_at hl 0 rfl) ?_
  refine gh_new (ci := 1) (fs := [.long 0, .long 0, .long 0, .long 0]) hx hb htb in_Pl t_Pl ty_Pl hown (htb _ k_1_29) (htb _ k_1_31) (htb _ k_1_3) hK hG rfl (fun j hj => by rcases (show j = 0 ∨ j = 1 ∨ j = 2 ∨ j = 3 by omega) with rfl | rfl | rfl | rfl <;> rfl) (by decide) (by decide) d_Ps_init_44 (fun q10 H hf10 hG => ?_)
  have hq11 : (gh_up hh q10 (.inr (1, [.long 0, .long 0, .long 0, .long 0]))) q10 = some (.inr (1, [.long 0, .long 0, .long 0, .long 0])) := gh_self _ _ _
  replace hG : gh_P D vC b0 (gh_up hh q10 (.inr (1, [.long 0, .long 0, .long 0, .long 0]))) s.heap _ _ := hG
  refine W.widen (k := 4) (n := 36) (by decide) (by decide) ?_
  refine lv_dup hx hb d_Ps_init_47 rfl ?_
  refine lv_ldc2 (v := (-1)) hx hb hown (htb _ k_1_63) d_Ps_init_48 ?_
  refine lv_lconst (v := 0) hx hb d_Ps_init_51 (by decide) ?_
  refine lv_lconst (v := 0) hx hb d_Ps_init_52 (by decide) ?_
  refine lv_ldc2 (v := 1000) hx hb hown (htb _ k_1_32) d_Ps_init_53 ?_
  refine gh_cI (As := [.long (-1), .long 0, .long 0, .long 1000]) (rest := [.ref q10, .ref a]) (xF_ok b0) hx hb hml hown hK hX hG (c_Pl_init hq11) (q_Pl_init htb ⟨by decide, by decide⟩) (htb _ k_1_33) (htb _ k_1_34) rfl (htb _ k_1_35) rfl hl.1 rfl (Nat.le_of_ble_eq_true rfl) d_Ps_init_56 ⟨by decide, by decide⟩ (fun v9 h9 H l9 hp9 hG => ?_) (fun _ _ _ _ hp9 _ => by cases hp9.1)
  obtain ⟨hv9, hh9⟩ := hp9
  cases hv9
  rw [hh9, gh_uu] at hG
  refine W.eq (g2 := F0 m 59 ls [.ref q10, .ref a]) rfl ?_
  refine W.widen (k := 4) (n := 36) (by decide) (by decide) ?_
  have hw1 := wPs_pl (e := .inr (1, [.long (-1), .long 0, .long 0, .long 1000])) hw.1 hf10
  refine gh_cV (ci := 2) (As := [.ref q10]) (rest := []) (xF_ok b0) hx hb hml hown hK hX hG rfl hw1.1 (c_Ps_add hw1.1 hw1.2.1 hw1.2.2.1 hw1.2.2.2.1 hw1.2.2.2.2.1 hw1.2.2.2.2.2.1 hw1.2.2.2.2.2.2.1 hw1.2.2.2.2.2.2.2 (gh_self hh q10 (.inr (1, [.long (-1), .long 0, .long 0, .long 1000]))) (by decide)) (q_Ps_add htb ⟨by decide, by decide⟩) (htb _ k_1_51) (htb _ k_1_52) (htb _ k_1_53) rfl hl.1 rfl (Nat.le_of_ble_eq_true rfl) d_Ps_init_59 ⟨by decide, by decide⟩ (fun v9 h9 H l9 hp9 hG => ?_) (fun _ _ _ _ hp9 _ => by cases hp9.1)
  obtain ⟨hv9, hh9⟩ := hp9
  cases hv9
  rw [hh9] at hG
  replace hw : wB cI cP h _ a q1 q4 2 (va_up (va_up (fun _ => none) 0 (some q8)) 1 (some q10)) (upd (upd (fun _ => 0) 0 (nI 0)) 1 (nI 1)) (va_up (va_up (fun _ => 0) 0 q8) 1 q10) (va_up (va_up (fun _ => 0) 0 0) 1 1) (va_up (va_up (fun _ => 0) 0 1) 1 (-1)) (va_up (va_up (fun _ => 0) 0 0) 1 0) (va_up (va_up (fun _ => 0) 0 0) 1 0) (va_up (va_up (fun _ => 0) 0 1000) 1 1000) := wB_add (r := 1) hw hf10 (by decide) (by decide)
  replace hG : gh_P D vC b0 (m_addH cI cP (gh_up hh q10 (.inr (1, [.long (-1), .long 0, .long 0, .long 1000]))) a q1 q4 1 (va_up (fun _ => none) 0 (some q8)) (upd (fun _ => 0) 0 (nI 0)) q10 1) s.heap H l9 := by
    have z9 : m_fst (fun i => m_one (va_up (fun _ => 0) 0 1 i) (va_up (fun _ => 0) 0 0 i) (va_up (fun _ => 0) 0 0 i) (va_up (fun _ => 0) 0 1000 i) (-1) 0 0 1000) 1 = 1 := by decide +kernel
    rw [z9] at hG
    exact hG
  clear hw1
  generalize m_addH cI cP (gh_up hh q10 (.inr (1, [.long (-1), .long 0, .long 0, .long 1000]))) a q1 q4 1 (va_up (fun _ => none) 0 (some q8)) (upd (fun _ => 0) 0 (nI 0)) q10 1 = hh at hw hG
  refine W.eq (g2 := F0 m 62 ls []) rfl ?_
  refine W.widen (k := 4) (n := 36) (by decide) (by decide) ?_
  refine lv_aload_n hx hb d_Ps_init_62 rfl (lv_at hl 0 rfl) ?_
  refine gh_new (ci := 1) (fs := [.long 0, .long 0, .long 0, .long 0]) hx hb htb in_Pl t_Pl ty_Pl hown (htb _ k_1_29) (htb _ k_1_31) (htb _ k_1_3) hK hG rfl (fun j hj => by rcases (show j = 0 ∨ j = 1 ∨ j = 2 ∨ j = 3 by omega) with rfl | rfl | rfl | rfl <;> rfl) (by decide) (by decide) d_Ps_init_63 (fun q12 H hf12 hG => ?_)
  have hq13 : (gh_up hh q12 (.inr (1, [.long 0, .long 0, .long 0, .long 0]))) q12 = some (.inr (1, [.long 0, .long 0, .long 0, .long 0])) := gh_self _ _ _
  replace hG : gh_P D vC b0 (gh_up hh q12 (.inr (1, [.long 0, .long 0, .long 0, .long 0]))) s.heap _ _ := hG
  refine W.widen (k := 5) (n := 40) (by decide) (by decide) ?_
  refine lv_dup hx hb d_Ps_init_66 rfl ?_
  refine lv_lconst (v := 0) hx hb d_Ps_init_67 (by decide) ?_
  refine lv_lconst (v := 1) hx hb d_Ps_init_68 (by decide) ?_
  refine lv_lconst (v := 0) hx hb d_Ps_init_69 (by decide) ?_
  refine lv_ldc2 (v := 1000) hx hb hown (htb _ k_1_32) d_Ps_init_70 ?_
  refine gh_cI (As := [.long 0, .long 1, .long 0, .long 1000]) (rest := [.ref q12, .ref a]) (xF_ok b0) hx hb hml hown hK hX hG (c_Pl_init hq13) (q_Pl_init htb ⟨by decide, by decide⟩) (htb _ k_1_33) (htb _ k_1_34) rfl (htb _ k_1_35) rfl hl.1 rfl (Nat.le_of_ble_eq_true rfl) d_Ps_init_73 ⟨by decide, by decide⟩ (fun v9 h9 H l9 hp9 hG => ?_) (fun _ _ _ _ hp9 _ => by cases hp9.1)
  obtain ⟨hv9, hh9⟩ := hp9
  cases hv9
  rw [hh9, gh_uu] at hG
  refine W.eq (g2 := F0 m 76 ls [.ref q12, .ref a]) rfl ?_
  refine W.widen (k := 5) (n := 40) (by decide) (by decide) ?_
  have hw1 := wPs_pl (e := .inr (1, [.long 0, .long 1, .long 0, .long 1000])) hw.1 hf12
  refine gh_cV (ci := 2) (As := [.ref q12]) (rest := []) (xF_ok b0) hx hb hml hown hK hX hG rfl hw1.1 (c_Ps_add hw1.1 hw1.2.1 hw1.2.2.1 hw1.2.2.2.1 hw1.2.2.2.2.1 hw1.2.2.2.2.2.1 hw1.2.2.2.2.2.2.1 hw1.2.2.2.2.2.2.2 (gh_self hh q12 (.inr (1, [.long 0, .long 1, .long 0, .long 1000]))) (by decide)) (q_Ps_add htb ⟨by decide, by decide⟩) (htb _ k_1_51) (htb _ k_1_52) (htb _ k_1_53) rfl hl.1 rfl (Nat.le_of_ble_eq_true rfl) d_Ps_init_76 ⟨by decide, by decide⟩ (fun v9 h9 H l9 hp9 hG => ?_) (fun _ _ _ _ hp9 _ => by cases hp9.1)
  obtain ⟨hv9, hh9⟩ := hp9
  cases hv9
  rw [hh9] at hG
  replace hw : wB cI cP h _ a q1 q4 3 (va_up (va_up (va_up (fun _ => none) 0 (some q8)) 1 (some q10)) 2 (some q12)) (upd (upd (upd (fun _ => 0) 0 (nI 0)) 1 (nI 1)) 2 (nI 2)) (va_up (va_up (va_up (fun _ => 0) 0 q8) 1 q10) 2 q12) (va_up (va_up (va_up (fun _ => 0) 0 0) 1 1) 2 2) (va_up (va_up (va_up (fun _ => 0) 0 1) 1 (-1)) 2 0) (va_up (va_up (va_up (fun _ => 0) 0 0) 1 0) 2 1) (va_up (va_up (va_up (fun _ => 0) 0 0) 1 0) 2 0) (va_up (va_up (va_up (fun _ => 0) 0 1000) 1 1000) 2 1000) := wB_add (r := 2) hw hf12 (by decide) (by decide)
  replace hG : gh_P D vC b0 (m_addH cI cP (gh_up hh q12 (.inr (1, [.long 0, .long 1, .long 0, .long 1000]))) a q1 q4 2 (va_up (va_up (fun _ => none) 0 (some q8)) 1 (some q10)) (upd (upd (fun _ => 0) 0 (nI 0)) 1 (nI 1)) q12 2) s.heap H l9 := by
    have z9 : m_fst (fun i => m_one (va_up (va_up (fun _ => 0) 0 1) 1 (-1) i) (va_up (va_up (fun _ => 0) 0 0) 1 0 i) (va_up (va_up (fun _ => 0) 0 0) 1 0 i) (va_up (va_up (fun _ => 0) 0 1000) 1 1000 i) 0 1 0 1000) 2 = 2 := by decide +kernel
    rw [z9] at hG
    exact hG
  clear hw1
  generalize m_addH cI cP (gh_up hh q12 (.inr (1, [.long 0, .long 1, .long 0, .long 1000]))) a q1 q4 2 (va_up (va_up (fun _ => none) 0 (some q8)) 1 (some q10)) (upd (upd (fun _ => 0) 0 (nI 0)) 1 (nI 1)) q12 2 = hh at hw hG
  refine W.eq (g2 := F0 m 79 ls []) rfl ?_
  refine W.widen (k := 5) (n := 40) (by decide) (by decide) ?_
  refine lv_aload_n hx hb d_Ps_init_79 rfl (lv_at hl 0 rfl) ?_
  refine gh_new (ci := 1) (fs := [.long 0, .long 0, .long 0, .long 0]) hx hb htb in_Pl t_Pl ty_Pl hown (htb _ k_1_29) (htb _ k_1_31) (htb _ k_1_3) hK hG rfl (fun j hj => by rcases (show j = 0 ∨ j = 1 ∨ j = 2 ∨ j = 3 by omega) with rfl | rfl | rfl | rfl <;> rfl) (by decide) (by decide) d_Ps_init_80 (fun q14 H hf14 hG => ?_)
  have hq15 : (gh_up hh q14 (.inr (1, [.long 0, .long 0, .long 0, .long 0]))) q14 = some (.inr (1, [.long 0, .long 0, .long 0, .long 0])) := gh_self _ _ _
  replace hG : gh_P D vC b0 (gh_up hh q14 (.inr (1, [.long 0, .long 0, .long 0, .long 0]))) s.heap _ _ := hG
  refine W.widen (k := 6) (n := 44) (by decide) (by decide) ?_
  refine lv_dup hx hb d_Ps_init_83 rfl ?_
  refine lv_lconst (v := 0) hx hb d_Ps_init_84 (by decide) ?_
  refine lv_ldc2 (v := (-1)) hx hb hown (htb _ k_1_63) d_Ps_init_85 ?_
  refine lv_lconst (v := 0) hx hb d_Ps_init_88 (by decide) ?_
  refine lv_ldc2 (v := 1000) hx hb hown (htb _ k_1_32) d_Ps_init_89 ?_
  refine gh_cI (As := [.long 0, .long (-1), .long 0, .long 1000]) (rest := [.ref q14, .ref a]) (xF_ok b0) hx hb hml hown hK hX hG (c_Pl_init hq15) (q_Pl_init htb ⟨by decide, by decide⟩) (htb _ k_1_33) (htb _ k_1_34) rfl (htb _ k_1_35) rfl hl.1 rfl (Nat.le_of_ble_eq_true rfl) d_Ps_init_92 ⟨by decide, by decide⟩ (fun v9 h9 H l9 hp9 hG => ?_) (fun _ _ _ _ hp9 _ => by cases hp9.1)
  obtain ⟨hv9, hh9⟩ := hp9
  cases hv9
  rw [hh9, gh_uu] at hG
  refine W.eq (g2 := F0 m 95 ls [.ref q14, .ref a]) rfl ?_
  refine W.widen (k := 6) (n := 44) (by decide) (by decide) ?_
  have hw1 := wPs_pl (e := .inr (1, [.long 0, .long (-1), .long 0, .long 1000])) hw.1 hf14
  refine gh_cV (ci := 2) (As := [.ref q14]) (rest := []) (xF_ok b0) hx hb hml hown hK hX hG rfl hw1.1 (c_Ps_add hw1.1 hw1.2.1 hw1.2.2.1 hw1.2.2.2.1 hw1.2.2.2.2.1 hw1.2.2.2.2.2.1 hw1.2.2.2.2.2.2.1 hw1.2.2.2.2.2.2.2 (gh_self hh q14 (.inr (1, [.long 0, .long (-1), .long 0, .long 1000]))) (by decide)) (q_Ps_add htb ⟨by decide, by decide⟩) (htb _ k_1_51) (htb _ k_1_52) (htb _ k_1_53) rfl hl.1 rfl (Nat.le_of_ble_eq_true rfl) d_Ps_init_95 ⟨by decide, by decide⟩ (fun v9 h9 H l9 hp9 hG => ?_) (fun _ _ _ _ hp9 _ => by cases hp9.1)
  obtain ⟨hv9, hh9⟩ := hp9
  cases hv9
  rw [hh9] at hG
  replace hw : wB cI cP h _ a q1 q4 4 (va_up (va_up (va_up (va_up (fun _ => none) 0 (some q8)) 1 (some q10)) 2 (some q12)) 3 (some q14)) (upd (upd (upd (upd (fun _ => 0) 0 (nI 0)) 1 (nI 1)) 2 (nI 2)) 3 (nI 3)) (va_up (va_up (va_up (va_up (fun _ => 0) 0 q8) 1 q10) 2 q12) 3 q14) (va_up (va_up (va_up (va_up (fun _ => 0) 0 0) 1 1) 2 2) 3 3) (va_up (va_up (va_up (va_up (fun _ => 0) 0 1) 1 (-1)) 2 0) 3 0) (va_up (va_up (va_up (va_up (fun _ => 0) 0 0) 1 0) 2 1) 3 (-1)) (va_up (va_up (va_up (va_up (fun _ => 0) 0 0) 1 0) 2 0) 3 0) (va_up (va_up (va_up (va_up (fun _ => 0) 0 1000) 1 1000) 2 1000) 3 1000) := wB_add (r := 3) hw hf14 (by decide) (by decide)
  replace hG : gh_P D vC b0 (m_addH cI cP (gh_up hh q14 (.inr (1, [.long 0, .long (-1), .long 0, .long 1000]))) a q1 q4 3 (va_up (va_up (va_up (fun _ => none) 0 (some q8)) 1 (some q10)) 2 (some q12)) (upd (upd (upd (fun _ => 0) 0 (nI 0)) 1 (nI 1)) 2 (nI 2)) q14 3) s.heap H l9 := by
    have z9 : m_fst (fun i => m_one (va_up (va_up (va_up (fun _ => 0) 0 1) 1 (-1)) 2 0 i) (va_up (va_up (va_up (fun _ => 0) 0 0) 1 0) 2 1 i) (va_up (va_up (va_up (fun _ => 0) 0 0) 1 0) 2 0 i) (va_up (va_up (va_up (fun _ => 0) 0 1000) 1 1000) 2 1000 i) 0 (-1) 0 1000) 3 = 3 := by decide +kernel
    rw [z9] at hG
    exact hG
  clear hw1
  generalize m_addH cI cP (gh_up hh q14 (.inr (1, [.long 0, .long (-1), .long 0, .long 1000]))) a q1 q4 3 (va_up (va_up (va_up (fun _ => none) 0 (some q8)) 1 (some q10)) 2 (some q12)) (upd (upd (upd (fun _ => 0) 0 (nI 0)) 1 (nI 1)) 2 (nI 2)) q14 3 = hh at hw hG
  refine W.eq (g2 := F0 m 98 ls []) rfl ?_
  refine W.widen (k := 6) (n := 44) (by decide) (by decide) ?_
  refine lv_aload_n hx hb d_Ps_init_98 rfl (lv_at hl 0 rfl) ?_
  refine gh_new (ci := 1) (fs := [.long 0, .long 0, .long 0, .long 0]) hx hb htb in_Pl t_Pl ty_Pl hown (htb _ k_1_29) (htb _ k_1_31) (htb _ k_1_3) hK hG rfl (fun j hj => by rcases (show j = 0 ∨ j = 1 ∨ j = 2 ∨ j = 3 by omega) with rfl | rfl | rfl | rfl <;> rfl) (by decide) (by decide) d_Ps_init_99 (fun q16 H hf16 hG => ?_)
  have hq17 : (gh_up hh q16 (.inr (1, [.long 0, .long 0, .long 0, .long 0]))) q16 = some (.inr (1, [.long 0, .long 0, .long 0, .long 0])) := gh_self _ _ _
  replace hG : gh_P D vC b0 (gh_up hh q16 (.inr (1, [.long 0, .long 0, .long 0, .long 0]))) s.heap _ _ := hG
  refine W.widen (k := 7) (n := 48) (by decide) (by decide) ?_
  refine lv_dup hx hb d_Ps_init_102 rfl ?_
  refine lv_lconst (v := 0) hx hb d_Ps_init_103 (by decide) ?_
  refine lv_lconst (v := 0) hx hb d_Ps_init_104 (by decide) ?_
  refine lv_lconst (v := 1) hx hb d_Ps_init_105 (by decide) ?_
  refine lv_ldc2 (v := 1000) hx hb hown (htb _ k_1_32) d_Ps_init_106 ?_
  refine gh_cI (As := [.long 0, .long 0, .long 1, .long 1000]) (rest := [.ref q16, .ref a]) (xF_ok b0) hx hb hml hown hK hX hG (c_Pl_init hq17) (q_Pl_init htb ⟨by decide, by decide⟩) (htb _ k_1_33) (htb _ k_1_34) rfl (htb _ k_1_35) rfl hl.1 rfl (Nat.le_of_ble_eq_true rfl) d_Ps_init_109 ⟨by decide, by decide⟩ (fun v9 h9 H l9 hp9 hG => ?_) (fun _ _ _ _ hp9 _ => by cases hp9.1)
  obtain ⟨hv9, hh9⟩ := hp9
  cases hv9
  rw [hh9, gh_uu] at hG
  refine W.eq (g2 := F0 m 112 ls [.ref q16, .ref a]) rfl ?_
  refine W.widen (k := 7) (n := 48) (by decide) (by decide) ?_
  have hw1 := wPs_pl (e := .inr (1, [.long 0, .long 0, .long 1, .long 1000])) hw.1 hf16
  refine gh_cV (ci := 2) (As := [.ref q16]) (rest := []) (xF_ok b0) hx hb hml hown hK hX hG rfl hw1.1 (c_Ps_add hw1.1 hw1.2.1 hw1.2.2.1 hw1.2.2.2.1 hw1.2.2.2.2.1 hw1.2.2.2.2.2.1 hw1.2.2.2.2.2.2.1 hw1.2.2.2.2.2.2.2 (gh_self hh q16 (.inr (1, [.long 0, .long 0, .long 1, .long 1000]))) (by decide)) (q_Ps_add htb ⟨by decide, by decide⟩) (htb _ k_1_51) (htb _ k_1_52) (htb _ k_1_53) rfl hl.1 rfl (Nat.le_of_ble_eq_true rfl) d_Ps_init_112 ⟨by decide, by decide⟩ (fun v9 h9 H l9 hp9 hG => ?_) (fun _ _ _ _ hp9 _ => by cases hp9.1)
  obtain ⟨hv9, hh9⟩ := hp9
  cases hv9
  rw [hh9] at hG
  replace hw : wB cI cP h _ a q1 q4 5 (va_up (va_up (va_up (va_up (va_up (fun _ => none) 0 (some q8)) 1 (some q10)) 2 (some q12)) 3 (some q14)) 4 (some q16)) (upd (upd (upd (upd (upd (fun _ => 0) 0 (nI 0)) 1 (nI 1)) 2 (nI 2)) 3 (nI 3)) 4 (nI 4)) (va_up (va_up (va_up (va_up (va_up (fun _ => 0) 0 q8) 1 q10) 2 q12) 3 q14) 4 q16) (va_up (va_up (va_up (va_up (va_up (fun _ => 0) 0 0) 1 1) 2 2) 3 3) 4 4) (va_up (va_up (va_up (va_up (va_up (fun _ => 0) 0 1) 1 (-1)) 2 0) 3 0) 4 0) (va_up (va_up (va_up (va_up (va_up (fun _ => 0) 0 0) 1 0) 2 1) 3 (-1)) 4 0) (va_up (va_up (va_up (va_up (va_up (fun _ => 0) 0 0) 1 0) 2 0) 3 0) 4 1) (va_up (va_up (va_up (va_up (va_up (fun _ => 0) 0 1000) 1 1000) 2 1000) 3 1000) 4 1000) := wB_add (r := 4) hw hf16 (by decide) (by decide)
  replace hG : gh_P D vC b0 (m_addH cI cP (gh_up hh q16 (.inr (1, [.long 0, .long 0, .long 1, .long 1000]))) a q1 q4 4 (va_up (va_up (va_up (va_up (fun _ => none) 0 (some q8)) 1 (some q10)) 2 (some q12)) 3 (some q14)) (upd (upd (upd (upd (fun _ => 0) 0 (nI 0)) 1 (nI 1)) 2 (nI 2)) 3 (nI 3)) q16 4) s.heap H l9 := by
    have z9 : m_fst (fun i => m_one (va_up (va_up (va_up (va_up (fun _ => 0) 0 1) 1 (-1)) 2 0) 3 0 i) (va_up (va_up (va_up (va_up (fun _ => 0) 0 0) 1 0) 2 1) 3 (-1) i) (va_up (va_up (va_up (va_up (fun _ => 0) 0 0) 1 0) 2 0) 3 0 i) (va_up (va_up (va_up (va_up (fun _ => 0) 0 1000) 1 1000) 2 1000) 3 1000 i) 0 0 1 1000) 4 = 4 := by decide +kernel
    rw [z9] at hG
    exact hG
  clear hw1
  generalize m_addH cI cP (gh_up hh q16 (.inr (1, [.long 0, .long 0, .long 1, .long 1000]))) a q1 q4 4 (va_up (va_up (va_up (va_up (fun _ => none) 0 (some q8)) 1 (some q10)) 2 (some q12)) 3 (some q14)) (upd (upd (upd (upd (fun _ => 0) 0 (nI 0)) 1 (nI 1)) 2 (nI 2)) 3 (nI 3)) q16 4 = hh at hw hG
  refine W.eq (g2 := F0 m 115 ls []) rfl ?_
  refine W.widen (k := 7) (n := 48) (by decide) (by decide) ?_
  refine lv_aload_n hx hb d_Ps_init_115 rfl (lv_at hl 0 rfl) ?_
  refine gh_new (ci := 1) (fs := [.long 0, .long 0, .long 0, .long 0]) hx hb htb in_Pl t_Pl ty_Pl hown (htb _ k_1_29) (htb _ k_1_31) (htb _ k_1_3) hK hG rfl (fun j hj => by rcases (show j = 0 ∨ j = 1 ∨ j = 2 ∨ j = 3 by omega) with rfl | rfl | rfl | rfl <;> rfl) (by decide) (by decide) d_Ps_init_116 (fun q18 H hf18 hG => ?_)
  have hq19 : (gh_up hh q18 (.inr (1, [.long 0, .long 0, .long 0, .long 0]))) q18 = some (.inr (1, [.long 0, .long 0, .long 0, .long 0])) := gh_self _ _ _
  replace hG : gh_P D vC b0 (gh_up hh q18 (.inr (1, [.long 0, .long 0, .long 0, .long 0]))) s.heap _ _ := hG
  refine W.widen (k := 8) (n := 52) (by decide) (by decide) ?_
  refine lv_dup hx hb d_Ps_init_119 rfl ?_
  refine lv_lconst (v := 0) hx hb d_Ps_init_120 (by decide) ?_
  refine lv_lconst (v := 0) hx hb d_Ps_init_121 (by decide) ?_
  refine lv_ldc2 (v := (-1)) hx hb hown (htb _ k_1_63) d_Ps_init_122 ?_
  refine lv_ldc2 (v := 1000) hx hb hown (htb _ k_1_32) d_Ps_init_125 ?_
  refine gh_cI (As := [.long 0, .long 0, .long (-1), .long 1000]) (rest := [.ref q18, .ref a]) (xF_ok b0) hx hb hml hown hK hX hG (c_Pl_init hq19) (q_Pl_init htb ⟨by decide, by decide⟩) (htb _ k_1_33) (htb _ k_1_34) rfl (htb _ k_1_35) rfl hl.1 rfl (Nat.le_of_ble_eq_true rfl) d_Ps_init_128 ⟨by decide, by decide⟩ (fun v9 h9 H l9 hp9 hG => ?_) (fun _ _ _ _ hp9 _ => by cases hp9.1)
  obtain ⟨hv9, hh9⟩ := hp9
  cases hv9
  rw [hh9, gh_uu] at hG
  refine W.eq (g2 := F0 m 131 ls [.ref q18, .ref a]) rfl ?_
  refine W.widen (k := 8) (n := 52) (by decide) (by decide) ?_
  have hw1 := wPs_pl (e := .inr (1, [.long 0, .long 0, .long (-1), .long 1000])) hw.1 hf18
  refine gh_cV (ci := 2) (As := [.ref q18]) (rest := []) (xF_ok b0) hx hb hml hown hK hX hG rfl hw1.1 (c_Ps_add hw1.1 hw1.2.1 hw1.2.2.1 hw1.2.2.2.1 hw1.2.2.2.2.1 hw1.2.2.2.2.2.1 hw1.2.2.2.2.2.2.1 hw1.2.2.2.2.2.2.2 (gh_self hh q18 (.inr (1, [.long 0, .long 0, .long (-1), .long 1000]))) (by decide)) (q_Ps_add htb ⟨by decide, by decide⟩) (htb _ k_1_51) (htb _ k_1_52) (htb _ k_1_53) rfl hl.1 rfl (Nat.le_of_ble_eq_true rfl) d_Ps_init_131 ⟨by decide, by decide⟩ (fun v9 h9 H l9 hp9 hG => ?_) (fun _ _ _ _ hp9 _ => by cases hp9.1)
  obtain ⟨hv9, hh9⟩ := hp9
  cases hv9
  rw [hh9] at hG
  replace hw : wB cI cP h _ a q1 q4 6 (va_up (va_up (va_up (va_up (va_up (va_up (fun _ => none) 0 (some q8)) 1 (some q10)) 2 (some q12)) 3 (some q14)) 4 (some q16)) 5 (some q18)) (upd (upd (upd (upd (upd (upd (fun _ => 0) 0 (nI 0)) 1 (nI 1)) 2 (nI 2)) 3 (nI 3)) 4 (nI 4)) 5 (nI 5)) (va_up (va_up (va_up (va_up (va_up (va_up (fun _ => 0) 0 q8) 1 q10) 2 q12) 3 q14) 4 q16) 5 q18) (va_up (va_up (va_up (va_up (va_up (va_up (fun _ => 0) 0 0) 1 1) 2 2) 3 3) 4 4) 5 5) (va_up (va_up (va_up (va_up (va_up (va_up (fun _ => 0) 0 1) 1 (-1)) 2 0) 3 0) 4 0) 5 0) (va_up (va_up (va_up (va_up (va_up (va_up (fun _ => 0) 0 0) 1 0) 2 1) 3 (-1)) 4 0) 5 0) (va_up (va_up (va_up (va_up (va_up (va_up (fun _ => 0) 0 0) 1 0) 2 0) 3 0) 4 1) 5 (-1)) (va_up (va_up (va_up (va_up (va_up (va_up (fun _ => 0) 0 1000) 1 1000) 2 1000) 3 1000) 4 1000) 5 1000) := wB_add (r := 5) hw hf18 (by decide) (by decide)
  replace hG : gh_P D vC b0 (m_addH cI cP (gh_up hh q18 (.inr (1, [.long 0, .long 0, .long (-1), .long 1000]))) a q1 q4 5 (va_up (va_up (va_up (va_up (va_up (fun _ => none) 0 (some q8)) 1 (some q10)) 2 (some q12)) 3 (some q14)) 4 (some q16)) (upd (upd (upd (upd (upd (fun _ => 0) 0 (nI 0)) 1 (nI 1)) 2 (nI 2)) 3 (nI 3)) 4 (nI 4)) q18 5) s.heap H l9 := by
    have z9 : m_fst (fun i => m_one (va_up (va_up (va_up (va_up (va_up (fun _ => 0) 0 1) 1 (-1)) 2 0) 3 0) 4 0 i) (va_up (va_up (va_up (va_up (va_up (fun _ => 0) 0 0) 1 0) 2 1) 3 (-1)) 4 0 i) (va_up (va_up (va_up (va_up (va_up (fun _ => 0) 0 0) 1 0) 2 0) 3 0) 4 1 i) (va_up (va_up (va_up (va_up (va_up (fun _ => 0) 0 1000) 1 1000) 2 1000) 3 1000) 4 1000 i) 0 0 (-1) 1000) 5 = 5 := by decide +kernel
    rw [z9] at hG
    exact hG
  clear hw1
  generalize m_addH cI cP (gh_up hh q18 (.inr (1, [.long 0, .long 0, .long (-1), .long 1000]))) a q1 q4 5 (va_up (va_up (va_up (va_up (va_up (fun _ => none) 0 (some q8)) 1 (some q10)) 2 (some q12)) 3 (some q14)) 4 (some q16)) (upd (upd (upd (upd (upd (fun _ => 0) 0 (nI 0)) 1 (nI 1)) 2 (nI 2)) 3 (nI 3)) 4 (nI 4)) q18 5 = hh at hw hG
  refine W.eq (g2 := F0 m 134 ls []) rfl ?_
  refine W.widen (k := 8) (n := 52) (by decide) (by decide) ?_
  exact gh_vret hx hb hr hlk hG d_Ps_init_134 ⟨rfl, q1, q4, _, _, _, _, _, _, _, _, hw, by decide, by decide +kernel⟩

end
