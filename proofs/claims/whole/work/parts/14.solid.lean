/-- the cells of a convex solid, so far -/
def m_cvx (set : Int32) : Nat → Nat → Int64
  | 0 => fun _ => 0
  | k + 1 => if nI k &&& set = set then vp_updL (m_cvx set k) (k / 64) (m_cvx set k (k / 64) ||| ((1 : Int64) <<< (Int32.toInt64 (nI k) &&& 63))) else m_cvx set k
def m_jn (w : Nat) (a b : Int64) : Int64 := if w = 0 then a ||| b else if w = 1 then a &&& b else if w = 2 then a &&& (b ^^^ (-1)) else a ^^^ b
def m_has (f : Nat → Int64) (ce : Nat) : Bool := decide (¬ (f (ce / 64) >>> (Int32.toInt64 (nI ce) &&& 63)) &&& 1 = 0)
theorem up_in {f : Nat → Int64} {k : Nat} {x : Int64} {g : Nat → Int64} (h : ∀ j, j < k → f j = g j) (hx : x = g k) : ∀ j, j < k + 1 → vp_updL f k x j = g j := by
  intro j hj
  by_cases hjk : j = k
  · subst hjk; rw [pk_uLs]; exact hx
  · rw [pk_uLn hjk]; exact h j (by omega)
theorem up_out {f : Nat → Int64} {k : Nat} {x : Int64} {g : Nat → Int64} (h : ∀ j, k ≤ j → f j = g j) : ∀ j, k + 1 ≤ j → vp_updL f k x j = g j := by
  intro j hj
  rw [pk_uLn (by omega)]; exact h j (by omega)
theorem cvx_in {f : Nat → Int64} {k : Nat} {set : Int32} (hk : k < 256) (h : ∀ j, j < 4 → f j = m_cvx set k j) (hc : nI k &&& set = set) : ∀ j, j < 4 → vp_updL f (k / 64) (f (k / 64) ||| ((1 : Int64) <<< (Int32.toInt64 (nI k) &&& 63))) j = m_cvx set (k + 1) j := by
  intro j hj
  simp only [m_cvx, if_pos hc]
  by_cases hjk : j = k / 64
  · subst hjk; rw [pk_uLs, pk_uLs, h _ (by omega)]
  · rw [pk_uLn hjk, pk_uLn hjk]; exact h j hj
theorem cvx_out {f : Nat → Int64} {k : Nat} {set : Int32} (h : ∀ j, j < 4 → f j = m_cvx set k j) (hc : ¬ nI k &&& set = set) : ∀ j, j < 4 → f j = m_cvx set (k + 1) j := by
  intro j hj
  simp only [m_cvx, if_neg hc]
  exact h j hj

section
variable {l : Launch} {D : va_G} {cI cJ cP cS : ClassId} {b0 : Nat} {h : gh_M}

set_option maxHeartbeats 4000000 in
set_option maxRecDepth 100000 in
/-- Solid() -/
theorem c_So_init {a : Nat} (ha : h a = some (.inr (4, [.null]))) : gh_C l D vC (tZ cI cJ cP cS) (xF b0) b0 y_So_init w_So_init ({ frames := 1, cells := 1, slots := 4, locals := 12 }) [.ref a] h (fun oc h2 => oc = .returned none ∧ ∃ w, h w = none ∧ h2 = gh_up (gh_up h w (.inl (cJ, 4, .inr (.inl (fun _ => 0))))) a (.inr (4, [.ref w]))) := by
  refine gh_ofW (by decide) (Nat.le_of_ble_eq_true rfl) ?_
  intro p e s m below meth c ls hctx hno hl hG hK hX
  obtain ⟨hx, hb, hr, hml, hown, hlk, hts, hnm⟩ := hctx
  have htb : ∀ w ∈ tB, w.before _ s = true := fun w hw => hts w (List.mem_cons_of_mem _ hw)
  replace hl : lv_has ls 1 [(0, .ref a)] := hl
  refine lv_aload_n hx hb d_So_init_0 rfl (lv_at hl 0 rfl) ?_
  refine W.objInit hx hb hown (htb _ k_1_80) (htb _ k_1_21) (htb _ k_1_22) rfl (by rw [hml]; exact hl.1) rfl d_So_init_1 (Nat.le_of_ble_eq_true rfl) (Nat.le_of_ble_eq_true rfl) ?_
  refine W.eq (g2 := F0 m 4 ls []) rfl ?_
  refine lv_aload_n hx hb d_So_init_4 rfl (lv_at hl 0 rfl) ?_
  refine lv_iconst (v := 4) hx hb d_So_init_5 (by decide) ?_
  refine gh_newa (atype := .long) (a0 := (4, .inr (.inl (fun _ => 0)))) hx hb (htb _ k_1_85) rfl hK hG 1 rfl (fun _ => rfl) (by decide) rfl (by decide) (by decide) (by decide) d_So_init_6 (fun q1 H hf1 hG => ?_)
  have hq2 : (gh_up h q1 (.inl (cJ, 4, .inr (.inl (fun _ => 0))))) q1 = some (.inl (cJ, 4, .inr (.inl (fun _ => 0)))) := gh_self _ _ _
  replace hG : gh_P D vC b0 (gh_up h q1 (.inl (cJ, 4, .inr (.inl (fun _ => 0))))) s.heap _ _ := hG
  have ha_2 : (gh_up h q1 (.inl (cJ, 4, .inr (.inl (fun _ => 0))))) a = some (.inr (4, [.null])) := gh_keepN hf1 ha
  refine W.widen (k := 1) (n := 4) (by decide) (by decide) ?_
  refine gh_putF (ci := 4) (ty := .array (.long)) hx hb htb in_So t_So ty_So nm_So hown hK hG ha_2 rfl 0 (by decide) (htb _ k_1_81) (fun _ h9 => h9) rfl hnm rfl (by decide +kernel) rfl rfl (Nat.le_of_ble_eq_true rfl) d_So_init_8 (fun H l9 hG => ?_)
  have hq3 : (gh_up (gh_up h q1 (.inl (cJ, 4, .inr (.inl (fun _ => 0))))) a (.inr (4, [.ref q1]))) a = some (.inr (4, [.ref q1])) := gh_self _ _ _
  replace hG : gh_P D vC b0 (gh_up (gh_up h q1 (.inl (cJ, 4, .inr (.inl (fun _ => 0))))) a (.inr (4, [.ref q1]))) s.heap _ _ := hG
  have hq2_3 : (gh_up (gh_up h q1 (.inl (cJ, 4, .inr (.inl (fun _ => 0))))) a (.inr (4, [.ref q1]))) q1 = some (.inl (cJ, 4, .inr (.inl (fun _ => 0)))) := gh_keep ha_2 hq2 (by simp)
  exact gh_vret hx hb hr hlk hG d_So_init_11 ⟨rfl, q1, hf1, rfl⟩

set_option maxHeartbeats 4000000 in
set_option maxRecDepth 100000 in
/-- has -/
theorem c_So_has {a w : Nat} {f : Nat → Int64} (ha : h a = some (.inr (4, [.ref w]))) (hw : h w = some (.inl (cJ, 4, .inr (.inl f)))) {ce : Nat} (hce : ce < 256) : gh_C l D vC (tZ cI cJ cP cS) (xF b0) b0 y_So_has w_So_has ({ frames := 0, cells := 0, slots := 0, locals := 0 }) [.ref a, .int (nI ce)] h (rI (m_b (m_has f ce)) h) := by
  refine gh_ofW (by decide) (Nat.le_of_ble_eq_true rfl) ?_
  intro p e s m below meth c ls hctx hno hl hG hK hX
  obtain ⟨hx, hb, hr, hml, hown, hlk, hts, hnm⟩ := hctx
  have htb : ∀ w ∈ tB, w.before _ s = true := fun w hw => hts w (List.mem_cons_of_mem _ hw)
  replace hl : lv_has ls 2 [(0, .ref a), (1, .int (nI ce))] := hl
  refine lv_aload_n hx hb d_So_has_0 rfl (lv_at hl 0 rfl) ?_
  refine gh_get (ci := 4) hx hb htb in_So hown hK hG ha rfl 0 (by decide) (htb _ k_1_81) (fun _ h9 => h9) rfl d_So_has_1 ?_
  refine lv_iload_n hx hb d_So_has_4 rfl (lv_at hl 1 rfl) ?_
  refine lv_bipush (v := 6) hx hb d_So_has_5 (by decide) ?_
  refine lv_ishr hx hb d_So_has_7 ?_
  rw [show nI ce >>> ((6 : Int32) &&& 31) = nI (ce / 64) from pk_shrN (by omega) _ 6 (by decide)]
  refine gh_lald (v := f (ce / 64)) hx hb hK hG 1 hw rfl (vp_in_nI (by omega) (by decide)) (by rw [nI_clamp (by omega)]) d_So_has_8 ?_
  refine lv_iload_n hx hb d_So_has_9 rfl (lv_at hl 1 rfl) ?_
  refine lv_lshr (v := ((f (ce / 64)) >>> (Int32.toInt64 (nI ce) &&& 63))) hx hb d_So_has_10 rfl ?_
  refine lv_lconst (v := 1) hx hb d_So_has_11 (by decide) ?_
  refine lv_land hx hb d_So_has_12 ?_
  refine lv_lconst (v := 0) hx hb d_So_has_13 (by decide) ?_
  refine W.lcmp hx hb d_So_has_14 ?_
  refine lv_if_eq (tgt := 22) hx hb d_So_has_15 (by decide) (fun hc15 => ?_) (fun hc15 => ?_)
  · skip
    rw [lg_cmp_eq] at hc15
    refine lv_iconst (v := 0) hx hb d_So_has_22 (by decide) ?_
    exact gh_iret hx hb hr hlk rfl hG d_So_has_23 ⟨by simp_all [m_has, m_b], rfl⟩
  · skip
    rw [lg_cmp_eq] at hc15
    refine lv_iconst (v := 1) hx hb d_So_has_18 (by decide) ?_
    refine lv_goto (tgt := 23) hx hb d_So_has_19 (by decide) ?_
    exact gh_iret hx hb hr hlk rfl hG d_So_has_23 ⟨by simp_all [m_has, m_b], rfl⟩

set_option maxHeartbeats 4000000 in
set_option maxRecDepth 100000 in
/-- becomeConvex -/
theorem c_So_becomeConvex {a w : Nat} {f : Nat → Int64} (ha : h a = some (.inr (4, [.ref w]))) (hw : h w = some (.inl (cJ, 4, .inr (.inl f)))) {set : Int32} : gh_C l D vC (tZ cI cJ cP cS) (xF b0) b0 y_So_becomeConvex w_So_becomeConvex ({ frames := 0, cells := 0, slots := 0, locals := 0 }) [.ref a, .int set] h (fun oc h2 => oc = .returned none ∧ ∃ f2 : Nat → Int64, (∀ j, j < 4 → f2 j = m_cvx set 256 j) ∧ h2 = gh_up h w (.inl (cJ, 4, .inr (.inl f2)))) := by
  refine gh_ofW (by decide) (Nat.le_of_ble_eq_true rfl) ?_
  intro p e s m below meth c ls hctx hno hl hG hK hX
  obtain ⟨hx, hb, hr, hml, hown, hlk, hts, hnm⟩ := hctx
  have htb : ∀ w ∈ tB, w.before _ s = true := fun w hw => hts w (List.mem_cons_of_mem _ hw)
  replace hl : lv_has ls 3 [(0, .ref a), (1, .int set)] := hl
  refine lv_iconst (v := 0) hx hb d_So_becomeConvex_0 (by decide) ?_
  refine lv_istore_n (lv' := [(2, .int 0), (0, .ref a), (1, .int set)]) hx hb d_So_becomeConvex_1 rfl hl (by decide) rfl (fun ls hl => ?_)
  refine gh_gen hG (fun H l9 hG => ?_)
  refine lp_upH (α := Nat → Int64) (G := fun ls H l9 => W p l e _ s m _ below meth c H l9 _ _ _ (F0 m 2 ls [])) 4 (fun k1 f1 ls H l9 => (∀ j, j < k1 → f1 j = 0) ∧ lv_has ls 3 [(0, .ref a), (1, .int set), (2, .int (nI k1))] ∧ gh_P D vC b0 (gh_up h w (.inl (cJ, 4, .inr (.inl f1)))) s.heap H l9) ?_ 0 f ls H l9 (Nat.zero_le _) ⟨(fun j hj => absurd hj (Nat.not_lt_zero j)), (lv_sub hl [1, 2, 0] rfl), (by rw [gh_id hw]; exact hG)⟩
  intro k1 f1 ls H l9 hka hI iha
  obtain ⟨hi1a, hl, hG⟩ := hI
  have ha_f1 : (gh_up h w (.inl (cJ, 4, .inr (.inl f1)))) a = some (.inr (4, [.ref w])) := gh_keep hw ha (by simp)
  have hw_f1 : (gh_up h w (.inl (cJ, 4, .inr (.inl f1)))) w = some (.inl (cJ, 4, .inr (.inl f1))) := gh_self _ _ _
  refine lv_iload_n hx hb d_So_becomeConvex_2 rfl (lv_at hl 2 rfl) ?_
  refine lv_iconst (v := 4) hx hb d_So_becomeConvex_3 (by decide) ?_
  refine lv_icmp_ge (tgt := 20) hx hb d_So_becomeConvex_4 (by decide) (fun hc4 => ?_) (fun hc4 => ?_)
  · skip
    replace hc4 : 4 ≤ k1 := (nc_le (a := 4) (b := k1) (by omega) (by omega) rfl rfl).mp hc4
    refine lv_iconst (v := 0) hx hb d_So_becomeConvex_20 (by decide) ?_
    refine lv_istore_n (lv' := [(2, .int 0), (0, .ref a), (1, .int set)]) hx hb d_So_becomeConvex_21 rfl hl (by decide) rfl (fun ls hl => ?_)
    refine gh_gen hG (fun H l9 hG => ?_)
    refine lp_upH (α := Nat → Int64) (G := fun ls H l9 => W p l e _ s m _ below meth c H l9 _ _ _ (F0 m 22 ls [])) 256 (fun k2 f2 ls H l9 => (∀ j, j < 4 → f2 j = m_cvx set k2 j) ∧ lv_has ls 3 [(0, .ref a), (1, .int set), (2, .int (nI k2))] ∧ gh_P D vC b0 (gh_up h w (.inl (cJ, 4, .inr (.inl f2)))) s.heap H l9) ?_ 0 f1 ls H l9 (Nat.zero_le _) ⟨(fun j hj => hi1a j (by omega)), (lv_sub hl [1, 2, 0] rfl), hG⟩
    intro k2 f2 ls H l9 hkb hI ihb
    obtain ⟨hi1b, hl, hG⟩ := hI
    have ha_f2 : (gh_up h w (.inl (cJ, 4, .inr (.inl f2)))) a = some (.inr (4, [.ref w])) := gh_keep hw ha (by simp)
    have hw_f2 : (gh_up h w (.inl (cJ, 4, .inr (.inl f2)))) w = some (.inl (cJ, 4, .inr (.inl f2))) := gh_self _ _ _
    refine lv_iload_n hx hb d_So_becomeConvex_22 rfl (lv_at hl 2 rfl) ?_
    refine lv_sipush (v := 256) hx hb d_So_becomeConvex_23 (by decide) ?_
    refine lv_icmp_ge (tgt := 57) hx hb d_So_becomeConvex_26 (by decide) (fun hc26 => ?_) (fun hc26 => ?_)
    · skip
      replace hc26 : 256 ≤ k2 := (nc_le (a := 256) (b := k2) (by omega) (by omega) rfl rfl).mp hc26
      exact gh_vret hx hb hr hlk hG d_So_becomeConvex_57 ⟨rfl, f2, (fun j hj => by rw [hi1b j hj, show k2 = 256 by omega]), rfl⟩
    · skip
      replace hc26 : ¬ 256 ≤ k2 := fun q9 => hc26 ((nc_le (a := 256) (b := k2) (by omega) (by omega) rfl rfl).mpr q9)
      refine lv_iload_n hx hb d_So_becomeConvex_29 rfl (lv_at hl 2 rfl) ?_
      refine lv_iload_n hx hb d_So_becomeConvex_30 rfl (lv_at hl 1 rfl) ?_
      refine lv_iand hx hb d_So_becomeConvex_31 ?_
      refine lv_iload_n hx hb d_So_becomeConvex_32 rfl (lv_at hl 1 rfl) ?_
      refine lv_icmp_ne (tgt := 51) hx hb d_So_becomeConvex_33 (by decide) (fun hc33 => ?_) (fun hc33 => ?_)
      · skip
        refine lv_iinc (k := 2) (v := nI (k2 + 1)) (lv' := [(2, .int (nI (k2 + 1))), (0, .ref a), (1, .int set)]) hx hb d_So_becomeConvex_51 hl rfl (nI_1 k2) (by decide) rfl (fun ls hl => ?_)
        refine lv_goto (tgt := 22) hx hb d_So_becomeConvex_54 (by decide) ?_
        exact ihb f2 ls H l9 (by omega) ⟨cvx_out hi1b hc33, (lv_sub hl [1, 2, 0] rfl), (by first | exact hG | (rw [gh_uu] at hG; exact hG))⟩
      · skip
        refine lv_aload_n hx hb d_So_becomeConvex_36 rfl (lv_at hl 0 rfl) ?_
        refine gh_get (ci := 4) hx hb htb in_So hown hK hG ha_f2 rfl 0 (by decide) (htb _ k_1_81) (fun _ h9 => h9) rfl d_So_becomeConvex_37 ?_
        refine lv_iload_n hx hb d_So_becomeConvex_40 rfl (lv_at hl 2 rfl) ?_
        refine lv_bipush (v := 6) hx hb d_So_becomeConvex_41 (by decide) ?_
        refine lv_ishr hx hb d_So_becomeConvex_43 ?_
        rw [show nI k2 >>> ((6 : Int32) &&& 31) = nI (k2 / 64) from pk_shrN (by omega) _ 6 (by decide)]
        refine lv_dup2_11 hx hb d_So_becomeConvex_44 rfl rfl ?_
        refine gh_lald (v := f2 (k2 / 64)) hx hb hK hG 1 hw_f2 rfl (vp_in_nI (by omega) (by decide)) (by rw [nI_clamp (by omega)]) d_So_becomeConvex_45 ?_
        refine lv_lconst (v := 1) hx hb d_So_becomeConvex_46 (by decide) ?_
        refine lv_iload_n hx hb d_So_becomeConvex_47 rfl (lv_at hl 2 rfl) ?_
        refine lv_lshl (v := (1 <<< (Int32.toInt64 (nI k2) &&& 63))) hx hb d_So_becomeConvex_48 rfl ?_
        refine lv_lor hx hb d_So_becomeConvex_49 ?_
        refine gh_last hx hb hK hG 1 hw_f2 rfl (vp_in_nI (by omega) (by decide)) d_So_becomeConvex_50 (fun H l9 hG => ?_)
        rw [nI_clamp (by omega)] at hG
        have hq1 : (gh_up (gh_up h w (.inl (cJ, 4, .inr (.inl f2)))) w (.inl (cJ, 4, .inr (.inl (vp_updL f2 (k2 / 64) ((f2 (k2 / 64)) ||| (1 <<< (Int32.toInt64 (nI k2) &&& 63)))))))) w = some (.inl (cJ, 4, .inr (.inl (vp_updL f2 (k2 / 64) ((f2 (k2 / 64)) ||| (1 <<< (Int32.toInt64 (nI k2) &&& 63))))))) := gh_self _ _ _
        replace hG : gh_P D vC b0 (gh_up (gh_up h w (.inl (cJ, 4, .inr (.inl f2)))) w (.inl (cJ, 4, .inr (.inl (vp_updL f2 (k2 / 64) ((f2 (k2 / 64)) ||| (1 <<< (Int32.toInt64 (nI k2) &&& 63)))))))) s.heap _ _ := hG
        have ha_f2_1 : (gh_up (gh_up h w (.inl (cJ, 4, .inr (.inl f2)))) w (.inl (cJ, 4, .inr (.inl (vp_updL f2 (k2 / 64) ((f2 (k2 / 64)) ||| (1 <<< (Int32.toInt64 (nI k2) &&& 63)))))))) a = some (.inr (4, [.ref w])) := gh_keep hw_f2 ha_f2 (by simp)
        refine lv_iinc (k := 2) (v := nI (k2 + 1)) (lv' := [(2, .int (nI (k2 + 1))), (0, .ref a), (1, .int set)]) hx hb d_So_becomeConvex_51 hl rfl (nI_1 k2) (by decide) rfl (fun ls hl => ?_)
        refine lv_goto (tgt := 22) hx hb d_So_becomeConvex_54 (by decide) ?_
        exact ihb (vp_updL f2 (k2 / 64) ((f2 (k2 / 64)) ||| (1 <<< (Int32.toInt64 (nI k2) &&& 63)))) ls H l9 (by omega) ⟨cvx_in (by omega) hi1b hc33, (lv_sub hl [1, 2, 0] rfl), (by first | exact hG | (rw [gh_uu] at hG; exact hG))⟩
  · skip
    replace hc4 : ¬ 4 ≤ k1 := fun q9 => hc4 ((nc_le (a := 4) (b := k1) (by omega) (by omega) rfl rfl).mpr q9)
    refine lv_aload_n hx hb d_So_becomeConvex_7 rfl (lv_at hl 0 rfl) ?_
    refine gh_get (ci := 4) hx hb htb in_So hown hK hG ha_f1 rfl 0 (by decide) (htb _ k_1_81) (fun _ h9 => h9) rfl d_So_becomeConvex_8 ?_
    refine lv_iload_n hx hb d_So_becomeConvex_11 rfl (lv_at hl 2 rfl) ?_
    refine lv_lconst (v := 0) hx hb d_So_becomeConvex_12 (by decide) ?_
    refine gh_last hx hb hK hG 1 hw_f1 rfl (vp_in_nI (by omega) (by decide)) d_So_becomeConvex_13 (fun H l9 hG => ?_)
    rw [nI_clamp (by omega)] at hG
    have hq2 : (gh_up (gh_up h w (.inl (cJ, 4, .inr (.inl f1)))) w (.inl (cJ, 4, .inr (.inl (vp_updL f1 k1 0))))) w = some (.inl (cJ, 4, .inr (.inl (vp_updL f1 k1 0)))) := gh_self _ _ _
    replace hG : gh_P D vC b0 (gh_up (gh_up h w (.inl (cJ, 4, .inr (.inl f1)))) w (.inl (cJ, 4, .inr (.inl (vp_updL f1 k1 0))))) s.heap _ _ := hG
    have ha_f1_2 : (gh_up (gh_up h w (.inl (cJ, 4, .inr (.inl f1)))) w (.inl (cJ, 4, .inr (.inl (vp_updL f1 k1 0))))) a = some (.inr (4, [.ref w])) := gh_keep hw_f1 ha_f1 (by simp)
    refine lv_iinc (k := 2) (v := nI (k1 + 1)) (lv' := [(2, .int (nI (k1 + 1))), (0, .ref a), (1, .int set)]) hx hb d_So_becomeConvex_14 hl rfl (nI_1 k1) (by decide) rfl (fun ls hl => ?_)
    refine lv_goto (tgt := 2) hx hb d_So_becomeConvex_17 (by decide) ?_
    exact iha (vp_updL f1 k1 0) ls H l9 (by omega) ⟨up_in (g := fun _ => 0) hi1a rfl, (lv_sub hl [1, 2, 0] rfl), (by first | exact hG | (rw [gh_uu] at hG; exact hG))⟩

set_option maxHeartbeats 4000000 in
set_option maxRecDepth 100000 in
/-- becomeLike -/
theorem c_So_becomeLike {a w : Nat} {f : Nat → Int64} (ha : h a = some (.inr (4, [.ref w]))) (hw : h w = some (.inl (cJ, 4, .inr (.inl f)))) {b w2 : Nat} {g : Nat → Int64} (hb2 : h b = some (.inr (4, [.ref w2]))) (hw2 : h w2 = some (.inl (cJ, 4, .inr (.inl g)))) (hne : w2 ≠ w) : gh_C l D vC (tZ cI cJ cP cS) (xF b0) b0 y_So_becomeLike w_So_becomeLike ({ frames := 0, cells := 0, slots := 0, locals := 0 }) [.ref a, .ref b] h (fun oc h2 => oc = .returned none ∧ ∃ f2 : Nat → Int64, (∀ j, j < 4 → f2 j = g j) ∧ h2 = gh_up h w (.inl (cJ, 4, .inr (.inl f2)))) := by
  refine gh_ofW (by decide) (Nat.le_of_ble_eq_true rfl) ?_
  intro p e s m below meth c ls hctx hno hl hG hK hX
  obtain ⟨hx, hb, hr, hml, hown, hlk, hts, hnm⟩ := hctx
  have htb : ∀ w ∈ tB, w.before _ s = true := fun w hw => hts w (List.mem_cons_of_mem _ hw)
  replace hl : lv_has ls 3 [(0, .ref a), (1, .ref b)] := hl
  refine lv_iconst (v := 0) hx hb d_So_becomeLike_0 (by decide) ?_
  refine lv_istore_n (lv' := [(2, .int 0), (0, .ref a), (1, .ref b)]) hx hb d_So_becomeLike_1 rfl hl (by decide) rfl (fun ls hl => ?_)
  refine gh_gen hG (fun H l9 hG => ?_)
  refine lp_upH (α := Nat → Int64) (G := fun ls H l9 => W p l e _ s m _ below meth c H l9 _ _ _ (F0 m 2 ls [])) 4 (fun k f1 ls H l9 => ((∀ j, j < k → f1 j = g j) ∧ ∀ j, k ≤ j → f1 j = f j) ∧ lv_has ls 3 [(0, .ref a), (1, .ref b), (2, .int (nI k))] ∧ gh_P D vC b0 (gh_up h w (.inl (cJ, 4, .inr (.inl f1)))) s.heap H l9) ?_ 0 f ls H l9 (Nat.zero_le _) ⟨⟨fun j hj => absurd hj (Nat.not_lt_zero j), fun j _ => rfl⟩, (lv_sub hl [1, 2, 0] rfl), (by rw [gh_id hw]; exact hG)⟩
  intro k f1 ls H l9 hk hI ih
  obtain ⟨hi1, hl, hG⟩ := hI
  have ha_f1 : (gh_up h w (.inl (cJ, 4, .inr (.inl f1)))) a = some (.inr (4, [.ref w])) := gh_keep hw ha (by simp)
  have hw_f1 : (gh_up h w (.inl (cJ, 4, .inr (.inl f1)))) w = some (.inl (cJ, 4, .inr (.inl f1))) := gh_self _ _ _
  have hb_f1 : (gh_up h w (.inl (cJ, 4, .inr (.inl f1)))) b = some (.inr (4, [.ref w2])) := gh_keep hw hb2 (by simp)
  have hw2_f1 : (gh_up h w (.inl (cJ, 4, .inr (.inl f1)))) w2 = some (.inl (cJ, 4, .inr (.inl g))) := (gh_ne hne).trans hw2
  refine lv_iload_n hx hb d_So_becomeLike_2 rfl (lv_at hl 2 rfl) ?_
  refine lv_iconst (v := 4) hx hb d_So_becomeLike_3 (by decide) ?_
  refine lv_icmp_ge (tgt := 25) hx hb d_So_becomeLike_4 (by decide) (fun hc4 => ?_) (fun hc4 => ?_)
  · skip
    replace hc4 : 4 ≤ k := (nc_le (a := 4) (b := k) (by omega) (by omega) rfl rfl).mp hc4
    exact gh_vret hx hb hr hlk hG d_So_becomeLike_25 ⟨rfl, f1, (fun j hj => hi1.1 j (by omega)), rfl⟩
  · skip
    replace hc4 : ¬ 4 ≤ k := fun q9 => hc4 ((nc_le (a := 4) (b := k) (by omega) (by omega) rfl rfl).mpr q9)
    refine lv_aload_n hx hb d_So_becomeLike_7 rfl (lv_at hl 0 rfl) ?_
    refine gh_get (ci := 4) hx hb htb in_So hown hK hG ha_f1 rfl 0 (by decide) (htb _ k_1_81) (fun _ h9 => h9) rfl d_So_becomeLike_8 ?_
    refine lv_iload_n hx hb d_So_becomeLike_11 rfl (lv_at hl 2 rfl) ?_
    refine lv_aload_n hx hb d_So_becomeLike_12 rfl (lv_at hl 1 rfl) ?_
    refine gh_get (ci := 4) hx hb htb in_So hown hK hG hb_f1 rfl 0 (by decide) (htb _ k_1_81) (fun _ h9 => h9) rfl d_So_becomeLike_13 ?_
    refine lv_iload_n hx hb d_So_becomeLike_16 rfl (lv_at hl 2 rfl) ?_
    refine gh_lald (v := g k) hx hb hK hG 1 hw2_f1 rfl (vp_in_nI (by omega) (by decide)) (by rw [nI_clamp (by omega)]) d_So_becomeLike_17 ?_
    refine gh_last hx hb hK hG 1 hw_f1 rfl (vp_in_nI (by omega) (by decide)) d_So_becomeLike_18 (fun H l9 hG => ?_)
    rw [nI_clamp (by omega)] at hG
    have hq1 : (gh_up (gh_up h w (.inl (cJ, 4, .inr (.inl f1)))) w (.inl (cJ, 4, .inr (.inl (vp_updL f1 k (g k)))))) w = some (.inl (cJ, 4, .inr (.inl (vp_updL f1 k (g k))))) := gh_self _ _ _
    replace hG : gh_P D vC b0 (gh_up (gh_up h w (.inl (cJ, 4, .inr (.inl f1)))) w (.inl (cJ, 4, .inr (.inl (vp_updL f1 k (g k)))))) s.heap _ _ := hG
    have ha_f1_1 : (gh_up (gh_up h w (.inl (cJ, 4, .inr (.inl f1)))) w (.inl (cJ, 4, .inr (.inl (vp_updL f1 k (g k)))))) a = some (.inr (4, [.ref w])) := gh_keep hw_f1 ha_f1 (by simp)
    have hb_f1_1 : (gh_up (gh_up h w (.inl (cJ, 4, .inr (.inl f1)))) w (.inl (cJ, 4, .inr (.inl (vp_updL f1 k (g k)))))) b = some (.inr (4, [.ref w2])) := gh_keep hw_f1 hb_f1 (by simp)
    have hw2_f1_1 : (gh_up (gh_up h w (.inl (cJ, 4, .inr (.inl f1)))) w (.inl (cJ, 4, .inr (.inl (vp_updL f1 k (g k)))))) w2 = some (.inl (cJ, 4, .inr (.inl g))) := (gh_ne hne).trans hw2_f1
    refine lv_iinc (k := 2) (v := nI (k + 1)) (lv' := [(2, .int (nI (k + 1))), (0, .ref a), (1, .ref b)]) hx hb d_So_becomeLike_19 hl rfl (nI_1 k) (by decide) rfl (fun ls hl => ?_)
    refine lv_goto (tgt := 2) hx hb d_So_becomeLike_22 (by decide) ?_
    exact ih (vp_updL f1 k (g k)) ls H l9 (by omega) ⟨⟨up_in (g := fun j => g j) hi1.1 rfl, up_out hi1.2⟩, (lv_sub hl [1, 2, 0] rfl), (by first | exact hG | (rw [gh_uu] at hG; exact hG))⟩

set_option maxHeartbeats 4000000 in
set_option maxRecDepth 100000 in
/-- becomeItsRest -/
theorem c_So_becomeItsRest {a w : Nat} {f : Nat → Int64} (ha : h a = some (.inr (4, [.ref w]))) (hw : h w = some (.inl (cJ, 4, .inr (.inl f)))) : gh_C l D vC (tZ cI cJ cP cS) (xF b0) b0 y_So_becomeItsRest w_So_becomeItsRest ({ frames := 0, cells := 0, slots := 0, locals := 0 }) [.ref a] h (fun oc h2 => oc = .returned none ∧ ∃ f2 : Nat → Int64, (∀ j, j < 4 → f2 j = f j ^^^ (-1)) ∧ h2 = gh_up h w (.inl (cJ, 4, .inr (.inl f2)))) := by
  refine gh_ofW (by decide) (Nat.le_of_ble_eq_true rfl) ?_
  intro p e s m below meth c ls hctx hno hl hG hK hX
  obtain ⟨hx, hb, hr, hml, hown, hlk, hts, hnm⟩ := hctx
  have htb : ∀ w ∈ tB, w.before _ s = true := fun w hw => hts w (List.mem_cons_of_mem _ hw)
  replace hl : lv_has ls 2 [(0, .ref a)] := hl
  refine lv_iconst (v := 0) hx hb d_So_becomeItsRest_0 (by decide) ?_
  refine lv_istore_n (lv' := [(1, .int 0), (0, .ref a)]) hx hb d_So_becomeItsRest_1 rfl hl (by decide) rfl (fun ls hl => ?_)
  refine gh_gen hG (fun H l9 hG => ?_)
  refine lp_upH (α := Nat → Int64) (G := fun ls H l9 => W p l e _ s m _ below meth c H l9 _ _ _ (F0 m 2 ls [])) 4 (fun k f1 ls H l9 => ((∀ j, j < k → f1 j = f j ^^^ (-1)) ∧ ∀ j, k ≤ j → f1 j = f j) ∧ lv_has ls 2 [(0, .ref a), (1, .int (nI k))] ∧ gh_P D vC b0 (gh_up h w (.inl (cJ, 4, .inr (.inl f1)))) s.heap H l9) ?_ 0 f ls H l9 (Nat.zero_le _) ⟨⟨fun j hj => absurd hj (Nat.not_lt_zero j), fun j _ => rfl⟩, (lv_sub hl [1, 0] rfl), (by rw [gh_id hw]; exact hG)⟩
  intro k f1 ls H l9 hk hI ih
  obtain ⟨hi1, hl, hG⟩ := hI
  have ha_f1 : (gh_up h w (.inl (cJ, 4, .inr (.inl f1)))) a = some (.inr (4, [.ref w])) := gh_keep hw ha (by simp)
  have hw_f1 : (gh_up h w (.inl (cJ, 4, .inr (.inl f1)))) w = some (.inl (cJ, 4, .inr (.inl f1))) := gh_self _ _ _
  refine lv_iload_n hx hb d_So_becomeItsRest_2 rfl (lv_at hl 1 rfl) ?_
  refine lv_iconst (v := 4) hx hb d_So_becomeItsRest_3 (by decide) ?_
  refine lv_icmp_ge (tgt := 29) hx hb d_So_becomeItsRest_4 (by decide) (fun hc4 => ?_) (fun hc4 => ?_)
  · skip
    replace hc4 : 4 ≤ k := (nc_le (a := 4) (b := k) (by omega) (by omega) rfl rfl).mp hc4
    exact gh_vret hx hb hr hlk hG d_So_becomeItsRest_29 ⟨rfl, f1, (fun j hj => hi1.1 j (by omega)), rfl⟩
  · skip
    replace hc4 : ¬ 4 ≤ k := fun q9 => hc4 ((nc_le (a := 4) (b := k) (by omega) (by omega) rfl rfl).mpr q9)
    refine lv_aload_n hx hb d_So_becomeItsRest_7 rfl (lv_at hl 0 rfl) ?_
    refine gh_get (ci := 4) hx hb htb in_So hown hK hG ha_f1 rfl 0 (by decide) (htb _ k_1_81) (fun _ h9 => h9) rfl d_So_becomeItsRest_8 ?_
    refine lv_iload_n hx hb d_So_becomeItsRest_11 rfl (lv_at hl 1 rfl) ?_
    refine lv_aload_n hx hb d_So_becomeItsRest_12 rfl (lv_at hl 0 rfl) ?_
    refine gh_get (ci := 4) hx hb htb in_So hown hK hG ha_f1 rfl 0 (by decide) (htb _ k_1_81) (fun _ h9 => h9) rfl d_So_becomeItsRest_13 ?_
    refine lv_iload_n hx hb d_So_becomeItsRest_16 rfl (lv_at hl 1 rfl) ?_
    refine gh_lald (v := f1 k) hx hb hK hG 1 hw_f1 rfl (vp_in_nI (by omega) (by decide)) (by rw [nI_clamp (by omega)]) d_So_becomeItsRest_17 ?_
    refine lv_ldc2 (v := (-1)) hx hb hown (htb _ k_2_31) d_So_becomeItsRest_18 ?_
    refine lv_lxor hx hb d_So_becomeItsRest_21 ?_
    refine gh_last hx hb hK hG 1 hw_f1 rfl (vp_in_nI (by omega) (by decide)) d_So_becomeItsRest_22 (fun H l9 hG => ?_)
    rw [nI_clamp (by omega)] at hG
    have hq1 : (gh_up (gh_up h w (.inl (cJ, 4, .inr (.inl f1)))) w (.inl (cJ, 4, .inr (.inl (vp_updL f1 k ((f1 k) ^^^ (-1))))))) w = some (.inl (cJ, 4, .inr (.inl (vp_updL f1 k ((f1 k) ^^^ (-1)))))) := gh_self _ _ _
    replace hG : gh_P D vC b0 (gh_up (gh_up h w (.inl (cJ, 4, .inr (.inl f1)))) w (.inl (cJ, 4, .inr (.inl (vp_updL f1 k ((f1 k) ^^^ (-1))))))) s.heap _ _ := hG
    have ha_f1_1 : (gh_up (gh_up h w (.inl (cJ, 4, .inr (.inl f1)))) w (.inl (cJ, 4, .inr (.inl (vp_updL f1 k ((f1 k) ^^^ (-1))))))) a = some (.inr (4, [.ref w])) := gh_keep hw_f1 ha_f1 (by simp)
    refine lv_iinc (k := 1) (v := nI (k + 1)) (lv' := [(1, .int (nI (k + 1))), (0, .ref a)]) hx hb d_So_becomeItsRest_23 hl rfl (nI_1 k) (by decide) rfl (fun ls hl => ?_)
    refine lv_goto (tgt := 2) hx hb d_So_becomeItsRest_26 (by decide) ?_
    exact ih (vp_updL f1 k ((f1 k) ^^^ (-1))) ls H l9 (by omega) ⟨⟨up_in (g := fun j => f j ^^^ (-1)) hi1.1 (by rw [hi1.2 k (Nat.le_refl k)]), up_out hi1.2⟩, (lv_sub hl [1, 0] rfl), (by first | exact hG | (rw [gh_uu] at hG; exact hG))⟩

set_option maxHeartbeats 4000000 in
set_option maxRecDepth 100000 in
/-- joined -/
theorem c_So_joined {x y : Int64} {v : Nat} (hv : v < 4) : gh_C l D vC (tZ cI cJ cP cS) (xF b0) b0 y_So_joined w_So_joined ({ frames := 0, cells := 0, slots := 0, locals := 0 }) [.long x, .long y, .int (nI v)] h (rL (m_jn v x y) h) := by
  refine gh_ofW (by decide) (Nat.le_of_ble_eq_true rfl) ?_
  intro p e s m below meth c ls hctx hno hl hG hK hX
  obtain ⟨hx, hb, hr, hml, hown, hlk, hts, hnm⟩ := hctx
  have htb : ∀ w ∈ tB, w.before _ s = true := fun w hw => hts w (List.mem_cons_of_mem _ hw)
  replace hl : lv_has ls 5 [(0, .long x), (2, .long y), (4, .int (nI v))] := hl
  refine lv_iload hx hb d_So_joined_0 (lv_at hl 2 rfl) ?_
  rcases (show v = 0 ∨ v = 1 ∨ v = 2 ∨ v = 3 by omega) with rfl | rfl | rfl | rfl
  · skip
    refine lv_tableIn (tgt := 28) (off := 26) hx hb d_So_joined_2 (by decide) (by decide) rfl (by decide) ?_
    refine lv_lload_n hx hb d_So_joined_28 rfl (lv_at hl 0 rfl) ?_
    refine lv_lload_n hx hb d_So_joined_29 rfl (lv_at hl 1 rfl) ?_
    refine lv_lor hx hb d_So_joined_30 ?_
    exact gh_lret hx hb hr hlk hG d_So_joined_31 ⟨rfl, rfl⟩
  · skip
    refine lv_tableIn (tgt := 32) (off := 30) hx hb d_So_joined_2 (by decide) (by decide) rfl (by decide) ?_
    refine lv_lload_n hx hb d_So_joined_32 rfl (lv_at hl 0 rfl) ?_
    refine lv_lload_n hx hb d_So_joined_33 rfl (lv_at hl 1 rfl) ?_
    refine lv_land hx hb d_So_joined_34 ?_
    exact gh_lret hx hb hr hlk hG d_So_joined_35 ⟨rfl, rfl⟩
  · skip
    refine lv_tableIn (tgt := 36) (off := 34) hx hb d_So_joined_2 (by decide) (by decide) rfl (by decide) ?_
    refine lv_lload_n hx hb d_So_joined_36 rfl (lv_at hl 0 rfl) ?_
    refine lv_lload_n hx hb d_So_joined_37 rfl (lv_at hl 1 rfl) ?_
    refine lv_ldc2 (v := (-1)) hx hb hown (htb _ k_2_31) d_So_joined_38 ?_
    refine lv_lxor hx hb d_So_joined_41 ?_
    refine lv_land hx hb d_So_joined_42 ?_
    exact gh_lret hx hb hr hlk hG d_So_joined_43 ⟨rfl, rfl⟩
  · skip
    refine lv_tableOut (tgt := 44) hx hb d_So_joined_2 (by decide) (by decide) ?_
    refine lv_lload_n hx hb d_So_joined_44 rfl (lv_at hl 0 rfl) ?_
    refine lv_lload_n hx hb d_So_joined_45 rfl (lv_at hl 1 rfl) ?_
    refine lv_lxor hx hb d_So_joined_46 ?_
    exact gh_lret hx hb hr hlk hG d_So_joined_47 ⟨rfl, rfl⟩

set_option maxHeartbeats 4000000 in
set_option maxRecDepth 100000 in
/-- joinWith -/
theorem c_So_joinWith {a w : Nat} {f : Nat → Int64} (ha : h a = some (.inr (4, [.ref w]))) (hw : h w = some (.inl (cJ, 4, .inr (.inl f)))) {b w2 : Nat} {g : Nat → Int64} (hb2 : h b = some (.inr (4, [.ref w2]))) (hw2 : h w2 = some (.inl (cJ, 4, .inr (.inl g)))) (hne : w2 ≠ w) {v : Nat} (hv : v < 4) : gh_C l D vC (tZ cI cJ cP cS) (xF b0) b0 y_So_joinWith w_So_joinWith ({ frames := 1, cells := 0, slots := 0, locals := 24 }) [.ref a, .ref b, .int (nI v)] h (fun oc h2 => oc = .returned none ∧ ∃ f2 : Nat → Int64, (∀ j, j < 4 → f2 j = m_jn v (f j) (g j)) ∧ h2 = gh_up h w (.inl (cJ, 4, .inr (.inl f2)))) := by
  refine gh_ofW (by decide) (Nat.le_of_ble_eq_true rfl) ?_
  intro p e s m below meth c ls hctx hno hl hG hK hX
  obtain ⟨hx, hb, hr, hml, hown, hlk, hts, hnm⟩ := hctx
  have htb : ∀ w ∈ tB, w.before _ s = true := fun w hw => hts w (List.mem_cons_of_mem _ hw)
  replace hl : lv_has ls 4 [(0, .ref a), (1, .ref b), (2, .int (nI v))] := hl
  refine lv_iconst (v := 0) hx hb d_So_joinWith_0 (by decide) ?_
  refine lv_istore_n (lv' := [(3, .int 0), (0, .ref a), (1, .ref b), (2, .int (nI v))]) hx hb d_So_joinWith_1 rfl hl (by decide) rfl (fun ls hl => ?_)
  refine gh_gen hG (fun H l9 hG => ?_)
  refine lp_upH (α := Nat → Int64) (G := fun ls H l9 => W p l e _ s m _ below meth c H l9 _ _ _ (F0 m 2 ls [])) 4 (fun k f1 ls H l9 => ((∀ j, j < k → f1 j = m_jn v (f j) (g j)) ∧ ∀ j, k ≤ j → f1 j = f j) ∧ lv_has ls 4 [(0, .ref a), (1, .ref b), (2, .int (nI v)), (3, .int (nI k))] ∧ gh_P D vC b0 (gh_up h w (.inl (cJ, 4, .inr (.inl f1)))) s.heap H l9) ?_ 0 f ls H l9 (Nat.zero_le _) ⟨⟨fun j hj => absurd hj (Nat.not_lt_zero j), fun j _ => rfl⟩, (lv_sub hl [1, 2, 3, 0] rfl), (by rw [gh_id hw]; exact hG)⟩
  intro k f1 ls H l9 hk hI ih
  obtain ⟨hi1, hl, hG⟩ := hI
  have ha_f1 : (gh_up h w (.inl (cJ, 4, .inr (.inl f1)))) a = some (.inr (4, [.ref w])) := gh_keep hw ha (by simp)
  have hw_f1 : (gh_up h w (.inl (cJ, 4, .inr (.inl f1)))) w = some (.inl (cJ, 4, .inr (.inl f1))) := gh_self _ _ _
  have hb_f1 : (gh_up h w (.inl (cJ, 4, .inr (.inl f1)))) b = some (.inr (4, [.ref w2])) := gh_keep hw hb2 (by simp)
  have hw2_f1 : (gh_up h w (.inl (cJ, 4, .inr (.inl f1)))) w2 = some (.inl (cJ, 4, .inr (.inl g))) := (gh_ne hne).trans hw2
  refine lv_iload_n hx hb d_So_joinWith_2 rfl (lv_at hl 3 rfl) ?_
  refine lv_iconst (v := 4) hx hb d_So_joinWith_3 (by decide) ?_
  refine lv_icmp_ge (tgt := 35) hx hb d_So_joinWith_4 (by decide) (fun hc4 => ?_) (fun hc4 => ?_)
  · skip
    replace hc4 : 4 ≤ k := (nc_le (a := 4) (b := k) (by omega) (by omega) rfl rfl).mp hc4
    exact gh_vret hx hb hr hlk hG d_So_joinWith_35 ⟨rfl, f1, (fun j hj => hi1.1 j (by omega)), rfl⟩
  · skip
    replace hc4 : ¬ 4 ≤ k := fun q9 => hc4 ((nc_le (a := 4) (b := k) (by omega) (by omega) rfl rfl).mpr q9)
    refine lv_aload_n hx hb d_So_joinWith_7 rfl (lv_at hl 0 rfl) ?_
    refine gh_get (ci := 4) hx hb htb in_So hown hK hG ha_f1 rfl 0 (by decide) (htb _ k_1_81) (fun _ h9 => h9) rfl d_So_joinWith_8 ?_
    refine lv_iload_n hx hb d_So_joinWith_11 rfl (lv_at hl 3 rfl) ?_
    refine lv_aload_n hx hb d_So_joinWith_12 rfl (lv_at hl 0 rfl) ?_
    refine gh_get (ci := 4) hx hb htb in_So hown hK hG ha_f1 rfl 0 (by decide) (htb _ k_1_81) (fun _ h9 => h9) rfl d_So_joinWith_13 ?_
    refine lv_iload_n hx hb d_So_joinWith_16 rfl (lv_at hl 3 rfl) ?_
    refine gh_lald (v := f1 k) hx hb hK hG 1 hw_f1 rfl (vp_in_nI (by omega) (by decide)) (by rw [nI_clamp (by omega)]) d_So_joinWith_17 ?_
    refine lv_aload_n hx hb d_So_joinWith_18 rfl (lv_at hl 1 rfl) ?_
    refine gh_get (ci := 4) hx hb htb in_So hown hK hG hb_f1 rfl 0 (by decide) (htb _ k_1_81) (fun _ h9 => h9) rfl d_So_joinWith_19 ?_
    refine lv_iload_n hx hb d_So_joinWith_22 rfl (lv_at hl 3 rfl) ?_
    refine gh_lald (v := g k) hx hb hK hG 1 hw2_f1 rfl (vp_in_nI (by omega) (by decide)) (by rw [nI_clamp (by omega)]) d_So_joinWith_23 ?_
    refine lv_iload_n hx hb d_So_joinWith_24 rfl (lv_at hl 2 rfl) ?_
    refine gh_cS (As := [.long (f1 k), .long (g k), .int (nI v)]) (rest := [.int (nI k), .ref w]) (xF_ok b0) hx hb hml hown hK hX hG (c_So_joined (by omega)) (q_So_joined htb ⟨by decide, by decide⟩) (htb _ k_2_28) (htb _ k_2_29) rfl hl.1 rfl (Nat.le_of_ble_eq_true rfl) d_So_joinWith_25 ⟨by decide, by decide⟩ (fun v9 h9 H l9 hp9 hG => ?_) (fun _ _ _ _ hp9 _ => by cases hp9.1)
    obtain ⟨hv9, hh9⟩ := hp9
    cases hv9
    rw [hh9] at hG
    refine W.eq (g2 := F0 m 28 ls [.long (m_jn v (f1 k) (g k)), .int (nI k), .ref w]) rfl ?_
    refine W.widen (k := 0) (n := 0) (by decide) (by decide) ?_
    refine gh_last hx hb hK hG 1 hw_f1 rfl (vp_in_nI (by omega) (by decide)) d_So_joinWith_28 (fun H l9 hG => ?_)
    rw [nI_clamp (by omega)] at hG
    have hq1 : (gh_up (gh_up h w (.inl (cJ, 4, .inr (.inl f1)))) w (.inl (cJ, 4, .inr (.inl (vp_updL f1 k (m_jn v (f1 k) (g k))))))) w = some (.inl (cJ, 4, .inr (.inl (vp_updL f1 k (m_jn v (f1 k) (g k)))))) := gh_self _ _ _
    replace hG : gh_P D vC b0 (gh_up (gh_up h w (.inl (cJ, 4, .inr (.inl f1)))) w (.inl (cJ, 4, .inr (.inl (vp_updL f1 k (m_jn v (f1 k) (g k))))))) s.heap _ _ := hG
    have ha_f1_1 : (gh_up (gh_up h w (.inl (cJ, 4, .inr (.inl f1)))) w (.inl (cJ, 4, .inr (.inl (vp_updL f1 k (m_jn v (f1 k) (g k))))))) a = some (.inr (4, [.ref w])) := gh_keep hw_f1 ha_f1 (by simp)
    have hb_f1_1 : (gh_up (gh_up h w (.inl (cJ, 4, .inr (.inl f1)))) w (.inl (cJ, 4, .inr (.inl (vp_updL f1 k (m_jn v (f1 k) (g k))))))) b = some (.inr (4, [.ref w2])) := gh_keep hw_f1 hb_f1 (by simp)
    have hw2_f1_1 : (gh_up (gh_up h w (.inl (cJ, 4, .inr (.inl f1)))) w (.inl (cJ, 4, .inr (.inl (vp_updL f1 k (m_jn v (f1 k) (g k))))))) w2 = some (.inl (cJ, 4, .inr (.inl g))) := (gh_ne hne).trans hw2_f1
    refine lv_iinc (k := 3) (v := nI (k + 1)) (lv' := [(3, .int (nI (k + 1))), (0, .ref a), (1, .ref b), (2, .int (nI v))]) hx hb d_So_joinWith_29 hl rfl (nI_1 k) (by decide) rfl (fun ls hl => ?_)
    refine lv_goto (tgt := 2) hx hb d_So_joinWith_32 (by decide) ?_
    exact ih (vp_updL f1 k (m_jn v (f1 k) (g k))) ls H l9 (by omega) ⟨⟨up_in (g := fun j => m_jn v (f j) (g j)) hi1.1 (by rw [hi1.2 k (Nat.le_refl k)]), up_out hi1.2⟩, (lv_sub hl [1, 2, 3, 0] rfl), (by first | exact hG | (rw [gh_uu] at hG; exact hG))⟩

end
