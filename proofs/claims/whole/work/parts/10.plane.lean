section
variable {l : Launch} {D : va_G} {cI cJ cP cS : ClassId} {b0 : Nat} {h : gh_M}

set_option maxHeartbeats 4000000 in
set_option maxRecDepth 100000 in
/-- Point(): nothing but Object() -/
theorem c_Pt_init {a : Nat} : gh_C l D vC (tZ cI cJ cP cS) (xF b0) b0 y_Pt_init w_Pt_init ({ frames := 1, cells := 0, slots := 0, locals := 12 }) [.ref a] h (rV h) := by
  refine gh_ofW (by decide) (Nat.le_of_ble_eq_true rfl) ?_
  intro p e s m below meth c ls hctx hno hl hG hK hX
  obtain ⟨hx, hb, hr, hml, hown, hlk, hts, hnm⟩ := hctx
  have htb : ∀ w ∈ tB, w.before _ s = true := fun w hw => hts w (List.mem_cons_of_mem _ hw)
  replace hl : lv_has ls 1 [(0, .ref a)] := hl
  refine lv_aload_n hx hb d_Pt_init_0 rfl (lv_at hl 0 rfl) ?_
  refine W.objInit hx hb hown (htb _ k_1_91) (htb _ k_1_21) (htb _ k_1_22) rfl (by rw [hml]; exact hl.1) rfl d_Pt_init_1 (Nat.le_of_ble_eq_true rfl) (Nat.le_of_ble_eq_true rfl) ?_
  refine W.eq (g2 := F0 m 4 ls []) rfl ?_
  exact gh_vret hx hb hr hlk hG d_Pt_init_4 ⟨rfl, rfl⟩

set_option maxHeartbeats 4000000 in
set_option maxRecDepth 100000 in
/-- place -/
theorem c_Pt_place {a : Nat} {x0 y0 z0 w0 x y z w : Int64} (ha : h a = some (.inr (3, [.long x0, .long y0, .long z0, .long w0]))) : gh_C l D vC (tZ cI cJ cP cS) (xF b0) b0 y_Pt_place w_Pt_place ({ frames := 0, cells := 0, slots := 0, locals := 0 }) [.ref a, .long x, .long y, .long z, .long w] h (rV (gh_up h a (.inr (3, [.long x, .long y, .long z, .long w])))) := by
  refine gh_ofW (by decide) (Nat.le_of_ble_eq_true rfl) ?_
  intro p e s m below meth c ls hctx hno hl hG hK hX
  obtain ⟨hx, hb, hr, hml, hown, hlk, hts, hnm⟩ := hctx
  have htb : ∀ w ∈ tB, w.before _ s = true := fun w hw => hts w (List.mem_cons_of_mem _ hw)
  replace hl : lv_has ls 9 [(0, .ref a), (1, .long x), (3, .long y), (5, .long z), (7, .long w)] := hl
  refine lv_aload_n hx hb d_Pt_place_0 rfl (lv_at hl 0 rfl) ?_
  refine lv_lload_n hx hb d_Pt_place_1 rfl (lv_at hl 1 rfl) ?_
  refine gh_put (ci := 3) (ty := .long) hx hb htb in_Pt t_Pt ty_Pt nm_Pt hown hK hG ha rfl 0 (by decide) (htb _ k_1_92) (fun _ h9 => h9) rfl (by decide +kernel) rfl rfl (Nat.le_of_ble_eq_true rfl) d_Pt_place_2 (fun H l9 hG => ?_)
  have hq1 : (gh_up h a (.inr (3, [.long x, .long y0, .long z0, .long w0]))) a = some (.inr (3, [.long x, .long y0, .long z0, .long w0])) := gh_self _ _ _
  replace hG : gh_P D vC b0 (gh_up h a (.inr (3, [.long x, .long y0, .long z0, .long w0]))) s.heap _ _ := hG
  refine lv_aload_n hx hb d_Pt_place_5 rfl (lv_at hl 0 rfl) ?_
  refine lv_lload_n hx hb d_Pt_place_6 rfl (lv_at hl 2 rfl) ?_
  refine gh_put (ci := 3) (ty := .long) hx hb htb in_Pt t_Pt ty_Pt nm_Pt hown hK hG hq1 rfl 1 (by decide) (htb _ k_1_94) (fun _ h9 => h9) rfl (by decide +kernel) rfl rfl (Nat.le_of_ble_eq_true rfl) d_Pt_place_7 (fun H l9 hG => ?_)
  have hq2 : (gh_up (gh_up h a (.inr (3, [.long x, .long y0, .long z0, .long w0]))) a (.inr (3, [.long x, .long y, .long z0, .long w0]))) a = some (.inr (3, [.long x, .long y, .long z0, .long w0])) := gh_self _ _ _
  replace hG : gh_P D vC b0 (gh_up (gh_up h a (.inr (3, [.long x, .long y0, .long z0, .long w0]))) a (.inr (3, [.long x, .long y, .long z0, .long w0]))) s.heap _ _ := hG
  refine lv_aload_n hx hb d_Pt_place_10 rfl (lv_at hl 0 rfl) ?_
  refine lv_lload hx hb d_Pt_place_11 (lv_at hl 3 rfl) ?_
  refine gh_put (ci := 3) (ty := .long) hx hb htb in_Pt t_Pt ty_Pt nm_Pt hown hK hG hq2 rfl 2 (by decide) (htb _ k_1_96) (fun _ h9 => h9) rfl (by decide +kernel) rfl rfl (Nat.le_of_ble_eq_true rfl) d_Pt_place_13 (fun H l9 hG => ?_)
  have hq3 : (gh_up (gh_up (gh_up h a (.inr (3, [.long x, .long y0, .long z0, .long w0]))) a (.inr (3, [.long x, .long y, .long z0, .long w0]))) a (.inr (3, [.long x, .long y, .long z, .long w0]))) a = some (.inr (3, [.long x, .long y, .long z, .long w0])) := gh_self _ _ _
  replace hG : gh_P D vC b0 (gh_up (gh_up (gh_up h a (.inr (3, [.long x, .long y0, .long z0, .long w0]))) a (.inr (3, [.long x, .long y, .long z0, .long w0]))) a (.inr (3, [.long x, .long y, .long z, .long w0]))) s.heap _ _ := hG
  refine lv_aload_n hx hb d_Pt_place_16 rfl (lv_at hl 0 rfl) ?_
  refine lv_lload hx hb d_Pt_place_17 (lv_at hl 4 rfl) ?_
  refine gh_put (ci := 3) (ty := .long) hx hb htb in_Pt t_Pt ty_Pt nm_Pt hown hK hG hq3 rfl 3 (by decide) (htb _ k_1_98) (fun _ h9 => h9) rfl (by decide +kernel) rfl rfl (Nat.le_of_ble_eq_true rfl) d_Pt_place_19 (fun H l9 hG => ?_)
  have hq4 : (gh_up (gh_up (gh_up (gh_up h a (.inr (3, [.long x, .long y0, .long z0, .long w0]))) a (.inr (3, [.long x, .long y, .long z0, .long w0]))) a (.inr (3, [.long x, .long y, .long z, .long w0]))) a (.inr (3, [.long x, .long y, .long z, .long w]))) a = some (.inr (3, [.long x, .long y, .long z, .long w])) := gh_self _ _ _
  replace hG : gh_P D vC b0 (gh_up (gh_up (gh_up (gh_up h a (.inr (3, [.long x, .long y0, .long z0, .long w0]))) a (.inr (3, [.long x, .long y, .long z0, .long w0]))) a (.inr (3, [.long x, .long y, .long z, .long w0]))) a (.inr (3, [.long x, .long y, .long z, .long w]))) s.heap _ _ := hG
  exact gh_vret hx hb hr hlk hG d_Pt_place_22 ⟨rfl, by simp only [gh_uu]⟩

def m_onax (ax : Int32) (al u v w : Int64) : List Value := if ax = 0 then [.long al, .long (u * w), .long (v * w), .long w] else if ax = 1 then [.long (u * w), .long al, .long (v * w), .long w] else [.long (u * w), .long (v * w), .long al, .long w]

set_option maxHeartbeats 4000000 in
set_option maxRecDepth 100000 in
/-- placeOnAxis -/
theorem c_Pt_placeOnAxis {a : Nat} {ax : Int32} {x0 y0 z0 w0 al u v w : Int64} (ha : h a = some (.inr (3, [.long x0, .long y0, .long z0, .long w0]))) : gh_C l D vC (tZ cI cJ cP cS) (xF b0) b0 y_Pt_placeOnAxis w_Pt_placeOnAxis ({ frames := 1, cells := 0, slots := 0, locals := 28 }) [.ref a, .int ax, .long al, .long u, .long v, .long w] h (rV (gh_up h a (.inr (3, m_onax ax al u v w)))) := by
  refine gh_ofW (by decide) (Nat.le_of_ble_eq_true rfl) ?_
  intro p e s m below meth c ls hctx hno hl hG hK hX
  obtain ⟨hx, hb, hr, hml, hown, hlk, hts, hnm⟩ := hctx
  have htb : ∀ w ∈ tB, w.before _ s = true := fun w hw => hts w (List.mem_cons_of_mem _ hw)
  replace hl : lv_has ls 14 [(0, .ref a), (1, .int ax), (2, .long al), (4, .long u), (6, .long v), (8, .long w)] := hl
  refine lv_lload hx hb d_Pt_placeOnAxis_0 (lv_at hl 3 rfl) ?_
  refine lv_lload hx hb d_Pt_placeOnAxis_2 (lv_at hl 5 rfl) ?_
  refine lv_lmul hx hb d_Pt_placeOnAxis_4 ?_
  refine lv_lstore (lv' := [(10, .long (u * w)), (0, .ref a), (1, .int ax), (2, .long al), (4, .long u), (6, .long v), (8, .long w)]) hx hb d_Pt_placeOnAxis_5 hl (by decide) rfl (fun ls hl => ?_)
  refine lv_lload hx hb d_Pt_placeOnAxis_7 (lv_at hl 5 rfl) ?_
  refine lv_lload hx hb d_Pt_placeOnAxis_9 (lv_at hl 6 rfl) ?_
  refine lv_lmul hx hb d_Pt_placeOnAxis_11 ?_
  refine lv_lstore (lv' := [(12, .long (v * w)), (10, .long (u * w)), (0, .ref a), (1, .int ax), (2, .long al), (4, .long u), (6, .long v), (8, .long w)]) hx hb d_Pt_placeOnAxis_12 hl (by decide) rfl (fun ls hl => ?_)
  refine lv_iload_n hx hb d_Pt_placeOnAxis_14 rfl (lv_at hl 3 rfl) ?_
  refine lv_if_ne (tgt := 32) hx hb d_Pt_placeOnAxis_15 (by decide) (fun hc15 => ?_) (fun hc15 => ?_)
  · skip
    refine lv_iload_n hx hb d_Pt_placeOnAxis_32 rfl (lv_at hl 3 rfl) ?_
    refine lv_iconst (v := 1) hx hb d_Pt_placeOnAxis_33 (by decide) ?_
    refine lv_icmp_ne (tgt := 51) hx hb d_Pt_placeOnAxis_34 (by decide) (fun hc34 => ?_) (fun hc34 => ?_)
    · skip
      refine lv_aload_n hx hb d_Pt_placeOnAxis_51 rfl (lv_at hl 2 rfl) ?_
      refine lv_lload hx hb d_Pt_placeOnAxis_52 (lv_at hl 1 rfl) ?_
      refine lv_lload hx hb d_Pt_placeOnAxis_54 (lv_at hl 0 rfl) ?_
      refine lv_lload_n hx hb d_Pt_placeOnAxis_56 rfl (lv_at hl 4 rfl) ?_
      refine lv_lload hx hb d_Pt_placeOnAxis_57 (lv_at hl 7 rfl) ?_
      refine gh_cV (ci := 3) (As := [.long (u * w), .long (v * w), .long al, .long w]) (rest := []) (xF_ok b0) hx hb hml hown hK hX hG rfl ha (c_Pt_place ha) (q_Pt_place htb ⟨by decide, by decide⟩) (htb _ k_2_207) (htb _ k_2_96) (htb _ k_2_97) rfl hl.1 rfl (Nat.le_of_ble_eq_true rfl) d_Pt_placeOnAxis_59 ⟨by decide, by decide⟩ (fun v9 h9 H l9 hp9 hG => ?_) (fun _ _ _ _ hp9 _ => by cases hp9.1)
      obtain ⟨hv9, hh9⟩ := hp9
      cases hv9
      rw [hh9] at hG
      refine W.eq (g2 := F0 m 62 ls []) rfl ?_
      refine W.widen (k := 0) (n := 0) (by decide) (by decide) ?_
      exact gh_vret hx hb hr hlk hG d_Pt_placeOnAxis_62 ⟨rfl, by simp_all [m_onax]⟩
    · skip
      refine lv_aload_n hx hb d_Pt_placeOnAxis_37 rfl (lv_at hl 2 rfl) ?_
      refine lv_lload hx hb d_Pt_placeOnAxis_38 (lv_at hl 1 rfl) ?_
      refine lv_lload_n hx hb d_Pt_placeOnAxis_40 rfl (lv_at hl 4 rfl) ?_
      refine lv_lload hx hb d_Pt_placeOnAxis_41 (lv_at hl 0 rfl) ?_
      refine lv_lload hx hb d_Pt_placeOnAxis_43 (lv_at hl 7 rfl) ?_
      refine gh_cV (ci := 3) (As := [.long (u * w), .long al, .long (v * w), .long w]) (rest := []) (xF_ok b0) hx hb hml hown hK hX hG rfl ha (c_Pt_place ha) (q_Pt_place htb ⟨by decide, by decide⟩) (htb _ k_2_207) (htb _ k_2_96) (htb _ k_2_97) rfl hl.1 rfl (Nat.le_of_ble_eq_true rfl) d_Pt_placeOnAxis_45 ⟨by decide, by decide⟩ (fun v9 h9 H l9 hp9 hG => ?_) (fun _ _ _ _ hp9 _ => by cases hp9.1)
      obtain ⟨hv9, hh9⟩ := hp9
      cases hv9
      rw [hh9] at hG
      refine W.eq (g2 := F0 m 48 ls []) rfl ?_
      refine W.widen (k := 0) (n := 0) (by decide) (by decide) ?_
      refine lv_goto (tgt := 62) hx hb d_Pt_placeOnAxis_48 (by decide) ?_
      exact gh_vret hx hb hr hlk hG d_Pt_placeOnAxis_62 ⟨rfl, by simp_all [m_onax]⟩
  · skip
    refine lv_aload_n hx hb d_Pt_placeOnAxis_18 rfl (lv_at hl 2 rfl) ?_
    refine lv_lload_n hx hb d_Pt_placeOnAxis_19 rfl (lv_at hl 4 rfl) ?_
    refine lv_lload hx hb d_Pt_placeOnAxis_20 (lv_at hl 1 rfl) ?_
    refine lv_lload hx hb d_Pt_placeOnAxis_22 (lv_at hl 0 rfl) ?_
    refine lv_lload hx hb d_Pt_placeOnAxis_24 (lv_at hl 7 rfl) ?_
    refine gh_cV (ci := 3) (As := [.long al, .long (u * w), .long (v * w), .long w]) (rest := []) (xF_ok b0) hx hb hml hown hK hX hG rfl ha (c_Pt_place ha) (q_Pt_place htb ⟨by decide, by decide⟩) (htb _ k_2_207) (htb _ k_2_96) (htb _ k_2_97) rfl hl.1 rfl (Nat.le_of_ble_eq_true rfl) d_Pt_placeOnAxis_26 ⟨by decide, by decide⟩ (fun v9 h9 H l9 hp9 hG => ?_) (fun _ _ _ _ hp9 _ => by cases hp9.1)
    obtain ⟨hv9, hh9⟩ := hp9
    cases hv9
    rw [hh9] at hG
    refine W.eq (g2 := F0 m 29 ls []) rfl ?_
    refine W.widen (k := 0) (n := 0) (by decide) (by decide) ?_
    refine lv_goto (tgt := 62) hx hb d_Pt_placeOnAxis_29 (by decide) ?_
    exact gh_vret hx hb hr hlk hG d_Pt_placeOnAxis_62 ⟨rfl, by simp_all [m_onax]⟩

set_option maxHeartbeats 4000000 in
set_option maxRecDepth 100000 in
/-- Plane(a, b, c, d) -/
theorem c_Pl_init {a : Nat} {x y z w : Int64} (ha : h a = some (.inr (1, [.long 0, .long 0, .long 0, .long 0]))) : gh_C l D vC (tZ cI cJ cP cS) (xF b0) b0 y_Pl_init w_Pl_init ({ frames := 1, cells := 0, slots := 0, locals := 12 }) [.ref a, .long x, .long y, .long z, .long w] h (rV (gh_up h a (.inr (1, [.long x, .long y, .long z, .long w])))) := by
  refine gh_ofW (by decide) (Nat.le_of_ble_eq_true rfl) ?_
  intro p e s m below meth c ls hctx hno hl hG hK hX
  obtain ⟨hx, hb, hr, hml, hown, hlk, hts, hnm⟩ := hctx
  have htb : ∀ w ∈ tB, w.before _ s = true := fun w hw => hts w (List.mem_cons_of_mem _ hw)
  replace hl : lv_has ls 9 [(0, .ref a), (1, .long x), (3, .long y), (5, .long z), (7, .long w)] := hl
  refine lv_aload_n hx hb d_Pl_init_0 rfl (lv_at hl 0 rfl) ?_
  refine W.objInit hx hb hown (htb _ k_1_36) (htb _ k_1_21) (htb _ k_1_22) rfl (by rw [hml]; exact hl.1) rfl d_Pl_init_1 (Nat.le_of_ble_eq_true rfl) (Nat.le_of_ble_eq_true rfl) ?_
  refine W.eq (g2 := F0 m 4 ls []) rfl ?_
  refine lv_aload_n hx hb d_Pl_init_4 rfl (lv_at hl 0 rfl) ?_
  refine lv_lload_n hx hb d_Pl_init_5 rfl (lv_at hl 1 rfl) ?_
  refine gh_putF (ci := 1) (ty := .long) hx hb htb in_Pl t_Pl ty_Pl nm_Pl hown hK hG ha rfl 0 (by decide) (htb _ k_1_37) (fun _ h9 => h9) rfl hnm rfl (by decide +kernel) rfl rfl (Nat.le_of_ble_eq_true rfl) d_Pl_init_6 (fun H l9 hG => ?_)
  have hq1 : (gh_up h a (.inr (1, [.long x, .long 0, .long 0, .long 0]))) a = some (.inr (1, [.long x, .long 0, .long 0, .long 0])) := gh_self _ _ _
  replace hG : gh_P D vC b0 (gh_up h a (.inr (1, [.long x, .long 0, .long 0, .long 0]))) s.heap _ _ := hG
  refine lv_aload_n hx hb d_Pl_init_9 rfl (lv_at hl 0 rfl) ?_
  refine lv_lload_n hx hb d_Pl_init_10 rfl (lv_at hl 2 rfl) ?_
  refine gh_putF (ci := 1) (ty := .long) hx hb htb in_Pl t_Pl ty_Pl nm_Pl hown hK hG hq1 rfl 1 (by decide) (htb _ k_1_38) (fun _ h9 => h9) rfl hnm rfl (by decide +kernel) rfl rfl (Nat.le_of_ble_eq_true rfl) d_Pl_init_11 (fun H l9 hG => ?_)
  have hq2 : (gh_up (gh_up h a (.inr (1, [.long x, .long 0, .long 0, .long 0]))) a (.inr (1, [.long x, .long y, .long 0, .long 0]))) a = some (.inr (1, [.long x, .long y, .long 0, .long 0])) := gh_self _ _ _
  replace hG : gh_P D vC b0 (gh_up (gh_up h a (.inr (1, [.long x, .long 0, .long 0, .long 0]))) a (.inr (1, [.long x, .long y, .long 0, .long 0]))) s.heap _ _ := hG
  refine lv_aload_n hx hb d_Pl_init_14 rfl (lv_at hl 0 rfl) ?_
  refine lv_lload hx hb d_Pl_init_15 (lv_at hl 3 rfl) ?_
  refine gh_putF (ci := 1) (ty := .long) hx hb htb in_Pl t_Pl ty_Pl nm_Pl hown hK hG hq2 rfl 2 (by decide) (htb _ k_1_39) (fun _ h9 => h9) rfl hnm rfl (by decide +kernel) rfl rfl (Nat.le_of_ble_eq_true rfl) d_Pl_init_17 (fun H l9 hG => ?_)
  have hq3 : (gh_up (gh_up (gh_up h a (.inr (1, [.long x, .long 0, .long 0, .long 0]))) a (.inr (1, [.long x, .long y, .long 0, .long 0]))) a (.inr (1, [.long x, .long y, .long z, .long 0]))) a = some (.inr (1, [.long x, .long y, .long z, .long 0])) := gh_self _ _ _
  replace hG : gh_P D vC b0 (gh_up (gh_up (gh_up h a (.inr (1, [.long x, .long 0, .long 0, .long 0]))) a (.inr (1, [.long x, .long y, .long 0, .long 0]))) a (.inr (1, [.long x, .long y, .long z, .long 0]))) s.heap _ _ := hG
  refine lv_aload_n hx hb d_Pl_init_20 rfl (lv_at hl 0 rfl) ?_
  refine lv_lload hx hb d_Pl_init_21 (lv_at hl 4 rfl) ?_
  refine gh_putF (ci := 1) (ty := .long) hx hb htb in_Pl t_Pl ty_Pl nm_Pl hown hK hG hq3 rfl 3 (by decide) (htb _ k_1_40) (fun _ h9 => h9) rfl hnm rfl (by decide +kernel) rfl rfl (Nat.le_of_ble_eq_true rfl) d_Pl_init_23 (fun H l9 hG => ?_)
  have hq4 : (gh_up (gh_up (gh_up (gh_up h a (.inr (1, [.long x, .long 0, .long 0, .long 0]))) a (.inr (1, [.long x, .long y, .long 0, .long 0]))) a (.inr (1, [.long x, .long y, .long z, .long 0]))) a (.inr (1, [.long x, .long y, .long z, .long w]))) a = some (.inr (1, [.long x, .long y, .long z, .long w])) := gh_self _ _ _
  replace hG : gh_P D vC b0 (gh_up (gh_up (gh_up (gh_up h a (.inr (1, [.long x, .long 0, .long 0, .long 0]))) a (.inr (1, [.long x, .long y, .long 0, .long 0]))) a (.inr (1, [.long x, .long y, .long z, .long 0]))) a (.inr (1, [.long x, .long y, .long z, .long w]))) s.heap _ _ := hG
  exact gh_vret hx hb hr hlk hG d_Pl_init_26 ⟨rfl, by simp only [gh_uu]⟩

set_option maxHeartbeats 4000000 in
set_option maxRecDepth 100000 in
/-- factor -/
theorem c_Pl_factor {a : Nat} {ax : Int32} {pa pb pc pd : Int64} (ha : h a = some (.inr (1, [.long pa, .long pb, .long pc, .long pd]))) : gh_C l D vC (tZ cI cJ cP cS) (xF b0) b0 y_Pl_factor w_Pl_factor ({ frames := 0, cells := 0, slots := 0, locals := 0 }) [.ref a, .int ax] h (rL (m_fac ax pa pb pc) h) := by
  refine gh_ofW (by decide) (Nat.le_of_ble_eq_true rfl) ?_
  intro p e s m below meth c ls hctx hno hl hG hK hX
  obtain ⟨hx, hb, hr, hml, hown, hlk, hts, hnm⟩ := hctx
  have htb : ∀ w ∈ tB, w.before _ s = true := fun w hw => hts w (List.mem_cons_of_mem _ hw)
  replace hl : lv_has ls 2 [(0, .ref a), (1, .int ax)] := hl
  refine lv_iload_n hx hb d_Pl_factor_0 rfl (lv_at hl 1 rfl) ?_
  refine lv_if_ne (tgt := 9) hx hb d_Pl_factor_1 (by decide) (fun hc1 => ?_) (fun hc1 => ?_)
  · skip
    refine lv_iload_n hx hb d_Pl_factor_9 rfl (lv_at hl 1 rfl) ?_
    refine lv_iconst (v := 1) hx hb d_Pl_factor_10 (by decide) ?_
    refine lv_icmp_ne (tgt := 21) hx hb d_Pl_factor_11 (by decide) (fun hc11 => ?_) (fun hc11 => ?_)
    · skip
      refine lv_aload_n hx hb d_Pl_factor_21 rfl (lv_at hl 0 rfl) ?_
      refine gh_get (ci := 1) hx hb htb in_Pl hown hK hG ha rfl 2 (by decide) (htb _ k_1_39) (fun _ h9 => h9) rfl d_Pl_factor_22 ?_
      exact gh_lret hx hb hr hlk hG d_Pl_factor_25 ⟨by unfold m_fac; simp_all, rfl⟩
    · skip
      refine lv_aload_n hx hb d_Pl_factor_14 rfl (lv_at hl 0 rfl) ?_
      refine gh_get (ci := 1) hx hb htb in_Pl hown hK hG ha rfl 1 (by decide) (htb _ k_1_38) (fun _ h9 => h9) rfl d_Pl_factor_15 ?_
      refine lv_goto (tgt := 25) hx hb d_Pl_factor_18 (by decide) ?_
      exact gh_lret hx hb hr hlk hG d_Pl_factor_25 ⟨by unfold m_fac; simp_all, rfl⟩
  · skip
    refine lv_aload_n hx hb d_Pl_factor_4 rfl (lv_at hl 0 rfl) ?_
    refine gh_get (ci := 1) hx hb htb in_Pl hown hK hG ha rfl 0 (by decide) (htb _ k_1_37) (fun _ h9 => h9) rfl d_Pl_factor_5 ?_
    exact gh_lret hx hb hr hlk hG d_Pl_factor_8 ⟨by unfold m_fac; simp_all, rfl⟩

set_option maxHeartbeats 4000000 in
set_option maxRecDepth 100000 in
/-- excess -/
theorem c_Pl_excess {a q : Nat} {pa pb pc pd x y z w : Int64} (ha : h a = some (.inr (1, [.long pa, .long pb, .long pc, .long pd]))) (hp : h q = some (.inr (3, [.long x, .long y, .long z, .long w]))) : gh_C l D vC (tZ cI cJ cP cS) (xF b0) b0 y_Pl_excess w_Pl_excess ({ frames := 0, cells := 0, slots := 0, locals := 0 }) [.ref a, .ref q] h (rL (m_exc pa pb pc pd x y z w) h) := by
  refine gh_ofW (by decide) (Nat.le_of_ble_eq_true rfl) ?_
  intro p e s m below meth c ls hctx hno hl hG hK hX
  obtain ⟨hx, hb, hr, hml, hown, hlk, hts, hnm⟩ := hctx
  have htb : ∀ w ∈ tB, w.before _ s = true := fun w hw => hts w (List.mem_cons_of_mem _ hw)
  replace hl : lv_has ls 2 [(0, .ref a), (1, .ref q)] := hl
  refine lv_aload_n hx hb d_Pl_excess_0 rfl (lv_at hl 0 rfl) ?_
  refine gh_get (ci := 1) hx hb htb in_Pl hown hK hG ha rfl 0 (by decide) (htb _ k_1_37) (fun _ h9 => h9) rfl d_Pl_excess_1 ?_
  refine lv_aload_n hx hb d_Pl_excess_4 rfl (lv_at hl 1 rfl) ?_
  refine gh_getN (ci := 3) hx hb htb in_Pt hown hK hG hp rfl 0 (by decide) (va_Nw.use rfl (hX.1 (22, "x") (by decide))) (fun _ h9 => h9) rfl d_Pl_excess_5 ?_
  refine lv_lmul hx hb d_Pl_excess_8 ?_
  refine lv_aload_n hx hb d_Pl_excess_9 rfl (lv_at hl 0 rfl) ?_
  refine gh_get (ci := 1) hx hb htb in_Pl hown hK hG ha rfl 1 (by decide) (htb _ k_1_38) (fun _ h9 => h9) rfl d_Pl_excess_10 ?_
  refine lv_aload_n hx hb d_Pl_excess_13 rfl (lv_at hl 1 rfl) ?_
  refine gh_getN (ci := 3) hx hb htb in_Pt hown hK hG hp rfl 1 (by decide) (va_Nw.use rfl (hX.1 (27, "y") (by decide))) (fun _ h9 => h9) rfl d_Pl_excess_14 ?_
  refine lv_lmul hx hb d_Pl_excess_17 ?_
  refine lv_ladd hx hb d_Pl_excess_18 ?_
  refine lv_aload_n hx hb d_Pl_excess_19 rfl (lv_at hl 0 rfl) ?_
  refine gh_get (ci := 1) hx hb htb in_Pl hown hK hG ha rfl 2 (by decide) (htb _ k_1_39) (fun _ h9 => h9) rfl d_Pl_excess_20 ?_
  refine lv_aload_n hx hb d_Pl_excess_23 rfl (lv_at hl 1 rfl) ?_
  refine gh_getN (ci := 3) hx hb htb in_Pt hown hK hG hp rfl 2 (by decide) (va_Nw.use rfl (hX.1 (30, "z") (by decide))) (fun _ h9 => h9) rfl d_Pl_excess_24 ?_
  refine lv_lmul hx hb d_Pl_excess_27 ?_
  refine lv_ladd hx hb d_Pl_excess_28 ?_
  refine lv_aload_n hx hb d_Pl_excess_29 rfl (lv_at hl 0 rfl) ?_
  refine gh_get (ci := 1) hx hb htb in_Pl hown hK hG ha rfl 3 (by decide) (htb _ k_1_40) (fun _ h9 => h9) rfl d_Pl_excess_30 ?_
  refine lv_aload_n hx hb d_Pl_excess_33 rfl (lv_at hl 1 rfl) ?_
  refine gh_getN (ci := 3) hx hb htb in_Pt hown hK hG hp rfl 3 (by decide) (va_Nw.use rfl (hX.1 (33, "w") (by decide))) (fun _ h9 => h9) rfl d_Pl_excess_34 ?_
  refine lv_lmul hx hb d_Pl_excess_37 ?_
  refine lv_lsub hx hb d_Pl_excess_38 ?_
  exact gh_lret hx hb hr hlk hG d_Pl_excess_39 ⟨rfl, rfl⟩

set_option maxHeartbeats 4000000 in
set_option maxRecDepth 100000 in
/-- isOneWith -/
theorem c_Pl_isOneWith {a q : Nat} {pa pb pc pd qa qb qc qd : Int64} (ha : h a = some (.inr (1, [.long pa, .long pb, .long pc, .long pd]))) (hq : h q = some (.inr (1, [.long qa, .long qb, .long qc, .long qd]))) : gh_C l D vC (tZ cI cJ cP cS) (xF b0) b0 y_Pl_isOneWith w_Pl_isOneWith ({ frames := 0, cells := 0, slots := 0, locals := 0 }) [.ref a, .ref q] h (rI (m_b (m_one pa pb pc pd qa qb qc qd)) h) := by
  refine gh_ofW (by decide) (Nat.le_of_ble_eq_true rfl) ?_
  intro p e s m below meth c ls hctx hno hl hG hK hX
  obtain ⟨hx, hb, hr, hml, hown, hlk, hts, hnm⟩ := hctx
  have htb : ∀ w ∈ tB, w.before _ s = true := fun w hw => hts w (List.mem_cons_of_mem _ hw)
  replace hl : lv_has ls 2 [(0, .ref a), (1, .ref q)] := hl
  refine lv_aload_n hx hb d_Pl_isOneWith_0 rfl (lv_at hl 0 rfl) ?_
  refine gh_get (ci := 1) hx hb htb in_Pl hown hK hG ha rfl 0 (by decide) (htb _ k_1_37) (fun _ h9 => h9) rfl d_Pl_isOneWith_1 ?_
  refine lv_aload_n hx hb d_Pl_isOneWith_4 rfl (lv_at hl 1 rfl) ?_
  refine gh_get (ci := 1) hx hb htb in_Pl hown hK hG hq rfl 1 (by decide) (htb _ k_1_38) (fun _ h9 => h9) rfl d_Pl_isOneWith_5 ?_
  refine lv_lmul hx hb d_Pl_isOneWith_8 ?_
  refine lv_aload_n hx hb d_Pl_isOneWith_9 rfl (lv_at hl 0 rfl) ?_
  refine gh_get (ci := 1) hx hb htb in_Pl hown hK hG ha rfl 1 (by decide) (htb _ k_1_38) (fun _ h9 => h9) rfl d_Pl_isOneWith_10 ?_
  refine lv_aload_n hx hb d_Pl_isOneWith_13 rfl (lv_at hl 1 rfl) ?_
  refine gh_get (ci := 1) hx hb htb in_Pl hown hK hG hq rfl 0 (by decide) (htb _ k_1_37) (fun _ h9 => h9) rfl d_Pl_isOneWith_14 ?_
  refine lv_lmul hx hb d_Pl_isOneWith_17 ?_
  refine W.lcmp hx hb d_Pl_isOneWith_18 ?_
  refine lv_if_ne (tgt := 136) hx hb d_Pl_isOneWith_19 (by decide) (fun hc19 => ?_) (fun hc19 => ?_)
  · skip
    rw [lg_cmp_eq] at hc19
    refine lv_iconst (v := 0) hx hb d_Pl_isOneWith_136 (by decide) ?_
    exact gh_iret hx hb hr hlk rfl hG d_Pl_isOneWith_137 ⟨by simp_all [m_one, m_b], rfl⟩
  · skip
    rw [lg_cmp_eq] at hc19
    refine lv_aload_n hx hb d_Pl_isOneWith_22 rfl (lv_at hl 0 rfl) ?_
    refine gh_get (ci := 1) hx hb htb in_Pl hown hK hG ha rfl 0 (by decide) (htb _ k_1_37) (fun _ h9 => h9) rfl d_Pl_isOneWith_23 ?_
    refine lv_aload_n hx hb d_Pl_isOneWith_26 rfl (lv_at hl 1 rfl) ?_
    refine gh_get (ci := 1) hx hb htb in_Pl hown hK hG hq rfl 2 (by decide) (htb _ k_1_39) (fun _ h9 => h9) rfl d_Pl_isOneWith_27 ?_
    refine lv_lmul hx hb d_Pl_isOneWith_30 ?_
    refine lv_aload_n hx hb d_Pl_isOneWith_31 rfl (lv_at hl 0 rfl) ?_
    refine gh_get (ci := 1) hx hb htb in_Pl hown hK hG ha rfl 2 (by decide) (htb _ k_1_39) (fun _ h9 => h9) rfl d_Pl_isOneWith_32 ?_
    refine lv_aload_n hx hb d_Pl_isOneWith_35 rfl (lv_at hl 1 rfl) ?_
    refine gh_get (ci := 1) hx hb htb in_Pl hown hK hG hq rfl 0 (by decide) (htb _ k_1_37) (fun _ h9 => h9) rfl d_Pl_isOneWith_36 ?_
    refine lv_lmul hx hb d_Pl_isOneWith_39 ?_
    refine W.lcmp hx hb d_Pl_isOneWith_40 ?_
    refine lv_if_ne (tgt := 136) hx hb d_Pl_isOneWith_41 (by decide) (fun hc41 => ?_) (fun hc41 => ?_)
    · skip
      rw [lg_cmp_eq] at hc41
      refine lv_iconst (v := 0) hx hb d_Pl_isOneWith_136 (by decide) ?_
      exact gh_iret hx hb hr hlk rfl hG d_Pl_isOneWith_137 ⟨by simp_all [m_one, m_b], rfl⟩
    · skip
      rw [lg_cmp_eq] at hc41
      refine lv_aload_n hx hb d_Pl_isOneWith_44 rfl (lv_at hl 0 rfl) ?_
      refine gh_get (ci := 1) hx hb htb in_Pl hown hK hG ha rfl 1 (by decide) (htb _ k_1_38) (fun _ h9 => h9) rfl d_Pl_isOneWith_45 ?_
      refine lv_aload_n hx hb d_Pl_isOneWith_48 rfl (lv_at hl 1 rfl) ?_
      refine gh_get (ci := 1) hx hb htb in_Pl hown hK hG hq rfl 2 (by decide) (htb _ k_1_39) (fun _ h9 => h9) rfl d_Pl_isOneWith_49 ?_
      refine lv_lmul hx hb d_Pl_isOneWith_52 ?_
      refine lv_aload_n hx hb d_Pl_isOneWith_53 rfl (lv_at hl 0 rfl) ?_
      refine gh_get (ci := 1) hx hb htb in_Pl hown hK hG ha rfl 2 (by decide) (htb _ k_1_39) (fun _ h9 => h9) rfl d_Pl_isOneWith_54 ?_
      refine lv_aload_n hx hb d_Pl_isOneWith_57 rfl (lv_at hl 1 rfl) ?_
      refine gh_get (ci := 1) hx hb htb in_Pl hown hK hG hq rfl 1 (by decide) (htb _ k_1_38) (fun _ h9 => h9) rfl d_Pl_isOneWith_58 ?_
      refine lv_lmul hx hb d_Pl_isOneWith_61 ?_
      refine W.lcmp hx hb d_Pl_isOneWith_62 ?_
      refine lv_if_ne (tgt := 136) hx hb d_Pl_isOneWith_63 (by decide) (fun hc63 => ?_) (fun hc63 => ?_)
      · skip
        rw [lg_cmp_eq] at hc63
        refine lv_iconst (v := 0) hx hb d_Pl_isOneWith_136 (by decide) ?_
        exact gh_iret hx hb hr hlk rfl hG d_Pl_isOneWith_137 ⟨by simp_all [m_one, m_b], rfl⟩
      · skip
        rw [lg_cmp_eq] at hc63
        refine lv_aload_n hx hb d_Pl_isOneWith_66 rfl (lv_at hl 0 rfl) ?_
        refine gh_get (ci := 1) hx hb htb in_Pl hown hK hG ha rfl 0 (by decide) (htb _ k_1_37) (fun _ h9 => h9) rfl d_Pl_isOneWith_67 ?_
        refine lv_aload_n hx hb d_Pl_isOneWith_70 rfl (lv_at hl 1 rfl) ?_
        refine gh_get (ci := 1) hx hb htb in_Pl hown hK hG hq rfl 3 (by decide) (htb _ k_1_40) (fun _ h9 => h9) rfl d_Pl_isOneWith_71 ?_
        refine lv_lmul hx hb d_Pl_isOneWith_74 ?_
        refine lv_aload_n hx hb d_Pl_isOneWith_75 rfl (lv_at hl 0 rfl) ?_
        refine gh_get (ci := 1) hx hb htb in_Pl hown hK hG ha rfl 3 (by decide) (htb _ k_1_40) (fun _ h9 => h9) rfl d_Pl_isOneWith_76 ?_
        refine lv_aload_n hx hb d_Pl_isOneWith_79 rfl (lv_at hl 1 rfl) ?_
        refine gh_get (ci := 1) hx hb htb in_Pl hown hK hG hq rfl 0 (by decide) (htb _ k_1_37) (fun _ h9 => h9) rfl d_Pl_isOneWith_80 ?_
        refine lv_lmul hx hb d_Pl_isOneWith_83 ?_
        refine W.lcmp hx hb d_Pl_isOneWith_84 ?_
        refine lv_if_ne (tgt := 136) hx hb d_Pl_isOneWith_85 (by decide) (fun hc85 => ?_) (fun hc85 => ?_)
        · skip
          rw [lg_cmp_eq] at hc85
          refine lv_iconst (v := 0) hx hb d_Pl_isOneWith_136 (by decide) ?_
          exact gh_iret hx hb hr hlk rfl hG d_Pl_isOneWith_137 ⟨by simp_all [m_one, m_b], rfl⟩
        · skip
          rw [lg_cmp_eq] at hc85
          refine lv_aload_n hx hb d_Pl_isOneWith_88 rfl (lv_at hl 0 rfl) ?_
          refine gh_get (ci := 1) hx hb htb in_Pl hown hK hG ha rfl 1 (by decide) (htb _ k_1_38) (fun _ h9 => h9) rfl d_Pl_isOneWith_89 ?_
          refine lv_aload_n hx hb d_Pl_isOneWith_92 rfl (lv_at hl 1 rfl) ?_
          refine gh_get (ci := 1) hx hb htb in_Pl hown hK hG hq rfl 3 (by decide) (htb _ k_1_40) (fun _ h9 => h9) rfl d_Pl_isOneWith_93 ?_
          refine lv_lmul hx hb d_Pl_isOneWith_96 ?_
          refine lv_aload_n hx hb d_Pl_isOneWith_97 rfl (lv_at hl 0 rfl) ?_
          refine gh_get (ci := 1) hx hb htb in_Pl hown hK hG ha rfl 3 (by decide) (htb _ k_1_40) (fun _ h9 => h9) rfl d_Pl_isOneWith_98 ?_
          refine lv_aload_n hx hb d_Pl_isOneWith_101 rfl (lv_at hl 1 rfl) ?_
          refine gh_get (ci := 1) hx hb htb in_Pl hown hK hG hq rfl 1 (by decide) (htb _ k_1_38) (fun _ h9 => h9) rfl d_Pl_isOneWith_102 ?_
          refine lv_lmul hx hb d_Pl_isOneWith_105 ?_
          refine W.lcmp hx hb d_Pl_isOneWith_106 ?_
          refine lv_if_ne (tgt := 136) hx hb d_Pl_isOneWith_107 (by decide) (fun hc107 => ?_) (fun hc107 => ?_)
          · skip
            rw [lg_cmp_eq] at hc107
            refine lv_iconst (v := 0) hx hb d_Pl_isOneWith_136 (by decide) ?_
            exact gh_iret hx hb hr hlk rfl hG d_Pl_isOneWith_137 ⟨by simp_all [m_one, m_b], rfl⟩
          · skip
            rw [lg_cmp_eq] at hc107
            refine lv_aload_n hx hb d_Pl_isOneWith_110 rfl (lv_at hl 0 rfl) ?_
            refine gh_get (ci := 1) hx hb htb in_Pl hown hK hG ha rfl 2 (by decide) (htb _ k_1_39) (fun _ h9 => h9) rfl d_Pl_isOneWith_111 ?_
            refine lv_aload_n hx hb d_Pl_isOneWith_114 rfl (lv_at hl 1 rfl) ?_
            refine gh_get (ci := 1) hx hb htb in_Pl hown hK hG hq rfl 3 (by decide) (htb _ k_1_40) (fun _ h9 => h9) rfl d_Pl_isOneWith_115 ?_
            refine lv_lmul hx hb d_Pl_isOneWith_118 ?_
            refine lv_aload_n hx hb d_Pl_isOneWith_119 rfl (lv_at hl 0 rfl) ?_
            refine gh_get (ci := 1) hx hb htb in_Pl hown hK hG ha rfl 3 (by decide) (htb _ k_1_40) (fun _ h9 => h9) rfl d_Pl_isOneWith_120 ?_
            refine lv_aload_n hx hb d_Pl_isOneWith_123 rfl (lv_at hl 1 rfl) ?_
            refine gh_get (ci := 1) hx hb htb in_Pl hown hK hG hq rfl 2 (by decide) (htb _ k_1_39) (fun _ h9 => h9) rfl d_Pl_isOneWith_124 ?_
            refine lv_lmul hx hb d_Pl_isOneWith_127 ?_
            refine W.lcmp hx hb d_Pl_isOneWith_128 ?_
            refine lv_if_ne (tgt := 136) hx hb d_Pl_isOneWith_129 (by decide) (fun hc129 => ?_) (fun hc129 => ?_)
            · skip
              rw [lg_cmp_eq] at hc129
              refine lv_iconst (v := 0) hx hb d_Pl_isOneWith_136 (by decide) ?_
              exact gh_iret hx hb hr hlk rfl hG d_Pl_isOneWith_137 ⟨by simp_all [m_one, m_b], rfl⟩
            · skip
              rw [lg_cmp_eq] at hc129
              refine lv_iconst (v := 1) hx hb d_Pl_isOneWith_132 (by decide) ?_
              refine lv_goto (tgt := 137) hx hb d_Pl_isOneWith_133 (by decide) ?_
              exact gh_iret hx hb hr hlk rfl hG d_Pl_isOneWith_137 ⟨by simp_all [m_one, m_b], rfl⟩

set_option maxHeartbeats 4000000 in
set_option maxRecDepth 100000 in
/-- looksLike -/
theorem c_Pl_looksLike {a q : Nat} {pa pb pc pd qa qb qc qd : Int64} (ha : h a = some (.inr (1, [.long pa, .long pb, .long pc, .long pd]))) (hq : h q = some (.inr (1, [.long qa, .long qb, .long qc, .long qd]))) : gh_C l D vC (tZ cI cJ cP cS) (xF b0) b0 y_Pl_looksLike w_Pl_looksLike ({ frames := 0, cells := 0, slots := 0, locals := 0 }) [.ref a, .ref q] h (rI (m_b (m_lk pa pb pc qa qb qc)) h) := by
  refine gh_ofW (by decide) (Nat.le_of_ble_eq_true rfl) ?_
  intro p e s m below meth c ls hctx hno hl hG hK hX
  obtain ⟨hx, hb, hr, hml, hown, hlk, hts, hnm⟩ := hctx
  have htb : ∀ w ∈ tB, w.before _ s = true := fun w hw => hts w (List.mem_cons_of_mem _ hw)
  replace hl : lv_has ls 2 [(0, .ref a), (1, .ref q)] := hl
  refine lv_aload_n hx hb d_Pl_looksLike_0 rfl (lv_at hl 0 rfl) ?_
  refine gh_get (ci := 1) hx hb htb in_Pl hown hK hG ha rfl 0 (by decide) (htb _ k_1_37) (fun _ h9 => h9) rfl d_Pl_looksLike_1 ?_
  refine lv_aload_n hx hb d_Pl_looksLike_4 rfl (lv_at hl 1 rfl) ?_
  refine gh_get (ci := 1) hx hb htb in_Pl hown hK hG hq rfl 0 (by decide) (htb _ k_1_37) (fun _ h9 => h9) rfl d_Pl_looksLike_5 ?_
  refine lv_lmul hx hb d_Pl_looksLike_8 ?_
  refine lv_aload_n hx hb d_Pl_looksLike_9 rfl (lv_at hl 0 rfl) ?_
  refine gh_get (ci := 1) hx hb htb in_Pl hown hK hG ha rfl 1 (by decide) (htb _ k_1_38) (fun _ h9 => h9) rfl d_Pl_looksLike_10 ?_
  refine lv_aload_n hx hb d_Pl_looksLike_13 rfl (lv_at hl 1 rfl) ?_
  refine gh_get (ci := 1) hx hb htb in_Pl hown hK hG hq rfl 1 (by decide) (htb _ k_1_38) (fun _ h9 => h9) rfl d_Pl_looksLike_14 ?_
  refine lv_lmul hx hb d_Pl_looksLike_17 ?_
  refine lv_ladd hx hb d_Pl_looksLike_18 ?_
  refine lv_aload_n hx hb d_Pl_looksLike_19 rfl (lv_at hl 0 rfl) ?_
  refine gh_get (ci := 1) hx hb htb in_Pl hown hK hG ha rfl 2 (by decide) (htb _ k_1_39) (fun _ h9 => h9) rfl d_Pl_looksLike_20 ?_
  refine lv_aload_n hx hb d_Pl_looksLike_23 rfl (lv_at hl 1 rfl) ?_
  refine gh_get (ci := 1) hx hb htb in_Pl hown hK hG hq rfl 2 (by decide) (htb _ k_1_39) (fun _ h9 => h9) rfl d_Pl_looksLike_24 ?_
  refine lv_lmul hx hb d_Pl_looksLike_27 ?_
  refine lv_ladd hx hb d_Pl_looksLike_28 ?_
  refine lv_lconst (v := 0) hx hb d_Pl_looksLike_29 (by decide) ?_
  refine W.lcmp hx hb d_Pl_looksLike_30 ?_
  refine lv_if_le (tgt := 38) hx hb d_Pl_looksLike_31 (by decide) (fun hc31 => ?_) (fun hc31 => ?_)
  · skip
    rw [lg_cmp_le] at hc31
    refine lv_iconst (v := 0) hx hb d_Pl_looksLike_38 (by decide) ?_
    exact gh_iret hx hb hr hlk rfl hG d_Pl_looksLike_39 ⟨by simp_all [m_lk, m_b], rfl⟩
  · skip
    rw [lg_cmp_le] at hc31
    refine lv_iconst (v := 1) hx hb d_Pl_looksLike_34 (by decide) ?_
    refine lv_goto (tgt := 39) hx hb d_Pl_looksLike_35 (by decide) ?_
    exact gh_iret hx hb hr hlk rfl hG d_Pl_looksLike_39 ⟨by simp_all [m_lk, m_b], rfl⟩

end
