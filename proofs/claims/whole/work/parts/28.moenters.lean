theorem sw_end {F : Int → Bool} {act : Nat → Bool} {key : Nat → Int} {hi x : Int} {n f : Nat} {inn : Bool} (h : ¬ x < hi) : sw_run F act key hi n f x inn = 0 := by
  cases f with
  | zero => rfl
  | succ f => simp only [sw_run]; rw [if_neg h]
theorem sw_go {F : Int → Bool} {act : Nat → Bool} {key : Nat → Int} {hi x : Int} {n f : Nat} {inn : Bool} (h : x < hi) : sw_run F act key hi n (f + 1) x inn = (if F x = true ∧ inn = false then 1 else 0) + sw_run F act key hi n f (sw_nx act key x hi n) (F x) := by
  simp only [sw_run]; rw [if_pos h]
theorem mu_pos {act : Nat → Bool} {key : Nat → Int} {hi x : Int} {g : Nat} (h : x < hi) : 1 ≤ sw_mu act key hi g x := by unfold sw_mu; rw [if_pos h]; omega
theorem mu_le {act : Nat → Bool} {key : Nat → Int} {hi x : Int} {g : Nat} : sw_mu act key hi g x ≤ g + 1 := by
  unfold sw_mu
  have := mc_le (fun k => act k && decide (x < key k) && decide (key k < hi)) g
  split <;> omega
section
variable {nf ff : Nat → Int32} {g a k : Nat} {u v : Int32} {ky : Int64 × Int64 → Int} {v1 t1 d1 : Nat → Int64} {t d c1 c2 : Int64}
theorem en_no (hD : v_D nf ff g a u v v1 t1 d1) (hK : v_K nf ff g a u v ky) (hS : v_S nf ff g a u v (t, d)) (hS2 : v_S nf ff g a u v (c1, c2)) (hk : k < g) (hc : d1 k ≤ 0 ∨ v_cmp (t1 k) (d1 k) t d ≤ 0 ∨ 0 ≤ v_cmp (t1 k) (d1 k) c1 c2) (he : ky (c1, c2) = sw_nx (v_act nf a) (v_key nf ff a u v ky) (ky (t, d)) (ky (1000, 1)) k) :
    v_S nf ff g a u v (c1, c2) ∧ ky (c1, c2) = sw_nx (v_act nf a) (v_key nf ff a u v ky) (ky (t, d)) (ky (1000, 1)) (k + 1) := by
  refine ⟨hS2, ?_⟩
  obtain ⟨-, h2, h3⟩ := hD k hk
  rw [h2, h3] at hc
  simp only [sw_nx]
  rw [if_neg, he]
  intro ⟨z1, z2, z3⟩
  rw [← he] at z3
  have hd : ¬ v_dn nf a k ≤ 0 := by
    unfold v_act at z1
    simpa using z1
  have hSk : v_S nf ff g a u v (v_tp nf ff a u v k, v_dn nf a k) := Or.inr (Or.inr ⟨k, hk, hd, rfl⟩)
  rcases hc with hc | hc | hc
  · exact hd hc
  · exact Int32.not_lt.mpr hc ((hK _ _ hSk hS).2.mpr z2)
  · exact Int32.not_lt.mpr hc ((hK _ _ hSk hS2).1.mpr z3)
theorem en_yes (hD : v_D nf ff g a u v v1 t1 d1) (hK : v_K nf ff g a u v ky) (hS : v_S nf ff g a u v (t, d)) (hS2 : v_S nf ff g a u v (c1, c2)) (hk : k < g) (k1 : ¬ d1 k ≤ 0) (k2 : ¬ v_cmp (t1 k) (d1 k) t d ≤ 0) (k3 : ¬ 0 ≤ v_cmp (t1 k) (d1 k) c1 c2) (he : ky (c1, c2) = sw_nx (v_act nf a) (v_key nf ff a u v ky) (ky (t, d)) (ky (1000, 1)) k) :
    v_S nf ff g a u v (t1 k, d1 k) ∧ ky (t1 k, d1 k) = sw_nx (v_act nf a) (v_key nf ff a u v ky) (ky (t, d)) (ky (1000, 1)) (k + 1) := by
  obtain ⟨-, h2, h3⟩ := hD k hk
  simp only [h2, h3] at k1 k2 k3 ⊢
  have hSk : v_S nf ff g a u v (v_tp nf ff a u v k, v_dn nf a k) := Or.inr (Or.inr ⟨k, hk, k1, rfl⟩)
  refine ⟨hSk, ?_⟩
  simp only [sw_nx]
  rw [if_pos]
  · rfl
  · refine ⟨by unfold v_act; rw [decide_eq_false k1]; rfl, (hK _ _ hSk hS).2.mp (Int32.not_le.mp k2), ?_⟩
    rw [← he]
    exact (hK _ _ hSk hS2).1.mp (Int32.not_le.mp k3)
end

section
variable {l : Launch} {D : va_G} {cI cJ cP cS : ClassId} {b0 : Nat} {h : gh_M}

theorem c_Mo_meet {mo nm fr hs va tp dn g my : Nat} {th : Int32} {nf ff : Nat → Int32} {hf vf tf df : Nat → Int64} (hW : wM cI cJ h mo nm fr hs va tp dn th g my nf ff hf vf tf df) {a : Nat} (ha : a < 3) {u v : Int32} : gh_C l D vC (tZ cI cJ cP cS) (xF b0) b0 y_Mo_meet w_Mo_meet ({ frames := 0, cells := 0, slots := 0, locals := 0 }) [.ref mo, .int (nI a), .int u, .int v] h (fun oc h2 => ∃ v1 t1 d1 : Nat → Int64, wM cI cJ h2 mo nm fr hs va tp dn th g my nf ff hf v1 t1 d1 ∧ frM h h2 ∧ ((m_any (v_lo nf ff a u v) g = true ∧ oc = .returned (some (.int 0))) ∨ (m_any (v_lo nf ff a u v) g = false ∧ oc = .returned (some (.int 1)) ∧ v_D nf ff g a u v v1 t1 d1))) := by
  rcases (show a = 0 ∨ a = 1 ∨ a = 2 by omega) with rfl | rfl | rfl
  · exact c_Mo_meet0 hW
  · exact c_Mo_meet1 hW
  · exact c_Mo_meet2 hW

set_option maxHeartbeats 4000000 in
set_option maxRecDepth 100000 in
/-- enters -/
theorem c_Mo_enters {mo nm fr hs va tp dn g my : Nat} {th : Int32} {nf ff : Nat → Int32} {hf vf tf df : Nat → Int64} (hW : wM cI cJ h mo nm fr hs va tp dn th g my nf ff hf vf tf df) {ax u v : Int32} {ky : Nat → Int64 × Int64 → Int} (hKy : ∀ a, a < 3 → ax = nI a → m_bey u 999 = false → m_bey v 999 = false → v_K nf ff g a u v (ky a)) : gh_C l D vC (tZ cI cJ cP cS) (xF b0) b0 y_Mo_enters w_Mo_enters ({ frames := 3, cells := 0, slots := 0, locals := 110 }) [.ref mo, .int ax, .int u, .int v] h (rB (v_badE ax u v) (rW (some (.int 0)) (fun h2 => wM cI cJ h2 mo nm fr hs va tp dn 1 g my nf ff hf vf tf df ∧ frM h h2)) (rB (decide (my = 0)) (rW (some (.int 0)) (fun h2 => wM cI cJ h2 mo nm fr hs va tp dn 2 g my nf ff hf vf tf df ∧ frM h h2)) (fun oc h2 => ∃ (a : Nat) (v1 t1 d1 : Nat → Int64), a < 3 ∧ ax = nI a ∧ (((m_any (v_lo nf ff a u v) g = true ∨ m_any (v_crs nf (v_tp nf ff a u v) (v_dn nf a) a) g = true) ∧ oc = .returned (some (.int 0)) ∧ wM cI cJ h2 mo nm fr hs va tp dn 3 g my nf ff hf v1 t1 d1 ∧ frM h h2) ∨ (m_any (v_lo nf ff a u v) g = false ∧ m_any (v_crs nf (v_tp nf ff a u v) (v_dn nf a) a) g = false ∧ oc = .returned (some (.int (nI (v_run nf ff hf g my a u v (ky a) (g + 1) (ky a (-1000, 1)) false)))) ∧ wM cI cJ h2 mo nm fr hs va tp dn 0 g my nf ff hf v1 t1 d1 ∧ frM h h2))))) := by
  refine gh_ofW (by decide) (Nat.le_of_ble_eq_true rfl) ?_
  intro p e s m below meth c ls hctx hno hl hG hK hX
  obtain ⟨hx, hb, hr, hml, hown, hlk, hts, hnm⟩ := hctx
  have htb : ∀ w ∈ tB, w.before _ s = true := fun w hw => hts w (List.mem_cons_of_mem _ hw)
  replace hl : lv_has ls 16 [(0, .ref mo), (1, .int ax), (2, .int u), (3, .int v)] := hl
  obtain ⟨zmo, znm, zfr, zhs, zva, ztp, zdn, zvt, zvd, ztd, zg, zy⟩ := hW
  have zf0 : frM h h := frM_rf h
  refine lv_aload_n hx hb d_Mo_enters_0 rfl (lv_at hl 0 rfl) ?_
  refine lv_iload_n hx hb d_Mo_enters_1 rfl (lv_at hl 1 rfl) ?_
  refine lv_if_lt (tgt := 30) hx hb d_Mo_enters_2 (by decide) (fun hc2 => ?_) (fun hc2 => ?_)
  · skip
    refine lv_iconst (v := 1) hx hb d_Mo_enters_30 (by decide) ?_
    refine lv_goto (tgt := 46) hx hb d_Mo_enters_31 (by decide) ?_
    refine gh_put (ci := 5) (ty := .int) hx hb htb in_Mo t_Mo ty_Mo nm_Mo hown hK hG zmo rfl 0 (by decide) (htb _ k_2_223) (fun _ h9 => h9) rfl (by decide +kernel) rfl rfl (Nat.le_of_ble_eq_true rfl) d_Mo_enters_46 (fun H l9 hG => ?_)
    have hq1 : (gh_up h mo (.inr (5, [.int 1, .int (nI g), .ref nm, .ref fr, .int (nI my), .ref hs, .ref va, .ref tp, .ref dn]))) mo = some (.inr (5, [.int 1, .int (nI g), .ref nm, .ref fr, .int (nI my), .ref hs, .ref va, .ref tp, .ref dn])) := gh_self _ _ _
    replace hG : gh_P D vC b0 (gh_up h mo (.inr (5, [.int 1, .int (nI g), .ref nm, .ref fr, .int (nI my), .ref hs, .ref va, .ref tp, .ref dn]))) s.heap _ _ := hG
    have znm_1 : (gh_up h mo (.inr (5, [.int 1, .int (nI g), .ref nm, .ref fr, .int (nI my), .ref hs, .ref va, .ref tp, .ref dn]))) nm = some (.inl (cI, 24, .inl nf)) := gh_keep zmo znm (by simp)
    have zfr_1 : (gh_up h mo (.inr (5, [.int 1, .int (nI g), .ref nm, .ref fr, .int (nI my), .ref hs, .ref va, .ref tp, .ref dn]))) fr = some (.inl (cI, 8, .inl ff)) := gh_keep zmo zfr (by simp)
    have zhs_1 : (gh_up h mo (.inr (5, [.int 1, .int (nI g), .ref nm, .ref fr, .int (nI my), .ref hs, .ref va, .ref tp, .ref dn]))) hs = some (.inl (cJ, 24, .inr (.inl hf))) := gh_keep zmo zhs (by simp)
    have zva_1 : (gh_up h mo (.inr (5, [.int 1, .int (nI g), .ref nm, .ref fr, .int (nI my), .ref hs, .ref va, .ref tp, .ref dn]))) va = some (.inl (cJ, 8, .inr (.inl vf))) := gh_keep zmo zva (by simp)
    have ztp_1 : (gh_up h mo (.inr (5, [.int 1, .int (nI g), .ref nm, .ref fr, .int (nI my), .ref hs, .ref va, .ref tp, .ref dn]))) tp = some (.inl (cJ, 8, .inr (.inl tf))) := gh_keep zmo ztp (by simp)
    have zdn_1 : (gh_up h mo (.inr (5, [.int 1, .int (nI g), .ref nm, .ref fr, .int (nI my), .ref hs, .ref va, .ref tp, .ref dn]))) dn = some (.inl (cJ, 8, .inr (.inl df))) := gh_keep zmo zdn (by simp)
    refine lv_aload_n hx hb d_Mo_enters_49 rfl (lv_at hl 0 rfl) ?_
    refine gh_get (ci := 5) hx hb htb in_Mo hown hK hG hq1 rfl 0 (by decide) (htb _ k_2_223) (fun _ h9 => h9) rfl d_Mo_enters_50 ?_
    refine lv_if_le (tgt := 58) hx hb d_Mo_enters_53 (by decide) (fun hc53 => absurd hc53 (by decide)) (fun hc53 => ?_)
    refine lv_iconst (v := 0) hx hb d_Mo_enters_56 (by decide) ?_
    exact gh_iret hx hb hr hlk rfl hG d_Mo_enters_57 (rB_1 (by simp [v_badE, hc2]) ⟨rfl, (wM_mk hq1 znm_1 zfr_1 zhs_1 zva_1 ztp_1 zdn_1 zvt zvd ztd (by omega) (by omega)), (frM_up zf0 zmo rfl)⟩)
  · skip
    refine lv_iload_n hx hb d_Mo_enters_5 rfl (lv_at hl 1 rfl) ?_
    refine lv_iconst (v := 2) hx hb d_Mo_enters_6 (by decide) ?_
    refine lv_icmp_gt (tgt := 30) hx hb d_Mo_enters_7 (by decide) (fun hc7 => ?_) (fun hc7 => ?_)
    · skip
      refine lv_iconst (v := 1) hx hb d_Mo_enters_30 (by decide) ?_
      refine lv_goto (tgt := 46) hx hb d_Mo_enters_31 (by decide) ?_
      refine gh_put (ci := 5) (ty := .int) hx hb htb in_Mo t_Mo ty_Mo nm_Mo hown hK hG zmo rfl 0 (by decide) (htb _ k_2_223) (fun _ h9 => h9) rfl (by decide +kernel) rfl rfl (Nat.le_of_ble_eq_true rfl) d_Mo_enters_46 (fun H l9 hG => ?_)
      have hq2 : (gh_up h mo (.inr (5, [.int 1, .int (nI g), .ref nm, .ref fr, .int (nI my), .ref hs, .ref va, .ref tp, .ref dn]))) mo = some (.inr (5, [.int 1, .int (nI g), .ref nm, .ref fr, .int (nI my), .ref hs, .ref va, .ref tp, .ref dn])) := gh_self _ _ _
      replace hG : gh_P D vC b0 (gh_up h mo (.inr (5, [.int 1, .int (nI g), .ref nm, .ref fr, .int (nI my), .ref hs, .ref va, .ref tp, .ref dn]))) s.heap _ _ := hG
      have znm_2 : (gh_up h mo (.inr (5, [.int 1, .int (nI g), .ref nm, .ref fr, .int (nI my), .ref hs, .ref va, .ref tp, .ref dn]))) nm = some (.inl (cI, 24, .inl nf)) := gh_keep zmo znm (by simp)
      have zfr_2 : (gh_up h mo (.inr (5, [.int 1, .int (nI g), .ref nm, .ref fr, .int (nI my), .ref hs, .ref va, .ref tp, .ref dn]))) fr = some (.inl (cI, 8, .inl ff)) := gh_keep zmo zfr (by simp)
      have zhs_2 : (gh_up h mo (.inr (5, [.int 1, .int (nI g), .ref nm, .ref fr, .int (nI my), .ref hs, .ref va, .ref tp, .ref dn]))) hs = some (.inl (cJ, 24, .inr (.inl hf))) := gh_keep zmo zhs (by simp)
      have zva_2 : (gh_up h mo (.inr (5, [.int 1, .int (nI g), .ref nm, .ref fr, .int (nI my), .ref hs, .ref va, .ref tp, .ref dn]))) va = some (.inl (cJ, 8, .inr (.inl vf))) := gh_keep zmo zva (by simp)
      have ztp_2 : (gh_up h mo (.inr (5, [.int 1, .int (nI g), .ref nm, .ref fr, .int (nI my), .ref hs, .ref va, .ref tp, .ref dn]))) tp = some (.inl (cJ, 8, .inr (.inl tf))) := gh_keep zmo ztp (by simp)
      have zdn_2 : (gh_up h mo (.inr (5, [.int 1, .int (nI g), .ref nm, .ref fr, .int (nI my), .ref hs, .ref va, .ref tp, .ref dn]))) dn = some (.inl (cJ, 8, .inr (.inl df))) := gh_keep zmo zdn (by simp)
      refine lv_aload_n hx hb d_Mo_enters_49 rfl (lv_at hl 0 rfl) ?_
      refine gh_get (ci := 5) hx hb htb in_Mo hown hK hG hq2 rfl 0 (by decide) (htb _ k_2_223) (fun _ h9 => h9) rfl d_Mo_enters_50 ?_
      refine lv_if_le (tgt := 58) hx hb d_Mo_enters_53 (by decide) (fun hc53 => absurd hc53 (by decide)) (fun hc53 => ?_)
      refine lv_iconst (v := 0) hx hb d_Mo_enters_56 (by decide) ?_
      exact gh_iret hx hb hr hlk rfl hG d_Mo_enters_57 (rB_1 (by simp [v_badE, hc7]) ⟨rfl, (wM_mk hq2 znm_2 zfr_2 zhs_2 zva_2 ztp_2 zdn_2 zvt zvd ztd (by omega) (by omega)), (frM_up zf0 zmo rfl)⟩)
    · skip
      obtain ⟨a, ha, rfl⟩ := nI_of2 (M := 2) (n := 2) rfl hc2 (Int32.not_lt.mp hc7)
      replace ha : a < 3 := by omega
      refine lv_iload_n hx hb d_Mo_enters_10 rfl (lv_at hl 2 rfl) ?_
      refine lv_sipush (v := 999) hx hb d_Mo_enters_11 (by decide) ?_
      refine gh_cS (As := [.int u, .int 999]) (rest := [.ref mo]) (xF_ok b0) hx hb hml hown hK hX hG c_Mo_within (q_Mo_within htb ⟨by decide, by decide⟩) (htb _ k_3_20) (htb _ k_3_21) rfl hl.1 rfl (Nat.le_of_ble_eq_true rfl) d_Mo_enters_14 ⟨by decide, by decide⟩ (fun v9 h9 H l9 hp9 hG => ?_) (fun _ _ _ _ hp9 _ => by cases hp9.1)
      obtain ⟨hv9, hh9⟩ := hp9
      cases hv9
      rw [hh9] at hG
      refine W.eq (g2 := F0 m 17 ls [.int (m_b (!m_bey u 999)), .ref mo]) rfl ?_
      refine W.widen (k := 0) (n := 0) (by decide) (by decide) ?_
      refine lv_if_eq (tgt := 30) hx hb d_Mo_enters_17 (by decide) (fun hc17 => ?_) (fun hc17 => ?_)
      · skip
        replace hc17 := mb_n0.mp hc17
        refine lv_iconst (v := 1) hx hb d_Mo_enters_30 (by decide) ?_
        refine lv_goto (tgt := 46) hx hb d_Mo_enters_31 (by decide) ?_
        refine gh_put (ci := 5) (ty := .int) hx hb htb in_Mo t_Mo ty_Mo nm_Mo hown hK hG zmo rfl 0 (by decide) (htb _ k_2_223) (fun _ h9 => h9) rfl (by decide +kernel) rfl rfl (Nat.le_of_ble_eq_true rfl) d_Mo_enters_46 (fun H l9 hG => ?_)
        have hq3 : (gh_up h mo (.inr (5, [.int 1, .int (nI g), .ref nm, .ref fr, .int (nI my), .ref hs, .ref va, .ref tp, .ref dn]))) mo = some (.inr (5, [.int 1, .int (nI g), .ref nm, .ref fr, .int (nI my), .ref hs, .ref va, .ref tp, .ref dn])) := gh_self _ _ _
        replace hG : gh_P D vC b0 (gh_up h mo (.inr (5, [.int 1, .int (nI g), .ref nm, .ref fr, .int (nI my), .ref hs, .ref va, .ref tp, .ref dn]))) s.heap _ _ := hG
        have znm_3 : (gh_up h mo (.inr (5, [.int 1, .int (nI g), .ref nm, .ref fr, .int (nI my), .ref hs, .ref va, .ref tp, .ref dn]))) nm = some (.inl (cI, 24, .inl nf)) := gh_keep zmo znm (by simp)
        have zfr_3 : (gh_up h mo (.inr (5, [.int 1, .int (nI g), .ref nm, .ref fr, .int (nI my), .ref hs, .ref va, .ref tp, .ref dn]))) fr = some (.inl (cI, 8, .inl ff)) := gh_keep zmo zfr (by simp)
        have zhs_3 : (gh_up h mo (.inr (5, [.int 1, .int (nI g), .ref nm, .ref fr, .int (nI my), .ref hs, .ref va, .ref tp, .ref dn]))) hs = some (.inl (cJ, 24, .inr (.inl hf))) := gh_keep zmo zhs (by simp)
        have zva_3 : (gh_up h mo (.inr (5, [.int 1, .int (nI g), .ref nm, .ref fr, .int (nI my), .ref hs, .ref va, .ref tp, .ref dn]))) va = some (.inl (cJ, 8, .inr (.inl vf))) := gh_keep zmo zva (by simp)
        have ztp_3 : (gh_up h mo (.inr (5, [.int 1, .int (nI g), .ref nm, .ref fr, .int (nI my), .ref hs, .ref va, .ref tp, .ref dn]))) tp = some (.inl (cJ, 8, .inr (.inl tf))) := gh_keep zmo ztp (by simp)
        have zdn_3 : (gh_up h mo (.inr (5, [.int 1, .int (nI g), .ref nm, .ref fr, .int (nI my), .ref hs, .ref va, .ref tp, .ref dn]))) dn = some (.inl (cJ, 8, .inr (.inl df))) := gh_keep zmo zdn (by simp)
        refine lv_aload_n hx hb d_Mo_enters_49 rfl (lv_at hl 0 rfl) ?_
        refine gh_get (ci := 5) hx hb htb in_Mo hown hK hG hq3 rfl 0 (by decide) (htb _ k_2_223) (fun _ h9 => h9) rfl d_Mo_enters_50 ?_
        refine lv_if_le (tgt := 58) hx hb d_Mo_enters_53 (by decide) (fun hc53 => absurd hc53 (by decide)) (fun hc53 => ?_)
        refine lv_iconst (v := 0) hx hb d_Mo_enters_56 (by decide) ?_
        exact gh_iret hx hb hr hlk rfl hG d_Mo_enters_57 (rB_1 (by simp [v_badE, hc17]) ⟨rfl, (wM_mk hq3 znm_3 zfr_3 zhs_3 zva_3 ztp_3 zdn_3 zvt zvd ztd (by omega) (by omega)), (frM_up zf0 zmo rfl)⟩)
      · skip
        replace hc17 := mb_n1.mp hc17
        refine lv_iload_n hx hb d_Mo_enters_20 rfl (lv_at hl 3 rfl) ?_
        refine lv_sipush (v := 999) hx hb d_Mo_enters_21 (by decide) ?_
        refine gh_cS (As := [.int v, .int 999]) (rest := [.ref mo]) (xF_ok b0) hx hb hml hown hK hX hG c_Mo_within (q_Mo_within htb ⟨by decide, by decide⟩) (htb _ k_3_20) (htb _ k_3_21) rfl hl.1 rfl (Nat.le_of_ble_eq_true rfl) d_Mo_enters_24 ⟨by decide, by decide⟩ (fun v9 h9 H l9 hp9 hG => ?_) (fun _ _ _ _ hp9 _ => by cases hp9.1)
        obtain ⟨hv9, hh9⟩ := hp9
        cases hv9
        rw [hh9] at hG
        refine W.eq (g2 := F0 m 27 ls [.int (m_b (!m_bey v 999)), .ref mo]) rfl ?_
        refine W.widen (k := 0) (n := 0) (by decide) (by decide) ?_
        refine lv_if_ne (tgt := 34) hx hb d_Mo_enters_27 (by decide) (fun hc27 => ?_) (fun hc27 => ?_)
        · skip
          replace hc27 := mb_n1.mp hc27
          refine lv_aload_n hx hb d_Mo_enters_34 rfl (lv_at hl 0 rfl) ?_
          refine gh_get (ci := 5) hx hb htb in_Mo hown hK hG zmo rfl 4 (by decide) (htb _ k_2_227) (fun _ h9 => h9) rfl d_Mo_enters_35 ?_
          refine lv_if_ne (tgt := 45) hx hb d_Mo_enters_38 (by decide) (fun hc38 => ?_) (fun hc38 => ?_)
          · skip
            replace hc38 : ¬ my = 0 := fun q9 => hc38 ((nc_eq (a := my) (b := 0) (by omega) (by omega) rfl rfl).mpr q9)
            refine lv_iconst (v := 0) hx hb d_Mo_enters_45 (by decide) ?_
            refine gh_put (ci := 5) (ty := .int) hx hb htb in_Mo t_Mo ty_Mo nm_Mo hown hK hG zmo rfl 0 (by decide) (htb _ k_2_223) (fun _ h9 => h9) rfl (by decide +kernel) rfl rfl (Nat.le_of_ble_eq_true rfl) d_Mo_enters_46 (fun H l9 hG => ?_)
            have hq4 : (gh_up h mo (.inr (5, [.int 0, .int (nI g), .ref nm, .ref fr, .int (nI my), .ref hs, .ref va, .ref tp, .ref dn]))) mo = some (.inr (5, [.int 0, .int (nI g), .ref nm, .ref fr, .int (nI my), .ref hs, .ref va, .ref tp, .ref dn])) := gh_self _ _ _
            replace hG : gh_P D vC b0 (gh_up h mo (.inr (5, [.int 0, .int (nI g), .ref nm, .ref fr, .int (nI my), .ref hs, .ref va, .ref tp, .ref dn]))) s.heap _ _ := hG
            have znm_4 : (gh_up h mo (.inr (5, [.int 0, .int (nI g), .ref nm, .ref fr, .int (nI my), .ref hs, .ref va, .ref tp, .ref dn]))) nm = some (.inl (cI, 24, .inl nf)) := gh_keep zmo znm (by simp)
            have zfr_4 : (gh_up h mo (.inr (5, [.int 0, .int (nI g), .ref nm, .ref fr, .int (nI my), .ref hs, .ref va, .ref tp, .ref dn]))) fr = some (.inl (cI, 8, .inl ff)) := gh_keep zmo zfr (by simp)
            have zhs_4 : (gh_up h mo (.inr (5, [.int 0, .int (nI g), .ref nm, .ref fr, .int (nI my), .ref hs, .ref va, .ref tp, .ref dn]))) hs = some (.inl (cJ, 24, .inr (.inl hf))) := gh_keep zmo zhs (by simp)
            have zva_4 : (gh_up h mo (.inr (5, [.int 0, .int (nI g), .ref nm, .ref fr, .int (nI my), .ref hs, .ref va, .ref tp, .ref dn]))) va = some (.inl (cJ, 8, .inr (.inl vf))) := gh_keep zmo zva (by simp)
            have ztp_4 : (gh_up h mo (.inr (5, [.int 0, .int (nI g), .ref nm, .ref fr, .int (nI my), .ref hs, .ref va, .ref tp, .ref dn]))) tp = some (.inl (cJ, 8, .inr (.inl tf))) := gh_keep zmo ztp (by simp)
            have zdn_4 : (gh_up h mo (.inr (5, [.int 0, .int (nI g), .ref nm, .ref fr, .int (nI my), .ref hs, .ref va, .ref tp, .ref dn]))) dn = some (.inl (cJ, 8, .inr (.inl df))) := gh_keep zmo zdn (by simp)
            refine lv_aload_n hx hb d_Mo_enters_49 rfl (lv_at hl 0 rfl) ?_
            refine gh_get (ci := 5) hx hb htb in_Mo hown hK hG hq4 rfl 0 (by decide) (htb _ k_2_223) (fun _ h9 => h9) rfl d_Mo_enters_50 ?_
            refine lv_if_le (tgt := 58) hx hb d_Mo_enters_53 (by decide) (fun hc53 => ?_) (fun hc53 => absurd hc53 (by decide))
            refine lv_aload_n hx hb d_Mo_enters_58 rfl (lv_at hl 0 rfl) ?_
            refine lv_iload_n hx hb d_Mo_enters_59 rfl (lv_at hl 1 rfl) ?_
            refine lv_iload_n hx hb d_Mo_enters_60 rfl (lv_at hl 2 rfl) ?_
            refine lv_iload_n hx hb d_Mo_enters_61 rfl (lv_at hl 3 rfl) ?_
            refine gh_cV (ci := 5) (As := [.int (nI a), .int u, .int v]) (rest := []) (xF_ok b0) hx hb hml hown hK hX hG rfl hq4 (c_Mo_meet (wM_mk hq4 znm_4 zfr_4 zhs_4 zva_4 ztp_4 zdn_4 zvt zvd ztd (by omega) (by omega)) ha) (q_Mo_meet htb ⟨by decide, by decide⟩) (htb _ k_3_103) (htb _ k_3_105) (htb _ k_s_Mo_meet) rfl hl.1 rfl (Nat.le_of_ble_eq_true rfl) d_Mo_enters_62 ⟨by decide, by decide⟩ (fun v9 hM H l9 hp9 hG => ?_) (fun _ _ _ _ hp9 _ => by obtain ⟨_, _, _, _, _, ho⟩ := hp9; rcases ho with ⟨_, hv⟩ | ⟨_, hv, _⟩ <;> cases hv)
            obtain ⟨v1, t1, d1, hw9, hf9, hor⟩ := hp9
            have zfr9 := frM_tr (frM_up zf0 zmo rfl) hf9
            obtain ⟨zmo, znm, zfr, zhs, zva, ztp, zdn, zvt, zvd, ztd, zg, zy⟩ := hw9
            rcases hor with ⟨hlo, hv9⟩ | ⟨hlo, hv9, hD⟩
            · skip
              cases hv9
              refine W.eq (g2 := F0 m 65 ls [.int 0]) rfl ?_
              refine W.widen (k := 0) (n := 0) (by decide) (by decide) ?_
              refine lv_if_eq (tgt := 76) hx hb d_Mo_enters_65 (by decide) (fun hc65 => ?_) (fun hc65 => absurd hc65 (by decide))
              refine lv_aload_n hx hb d_Mo_enters_76 rfl (lv_at hl 0 rfl) ?_
              refine lv_iconst (v := 3) hx hb d_Mo_enters_77 (by decide) ?_
              refine gh_put (ci := 5) (ty := .int) hx hb htb in_Mo t_Mo ty_Mo nm_Mo hown hK hG zmo rfl 0 (by decide) (htb _ k_2_223) (fun _ h9 => h9) rfl (by decide +kernel) rfl rfl (Nat.le_of_ble_eq_true rfl) d_Mo_enters_78 (fun H l9 hG => ?_)
              have hq5 : (gh_up hM mo (.inr (5, [.int 3, .int (nI g), .ref nm, .ref fr, .int (nI my), .ref hs, .ref va, .ref tp, .ref dn]))) mo = some (.inr (5, [.int 3, .int (nI g), .ref nm, .ref fr, .int (nI my), .ref hs, .ref va, .ref tp, .ref dn])) := gh_self _ _ _
              replace hG : gh_P D vC b0 (gh_up hM mo (.inr (5, [.int 3, .int (nI g), .ref nm, .ref fr, .int (nI my), .ref hs, .ref va, .ref tp, .ref dn]))) s.heap _ _ := hG
              have znm_5 : (gh_up hM mo (.inr (5, [.int 3, .int (nI g), .ref nm, .ref fr, .int (nI my), .ref hs, .ref va, .ref tp, .ref dn]))) nm = some (.inl (cI, 24, .inl nf)) := gh_keep zmo znm (by simp)
              have zfr_5 : (gh_up hM mo (.inr (5, [.int 3, .int (nI g), .ref nm, .ref fr, .int (nI my), .ref hs, .ref va, .ref tp, .ref dn]))) fr = some (.inl (cI, 8, .inl ff)) := gh_keep zmo zfr (by simp)
              have zhs_5 : (gh_up hM mo (.inr (5, [.int 3, .int (nI g), .ref nm, .ref fr, .int (nI my), .ref hs, .ref va, .ref tp, .ref dn]))) hs = some (.inl (cJ, 24, .inr (.inl hf))) := gh_keep zmo zhs (by simp)
              have zva_5 : (gh_up hM mo (.inr (5, [.int 3, .int (nI g), .ref nm, .ref fr, .int (nI my), .ref hs, .ref va, .ref tp, .ref dn]))) va = some (.inl (cJ, 8, .inr (.inl v1))) := gh_keep zmo zva (by simp)
              have ztp_5 : (gh_up hM mo (.inr (5, [.int 3, .int (nI g), .ref nm, .ref fr, .int (nI my), .ref hs, .ref va, .ref tp, .ref dn]))) tp = some (.inl (cJ, 8, .inr (.inl t1))) := gh_keep zmo ztp (by simp)
              have zdn_5 : (gh_up hM mo (.inr (5, [.int 3, .int (nI g), .ref nm, .ref fr, .int (nI my), .ref hs, .ref va, .ref tp, .ref dn]))) dn = some (.inl (cJ, 8, .inr (.inl d1))) := gh_keep zmo zdn (by simp)
              refine lv_iconst (v := 0) hx hb d_Mo_enters_81 (by decide) ?_
              exact gh_iret hx hb hr hlk rfl hG d_Mo_enters_82 (rB_0 (by simp only [v_badE, decide_eq_false hc2, decide_eq_false hc7, hc17, hc27]; rfl) (rB_0 (decide_eq_false hc38) ⟨a, v1, t1, d1, ha, rfl, Or.inl ⟨Or.inl hlo, rfl, (wM_mk hq5 znm_5 zfr_5 zhs_5 zva_5 ztp_5 zdn_5 zvt zvd ztd (by omega) (by omega)), (frM_up zfr9 zmo rfl)⟩⟩))
            · skip
              cases hv9
              refine W.eq (g2 := F0 m 65 ls [.int 1]) rfl ?_
              refine W.widen (k := 0) (n := 0) (by decide) (by decide) ?_
              have hcg := crs_cg (nf := nf) (a := a) (fun j hj => (hD j hj).2)
              refine lv_if_eq (tgt := 76) hx hb d_Mo_enters_65 (by decide) (fun hc65 => absurd hc65 (by decide)) (fun hc65 => ?_)
              refine lv_aload_n hx hb d_Mo_enters_68 rfl (lv_at hl 0 rfl) ?_
              refine lv_iload_n hx hb d_Mo_enters_69 rfl (lv_at hl 1 rfl) ?_
              refine gh_cV (ci := 5) (As := [.int (nI a)]) (rest := []) (xF_ok b0) hx hb hml hown hK hX hG rfl zmo (c_Mo_isCrossed (wM_mk zmo znm zfr zhs zva ztp zdn zvt zvd ztd (by omega) (by omega)) ha) (q_Mo_isCrossed htb ⟨by decide, by decide⟩) (htb _ k_3_107) (htb _ k_3_109) (htb _ k_s_Mo_isCrossed) rfl hl.1 rfl (Nat.le_of_ble_eq_true rfl) d_Mo_enters_70 ⟨by decide, by decide⟩ (fun v9 h9 H l9 hp9 hG => ?_) (fun _ _ _ _ hp9 _ => by cases hp9.1)
              obtain ⟨hv9, hh9⟩ := hp9
              cases hv9
              rw [hh9] at hG
              refine W.eq (g2 := F0 m 73 ls [.int (m_b (m_any (v_crs nf t1 d1 a) g))]) rfl ?_
              refine W.widen (k := 0) (n := 0) (by decide) (by decide) ?_
              rw [hcg]
              refine lv_if_eq (tgt := 83) hx hb d_Mo_enters_73 (by decide) (fun hc73 => ?_) (fun hc73 => ?_)
              · skip
                replace hc73 := mb_0.mp hc73
                refine lv_ldc2 (v := (-1000)) hx hb hown (htb _ k_3_115) d_Mo_enters_83 ?_
                refine lv_lstore (lv' := [(4, .long (-1000)), (0, .ref mo), (1, .int (nI a)), (2, .int u), (3, .int v)]) hx hb d_Mo_enters_86 hl (by decide) rfl (fun ls hl => ?_)
                refine lv_lconst (v := 1) hx hb d_Mo_enters_88 (by decide) ?_
                refine lv_lstore (lv' := [(6, .long 1), (4, .long (-1000)), (0, .ref mo), (1, .int (nI a)), (2, .int u), (3, .int v)]) hx hb d_Mo_enters_89 hl (by decide) rfl (fun ls hl => ?_)
                refine lv_iconst (v := 0) hx hb d_Mo_enters_91 (by decide) ?_
                refine lv_istore (lv' := [(8, .int 0), (6, .long 1), (4, .long (-1000)), (0, .ref mo), (1, .int (nI a)), (2, .int u), (3, .int v)]) hx hb d_Mo_enters_92 hl (by decide) rfl (fun ls hl => ?_)
                refine lv_iconst (v := 0) hx hb d_Mo_enters_94 (by decide) ?_
                refine lv_istore (lv' := [(9, .int 0), (8, .int 0), (6, .long 1), (4, .long (-1000)), (0, .ref mo), (1, .int (nI a)), (2, .int u), (3, .int v)]) hx hb d_Mo_enters_95 hl (by decide) rfl (fun ls hl => ?_)
                have hK9 := hKy a ha rfl (by first | assumption | exact hc17) (by first | assumption | exact hc27)
                refine gh_gen hG (fun H l9 hG => ?_)
                refine lp_muH (α := Int64 × Int64 × Bool × Nat) (G := fun ls H l9 => W p l e _ s m _ below meth c H l9 _ _ _ (F0 m 97 ls [])) (fun A ls H l9 => (v_S nf ff g a u v (A.1, A.2.1) ∧ ∃ f, sw_mu (v_act nf a) (v_key nf ff a u v (ky a)) (ky a (1000, 1)) g (ky a (A.1, A.2.1)) ≤ f ∧ A.2.2.2 + v_run nf ff hf g my a u v (ky a) f (ky a (A.1, A.2.1)) A.2.2.1 = v_run nf ff hf g my a u v (ky a) (g + 1) (ky a (-1000, 1)) false) ∧ lv_has ls 16 [(0, .ref mo), (1, .int (nI a)), (2, .int u), (3, .int v), (4, .long A.1), (6, .long A.2.1), (8, .int (m_b A.2.2.1)), (9, .int (nI A.2.2.2))] ∧ gh_P D vC b0 hM s.heap H l9) (fun A => sw_mu (v_act nf a) (v_key nf ff a u v (ky a)) (ky a (1000, 1)) g (ky a (A.1, A.2.1))) ?_ (-1000, 1, false, 0) ls H l9 ⟨⟨Or.inl rfl, g + 1, mu_le, Nat.zero_add _⟩, (lv_sub hl [4, 5, 6, 7, 3, 2, 1, 0] rfl), hG⟩
                rintro ⟨t, d, inn, n⟩ ls H l9 ⟨⟨hS, f, hfu, hT⟩, hl, hG⟩ ihW
                replace hl : lv_has ls 16 [(0, .ref mo), (1, .int (nI a)), (2, .int u), (3, .int v), (4, .long t), (6, .long d), (8, .int (m_b inn)), (9, .int (nI n))] := hl
                replace hS : v_S nf ff g a u v (t, d) := hS
                replace hfu : sw_mu (v_act nf a) (v_key nf ff a u v (ky a)) (ky a (1000, 1)) g (ky a (t, d)) ≤ f := hfu
                replace hT : n + v_run nf ff hf g my a u v (ky a) f (ky a (t, d)) inn = v_run nf ff hf g my a u v (ky a) (g + 1) (ky a (-1000, 1)) false := hT
                refine lv_lload hx hb d_Mo_enters_97 (lv_at hl 4 rfl) ?_
                refine lv_lload hx hb d_Mo_enters_99 (lv_at hl 5 rfl) ?_
                refine lv_ldc2 (v := 1000) hx hb hown (htb _ k_3_119) d_Mo_enters_101 ?_
                refine lv_lconst (v := 1) hx hb d_Mo_enters_104 (by decide) ?_
                refine gh_cS (As := [.long t, .long d, .long 1000, .long 1]) (rest := []) (xF_ok b0) hx hb hml hown hK hX hG c_Mo_compare (q_Mo_compare htb ⟨by decide, by decide⟩) (htb _ k_3_116) (htb _ k_3_117) rfl hl.1 rfl (Nat.le_of_ble_eq_true rfl) d_Mo_enters_105 ⟨by decide, by decide⟩ (fun v9 h9 H l9 hp9 hG => ?_) (fun _ _ _ _ hp9 _ => by cases hp9.1)
                obtain ⟨hv9, hh9⟩ := hp9
                cases hv9
                rw [hh9] at hG
                refine W.eq (g2 := F0 m 108 ls [.int (v_cmp t d 1000 1)]) rfl ?_
                refine W.widen (k := 0) (n := 0) (by decide) (by decide) ?_
                refine lv_if_ge (tgt := 265) hx hb d_Mo_enters_108 (by decide) (fun hc108 => ?_) (fun hc108 => ?_)
                · skip
                  have hlt : ¬ ky a (t, d) < ky a (1000, 1) := fun z9 => Int32.not_lt.mpr hc108 (((hK9 (t, d) (1000, 1) hS (Or.inr (Or.inl rfl))).1).mpr z9)
                  unfold v_run at hT
                  rw [sw_end hlt, Nat.add_zero] at hT
                  refine lv_iload hx hb d_Mo_enters_265 (lv_at hl 7 rfl) ?_
                  exact gh_iret hx hb hr hlk rfl hG d_Mo_enters_267 (rB_0 (by simp only [v_badE, decide_eq_false hc2, decide_eq_false hc7, hc17, hc27]; rfl) (rB_0 (decide_eq_false hc38) ⟨a, v1, t1, d1, ha, rfl, Or.inr ⟨hlo, hc73, by rw [hT]; rfl, (wM_mk zmo znm zfr zhs zva ztp zdn zvt zvd ztd (by omega) (by omega)), zfr9⟩⟩))
                · skip
                  have hlt : ky a (t, d) < ky a (1000, 1) := ((hK9 (t, d) (1000, 1) hS (Or.inr (Or.inl rfl))).1).mp (Int32.not_le.mp hc108)
                  have hmp := mu_pos (act := (v_act nf a)) (key := (v_key nf ff a u v (ky a))) (g := g) hlt
                  obtain ⟨f, rfl⟩ : ∃ z, f = z + 1 := ⟨f - 1, by omega⟩
                  unfold v_run at hT
                  rw [sw_go hlt] at hT
                  refine lv_aload_n hx hb d_Mo_enters_111 rfl (lv_at hl 0 rfl) ?_
                  refine lv_aload_n hx hb d_Mo_enters_112 rfl (lv_at hl 0 rfl) ?_
                  refine lv_iload_n hx hb d_Mo_enters_113 rfl (lv_at hl 1 rfl) ?_
                  refine lv_lload hx hb d_Mo_enters_114 (lv_at hl 4 rfl) ?_
                  refine lv_lload hx hb d_Mo_enters_116 (lv_at hl 5 rfl) ?_
                  refine gh_cV (ci := 5) (As := [.int (nI a), .long t, .long d]) (rest := [.ref mo]) (xF_ok b0) hx hb hml hown hK hX hG rfl zmo (c_Mo_choiceBehind (wM_mk zmo znm zfr zhs zva ztp zdn zvt zvd ztd (by omega) (by omega)) ha) (q_Mo_choiceBehind htb ⟨by decide, by decide⟩) (htb _ k_3_120) (htb _ k_3_122) (htb _ k_s_Mo_choiceBehind) rfl hl.1 rfl (Nat.le_of_ble_eq_true rfl) d_Mo_enters_118 ⟨by decide, by decide⟩ (fun v9 h9 H l9 hp9 hG => ?_) (fun _ _ _ _ hp9 _ => by cases hp9.1)
                  obtain ⟨hv9, hh9⟩ := hp9
                  cases hv9
                  rw [hh9] at hG
                  refine W.eq (g2 := F0 m 121 ls [.int (nI (pb_num (v_bh nf v1 t1 d1 a t d) g)), .ref mo]) rfl ?_
                  refine W.widen (k := 0) (n := 0) (by decide) (by decide) ?_
                  refine gh_cV (ci := 5) (As := [.int (nI (pb_num (v_bh nf v1 t1 d1 a t d) g))]) (rest := []) (xF_ok b0) hx hb hml hown hK hX hG rfl zmo (c_Mo_topHas (wM_mk zmo znm zfr zhs zva ztp zdn zvt zvd ztd (by omega) (by omega)) (by omega) (ce := (pb_num (v_bh nf v1 t1 d1 a t d) g)) (pb_8 _ zg)) (q_Mo_topHas htb ⟨by decide, by decide⟩) (htb _ k_3_75) (htb _ k_3_77) (htb _ k_s_Mo_topHas) rfl hl.1 rfl (Nat.le_of_ble_eq_true rfl) d_Mo_enters_121 ⟨by decide, by decide⟩ (fun v9 h9 H l9 hp9 hG => ?_) (fun _ _ _ _ hp9 _ => by cases hp9.1)
                  obtain ⟨hv9, hh9⟩ := hp9
                  cases hv9
                  rw [hh9] at hG
                  refine W.eq (g2 := F0 m 124 ls [.int (m_b (v_top hf my (pb_num (v_bh nf v1 t1 d1 a t d) g)))]) rfl ?_
                  refine W.widen (k := 0) (n := 0) (by decide) (by decide) ?_
                  rw [F_eq hD hK9 hS]
                  refine lv_istore (lv' := [(10, .int (m_b (v_F nf ff hf g my a u v (ky a) (ky a (t, d))))), (0, .ref mo), (1, .int (nI a)), (2, .int u), (3, .int v), (4, .long t), (6, .long d), (8, .int (m_b inn)), (9, .int (nI n))]) hx hb d_Mo_enters_124 hl (by decide) rfl (fun ls hl => ?_)
                  refine lv_iload hx hb d_Mo_enters_126 (lv_at hl 8 rfl) ?_
                  refine lv_iload hx hb d_Mo_enters_128 (lv_at hl 0 rfl) ?_
                  refine lv_if_eq (tgt := 142) hx hb d_Mo_enters_130 (by decide) (fun hc130 => ?_) (fun hc130 => ?_)
                  · skip
                    replace hc130 := mb_0.mp hc130
                    refine lv_iconst (v := 0) hx hb d_Mo_enters_142 (by decide) ?_
                    refine lv_iadd hx hb d_Mo_enters_143 ?_
                    rw [show (nI n) + 0 = nI (n + 0) from nI_add n 0]
                    refine lv_istore (lv' := [(9, .int (nI (n + 0))), (10, .int (m_b (v_F nf ff hf g my a u v (ky a) (ky a (t, d))))), (0, .ref mo), (1, .int (nI a)), (2, .int u), (3, .int v), (4, .long t), (6, .long d), (8, .int (m_b inn))]) hx hb d_Mo_enters_144 hl (by decide) rfl (fun ls hl => ?_)
                    refine lv_iload hx hb d_Mo_enters_146 (lv_at hl 1 rfl) ?_
                    refine lv_istore (lv' := [(8, .int (m_b (v_F nf ff hf g my a u v (ky a) (ky a (t, d))))), (9, .int (nI (n + 0))), (10, .int (m_b (v_F nf ff hf g my a u v (ky a) (ky a (t, d))))), (0, .ref mo), (1, .int (nI a)), (2, .int u), (3, .int v), (4, .long t), (6, .long d)]) hx hb d_Mo_enters_148 hl (by decide) rfl (fun ls hl => ?_)
                    refine lv_ldc2 (v := 1000) hx hb hown (htb _ k_3_119) d_Mo_enters_150 ?_
                    refine lv_lstore (lv' := [(11, .long 1000), (8, .int (m_b (v_F nf ff hf g my a u v (ky a) (ky a (t, d))))), (9, .int (nI (n + 0))), (10, .int (m_b (v_F nf ff hf g my a u v (ky a) (ky a (t, d))))), (0, .ref mo), (1, .int (nI a)), (2, .int u), (3, .int v), (4, .long t), (6, .long d)]) hx hb d_Mo_enters_153 hl (by decide) rfl (fun ls hl => ?_)
                    refine lv_lconst (v := 1) hx hb d_Mo_enters_155 (by decide) ?_
                    refine lv_lstore (lv' := [(13, .long 1), (11, .long 1000), (8, .int (m_b (v_F nf ff hf g my a u v (ky a) (ky a (t, d))))), (9, .int (nI (n + 0))), (10, .int (m_b (v_F nf ff hf g my a u v (ky a) (ky a (t, d))))), (0, .ref mo), (1, .int (nI a)), (2, .int u), (3, .int v), (4, .long t), (6, .long d)]) hx hb d_Mo_enters_156 hl (by decide) rfl (fun ls hl => ?_)
                    refine lv_iconst (v := 0) hx hb d_Mo_enters_158 (by decide) ?_
                    refine lv_istore (lv' := [(15, .int 0), (13, .long 1), (11, .long 1000), (8, .int (m_b (v_F nf ff hf g my a u v (ky a) (ky a (t, d))))), (9, .int (nI (n + 0))), (10, .int (m_b (v_F nf ff hf g my a u v (ky a) (ky a (t, d))))), (0, .ref mo), (1, .int (nI a)), (2, .int u), (3, .int v), (4, .long t), (6, .long d)]) hx hb d_Mo_enters_159 hl (by decide) rfl (fun ls hl => ?_)
                    refine gh_gen hG (fun H l9 hG => ?_)
                    refine lp_upH (α := Int64 × Int64) (G := fun ls H l9 => W p l e _ s m _ below meth c H l9 _ _ _ (F0 m 161 ls [])) g (fun k c2 ls H l9 => (v_S nf ff g a u v (c2.1, c2.2) ∧ ky a (c2.1, c2.2) = sw_nx (v_act nf a) (v_key nf ff a u v (ky a)) (ky a (t, d)) (ky a (1000, 1)) k) ∧ lv_has ls 16 [(0, .ref mo), (1, .int (nI a)), (2, .int u), (3, .int v), (4, .long t), (6, .long d), (8, .int (m_b (v_F nf ff hf g my a u v (ky a) (ky a (t, d))))), (9, .int (nI (n + 0))), (11, .long c2.1), (13, .long c2.2), (15, .int (nI k))] ∧ gh_P D vC b0 hM s.heap H l9) ?_ 0 (1000, 1) ls H l9 (Nat.zero_le _) ⟨⟨Or.inr (Or.inl rfl), rfl⟩, (lv_sub hl [6, 7, 8, 9, 10, 11, 3, 4, 2, 1, 0] rfl), hG⟩
                    intro k c2 ls H l9 hk hI ih
                    obtain ⟨hi1, hl, hG⟩ := hI
                    obtain ⟨hE1, hE2⟩ := hi1
                    refine lv_iload hx hb d_Mo_enters_161 (lv_at hl 10 rfl) ?_
                    refine lv_aload_n hx hb d_Mo_enters_163 rfl (lv_at hl 0 rfl) ?_
                    refine gh_get (ci := 5) hx hb htb in_Mo hown hK hG zmo rfl 1 (by decide) (htb _ k_2_224) (fun _ h9 => h9) rfl d_Mo_enters_164 ?_
                    refine lv_icmp_ge (tgt := 254) hx hb d_Mo_enters_167 (by decide) (fun hc167 => ?_) (fun hc167 => ?_)
                    · skip
                      replace hc167 : g ≤ k := (nc_le (a := g) (b := k) (by omega) (by omega) rfl rfl).mp hc167
                      refine lv_lload hx hb d_Mo_enters_254 (lv_at hl 8 rfl) ?_
                      refine lv_lstore (lv' := [(4, .long c2.1), (0, .ref mo), (1, .int (nI a)), (2, .int u), (3, .int v), (6, .long d), (8, .int (m_b (v_F nf ff hf g my a u v (ky a) (ky a (t, d))))), (9, .int (nI (n + 0))), (11, .long c2.1), (13, .long c2.2), (15, .int (nI k))]) hx hb d_Mo_enters_256 hl (by decide) rfl (fun ls hl => ?_)
                      refine lv_lload hx hb d_Mo_enters_258 (lv_at hl 9 rfl) ?_
                      refine lv_lstore (lv' := [(6, .long c2.2), (4, .long c2.1), (0, .ref mo), (1, .int (nI a)), (2, .int u), (3, .int v), (8, .int (m_b (v_F nf ff hf g my a u v (ky a) (ky a (t, d))))), (9, .int (nI (n + 0))), (11, .long c2.1), (13, .long c2.2), (15, .int (nI k))]) hx hb d_Mo_enters_260 hl (by decide) rfl (fun ls hl => ?_)
                      refine lv_goto (tgt := 97) hx hb d_Mo_enters_262 (by decide) ?_
                      rw [if_neg (fun z9 => by have := z9.1; rw [hc130] at this; cases this)] at hT
                      rw [show k = g by omega] at hE2
                      have hdec := sw_dec (act := (v_act nf a)) (key := (v_key nf ff a u v (ky a))) (g := g) hlt
                      rw [← hE2] at hdec hT
                      exact ihW (c2.1, c2.2, v_F nf ff hf g my a u v (ky a) (ky a (t, d)), (n + 0)) ls H l9 hdec ⟨⟨hE1, f, by show sw_mu (v_act nf a) (v_key nf ff a u v (ky a)) (ky a (1000, 1)) g (ky a (c2.1, c2.2)) ≤ f; omega, by show (n + 0) + v_run nf ff hf g my a u v (ky a) f (ky a (c2.1, c2.2)) (v_F nf ff hf g my a u v (ky a) (ky a (t, d))) = _; unfold v_run; omega⟩, (lv_sub hl [2, 3, 4, 5, 1, 0, 6, 7] rfl), hG⟩
                    · skip
                      replace hc167 : ¬ g ≤ k := fun q9 => hc167 ((nc_le (a := g) (b := k) (by omega) (by omega) rfl rfl).mpr q9)
                      refine lv_aload_n hx hb d_Mo_enters_170 rfl (lv_at hl 0 rfl) ?_
                      refine gh_get (ci := 5) hx hb htb in_Mo hown hK hG zmo rfl 8 (by decide) (htb _ k_2_231) (fun _ h9 => h9) rfl d_Mo_enters_171 ?_
                      refine lv_iload hx hb d_Mo_enters_174 (lv_at hl 10 rfl) ?_
                      refine gh_lald (v := d1 k) hx hb hK hG 1 zdn rfl (vp_in_nI (by omega) (by decide)) (by rw [nI_clamp (by omega)]) d_Mo_enters_176 ?_
                      refine lv_lconst (v := 0) hx hb d_Mo_enters_177 (by decide) ?_
                      refine W.lcmp hx hb d_Mo_enters_178 ?_
                      refine lv_if_le (tgt := 248) hx hb d_Mo_enters_179 (by decide) (fun hc179 => ?_) (fun hc179 => ?_)
                      · skip
                        rw [lg_cmp_le] at hc179
                        refine lv_iinc (k := 10) (v := nI (k + 1)) (lv' := [(15, .int (nI (k + 1))), (0, .ref mo), (1, .int (nI a)), (2, .int u), (3, .int v), (4, .long t), (6, .long d), (8, .int (m_b (v_F nf ff hf g my a u v (ky a) (ky a (t, d))))), (9, .int (nI (n + 0))), (11, .long c2.1), (13, .long c2.2)]) hx hb d_Mo_enters_248 hl rfl (nI_1 k) (by decide) rfl (fun ls hl => ?_)
                        refine lv_goto (tgt := 161) hx hb d_Mo_enters_251 (by decide) ?_
                        exact ih (c2.1, c2.2) ls H l9 (by omega) ⟨en_no hD hK9 hS hE1 (by omega) (Or.inl hc179) hE2, (lv_sub hl [1, 2, 3, 4, 5, 6, 7, 8, 9, 10, 0] rfl), hG⟩
                      · skip
                        rw [lg_cmp_le] at hc179
                        refine lv_aload_n hx hb d_Mo_enters_182 rfl (lv_at hl 0 rfl) ?_
                        refine gh_get (ci := 5) hx hb htb in_Mo hown hK hG zmo rfl 7 (by decide) (htb _ k_2_230) (fun _ h9 => h9) rfl d_Mo_enters_183 ?_
                        refine lv_iload hx hb d_Mo_enters_186 (lv_at hl 10 rfl) ?_
                        refine gh_lald (v := t1 k) hx hb hK hG 1 ztp rfl (vp_in_nI (by omega) (by decide)) (by rw [nI_clamp (by omega)]) d_Mo_enters_188 ?_
                        refine lv_aload_n hx hb d_Mo_enters_189 rfl (lv_at hl 0 rfl) ?_
                        refine gh_get (ci := 5) hx hb htb in_Mo hown hK hG zmo rfl 8 (by decide) (htb _ k_2_231) (fun _ h9 => h9) rfl d_Mo_enters_190 ?_
                        refine lv_iload hx hb d_Mo_enters_193 (lv_at hl 10 rfl) ?_
                        refine gh_lald (v := d1 k) hx hb hK hG 1 zdn rfl (vp_in_nI (by omega) (by decide)) (by rw [nI_clamp (by omega)]) d_Mo_enters_195 ?_
                        refine lv_lload hx hb d_Mo_enters_196 (lv_at hl 4 rfl) ?_
                        refine lv_lload hx hb d_Mo_enters_198 (lv_at hl 5 rfl) ?_
                        refine gh_cS (As := [.long (t1 k), .long (d1 k), .long t, .long d]) (rest := []) (xF_ok b0) hx hb hml hown hK hX hG c_Mo_compare (q_Mo_compare htb ⟨by decide, by decide⟩) (htb _ k_3_116) (htb _ k_3_117) rfl hl.1 rfl (Nat.le_of_ble_eq_true rfl) d_Mo_enters_200 ⟨by decide, by decide⟩ (fun v9 h9 H l9 hp9 hG => ?_) (fun _ _ _ _ hp9 _ => by cases hp9.1)
                        obtain ⟨hv9, hh9⟩ := hp9
                        cases hv9
                        rw [hh9] at hG
                        refine W.eq (g2 := F0 m 203 ls [.int (v_cmp (t1 k) (d1 k) t d)]) rfl ?_
                        refine W.widen (k := 0) (n := 0) (by decide) (by decide) ?_
                        refine lv_if_le (tgt := 248) hx hb d_Mo_enters_203 (by decide) (fun hc203 => ?_) (fun hc203 => ?_)
                        · skip
                          refine lv_iinc (k := 10) (v := nI (k + 1)) (lv' := [(15, .int (nI (k + 1))), (0, .ref mo), (1, .int (nI a)), (2, .int u), (3, .int v), (4, .long t), (6, .long d), (8, .int (m_b (v_F nf ff hf g my a u v (ky a) (ky a (t, d))))), (9, .int (nI (n + 0))), (11, .long c2.1), (13, .long c2.2)]) hx hb d_Mo_enters_248 hl rfl (nI_1 k) (by decide) rfl (fun ls hl => ?_)
                          refine lv_goto (tgt := 161) hx hb d_Mo_enters_251 (by decide) ?_
                          exact ih (c2.1, c2.2) ls H l9 (by omega) ⟨en_no hD hK9 hS hE1 (by omega) (Or.inr (Or.inl hc203)) hE2, (lv_sub hl [1, 2, 3, 4, 5, 6, 7, 8, 9, 10, 0] rfl), hG⟩
                        · skip
                          refine lv_aload_n hx hb d_Mo_enters_206 rfl (lv_at hl 0 rfl) ?_
                          refine gh_get (ci := 5) hx hb htb in_Mo hown hK hG zmo rfl 7 (by decide) (htb _ k_2_230) (fun _ h9 => h9) rfl d_Mo_enters_207 ?_
                          refine lv_iload hx hb d_Mo_enters_210 (lv_at hl 10 rfl) ?_
                          refine gh_lald (v := t1 k) hx hb hK hG 1 ztp rfl (vp_in_nI (by omega) (by decide)) (by rw [nI_clamp (by omega)]) d_Mo_enters_212 ?_
                          refine lv_aload_n hx hb d_Mo_enters_213 rfl (lv_at hl 0 rfl) ?_
                          refine gh_get (ci := 5) hx hb htb in_Mo hown hK hG zmo rfl 8 (by decide) (htb _ k_2_231) (fun _ h9 => h9) rfl d_Mo_enters_214 ?_
                          refine lv_iload hx hb d_Mo_enters_217 (lv_at hl 10 rfl) ?_
                          refine gh_lald (v := d1 k) hx hb hK hG 1 zdn rfl (vp_in_nI (by omega) (by decide)) (by rw [nI_clamp (by omega)]) d_Mo_enters_219 ?_
                          refine lv_lload hx hb d_Mo_enters_220 (lv_at hl 8 rfl) ?_
                          refine lv_lload hx hb d_Mo_enters_222 (lv_at hl 9 rfl) ?_
                          refine gh_cS (As := [.long (t1 k), .long (d1 k), .long c2.1, .long c2.2]) (rest := []) (xF_ok b0) hx hb hml hown hK hX hG c_Mo_compare (q_Mo_compare htb ⟨by decide, by decide⟩) (htb _ k_3_116) (htb _ k_3_117) rfl hl.1 rfl (Nat.le_of_ble_eq_true rfl) d_Mo_enters_224 ⟨by decide, by decide⟩ (fun v9 h9 H l9 hp9 hG => ?_) (fun _ _ _ _ hp9 _ => by cases hp9.1)
                          obtain ⟨hv9, hh9⟩ := hp9
                          cases hv9
                          rw [hh9] at hG
                          refine W.eq (g2 := F0 m 227 ls [.int (v_cmp (t1 k) (d1 k) c2.1 c2.2)]) rfl ?_
                          refine W.widen (k := 0) (n := 0) (by decide) (by decide) ?_
                          refine lv_if_ge (tgt := 248) hx hb d_Mo_enters_227 (by decide) (fun hc227 => ?_) (fun hc227 => ?_)
                          · skip
                            refine lv_iinc (k := 10) (v := nI (k + 1)) (lv' := [(15, .int (nI (k + 1))), (0, .ref mo), (1, .int (nI a)), (2, .int u), (3, .int v), (4, .long t), (6, .long d), (8, .int (m_b (v_F nf ff hf g my a u v (ky a) (ky a (t, d))))), (9, .int (nI (n + 0))), (11, .long c2.1), (13, .long c2.2)]) hx hb d_Mo_enters_248 hl rfl (nI_1 k) (by decide) rfl (fun ls hl => ?_)
                            refine lv_goto (tgt := 161) hx hb d_Mo_enters_251 (by decide) ?_
                            exact ih (c2.1, c2.2) ls H l9 (by omega) ⟨en_no hD hK9 hS hE1 (by omega) (Or.inr (Or.inr hc227)) hE2, (lv_sub hl [1, 2, 3, 4, 5, 6, 7, 8, 9, 10, 0] rfl), hG⟩
                          · skip
                            refine lv_aload_n hx hb d_Mo_enters_230 rfl (lv_at hl 0 rfl) ?_
                            refine gh_get (ci := 5) hx hb htb in_Mo hown hK hG zmo rfl 7 (by decide) (htb _ k_2_230) (fun _ h9 => h9) rfl d_Mo_enters_231 ?_
                            refine lv_iload hx hb d_Mo_enters_234 (lv_at hl 10 rfl) ?_
                            refine gh_lald (v := t1 k) hx hb hK hG 1 ztp rfl (vp_in_nI (by omega) (by decide)) (by rw [nI_clamp (by omega)]) d_Mo_enters_236 ?_
                            refine lv_lstore (lv' := [(11, .long (t1 k)), (0, .ref mo), (1, .int (nI a)), (2, .int u), (3, .int v), (4, .long t), (6, .long d), (8, .int (m_b (v_F nf ff hf g my a u v (ky a) (ky a (t, d))))), (9, .int (nI (n + 0))), (13, .long c2.2), (15, .int (nI k))]) hx hb d_Mo_enters_237 hl (by decide) rfl (fun ls hl => ?_)
                            refine lv_aload_n hx hb d_Mo_enters_239 rfl (lv_at hl 1 rfl) ?_
                            refine gh_get (ci := 5) hx hb htb in_Mo hown hK hG zmo rfl 8 (by decide) (htb _ k_2_231) (fun _ h9 => h9) rfl d_Mo_enters_240 ?_
                            refine lv_iload hx hb d_Mo_enters_243 (lv_at hl 10 rfl) ?_
                            refine gh_lald (v := d1 k) hx hb hK hG 1 zdn rfl (vp_in_nI (by omega) (by decide)) (by rw [nI_clamp (by omega)]) d_Mo_enters_245 ?_
                            refine lv_lstore (lv' := [(13, .long (d1 k)), (11, .long (t1 k)), (0, .ref mo), (1, .int (nI a)), (2, .int u), (3, .int v), (4, .long t), (6, .long d), (8, .int (m_b (v_F nf ff hf g my a u v (ky a) (ky a (t, d))))), (9, .int (nI (n + 0))), (15, .int (nI k))]) hx hb d_Mo_enters_246 hl (by decide) rfl (fun ls hl => ?_)
                            refine lv_iinc (k := 10) (v := nI (k + 1)) (lv' := [(15, .int (nI (k + 1))), (13, .long (d1 k)), (11, .long (t1 k)), (0, .ref mo), (1, .int (nI a)), (2, .int u), (3, .int v), (4, .long t), (6, .long d), (8, .int (m_b (v_F nf ff hf g my a u v (ky a) (ky a (t, d))))), (9, .int (nI (n + 0)))]) hx hb d_Mo_enters_248 hl rfl (nI_1 k) (by decide) rfl (fun ls hl => ?_)
                            refine lv_goto (tgt := 161) hx hb d_Mo_enters_251 (by decide) ?_
                            exact ih (t1 k, d1 k) ls H l9 (by omega) ⟨en_yes hD hK9 hS hE1 (by omega) hc179 hc203 hc227 hE2, (lv_sub hl [3, 4, 5, 6, 7, 8, 9, 10, 2, 1, 0] rfl), hG⟩
                  · skip
                    replace hc130 := mb_1.mp hc130
                    refine lv_iload hx hb d_Mo_enters_133 (lv_at hl 7 rfl) ?_
                    refine lv_if_ne (tgt := 142) hx hb d_Mo_enters_135 (by decide) (fun hc135 => ?_) (fun hc135 => ?_)
                    · skip
                      replace hc135 := mb_1.mp hc135
                      refine lv_iconst (v := 0) hx hb d_Mo_enters_142 (by decide) ?_
                      refine lv_iadd hx hb d_Mo_enters_143 ?_
                      rw [show (nI n) + 0 = nI (n + 0) from nI_add n 0]
                      refine lv_istore (lv' := [(9, .int (nI (n + 0))), (10, .int (m_b (v_F nf ff hf g my a u v (ky a) (ky a (t, d))))), (0, .ref mo), (1, .int (nI a)), (2, .int u), (3, .int v), (4, .long t), (6, .long d), (8, .int (m_b inn))]) hx hb d_Mo_enters_144 hl (by decide) rfl (fun ls hl => ?_)
                      refine lv_iload hx hb d_Mo_enters_146 (lv_at hl 1 rfl) ?_
                      refine lv_istore (lv' := [(8, .int (m_b (v_F nf ff hf g my a u v (ky a) (ky a (t, d))))), (9, .int (nI (n + 0))), (10, .int (m_b (v_F nf ff hf g my a u v (ky a) (ky a (t, d))))), (0, .ref mo), (1, .int (nI a)), (2, .int u), (3, .int v), (4, .long t), (6, .long d)]) hx hb d_Mo_enters_148 hl (by decide) rfl (fun ls hl => ?_)
                      refine lv_ldc2 (v := 1000) hx hb hown (htb _ k_3_119) d_Mo_enters_150 ?_
                      refine lv_lstore (lv' := [(11, .long 1000), (8, .int (m_b (v_F nf ff hf g my a u v (ky a) (ky a (t, d))))), (9, .int (nI (n + 0))), (10, .int (m_b (v_F nf ff hf g my a u v (ky a) (ky a (t, d))))), (0, .ref mo), (1, .int (nI a)), (2, .int u), (3, .int v), (4, .long t), (6, .long d)]) hx hb d_Mo_enters_153 hl (by decide) rfl (fun ls hl => ?_)
                      refine lv_lconst (v := 1) hx hb d_Mo_enters_155 (by decide) ?_
                      refine lv_lstore (lv' := [(13, .long 1), (11, .long 1000), (8, .int (m_b (v_F nf ff hf g my a u v (ky a) (ky a (t, d))))), (9, .int (nI (n + 0))), (10, .int (m_b (v_F nf ff hf g my a u v (ky a) (ky a (t, d))))), (0, .ref mo), (1, .int (nI a)), (2, .int u), (3, .int v), (4, .long t), (6, .long d)]) hx hb d_Mo_enters_156 hl (by decide) rfl (fun ls hl => ?_)
                      refine lv_iconst (v := 0) hx hb d_Mo_enters_158 (by decide) ?_
                      refine lv_istore (lv' := [(15, .int 0), (13, .long 1), (11, .long 1000), (8, .int (m_b (v_F nf ff hf g my a u v (ky a) (ky a (t, d))))), (9, .int (nI (n + 0))), (10, .int (m_b (v_F nf ff hf g my a u v (ky a) (ky a (t, d))))), (0, .ref mo), (1, .int (nI a)), (2, .int u), (3, .int v), (4, .long t), (6, .long d)]) hx hb d_Mo_enters_159 hl (by decide) rfl (fun ls hl => ?_)
                      refine gh_gen hG (fun H l9 hG => ?_)
                      refine lp_upH (α := Int64 × Int64) (G := fun ls H l9 => W p l e _ s m _ below meth c H l9 _ _ _ (F0 m 161 ls [])) g (fun k c2 ls H l9 => (v_S nf ff g a u v (c2.1, c2.2) ∧ ky a (c2.1, c2.2) = sw_nx (v_act nf a) (v_key nf ff a u v (ky a)) (ky a (t, d)) (ky a (1000, 1)) k) ∧ lv_has ls 16 [(0, .ref mo), (1, .int (nI a)), (2, .int u), (3, .int v), (4, .long t), (6, .long d), (8, .int (m_b (v_F nf ff hf g my a u v (ky a) (ky a (t, d))))), (9, .int (nI (n + 0))), (11, .long c2.1), (13, .long c2.2), (15, .int (nI k))] ∧ gh_P D vC b0 hM s.heap H l9) ?_ 0 (1000, 1) ls H l9 (Nat.zero_le _) ⟨⟨Or.inr (Or.inl rfl), rfl⟩, (lv_sub hl [6, 7, 8, 9, 10, 11, 3, 4, 2, 1, 0] rfl), hG⟩
                      intro k c2 ls H l9 hk hI ih
                      obtain ⟨hi1, hl, hG⟩ := hI
                      obtain ⟨hE1, hE2⟩ := hi1
                      refine lv_iload hx hb d_Mo_enters_161 (lv_at hl 10 rfl) ?_
                      refine lv_aload_n hx hb d_Mo_enters_163 rfl (lv_at hl 0 rfl) ?_
                      refine gh_get (ci := 5) hx hb htb in_Mo hown hK hG zmo rfl 1 (by decide) (htb _ k_2_224) (fun _ h9 => h9) rfl d_Mo_enters_164 ?_
                      refine lv_icmp_ge (tgt := 254) hx hb d_Mo_enters_167 (by decide) (fun hc167 => ?_) (fun hc167 => ?_)
                      · skip
                        replace hc167 : g ≤ k := (nc_le (a := g) (b := k) (by omega) (by omega) rfl rfl).mp hc167
                        refine lv_lload hx hb d_Mo_enters_254 (lv_at hl 8 rfl) ?_
                        refine lv_lstore (lv' := [(4, .long c2.1), (0, .ref mo), (1, .int (nI a)), (2, .int u), (3, .int v), (6, .long d), (8, .int (m_b (v_F nf ff hf g my a u v (ky a) (ky a (t, d))))), (9, .int (nI (n + 0))), (11, .long c2.1), (13, .long c2.2), (15, .int (nI k))]) hx hb d_Mo_enters_256 hl (by decide) rfl (fun ls hl => ?_)
                        refine lv_lload hx hb d_Mo_enters_258 (lv_at hl 9 rfl) ?_
                        refine lv_lstore (lv' := [(6, .long c2.2), (4, .long c2.1), (0, .ref mo), (1, .int (nI a)), (2, .int u), (3, .int v), (8, .int (m_b (v_F nf ff hf g my a u v (ky a) (ky a (t, d))))), (9, .int (nI (n + 0))), (11, .long c2.1), (13, .long c2.2), (15, .int (nI k))]) hx hb d_Mo_enters_260 hl (by decide) rfl (fun ls hl => ?_)
                        refine lv_goto (tgt := 97) hx hb d_Mo_enters_262 (by decide) ?_
                        rw [if_neg (fun z9 => by have := z9.2; rw [hc135] at this; cases this)] at hT
                        rw [show k = g by omega] at hE2
                        have hdec := sw_dec (act := (v_act nf a)) (key := (v_key nf ff a u v (ky a))) (g := g) hlt
                        rw [← hE2] at hdec hT
                        exact ihW (c2.1, c2.2, v_F nf ff hf g my a u v (ky a) (ky a (t, d)), (n + 0)) ls H l9 hdec ⟨⟨hE1, f, by show sw_mu (v_act nf a) (v_key nf ff a u v (ky a)) (ky a (1000, 1)) g (ky a (c2.1, c2.2)) ≤ f; omega, by show (n + 0) + v_run nf ff hf g my a u v (ky a) f (ky a (c2.1, c2.2)) (v_F nf ff hf g my a u v (ky a) (ky a (t, d))) = _; unfold v_run; omega⟩, (lv_sub hl [2, 3, 4, 5, 1, 0, 6, 7] rfl), hG⟩
                      · skip
                        replace hc167 : ¬ g ≤ k := fun q9 => hc167 ((nc_le (a := g) (b := k) (by omega) (by omega) rfl rfl).mpr q9)
                        refine lv_aload_n hx hb d_Mo_enters_170 rfl (lv_at hl 0 rfl) ?_
                        refine gh_get (ci := 5) hx hb htb in_Mo hown hK hG zmo rfl 8 (by decide) (htb _ k_2_231) (fun _ h9 => h9) rfl d_Mo_enters_171 ?_
                        refine lv_iload hx hb d_Mo_enters_174 (lv_at hl 10 rfl) ?_
                        refine gh_lald (v := d1 k) hx hb hK hG 1 zdn rfl (vp_in_nI (by omega) (by decide)) (by rw [nI_clamp (by omega)]) d_Mo_enters_176 ?_
                        refine lv_lconst (v := 0) hx hb d_Mo_enters_177 (by decide) ?_
                        refine W.lcmp hx hb d_Mo_enters_178 ?_
                        refine lv_if_le (tgt := 248) hx hb d_Mo_enters_179 (by decide) (fun hc179 => ?_) (fun hc179 => ?_)
                        · skip
                          rw [lg_cmp_le] at hc179
                          refine lv_iinc (k := 10) (v := nI (k + 1)) (lv' := [(15, .int (nI (k + 1))), (0, .ref mo), (1, .int (nI a)), (2, .int u), (3, .int v), (4, .long t), (6, .long d), (8, .int (m_b (v_F nf ff hf g my a u v (ky a) (ky a (t, d))))), (9, .int (nI (n + 0))), (11, .long c2.1), (13, .long c2.2)]) hx hb d_Mo_enters_248 hl rfl (nI_1 k) (by decide) rfl (fun ls hl => ?_)
                          refine lv_goto (tgt := 161) hx hb d_Mo_enters_251 (by decide) ?_
                          exact ih (c2.1, c2.2) ls H l9 (by omega) ⟨en_no hD hK9 hS hE1 (by omega) (Or.inl hc179) hE2, (lv_sub hl [1, 2, 3, 4, 5, 6, 7, 8, 9, 10, 0] rfl), hG⟩
                        · skip
                          rw [lg_cmp_le] at hc179
                          refine lv_aload_n hx hb d_Mo_enters_182 rfl (lv_at hl 0 rfl) ?_
                          refine gh_get (ci := 5) hx hb htb in_Mo hown hK hG zmo rfl 7 (by decide) (htb _ k_2_230) (fun _ h9 => h9) rfl d_Mo_enters_183 ?_
                          refine lv_iload hx hb d_Mo_enters_186 (lv_at hl 10 rfl) ?_
                          refine gh_lald (v := t1 k) hx hb hK hG 1 ztp rfl (vp_in_nI (by omega) (by decide)) (by rw [nI_clamp (by omega)]) d_Mo_enters_188 ?_
                          refine lv_aload_n hx hb d_Mo_enters_189 rfl (lv_at hl 0 rfl) ?_
                          refine gh_get (ci := 5) hx hb htb in_Mo hown hK hG zmo rfl 8 (by decide) (htb _ k_2_231) (fun _ h9 => h9) rfl d_Mo_enters_190 ?_
                          refine lv_iload hx hb d_Mo_enters_193 (lv_at hl 10 rfl) ?_
                          refine gh_lald (v := d1 k) hx hb hK hG 1 zdn rfl (vp_in_nI (by omega) (by decide)) (by rw [nI_clamp (by omega)]) d_Mo_enters_195 ?_
                          refine lv_lload hx hb d_Mo_enters_196 (lv_at hl 4 rfl) ?_
                          refine lv_lload hx hb d_Mo_enters_198 (lv_at hl 5 rfl) ?_
                          refine gh_cS (As := [.long (t1 k), .long (d1 k), .long t, .long d]) (rest := []) (xF_ok b0) hx hb hml hown hK hX hG c_Mo_compare (q_Mo_compare htb ⟨by decide, by decide⟩) (htb _ k_3_116) (htb _ k_3_117) rfl hl.1 rfl (Nat.le_of_ble_eq_true rfl) d_Mo_enters_200 ⟨by decide, by decide⟩ (fun v9 h9 H l9 hp9 hG => ?_) (fun _ _ _ _ hp9 _ => by cases hp9.1)
                          obtain ⟨hv9, hh9⟩ := hp9
                          cases hv9
                          rw [hh9] at hG
                          refine W.eq (g2 := F0 m 203 ls [.int (v_cmp (t1 k) (d1 k) t d)]) rfl ?_
                          refine W.widen (k := 0) (n := 0) (by decide) (by decide) ?_
                          refine lv_if_le (tgt := 248) hx hb d_Mo_enters_203 (by decide) (fun hc203 => ?_) (fun hc203 => ?_)
                          · skip
                            refine lv_iinc (k := 10) (v := nI (k + 1)) (lv' := [(15, .int (nI (k + 1))), (0, .ref mo), (1, .int (nI a)), (2, .int u), (3, .int v), (4, .long t), (6, .long d), (8, .int (m_b (v_F nf ff hf g my a u v (ky a) (ky a (t, d))))), (9, .int (nI (n + 0))), (11, .long c2.1), (13, .long c2.2)]) hx hb d_Mo_enters_248 hl rfl (nI_1 k) (by decide) rfl (fun ls hl => ?_)
                            refine lv_goto (tgt := 161) hx hb d_Mo_enters_251 (by decide) ?_
                            exact ih (c2.1, c2.2) ls H l9 (by omega) ⟨en_no hD hK9 hS hE1 (by omega) (Or.inr (Or.inl hc203)) hE2, (lv_sub hl [1, 2, 3, 4, 5, 6, 7, 8, 9, 10, 0] rfl), hG⟩
                          · skip
                            refine lv_aload_n hx hb d_Mo_enters_206 rfl (lv_at hl 0 rfl) ?_
                            refine gh_get (ci := 5) hx hb htb in_Mo hown hK hG zmo rfl 7 (by decide) (htb _ k_2_230) (fun _ h9 => h9) rfl d_Mo_enters_207 ?_
                            refine lv_iload hx hb d_Mo_enters_210 (lv_at hl 10 rfl) ?_
                            refine gh_lald (v := t1 k) hx hb hK hG 1 ztp rfl (vp_in_nI (by omega) (by decide)) (by rw [nI_clamp (by omega)]) d_Mo_enters_212 ?_
                            refine lv_aload_n hx hb d_Mo_enters_213 rfl (lv_at hl 0 rfl) ?_
                            refine gh_get (ci := 5) hx hb htb in_Mo hown hK hG zmo rfl 8 (by decide) (htb _ k_2_231) (fun _ h9 => h9) rfl d_Mo_enters_214 ?_
                            refine lv_iload hx hb d_Mo_enters_217 (lv_at hl 10 rfl) ?_
                            refine gh_lald (v := d1 k) hx hb hK hG 1 zdn rfl (vp_in_nI (by omega) (by decide)) (by rw [nI_clamp (by omega)]) d_Mo_enters_219 ?_
                            refine lv_lload hx hb d_Mo_enters_220 (lv_at hl 8 rfl) ?_
                            refine lv_lload hx hb d_Mo_enters_222 (lv_at hl 9 rfl) ?_
                            refine gh_cS (As := [.long (t1 k), .long (d1 k), .long c2.1, .long c2.2]) (rest := []) (xF_ok b0) hx hb hml hown hK hX hG c_Mo_compare (q_Mo_compare htb ⟨by decide, by decide⟩) (htb _ k_3_116) (htb _ k_3_117) rfl hl.1 rfl (Nat.le_of_ble_eq_true rfl) d_Mo_enters_224 ⟨by decide, by decide⟩ (fun v9 h9 H l9 hp9 hG => ?_) (fun _ _ _ _ hp9 _ => by cases hp9.1)
                            obtain ⟨hv9, hh9⟩ := hp9
                            cases hv9
                            rw [hh9] at hG
                            refine W.eq (g2 := F0 m 227 ls [.int (v_cmp (t1 k) (d1 k) c2.1 c2.2)]) rfl ?_
                            refine W.widen (k := 0) (n := 0) (by decide) (by decide) ?_
                            refine lv_if_ge (tgt := 248) hx hb d_Mo_enters_227 (by decide) (fun hc227 => ?_) (fun hc227 => ?_)
                            · skip
                              refine lv_iinc (k := 10) (v := nI (k + 1)) (lv' := [(15, .int (nI (k + 1))), (0, .ref mo), (1, .int (nI a)), (2, .int u), (3, .int v), (4, .long t), (6, .long d), (8, .int (m_b (v_F nf ff hf g my a u v (ky a) (ky a (t, d))))), (9, .int (nI (n + 0))), (11, .long c2.1), (13, .long c2.2)]) hx hb d_Mo_enters_248 hl rfl (nI_1 k) (by decide) rfl (fun ls hl => ?_)
                              refine lv_goto (tgt := 161) hx hb d_Mo_enters_251 (by decide) ?_
                              exact ih (c2.1, c2.2) ls H l9 (by omega) ⟨en_no hD hK9 hS hE1 (by omega) (Or.inr (Or.inr hc227)) hE2, (lv_sub hl [1, 2, 3, 4, 5, 6, 7, 8, 9, 10, 0] rfl), hG⟩
                            · skip
                              refine lv_aload_n hx hb d_Mo_enters_230 rfl (lv_at hl 0 rfl) ?_
                              refine gh_get (ci := 5) hx hb htb in_Mo hown hK hG zmo rfl 7 (by decide) (htb _ k_2_230) (fun _ h9 => h9) rfl d_Mo_enters_231 ?_
                              refine lv_iload hx hb d_Mo_enters_234 (lv_at hl 10 rfl) ?_
                              refine gh_lald (v := t1 k) hx hb hK hG 1 ztp rfl (vp_in_nI (by omega) (by decide)) (by rw [nI_clamp (by omega)]) d_Mo_enters_236 ?_
                              refine lv_lstore (lv' := [(11, .long (t1 k)), (0, .ref mo), (1, .int (nI a)), (2, .int u), (3, .int v), (4, .long t), (6, .long d), (8, .int (m_b (v_F nf ff hf g my a u v (ky a) (ky a (t, d))))), (9, .int (nI (n + 0))), (13, .long c2.2), (15, .int (nI k))]) hx hb d_Mo_enters_237 hl (by decide) rfl (fun ls hl => ?_)
                              refine lv_aload_n hx hb d_Mo_enters_239 rfl (lv_at hl 1 rfl) ?_
                              refine gh_get (ci := 5) hx hb htb in_Mo hown hK hG zmo rfl 8 (by decide) (htb _ k_2_231) (fun _ h9 => h9) rfl d_Mo_enters_240 ?_
                              refine lv_iload hx hb d_Mo_enters_243 (lv_at hl 10 rfl) ?_
                              refine gh_lald (v := d1 k) hx hb hK hG 1 zdn rfl (vp_in_nI (by omega) (by decide)) (by rw [nI_clamp (by omega)]) d_Mo_enters_245 ?_
                              refine lv_lstore (lv' := [(13, .long (d1 k)), (11, .long (t1 k)), (0, .ref mo), (1, .int (nI a)), (2, .int u), (3, .int v), (4, .long t), (6, .long d), (8, .int (m_b (v_F nf ff hf g my a u v (ky a) (ky a (t, d))))), (9, .int (nI (n + 0))), (15, .int (nI k))]) hx hb d_Mo_enters_246 hl (by decide) rfl (fun ls hl => ?_)
                              refine lv_iinc (k := 10) (v := nI (k + 1)) (lv' := [(15, .int (nI (k + 1))), (13, .long (d1 k)), (11, .long (t1 k)), (0, .ref mo), (1, .int (nI a)), (2, .int u), (3, .int v), (4, .long t), (6, .long d), (8, .int (m_b (v_F nf ff hf g my a u v (ky a) (ky a (t, d))))), (9, .int (nI (n + 0)))]) hx hb d_Mo_enters_248 hl rfl (nI_1 k) (by decide) rfl (fun ls hl => ?_)
                              refine lv_goto (tgt := 161) hx hb d_Mo_enters_251 (by decide) ?_
                              exact ih (t1 k, d1 k) ls H l9 (by omega) ⟨en_yes hD hK9 hS hE1 (by omega) hc179 hc203 hc227 hE2, (lv_sub hl [3, 4, 5, 6, 7, 8, 9, 10, 2, 1, 0] rfl), hG⟩
                    · skip
                      replace hc135 := mb_0.mp hc135
                      refine lv_iconst (v := 1) hx hb d_Mo_enters_138 (by decide) ?_
                      refine lv_goto (tgt := 143) hx hb d_Mo_enters_139 (by decide) ?_
                      refine lv_iadd hx hb d_Mo_enters_143 ?_
                      rw [show nI n + 1 = nI (n + 1) from nI_1 n]
                      refine lv_istore (lv' := [(9, .int (nI (n + 1))), (10, .int (m_b (v_F nf ff hf g my a u v (ky a) (ky a (t, d))))), (0, .ref mo), (1, .int (nI a)), (2, .int u), (3, .int v), (4, .long t), (6, .long d), (8, .int (m_b inn))]) hx hb d_Mo_enters_144 hl (by decide) rfl (fun ls hl => ?_)
                      refine lv_iload hx hb d_Mo_enters_146 (lv_at hl 1 rfl) ?_
                      refine lv_istore (lv' := [(8, .int (m_b (v_F nf ff hf g my a u v (ky a) (ky a (t, d))))), (9, .int (nI (n + 1))), (10, .int (m_b (v_F nf ff hf g my a u v (ky a) (ky a (t, d))))), (0, .ref mo), (1, .int (nI a)), (2, .int u), (3, .int v), (4, .long t), (6, .long d)]) hx hb d_Mo_enters_148 hl (by decide) rfl (fun ls hl => ?_)
                      refine lv_ldc2 (v := 1000) hx hb hown (htb _ k_3_119) d_Mo_enters_150 ?_
                      refine lv_lstore (lv' := [(11, .long 1000), (8, .int (m_b (v_F nf ff hf g my a u v (ky a) (ky a (t, d))))), (9, .int (nI (n + 1))), (10, .int (m_b (v_F nf ff hf g my a u v (ky a) (ky a (t, d))))), (0, .ref mo), (1, .int (nI a)), (2, .int u), (3, .int v), (4, .long t), (6, .long d)]) hx hb d_Mo_enters_153 hl (by decide) rfl (fun ls hl => ?_)
                      refine lv_lconst (v := 1) hx hb d_Mo_enters_155 (by decide) ?_
                      refine lv_lstore (lv' := [(13, .long 1), (11, .long 1000), (8, .int (m_b (v_F nf ff hf g my a u v (ky a) (ky a (t, d))))), (9, .int (nI (n + 1))), (10, .int (m_b (v_F nf ff hf g my a u v (ky a) (ky a (t, d))))), (0, .ref mo), (1, .int (nI a)), (2, .int u), (3, .int v), (4, .long t), (6, .long d)]) hx hb d_Mo_enters_156 hl (by decide) rfl (fun ls hl => ?_)
                      refine lv_iconst (v := 0) hx hb d_Mo_enters_158 (by decide) ?_
                      refine lv_istore (lv' := [(15, .int 0), (13, .long 1), (11, .long 1000), (8, .int (m_b (v_F nf ff hf g my a u v (ky a) (ky a (t, d))))), (9, .int (nI (n + 1))), (10, .int (m_b (v_F nf ff hf g my a u v (ky a) (ky a (t, d))))), (0, .ref mo), (1, .int (nI a)), (2, .int u), (3, .int v), (4, .long t), (6, .long d)]) hx hb d_Mo_enters_159 hl (by decide) rfl (fun ls hl => ?_)
                      refine gh_gen hG (fun H l9 hG => ?_)
                      refine lp_upH (α := Int64 × Int64) (G := fun ls H l9 => W p l e _ s m _ below meth c H l9 _ _ _ (F0 m 161 ls [])) g (fun k c2 ls H l9 => (v_S nf ff g a u v (c2.1, c2.2) ∧ ky a (c2.1, c2.2) = sw_nx (v_act nf a) (v_key nf ff a u v (ky a)) (ky a (t, d)) (ky a (1000, 1)) k) ∧ lv_has ls 16 [(0, .ref mo), (1, .int (nI a)), (2, .int u), (3, .int v), (4, .long t), (6, .long d), (8, .int (m_b (v_F nf ff hf g my a u v (ky a) (ky a (t, d))))), (9, .int (nI (n + 1))), (11, .long c2.1), (13, .long c2.2), (15, .int (nI k))] ∧ gh_P D vC b0 hM s.heap H l9) ?_ 0 (1000, 1) ls H l9 (Nat.zero_le _) ⟨⟨Or.inr (Or.inl rfl), rfl⟩, (lv_sub hl [6, 7, 8, 9, 10, 11, 3, 4, 2, 1, 0] rfl), hG⟩
                      intro k c2 ls H l9 hk hI ih
                      obtain ⟨hi1, hl, hG⟩ := hI
                      obtain ⟨hE1, hE2⟩ := hi1
                      refine lv_iload hx hb d_Mo_enters_161 (lv_at hl 10 rfl) ?_
                      refine lv_aload_n hx hb d_Mo_enters_163 rfl (lv_at hl 0 rfl) ?_
                      refine gh_get (ci := 5) hx hb htb in_Mo hown hK hG zmo rfl 1 (by decide) (htb _ k_2_224) (fun _ h9 => h9) rfl d_Mo_enters_164 ?_
                      refine lv_icmp_ge (tgt := 254) hx hb d_Mo_enters_167 (by decide) (fun hc167 => ?_) (fun hc167 => ?_)
                      · skip
                        replace hc167 : g ≤ k := (nc_le (a := g) (b := k) (by omega) (by omega) rfl rfl).mp hc167
                        refine lv_lload hx hb d_Mo_enters_254 (lv_at hl 8 rfl) ?_
                        refine lv_lstore (lv' := [(4, .long c2.1), (0, .ref mo), (1, .int (nI a)), (2, .int u), (3, .int v), (6, .long d), (8, .int (m_b (v_F nf ff hf g my a u v (ky a) (ky a (t, d))))), (9, .int (nI (n + 1))), (11, .long c2.1), (13, .long c2.2), (15, .int (nI k))]) hx hb d_Mo_enters_256 hl (by decide) rfl (fun ls hl => ?_)
                        refine lv_lload hx hb d_Mo_enters_258 (lv_at hl 9 rfl) ?_
                        refine lv_lstore (lv' := [(6, .long c2.2), (4, .long c2.1), (0, .ref mo), (1, .int (nI a)), (2, .int u), (3, .int v), (8, .int (m_b (v_F nf ff hf g my a u v (ky a) (ky a (t, d))))), (9, .int (nI (n + 1))), (11, .long c2.1), (13, .long c2.2), (15, .int (nI k))]) hx hb d_Mo_enters_260 hl (by decide) rfl (fun ls hl => ?_)
                        refine lv_goto (tgt := 97) hx hb d_Mo_enters_262 (by decide) ?_
                        rw [if_pos ⟨hc130, hc135⟩] at hT
                        rw [show k = g by omega] at hE2
                        have hdec := sw_dec (act := (v_act nf a)) (key := (v_key nf ff a u v (ky a))) (g := g) hlt
                        rw [← hE2] at hdec hT
                        exact ihW (c2.1, c2.2, v_F nf ff hf g my a u v (ky a) (ky a (t, d)), (n + 1)) ls H l9 hdec ⟨⟨hE1, f, by show sw_mu (v_act nf a) (v_key nf ff a u v (ky a)) (ky a (1000, 1)) g (ky a (c2.1, c2.2)) ≤ f; omega, by show (n + 1) + v_run nf ff hf g my a u v (ky a) f (ky a (c2.1, c2.2)) (v_F nf ff hf g my a u v (ky a) (ky a (t, d))) = _; unfold v_run; omega⟩, (lv_sub hl [2, 3, 4, 5, 1, 0, 6, 7] rfl), hG⟩
                      · skip
                        replace hc167 : ¬ g ≤ k := fun q9 => hc167 ((nc_le (a := g) (b := k) (by omega) (by omega) rfl rfl).mpr q9)
                        refine lv_aload_n hx hb d_Mo_enters_170 rfl (lv_at hl 0 rfl) ?_
                        refine gh_get (ci := 5) hx hb htb in_Mo hown hK hG zmo rfl 8 (by decide) (htb _ k_2_231) (fun _ h9 => h9) rfl d_Mo_enters_171 ?_
                        refine lv_iload hx hb d_Mo_enters_174 (lv_at hl 10 rfl) ?_
                        refine gh_lald (v := d1 k) hx hb hK hG 1 zdn rfl (vp_in_nI (by omega) (by decide)) (by rw [nI_clamp (by omega)]) d_Mo_enters_176 ?_
                        refine lv_lconst (v := 0) hx hb d_Mo_enters_177 (by decide) ?_
                        refine W.lcmp hx hb d_Mo_enters_178 ?_
                        refine lv_if_le (tgt := 248) hx hb d_Mo_enters_179 (by decide) (fun hc179 => ?_) (fun hc179 => ?_)
                        · skip
                          rw [lg_cmp_le] at hc179
                          refine lv_iinc (k := 10) (v := nI (k + 1)) (lv' := [(15, .int (nI (k + 1))), (0, .ref mo), (1, .int (nI a)), (2, .int u), (3, .int v), (4, .long t), (6, .long d), (8, .int (m_b (v_F nf ff hf g my a u v (ky a) (ky a (t, d))))), (9, .int (nI (n + 1))), (11, .long c2.1), (13, .long c2.2)]) hx hb d_Mo_enters_248 hl rfl (nI_1 k) (by decide) rfl (fun ls hl => ?_)
                          refine lv_goto (tgt := 161) hx hb d_Mo_enters_251 (by decide) ?_
                          exact ih (c2.1, c2.2) ls H l9 (by omega) ⟨en_no hD hK9 hS hE1 (by omega) (Or.inl hc179) hE2, (lv_sub hl [1, 2, 3, 4, 5, 6, 7, 8, 9, 10, 0] rfl), hG⟩
                        · skip
                          rw [lg_cmp_le] at hc179
                          refine lv_aload_n hx hb d_Mo_enters_182 rfl (lv_at hl 0 rfl) ?_
                          refine gh_get (ci := 5) hx hb htb in_Mo hown hK hG zmo rfl 7 (by decide) (htb _ k_2_230) (fun _ h9 => h9) rfl d_Mo_enters_183 ?_
                          refine lv_iload hx hb d_Mo_enters_186 (lv_at hl 10 rfl) ?_
                          refine gh_lald (v := t1 k) hx hb hK hG 1 ztp rfl (vp_in_nI (by omega) (by decide)) (by rw [nI_clamp (by omega)]) d_Mo_enters_188 ?_
                          refine lv_aload_n hx hb d_Mo_enters_189 rfl (lv_at hl 0 rfl) ?_
                          refine gh_get (ci := 5) hx hb htb in_Mo hown hK hG zmo rfl 8 (by decide) (htb _ k_2_231) (fun _ h9 => h9) rfl d_Mo_enters_190 ?_
                          refine lv_iload hx hb d_Mo_enters_193 (lv_at hl 10 rfl) ?_
                          refine gh_lald (v := d1 k) hx hb hK hG 1 zdn rfl (vp_in_nI (by omega) (by decide)) (by rw [nI_clamp (by omega)]) d_Mo_enters_195 ?_
                          refine lv_lload hx hb d_Mo_enters_196 (lv_at hl 4 rfl) ?_
                          refine lv_lload hx hb d_Mo_enters_198 (lv_at hl 5 rfl) ?_
                          refine gh_cS (As := [.long (t1 k), .long (d1 k), .long t, .long d]) (rest := []) (xF_ok b0) hx hb hml hown hK hX hG c_Mo_compare (q_Mo_compare htb ⟨by decide, by decide⟩) (htb _ k_3_116) (htb _ k_3_117) rfl hl.1 rfl (Nat.le_of_ble_eq_true rfl) d_Mo_enters_200 ⟨by decide, by decide⟩ (fun v9 h9 H l9 hp9 hG => ?_) (fun _ _ _ _ hp9 _ => by cases hp9.1)
                          obtain ⟨hv9, hh9⟩ := hp9
                          cases hv9
                          rw [hh9] at hG
                          refine W.eq (g2 := F0 m 203 ls [.int (v_cmp (t1 k) (d1 k) t d)]) rfl ?_
                          refine W.widen (k := 0) (n := 0) (by decide) (by decide) ?_
                          refine lv_if_le (tgt := 248) hx hb d_Mo_enters_203 (by decide) (fun hc203 => ?_) (fun hc203 => ?_)
                          · skip
                            refine lv_iinc (k := 10) (v := nI (k + 1)) (lv' := [(15, .int (nI (k + 1))), (0, .ref mo), (1, .int (nI a)), (2, .int u), (3, .int v), (4, .long t), (6, .long d), (8, .int (m_b (v_F nf ff hf g my a u v (ky a) (ky a (t, d))))), (9, .int (nI (n + 1))), (11, .long c2.1), (13, .long c2.2)]) hx hb d_Mo_enters_248 hl rfl (nI_1 k) (by decide) rfl (fun ls hl => ?_)
                            refine lv_goto (tgt := 161) hx hb d_Mo_enters_251 (by decide) ?_
                            exact ih (c2.1, c2.2) ls H l9 (by omega) ⟨en_no hD hK9 hS hE1 (by omega) (Or.inr (Or.inl hc203)) hE2, (lv_sub hl [1, 2, 3, 4, 5, 6, 7, 8, 9, 10, 0] rfl), hG⟩
                          · skip
                            refine lv_aload_n hx hb d_Mo_enters_206 rfl (lv_at hl 0 rfl) ?_
                            refine gh_get (ci := 5) hx hb htb in_Mo hown hK hG zmo rfl 7 (by decide) (htb _ k_2_230) (fun _ h9 => h9) rfl d_Mo_enters_207 ?_
                            refine lv_iload hx hb d_Mo_enters_210 (lv_at hl 10 rfl) ?_
                            refine gh_lald (v := t1 k) hx hb hK hG 1 ztp rfl (vp_in_nI (by omega) (by decide)) (by rw [nI_clamp (by omega)]) d_Mo_enters_212 ?_
                            refine lv_aload_n hx hb d_Mo_enters_213 rfl (lv_at hl 0 rfl) ?_
                            refine gh_get (ci := 5) hx hb htb in_Mo hown hK hG zmo rfl 8 (by decide) (htb _ k_2_231) (fun _ h9 => h9) rfl d_Mo_enters_214 ?_
                            refine lv_iload hx hb d_Mo_enters_217 (lv_at hl 10 rfl) ?_
                            refine gh_lald (v := d1 k) hx hb hK hG 1 zdn rfl (vp_in_nI (by omega) (by decide)) (by rw [nI_clamp (by omega)]) d_Mo_enters_219 ?_
                            refine lv_lload hx hb d_Mo_enters_220 (lv_at hl 8 rfl) ?_
                            refine lv_lload hx hb d_Mo_enters_222 (lv_at hl 9 rfl) ?_
                            refine gh_cS (As := [.long (t1 k), .long (d1 k), .long c2.1, .long c2.2]) (rest := []) (xF_ok b0) hx hb hml hown hK hX hG c_Mo_compare (q_Mo_compare htb ⟨by decide, by decide⟩) (htb _ k_3_116) (htb _ k_3_117) rfl hl.1 rfl (Nat.le_of_ble_eq_true rfl) d_Mo_enters_224 ⟨by decide, by decide⟩ (fun v9 h9 H l9 hp9 hG => ?_) (fun _ _ _ _ hp9 _ => by cases hp9.1)
                            obtain ⟨hv9, hh9⟩ := hp9
                            cases hv9
                            rw [hh9] at hG
                            refine W.eq (g2 := F0 m 227 ls [.int (v_cmp (t1 k) (d1 k) c2.1 c2.2)]) rfl ?_
                            refine W.widen (k := 0) (n := 0) (by decide) (by decide) ?_
                            refine lv_if_ge (tgt := 248) hx hb d_Mo_enters_227 (by decide) (fun hc227 => ?_) (fun hc227 => ?_)
                            · skip
                              refine lv_iinc (k := 10) (v := nI (k + 1)) (lv' := [(15, .int (nI (k + 1))), (0, .ref mo), (1, .int (nI a)), (2, .int u), (3, .int v), (4, .long t), (6, .long d), (8, .int (m_b (v_F nf ff hf g my a u v (ky a) (ky a (t, d))))), (9, .int (nI (n + 1))), (11, .long c2.1), (13, .long c2.2)]) hx hb d_Mo_enters_248 hl rfl (nI_1 k) (by decide) rfl (fun ls hl => ?_)
                              refine lv_goto (tgt := 161) hx hb d_Mo_enters_251 (by decide) ?_
                              exact ih (c2.1, c2.2) ls H l9 (by omega) ⟨en_no hD hK9 hS hE1 (by omega) (Or.inr (Or.inr hc227)) hE2, (lv_sub hl [1, 2, 3, 4, 5, 6, 7, 8, 9, 10, 0] rfl), hG⟩
                            · skip
                              refine lv_aload_n hx hb d_Mo_enters_230 rfl (lv_at hl 0 rfl) ?_
                              refine gh_get (ci := 5) hx hb htb in_Mo hown hK hG zmo rfl 7 (by decide) (htb _ k_2_230) (fun _ h9 => h9) rfl d_Mo_enters_231 ?_
                              refine lv_iload hx hb d_Mo_enters_234 (lv_at hl 10 rfl) ?_
                              refine gh_lald (v := t1 k) hx hb hK hG 1 ztp rfl (vp_in_nI (by omega) (by decide)) (by rw [nI_clamp (by omega)]) d_Mo_enters_236 ?_
                              refine lv_lstore (lv' := [(11, .long (t1 k)), (0, .ref mo), (1, .int (nI a)), (2, .int u), (3, .int v), (4, .long t), (6, .long d), (8, .int (m_b (v_F nf ff hf g my a u v (ky a) (ky a (t, d))))), (9, .int (nI (n + 1))), (13, .long c2.2), (15, .int (nI k))]) hx hb d_Mo_enters_237 hl (by decide) rfl (fun ls hl => ?_)
                              refine lv_aload_n hx hb d_Mo_enters_239 rfl (lv_at hl 1 rfl) ?_
                              refine gh_get (ci := 5) hx hb htb in_Mo hown hK hG zmo rfl 8 (by decide) (htb _ k_2_231) (fun _ h9 => h9) rfl d_Mo_enters_240 ?_
                              refine lv_iload hx hb d_Mo_enters_243 (lv_at hl 10 rfl) ?_
                              refine gh_lald (v := d1 k) hx hb hK hG 1 zdn rfl (vp_in_nI (by omega) (by decide)) (by rw [nI_clamp (by omega)]) d_Mo_enters_245 ?_
                              refine lv_lstore (lv' := [(13, .long (d1 k)), (11, .long (t1 k)), (0, .ref mo), (1, .int (nI a)), (2, .int u), (3, .int v), (4, .long t), (6, .long d), (8, .int (m_b (v_F nf ff hf g my a u v (ky a) (ky a (t, d))))), (9, .int (nI (n + 1))), (15, .int (nI k))]) hx hb d_Mo_enters_246 hl (by decide) rfl (fun ls hl => ?_)
                              refine lv_iinc (k := 10) (v := nI (k + 1)) (lv' := [(15, .int (nI (k + 1))), (13, .long (d1 k)), (11, .long (t1 k)), (0, .ref mo), (1, .int (nI a)), (2, .int u), (3, .int v), (4, .long t), (6, .long d), (8, .int (m_b (v_F nf ff hf g my a u v (ky a) (ky a (t, d))))), (9, .int (nI (n + 1)))]) hx hb d_Mo_enters_248 hl rfl (nI_1 k) (by decide) rfl (fun ls hl => ?_)
                              refine lv_goto (tgt := 161) hx hb d_Mo_enters_251 (by decide) ?_
                              exact ih (t1 k, d1 k) ls H l9 (by omega) ⟨en_yes hD hK9 hS hE1 (by omega) hc179 hc203 hc227 hE2, (lv_sub hl [3, 4, 5, 6, 7, 8, 9, 10, 2, 1, 0] rfl), hG⟩
              · skip
                replace hc73 := mb_1.mp hc73
                refine lv_aload_n hx hb d_Mo_enters_76 rfl (lv_at hl 0 rfl) ?_
                refine lv_iconst (v := 3) hx hb d_Mo_enters_77 (by decide) ?_
                refine gh_put (ci := 5) (ty := .int) hx hb htb in_Mo t_Mo ty_Mo nm_Mo hown hK hG zmo rfl 0 (by decide) (htb _ k_2_223) (fun _ h9 => h9) rfl (by decide +kernel) rfl rfl (Nat.le_of_ble_eq_true rfl) d_Mo_enters_78 (fun H l9 hG => ?_)
                have hq6 : (gh_up hM mo (.inr (5, [.int 3, .int (nI g), .ref nm, .ref fr, .int (nI my), .ref hs, .ref va, .ref tp, .ref dn]))) mo = some (.inr (5, [.int 3, .int (nI g), .ref nm, .ref fr, .int (nI my), .ref hs, .ref va, .ref tp, .ref dn])) := gh_self _ _ _
                replace hG : gh_P D vC b0 (gh_up hM mo (.inr (5, [.int 3, .int (nI g), .ref nm, .ref fr, .int (nI my), .ref hs, .ref va, .ref tp, .ref dn]))) s.heap _ _ := hG
                have znm_6 : (gh_up hM mo (.inr (5, [.int 3, .int (nI g), .ref nm, .ref fr, .int (nI my), .ref hs, .ref va, .ref tp, .ref dn]))) nm = some (.inl (cI, 24, .inl nf)) := gh_keep zmo znm (by simp)
                have zfr_6 : (gh_up hM mo (.inr (5, [.int 3, .int (nI g), .ref nm, .ref fr, .int (nI my), .ref hs, .ref va, .ref tp, .ref dn]))) fr = some (.inl (cI, 8, .inl ff)) := gh_keep zmo zfr (by simp)
                have zhs_6 : (gh_up hM mo (.inr (5, [.int 3, .int (nI g), .ref nm, .ref fr, .int (nI my), .ref hs, .ref va, .ref tp, .ref dn]))) hs = some (.inl (cJ, 24, .inr (.inl hf))) := gh_keep zmo zhs (by simp)
                have zva_6 : (gh_up hM mo (.inr (5, [.int 3, .int (nI g), .ref nm, .ref fr, .int (nI my), .ref hs, .ref va, .ref tp, .ref dn]))) va = some (.inl (cJ, 8, .inr (.inl v1))) := gh_keep zmo zva (by simp)
                have ztp_6 : (gh_up hM mo (.inr (5, [.int 3, .int (nI g), .ref nm, .ref fr, .int (nI my), .ref hs, .ref va, .ref tp, .ref dn]))) tp = some (.inl (cJ, 8, .inr (.inl t1))) := gh_keep zmo ztp (by simp)
                have zdn_6 : (gh_up hM mo (.inr (5, [.int 3, .int (nI g), .ref nm, .ref fr, .int (nI my), .ref hs, .ref va, .ref tp, .ref dn]))) dn = some (.inl (cJ, 8, .inr (.inl d1))) := gh_keep zmo zdn (by simp)
                refine lv_iconst (v := 0) hx hb d_Mo_enters_81 (by decide) ?_
                exact gh_iret hx hb hr hlk rfl hG d_Mo_enters_82 (rB_0 (by simp only [v_badE, decide_eq_false hc2, decide_eq_false hc7, hc17, hc27]; rfl) (rB_0 (decide_eq_false hc38) ⟨a, v1, t1, d1, ha, rfl, Or.inl ⟨Or.inr hc73, rfl, (wM_mk hq6 znm_6 zfr_6 zhs_6 zva_6 ztp_6 zdn_6 zvt zvd ztd (by omega) (by omega)), (frM_up zfr9 zmo rfl)⟩⟩))
          · skip
            replace hc38 : my = 0 := (nc_eq (a := my) (b := 0) (by omega) (by omega) rfl rfl).mp hc38
            refine lv_iconst (v := 2) hx hb d_Mo_enters_41 (by decide) ?_
            refine lv_goto (tgt := 46) hx hb d_Mo_enters_42 (by decide) ?_
            refine gh_put (ci := 5) (ty := .int) hx hb htb in_Mo t_Mo ty_Mo nm_Mo hown hK hG zmo rfl 0 (by decide) (htb _ k_2_223) (fun _ h9 => h9) rfl (by decide +kernel) rfl rfl (Nat.le_of_ble_eq_true rfl) d_Mo_enters_46 (fun H l9 hG => ?_)
            have hq7 : (gh_up h mo (.inr (5, [.int 2, .int (nI g), .ref nm, .ref fr, .int (nI my), .ref hs, .ref va, .ref tp, .ref dn]))) mo = some (.inr (5, [.int 2, .int (nI g), .ref nm, .ref fr, .int (nI my), .ref hs, .ref va, .ref tp, .ref dn])) := gh_self _ _ _
            replace hG : gh_P D vC b0 (gh_up h mo (.inr (5, [.int 2, .int (nI g), .ref nm, .ref fr, .int (nI my), .ref hs, .ref va, .ref tp, .ref dn]))) s.heap _ _ := hG
            have znm_7 : (gh_up h mo (.inr (5, [.int 2, .int (nI g), .ref nm, .ref fr, .int (nI my), .ref hs, .ref va, .ref tp, .ref dn]))) nm = some (.inl (cI, 24, .inl nf)) := gh_keep zmo znm (by simp)
            have zfr_7 : (gh_up h mo (.inr (5, [.int 2, .int (nI g), .ref nm, .ref fr, .int (nI my), .ref hs, .ref va, .ref tp, .ref dn]))) fr = some (.inl (cI, 8, .inl ff)) := gh_keep zmo zfr (by simp)
            have zhs_7 : (gh_up h mo (.inr (5, [.int 2, .int (nI g), .ref nm, .ref fr, .int (nI my), .ref hs, .ref va, .ref tp, .ref dn]))) hs = some (.inl (cJ, 24, .inr (.inl hf))) := gh_keep zmo zhs (by simp)
            have zva_7 : (gh_up h mo (.inr (5, [.int 2, .int (nI g), .ref nm, .ref fr, .int (nI my), .ref hs, .ref va, .ref tp, .ref dn]))) va = some (.inl (cJ, 8, .inr (.inl vf))) := gh_keep zmo zva (by simp)
            have ztp_7 : (gh_up h mo (.inr (5, [.int 2, .int (nI g), .ref nm, .ref fr, .int (nI my), .ref hs, .ref va, .ref tp, .ref dn]))) tp = some (.inl (cJ, 8, .inr (.inl tf))) := gh_keep zmo ztp (by simp)
            have zdn_7 : (gh_up h mo (.inr (5, [.int 2, .int (nI g), .ref nm, .ref fr, .int (nI my), .ref hs, .ref va, .ref tp, .ref dn]))) dn = some (.inl (cJ, 8, .inr (.inl df))) := gh_keep zmo zdn (by simp)
            refine lv_aload_n hx hb d_Mo_enters_49 rfl (lv_at hl 0 rfl) ?_
            refine gh_get (ci := 5) hx hb htb in_Mo hown hK hG hq7 rfl 0 (by decide) (htb _ k_2_223) (fun _ h9 => h9) rfl d_Mo_enters_50 ?_
            refine lv_if_le (tgt := 58) hx hb d_Mo_enters_53 (by decide) (fun hc53 => absurd hc53 (by decide)) (fun hc53 => ?_)
            refine lv_iconst (v := 0) hx hb d_Mo_enters_56 (by decide) ?_
            exact gh_iret hx hb hr hlk rfl hG d_Mo_enters_57 (rB_0 (by simp only [v_badE, decide_eq_false hc2, decide_eq_false hc7, hc17, hc27]; rfl) (rB_1 (decide_eq_true hc38) ⟨rfl, (wM_mk hq7 znm_7 zfr_7 zhs_7 zva_7 ztp_7 zdn_7 zvt zvd ztd (by omega) (by omega)), (frM_up zf0 zmo rfl)⟩))
        · skip
          replace hc27 := mb_n0.mp hc27
          refine lv_iconst (v := 1) hx hb d_Mo_enters_30 (by decide) ?_
          refine lv_goto (tgt := 46) hx hb d_Mo_enters_31 (by decide) ?_
          refine gh_put (ci := 5) (ty := .int) hx hb htb in_Mo t_Mo ty_Mo nm_Mo hown hK hG zmo rfl 0 (by decide) (htb _ k_2_223) (fun _ h9 => h9) rfl (by decide +kernel) rfl rfl (Nat.le_of_ble_eq_true rfl) d_Mo_enters_46 (fun H l9 hG => ?_)
          have hq8 : (gh_up h mo (.inr (5, [.int 1, .int (nI g), .ref nm, .ref fr, .int (nI my), .ref hs, .ref va, .ref tp, .ref dn]))) mo = some (.inr (5, [.int 1, .int (nI g), .ref nm, .ref fr, .int (nI my), .ref hs, .ref va, .ref tp, .ref dn])) := gh_self _ _ _
          replace hG : gh_P D vC b0 (gh_up h mo (.inr (5, [.int 1, .int (nI g), .ref nm, .ref fr, .int (nI my), .ref hs, .ref va, .ref tp, .ref dn]))) s.heap _ _ := hG
          have znm_8 : (gh_up h mo (.inr (5, [.int 1, .int (nI g), .ref nm, .ref fr, .int (nI my), .ref hs, .ref va, .ref tp, .ref dn]))) nm = some (.inl (cI, 24, .inl nf)) := gh_keep zmo znm (by simp)
          have zfr_8 : (gh_up h mo (.inr (5, [.int 1, .int (nI g), .ref nm, .ref fr, .int (nI my), .ref hs, .ref va, .ref tp, .ref dn]))) fr = some (.inl (cI, 8, .inl ff)) := gh_keep zmo zfr (by simp)
          have zhs_8 : (gh_up h mo (.inr (5, [.int 1, .int (nI g), .ref nm, .ref fr, .int (nI my), .ref hs, .ref va, .ref tp, .ref dn]))) hs = some (.inl (cJ, 24, .inr (.inl hf))) := gh_keep zmo zhs (by simp)
          have zva_8 : (gh_up h mo (.inr (5, [.int 1, .int (nI g), .ref nm, .ref fr, .int (nI my), .ref hs, .ref va, .ref tp, .ref dn]))) va = some (.inl (cJ, 8, .inr (.inl vf))) := gh_keep zmo zva (by simp)
          have ztp_8 : (gh_up h mo (.inr (5, [.int 1, .int (nI g), .ref nm, .ref fr, .int (nI my), .ref hs, .ref va, .ref tp, .ref dn]))) tp = some (.inl (cJ, 8, .inr (.inl tf))) := gh_keep zmo ztp (by simp)
          have zdn_8 : (gh_up h mo (.inr (5, [.int 1, .int (nI g), .ref nm, .ref fr, .int (nI my), .ref hs, .ref va, .ref tp, .ref dn]))) dn = some (.inl (cJ, 8, .inr (.inl df))) := gh_keep zmo zdn (by simp)
          refine lv_aload_n hx hb d_Mo_enters_49 rfl (lv_at hl 0 rfl) ?_
          refine gh_get (ci := 5) hx hb htb in_Mo hown hK hG hq8 rfl 0 (by decide) (htb _ k_2_223) (fun _ h9 => h9) rfl d_Mo_enters_50 ?_
          refine lv_if_le (tgt := 58) hx hb d_Mo_enters_53 (by decide) (fun hc53 => absurd hc53 (by decide)) (fun hc53 => ?_)
          refine lv_iconst (v := 0) hx hb d_Mo_enters_56 (by decide) ?_
          exact gh_iret hx hb hr hlk rfl hG d_Mo_enters_57 (rB_1 (by simp [v_badE, hc27]) ⟨rfl, (wM_mk hq8 znm_8 zfr_8 zhs_8 zva_8 ztp_8 zdn_8 zvt zvd ztd (by omega) (by omega)), (frM_up zf0 zmo rfl)⟩)

end
