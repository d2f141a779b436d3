/-- what the model's words of a solid are to be -/
def v_jn (how : Int32) (a b : Int64) : Int64 := if how = 0 then a ||| b else if how = 1 then a &&& b else if how = 2 then a &&& (b ^^^ (-1)) else a ^^^ b
def v_badV (set : Int32) (g : Nat) : Bool := decide (set < 0) || !decide (set >>> (nI g &&& 31) ≤ 0)
def v_badJ (how : Int32) : Bool := decide (how < 0) || !decide (how ≤ 3)
theorem v_m64 : ∀ k, k < 256 → Int32.toInt64 (nI (k % 64)) &&& 63 = Int32.toInt64 (nI k) &&& 63 := by decide +kernel
theorem w_in {f g : Nat → Int64} {b k : Nat} {x : Int64} (h : ∀ j, j < k → f (b + j) = g j) (hx : x = g k) : ∀ j, j < k + 1 → vp_updL f (b + k) x (b + j) = g j := by
  intro j hj
  by_cases hjk : j = k
  · subst hjk; rw [pk_uLs]; exact hx
  · rw [pk_uLn (by omega)]; exact h j (by omega)
theorem w_lo {f g : Nat → Int64} {b k : Nat} {x : Int64} (h : ∀ j, j < b → f j = g j) (hk : b ≤ k) : ∀ j, j < b → vp_updL f k x j = g j := by
  intro j hj
  rw [pk_uLn (by omega)]; exact h j hj
theorem w_hi {f g : Nat → Int64} {b k : Nat} {x : Int64} (h : ∀ j, b + k ≤ j → f j = g j) : ∀ j, b + (k + 1) ≤ j → vp_updL f (b + k) x j = g j := by
  intro j hj
  rw [pk_uLn (by omega)]; exact h j (by omega)
theorem v_cvx_in {f : Nat → Int64} {b k : Nat} {set : Int32} (hk : k < 256) (h : ∀ j, j < 4 → f (b + j) = m_cvx set k j) (hc : nI k &&& set = set) : ∀ j, j < 4 → vp_updL f (b + k / 64) (f (b + k / 64) ||| ((1 : Int64) <<< (Int32.toInt64 (nI (k % 64)) &&& 63))) (b + j) = m_cvx set (k + 1) j := by
  intro j hj
  simp only [m_cvx, if_pos hc]
  by_cases hjk : j = k / 64
  · subst hjk; rw [pk_uLs, pk_uLs, h _ (by omega), v_m64 k hk]
  · rw [pk_uLn (by omega), pk_uLn hjk]; exact h j hj
theorem v_cvx_out {f : Nat → Int64} {b k : Nat} {set : Int32} (h : ∀ j, j < 4 → f (b + j) = m_cvx set k j) (hc : ¬ nI k &&& set = set) : ∀ j, j < 4 → f (b + j) = m_cvx set (k + 1) j := by
  intro j hj
  simp only [m_cvx, if_neg hc]
  exact h j hj

section
variable {l : Launch} {D : va_G} {cI cJ cP cS : ClassId} {b0 : Nat} {h : gh_M}

set_option maxHeartbeats 4000000 in
set_option maxRecDepth 100000 in
/-- plane -/
theorem c_Mo_plane {mo nm fr hs va tp dn g my : Nat} {th : Int32} {nf ff : Nat → Int32} {hf vf tf df : Nat → Int64} (hW : wM cI cJ h mo nm fr hs va tp dn th g my nf ff hf vf tf df) {a1 b1 c1 d1 : Int32} : gh_C l D vC (tZ cI cJ cP cS) (xF b0) b0 y_Mo_plane w_Mo_plane ({ frames := 1, cells := 0, slots := 0, locals := 24 }) [.ref mo, .int a1, .int b1, .int c1, .int d1] h (rB (m_badP a1 b1 c1 d1) (rW (some (.int 0)) (fun h2 => wM cI cJ h2 mo nm fr hs va tp dn 1 g my nf ff hf vf tf df ∧ frM h h2)) (rB (decide (g = 8)) (rW (some (.int 0)) (fun h2 => wM cI cJ h2 mo nm fr hs va tp dn 2 g my nf ff hf vf tf df ∧ frM h h2)) (rW (some (.int (nI g))) (fun h2 => wM cI cJ h2 mo nm fr hs va tp dn 0 (g + 1) my (upd (upd (upd nf (3 * g) a1) (3 * g + 1) b1) (3 * g + 2) c1) (upd ff g d1) hf vf tf df ∧ frM h h2)))) := by
  refine gh_ofW (by decide) (Nat.le_of_ble_eq_true rfl) ?_
  intro p e s m below meth c ls hctx hno hl hG hK hX
  obtain ⟨hx, hb, hr, hml, hown, hlk, hts, hnm⟩ := hctx
  have htb : ∀ w ∈ tB, w.before _ s = true := fun w hw => hts w (List.mem_cons_of_mem _ hw)
  replace hl : lv_has ls 6 [(0, .ref mo), (1, .int a1), (2, .int b1), (3, .int c1), (4, .int d1)] := hl
  obtain ⟨zmo, znm, zfr, zhs, zva, ztp, zdn, zvt, zvd, ztd, zg, zy⟩ := hW
  have zf0 : frM h h := frM_rf h
  refine lv_iload_n hx hb d_Mo_plane_0 rfl (lv_at hl 1 rfl) ?_
  refine lv_ldc (v := 1000000) hx hb hown (htb _ k_3_19) d_Mo_plane_1 ?_
  refine gh_cS (As := [.int a1, .int 1000000]) (rest := []) (xF_ok b0) hx hb hml hown hK hX hG c_Mo_within (q_Mo_within htb ⟨by decide, by decide⟩) (htb _ k_3_20) (htb _ k_3_21) rfl hl.1 rfl (Nat.le_of_ble_eq_true rfl) d_Mo_plane_3 ⟨by decide, by decide⟩ (fun v9 h9 H l9 hp9 hG => ?_) (fun _ _ _ _ hp9 _ => by cases hp9.1)
  obtain ⟨hv9, hh9⟩ := hp9
  cases hv9
  rw [hh9] at hG
  refine W.eq (g2 := F0 m 6 ls [.int (m_b (!m_bey a1 1000000))]) rfl ?_
  refine W.widen (k := 0) (n := 0) (by decide) (by decide) ?_
  refine lv_if_eq (tgt := 53) hx hb d_Mo_plane_6 (by decide) (fun hc6 => ?_) (fun hc6 => ?_)
  · skip
    replace hc6 := mb_n0.mp hc6
    refine lv_iconst (v := 0) hx hb d_Mo_plane_53 (by decide) ?_
    refine lv_istore (lv' := [(5, .int 0), (0, .ref mo), (1, .int a1), (2, .int b1), (3, .int c1), (4, .int d1)]) hx hb d_Mo_plane_54 hl (by decide) rfl (fun ls hl => ?_)
    refine lv_aload_n hx hb d_Mo_plane_56 rfl (lv_at hl 1 rfl) ?_
    refine lv_iload hx hb d_Mo_plane_57 (lv_at hl 0 rfl) ?_
    refine lv_if_ne (tgt := 66) hx hb d_Mo_plane_59 (by decide) (fun hc59 => absurd hc59 (by decide)) (fun hc59 => ?_)
    refine lv_iconst (v := 1) hx hb d_Mo_plane_62 (by decide) ?_
    refine lv_goto (tgt := 80) hx hb d_Mo_plane_63 (by decide) ?_
    refine gh_put (ci := 5) (ty := .int) hx hb htb in_Mo t_Mo ty_Mo nm_Mo hown hK hG zmo rfl 0 (by decide) (htb _ k_2_223) (fun _ h9 => h9) rfl (by decide +kernel) rfl rfl (Nat.le_of_ble_eq_true rfl) d_Mo_plane_80 (fun H l9 hG => ?_)
    have hq1 : (gh_up h mo (.inr (5, [.int 1, .int (nI g), .ref nm, .ref fr, .int (nI my), .ref hs, .ref va, .ref tp, .ref dn]))) mo = some (.inr (5, [.int 1, .int (nI g), .ref nm, .ref fr, .int (nI my), .ref hs, .ref va, .ref tp, .ref dn])) := gh_self _ _ _
    replace hG : gh_P D vC b0 (gh_up h mo (.inr (5, [.int 1, .int (nI g), .ref nm, .ref fr, .int (nI my), .ref hs, .ref va, .ref tp, .ref dn]))) s.heap _ _ := hG
    have znm_1 : (gh_up h mo (.inr (5, [.int 1, .int (nI g), .ref nm, .ref fr, .int (nI my), .ref hs, .ref va, .ref tp, .ref dn]))) nm = some (.inl (cI, 24, .inl nf)) := gh_keep zmo znm (by simp)
    have zfr_1 : (gh_up h mo (.inr (5, [.int 1, .int (nI g), .ref nm, .ref fr, .int (nI my), .ref hs, .ref va, .ref tp, .ref dn]))) fr = some (.inl (cI, 8, .inl ff)) := gh_keep zmo zfr (by simp)
    have zhs_1 : (gh_up h mo (.inr (5, [.int 1, .int (nI g), .ref nm, .ref fr, .int (nI my), .ref hs, .ref va, .ref tp, .ref dn]))) hs = some (.inl (cJ, 24, .inr (.inl hf))) := gh_keep zmo zhs (by simp)
    have zva_1 : (gh_up h mo (.inr (5, [.int 1, .int (nI g), .ref nm, .ref fr, .int (nI my), .ref hs, .ref va, .ref tp, .ref dn]))) va = some (.inl (cJ, 8, .inr (.inl vf))) := gh_keep zmo zva (by simp)
    have ztp_1 : (gh_up h mo (.inr (5, [.int 1, .int (nI g), .ref nm, .ref fr, .int (nI my), .ref hs, .ref va, .ref tp, .ref dn]))) tp = some (.inl (cJ, 8, .inr (.inl tf))) := gh_keep zmo ztp (by simp)
    have zdn_1 : (gh_up h mo (.inr (5, [.int 1, .int (nI g), .ref nm, .ref fr, .int (nI my), .ref hs, .ref va, .ref tp, .ref dn]))) dn = some (.inl (cJ, 8, .inr (.inl df))) := gh_keep zmo zdn (by simp)
    refine lv_aload_n hx hb d_Mo_plane_83 rfl (lv_at hl 1 rfl) ?_
    refine gh_get (ci := 5) hx hb htb in_Mo hown hK hG hq1 rfl 0 (by decide) (htb _ k_2_223) (fun _ h9 => h9) rfl d_Mo_plane_84 ?_
    refine lv_if_le (tgt := 92) hx hb d_Mo_plane_87 (by decide) (fun hc87 => absurd hc87 (by decide)) (fun hc87 => ?_)
    refine lv_iconst (v := 0) hx hb d_Mo_plane_90 (by decide) ?_
    exact gh_iret hx hb hr hlk rfl hG d_Mo_plane_91 (rB_1 (by simp [m_badP, hc6]) ⟨rfl, (wM_mk hq1 znm_1 zfr_1 zhs_1 zva_1 ztp_1 zdn_1 zvt zvd ztd (by omega) (by omega)), (frM_up zf0 zmo rfl)⟩)
  · skip
    replace hc6 := mb_n1.mp hc6
    refine lv_iload_n hx hb d_Mo_plane_9 rfl (lv_at hl 2 rfl) ?_
    refine lv_ldc (v := 1000000) hx hb hown (htb _ k_3_19) d_Mo_plane_10 ?_
    refine gh_cS (As := [.int b1, .int 1000000]) (rest := []) (xF_ok b0) hx hb hml hown hK hX hG c_Mo_within (q_Mo_within htb ⟨by decide, by decide⟩) (htb _ k_3_20) (htb _ k_3_21) rfl hl.1 rfl (Nat.le_of_ble_eq_true rfl) d_Mo_plane_12 ⟨by decide, by decide⟩ (fun v9 h9 H l9 hp9 hG => ?_) (fun _ _ _ _ hp9 _ => by cases hp9.1)
    obtain ⟨hv9, hh9⟩ := hp9
    cases hv9
    rw [hh9] at hG
    refine W.eq (g2 := F0 m 15 ls [.int (m_b (!m_bey b1 1000000))]) rfl ?_
    refine W.widen (k := 0) (n := 0) (by decide) (by decide) ?_
    refine lv_if_eq (tgt := 53) hx hb d_Mo_plane_15 (by decide) (fun hc15 => ?_) (fun hc15 => ?_)
    · skip
      replace hc15 := mb_n0.mp hc15
      refine lv_iconst (v := 0) hx hb d_Mo_plane_53 (by decide) ?_
      refine lv_istore (lv' := [(5, .int 0), (0, .ref mo), (1, .int a1), (2, .int b1), (3, .int c1), (4, .int d1)]) hx hb d_Mo_plane_54 hl (by decide) rfl (fun ls hl => ?_)
      refine lv_aload_n hx hb d_Mo_plane_56 rfl (lv_at hl 1 rfl) ?_
      refine lv_iload hx hb d_Mo_plane_57 (lv_at hl 0 rfl) ?_
      refine lv_if_ne (tgt := 66) hx hb d_Mo_plane_59 (by decide) (fun hc59 => absurd hc59 (by decide)) (fun hc59 => ?_)
      refine lv_iconst (v := 1) hx hb d_Mo_plane_62 (by decide) ?_
      refine lv_goto (tgt := 80) hx hb d_Mo_plane_63 (by decide) ?_
      refine gh_put (ci := 5) (ty := .int) hx hb htb in_Mo t_Mo ty_Mo nm_Mo hown hK hG zmo rfl 0 (by decide) (htb _ k_2_223) (fun _ h9 => h9) rfl (by decide +kernel) rfl rfl (Nat.le_of_ble_eq_true rfl) d_Mo_plane_80 (fun H l9 hG => ?_)
      have hq2 : (gh_up h mo (.inr (5, [.int 1, .int (nI g), .ref nm, .ref fr, .int (nI my), .ref hs, .ref va, .ref tp, .ref dn]))) mo = some (.inr (5, [.int 1, .int (nI g), .ref nm, .ref fr, .int (nI my), .ref hs, .ref va, .ref tp, .ref dn])) := gh_self _ _ _
      replace hG : gh_P D vC b0 (gh_up h mo (.inr (5, [.int 1, .int (nI g), .ref nm, .ref fr, .int (nI my), .ref hs, .ref va, .ref tp, .ref dn]))) s.heap _ _ := hG
      have znm_2 : (gh_up h mo (.inr (5, [.int 1, .int (nI g), .ref nm, .ref fr, .int (nI my), .ref hs, .ref va, .ref tp, .ref dn]))) nm = some (.inl (cI, 24, .inl nf)) := gh_keep zmo znm (by simp)
      have zfr_2 : (gh_up h mo (.inr (5, [.int 1, .int (nI g), .ref nm, .ref fr, .int (nI my), .ref hs, .ref va, .ref tp, .ref dn]))) fr = some (.inl (cI, 8, .inl ff)) := gh_keep zmo zfr (by simp)
      have zhs_2 : (gh_up h mo (.inr (5, [.int 1, .int (nI g), .ref nm, .ref fr, .int (nI my), .ref hs, .ref va, .ref tp, .ref dn]))) hs = some (.inl (cJ, 24, .inr (.inl hf))) := gh_keep zmo zhs (by simp)
      have zva_2 : (gh_up h mo (.inr (5, [.int 1, .int (nI g), .ref nm, .ref fr, .int (nI my), .ref hs, .ref va, .ref tp, .ref dn]))) va = some (.inl (cJ, 8, .inr (.inl vf))) := gh_keep zmo zva (by simp)
      have ztp_2 : (gh_up h mo (.inr (5, [.int 1, .int (nI g), .ref nm, .ref fr, .int (nI my), .ref hs, .ref va, .ref tp, .ref dn]))) tp = some (.inl (cJ, 8, .inr (.inl tf))) := gh_keep zmo ztp (by simp)
      have zdn_2 : (gh_up h mo (.inr (5, [.int 1, .int (nI g), .ref nm, .ref fr, .int (nI my), .ref hs, .ref va, .ref tp, .ref dn]))) dn = some (.inl (cJ, 8, .inr (.inl df))) := gh_keep zmo zdn (by simp)
      refine lv_aload_n hx hb d_Mo_plane_83 rfl (lv_at hl 1 rfl) ?_
      refine gh_get (ci := 5) hx hb htb in_Mo hown hK hG hq2 rfl 0 (by decide) (htb _ k_2_223) (fun _ h9 => h9) rfl d_Mo_plane_84 ?_
      refine lv_if_le (tgt := 92) hx hb d_Mo_plane_87 (by decide) (fun hc87 => absurd hc87 (by decide)) (fun hc87 => ?_)
      refine lv_iconst (v := 0) hx hb d_Mo_plane_90 (by decide) ?_
      exact gh_iret hx hb hr hlk rfl hG d_Mo_plane_91 (rB_1 (by simp [m_badP, hc6, hc15]) ⟨rfl, (wM_mk hq2 znm_2 zfr_2 zhs_2 zva_2 ztp_2 zdn_2 zvt zvd ztd (by omega) (by omega)), (frM_up zf0 zmo rfl)⟩)
    · skip
      replace hc15 := mb_n1.mp hc15
      refine lv_iload_n hx hb d_Mo_plane_18 rfl (lv_at hl 3 rfl) ?_
      refine lv_ldc (v := 1000000) hx hb hown (htb _ k_3_19) d_Mo_plane_19 ?_
      refine gh_cS (As := [.int c1, .int 1000000]) (rest := []) (xF_ok b0) hx hb hml hown hK hX hG c_Mo_within (q_Mo_within htb ⟨by decide, by decide⟩) (htb _ k_3_20) (htb _ k_3_21) rfl hl.1 rfl (Nat.le_of_ble_eq_true rfl) d_Mo_plane_21 ⟨by decide, by decide⟩ (fun v9 h9 H l9 hp9 hG => ?_) (fun _ _ _ _ hp9 _ => by cases hp9.1)
      obtain ⟨hv9, hh9⟩ := hp9
      cases hv9
      rw [hh9] at hG
      refine W.eq (g2 := F0 m 24 ls [.int (m_b (!m_bey c1 1000000))]) rfl ?_
      refine W.widen (k := 0) (n := 0) (by decide) (by decide) ?_
      refine lv_if_eq (tgt := 53) hx hb d_Mo_plane_24 (by decide) (fun hc24 => ?_) (fun hc24 => ?_)
      · skip
        replace hc24 := mb_n0.mp hc24
        refine lv_iconst (v := 0) hx hb d_Mo_plane_53 (by decide) ?_
        refine lv_istore (lv' := [(5, .int 0), (0, .ref mo), (1, .int a1), (2, .int b1), (3, .int c1), (4, .int d1)]) hx hb d_Mo_plane_54 hl (by decide) rfl (fun ls hl => ?_)
        refine lv_aload_n hx hb d_Mo_plane_56 rfl (lv_at hl 1 rfl) ?_
        refine lv_iload hx hb d_Mo_plane_57 (lv_at hl 0 rfl) ?_
        refine lv_if_ne (tgt := 66) hx hb d_Mo_plane_59 (by decide) (fun hc59 => absurd hc59 (by decide)) (fun hc59 => ?_)
        refine lv_iconst (v := 1) hx hb d_Mo_plane_62 (by decide) ?_
        refine lv_goto (tgt := 80) hx hb d_Mo_plane_63 (by decide) ?_
        refine gh_put (ci := 5) (ty := .int) hx hb htb in_Mo t_Mo ty_Mo nm_Mo hown hK hG zmo rfl 0 (by decide) (htb _ k_2_223) (fun _ h9 => h9) rfl (by decide +kernel) rfl rfl (Nat.le_of_ble_eq_true rfl) d_Mo_plane_80 (fun H l9 hG => ?_)
        have hq3 : (gh_up h mo (.inr (5, [.int 1, .int (nI g), .ref nm, .ref fr, .int (nI my), .ref hs, .ref va, .ref tp, .ref dn]))) mo = some (.inr (5, [.int 1, .int (nI g), .ref nm, .ref fr, .int (nI my), .ref hs, .ref va, .ref tp, .ref dn])) := gh_self _ _ _
        replace hG : gh_P D vC b0 (gh_up h mo (.inr (5, [.int 1, .int (nI g), .ref nm, .ref fr, .int (nI my), .ref hs, .ref va, .ref tp, .ref dn]))) s.heap _ _ := hG
        have znm_3 : (gh_up h mo (.inr (5, [.int 1, .int (nI g), .ref nm, .ref fr, .int (nI my), .ref hs, .ref va, .ref tp, .ref dn]))) nm = some (.inl (cI, 24, .inl nf)) := gh_keep zmo znm (by simp)
        have zfr_3 : (gh_up h mo (.inr (5, [.int 1, .int (nI g), .ref nm, .ref fr, .int (nI my), .ref hs, .ref va, .ref tp, .ref dn]))) fr = some (.inl (cI, 8, .inl ff)) := gh_keep zmo zfr (by simp)
        have zhs_3 : (gh_up h mo (.inr (5, [.int 1, .int (nI g), .ref nm, .ref fr, .int (nI my), .ref hs, .ref va, .ref tp, .ref dn]))) hs = some (.inl (cJ, 24, .inr (.inl hf))) := gh_keep zmo zhs (by simp)
        have zva_3 : (gh_up h mo (.inr (5, [.int 1, .int (nI g), .ref nm, .ref fr, .int (nI my), .ref hs, .ref va, .ref tp, .ref dn]))) va = some (.inl (cJ, 8, .inr (.inl vf))) := gh_keep zmo zva (by simp)
        have ztp_3 : (gh_up h mo (.inr (5, [.int 1, .int (nI g), .ref nm, .ref fr, .int (nI my), .ref hs, .ref va, .ref tp, .ref dn]))) tp = some (.inl (cJ, 8, .inr (.inl tf))) := gh_keep zmo ztp (by simp)
        have zdn_3 : (gh_up h mo (.inr (5, [.int 1, .int (nI g), .ref nm, .ref fr, .int (nI my), .ref hs, .ref va, .ref tp, .ref dn]))) dn = some (.inl (cJ, 8, .inr (.inl df))) := gh_keep zmo zdn (by simp)
        refine lv_aload_n hx hb d_Mo_plane_83 rfl (lv_at hl 1 rfl) ?_
        refine gh_get (ci := 5) hx hb htb in_Mo hown hK hG hq3 rfl 0 (by decide) (htb _ k_2_223) (fun _ h9 => h9) rfl d_Mo_plane_84 ?_
        refine lv_if_le (tgt := 92) hx hb d_Mo_plane_87 (by decide) (fun hc87 => absurd hc87 (by decide)) (fun hc87 => ?_)
        refine lv_iconst (v := 0) hx hb d_Mo_plane_90 (by decide) ?_
        exact gh_iret hx hb hr hlk rfl hG d_Mo_plane_91 (rB_1 (by simp [m_badP, hc6, hc15, hc24]) ⟨rfl, (wM_mk hq3 znm_3 zfr_3 zhs_3 zva_3 ztp_3 zdn_3 zvt zvd ztd (by omega) (by omega)), (frM_up zf0 zmo rfl)⟩)
      · skip
        replace hc24 := mb_n1.mp hc24
        refine lv_iload hx hb d_Mo_plane_27 (lv_at hl 4 rfl) ?_
        refine lv_ldc (v := 1000000000) hx hb hown (htb _ k_3_23) d_Mo_plane_29 ?_
        refine gh_cS (As := [.int d1, .int 1000000000]) (rest := []) (xF_ok b0) hx hb hml hown hK hX hG c_Mo_within (q_Mo_within htb ⟨by decide, by decide⟩) (htb _ k_3_20) (htb _ k_3_21) rfl hl.1 rfl (Nat.le_of_ble_eq_true rfl) d_Mo_plane_31 ⟨by decide, by decide⟩ (fun v9 h9 H l9 hp9 hG => ?_) (fun _ _ _ _ hp9 _ => by cases hp9.1)
        obtain ⟨hv9, hh9⟩ := hp9
        cases hv9
        rw [hh9] at hG
        refine W.eq (g2 := F0 m 34 ls [.int (m_b (!m_bey d1 1000000000))]) rfl ?_
        refine W.widen (k := 0) (n := 0) (by decide) (by decide) ?_
        refine lv_if_eq (tgt := 53) hx hb d_Mo_plane_34 (by decide) (fun hc34 => ?_) (fun hc34 => ?_)
        · skip
          replace hc34 := mb_n0.mp hc34
          refine lv_iconst (v := 0) hx hb d_Mo_plane_53 (by decide) ?_
          refine lv_istore (lv' := [(5, .int 0), (0, .ref mo), (1, .int a1), (2, .int b1), (3, .int c1), (4, .int d1)]) hx hb d_Mo_plane_54 hl (by decide) rfl (fun ls hl => ?_)
          refine lv_aload_n hx hb d_Mo_plane_56 rfl (lv_at hl 1 rfl) ?_
          refine lv_iload hx hb d_Mo_plane_57 (lv_at hl 0 rfl) ?_
          refine lv_if_ne (tgt := 66) hx hb d_Mo_plane_59 (by decide) (fun hc59 => absurd hc59 (by decide)) (fun hc59 => ?_)
          refine lv_iconst (v := 1) hx hb d_Mo_plane_62 (by decide) ?_
          refine lv_goto (tgt := 80) hx hb d_Mo_plane_63 (by decide) ?_
          refine gh_put (ci := 5) (ty := .int) hx hb htb in_Mo t_Mo ty_Mo nm_Mo hown hK hG zmo rfl 0 (by decide) (htb _ k_2_223) (fun _ h9 => h9) rfl (by decide +kernel) rfl rfl (Nat.le_of_ble_eq_true rfl) d_Mo_plane_80 (fun H l9 hG => ?_)
          have hq4 : (gh_up h mo (.inr (5, [.int 1, .int (nI g), .ref nm, .ref fr, .int (nI my), .ref hs, .ref va, .ref tp, .ref dn]))) mo = some (.inr (5, [.int 1, .int (nI g), .ref nm, .ref fr, .int (nI my), .ref hs, .ref va, .ref tp, .ref dn])) := gh_self _ _ _
          replace hG : gh_P D vC b0 (gh_up h mo (.inr (5, [.int 1, .int (nI g), .ref nm, .ref fr, .int (nI my), .ref hs, .ref va, .ref tp, .ref dn]))) s.heap _ _ := hG
          have znm_4 : (gh_up h mo (.inr (5, [.int 1, .int (nI g), .ref nm, .ref fr, .int (nI my), .ref hs, .ref va, .ref tp, .ref dn]))) nm = some (.inl (cI, 24, .inl nf)) := gh_keep zmo znm (by simp)
          have zfr_4 : (gh_up h mo (.inr (5, [.int 1, .int (nI g), .ref nm, .ref fr, .int (nI my), .ref hs, .ref va, .ref tp, .ref dn]))) fr = some (.inl (cI, 8, .inl ff)) := gh_keep zmo zfr (by simp)
          have zhs_4 : (gh_up h mo (.inr (5, [.int 1, .int (nI g), .ref nm, .ref fr, .int (nI my), .ref hs, .ref va, .ref tp, .ref dn]))) hs = some (.inl (cJ, 24, .inr (.inl hf))) := gh_keep zmo zhs (by simp)
          have zva_4 : (gh_up h mo (.inr (5, [.int 1, .int (nI g), .ref nm, .ref fr, .int (nI my), .ref hs, .ref va, .ref tp, .ref dn]))) va = some (.inl (cJ, 8, .inr (.inl vf))) := gh_keep zmo zva (by simp)
          have ztp_4 : (gh_up h mo (.inr (5, [.int 1, .int (nI g), .ref nm, .ref fr, .int (nI my), .ref hs, .ref va, .ref tp, .ref dn]))) tp = some (.inl (cJ, 8, .inr (.inl tf))) := gh_keep zmo ztp (by simp)
          have zdn_4 : (gh_up h mo (.inr (5, [.int 1, .int (nI g), .ref nm, .ref fr, .int (nI my), .ref hs, .ref va, .ref tp, .ref dn]))) dn = some (.inl (cJ, 8, .inr (.inl df))) := gh_keep zmo zdn (by simp)
          refine lv_aload_n hx hb d_Mo_plane_83 rfl (lv_at hl 1 rfl) ?_
          refine gh_get (ci := 5) hx hb htb in_Mo hown hK hG hq4 rfl 0 (by decide) (htb _ k_2_223) (fun _ h9 => h9) rfl d_Mo_plane_84 ?_
          refine lv_if_le (tgt := 92) hx hb d_Mo_plane_87 (by decide) (fun hc87 => absurd hc87 (by decide)) (fun hc87 => ?_)
          refine lv_iconst (v := 0) hx hb d_Mo_plane_90 (by decide) ?_
          exact gh_iret hx hb hr hlk rfl hG d_Mo_plane_91 (rB_1 (by simp [m_badP, hc6, hc15, hc24, hc34]) ⟨rfl, (wM_mk hq4 znm_4 zfr_4 zhs_4 zva_4 ztp_4 zdn_4 zvt zvd ztd (by omega) (by omega)), (frM_up zf0 zmo rfl)⟩)
        · skip
          replace hc34 := mb_n1.mp hc34
          refine lv_iload_n hx hb d_Mo_plane_37 rfl (lv_at hl 1 rfl) ?_
          refine lv_if_ne (tgt := 49) hx hb d_Mo_plane_38 (by decide) (fun hc38 => ?_) (fun hc38 => ?_)
          · skip
            refine lv_iconst (v := 1) hx hb d_Mo_plane_49 (by decide) ?_
            refine lv_goto (tgt := 54) hx hb d_Mo_plane_50 (by decide) ?_
            refine lv_istore (lv' := [(5, .int 1), (0, .ref mo), (1, .int a1), (2, .int b1), (3, .int c1), (4, .int d1)]) hx hb d_Mo_plane_54 hl (by decide) rfl (fun ls hl => ?_)
            refine lv_aload_n hx hb d_Mo_plane_56 rfl (lv_at hl 1 rfl) ?_
            refine lv_iload hx hb d_Mo_plane_57 (lv_at hl 0 rfl) ?_
            refine lv_if_ne (tgt := 66) hx hb d_Mo_plane_59 (by decide) (fun hc59 => ?_) (fun hc59 => absurd hc59 (by decide))
            refine lv_aload_n hx hb d_Mo_plane_66 rfl (lv_at hl 1 rfl) ?_
            refine gh_get (ci := 5) hx hb htb in_Mo hown hK hG zmo rfl 1 (by decide) (htb _ k_2_224) (fun _ h9 => h9) rfl d_Mo_plane_67 ?_
            refine lv_bipush (v := 8) hx hb d_Mo_plane_70 (by decide) ?_
            refine lv_icmp_ne (tgt := 79) hx hb d_Mo_plane_72 (by decide) (fun hc72 => ?_) (fun hc72 => ?_)
            · skip
              replace hc72 : ¬ g = 8 := fun q9 => hc72 ((nc_eq (a := g) (b := 8) (by omega) (by omega) rfl rfl).mpr q9)
              refine lv_iconst (v := 0) hx hb d_Mo_plane_79 (by decide) ?_
              refine gh_put (ci := 5) (ty := .int) hx hb htb in_Mo t_Mo ty_Mo nm_Mo hown hK hG zmo rfl 0 (by decide) (htb _ k_2_223) (fun _ h9 => h9) rfl (by decide +kernel) rfl rfl (Nat.le_of_ble_eq_true rfl) d_Mo_plane_80 (fun H l9 hG => ?_)
              have hq5 : (gh_up h mo (.inr (5, [.int 0, .int (nI g), .ref nm, .ref fr, .int (nI my), .ref hs, .ref va, .ref tp, .ref dn]))) mo = some (.inr (5, [.int 0, .int (nI g), .ref nm, .ref fr, .int (nI my), .ref hs, .ref va, .ref tp, .ref dn])) := gh_self _ _ _
              replace hG : gh_P D vC b0 (gh_up h mo (.inr (5, [.int 0, .int (nI g), .ref nm, .ref fr, .int (nI my), .ref hs, .ref va, .ref tp, .ref dn]))) s.heap _ _ := hG
              have znm_5 : (gh_up h mo (.inr (5, [.int 0, .int (nI g), .ref nm, .ref fr, .int (nI my), .ref hs, .ref va, .ref tp, .ref dn]))) nm = some (.inl (cI, 24, .inl nf)) := gh_keep zmo znm (by simp)
              have zfr_5 : (gh_up h mo (.inr (5, [.int 0, .int (nI g), .ref nm, .ref fr, .int (nI my), .ref hs, .ref va, .ref tp, .ref dn]))) fr = some (.inl (cI, 8, .inl ff)) := gh_keep zmo zfr (by simp)
              have zhs_5 : (gh_up h mo (.inr (5, [.int 0, .int (nI g), .ref nm, .ref fr, .int (nI my), .ref hs, .ref va, .ref tp, .ref dn]))) hs = some (.inl (cJ, 24, .inr (.inl hf))) := gh_keep zmo zhs (by simp)
              have zva_5 : (gh_up h mo (.inr (5, [.int 0, .int (nI g), .ref nm, .ref fr, .int (nI my), .ref hs, .ref va, .ref tp, .ref dn]))) va = some (.inl (cJ, 8, .inr (.inl vf))) := gh_keep zmo zva (by simp)
              have ztp_5 : (gh_up h mo (.inr (5, [.int 0, .int (nI g), .ref nm, .ref fr, .int (nI my), .ref hs, .ref va, .ref tp, .ref dn]))) tp = some (.inl (cJ, 8, .inr (.inl tf))) := gh_keep zmo ztp (by simp)
              have zdn_5 : (gh_up h mo (.inr (5, [.int 0, .int (nI g), .ref nm, .ref fr, .int (nI my), .ref hs, .ref va, .ref tp, .ref dn]))) dn = some (.inl (cJ, 8, .inr (.inl df))) := gh_keep zmo zdn (by simp)
              refine lv_aload_n hx hb d_Mo_plane_83 rfl (lv_at hl 1 rfl) ?_
              refine gh_get (ci := 5) hx hb htb in_Mo hown hK hG hq5 rfl 0 (by decide) (htb _ k_2_223) (fun _ h9 => h9) rfl d_Mo_plane_84 ?_
              refine lv_if_le (tgt := 92) hx hb d_Mo_plane_87 (by decide) (fun hc87 => ?_) (fun hc87 => absurd hc87 (by decide))
              refine lv_aload_n hx hb d_Mo_plane_92 rfl (lv_at hl 1 rfl) ?_
              refine gh_get (ci := 5) hx hb htb in_Mo hown hK hG hq5 rfl 2 (by decide) (htb _ k_2_225) (fun _ h9 => h9) rfl d_Mo_plane_93 ?_
              refine lv_iconst (v := 3) hx hb d_Mo_plane_96 (by decide) ?_
              refine lv_aload_n hx hb d_Mo_plane_97 rfl (lv_at hl 1 rfl) ?_
              refine gh_get (ci := 5) hx hb htb in_Mo hown hK hG hq5 rfl 1 (by decide) (htb _ k_2_224) (fun _ h9 => h9) rfl d_Mo_plane_98 ?_
              refine lv_imul hx hb d_Mo_plane_101 ?_
              rw [show 3 * (nI g) = nI (3 * g) from nm_mul 3 g]
              refine lv_iload_n hx hb d_Mo_plane_102 rfl (lv_at hl 2 rfl) ?_
              refine gh_iast hx hb hK hG 0 znm_5 rfl (vp_in_nI (by omega) (by decide)) d_Mo_plane_103 (fun H l9 hG => ?_)
              rw [nI_clamp (by omega)] at hG
              have hq6 : (gh_up (gh_up h mo (.inr (5, [.int 0, .int (nI g), .ref nm, .ref fr, .int (nI my), .ref hs, .ref va, .ref tp, .ref dn]))) nm (.inl (cI, 24, .inl (upd nf (3 * g) a1)))) nm = some (.inl (cI, 24, .inl (upd nf (3 * g) a1))) := gh_self _ _ _
              replace hG : gh_P D vC b0 (gh_up (gh_up h mo (.inr (5, [.int 0, .int (nI g), .ref nm, .ref fr, .int (nI my), .ref hs, .ref va, .ref tp, .ref dn]))) nm (.inl (cI, 24, .inl (upd nf (3 * g) a1)))) s.heap _ _ := hG
              have zfr_6 : (gh_up (gh_up h mo (.inr (5, [.int 0, .int (nI g), .ref nm, .ref fr, .int (nI my), .ref hs, .ref va, .ref tp, .ref dn]))) nm (.inl (cI, 24, .inl (upd nf (3 * g) a1)))) fr = some (.inl (cI, 8, .inl ff)) := gh_keep znm_5 zfr_5 (by simp)
              have zhs_6 : (gh_up (gh_up h mo (.inr (5, [.int 0, .int (nI g), .ref nm, .ref fr, .int (nI my), .ref hs, .ref va, .ref tp, .ref dn]))) nm (.inl (cI, 24, .inl (upd nf (3 * g) a1)))) hs = some (.inl (cJ, 24, .inr (.inl hf))) := gh_keep znm_5 zhs_5 (by simp)
              have zva_6 : (gh_up (gh_up h mo (.inr (5, [.int 0, .int (nI g), .ref nm, .ref fr, .int (nI my), .ref hs, .ref va, .ref tp, .ref dn]))) nm (.inl (cI, 24, .inl (upd nf (3 * g) a1)))) va = some (.inl (cJ, 8, .inr (.inl vf))) := gh_keep znm_5 zva_5 (by simp)
              have ztp_6 : (gh_up (gh_up h mo (.inr (5, [.int 0, .int (nI g), .ref nm, .ref fr, .int (nI my), .ref hs, .ref va, .ref tp, .ref dn]))) nm (.inl (cI, 24, .inl (upd nf (3 * g) a1)))) tp = some (.inl (cJ, 8, .inr (.inl tf))) := gh_keep znm_5 ztp_5 (by simp)
              have zdn_6 : (gh_up (gh_up h mo (.inr (5, [.int 0, .int (nI g), .ref nm, .ref fr, .int (nI my), .ref hs, .ref va, .ref tp, .ref dn]))) nm (.inl (cI, 24, .inl (upd nf (3 * g) a1)))) dn = some (.inl (cJ, 8, .inr (.inl df))) := gh_keep znm_5 zdn_5 (by simp)
              have hq5_6 : (gh_up (gh_up h mo (.inr (5, [.int 0, .int (nI g), .ref nm, .ref fr, .int (nI my), .ref hs, .ref va, .ref tp, .ref dn]))) nm (.inl (cI, 24, .inl (upd nf (3 * g) a1)))) mo = some (.inr (5, [.int 0, .int (nI g), .ref nm, .ref fr, .int (nI my), .ref hs, .ref va, .ref tp, .ref dn])) := gh_keep znm_5 hq5 (by simp)
              refine lv_aload_n hx hb d_Mo_plane_104 rfl (lv_at hl 1 rfl) ?_
              refine gh_get (ci := 5) hx hb htb in_Mo hown hK hG hq5_6 rfl 2 (by decide) (htb _ k_2_225) (fun _ h9 => h9) rfl d_Mo_plane_105 ?_
              refine lv_iconst (v := 3) hx hb d_Mo_plane_108 (by decide) ?_
              refine lv_aload_n hx hb d_Mo_plane_109 rfl (lv_at hl 1 rfl) ?_
              refine gh_get (ci := 5) hx hb htb in_Mo hown hK hG hq5_6 rfl 1 (by decide) (htb _ k_2_224) (fun _ h9 => h9) rfl d_Mo_plane_110 ?_
              refine lv_imul hx hb d_Mo_plane_113 ?_
              rw [show 3 * (nI g) = nI (3 * g) from nm_mul 3 g]
              refine lv_iconst (v := 1) hx hb d_Mo_plane_114 (by decide) ?_
              refine lv_iadd hx hb d_Mo_plane_115 ?_
              rw [show nI (3 * g) + 1 = nI ((3 * g) + 1) from nI_1 (3 * g)]
              refine lv_iload_n hx hb d_Mo_plane_116 rfl (lv_at hl 3 rfl) ?_
              refine gh_iast hx hb hK hG 0 hq6 rfl (vp_in_nI (by omega) (by decide)) d_Mo_plane_117 (fun H l9 hG => ?_)
              rw [nI_clamp (by omega)] at hG
              have hq7 : (gh_up (gh_up (gh_up h mo (.inr (5, [.int 0, .int (nI g), .ref nm, .ref fr, .int (nI my), .ref hs, .ref va, .ref tp, .ref dn]))) nm (.inl (cI, 24, .inl (upd nf (3 * g) a1)))) nm (.inl (cI, 24, .inl (upd (upd nf (3 * g) a1) ((3 * g) + 1) b1)))) nm = some (.inl (cI, 24, .inl (upd (upd nf (3 * g) a1) ((3 * g) + 1) b1))) := gh_self _ _ _
              replace hG : gh_P D vC b0 (gh_up (gh_up (gh_up h mo (.inr (5, [.int 0, .int (nI g), .ref nm, .ref fr, .int (nI my), .ref hs, .ref va, .ref tp, .ref dn]))) nm (.inl (cI, 24, .inl (upd nf (3 * g) a1)))) nm (.inl (cI, 24, .inl (upd (upd nf (3 * g) a1) ((3 * g) + 1) b1)))) s.heap _ _ := hG
              have zfr_7 : (gh_up (gh_up (gh_up h mo (.inr (5, [.int 0, .int (nI g), .ref nm, .ref fr, .int (nI my), .ref hs, .ref va, .ref tp, .ref dn]))) nm (.inl (cI, 24, .inl (upd nf (3 * g) a1)))) nm (.inl (cI, 24, .inl (upd (upd nf (3 * g) a1) ((3 * g) + 1) b1)))) fr = some (.inl (cI, 8, .inl ff)) := gh_keep hq6 zfr_6 (by simp)
              have zhs_7 : (gh_up (gh_up (gh_up h mo (.inr (5, [.int 0, .int (nI g), .ref nm, .ref fr, .int (nI my), .ref hs, .ref va, .ref tp, .ref dn]))) nm (.inl (cI, 24, .inl (upd nf (3 * g) a1)))) nm (.inl (cI, 24, .inl (upd (upd nf (3 * g) a1) ((3 * g) + 1) b1)))) hs = some (.inl (cJ, 24, .inr (.inl hf))) := gh_keep hq6 zhs_6 (by simp)
              have zva_7 : (gh_up (gh_up (gh_up h mo (.inr (5, [.int 0, .int (nI g), .ref nm, .ref fr, .int (nI my), .ref hs, .ref va, .ref tp, .ref dn]))) nm (.inl (cI, 24, .inl (upd nf (3 * g) a1)))) nm (.inl (cI, 24, .inl (upd (upd nf (3 * g) a1) ((3 * g) + 1) b1)))) va = some (.inl (cJ, 8, .inr (.inl vf))) := gh_keep hq6 zva_6 (by simp)
              have ztp_7 : (gh_up (gh_up (gh_up h mo (.inr (5, [.int 0, .int (nI g), .ref nm, .ref fr, .int (nI my), .ref hs, .ref va, .ref tp, .ref dn]))) nm (.inl (cI, 24, .inl (upd nf (3 * g) a1)))) nm (.inl (cI, 24, .inl (upd (upd nf (3 * g) a1) ((3 * g) + 1) b1)))) tp = some (.inl (cJ, 8, .inr (.inl tf))) := gh_keep hq6 ztp_6 (by simp)
              have zdn_7 : (gh_up (gh_up (gh_up h mo (.inr (5, [.int 0, .int (nI g), .ref nm, .ref fr, .int (nI my), .ref hs, .ref va, .ref tp, .ref dn]))) nm (.inl (cI, 24, .inl (upd nf (3 * g) a1)))) nm (.inl (cI, 24, .inl (upd (upd nf (3 * g) a1) ((3 * g) + 1) b1)))) dn = some (.inl (cJ, 8, .inr (.inl df))) := gh_keep hq6 zdn_6 (by simp)
              have hq5_7 : (gh_up (gh_up (gh_up h mo (.inr (5, [.int 0, .int (nI g), .ref nm, .ref fr, .int (nI my), .ref hs, .ref va, .ref tp, .ref dn]))) nm (.inl (cI, 24, .inl (upd nf (3 * g) a1)))) nm (.inl (cI, 24, .inl (upd (upd nf (3 * g) a1) ((3 * g) + 1) b1)))) mo = some (.inr (5, [.int 0, .int (nI g), .ref nm, .ref fr, .int (nI my), .ref hs, .ref va, .ref tp, .ref dn])) := gh_keep hq6 hq5_6 (by simp)
              refine lv_aload_n hx hb d_Mo_plane_118 rfl (lv_at hl 1 rfl) ?_
              refine gh_get (ci := 5) hx hb htb in_Mo hown hK hG hq5_7 rfl 2 (by decide) (htb _ k_2_225) (fun _ h9 => h9) rfl d_Mo_plane_119 ?_
              refine lv_iconst (v := 3) hx hb d_Mo_plane_122 (by decide) ?_
              refine lv_aload_n hx hb d_Mo_plane_123 rfl (lv_at hl 1 rfl) ?_
              refine gh_get (ci := 5) hx hb htb in_Mo hown hK hG hq5_7 rfl 1 (by decide) (htb _ k_2_224) (fun _ h9 => h9) rfl d_Mo_plane_124 ?_
              refine lv_imul hx hb d_Mo_plane_127 ?_
              rw [show 3 * (nI g) = nI (3 * g) from nm_mul 3 g]
              refine lv_iconst (v := 2) hx hb d_Mo_plane_128 (by decide) ?_
              refine lv_iadd hx hb d_Mo_plane_129 ?_
              rw [show (nI (3 * g)) + 2 = nI ((3 * g) + 2) from nI_add (3 * g) 2]
              refine lv_iload_n hx hb d_Mo_plane_130 rfl (lv_at hl 4 rfl) ?_
              refine gh_iast hx hb hK hG 0 hq7 rfl (vp_in_nI (by omega) (by decide)) d_Mo_plane_131 (fun H l9 hG => ?_)
              rw [nI_clamp (by omega)] at hG
              have hq8 : (gh_up (gh_up (gh_up (gh_up h mo (.inr (5, [.int 0, .int (nI g), .ref nm, .ref fr, .int (nI my), .ref hs, .ref va, .ref tp, .ref dn]))) nm (.inl (cI, 24, .inl (upd nf (3 * g) a1)))) nm (.inl (cI, 24, .inl (upd (upd nf (3 * g) a1) ((3 * g) + 1) b1)))) nm (.inl (cI, 24, .inl (upd (upd (upd nf (3 * g) a1) ((3 * g) + 1) b1) ((3 * g) + 2) c1)))) nm = some (.inl (cI, 24, .inl (upd (upd (upd nf (3 * g) a1) ((3 * g) + 1) b1) ((3 * g) + 2) c1))) := gh_self _ _ _
              replace hG : gh_P D vC b0 (gh_up (gh_up (gh_up (gh_up h mo (.inr (5, [.int 0, .int (nI g), .ref nm, .ref fr, .int (nI my), .ref hs, .ref va, .ref tp, .ref dn]))) nm (.inl (cI, 24, .inl (upd nf (3 * g) a1)))) nm (.inl (cI, 24, .inl (upd (upd nf (3 * g) a1) ((3 * g) + 1) b1)))) nm (.inl (cI, 24, .inl (upd (upd (upd nf (3 * g) a1) ((3 * g) + 1) b1) ((3 * g) + 2) c1)))) s.heap _ _ := hG
              have zfr_8 : (gh_up (gh_up (gh_up (gh_up h mo (.inr (5, [.int 0, .int (nI g), .ref nm, .ref fr, .int (nI my), .ref hs, .ref va, .ref tp, .ref dn]))) nm (.inl (cI, 24, .inl (upd nf (3 * g) a1)))) nm (.inl (cI, 24, .inl (upd (upd nf (3 * g) a1) ((3 * g) + 1) b1)))) nm (.inl (cI, 24, .inl (upd (upd (upd nf (3 * g) a1) ((3 * g) + 1) b1) ((3 * g) + 2) c1)))) fr = some (.inl (cI, 8, .inl ff)) := gh_keep hq7 zfr_7 (by simp)
              have zhs_8 : (gh_up (gh_up (gh_up (gh_up h mo (.inr (5, [.int 0, .int (nI g), .ref nm, .ref fr, .int (nI my), .ref hs, .ref va, .ref tp, .ref dn]))) nm (.inl (cI, 24, .inl (upd nf (3 * g) a1)))) nm (.inl (cI, 24, .inl (upd (upd nf (3 * g) a1) ((3 * g) + 1) b1)))) nm (.inl (cI, 24, .inl (upd (upd (upd nf (3 * g) a1) ((3 * g) + 1) b1) ((3 * g) + 2) c1)))) hs = some (.inl (cJ, 24, .inr (.inl hf))) := gh_keep hq7 zhs_7 (by simp)
              have zva_8 : (gh_up (gh_up (gh_up (gh_up h mo (.inr (5, [.int 0, .int (nI g), .ref nm, .ref fr, .int (nI my), .ref hs, .ref va, .ref tp, .ref dn]))) nm (.inl (cI, 24, .inl (upd nf (3 * g) a1)))) nm (.inl (cI, 24, .inl (upd (upd nf (3 * g) a1) ((3 * g) + 1) b1)))) nm (.inl (cI, 24, .inl (upd (upd (upd nf (3 * g) a1) ((3 * g) + 1) b1) ((3 * g) + 2) c1)))) va = some (.inl (cJ, 8, .inr (.inl vf))) := gh_keep hq7 zva_7 (by simp)
              have ztp_8 : (gh_up (gh_up (gh_up (gh_up h mo (.inr (5, [.int 0, .int (nI g), .ref nm, .ref fr, .int (nI my), .ref hs, .ref va, .ref tp, .ref dn]))) nm (.inl (cI, 24, .inl (upd nf (3 * g) a1)))) nm (.inl (cI, 24, .inl (upd (upd nf (3 * g) a1) ((3 * g) + 1) b1)))) nm (.inl (cI, 24, .inl (upd (upd (upd nf (3 * g) a1) ((3 * g) + 1) b1) ((3 * g) + 2) c1)))) tp = some (.inl (cJ, 8, .inr (.inl tf))) := gh_keep hq7 ztp_7 (by simp)
              have zdn_8 : (gh_up (gh_up (gh_up (gh_up h mo (.inr (5, [.int 0, .int (nI g), .ref nm, .ref fr, .int (nI my), .ref hs, .ref va, .ref tp, .ref dn]))) nm (.inl (cI, 24, .inl (upd nf (3 * g) a1)))) nm (.inl (cI, 24, .inl (upd (upd nf (3 * g) a1) ((3 * g) + 1) b1)))) nm (.inl (cI, 24, .inl (upd (upd (upd nf (3 * g) a1) ((3 * g) + 1) b1) ((3 * g) + 2) c1)))) dn = some (.inl (cJ, 8, .inr (.inl df))) := gh_keep hq7 zdn_7 (by simp)
              have hq5_8 : (gh_up (gh_up (gh_up (gh_up h mo (.inr (5, [.int 0, .int (nI g), .ref nm, .ref fr, .int (nI my), .ref hs, .ref va, .ref tp, .ref dn]))) nm (.inl (cI, 24, .inl (upd nf (3 * g) a1)))) nm (.inl (cI, 24, .inl (upd (upd nf (3 * g) a1) ((3 * g) + 1) b1)))) nm (.inl (cI, 24, .inl (upd (upd (upd nf (3 * g) a1) ((3 * g) + 1) b1) ((3 * g) + 2) c1)))) mo = some (.inr (5, [.int 0, .int (nI g), .ref nm, .ref fr, .int (nI my), .ref hs, .ref va, .ref tp, .ref dn])) := gh_keep hq7 hq5_7 (by simp)
              refine lv_aload_n hx hb d_Mo_plane_132 rfl (lv_at hl 1 rfl) ?_
              refine gh_get (ci := 5) hx hb htb in_Mo hown hK hG hq5_8 rfl 3 (by decide) (htb _ k_2_226) (fun _ h9 => h9) rfl d_Mo_plane_133 ?_
              refine lv_aload_n hx hb d_Mo_plane_136 rfl (lv_at hl 1 rfl) ?_
              refine gh_get (ci := 5) hx hb htb in_Mo hown hK hG hq5_8 rfl 1 (by decide) (htb _ k_2_224) (fun _ h9 => h9) rfl d_Mo_plane_137 ?_
              refine lv_iload hx hb d_Mo_plane_140 (lv_at hl 5 rfl) ?_
              refine gh_iast hx hb hK hG 0 zfr_8 rfl (vp_in_nI (by omega) (by decide)) d_Mo_plane_142 (fun H l9 hG => ?_)
              rw [nI_clamp (by omega)] at hG
              have hq9 : (gh_up (gh_up (gh_up (gh_up (gh_up h mo (.inr (5, [.int 0, .int (nI g), .ref nm, .ref fr, .int (nI my), .ref hs, .ref va, .ref tp, .ref dn]))) nm (.inl (cI, 24, .inl (upd nf (3 * g) a1)))) nm (.inl (cI, 24, .inl (upd (upd nf (3 * g) a1) ((3 * g) + 1) b1)))) nm (.inl (cI, 24, .inl (upd (upd (upd nf (3 * g) a1) ((3 * g) + 1) b1) ((3 * g) + 2) c1)))) fr (.inl (cI, 8, .inl (upd ff g d1)))) fr = some (.inl (cI, 8, .inl (upd ff g d1))) := gh_self _ _ _
              replace hG : gh_P D vC b0 (gh_up (gh_up (gh_up (gh_up (gh_up h mo (.inr (5, [.int 0, .int (nI g), .ref nm, .ref fr, .int (nI my), .ref hs, .ref va, .ref tp, .ref dn]))) nm (.inl (cI, 24, .inl (upd nf (3 * g) a1)))) nm (.inl (cI, 24, .inl (upd (upd nf (3 * g) a1) ((3 * g) + 1) b1)))) nm (.inl (cI, 24, .inl (upd (upd (upd nf (3 * g) a1) ((3 * g) + 1) b1) ((3 * g) + 2) c1)))) fr (.inl (cI, 8, .inl (upd ff g d1)))) s.heap _ _ := hG
              have zhs_9 : (gh_up (gh_up (gh_up (gh_up (gh_up h mo (.inr (5, [.int 0, .int (nI g), .ref nm, .ref fr, .int (nI my), .ref hs, .ref va, .ref tp, .ref dn]))) nm (.inl (cI, 24, .inl (upd nf (3 * g) a1)))) nm (.inl (cI, 24, .inl (upd (upd nf (3 * g) a1) ((3 * g) + 1) b1)))) nm (.inl (cI, 24, .inl (upd (upd (upd nf (3 * g) a1) ((3 * g) + 1) b1) ((3 * g) + 2) c1)))) fr (.inl (cI, 8, .inl (upd ff g d1)))) hs = some (.inl (cJ, 24, .inr (.inl hf))) := gh_keep zfr_8 zhs_8 (by simp)
              have zva_9 : (gh_up (gh_up (gh_up (gh_up (gh_up h mo (.inr (5, [.int 0, .int (nI g), .ref nm, .ref fr, .int (nI my), .ref hs, .ref va, .ref tp, .ref dn]))) nm (.inl (cI, 24, .inl (upd nf (3 * g) a1)))) nm (.inl (cI, 24, .inl (upd (upd nf (3 * g) a1) ((3 * g) + 1) b1)))) nm (.inl (cI, 24, .inl (upd (upd (upd nf (3 * g) a1) ((3 * g) + 1) b1) ((3 * g) + 2) c1)))) fr (.inl (cI, 8, .inl (upd ff g d1)))) va = some (.inl (cJ, 8, .inr (.inl vf))) := gh_keep zfr_8 zva_8 (by simp)
              have ztp_9 : (gh_up (gh_up (gh_up (gh_up (gh_up h mo (.inr (5, [.int 0, .int (nI g), .ref nm, .ref fr, .int (nI my), .ref hs, .ref va, .ref tp, .ref dn]))) nm (.inl (cI, 24, .inl (upd nf (3 * g) a1)))) nm (.inl (cI, 24, .inl (upd (upd nf (3 * g) a1) ((3 * g) + 1) b1)))) nm (.inl (cI, 24, .inl (upd (upd (upd nf (3 * g) a1) ((3 * g) + 1) b1) ((3 * g) + 2) c1)))) fr (.inl (cI, 8, .inl (upd ff g d1)))) tp = some (.inl (cJ, 8, .inr (.inl tf))) := gh_keep zfr_8 ztp_8 (by simp)
              have zdn_9 : (gh_up (gh_up (gh_up (gh_up (gh_up h mo (.inr (5, [.int 0, .int (nI g), .ref nm, .ref fr, .int (nI my), .ref hs, .ref va, .ref tp, .ref dn]))) nm (.inl (cI, 24, .inl (upd nf (3 * g) a1)))) nm (.inl (cI, 24, .inl (upd (upd nf (3 * g) a1) ((3 * g) + 1) b1)))) nm (.inl (cI, 24, .inl (upd (upd (upd nf (3 * g) a1) ((3 * g) + 1) b1) ((3 * g) + 2) c1)))) fr (.inl (cI, 8, .inl (upd ff g d1)))) dn = some (.inl (cJ, 8, .inr (.inl df))) := gh_keep zfr_8 zdn_8 (by simp)
              have hq5_9 : (gh_up (gh_up (gh_up (gh_up (gh_up h mo (.inr (5, [.int 0, .int (nI g), .ref nm, .ref fr, .int (nI my), .ref hs, .ref va, .ref tp, .ref dn]))) nm (.inl (cI, 24, .inl (upd nf (3 * g) a1)))) nm (.inl (cI, 24, .inl (upd (upd nf (3 * g) a1) ((3 * g) + 1) b1)))) nm (.inl (cI, 24, .inl (upd (upd (upd nf (3 * g) a1) ((3 * g) + 1) b1) ((3 * g) + 2) c1)))) fr (.inl (cI, 8, .inl (upd ff g d1)))) mo = some (.inr (5, [.int 0, .int (nI g), .ref nm, .ref fr, .int (nI my), .ref hs, .ref va, .ref tp, .ref dn])) := gh_keep zfr_8 hq5_8 (by simp)
              have hq8_9 : (gh_up (gh_up (gh_up (gh_up (gh_up h mo (.inr (5, [.int 0, .int (nI g), .ref nm, .ref fr, .int (nI my), .ref hs, .ref va, .ref tp, .ref dn]))) nm (.inl (cI, 24, .inl (upd nf (3 * g) a1)))) nm (.inl (cI, 24, .inl (upd (upd nf (3 * g) a1) ((3 * g) + 1) b1)))) nm (.inl (cI, 24, .inl (upd (upd (upd nf (3 * g) a1) ((3 * g) + 1) b1) ((3 * g) + 2) c1)))) fr (.inl (cI, 8, .inl (upd ff g d1)))) nm = some (.inl (cI, 24, .inl (upd (upd (upd nf (3 * g) a1) ((3 * g) + 1) b1) ((3 * g) + 2) c1))) := gh_keep zfr_8 hq8 (by simp)
              refine lv_aload_n hx hb d_Mo_plane_143 rfl (lv_at hl 1 rfl) ?_
              refine lv_dup hx hb d_Mo_plane_144 rfl ?_
              refine gh_get (ci := 5) hx hb htb in_Mo hown hK hG hq5_9 rfl 1 (by decide) (htb _ k_2_224) (fun _ h9 => h9) rfl d_Mo_plane_145 ?_
              refine lv_iconst (v := 1) hx hb d_Mo_plane_148 (by decide) ?_
              refine lv_iadd hx hb d_Mo_plane_149 ?_
              rw [show nI g + 1 = nI (g + 1) from nI_1 g]
              refine gh_put (ci := 5) (ty := .int) hx hb htb in_Mo t_Mo ty_Mo nm_Mo hown hK hG hq5_9 rfl 1 (by decide) (htb _ k_2_224) (fun _ h9 => h9) rfl (by decide +kernel) rfl rfl (Nat.le_of_ble_eq_true rfl) d_Mo_plane_150 (fun H l9 hG => ?_)
              have hq10 : (gh_up (gh_up (gh_up (gh_up (gh_up (gh_up h mo (.inr (5, [.int 0, .int (nI g), .ref nm, .ref fr, .int (nI my), .ref hs, .ref va, .ref tp, .ref dn]))) nm (.inl (cI, 24, .inl (upd nf (3 * g) a1)))) nm (.inl (cI, 24, .inl (upd (upd nf (3 * g) a1) ((3 * g) + 1) b1)))) nm (.inl (cI, 24, .inl (upd (upd (upd nf (3 * g) a1) ((3 * g) + 1) b1) ((3 * g) + 2) c1)))) fr (.inl (cI, 8, .inl (upd ff g d1)))) mo (.inr (5, [.int 0, .int (nI (g + 1)), .ref nm, .ref fr, .int (nI my), .ref hs, .ref va, .ref tp, .ref dn]))) mo = some (.inr (5, [.int 0, .int (nI (g + 1)), .ref nm, .ref fr, .int (nI my), .ref hs, .ref va, .ref tp, .ref dn])) := gh_self _ _ _
              replace hG : gh_P D vC b0 (gh_up (gh_up (gh_up (gh_up (gh_up (gh_up h mo (.inr (5, [.int 0, .int (nI g), .ref nm, .ref fr, .int (nI my), .ref hs, .ref va, .ref tp, .ref dn]))) nm (.inl (cI, 24, .inl (upd nf (3 * g) a1)))) nm (.inl (cI, 24, .inl (upd (upd nf (3 * g) a1) ((3 * g) + 1) b1)))) nm (.inl (cI, 24, .inl (upd (upd (upd nf (3 * g) a1) ((3 * g) + 1) b1) ((3 * g) + 2) c1)))) fr (.inl (cI, 8, .inl (upd ff g d1)))) mo (.inr (5, [.int 0, .int (nI (g + 1)), .ref nm, .ref fr, .int (nI my), .ref hs, .ref va, .ref tp, .ref dn]))) s.heap _ _ := hG
              have zhs_10 : (gh_up (gh_up (gh_up (gh_up (gh_up (gh_up h mo (.inr (5, [.int 0, .int (nI g), .ref nm, .ref fr, .int (nI my), .ref hs, .ref va, .ref tp, .ref dn]))) nm (.inl (cI, 24, .inl (upd nf (3 * g) a1)))) nm (.inl (cI, 24, .inl (upd (upd nf (3 * g) a1) ((3 * g) + 1) b1)))) nm (.inl (cI, 24, .inl (upd (upd (upd nf (3 * g) a1) ((3 * g) + 1) b1) ((3 * g) + 2) c1)))) fr (.inl (cI, 8, .inl (upd ff g d1)))) mo (.inr (5, [.int 0, .int (nI (g + 1)), .ref nm, .ref fr, .int (nI my), .ref hs, .ref va, .ref tp, .ref dn]))) hs = some (.inl (cJ, 24, .inr (.inl hf))) := gh_keep hq5_9 zhs_9 (by simp)
              have zva_10 : (gh_up (gh_up (gh_up (gh_up (gh_up (gh_up h mo (.inr (5, [.int 0, .int (nI g), .ref nm, .ref fr, .int (nI my), .ref hs, .ref va, .ref tp, .ref dn]))) nm (.inl (cI, 24, .inl (upd nf (3 * g) a1)))) nm (.inl (cI, 24, .inl (upd (upd nf (3 * g) a1) ((3 * g) + 1) b1)))) nm (.inl (cI, 24, .inl (upd (upd (upd nf (3 * g) a1) ((3 * g) + 1) b1) ((3 * g) + 2) c1)))) fr (.inl (cI, 8, .inl (upd ff g d1)))) mo (.inr (5, [.int 0, .int (nI (g + 1)), .ref nm, .ref fr, .int (nI my), .ref hs, .ref va, .ref tp, .ref dn]))) va = some (.inl (cJ, 8, .inr (.inl vf))) := gh_keep hq5_9 zva_9 (by simp)
              have ztp_10 : (gh_up (gh_up (gh_up (gh_up (gh_up (gh_up h mo (.inr (5, [.int 0, .int (nI g), .ref nm, .ref fr, .int (nI my), .ref hs, .ref va, .ref tp, .ref dn]))) nm (.inl (cI, 24, .inl (upd nf (3 * g) a1)))) nm (.inl (cI, 24, .inl (upd (upd nf (3 * g) a1) ((3 * g) + 1) b1)))) nm (.inl (cI, 24, .inl (upd (upd (upd nf (3 * g) a1) ((3 * g) + 1) b1) ((3 * g) + 2) c1)))) fr (.inl (cI, 8, .inl (upd ff g d1)))) mo (.inr (5, [.int 0, .int (nI (g + 1)), .ref nm, .ref fr, .int (nI my), .ref hs, .ref va, .ref tp, .ref dn]))) tp = some (.inl (cJ, 8, .inr (.inl tf))) := gh_keep hq5_9 ztp_9 (by simp)
              have zdn_10 : (gh_up (gh_up (gh_up (gh_up (gh_up (gh_up h mo (.inr (5, [.int 0, .int (nI g), .ref nm, .ref fr, .int (nI my), .ref hs, .ref va, .ref tp, .ref dn]))) nm (.inl (cI, 24, .inl (upd nf (3 * g) a1)))) nm (.inl (cI, 24, .inl (upd (upd nf (3 * g) a1) ((3 * g) + 1) b1)))) nm (.inl (cI, 24, .inl (upd (upd (upd nf (3 * g) a1) ((3 * g) + 1) b1) ((3 * g) + 2) c1)))) fr (.inl (cI, 8, .inl (upd ff g d1)))) mo (.inr (5, [.int 0, .int (nI (g + 1)), .ref nm, .ref fr, .int (nI my), .ref hs, .ref va, .ref tp, .ref dn]))) dn = some (.inl (cJ, 8, .inr (.inl df))) := gh_keep hq5_9 zdn_9 (by simp)
              have hq8_10 : (gh_up (gh_up (gh_up (gh_up (gh_up (gh_up h mo (.inr (5, [.int 0, .int (nI g), .ref nm, .ref fr, .int (nI my), .ref hs, .ref va, .ref tp, .ref dn]))) nm (.inl (cI, 24, .inl (upd nf (3 * g) a1)))) nm (.inl (cI, 24, .inl (upd (upd nf (3 * g) a1) ((3 * g) + 1) b1)))) nm (.inl (cI, 24, .inl (upd (upd (upd nf (3 * g) a1) ((3 * g) + 1) b1) ((3 * g) + 2) c1)))) fr (.inl (cI, 8, .inl (upd ff g d1)))) mo (.inr (5, [.int 0, .int (nI (g + 1)), .ref nm, .ref fr, .int (nI my), .ref hs, .ref va, .ref tp, .ref dn]))) nm = some (.inl (cI, 24, .inl (upd (upd (upd nf (3 * g) a1) ((3 * g) + 1) b1) ((3 * g) + 2) c1))) := gh_keep hq5_9 hq8_9 (by simp)
              have hq9_10 : (gh_up (gh_up (gh_up (gh_up (gh_up (gh_up h mo (.inr (5, [.int 0, .int (nI g), .ref nm, .ref fr, .int (nI my), .ref hs, .ref va, .ref tp, .ref dn]))) nm (.inl (cI, 24, .inl (upd nf (3 * g) a1)))) nm (.inl (cI, 24, .inl (upd (upd nf (3 * g) a1) ((3 * g) + 1) b1)))) nm (.inl (cI, 24, .inl (upd (upd (upd nf (3 * g) a1) ((3 * g) + 1) b1) ((3 * g) + 2) c1)))) fr (.inl (cI, 8, .inl (upd ff g d1)))) mo (.inr (5, [.int 0, .int (nI (g + 1)), .ref nm, .ref fr, .int (nI my), .ref hs, .ref va, .ref tp, .ref dn]))) fr = some (.inl (cI, 8, .inl (upd ff g d1))) := gh_keep hq5_9 hq9 (by simp)
              refine lv_aload_n hx hb d_Mo_plane_153 rfl (lv_at hl 1 rfl) ?_
              refine gh_get (ci := 5) hx hb htb in_Mo hown hK hG hq10 rfl 1 (by decide) (htb _ k_2_224) (fun _ h9 => h9) rfl d_Mo_plane_154 ?_
              refine lv_iconst (v := 1) hx hb d_Mo_plane_157 (by decide) ?_
              refine lv_isub hx hb d_Mo_plane_158 ?_
              rw [show nI (g + 1) - 1 = nI ((g + 1) - 1) from pk_sub (a := (g + 1)) (b := 1) (by omega)]
              exact gh_iret hx hb hr hlk rfl hG d_Mo_plane_159 (rB_0 (by simp [m_badP, hc6, hc15, hc24, hc34, hc38]) (rB_0 (decide_eq_false hc72) ⟨rfl, (wM_mk hq10 hq8_10 hq9_10 zhs_10 zva_10 ztp_10 zdn_10 zvt zvd ztd (by omega) (by omega)), (frM_up (frM_up (frM_up (frM_up (frM_up (frM_up zf0 zmo rfl) znm_5 rfl) hq6 rfl) hq7 rfl) zfr_8 rfl) hq5_9 rfl)⟩))
            · skip
              replace hc72 : g = 8 := (nc_eq (a := g) (b := 8) (by omega) (by omega) rfl rfl).mp hc72
              refine lv_iconst (v := 2) hx hb d_Mo_plane_75 (by decide) ?_
              refine lv_goto (tgt := 80) hx hb d_Mo_plane_76 (by decide) ?_
              refine gh_put (ci := 5) (ty := .int) hx hb htb in_Mo t_Mo ty_Mo nm_Mo hown hK hG zmo rfl 0 (by decide) (htb _ k_2_223) (fun _ h9 => h9) rfl (by decide +kernel) rfl rfl (Nat.le_of_ble_eq_true rfl) d_Mo_plane_80 (fun H l9 hG => ?_)
              have hq11 : (gh_up h mo (.inr (5, [.int 2, .int (nI g), .ref nm, .ref fr, .int (nI my), .ref hs, .ref va, .ref tp, .ref dn]))) mo = some (.inr (5, [.int 2, .int (nI g), .ref nm, .ref fr, .int (nI my), .ref hs, .ref va, .ref tp, .ref dn])) := gh_self _ _ _
              replace hG : gh_P D vC b0 (gh_up h mo (.inr (5, [.int 2, .int (nI g), .ref nm, .ref fr, .int (nI my), .ref hs, .ref va, .ref tp, .ref dn]))) s.heap _ _ := hG
              have znm_11 : (gh_up h mo (.inr (5, [.int 2, .int (nI g), .ref nm, .ref fr, .int (nI my), .ref hs, .ref va, .ref tp, .ref dn]))) nm = some (.inl (cI, 24, .inl nf)) := gh_keep zmo znm (by simp)
              have zfr_11 : (gh_up h mo (.inr (5, [.int 2, .int (nI g), .ref nm, .ref fr, .int (nI my), .ref hs, .ref va, .ref tp, .ref dn]))) fr = some (.inl (cI, 8, .inl ff)) := gh_keep zmo zfr (by simp)
              have zhs_11 : (gh_up h mo (.inr (5, [.int 2, .int (nI g), .ref nm, .ref fr, .int (nI my), .ref hs, .ref va, .ref tp, .ref dn]))) hs = some (.inl (cJ, 24, .inr (.inl hf))) := gh_keep zmo zhs (by simp)
              have zva_11 : (gh_up h mo (.inr (5, [.int 2, .int (nI g), .ref nm, .ref fr, .int (nI my), .ref hs, .ref va, .ref tp, .ref dn]))) va = some (.inl (cJ, 8, .inr (.inl vf))) := gh_keep zmo zva (by simp)
              have ztp_11 : (gh_up h mo (.inr (5, [.int 2, .int (nI g), .ref nm, .ref fr, .int (nI my), .ref hs, .ref va, .ref tp, .ref dn]))) tp = some (.inl (cJ, 8, .inr (.inl tf))) := gh_keep zmo ztp (by simp)
              have zdn_11 : (gh_up h mo (.inr (5, [.int 2, .int (nI g), .ref nm, .ref fr, .int (nI my), .ref hs, .ref va, .ref tp, .ref dn]))) dn = some (.inl (cJ, 8, .inr (.inl df))) := gh_keep zmo zdn (by simp)
              refine lv_aload_n hx hb d_Mo_plane_83 rfl (lv_at hl 1 rfl) ?_
              refine gh_get (ci := 5) hx hb htb in_Mo hown hK hG hq11 rfl 0 (by decide) (htb _ k_2_223) (fun _ h9 => h9) rfl d_Mo_plane_84 ?_
              refine lv_if_le (tgt := 92) hx hb d_Mo_plane_87 (by decide) (fun hc87 => absurd hc87 (by decide)) (fun hc87 => ?_)
              refine lv_iconst (v := 0) hx hb d_Mo_plane_90 (by decide) ?_
              exact gh_iret hx hb hr hlk rfl hG d_Mo_plane_91 (rB_0 (by simp [m_badP, hc6, hc15, hc24, hc34, hc38]) (rB_1 (decide_eq_true hc72) ⟨rfl, (wM_mk hq11 znm_11 zfr_11 zhs_11 zva_11 ztp_11 zdn_11 zvt zvd ztd (by omega) (by omega)), (frM_up zf0 zmo rfl)⟩))
          · skip
            refine lv_iload_n hx hb d_Mo_plane_41 rfl (lv_at hl 2 rfl) ?_
            refine lv_if_ne (tgt := 49) hx hb d_Mo_plane_42 (by decide) (fun hc42 => ?_) (fun hc42 => ?_)
            · skip
              refine lv_iconst (v := 1) hx hb d_Mo_plane_49 (by decide) ?_
              refine lv_goto (tgt := 54) hx hb d_Mo_plane_50 (by decide) ?_
              refine lv_istore (lv' := [(5, .int 1), (0, .ref mo), (1, .int a1), (2, .int b1), (3, .int c1), (4, .int d1)]) hx hb d_Mo_plane_54 hl (by decide) rfl (fun ls hl => ?_)
              refine lv_aload_n hx hb d_Mo_plane_56 rfl (lv_at hl 1 rfl) ?_
              refine lv_iload hx hb d_Mo_plane_57 (lv_at hl 0 rfl) ?_
              refine lv_if_ne (tgt := 66) hx hb d_Mo_plane_59 (by decide) (fun hc59 => ?_) (fun hc59 => absurd hc59 (by decide))
              refine lv_aload_n hx hb d_Mo_plane_66 rfl (lv_at hl 1 rfl) ?_
              refine gh_get (ci := 5) hx hb htb in_Mo hown hK hG zmo rfl 1 (by decide) (htb _ k_2_224) (fun _ h9 => h9) rfl d_Mo_plane_67 ?_
              refine lv_bipush (v := 8) hx hb d_Mo_plane_70 (by decide) ?_
              refine lv_icmp_ne (tgt := 79) hx hb d_Mo_plane_72 (by decide) (fun hc72 => ?_) (fun hc72 => ?_)
              · skip
                replace hc72 : ¬ g = 8 := fun q9 => hc72 ((nc_eq (a := g) (b := 8) (by omega) (by omega) rfl rfl).mpr q9)
                refine lv_iconst (v := 0) hx hb d_Mo_plane_79 (by decide) ?_
                refine gh_put (ci := 5) (ty := .int) hx hb htb in_Mo t_Mo ty_Mo nm_Mo hown hK hG zmo rfl 0 (by decide) (htb _ k_2_223) (fun _ h9 => h9) rfl (by decide +kernel) rfl rfl (Nat.le_of_ble_eq_true rfl) d_Mo_plane_80 (fun H l9 hG => ?_)
                have hq12 : (gh_up h mo (.inr (5, [.int 0, .int (nI g), .ref nm, .ref fr, .int (nI my), .ref hs, .ref va, .ref tp, .ref dn]))) mo = some (.inr (5, [.int 0, .int (nI g), .ref nm, .ref fr, .int (nI my), .ref hs, .ref va, .ref tp, .ref dn])) := gh_self _ _ _
                replace hG : gh_P D vC b0 (gh_up h mo (.inr (5, [.int 0, .int (nI g), .ref nm, .ref fr, .int (nI my), .ref hs, .ref va, .ref tp, .ref dn]))) s.heap _ _ := hG
                have znm_12 : (gh_up h mo (.inr (5, [.int 0, .int (nI g), .ref nm, .ref fr, .int (nI my), .ref hs, .ref va, .ref tp, .ref dn]))) nm = some (.inl (cI, 24, .inl nf)) := gh_keep zmo znm (by simp)
                have zfr_12 : (gh_up h mo (.inr (5, [.int 0, .int (nI g), .ref nm, .ref fr, .int (nI my), .ref hs, .ref va, .ref tp, .ref dn]))) fr = some (.inl (cI, 8, .inl ff)) := gh_keep zmo zfr (by simp)
                have zhs_12 : (gh_up h mo (.inr (5, [.int 0, .int (nI g), .ref nm, .ref fr, .int (nI my), .ref hs, .ref va, .ref tp, .ref dn]))) hs = some (.inl (cJ, 24, .inr (.inl hf))) := gh_keep zmo zhs (by simp)
                have zva_12 : (gh_up h mo (.inr (5, [.int 0, .int (nI g), .ref nm, .ref fr, .int (nI my), .ref hs, .ref va, .ref tp, .ref dn]))) va = some (.inl (cJ, 8, .inr (.inl vf))) := gh_keep zmo zva (by simp)
                have ztp_12 : (gh_up h mo (.inr (5, [.int 0, .int (nI g), .ref nm, .ref fr, .int (nI my), .ref hs, .ref va, .ref tp, .ref dn]))) tp = some (.inl (cJ, 8, .inr (.inl tf))) := gh_keep zmo ztp (by simp)
                have zdn_12 : (gh_up h mo (.inr (5, [.int 0, .int (nI g), .ref nm, .ref fr, .int (nI my), .ref hs, .ref va, .ref tp, .ref dn]))) dn = some (.inl (cJ, 8, .inr (.inl df))) := gh_keep zmo zdn (by simp)
                refine lv_aload_n hx hb d_Mo_plane_83 rfl (lv_at hl 1 rfl) ?_
                refine gh_get (ci := 5) hx hb htb in_Mo hown hK hG hq12 rfl 0 (by decide) (htb _ k_2_223) (fun _ h9 => h9) rfl d_Mo_plane_84 ?_
                refine lv_if_le (tgt := 92) hx hb d_Mo_plane_87 (by decide) (fun hc87 => ?_) (fun hc87 => absurd hc87 (by decide))
                refine lv_aload_n hx hb d_Mo_plane_92 rfl (lv_at hl 1 rfl) ?_
                refine gh_get (ci := 5) hx hb htb in_Mo hown hK hG hq12 rfl 2 (by decide) (htb _ k_2_225) (fun _ h9 => h9) rfl d_Mo_plane_93 ?_
                refine lv_iconst (v := 3) hx hb d_Mo_plane_96 (by decide) ?_
                refine lv_aload_n hx hb d_Mo_plane_97 rfl (lv_at hl 1 rfl) ?_
                refine gh_get (ci := 5) hx hb htb in_Mo hown hK hG hq12 rfl 1 (by decide) (htb _ k_2_224) (fun _ h9 => h9) rfl d_Mo_plane_98 ?_
                refine lv_imul hx hb d_Mo_plane_101 ?_
                rw [show 3 * (nI g) = nI (3 * g) from nm_mul 3 g]
                refine lv_iload_n hx hb d_Mo_plane_102 rfl (lv_at hl 2 rfl) ?_
                refine gh_iast hx hb hK hG 0 znm_12 rfl (vp_in_nI (by omega) (by decide)) d_Mo_plane_103 (fun H l9 hG => ?_)
                rw [nI_clamp (by omega)] at hG
                have hq13 : (gh_up (gh_up h mo (.inr (5, [.int 0, .int (nI g), .ref nm, .ref fr, .int (nI my), .ref hs, .ref va, .ref tp, .ref dn]))) nm (.inl (cI, 24, .inl (upd nf (3 * g) a1)))) nm = some (.inl (cI, 24, .inl (upd nf (3 * g) a1))) := gh_self _ _ _
                replace hG : gh_P D vC b0 (gh_up (gh_up h mo (.inr (5, [.int 0, .int (nI g), .ref nm, .ref fr, .int (nI my), .ref hs, .ref va, .ref tp, .ref dn]))) nm (.inl (cI, 24, .inl (upd nf (3 * g) a1)))) s.heap _ _ := hG
                have zfr_13 : (gh_up (gh_up h mo (.inr (5, [.int 0, .int (nI g), .ref nm, .ref fr, .int (nI my), .ref hs, .ref va, .ref tp, .ref dn]))) nm (.inl (cI, 24, .inl (upd nf (3 * g) a1)))) fr = some (.inl (cI, 8, .inl ff)) := gh_keep znm_12 zfr_12 (by simp)
                have zhs_13 : (gh_up (gh_up h mo (.inr (5, [.int 0, .int (nI g), .ref nm, .ref fr, .int (nI my), .ref hs, .ref va, .ref tp, .ref dn]))) nm (.inl (cI, 24, .inl (upd nf (3 * g) a1)))) hs = some (.inl (cJ, 24, .inr (.inl hf))) := gh_keep znm_12 zhs_12 (by simp)
                have zva_13 : (gh_up (gh_up h mo (.inr (5, [.int 0, .int (nI g), .ref nm, .ref fr, .int (nI my), .ref hs, .ref va, .ref tp, .ref dn]))) nm (.inl (cI, 24, .inl (upd nf (3 * g) a1)))) va = some (.inl (cJ, 8, .inr (.inl vf))) := gh_keep znm_12 zva_12 (by simp)
                have ztp_13 : (gh_up (gh_up h mo (.inr (5, [.int 0, .int (nI g), .ref nm, .ref fr, .int (nI my), .ref hs, .ref va, .ref tp, .ref dn]))) nm (.inl (cI, 24, .inl (upd nf (3 * g) a1)))) tp = some (.inl (cJ, 8, .inr (.inl tf))) := gh_keep znm_12 ztp_12 (by simp)
                have zdn_13 : (gh_up (gh_up h mo (.inr (5, [.int 0, .int (nI g), .ref nm, .ref fr, .int (nI my), .ref hs, .ref va, .ref tp, .ref dn]))) nm (.inl (cI, 24, .inl (upd nf (3 * g) a1)))) dn = some (.inl (cJ, 8, .inr (.inl df))) := gh_keep znm_12 zdn_12 (by simp)
                have hq12_13 : (gh_up (gh_up h mo (.inr (5, [.int 0, .int (nI g), .ref nm, .ref fr, .int (nI my), .ref hs, .ref va, .ref tp, .ref dn]))) nm (.inl (cI, 24, .inl (upd nf (3 * g) a1)))) mo = some (.inr (5, [.int 0, .int (nI g), .ref nm, .ref fr, .int (nI my), .ref hs, .ref va, .ref tp, .ref dn])) := gh_keep znm_12 hq12 (by simp)
                refine lv_aload_n hx hb d_Mo_plane_104 rfl (lv_at hl 1 rfl) ?_
                refine gh_get (ci := 5) hx hb htb in_Mo hown hK hG hq12_13 rfl 2 (by decide) (htb _ k_2_225) (fun _ h9 => h9) rfl d_Mo_plane_105 ?_
                refine lv_iconst (v := 3) hx hb d_Mo_plane_108 (by decide) ?_
                refine lv_aload_n hx hb d_Mo_plane_109 rfl (lv_at hl 1 rfl) ?_
                refine gh_get (ci := 5) hx hb htb in_Mo hown hK hG hq12_13 rfl 1 (by decide) (htb _ k_2_224) (fun _ h9 => h9) rfl d_Mo_plane_110 ?_
                refine lv_imul hx hb d_Mo_plane_113 ?_
                rw [show 3 * (nI g) = nI (3 * g) from nm_mul 3 g]
                refine lv_iconst (v := 1) hx hb d_Mo_plane_114 (by decide) ?_
                refine lv_iadd hx hb d_Mo_plane_115 ?_
                rw [show nI (3 * g) + 1 = nI ((3 * g) + 1) from nI_1 (3 * g)]
                refine lv_iload_n hx hb d_Mo_plane_116 rfl (lv_at hl 3 rfl) ?_
                refine gh_iast hx hb hK hG 0 hq13 rfl (vp_in_nI (by omega) (by decide)) d_Mo_plane_117 (fun H l9 hG => ?_)
                rw [nI_clamp (by omega)] at hG
                have hq14 : (gh_up (gh_up (gh_up h mo (.inr (5, [.int 0, .int (nI g), .ref nm, .ref fr, .int (nI my), .ref hs, .ref va, .ref tp, .ref dn]))) nm (.inl (cI, 24, .inl (upd nf (3 * g) a1)))) nm (.inl (cI, 24, .inl (upd (upd nf (3 * g) a1) ((3 * g) + 1) b1)))) nm = some (.inl (cI, 24, .inl (upd (upd nf (3 * g) a1) ((3 * g) + 1) b1))) := gh_self _ _ _
                replace hG : gh_P D vC b0 (gh_up (gh_up (gh_up h mo (.inr (5, [.int 0, .int (nI g), .ref nm, .ref fr, .int (nI my), .ref hs, .ref va, .ref tp, .ref dn]))) nm (.inl (cI, 24, .inl (upd nf (3 * g) a1)))) nm (.inl (cI, 24, .inl (upd (upd nf (3 * g) a1) ((3 * g) + 1) b1)))) s.heap _ _ := hG
                have zfr_14 : (gh_up (gh_up (gh_up h mo (.inr (5, [.int 0, .int (nI g), .ref nm, .ref fr, .int (nI my), .ref hs, .ref va, .ref tp, .ref dn]))) nm (.inl (cI, 24, .inl (upd nf (3 * g) a1)))) nm (.inl (cI, 24, .inl (upd (upd nf (3 * g) a1) ((3 * g) + 1) b1)))) fr = some (.inl (cI, 8, .inl ff)) := gh_keep hq13 zfr_13 (by simp)
                have zhs_14 : (gh_up (gh_up (gh_up h mo (.inr (5, [.int 0, .int (nI g), .ref nm, .ref fr, .int (nI my), .ref hs, .ref va, .ref tp, .ref dn]))) nm (.inl (cI, 24, .inl (upd nf (3 * g) a1)))) nm (.inl (cI, 24, .inl (upd (upd nf (3 * g) a1) ((3 * g) + 1) b1)))) hs = some (.inl (cJ, 24, .inr (.inl hf))) := gh_keep hq13 zhs_13 (by simp)
                have zva_14 : (gh_up (gh_up (gh_up h mo (.inr (5, [.int 0, .int (nI g), .ref nm, .ref fr, .int (nI my), .ref hs, .ref va, .ref tp, .ref dn]))) nm (.inl (cI, 24, .inl (upd nf (3 * g) a1)))) nm (.inl (cI, 24, .inl (upd (upd nf (3 * g) a1) ((3 * g) + 1) b1)))) va = some (.inl (cJ, 8, .inr (.inl vf))) := gh_keep hq13 zva_13 (by simp)
                have ztp_14 : (gh_up (gh_up (gh_up h mo (.inr (5, [.int 0, .int (nI g), .ref nm, .ref fr, .int (nI my), .ref hs, .ref va, .ref tp, .ref dn]))) nm (.inl (cI, 24, .inl (upd nf (3 * g) a1)))) nm (.inl (cI, 24, .inl (upd (upd nf (3 * g) a1) ((3 * g) + 1) b1)))) tp = some (.inl (cJ, 8, .inr (.inl tf))) := gh_keep hq13 ztp_13 (by simp)
                have zdn_14 : (gh_up (gh_up (gh_up h mo (.inr (5, [.int 0, .int (nI g), .ref nm, .ref fr, .int (nI my), .ref hs, .ref va, .ref tp, .ref dn]))) nm (.inl (cI, 24, .inl (upd nf (3 * g) a1)))) nm (.inl (cI, 24, .inl (upd (upd nf (3 * g) a1) ((3 * g) + 1) b1)))) dn = some (.inl (cJ, 8, .inr (.inl df))) := gh_keep hq13 zdn_13 (by simp)
                have hq12_14 : (gh_up (gh_up (gh_up h mo (.inr (5, [.int 0, .int (nI g), .ref nm, .ref fr, .int (nI my), .ref hs, .ref va, .ref tp, .ref dn]))) nm (.inl (cI, 24, .inl (upd nf (3 * g) a1)))) nm (.inl (cI, 24, .inl (upd (upd nf (3 * g) a1) ((3 * g) + 1) b1)))) mo = some (.inr (5, [.int 0, .int (nI g), .ref nm, .ref fr, .int (nI my), .ref hs, .ref va, .ref tp, .ref dn])) := gh_keep hq13 hq12_13 (by simp)
                refine lv_aload_n hx hb d_Mo_plane_118 rfl (lv_at hl 1 rfl) ?_
                refine gh_get (ci := 5) hx hb htb in_Mo hown hK hG hq12_14 rfl 2 (by decide) (htb _ k_2_225) (fun _ h9 => h9) rfl d_Mo_plane_119 ?_
                refine lv_iconst (v := 3) hx hb d_Mo_plane_122 (by decide) ?_
                refine lv_aload_n hx hb d_Mo_plane_123 rfl (lv_at hl 1 rfl) ?_
                refine gh_get (ci := 5) hx hb htb in_Mo hown hK hG hq12_14 rfl 1 (by decide) (htb _ k_2_224) (fun _ h9 => h9) rfl d_Mo_plane_124 ?_
                refine lv_imul hx hb d_Mo_plane_127 ?_
                rw [show 3 * (nI g) = nI (3 * g) from nm_mul 3 g]
                refine lv_iconst (v := 2) hx hb d_Mo_plane_128 (by decide) ?_
                refine lv_iadd hx hb d_Mo_plane_129 ?_
                rw [show (nI (3 * g)) + 2 = nI ((3 * g) + 2) from nI_add (3 * g) 2]
                refine lv_iload_n hx hb d_Mo_plane_130 rfl (lv_at hl 4 rfl) ?_
                refine gh_iast hx hb hK hG 0 hq14 rfl (vp_in_nI (by omega) (by decide)) d_Mo_plane_131 (fun H l9 hG => ?_)
                rw [nI_clamp (by omega)] at hG
                have hq15 : (gh_up (gh_up (gh_up (gh_up h mo (.inr (5, [.int 0, .int (nI g), .ref nm, .ref fr, .int (nI my), .ref hs, .ref va, .ref tp, .ref dn]))) nm (.inl (cI, 24, .inl (upd nf (3 * g) a1)))) nm (.inl (cI, 24, .inl (upd (upd nf (3 * g) a1) ((3 * g) + 1) b1)))) nm (.inl (cI, 24, .inl (upd (upd (upd nf (3 * g) a1) ((3 * g) + 1) b1) ((3 * g) + 2) c1)))) nm = some (.inl (cI, 24, .inl (upd (upd (upd nf (3 * g) a1) ((3 * g) + 1) b1) ((3 * g) + 2) c1))) := gh_self _ _ _
                replace hG : gh_P D vC b0 (gh_up (gh_up (gh_up (gh_up h mo (.inr (5, [.int 0, .int (nI g), .ref nm, .ref fr, .int (nI my), .ref hs, .ref va, .ref tp, .ref dn]))) nm (.inl (cI, 24, .inl (upd nf (3 * g) a1)))) nm (.inl (cI, 24, .inl (upd (upd nf (3 * g) a1) ((3 * g) + 1) b1)))) nm (.inl (cI, 24, .inl (upd (upd (upd nf (3 * g) a1) ((3 * g) + 1) b1) ((3 * g) + 2) c1)))) s.heap _ _ := hG
                have zfr_15 : (gh_up (gh_up (gh_up (gh_up h mo (.inr (5, [.int 0, .int (nI g), .ref nm, .ref fr, .int (nI my), .ref hs, .ref va, .ref tp, .ref dn]))) nm (.inl (cI, 24, .inl (upd nf (3 * g) a1)))) nm (.inl (cI, 24, .inl (upd (upd nf (3 * g) a1) ((3 * g) + 1) b1)))) nm (.inl (cI, 24, .inl (upd (upd (upd nf (3 * g) a1) ((3 * g) + 1) b1) ((3 * g) + 2) c1)))) fr = some (.inl (cI, 8, .inl ff)) := gh_keep hq14 zfr_14 (by simp)
                have zhs_15 : (gh_up (gh_up (gh_up (gh_up h mo (.inr (5, [.int 0, .int (nI g), .ref nm, .ref fr, .int (nI my), .ref hs, .ref va, .ref tp, .ref dn]))) nm (.inl (cI, 24, .inl (upd nf (3 * g) a1)))) nm (.inl (cI, 24, .inl (upd (upd nf (3 * g) a1) ((3 * g) + 1) b1)))) nm (.inl (cI, 24, .inl (upd (upd (upd nf (3 * g) a1) ((3 * g) + 1) b1) ((3 * g) + 2) c1)))) hs = some (.inl (cJ, 24, .inr (.inl hf))) := gh_keep hq14 zhs_14 (by simp)
                have zva_15 : (gh_up (gh_up (gh_up (gh_up h mo (.inr (5, [.int 0, .int (nI g), .ref nm, .ref fr, .int (nI my), .ref hs, .ref va, .ref tp, .ref dn]))) nm (.inl (cI, 24, .inl (upd nf (3 * g) a1)))) nm (.inl (cI, 24, .inl (upd (upd nf (3 * g) a1) ((3 * g) + 1) b1)))) nm (.inl (cI, 24, .inl (upd (upd (upd nf (3 * g) a1) ((3 * g) + 1) b1) ((3 * g) + 2) c1)))) va = some (.inl (cJ, 8, .inr (.inl vf))) := gh_keep hq14 zva_14 (by simp)
                have ztp_15 : (gh_up (gh_up (gh_up (gh_up h mo (.inr (5, [.int 0, .int (nI g), .ref nm, .ref fr, .int (nI my), .ref hs, .ref va, .ref tp, .ref dn]))) nm (.inl (cI, 24, .inl (upd nf (3 * g) a1)))) nm (.inl (cI, 24, .inl (upd (upd nf (3 * g) a1) ((3 * g) + 1) b1)))) nm (.inl (cI, 24, .inl (upd (upd (upd nf (3 * g) a1) ((3 * g) + 1) b1) ((3 * g) + 2) c1)))) tp = some (.inl (cJ, 8, .inr (.inl tf))) := gh_keep hq14 ztp_14 (by simp)
                have zdn_15 : (gh_up (gh_up (gh_up (gh_up h mo (.inr (5, [.int 0, .int (nI g), .ref nm, .ref fr, .int (nI my), .ref hs, .ref va, .ref tp, .ref dn]))) nm (.inl (cI, 24, .inl (upd nf (3 * g) a1)))) nm (.inl (cI, 24, .inl (upd (upd nf (3 * g) a1) ((3 * g) + 1) b1)))) nm (.inl (cI, 24, .inl (upd (upd (upd nf (3 * g) a1) ((3 * g) + 1) b1) ((3 * g) + 2) c1)))) dn = some (.inl (cJ, 8, .inr (.inl df))) := gh_keep hq14 zdn_14 (by simp)
                have hq12_15 : (gh_up (gh_up (gh_up (gh_up h mo (.inr (5, [.int 0, .int (nI g), .ref nm, .ref fr, .int (nI my), .ref hs, .ref va, .ref tp, .ref dn]))) nm (.inl (cI, 24, .inl (upd nf (3 * g) a1)))) nm (.inl (cI, 24, .inl (upd (upd nf (3 * g) a1) ((3 * g) + 1) b1)))) nm (.inl (cI, 24, .inl (upd (upd (upd nf (3 * g) a1) ((3 * g) + 1) b1) ((3 * g) + 2) c1)))) mo = some (.inr (5, [.int 0, .int (nI g), .ref nm, .ref fr, .int (nI my), .ref hs, .ref va, .ref tp, .ref dn])) := gh_keep hq14 hq12_14 (by simp)
                refine lv_aload_n hx hb d_Mo_plane_132 rfl (lv_at hl 1 rfl) ?_
                refine gh_get (ci := 5) hx hb htb in_Mo hown hK hG hq12_15 rfl 3 (by decide) (htb _ k_2_226) (fun _ h9 => h9) rfl d_Mo_plane_133 ?_
                refine lv_aload_n hx hb d_Mo_plane_136 rfl (lv_at hl 1 rfl) ?_
                refine gh_get (ci := 5) hx hb htb in_Mo hown hK hG hq12_15 rfl 1 (by decide) (htb _ k_2_224) (fun _ h9 => h9) rfl d_Mo_plane_137 ?_
                refine lv_iload hx hb d_Mo_plane_140 (lv_at hl 5 rfl) ?_
                refine gh_iast hx hb hK hG 0 zfr_15 rfl (vp_in_nI (by omega) (by decide)) d_Mo_plane_142 (fun H l9 hG => ?_)
                rw [nI_clamp (by omega)] at hG
                have hq16 : (gh_up (gh_up (gh_up (gh_up (gh_up h mo (.inr (5, [.int 0, .int (nI g), .ref nm, .ref fr, .int (nI my), .ref hs, .ref va, .ref tp, .ref dn]))) nm (.inl (cI, 24, .inl (upd nf (3 * g) a1)))) nm (.inl (cI, 24, .inl (upd (upd nf (3 * g) a1) ((3 * g) + 1) b1)))) nm (.inl (cI, 24, .inl (upd (upd (upd nf (3 * g) a1) ((3 * g) + 1) b1) ((3 * g) + 2) c1)))) fr (.inl (cI, 8, .inl (upd ff g d1)))) fr = some (.inl (cI, 8, .inl (upd ff g d1))) := gh_self _ _ _
                replace hG : gh_P D vC b0 (gh_up (gh_up (gh_up (gh_up (gh_up h mo (.inr (5, [.int 0, .int (nI g), .ref nm, .ref fr, .int (nI my), .ref hs, .ref va, .ref tp, .ref dn]))) nm (.inl (cI, 24, .inl (upd nf (3 * g) a1)))) nm (.inl (cI, 24, .inl (upd (upd nf (3 * g) a1) ((3 * g) + 1) b1)))) nm (.inl (cI, 24, .inl (upd (upd (upd nf (3 * g) a1) ((3 * g) + 1) b1) ((3 * g) + 2) c1)))) fr (.inl (cI, 8, .inl (upd ff g d1)))) s.heap _ _ := hG
                have zhs_16 : (gh_up (gh_up (gh_up (gh_up (gh_up h mo (.inr (5, [.int 0, .int (nI g), .ref nm, .ref fr, .int (nI my), .ref hs, .ref va, .ref tp, .ref dn]))) nm (.inl (cI, 24, .inl (upd nf (3 * g) a1)))) nm (.inl (cI, 24, .inl (upd (upd nf (3 * g) a1) ((3 * g) + 1) b1)))) nm (.inl (cI, 24, .inl (upd (upd (upd nf (3 * g) a1) ((3 * g) + 1) b1) ((3 * g) + 2) c1)))) fr (.inl (cI, 8, .inl (upd ff g d1)))) hs = some (.inl (cJ, 24, .inr (.inl hf))) := gh_keep zfr_15 zhs_15 (by simp)
                have zva_16 : (gh_up (gh_up (gh_up (gh_up (gh_up h mo (.inr (5, [.int 0, .int (nI g), .ref nm, .ref fr, .int (nI my), .ref hs, .ref va, .ref tp, .ref dn]))) nm (.inl (cI, 24, .inl (upd nf (3 * g) a1)))) nm (.inl (cI, 24, .inl (upd (upd nf (3 * g) a1) ((3 * g) + 1) b1)))) nm (.inl (cI, 24, .inl (upd (upd (upd nf (3 * g) a1) ((3 * g) + 1) b1) ((3 * g) + 2) c1)))) fr (.inl (cI, 8, .inl (upd ff g d1)))) va = some (.inl (cJ, 8, .inr (.inl vf))) := gh_keep zfr_15 zva_15 (by simp)
                have ztp_16 : (gh_up (gh_up (gh_up (gh_up (gh_up h mo (.inr (5, [.int 0, .int (nI g), .ref nm, .ref fr, .int (nI my), .ref hs, .ref va, .ref tp, .ref dn]))) nm (.inl (cI, 24, .inl (upd nf (3 * g) a1)))) nm (.inl (cI, 24, .inl (upd (upd nf (3 * g) a1) ((3 * g) + 1) b1)))) nm (.inl (cI, 24, .inl (upd (upd (upd nf (3 * g) a1) ((3 * g) + 1) b1) ((3 * g) + 2) c1)))) fr (.inl (cI, 8, .inl (upd ff g d1)))) tp = some (.inl (cJ, 8, .inr (.inl tf))) := gh_keep zfr_15 ztp_15 (by simp)
                have zdn_16 : (gh_up (gh_up (gh_up (gh_up (gh_up h mo (.inr (5, [.int 0, .int (nI g), .ref nm, .ref fr, .int (nI my), .ref hs, .ref va, .ref tp, .ref dn]))) nm (.inl (cI, 24, .inl (upd nf (3 * g) a1)))) nm (.inl (cI, 24, .inl (upd (upd nf (3 * g) a1) ((3 * g) + 1) b1)))) nm (.inl (cI, 24, .inl (upd (upd (upd nf (3 * g) a1) ((3 * g) + 1) b1) ((3 * g) + 2) c1)))) fr (.inl (cI, 8, .inl (upd ff g d1)))) dn = some (.inl (cJ, 8, .inr (.inl df))) := gh_keep zfr_15 zdn_15 (by simp)
                have hq12_16 : (gh_up (gh_up (gh_up (gh_up (gh_up h mo (.inr (5, [.int 0, .int (nI g), .ref nm, .ref fr, .int (nI my), .ref hs, .ref va, .ref tp, .ref dn]))) nm (.inl (cI, 24, .inl (upd nf (3 * g) a1)))) nm (.inl (cI, 24, .inl (upd (upd nf (3 * g) a1) ((3 * g) + 1) b1)))) nm (.inl (cI, 24, .inl (upd (upd (upd nf (3 * g) a1) ((3 * g) + 1) b1) ((3 * g) + 2) c1)))) fr (.inl (cI, 8, .inl (upd ff g d1)))) mo = some (.inr (5, [.int 0, .int (nI g), .ref nm, .ref fr, .int (nI my), .ref hs, .ref va, .ref tp, .ref dn])) := gh_keep zfr_15 hq12_15 (by simp)
                have hq15_16 : (gh_up (gh_up (gh_up (gh_up (gh_up h mo (.inr (5, [.int 0, .int (nI g), .ref nm, .ref fr, .int (nI my), .ref hs, .ref va, .ref tp, .ref dn]))) nm (.inl (cI, 24, .inl (upd nf (3 * g) a1)))) nm (.inl (cI, 24, .inl (upd (upd nf (3 * g) a1) ((3 * g) + 1) b1)))) nm (.inl (cI, 24, .inl (upd (upd (upd nf (3 * g) a1) ((3 * g) + 1) b1) ((3 * g) + 2) c1)))) fr (.inl (cI, 8, .inl (upd ff g d1)))) nm = some (.inl (cI, 24, .inl (upd (upd (upd nf (3 * g) a1) ((3 * g) + 1) b1) ((3 * g) + 2) c1))) := gh_keep zfr_15 hq15 (by simp)
                refine lv_aload_n hx hb d_Mo_plane_143 rfl (lv_at hl 1 rfl) ?_
                refine lv_dup hx hb d_Mo_plane_144 rfl ?_
                refine gh_get (ci := 5) hx hb htb in_Mo hown hK hG hq12_16 rfl 1 (by decide) (htb _ k_2_224) (fun _ h9 => h9) rfl d_Mo_plane_145 ?_
                refine lv_iconst (v := 1) hx hb d_Mo_plane_148 (by decide) ?_
                refine lv_iadd hx hb d_Mo_plane_149 ?_
                rw [show nI g + 1 = nI (g + 1) from nI_1 g]
                refine gh_put (ci := 5) (ty := .int) hx hb htb in_Mo t_Mo ty_Mo nm_Mo hown hK hG hq12_16 rfl 1 (by decide) (htb _ k_2_224) (fun _ h9 => h9) rfl (by decide +kernel) rfl rfl (Nat.le_of_ble_eq_true rfl) d_Mo_plane_150 (fun H l9 hG => ?_)
                have hq17 : (gh_up (gh_up (gh_up (gh_up (gh_up (gh_up h mo (.inr (5, [.int 0, .int (nI g), .ref nm, .ref fr, .int (nI my), .ref hs, .ref va, .ref tp, .ref dn]))) nm (.inl (cI, 24, .inl (upd nf (3 * g) a1)))) nm (.inl (cI, 24, .inl (upd (upd nf (3 * g) a1) ((3 * g) + 1) b1)))) nm (.inl (cI, 24, .inl (upd (upd (upd nf (3 * g) a1) ((3 * g) + 1) b1) ((3 * g) + 2) c1)))) fr (.inl (cI, 8, .inl (upd ff g d1)))) mo (.inr (5, [.int 0, .int (nI (g + 1)), .ref nm, .ref fr, .int (nI my), .ref hs, .ref va, .ref tp, .ref dn]))) mo = some (.inr (5, [.int 0, .int (nI (g + 1)), .ref nm, .ref fr, .int (nI my), .ref hs, .ref va, .ref tp, .ref dn])) := gh_self _ _ _
                replace hG : gh_P D vC b0 (gh_up (gh_up (gh_up (gh_up (gh_up (gh_up h mo (.inr (5, [.int 0, .int (nI g), .ref nm, .ref fr, .int (nI my), .ref hs, .ref va, .ref tp, .ref dn]))) nm (.inl (cI, 24, .inl (upd nf (3 * g) a1)))) nm (.inl (cI, 24, .inl (upd (upd nf (3 * g) a1) ((3 * g) + 1) b1)))) nm (.inl (cI, 24, .inl (upd (upd (upd nf (3 * g) a1) ((3 * g) + 1) b1) ((3 * g) + 2) c1)))) fr (.inl (cI, 8, .inl (upd ff g d1)))) mo (.inr (5, [.int 0, .int (nI (g + 1)), .ref nm, .ref fr, .int (nI my), .ref hs, .ref va, .ref tp, .ref dn]))) s.heap _ _ := hG
                have zhs_17 : (gh_up (gh_up (gh_up (gh_up (gh_up (gh_up h mo (.inr (5, [.int 0, .int (nI g), .ref nm, .ref fr, .int (nI my), .ref hs, .ref va, .ref tp, .ref dn]))) nm (.inl (cI, 24, .inl (upd nf (3 * g) a1)))) nm (.inl (cI, 24, .inl (upd (upd nf (3 * g) a1) ((3 * g) + 1) b1)))) nm (.inl (cI, 24, .inl (upd (upd (upd nf (3 * g) a1) ((3 * g) + 1) b1) ((3 * g) + 2) c1)))) fr (.inl (cI, 8, .inl (upd ff g d1)))) mo (.inr (5, [.int 0, .int (nI (g + 1)), .ref nm, .ref fr, .int (nI my), .ref hs, .ref va, .ref tp, .ref dn]))) hs = some (.inl (cJ, 24, .inr (.inl hf))) := gh_keep hq12_16 zhs_16 (by simp)
                have zva_17 : (gh_up (gh_up (gh_up (gh_up (gh_up (gh_up h mo (.inr (5, [.int 0, .int (nI g), .ref nm, .ref fr, .int (nI my), .ref hs, .ref va, .ref tp, .ref dn]))) nm (.inl (cI, 24, .inl (upd nf (3 * g) a1)))) nm (.inl (cI, 24, .inl (upd (upd nf (3 * g) a1) ((3 * g) + 1) b1)))) nm (.inl (cI, 24, .inl (upd (upd (upd nf (3 * g) a1) ((3 * g) + 1) b1) ((3 * g) + 2) c1)))) fr (.inl (cI, 8, .inl (upd ff g d1)))) mo (.inr (5, [.int 0, .int (nI (g + 1)), .ref nm, .ref fr, .int (nI my), .ref hs, .ref va, .ref tp, .ref dn]))) va = some (.inl (cJ, 8, .inr (.inl vf))) := gh_keep hq12_16 zva_16 (by simp)
                have ztp_17 : (gh_up (gh_up (gh_up (gh_up (gh_up (gh_up h mo (.inr (5, [.int 0, .int (nI g), .ref nm, .ref fr, .int (nI my), .ref hs, .ref va, .ref tp, .ref dn]))) nm (.inl (cI, 24, .inl (upd nf (3 * g) a1)))) nm (.inl (cI, 24, .inl (upd (upd nf (3 * g) a1) ((3 * g) + 1) b1)))) nm (.inl (cI, 24, .inl (upd (upd (upd nf (3 * g) a1) ((3 * g) + 1) b1) ((3 * g) + 2) c1)))) fr (.inl (cI, 8, .inl (upd ff g d1)))) mo (.inr (5, [.int 0, .int (nI (g + 1)), .ref nm, .ref fr, .int (nI my), .ref hs, .ref va, .ref tp, .ref dn]))) tp = some (.inl (cJ, 8, .inr (.inl tf))) := gh_keep hq12_16 ztp_16 (by simp)
                have zdn_17 : (gh_up (gh_up (gh_up (gh_up (gh_up (gh_up h mo (.inr (5, [.int 0, .int (nI g), .ref nm, .ref fr, .int (nI my), .ref hs, .ref va, .ref tp, .ref dn]))) nm (.inl (cI, 24, .inl (upd nf (3 * g) a1)))) nm (.inl (cI, 24, .inl (upd (upd nf (3 * g) a1) ((3 * g) + 1) b1)))) nm (.inl (cI, 24, .inl (upd (upd (upd nf (3 * g) a1) ((3 * g) + 1) b1) ((3 * g) + 2) c1)))) fr (.inl (cI, 8, .inl (upd ff g d1)))) mo (.inr (5, [.int 0, .int (nI (g + 1)), .ref nm, .ref fr, .int (nI my), .ref hs, .ref va, .ref tp, .ref dn]))) dn = some (.inl (cJ, 8, .inr (.inl df))) := gh_keep hq12_16 zdn_16 (by simp)
                have hq15_17 : (gh_up (gh_up (gh_up (gh_up (gh_up (gh_up h mo (.inr (5, [.int 0, .int (nI g), .ref nm, .ref fr, .int (nI my), .ref hs, .ref va, .ref tp, .ref dn]))) nm (.inl (cI, 24, .inl (upd nf (3 * g) a1)))) nm (.inl (cI, 24, .inl (upd (upd nf (3 * g) a1) ((3 * g) + 1) b1)))) nm (.inl (cI, 24, .inl (upd (upd (upd nf (3 * g) a1) ((3 * g) + 1) b1) ((3 * g) + 2) c1)))) fr (.inl (cI, 8, .inl (upd ff g d1)))) mo (.inr (5, [.int 0, .int (nI (g + 1)), .ref nm, .ref fr, .int (nI my), .ref hs, .ref va, .ref tp, .ref dn]))) nm = some (.inl (cI, 24, .inl (upd (upd (upd nf (3 * g) a1) ((3 * g) + 1) b1) ((3 * g) + 2) c1))) := gh_keep hq12_16 hq15_16 (by simp)
                have hq16_17 : (gh_up (gh_up (gh_up (gh_up (gh_up (gh_up h mo (.inr (5, [.int 0, .int (nI g), .ref nm, .ref fr, .int (nI my), .ref hs, .ref va, .ref tp, .ref dn]))) nm (.inl (cI, 24, .inl (upd nf (3 * g) a1)))) nm (.inl (cI, 24, .inl (upd (upd nf (3 * g) a1) ((3 * g) + 1) b1)))) nm (.inl (cI, 24, .inl (upd (upd (upd nf (3 * g) a1) ((3 * g) + 1) b1) ((3 * g) + 2) c1)))) fr (.inl (cI, 8, .inl (upd ff g d1)))) mo (.inr (5, [.int 0, .int (nI (g + 1)), .ref nm, .ref fr, .int (nI my), .ref hs, .ref va, .ref tp, .ref dn]))) fr = some (.inl (cI, 8, .inl (upd ff g d1))) := gh_keep hq12_16 hq16 (by simp)
                refine lv_aload_n hx hb d_Mo_plane_153 rfl (lv_at hl 1 rfl) ?_
                refine gh_get (ci := 5) hx hb htb in_Mo hown hK hG hq17 rfl 1 (by decide) (htb _ k_2_224) (fun _ h9 => h9) rfl d_Mo_plane_154 ?_
                refine lv_iconst (v := 1) hx hb d_Mo_plane_157 (by decide) ?_
                refine lv_isub hx hb d_Mo_plane_158 ?_
                rw [show nI (g + 1) - 1 = nI ((g + 1) - 1) from pk_sub (a := (g + 1)) (b := 1) (by omega)]
                exact gh_iret hx hb hr hlk rfl hG d_Mo_plane_159 (rB_0 (by simp [m_badP, hc6, hc15, hc24, hc34, hc42]) (rB_0 (decide_eq_false hc72) ⟨rfl, (wM_mk hq17 hq15_17 hq16_17 zhs_17 zva_17 ztp_17 zdn_17 zvt zvd ztd (by omega) (by omega)), (frM_up (frM_up (frM_up (frM_up (frM_up (frM_up zf0 zmo rfl) znm_12 rfl) hq13 rfl) hq14 rfl) zfr_15 rfl) hq12_16 rfl)⟩))
              · skip
                replace hc72 : g = 8 := (nc_eq (a := g) (b := 8) (by omega) (by omega) rfl rfl).mp hc72
                refine lv_iconst (v := 2) hx hb d_Mo_plane_75 (by decide) ?_
                refine lv_goto (tgt := 80) hx hb d_Mo_plane_76 (by decide) ?_
                refine gh_put (ci := 5) (ty := .int) hx hb htb in_Mo t_Mo ty_Mo nm_Mo hown hK hG zmo rfl 0 (by decide) (htb _ k_2_223) (fun _ h9 => h9) rfl (by decide +kernel) rfl rfl (Nat.le_of_ble_eq_true rfl) d_Mo_plane_80 (fun H l9 hG => ?_)
                have hq18 : (gh_up h mo (.inr (5, [.int 2, .int (nI g), .ref nm, .ref fr, .int (nI my), .ref hs, .ref va, .ref tp, .ref dn]))) mo = some (.inr (5, [.int 2, .int (nI g), .ref nm, .ref fr, .int (nI my), .ref hs, .ref va, .ref tp, .ref dn])) := gh_self _ _ _
                replace hG : gh_P D vC b0 (gh_up h mo (.inr (5, [.int 2, .int (nI g), .ref nm, .ref fr, .int (nI my), .ref hs, .ref va, .ref tp, .ref dn]))) s.heap _ _ := hG
                have znm_18 : (gh_up h mo (.inr (5, [.int 2, .int (nI g), .ref nm, .ref fr, .int (nI my), .ref hs, .ref va, .ref tp, .ref dn]))) nm = some (.inl (cI, 24, .inl nf)) := gh_keep zmo znm (by simp)
                have zfr_18 : (gh_up h mo (.inr (5, [.int 2, .int (nI g), .ref nm, .ref fr, .int (nI my), .ref hs, .ref va, .ref tp, .ref dn]))) fr = some (.inl (cI, 8, .inl ff)) := gh_keep zmo zfr (by simp)
                have zhs_18 : (gh_up h mo (.inr (5, [.int 2, .int (nI g), .ref nm, .ref fr, .int (nI my), .ref hs, .ref va, .ref tp, .ref dn]))) hs = some (.inl (cJ, 24, .inr (.inl hf))) := gh_keep zmo zhs (by simp)
                have zva_18 : (gh_up h mo (.inr (5, [.int 2, .int (nI g), .ref nm, .ref fr, .int (nI my), .ref hs, .ref va, .ref tp, .ref dn]))) va = some (.inl (cJ, 8, .inr (.inl vf))) := gh_keep zmo zva (by simp)
                have ztp_18 : (gh_up h mo (.inr (5, [.int 2, .int (nI g), .ref nm, .ref fr, .int (nI my), .ref hs, .ref va, .ref tp, .ref dn]))) tp = some (.inl (cJ, 8, .inr (.inl tf))) := gh_keep zmo ztp (by simp)
                have zdn_18 : (gh_up h mo (.inr (5, [.int 2, .int (nI g), .ref nm, .ref fr, .int (nI my), .ref hs, .ref va, .ref tp, .ref dn]))) dn = some (.inl (cJ, 8, .inr (.inl df))) := gh_keep zmo zdn (by simp)
                refine lv_aload_n hx hb d_Mo_plane_83 rfl (lv_at hl 1 rfl) ?_
                refine gh_get (ci := 5) hx hb htb in_Mo hown hK hG hq18 rfl 0 (by decide) (htb _ k_2_223) (fun _ h9 => h9) rfl d_Mo_plane_84 ?_
                refine lv_if_le (tgt := 92) hx hb d_Mo_plane_87 (by decide) (fun hc87 => absurd hc87 (by decide)) (fun hc87 => ?_)
                refine lv_iconst (v := 0) hx hb d_Mo_plane_90 (by decide) ?_
                exact gh_iret hx hb hr hlk rfl hG d_Mo_plane_91 (rB_0 (by simp [m_badP, hc6, hc15, hc24, hc34, hc42]) (rB_1 (decide_eq_true hc72) ⟨rfl, (wM_mk hq18 znm_18 zfr_18 zhs_18 zva_18 ztp_18 zdn_18 zvt zvd ztd (by omega) (by omega)), (frM_up zf0 zmo rfl)⟩))
            · skip
              refine lv_iload_n hx hb d_Mo_plane_45 rfl (lv_at hl 3 rfl) ?_
              refine lv_if_eq (tgt := 53) hx hb d_Mo_plane_46 (by decide) (fun hc46 => ?_) (fun hc46 => ?_)
              · skip
                refine lv_iconst (v := 0) hx hb d_Mo_plane_53 (by decide) ?_
                refine lv_istore (lv' := [(5, .int 0), (0, .ref mo), (1, .int a1), (2, .int b1), (3, .int c1), (4, .int d1)]) hx hb d_Mo_plane_54 hl (by decide) rfl (fun ls hl => ?_)
                refine lv_aload_n hx hb d_Mo_plane_56 rfl (lv_at hl 1 rfl) ?_
                refine lv_iload hx hb d_Mo_plane_57 (lv_at hl 0 rfl) ?_
                refine lv_if_ne (tgt := 66) hx hb d_Mo_plane_59 (by decide) (fun hc59 => absurd hc59 (by decide)) (fun hc59 => ?_)
                refine lv_iconst (v := 1) hx hb d_Mo_plane_62 (by decide) ?_
                refine lv_goto (tgt := 80) hx hb d_Mo_plane_63 (by decide) ?_
                refine gh_put (ci := 5) (ty := .int) hx hb htb in_Mo t_Mo ty_Mo nm_Mo hown hK hG zmo rfl 0 (by decide) (htb _ k_2_223) (fun _ h9 => h9) rfl (by decide +kernel) rfl rfl (Nat.le_of_ble_eq_true rfl) d_Mo_plane_80 (fun H l9 hG => ?_)
                have hq19 : (gh_up h mo (.inr (5, [.int 1, .int (nI g), .ref nm, .ref fr, .int (nI my), .ref hs, .ref va, .ref tp, .ref dn]))) mo = some (.inr (5, [.int 1, .int (nI g), .ref nm, .ref fr, .int (nI my), .ref hs, .ref va, .ref tp, .ref dn])) := gh_self _ _ _
                replace hG : gh_P D vC b0 (gh_up h mo (.inr (5, [.int 1, .int (nI g), .ref nm, .ref fr, .int (nI my), .ref hs, .ref va, .ref tp, .ref dn]))) s.heap _ _ := hG
                have znm_19 : (gh_up h mo (.inr (5, [.int 1, .int (nI g), .ref nm, .ref fr, .int (nI my), .ref hs, .ref va, .ref tp, .ref dn]))) nm = some (.inl (cI, 24, .inl nf)) := gh_keep zmo znm (by simp)
                have zfr_19 : (gh_up h mo (.inr (5, [.int 1, .int (nI g), .ref nm, .ref fr, .int (nI my), .ref hs, .ref va, .ref tp, .ref dn]))) fr = some (.inl (cI, 8, .inl ff)) := gh_keep zmo zfr (by simp)
                have zhs_19 : (gh_up h mo (.inr (5, [.int 1, .int (nI g), .ref nm, .ref fr, .int (nI my), .ref hs, .ref va, .ref tp, .ref dn]))) hs = some (.inl (cJ, 24, .inr (.inl hf))) := gh_keep zmo zhs (by simp)
                have zva_19 : (gh_up h mo (.inr (5, [.int 1, .int (nI g), .ref nm, .ref fr, .int (nI my), .ref hs, .ref va, .ref tp, .ref dn]))) va = some (.inl (cJ, 8, .inr (.inl vf))) := gh_keep zmo zva (by simp)
                have ztp_19 : (gh_up h mo (.inr (5, [.int 1, .int (nI g), .ref nm, .ref fr, .int (nI my), .ref hs, .ref va, .ref tp, .ref dn]))) tp = some (.inl (cJ, 8, .inr (.inl tf))) := gh_keep zmo ztp (by simp)
                have zdn_19 : (gh_up h mo (.inr (5, [.int 1, .int (nI g), .ref nm, .ref fr, .int (nI my), .ref hs, .ref va, .ref tp, .ref dn]))) dn = some (.inl (cJ, 8, .inr (.inl df))) := gh_keep zmo zdn (by simp)
                refine lv_aload_n hx hb d_Mo_plane_83 rfl (lv_at hl 1 rfl) ?_
                refine gh_get (ci := 5) hx hb htb in_Mo hown hK hG hq19 rfl 0 (by decide) (htb _ k_2_223) (fun _ h9 => h9) rfl d_Mo_plane_84 ?_
                refine lv_if_le (tgt := 92) hx hb d_Mo_plane_87 (by decide) (fun hc87 => absurd hc87 (by decide)) (fun hc87 => ?_)
                refine lv_iconst (v := 0) hx hb d_Mo_plane_90 (by decide) ?_
                exact gh_iret hx hb hr hlk rfl hG d_Mo_plane_91 (rB_1 (by simp [m_badP, hc38, hc42, hc46]) ⟨rfl, (wM_mk hq19 znm_19 zfr_19 zhs_19 zva_19 ztp_19 zdn_19 zvt zvd ztd (by omega) (by omega)), (frM_up zf0 zmo rfl)⟩)
              · skip
                refine lv_iconst (v := 1) hx hb d_Mo_plane_49 (by decide) ?_
                refine lv_goto (tgt := 54) hx hb d_Mo_plane_50 (by decide) ?_
                refine lv_istore (lv' := [(5, .int 1), (0, .ref mo), (1, .int a1), (2, .int b1), (3, .int c1), (4, .int d1)]) hx hb d_Mo_plane_54 hl (by decide) rfl (fun ls hl => ?_)
                refine lv_aload_n hx hb d_Mo_plane_56 rfl (lv_at hl 1 rfl) ?_
                refine lv_iload hx hb d_Mo_plane_57 (lv_at hl 0 rfl) ?_
                refine lv_if_ne (tgt := 66) hx hb d_Mo_plane_59 (by decide) (fun hc59 => ?_) (fun hc59 => absurd hc59 (by decide))
                refine lv_aload_n hx hb d_Mo_plane_66 rfl (lv_at hl 1 rfl) ?_
                refine gh_get (ci := 5) hx hb htb in_Mo hown hK hG zmo rfl 1 (by decide) (htb _ k_2_224) (fun _ h9 => h9) rfl d_Mo_plane_67 ?_
                refine lv_bipush (v := 8) hx hb d_Mo_plane_70 (by decide) ?_
                refine lv_icmp_ne (tgt := 79) hx hb d_Mo_plane_72 (by decide) (fun hc72 => ?_) (fun hc72 => ?_)
                · skip
                  replace hc72 : ¬ g = 8 := fun q9 => hc72 ((nc_eq (a := g) (b := 8) (by omega) (by omega) rfl rfl).mpr q9)
                  refine lv_iconst (v := 0) hx hb d_Mo_plane_79 (by decide) ?_
                  refine gh_put (ci := 5) (ty := .int) hx hb htb in_Mo t_Mo ty_Mo nm_Mo hown hK hG zmo rfl 0 (by decide) (htb _ k_2_223) (fun _ h9 => h9) rfl (by decide +kernel) rfl rfl (Nat.le_of_ble_eq_true rfl) d_Mo_plane_80 (fun H l9 hG => ?_)
                  have hq20 : (gh_up h mo (.inr (5, [.int 0, .int (nI g), .ref nm, .ref fr, .int (nI my), .ref hs, .ref va, .ref tp, .ref dn]))) mo = some (.inr (5, [.int 0, .int (nI g), .ref nm, .ref fr, .int (nI my), .ref hs, .ref va, .ref tp, .ref dn])) := gh_self _ _ _
                  replace hG : gh_P D vC b0 (gh_up h mo (.inr (5, [.int 0, .int (nI g), .ref nm, .ref fr, .int (nI my), .ref hs, .ref va, .ref tp, .ref dn]))) s.heap _ _ := hG
                  have znm_20 : (gh_up h mo (.inr (5, [.int 0, .int (nI g), .ref nm, .ref fr, .int (nI my), .ref hs, .ref va, .ref tp, .ref dn]))) nm = some (.inl (cI, 24, .inl nf)) := gh_keep zmo znm (by simp)
                  have zfr_20 : (gh_up h mo (.inr (5, [.int 0, .int (nI g), .ref nm, .ref fr, .int (nI my), .ref hs, .ref va, .ref tp, .ref dn]))) fr = some (.inl (cI, 8, .inl ff)) := gh_keep zmo zfr (by simp)
                  have zhs_20 : (gh_up h mo (.inr (5, [.int 0, .int (nI g), .ref nm, .ref fr, .int (nI my), .ref hs, .ref va, .ref tp, .ref dn]))) hs = some (.inl (cJ, 24, .inr (.inl hf))) := gh_keep zmo zhs (by simp)
                  have zva_20 : (gh_up h mo (.inr (5, [.int 0, .int (nI g), .ref nm, .ref fr, .int (nI my), .ref hs, .ref va, .ref tp, .ref dn]))) va = some (.inl (cJ, 8, .inr (.inl vf))) := gh_keep zmo zva (by simp)
                  have ztp_20 : (gh_up h mo (.inr (5, [.int 0, .int (nI g), .ref nm, .ref fr, .int (nI my), .ref hs, .ref va, .ref tp, .ref dn]))) tp = some (.inl (cJ, 8, .inr (.inl tf))) := gh_keep zmo ztp (by simp)
                  have zdn_20 : (gh_up h mo (.inr (5, [.int 0, .int (nI g), .ref nm, .ref fr, .int (nI my), .ref hs, .ref va, .ref tp, .ref dn]))) dn = some (.inl (cJ, 8, .inr (.inl df))) := gh_keep zmo zdn (by simp)
                  refine lv_aload_n hx hb d_Mo_plane_83 rfl (lv_at hl 1 rfl) ?_
                  refine gh_get (ci := 5) hx hb htb in_Mo hown hK hG hq20 rfl 0 (by decide) (htb _ k_2_223) (fun _ h9 => h9) rfl d_Mo_plane_84 ?_
                  refine lv_if_le (tgt := 92) hx hb d_Mo_plane_87 (by decide) (fun hc87 => ?_) (fun hc87 => absurd hc87 (by decide))
                  refine lv_aload_n hx hb d_Mo_plane_92 rfl (lv_at hl 1 rfl) ?_
                  refine gh_get (ci := 5) hx hb htb in_Mo hown hK hG hq20 rfl 2 (by decide) (htb _ k_2_225) (fun _ h9 => h9) rfl d_Mo_plane_93 ?_
                  refine lv_iconst (v := 3) hx hb d_Mo_plane_96 (by decide) ?_
                  refine lv_aload_n hx hb d_Mo_plane_97 rfl (lv_at hl 1 rfl) ?_
                  refine gh_get (ci := 5) hx hb htb in_Mo hown hK hG hq20 rfl 1 (by decide) (htb _ k_2_224) (fun _ h9 => h9) rfl d_Mo_plane_98 ?_
                  refine lv_imul hx hb d_Mo_plane_101 ?_
                  rw [show 3 * (nI g) = nI (3 * g) from nm_mul 3 g]
                  refine lv_iload_n hx hb d_Mo_plane_102 rfl (lv_at hl 2 rfl) ?_
                  refine gh_iast hx hb hK hG 0 znm_20 rfl (vp_in_nI (by omega) (by decide)) d_Mo_plane_103 (fun H l9 hG => ?_)
                  rw [nI_clamp (by omega)] at hG
                  have hq21 : (gh_up (gh_up h mo (.inr (5, [.int 0, .int (nI g), .ref nm, .ref fr, .int (nI my), .ref hs, .ref va, .ref tp, .ref dn]))) nm (.inl (cI, 24, .inl (upd nf (3 * g) a1)))) nm = some (.inl (cI, 24, .inl (upd nf (3 * g) a1))) := gh_self _ _ _
                  replace hG : gh_P D vC b0 (gh_up (gh_up h mo (.inr (5, [.int 0, .int (nI g), .ref nm, .ref fr, .int (nI my), .ref hs, .ref va, .ref tp, .ref dn]))) nm (.inl (cI, 24, .inl (upd nf (3 * g) a1)))) s.heap _ _ := hG
                  have zfr_21 : (gh_up (gh_up h mo (.inr (5, [.int 0, .int (nI g), .ref nm, .ref fr, .int (nI my), .ref hs, .ref va, .ref tp, .ref dn]))) nm (.inl (cI, 24, .inl (upd nf (3 * g) a1)))) fr = some (.inl (cI, 8, .inl ff)) := gh_keep znm_20 zfr_20 (by simp)
                  have zhs_21 : (gh_up (gh_up h mo (.inr (5, [.int 0, .int (nI g), .ref nm, .ref fr, .int (nI my), .ref hs, .ref va, .ref tp, .ref dn]))) nm (.inl (cI, 24, .inl (upd nf (3 * g) a1)))) hs = some (.inl (cJ, 24, .inr (.inl hf))) := gh_keep znm_20 zhs_20 (by simp)
                  have zva_21 : (gh_up (gh_up h mo (.inr (5, [.int 0, .int (nI g), .ref nm, .ref fr, .int (nI my), .ref hs, .ref va, .ref tp, .ref dn]))) nm (.inl (cI, 24, .inl (upd nf (3 * g) a1)))) va = some (.inl (cJ, 8, .inr (.inl vf))) := gh_keep znm_20 zva_20 (by simp)
                  have ztp_21 : (gh_up (gh_up h mo (.inr (5, [.int 0, .int (nI g), .ref nm, .ref fr, .int (nI my), .ref hs, .ref va, .ref tp, .ref dn]))) nm (.inl (cI, 24, .inl (upd nf (3 * g) a1)))) tp = some (.inl (cJ, 8, .inr (.inl tf))) := gh_keep znm_20 ztp_20 (by simp)
                  have zdn_21 : (gh_up (gh_up h mo (.inr (5, [.int 0, .int (nI g), .ref nm, .ref fr, .int (nI my), .ref hs, .ref va, .ref tp, .ref dn]))) nm (.inl (cI, 24, .inl (upd nf (3 * g) a1)))) dn = some (.inl (cJ, 8, .inr (.inl df))) := gh_keep znm_20 zdn_20 (by simp)
                  have hq20_21 : (gh_up (gh_up h mo (.inr (5, [.int 0, .int (nI g), .ref nm, .ref fr, .int (nI my), .ref hs, .ref va, .ref tp, .ref dn]))) nm (.inl (cI, 24, .inl (upd nf (3 * g) a1)))) mo = some (.inr (5, [.int 0, .int (nI g), .ref nm, .ref fr, .int (nI my), .ref hs, .ref va, .ref tp, .ref dn])) := gh_keep znm_20 hq20 (by simp)
                  refine lv_aload_n hx hb d_Mo_plane_104 rfl (lv_at hl 1 rfl) ?_
                  refine gh_get (ci := 5) hx hb htb in_Mo hown hK hG hq20_21 rfl 2 (by decide) (htb _ k_2_225) (fun _ h9 => h9) rfl d_Mo_plane_105 ?_
                  refine lv_iconst (v := 3) hx hb d_Mo_plane_108 (by decide) ?_
                  refine lv_aload_n hx hb d_Mo_plane_109 rfl (lv_at hl 1 rfl) ?_
                  refine gh_get (ci := 5) hx hb htb in_Mo hown hK hG hq20_21 rfl 1 (by decide) (htb _ k_2_224) (fun _ h9 => h9) rfl d_Mo_plane_110 ?_
                  refine lv_imul hx hb d_Mo_plane_113 ?_
                  rw [show 3 * (nI g) = nI (3 * g) from nm_mul 3 g]
                  refine lv_iconst (v := 1) hx hb d_Mo_plane_114 (by decide) ?_
                  refine lv_iadd hx hb d_Mo_plane_115 ?_
                  rw [show nI (3 * g) + 1 = nI ((3 * g) + 1) from nI_1 (3 * g)]
                  refine lv_iload_n hx hb d_Mo_plane_116 rfl (lv_at hl 3 rfl) ?_
                  refine gh_iast hx hb hK hG 0 hq21 rfl (vp_in_nI (by omega) (by decide)) d_Mo_plane_117 (fun H l9 hG => ?_)
                  rw [nI_clamp (by omega)] at hG
                  have hq22 : (gh_up (gh_up (gh_up h mo (.inr (5, [.int 0, .int (nI g), .ref nm, .ref fr, .int (nI my), .ref hs, .ref va, .ref tp, .ref dn]))) nm (.inl (cI, 24, .inl (upd nf (3 * g) a1)))) nm (.inl (cI, 24, .inl (upd (upd nf (3 * g) a1) ((3 * g) + 1) b1)))) nm = some (.inl (cI, 24, .inl (upd (upd nf (3 * g) a1) ((3 * g) + 1) b1))) := gh_self _ _ _
                  replace hG : gh_P D vC b0 (gh_up (gh_up (gh_up h mo (.inr (5, [.int 0, .int (nI g), .ref nm, .ref fr, .int (nI my), .ref hs, .ref va, .ref tp, .ref dn]))) nm (.inl (cI, 24, .inl (upd nf (3 * g) a1)))) nm (.inl (cI, 24, .inl (upd (upd nf (3 * g) a1) ((3 * g) + 1) b1)))) s.heap _ _ := hG
                  have zfr_22 : (gh_up (gh_up (gh_up h mo (.inr (5, [.int 0, .int (nI g), .ref nm, .ref fr, .int (nI my), .ref hs, .ref va, .ref tp, .ref dn]))) nm (.inl (cI, 24, .inl (upd nf (3 * g) a1)))) nm (.inl (cI, 24, .inl (upd (upd nf (3 * g) a1) ((3 * g) + 1) b1)))) fr = some (.inl (cI, 8, .inl ff)) := gh_keep hq21 zfr_21 (by simp)
                  have zhs_22 : (gh_up (gh_up (gh_up h mo (.inr (5, [.int 0, .int (nI g), .ref nm, .ref fr, .int (nI my), .ref hs, .ref va, .ref tp, .ref dn]))) nm (.inl (cI, 24, .inl (upd nf (3 * g) a1)))) nm (.inl (cI, 24, .inl (upd (upd nf (3 * g) a1) ((3 * g) + 1) b1)))) hs = some (.inl (cJ, 24, .inr (.inl hf))) := gh_keep hq21 zhs_21 (by simp)
                  have zva_22 : (gh_up (gh_up (gh_up h mo (.inr (5, [.int 0, .int (nI g), .ref nm, .ref fr, .int (nI my), .ref hs, .ref va, .ref tp, .ref dn]))) nm (.inl (cI, 24, .inl (upd nf (3 * g) a1)))) nm (.inl (cI, 24, .inl (upd (upd nf (3 * g) a1) ((3 * g) + 1) b1)))) va = some (.inl (cJ, 8, .inr (.inl vf))) := gh_keep hq21 zva_21 (by simp)
                  have ztp_22 : (gh_up (gh_up (gh_up h mo (.inr (5, [.int 0, .int (nI g), .ref nm, .ref fr, .int (nI my), .ref hs, .ref va, .ref tp, .ref dn]))) nm (.inl (cI, 24, .inl (upd nf (3 * g) a1)))) nm (.inl (cI, 24, .inl (upd (upd nf (3 * g) a1) ((3 * g) + 1) b1)))) tp = some (.inl (cJ, 8, .inr (.inl tf))) := gh_keep hq21 ztp_21 (by simp)
                  have zdn_22 : (gh_up (gh_up (gh_up h mo (.inr (5, [.int 0, .int (nI g), .ref nm, .ref fr, .int (nI my), .ref hs, .ref va, .ref tp, .ref dn]))) nm (.inl (cI, 24, .inl (upd nf (3 * g) a1)))) nm (.inl (cI, 24, .inl (upd (upd nf (3 * g) a1) ((3 * g) + 1) b1)))) dn = some (.inl (cJ, 8, .inr (.inl df))) := gh_keep hq21 zdn_21 (by simp)
                  have hq20_22 : (gh_up (gh_up (gh_up h mo (.inr (5, [.int 0, .int (nI g), .ref nm, .ref fr, .int (nI my), .ref hs, .ref va, .ref tp, .ref dn]))) nm (.inl (cI, 24, .inl (upd nf (3 * g) a1)))) nm (.inl (cI, 24, .inl (upd (upd nf (3 * g) a1) ((3 * g) + 1) b1)))) mo = some (.inr (5, [.int 0, .int (nI g), .ref nm, .ref fr, .int (nI my), .ref hs, .ref va, .ref tp, .ref dn])) := gh_keep hq21 hq20_21 (by simp)
                  refine lv_aload_n hx hb d_Mo_plane_118 rfl (lv_at hl 1 rfl) ?_
                  refine gh_get (ci := 5) hx hb htb in_Mo hown hK hG hq20_22 rfl 2 (by decide) (htb _ k_2_225) (fun _ h9 => h9) rfl d_Mo_plane_119 ?_
                  refine lv_iconst (v := 3) hx hb d_Mo_plane_122 (by decide) ?_
                  refine lv_aload_n hx hb d_Mo_plane_123 rfl (lv_at hl 1 rfl) ?_
                  refine gh_get (ci := 5) hx hb htb in_Mo hown hK hG hq20_22 rfl 1 (by decide) (htb _ k_2_224) (fun _ h9 => h9) rfl d_Mo_plane_124 ?_
                  refine lv_imul hx hb d_Mo_plane_127 ?_
                  rw [show 3 * (nI g) = nI (3 * g) from nm_mul 3 g]
                  refine lv_iconst (v := 2) hx hb d_Mo_plane_128 (by decide) ?_
                  refine lv_iadd hx hb d_Mo_plane_129 ?_
                  rw [show (nI (3 * g)) + 2 = nI ((3 * g) + 2) from nI_add (3 * g) 2]
                  refine lv_iload_n hx hb d_Mo_plane_130 rfl (lv_at hl 4 rfl) ?_
                  refine gh_iast hx hb hK hG 0 hq22 rfl (vp_in_nI (by omega) (by decide)) d_Mo_plane_131 (fun H l9 hG => ?_)
                  rw [nI_clamp (by omega)] at hG
                  have hq23 : (gh_up (gh_up (gh_up (gh_up h mo (.inr (5, [.int 0, .int (nI g), .ref nm, .ref fr, .int (nI my), .ref hs, .ref va, .ref tp, .ref dn]))) nm (.inl (cI, 24, .inl (upd nf (3 * g) a1)))) nm (.inl (cI, 24, .inl (upd (upd nf (3 * g) a1) ((3 * g) + 1) b1)))) nm (.inl (cI, 24, .inl (upd (upd (upd nf (3 * g) a1) ((3 * g) + 1) b1) ((3 * g) + 2) c1)))) nm = some (.inl (cI, 24, .inl (upd (upd (upd nf (3 * g) a1) ((3 * g) + 1) b1) ((3 * g) + 2) c1))) := gh_self _ _ _
                  replace hG : gh_P D vC b0 (gh_up (gh_up (gh_up (gh_up h mo (.inr (5, [.int 0, .int (nI g), .ref nm, .ref fr, .int (nI my), .ref hs, .ref va, .ref tp, .ref dn]))) nm (.inl (cI, 24, .inl (upd nf (3 * g) a1)))) nm (.inl (cI, 24, .inl (upd (upd nf (3 * g) a1) ((3 * g) + 1) b1)))) nm (.inl (cI, 24, .inl (upd (upd (upd nf (3 * g) a1) ((3 * g) + 1) b1) ((3 * g) + 2) c1)))) s.heap _ _ := hG
                  have zfr_23 : (gh_up (gh_up (gh_up (gh_up h mo (.inr (5, [.int 0, .int (nI g), .ref nm, .ref fr, .int (nI my), .ref hs, .ref va, .ref tp, .ref dn]))) nm (.inl (cI, 24, .inl (upd nf (3 * g) a1)))) nm (.inl (cI, 24, .inl (upd (upd nf (3 * g) a1) ((3 * g) + 1) b1)))) nm (.inl (cI, 24, .inl (upd (upd (upd nf (3 * g) a1) ((3 * g) + 1) b1) ((3 * g) + 2) c1)))) fr = some (.inl (cI, 8, .inl ff)) := gh_keep hq22 zfr_22 (by simp)
                  have zhs_23 : (gh_up (gh_up (gh_up (gh_up h mo (.inr (5, [.int 0, .int (nI g), .ref nm, .ref fr, .int (nI my), .ref hs, .ref va, .ref tp, .ref dn]))) nm (.inl (cI, 24, .inl (upd nf (3 * g) a1)))) nm (.inl (cI, 24, .inl (upd (upd nf (3 * g) a1) ((3 * g) + 1) b1)))) nm (.inl (cI, 24, .inl (upd (upd (upd nf (3 * g) a1) ((3 * g) + 1) b1) ((3 * g) + 2) c1)))) hs = some (.inl (cJ, 24, .inr (.inl hf))) := gh_keep hq22 zhs_22 (by simp)
                  have zva_23 : (gh_up (gh_up (gh_up (gh_up h mo (.inr (5, [.int 0, .int (nI g), .ref nm, .ref fr, .int (nI my), .ref hs, .ref va, .ref tp, .ref dn]))) nm (.inl (cI, 24, .inl (upd nf (3 * g) a1)))) nm (.inl (cI, 24, .inl (upd (upd nf (3 * g) a1) ((3 * g) + 1) b1)))) nm (.inl (cI, 24, .inl (upd (upd (upd nf (3 * g) a1) ((3 * g) + 1) b1) ((3 * g) + 2) c1)))) va = some (.inl (cJ, 8, .inr (.inl vf))) := gh_keep hq22 zva_22 (by simp)
                  have ztp_23 : (gh_up (gh_up (gh_up (gh_up h mo (.inr (5, [.int 0, .int (nI g), .ref nm, .ref fr, .int (nI my), .ref hs, .ref va, .ref tp, .ref dn]))) nm (.inl (cI, 24, .inl (upd nf (3 * g) a1)))) nm (.inl (cI, 24, .inl (upd (upd nf (3 * g) a1) ((3 * g) + 1) b1)))) nm (.inl (cI, 24, .inl (upd (upd (upd nf (3 * g) a1) ((3 * g) + 1) b1) ((3 * g) + 2) c1)))) tp = some (.inl (cJ, 8, .inr (.inl tf))) := gh_keep hq22 ztp_22 (by simp)
                  have zdn_23 : (gh_up (gh_up (gh_up (gh_up h mo (.inr (5, [.int 0, .int (nI g), .ref nm, .ref fr, .int (nI my), .ref hs, .ref va, .ref tp, .ref dn]))) nm (.inl (cI, 24, .inl (upd nf (3 * g) a1)))) nm (.inl (cI, 24, .inl (upd (upd nf (3 * g) a1) ((3 * g) + 1) b1)))) nm (.inl (cI, 24, .inl (upd (upd (upd nf (3 * g) a1) ((3 * g) + 1) b1) ((3 * g) + 2) c1)))) dn = some (.inl (cJ, 8, .inr (.inl df))) := gh_keep hq22 zdn_22 (by simp)
                  have hq20_23 : (gh_up (gh_up (gh_up (gh_up h mo (.inr (5, [.int 0, .int (nI g), .ref nm, .ref fr, .int (nI my), .ref hs, .ref va, .ref tp, .ref dn]))) nm (.inl (cI, 24, .inl (upd nf (3 * g) a1)))) nm (.inl (cI, 24, .inl (upd (upd nf (3 * g) a1) ((3 * g) + 1) b1)))) nm (.inl (cI, 24, .inl (upd (upd (upd nf (3 * g) a1) ((3 * g) + 1) b1) ((3 * g) + 2) c1)))) mo = some (.inr (5, [.int 0, .int (nI g), .ref nm, .ref fr, .int (nI my), .ref hs, .ref va, .ref tp, .ref dn])) := gh_keep hq22 hq20_22 (by simp)
                  refine lv_aload_n hx hb d_Mo_plane_132 rfl (lv_at hl 1 rfl) ?_
                  refine gh_get (ci := 5) hx hb htb in_Mo hown hK hG hq20_23 rfl 3 (by decide) (htb _ k_2_226) (fun _ h9 => h9) rfl d_Mo_plane_133 ?_
                  refine lv_aload_n hx hb d_Mo_plane_136 rfl (lv_at hl 1 rfl) ?_
                  refine gh_get (ci := 5) hx hb htb in_Mo hown hK hG hq20_23 rfl 1 (by decide) (htb _ k_2_224) (fun _ h9 => h9) rfl d_Mo_plane_137 ?_
                  refine lv_iload hx hb d_Mo_plane_140 (lv_at hl 5 rfl) ?_
                  refine gh_iast hx hb hK hG 0 zfr_23 rfl (vp_in_nI (by omega) (by decide)) d_Mo_plane_142 (fun H l9 hG => ?_)
                  rw [nI_clamp (by omega)] at hG
                  have hq24 : (gh_up (gh_up (gh_up (gh_up (gh_up h mo (.inr (5, [.int 0, .int (nI g), .ref nm, .ref fr, .int (nI my), .ref hs, .ref va, .ref tp, .ref dn]))) nm (.inl (cI, 24, .inl (upd nf (3 * g) a1)))) nm (.inl (cI, 24, .inl (upd (upd nf (3 * g) a1) ((3 * g) + 1) b1)))) nm (.inl (cI, 24, .inl (upd (upd (upd nf (3 * g) a1) ((3 * g) + 1) b1) ((3 * g) + 2) c1)))) fr (.inl (cI, 8, .inl (upd ff g d1)))) fr = some (.inl (cI, 8, .inl (upd ff g d1))) := gh_self _ _ _
                  replace hG : gh_P D vC b0 (gh_up (gh_up (gh_up (gh_up (gh_up h mo (.inr (5, [.int 0, .int (nI g), .ref nm, .ref fr, .int (nI my), .ref hs, .ref va, .ref tp, .ref dn]))) nm (.inl (cI, 24, .inl (upd nf (3 * g) a1)))) nm (.inl (cI, 24, .inl (upd (upd nf (3 * g) a1) ((3 * g) + 1) b1)))) nm (.inl (cI, 24, .inl (upd (upd (upd nf (3 * g) a1) ((3 * g) + 1) b1) ((3 * g) + 2) c1)))) fr (.inl (cI, 8, .inl (upd ff g d1)))) s.heap _ _ := hG
                  have zhs_24 : (gh_up (gh_up (gh_up (gh_up (gh_up h mo (.inr (5, [.int 0, .int (nI g), .ref nm, .ref fr, .int (nI my), .ref hs, .ref va, .ref tp, .ref dn]))) nm (.inl (cI, 24, .inl (upd nf (3 * g) a1)))) nm (.inl (cI, 24, .inl (upd (upd nf (3 * g) a1) ((3 * g) + 1) b1)))) nm (.inl (cI, 24, .inl (upd (upd (upd nf (3 * g) a1) ((3 * g) + 1) b1) ((3 * g) + 2) c1)))) fr (.inl (cI, 8, .inl (upd ff g d1)))) hs = some (.inl (cJ, 24, .inr (.inl hf))) := gh_keep zfr_23 zhs_23 (by simp)
                  have zva_24 : (gh_up (gh_up (gh_up (gh_up (gh_up h mo (.inr (5, [.int 0, .int (nI g), .ref nm, .ref fr, .int (nI my), .ref hs, .ref va, .ref tp, .ref dn]))) nm (.inl (cI, 24, .inl (upd nf (3 * g) a1)))) nm (.inl (cI, 24, .inl (upd (upd nf (3 * g) a1) ((3 * g) + 1) b1)))) nm (.inl (cI, 24, .inl (upd (upd (upd nf (3 * g) a1) ((3 * g) + 1) b1) ((3 * g) + 2) c1)))) fr (.inl (cI, 8, .inl (upd ff g d1)))) va = some (.inl (cJ, 8, .inr (.inl vf))) := gh_keep zfr_23 zva_23 (by simp)
                  have ztp_24 : (gh_up (gh_up (gh_up (gh_up (gh_up h mo (.inr (5, [.int 0, .int (nI g), .ref nm, .ref fr, .int (nI my), .ref hs, .ref va, .ref tp, .ref dn]))) nm (.inl (cI, 24, .inl (upd nf (3 * g) a1)))) nm (.inl (cI, 24, .inl (upd (upd nf (3 * g) a1) ((3 * g) + 1) b1)))) nm (.inl (cI, 24, .inl (upd (upd (upd nf (3 * g) a1) ((3 * g) + 1) b1) ((3 * g) + 2) c1)))) fr (.inl (cI, 8, .inl (upd ff g d1)))) tp = some (.inl (cJ, 8, .inr (.inl tf))) := gh_keep zfr_23 ztp_23 (by simp)
                  have zdn_24 : (gh_up (gh_up (gh_up (gh_up (gh_up h mo (.inr (5, [.int 0, .int (nI g), .ref nm, .ref fr, .int (nI my), .ref hs, .ref va, .ref tp, .ref dn]))) nm (.inl (cI, 24, .inl (upd nf (3 * g) a1)))) nm (.inl (cI, 24, .inl (upd (upd nf (3 * g) a1) ((3 * g) + 1) b1)))) nm (.inl (cI, 24, .inl (upd (upd (upd nf (3 * g) a1) ((3 * g) + 1) b1) ((3 * g) + 2) c1)))) fr (.inl (cI, 8, .inl (upd ff g d1)))) dn = some (.inl (cJ, 8, .inr (.inl df))) := gh_keep zfr_23 zdn_23 (by simp)
                  have hq20_24 : (gh_up (gh_up (gh_up (gh_up (gh_up h mo (.inr (5, [.int 0, .int (nI g), .ref nm, .ref fr, .int (nI my), .ref hs, .ref va, .ref tp, .ref dn]))) nm (.inl (cI, 24, .inl (upd nf (3 * g) a1)))) nm (.inl (cI, 24, .inl (upd (upd nf (3 * g) a1) ((3 * g) + 1) b1)))) nm (.inl (cI, 24, .inl (upd (upd (upd nf (3 * g) a1) ((3 * g) + 1) b1) ((3 * g) + 2) c1)))) fr (.inl (cI, 8, .inl (upd ff g d1)))) mo = some (.inr (5, [.int 0, .int (nI g), .ref nm, .ref fr, .int (nI my), .ref hs, .ref va, .ref tp, .ref dn])) := gh_keep zfr_23 hq20_23 (by simp)
                  have hq23_24 : (gh_up (gh_up (gh_up (gh_up (gh_up h mo (.inr (5, [.int 0, .int (nI g), .ref nm, .ref fr, .int (nI my), .ref hs, .ref va, .ref tp, .ref dn]))) nm (.inl (cI, 24, .inl (upd nf (3 * g) a1)))) nm (.inl (cI, 24, .inl (upd (upd nf (3 * g) a1) ((3 * g) + 1) b1)))) nm (.inl (cI, 24, .inl (upd (upd (upd nf (3 * g) a1) ((3 * g) + 1) b1) ((3 * g) + 2) c1)))) fr (.inl (cI, 8, .inl (upd ff g d1)))) nm = some (.inl (cI, 24, .inl (upd (upd (upd nf (3 * g) a1) ((3 * g) + 1) b1) ((3 * g) + 2) c1))) := gh_keep zfr_23 hq23 (by simp)
                  refine lv_aload_n hx hb d_Mo_plane_143 rfl (lv_at hl 1 rfl) ?_
                  refine lv_dup hx hb d_Mo_plane_144 rfl ?_
                  refine gh_get (ci := 5) hx hb htb in_Mo hown hK hG hq20_24 rfl 1 (by decide) (htb _ k_2_224) (fun _ h9 => h9) rfl d_Mo_plane_145 ?_
                  refine lv_iconst (v := 1) hx hb d_Mo_plane_148 (by decide) ?_
                  refine lv_iadd hx hb d_Mo_plane_149 ?_
                  rw [show nI g + 1 = nI (g + 1) from nI_1 g]
                  refine gh_put (ci := 5) (ty := .int) hx hb htb in_Mo t_Mo ty_Mo nm_Mo hown hK hG hq20_24 rfl 1 (by decide) (htb _ k_2_224) (fun _ h9 => h9) rfl (by decide +kernel) rfl rfl (Nat.le_of_ble_eq_true rfl) d_Mo_plane_150 (fun H l9 hG => ?_)
                  have hq25 : (gh_up (gh_up (gh_up (gh_up (gh_up (gh_up h mo (.inr (5, [.int 0, .int (nI g), .ref nm, .ref fr, .int (nI my), .ref hs, .ref va, .ref tp, .ref dn]))) nm (.inl (cI, 24, .inl (upd nf (3 * g) a1)))) nm (.inl (cI, 24, .inl (upd (upd nf (3 * g) a1) ((3 * g) + 1) b1)))) nm (.inl (cI, 24, .inl (upd (upd (upd nf (3 * g) a1) ((3 * g) + 1) b1) ((3 * g) + 2) c1)))) fr (.inl (cI, 8, .inl (upd ff g d1)))) mo (.inr (5, [.int 0, .int (nI (g + 1)), .ref nm, .ref fr, .int (nI my), .ref hs, .ref va, .ref tp, .ref dn]))) mo = some (.inr (5, [.int 0, .int (nI (g + 1)), .ref nm, .ref fr, .int (nI my), .ref hs, .ref va, .ref tp, .ref dn])) := gh_self _ _ _
                  replace hG : gh_P D vC b0 (gh_up (gh_up (gh_up (gh_up (gh_up (gh_up h mo (.inr (5, [.int 0, .int (nI g), .ref nm, .ref fr, .int (nI my), .ref hs, .ref va, .ref tp, .ref dn]))) nm (.inl (cI, 24, .inl (upd nf (3 * g) a1)))) nm (.inl (cI, 24, .inl (upd (upd nf (3 * g) a1) ((3 * g) + 1) b1)))) nm (.inl (cI, 24, .inl (upd (upd (upd nf (3 * g) a1) ((3 * g) + 1) b1) ((3 * g) + 2) c1)))) fr (.inl (cI, 8, .inl (upd ff g d1)))) mo (.inr (5, [.int 0, .int (nI (g + 1)), .ref nm, .ref fr, .int (nI my), .ref hs, .ref va, .ref tp, .ref dn]))) s.heap _ _ := hG
                  have zhs_25 : (gh_up (gh_up (gh_up (gh_up (gh_up (gh_up h mo (.inr (5, [.int 0, .int (nI g), .ref nm, .ref fr, .int (nI my), .ref hs, .ref va, .ref tp, .ref dn]))) nm (.inl (cI, 24, .inl (upd nf (3 * g) a1)))) nm (.inl (cI, 24, .inl (upd (upd nf (3 * g) a1) ((3 * g) + 1) b1)))) nm (.inl (cI, 24, .inl (upd (upd (upd nf (3 * g) a1) ((3 * g) + 1) b1) ((3 * g) + 2) c1)))) fr (.inl (cI, 8, .inl (upd ff g d1)))) mo (.inr (5, [.int 0, .int (nI (g + 1)), .ref nm, .ref fr, .int (nI my), .ref hs, .ref va, .ref tp, .ref dn]))) hs = some (.inl (cJ, 24, .inr (.inl hf))) := gh_keep hq20_24 zhs_24 (by simp)
                  have zva_25 : (gh_up (gh_up (gh_up (gh_up (gh_up (gh_up h mo (.inr (5, [.int 0, .int (nI g), .ref nm, .ref fr, .int (nI my), .ref hs, .ref va, .ref tp, .ref dn]))) nm (.inl (cI, 24, .inl (upd nf (3 * g) a1)))) nm (.inl (cI, 24, .inl (upd (upd nf (3 * g) a1) ((3 * g) + 1) b1)))) nm (.inl (cI, 24, .inl (upd (upd (upd nf (3 * g) a1) ((3 * g) + 1) b1) ((3 * g) + 2) c1)))) fr (.inl (cI, 8, .inl (upd ff g d1)))) mo (.inr (5, [.int 0, .int (nI (g + 1)), .ref nm, .ref fr, .int (nI my), .ref hs, .ref va, .ref tp, .ref dn]))) va = some (.inl (cJ, 8, .inr (.inl vf))) := gh_keep hq20_24 zva_24 (by simp)
                  have ztp_25 : (gh_up (gh_up (gh_up (gh_up (gh_up (gh_up h mo (.inr (5, [.int 0, .int (nI g), .ref nm, .ref fr, .int (nI my), .ref hs, .ref va, .ref tp, .ref dn]))) nm (.inl (cI, 24, .inl (upd nf (3 * g) a1)))) nm (.inl (cI, 24, .inl (upd (upd nf (3 * g) a1) ((3 * g) + 1) b1)))) nm (.inl (cI, 24, .inl (upd (upd (upd nf (3 * g) a1) ((3 * g) + 1) b1) ((3 * g) + 2) c1)))) fr (.inl (cI, 8, .inl (upd ff g d1)))) mo (.inr (5, [.int 0, .int (nI (g + 1)), .ref nm, .ref fr, .int (nI my), .ref hs, .ref va, .ref tp, .ref dn]))) tp = some (.inl (cJ, 8, .inr (.inl tf))) := gh_keep hq20_24 ztp_24 (by simp)
                  have zdn_25 : (gh_up (gh_up (gh_up (gh_up (gh_up (gh_up h mo (.inr (5, [.int 0, .int (nI g), .ref nm, .ref fr, .int (nI my), .ref hs, .ref va, .ref tp, .ref dn]))) nm (.inl (cI, 24, .inl (upd nf (3 * g) a1)))) nm (.inl (cI, 24, .inl (upd (upd nf (3 * g) a1) ((3 * g) + 1) b1)))) nm (.inl (cI, 24, .inl (upd (upd (upd nf (3 * g) a1) ((3 * g) + 1) b1) ((3 * g) + 2) c1)))) fr (.inl (cI, 8, .inl (upd ff g d1)))) mo (.inr (5, [.int 0, .int (nI (g + 1)), .ref nm, .ref fr, .int (nI my), .ref hs, .ref va, .ref tp, .ref dn]))) dn = some (.inl (cJ, 8, .inr (.inl df))) := gh_keep hq20_24 zdn_24 (by simp)
                  have hq23_25 : (gh_up (gh_up (gh_up (gh_up (gh_up (gh_up h mo (.inr (5, [.int 0, .int (nI g), .ref nm, .ref fr, .int (nI my), .ref hs, .ref va, .ref tp, .ref dn]))) nm (.inl (cI, 24, .inl (upd nf (3 * g) a1)))) nm (.inl (cI, 24, .inl (upd (upd nf (3 * g) a1) ((3 * g) + 1) b1)))) nm (.inl (cI, 24, .inl (upd (upd (upd nf (3 * g) a1) ((3 * g) + 1) b1) ((3 * g) + 2) c1)))) fr (.inl (cI, 8, .inl (upd ff g d1)))) mo (.inr (5, [.int 0, .int (nI (g + 1)), .ref nm, .ref fr, .int (nI my), .ref hs, .ref va, .ref tp, .ref dn]))) nm = some (.inl (cI, 24, .inl (upd (upd (upd nf (3 * g) a1) ((3 * g) + 1) b1) ((3 * g) + 2) c1))) := gh_keep hq20_24 hq23_24 (by simp)
                  have hq24_25 : (gh_up (gh_up (gh_up (gh_up (gh_up (gh_up h mo (.inr (5, [.int 0, .int (nI g), .ref nm, .ref fr, .int (nI my), .ref hs, .ref va, .ref tp, .ref dn]))) nm (.inl (cI, 24, .inl (upd nf (3 * g) a1)))) nm (.inl (cI, 24, .inl (upd (upd nf (3 * g) a1) ((3 * g) + 1) b1)))) nm (.inl (cI, 24, .inl (upd (upd (upd nf (3 * g) a1) ((3 * g) + 1) b1) ((3 * g) + 2) c1)))) fr (.inl (cI, 8, .inl (upd ff g d1)))) mo (.inr (5, [.int 0, .int (nI (g + 1)), .ref nm, .ref fr, .int (nI my), .ref hs, .ref va, .ref tp, .ref dn]))) fr = some (.inl (cI, 8, .inl (upd ff g d1))) := gh_keep hq20_24 hq24 (by simp)
                  refine lv_aload_n hx hb d_Mo_plane_153 rfl (lv_at hl 1 rfl) ?_
                  refine gh_get (ci := 5) hx hb htb in_Mo hown hK hG hq25 rfl 1 (by decide) (htb _ k_2_224) (fun _ h9 => h9) rfl d_Mo_plane_154 ?_
                  refine lv_iconst (v := 1) hx hb d_Mo_plane_157 (by decide) ?_
                  refine lv_isub hx hb d_Mo_plane_158 ?_
                  rw [show nI (g + 1) - 1 = nI ((g + 1) - 1) from pk_sub (a := (g + 1)) (b := 1) (by omega)]
                  exact gh_iret hx hb hr hlk rfl hG d_Mo_plane_159 (rB_0 (by simp [m_badP, hc6, hc15, hc24, hc34, hc46]) (rB_0 (decide_eq_false hc72) ⟨rfl, (wM_mk hq25 hq23_25 hq24_25 zhs_25 zva_25 ztp_25 zdn_25 zvt zvd ztd (by omega) (by omega)), (frM_up (frM_up (frM_up (frM_up (frM_up (frM_up zf0 zmo rfl) znm_20 rfl) hq21 rfl) hq22 rfl) zfr_23 rfl) hq20_24 rfl)⟩))
                · skip
                  replace hc72 : g = 8 := (nc_eq (a := g) (b := 8) (by omega) (by omega) rfl rfl).mp hc72
                  refine lv_iconst (v := 2) hx hb d_Mo_plane_75 (by decide) ?_
                  refine lv_goto (tgt := 80) hx hb d_Mo_plane_76 (by decide) ?_
                  refine gh_put (ci := 5) (ty := .int) hx hb htb in_Mo t_Mo ty_Mo nm_Mo hown hK hG zmo rfl 0 (by decide) (htb _ k_2_223) (fun _ h9 => h9) rfl (by decide +kernel) rfl rfl (Nat.le_of_ble_eq_true rfl) d_Mo_plane_80 (fun H l9 hG => ?_)
                  have hq26 : (gh_up h mo (.inr (5, [.int 2, .int (nI g), .ref nm, .ref fr, .int (nI my), .ref hs, .ref va, .ref tp, .ref dn]))) mo = some (.inr (5, [.int 2, .int (nI g), .ref nm, .ref fr, .int (nI my), .ref hs, .ref va, .ref tp, .ref dn])) := gh_self _ _ _
                  replace hG : gh_P D vC b0 (gh_up h mo (.inr (5, [.int 2, .int (nI g), .ref nm, .ref fr, .int (nI my), .ref hs, .ref va, .ref tp, .ref dn]))) s.heap _ _ := hG
                  have znm_26 : (gh_up h mo (.inr (5, [.int 2, .int (nI g), .ref nm, .ref fr, .int (nI my), .ref hs, .ref va, .ref tp, .ref dn]))) nm = some (.inl (cI, 24, .inl nf)) := gh_keep zmo znm (by simp)
                  have zfr_26 : (gh_up h mo (.inr (5, [.int 2, .int (nI g), .ref nm, .ref fr, .int (nI my), .ref hs, .ref va, .ref tp, .ref dn]))) fr = some (.inl (cI, 8, .inl ff)) := gh_keep zmo zfr (by simp)
                  have zhs_26 : (gh_up h mo (.inr (5, [.int 2, .int (nI g), .ref nm, .ref fr, .int (nI my), .ref hs, .ref va, .ref tp, .ref dn]))) hs = some (.inl (cJ, 24, .inr (.inl hf))) := gh_keep zmo zhs (by simp)
                  have zva_26 : (gh_up h mo (.inr (5, [.int 2, .int (nI g), .ref nm, .ref fr, .int (nI my), .ref hs, .ref va, .ref tp, .ref dn]))) va = some (.inl (cJ, 8, .inr (.inl vf))) := gh_keep zmo zva (by simp)
                  have ztp_26 : (gh_up h mo (.inr (5, [.int 2, .int (nI g), .ref nm, .ref fr, .int (nI my), .ref hs, .ref va, .ref tp, .ref dn]))) tp = some (.inl (cJ, 8, .inr (.inl tf))) := gh_keep zmo ztp (by simp)
                  have zdn_26 : (gh_up h mo (.inr (5, [.int 2, .int (nI g), .ref nm, .ref fr, .int (nI my), .ref hs, .ref va, .ref tp, .ref dn]))) dn = some (.inl (cJ, 8, .inr (.inl df))) := gh_keep zmo zdn (by simp)
                  refine lv_aload_n hx hb d_Mo_plane_83 rfl (lv_at hl 1 rfl) ?_
                  refine gh_get (ci := 5) hx hb htb in_Mo hown hK hG hq26 rfl 0 (by decide) (htb _ k_2_223) (fun _ h9 => h9) rfl d_Mo_plane_84 ?_
                  refine lv_if_le (tgt := 92) hx hb d_Mo_plane_87 (by decide) (fun hc87 => absurd hc87 (by decide)) (fun hc87 => ?_)
                  refine lv_iconst (v := 0) hx hb d_Mo_plane_90 (by decide) ?_
                  exact gh_iret hx hb hr hlk rfl hG d_Mo_plane_91 (rB_0 (by simp [m_badP, hc6, hc15, hc24, hc34, hc46]) (rB_1 (decide_eq_true hc72) ⟨rfl, (wM_mk hq26 znm_26 zfr_26 zhs_26 zva_26 ztp_26 zdn_26 zvt zvd ztd (by omega) (by omega)), (frM_up zf0 zmo rfl)⟩))

set_option maxHeartbeats 4000000 in
set_option maxRecDepth 100000 in
/-- convex -/
theorem c_Mo_convex {mo nm fr hs va tp dn g my : Nat} {th : Int32} {nf ff : Nat → Int32} {hf vf tf df : Nat → Int64} (hW : wM cI cJ h mo nm fr hs va tp dn th g my nf ff hf vf tf df) {set : Int32} : gh_C l D vC (tZ cI cJ cP cS) (xF b0) b0 y_Mo_convex w_Mo_convex ({ frames := 0, cells := 0, slots := 0, locals := 0 }) [.ref mo, .int set] h (rB (v_badV set g) (rW (some (.int 0)) (fun h2 => wM cI cJ h2 mo nm fr hs va tp dn 1 g my nf ff hf vf tf df ∧ frM h h2)) (rB (decide (my = 6)) (rW (some (.int 0)) (fun h2 => wM cI cJ h2 mo nm fr hs va tp dn 2 g my nf ff hf vf tf df ∧ frM h h2)) (rW (some (.int (nI (my + 1)))) (fun h2 => ∃ f2 : Nat → Int64, (∀ j, j < 4 → f2 (4 * my + j) = m_cvx set 256 j) ∧ (∀ j, j < 4 * my → f2 j = hf j) ∧ wM cI cJ h2 mo nm fr hs va tp dn 0 g (my + 1) nf ff f2 vf tf df ∧ frM h h2)))) := by
  refine gh_ofW (by decide) (Nat.le_of_ble_eq_true rfl) ?_
  intro p e s m below meth c ls hctx hno hl hG hK hX
  obtain ⟨hx, hb, hr, hml, hown, hlk, hts, hnm⟩ := hctx
  have htb : ∀ w ∈ tB, w.before _ s = true := fun w hw => hts w (List.mem_cons_of_mem _ hw)
  replace hl : lv_has ls 3 [(0, .ref mo), (1, .int set)] := hl
  obtain ⟨zmo, znm, zfr, zhs, zva, ztp, zdn, zvt, zvd, ztd, zg, zy⟩ := hW
  have zf0 : frM h h := frM_rf h
  refine lv_aload_n hx hb d_Mo_convex_0 rfl (lv_at hl 0 rfl) ?_
  refine lv_iload_n hx hb d_Mo_convex_1 rfl (lv_at hl 1 rfl) ?_
  refine lv_if_lt (tgt := 14) hx hb d_Mo_convex_2 (by decide) (fun hc2 => ?_) (fun hc2 => ?_)
  · skip
    refine lv_iconst (v := 1) hx hb d_Mo_convex_14 (by decide) ?_
    refine lv_goto (tgt := 32) hx hb d_Mo_convex_15 (by decide) ?_
    refine gh_put (ci := 5) (ty := .int) hx hb htb in_Mo t_Mo ty_Mo nm_Mo hown hK hG zmo rfl 0 (by decide) (htb _ k_2_223) (fun _ h9 => h9) rfl (by decide +kernel) rfl rfl (Nat.le_of_ble_eq_true rfl) d_Mo_convex_32 (fun H l9 hG => ?_)
    have hq1 : (gh_up h mo (.inr (5, [.int 1, .int (nI g), .ref nm, .ref fr, .int (nI my), .ref hs, .ref va, .ref tp, .ref dn]))) mo = some (.inr (5, [.int 1, .int (nI g), .ref nm, .ref fr, .int (nI my), .ref hs, .ref va, .ref tp, .ref dn])) := gh_self _ _ _
    replace hG : gh_P D vC b0 (gh_up h mo (.inr (5, [.int 1, .int (nI g), .ref nm, .ref fr, .int (nI my), .ref hs, .ref va, .ref tp, .ref dn]))) s.heap _ _ := hG
    have znm_1 : (gh_up h mo (.inr (5, [.int 1, .int (nI g), .ref nm, .ref fr, .int (nI my), .ref hs, .ref va, .ref tp, .ref dn]))) nm = some (.inl (cI, 24, .inl nf)) := gh_keep zmo znm (by simp)
    have zfr_1 : (gh_up h mo (.inr (5, [.int 1, .int (nI g), .ref nm, .ref fr, .int (nI my), .ref hs, .ref va, .ref tp, .ref dn]))) fr = some (.inl (cI, 8, .inl ff)) := gh_keep zmo zfr (by simp)
    have zhs_1 : (gh_up h mo (.inr (5, [.int 1, .int (nI g), .ref nm, .ref fr, .int (nI my), .ref hs, .ref va, .ref tp, .ref dn]))) hs = some (.inl (cJ, 24, .inr (.inl hf))) := gh_keep zmo zhs (by simp)
    have zva_1 : (gh_up h mo (.inr (5, [.int 1, .int (nI g), .ref nm, .ref fr, .int (nI my), .ref hs, .ref va, .ref tp, .ref dn]))) va = some (.inl (cJ, 8, .inr (.inl vf))) := gh_keep zmo zva (by simp)
    have ztp_1 : (gh_up h mo (.inr (5, [.int 1, .int (nI g), .ref nm, .ref fr, .int (nI my), .ref hs, .ref va, .ref tp, .ref dn]))) tp = some (.inl (cJ, 8, .inr (.inl tf))) := gh_keep zmo ztp (by simp)
    have zdn_1 : (gh_up h mo (.inr (5, [.int 1, .int (nI g), .ref nm, .ref fr, .int (nI my), .ref hs, .ref va, .ref tp, .ref dn]))) dn = some (.inl (cJ, 8, .inr (.inl df))) := gh_keep zmo zdn (by simp)
    refine lv_aload_n hx hb d_Mo_convex_35 rfl (lv_at hl 0 rfl) ?_
    refine gh_get (ci := 5) hx hb htb in_Mo hown hK hG hq1 rfl 0 (by decide) (htb _ k_2_223) (fun _ h9 => h9) rfl d_Mo_convex_36 ?_
    refine lv_if_le (tgt := 44) hx hb d_Mo_convex_39 (by decide) (fun hc39 => absurd hc39 (by decide)) (fun hc39 => ?_)
    refine lv_iconst (v := 0) hx hb d_Mo_convex_42 (by decide) ?_
    exact gh_iret hx hb hr hlk rfl hG d_Mo_convex_43 (rB_1 (by simp [v_badV, hc2]) ⟨rfl, (wM_mk hq1 znm_1 zfr_1 zhs_1 zva_1 ztp_1 zdn_1 zvt zvd ztd (by omega) (by omega)), (frM_up zf0 zmo rfl)⟩)
  · skip
    refine lv_iload_n hx hb d_Mo_convex_5 rfl (lv_at hl 1 rfl) ?_
    refine lv_aload_n hx hb d_Mo_convex_6 rfl (lv_at hl 0 rfl) ?_
    refine gh_get (ci := 5) hx hb htb in_Mo hown hK hG zmo rfl 1 (by decide) (htb _ k_2_224) (fun _ h9 => h9) rfl d_Mo_convex_7 ?_
    refine lv_ishr hx hb d_Mo_convex_10 ?_
    refine lv_if_le (tgt := 18) hx hb d_Mo_convex_11 (by decide) (fun hc11 => ?_) (fun hc11 => ?_)
    · skip
      refine lv_aload_n hx hb d_Mo_convex_18 rfl (lv_at hl 0 rfl) ?_
      refine gh_get (ci := 5) hx hb htb in_Mo hown hK hG zmo rfl 4 (by decide) (htb _ k_2_227) (fun _ h9 => h9) rfl d_Mo_convex_19 ?_
      refine lv_bipush (v := 6) hx hb d_Mo_convex_22 (by decide) ?_
      refine lv_icmp_ne (tgt := 31) hx hb d_Mo_convex_24 (by decide) (fun hc24 => ?_) (fun hc24 => ?_)
      · skip
        replace hc24 : ¬ my = 6 := fun q9 => hc24 ((nc_eq (a := my) (b := 6) (by omega) (by omega) rfl rfl).mpr q9)
        refine lv_iconst (v := 0) hx hb d_Mo_convex_31 (by decide) ?_
        refine gh_put (ci := 5) (ty := .int) hx hb htb in_Mo t_Mo ty_Mo nm_Mo hown hK hG zmo rfl 0 (by decide) (htb _ k_2_223) (fun _ h9 => h9) rfl (by decide +kernel) rfl rfl (Nat.le_of_ble_eq_true rfl) d_Mo_convex_32 (fun H l9 hG => ?_)
        have hq2 : (gh_up h mo (.inr (5, [.int 0, .int (nI g), .ref nm, .ref fr, .int (nI my), .ref hs, .ref va, .ref tp, .ref dn]))) mo = some (.inr (5, [.int 0, .int (nI g), .ref nm, .ref fr, .int (nI my), .ref hs, .ref va, .ref tp, .ref dn])) := gh_self _ _ _
        replace hG : gh_P D vC b0 (gh_up h mo (.inr (5, [.int 0, .int (nI g), .ref nm, .ref fr, .int (nI my), .ref hs, .ref va, .ref tp, .ref dn]))) s.heap _ _ := hG
        have znm_2 : (gh_up h mo (.inr (5, [.int 0, .int (nI g), .ref nm, .ref fr, .int (nI my), .ref hs, .ref va, .ref tp, .ref dn]))) nm = some (.inl (cI, 24, .inl nf)) := gh_keep zmo znm (by simp)
        have zfr_2 : (gh_up h mo (.inr (5, [.int 0, .int (nI g), .ref nm, .ref fr, .int (nI my), .ref hs, .ref va, .ref tp, .ref dn]))) fr = some (.inl (cI, 8, .inl ff)) := gh_keep zmo zfr (by simp)
        have zhs_2 : (gh_up h mo (.inr (5, [.int 0, .int (nI g), .ref nm, .ref fr, .int (nI my), .ref hs, .ref va, .ref tp, .ref dn]))) hs = some (.inl (cJ, 24, .inr (.inl hf))) := gh_keep zmo zhs (by simp)
        have zva_2 : (gh_up h mo (.inr (5, [.int 0, .int (nI g), .ref nm, .ref fr, .int (nI my), .ref hs, .ref va, .ref tp, .ref dn]))) va = some (.inl (cJ, 8, .inr (.inl vf))) := gh_keep zmo zva (by simp)
        have ztp_2 : (gh_up h mo (.inr (5, [.int 0, .int (nI g), .ref nm, .ref fr, .int (nI my), .ref hs, .ref va, .ref tp, .ref dn]))) tp = some (.inl (cJ, 8, .inr (.inl tf))) := gh_keep zmo ztp (by simp)
        have zdn_2 : (gh_up h mo (.inr (5, [.int 0, .int (nI g), .ref nm, .ref fr, .int (nI my), .ref hs, .ref va, .ref tp, .ref dn]))) dn = some (.inl (cJ, 8, .inr (.inl df))) := gh_keep zmo zdn (by simp)
        refine lv_aload_n hx hb d_Mo_convex_35 rfl (lv_at hl 0 rfl) ?_
        refine gh_get (ci := 5) hx hb htb in_Mo hown hK hG hq2 rfl 0 (by decide) (htb _ k_2_223) (fun _ h9 => h9) rfl d_Mo_convex_36 ?_
        refine lv_if_le (tgt := 44) hx hb d_Mo_convex_39 (by decide) (fun hc39 => ?_) (fun hc39 => absurd hc39 (by decide))
        refine lv_iconst (v := 0) hx hb d_Mo_convex_44 (by decide) ?_
        refine lv_istore_n (lv' := [(2, .int 0), (0, .ref mo), (1, .int set)]) hx hb d_Mo_convex_45 rfl hl (by decide) rfl (fun ls hl => ?_)
        refine gh_gen hG (fun H l9 hG => ?_)
        refine lp_upH (α := gh_M × (Nat → Int64)) (G := fun ls H l9 => W p l e _ s m _ below meth c H l9 _ _ _ (F0 m 46 ls [])) 4 (fun k1 w1 ls H l9 => (wM cI cJ w1.1 mo nm fr hs va tp dn 0 g my nf ff w1.2 vf tf df ∧ frM h w1.1 ∧ ((∀ j, j < k1 → w1.2 (4 * my + j) = 0) ∧ ∀ j, j < 4 * my → w1.2 j = hf j)) ∧ lv_has ls 3 [(0, .ref mo), (1, .int set), (2, .int (nI k1))] ∧ gh_P D vC b0 w1.1 s.heap H l9) ?_ 0 (gh_up h mo (.inr (5, [.int 0, .int (nI g), .ref nm, .ref fr, .int (nI my), .ref hs, .ref va, .ref tp, .ref dn])), hf) ls H l9 (Nat.zero_le _) ⟨⟨(wM_mk hq2 znm_2 zfr_2 zhs_2 zva_2 ztp_2 zdn_2 zvt zvd ztd (by omega) (by omega)), (frM_up zf0 zmo rfl), (fun j hj => absurd hj (Nat.not_lt_zero j)), fun j _ => rfl⟩, (lv_sub hl [1, 2, 0] rfl), hG⟩
        intro k1 w1 ls H l9 hka hI iha
        obtain ⟨hi1a, hl, hG⟩ := hI
        obtain ⟨⟨zmo, znm, zfr, zhs, zva, ztp, zdn, zvt, zvd, ztd, zg, zy⟩, zfa, zsa⟩ := hi1a
        refine lv_iload_n hx hb d_Mo_convex_46 rfl (lv_at hl 2 rfl) ?_
        refine lv_iconst (v := 4) hx hb d_Mo_convex_47 (by decide) ?_
        refine lv_icmp_ge (tgt := 71) hx hb d_Mo_convex_48 (by decide) (fun hc48 => ?_) (fun hc48 => ?_)
        · skip
          replace hc48 : 4 ≤ k1 := (nc_le (a := 4) (b := k1) (by omega) (by omega) rfl rfl).mp hc48
          refine lv_iconst (v := 0) hx hb d_Mo_convex_71 (by decide) ?_
          refine lv_istore_n (lv' := [(2, .int 0), (0, .ref mo), (1, .int set)]) hx hb d_Mo_convex_72 rfl hl (by decide) rfl (fun ls hl => ?_)
          refine gh_gen hG (fun H l9 hG => ?_)
          refine lp_upH (α := gh_M × (Nat → Int64)) (G := fun ls H l9 => W p l e _ s m _ below meth c H l9 _ _ _ (F0 m 73 ls [])) 256 (fun k2 w2 ls H l9 => (wM cI cJ w2.1 mo nm fr hs va tp dn 0 g my nf ff w2.2 vf tf df ∧ frM h w2.1 ∧ ((∀ j, j < 4 → w2.2 (4 * my + j) = m_cvx set k2 j) ∧ ∀ j, j < 4 * my → w2.2 j = hf j)) ∧ lv_has ls 3 [(0, .ref mo), (1, .int set), (2, .int (nI k2))] ∧ gh_P D vC b0 w2.1 s.heap H l9) ?_ 0 (w1.1, w1.2) ls H l9 (Nat.zero_le _) ⟨⟨(wM_mk zmo znm zfr zhs zva ztp zdn zvt zvd ztd (by omega) (by omega)), zfa, (fun j hj => zsa.1 j (by omega)), zsa.2⟩, (lv_sub hl [1, 2, 0] rfl), hG⟩
          intro k2 w2 ls H l9 hkb hI ihb
          obtain ⟨hi1b, hl, hG⟩ := hI
          obtain ⟨⟨zmo, znm, zfr, zhs, zva, ztp, zdn, zvt, zvd, ztd, zg, zy⟩, zfb, zsb⟩ := hi1b
          refine lv_iload_n hx hb d_Mo_convex_73 rfl (lv_at hl 2 rfl) ?_
          refine lv_sipush (v := 256) hx hb d_Mo_convex_74 (by decide) ?_
          refine lv_icmp_ge (tgt := 118) hx hb d_Mo_convex_77 (by decide) (fun hc77 => ?_) (fun hc77 => ?_)
          · skip
            replace hc77 : 256 ≤ k2 := (nc_le (a := 256) (b := k2) (by omega) (by omega) rfl rfl).mp hc77
            refine lv_aload_n hx hb d_Mo_convex_118 rfl (lv_at hl 0 rfl) ?_
            refine lv_dup hx hb d_Mo_convex_119 rfl ?_
            refine gh_get (ci := 5) hx hb htb in_Mo hown hK hG zmo rfl 4 (by decide) (htb _ k_2_227) (fun _ h9 => h9) rfl d_Mo_convex_120 ?_
            refine lv_iconst (v := 1) hx hb d_Mo_convex_123 (by decide) ?_
            refine lv_iadd hx hb d_Mo_convex_124 ?_
            rw [show nI my + 1 = nI (my + 1) from nI_1 my]
            refine gh_put (ci := 5) (ty := .int) hx hb htb in_Mo t_Mo ty_Mo nm_Mo hown hK hG zmo rfl 4 (by decide) (htb _ k_2_227) (fun _ h9 => h9) rfl (by decide +kernel) rfl rfl (Nat.le_of_ble_eq_true rfl) d_Mo_convex_125 (fun H l9 hG => ?_)
            have hq3 : (gh_up w2.1 mo (.inr (5, [.int 0, .int (nI g), .ref nm, .ref fr, .int (nI (my + 1)), .ref hs, .ref va, .ref tp, .ref dn]))) mo = some (.inr (5, [.int 0, .int (nI g), .ref nm, .ref fr, .int (nI (my + 1)), .ref hs, .ref va, .ref tp, .ref dn])) := gh_self _ _ _
            replace hG : gh_P D vC b0 (gh_up w2.1 mo (.inr (5, [.int 0, .int (nI g), .ref nm, .ref fr, .int (nI (my + 1)), .ref hs, .ref va, .ref tp, .ref dn]))) s.heap _ _ := hG
            have znm_3 : (gh_up w2.1 mo (.inr (5, [.int 0, .int (nI g), .ref nm, .ref fr, .int (nI (my + 1)), .ref hs, .ref va, .ref tp, .ref dn]))) nm = some (.inl (cI, 24, .inl nf)) := gh_keep zmo znm (by simp)
            have zfr_3 : (gh_up w2.1 mo (.inr (5, [.int 0, .int (nI g), .ref nm, .ref fr, .int (nI (my + 1)), .ref hs, .ref va, .ref tp, .ref dn]))) fr = some (.inl (cI, 8, .inl ff)) := gh_keep zmo zfr (by simp)
            have zhs_3 : (gh_up w2.1 mo (.inr (5, [.int 0, .int (nI g), .ref nm, .ref fr, .int (nI (my + 1)), .ref hs, .ref va, .ref tp, .ref dn]))) hs = some (.inl (cJ, 24, .inr (.inl w2.2))) := gh_keep zmo zhs (by simp)
            have zva_3 : (gh_up w2.1 mo (.inr (5, [.int 0, .int (nI g), .ref nm, .ref fr, .int (nI (my + 1)), .ref hs, .ref va, .ref tp, .ref dn]))) va = some (.inl (cJ, 8, .inr (.inl vf))) := gh_keep zmo zva (by simp)
            have ztp_3 : (gh_up w2.1 mo (.inr (5, [.int 0, .int (nI g), .ref nm, .ref fr, .int (nI (my + 1)), .ref hs, .ref va, .ref tp, .ref dn]))) tp = some (.inl (cJ, 8, .inr (.inl tf))) := gh_keep zmo ztp (by simp)
            have zdn_3 : (gh_up w2.1 mo (.inr (5, [.int 0, .int (nI g), .ref nm, .ref fr, .int (nI (my + 1)), .ref hs, .ref va, .ref tp, .ref dn]))) dn = some (.inl (cJ, 8, .inr (.inl df))) := gh_keep zmo zdn (by simp)
            refine lv_aload_n hx hb d_Mo_convex_128 rfl (lv_at hl 0 rfl) ?_
            refine gh_get (ci := 5) hx hb htb in_Mo hown hK hG hq3 rfl 4 (by decide) (htb _ k_2_227) (fun _ h9 => h9) rfl d_Mo_convex_129 ?_
            exact gh_iret hx hb hr hlk rfl hG d_Mo_convex_132 (rB_0 (by simp [v_badV, hc2, hc11]) (rB_0 (decide_eq_false hc24) ⟨rfl, w2.2, (fun j hj => by rw [zsb.1 j hj, show k2 = 256 by omega]), zsb.2, (wM_mk hq3 znm_3 zfr_3 zhs_3 zva_3 ztp_3 zdn_3 zvt zvd ztd (by omega) (by omega)), (frM_up zfb zmo rfl)⟩))
          · skip
            replace hc77 : ¬ 256 ≤ k2 := fun q9 => hc77 ((nc_le (a := 256) (b := k2) (by omega) (by omega) rfl rfl).mpr q9)
            refine lv_iload_n hx hb d_Mo_convex_80 rfl (lv_at hl 2 rfl) ?_
            refine lv_iload_n hx hb d_Mo_convex_81 rfl (lv_at hl 1 rfl) ?_
            refine lv_iand hx hb d_Mo_convex_82 ?_
            refine lv_iload_n hx hb d_Mo_convex_83 rfl (lv_at hl 1 rfl) ?_
            refine lv_icmp_ne (tgt := 112) hx hb d_Mo_convex_84 (by decide) (fun hc84 => ?_) (fun hc84 => ?_)
            · skip
              refine lv_iinc (k := 2) (v := nI (k2 + 1)) (lv' := [(2, .int (nI (k2 + 1))), (0, .ref mo), (1, .int set)]) hx hb d_Mo_convex_112 hl rfl (nI_1 k2) (by decide) rfl (fun ls hl => ?_)
              refine lv_goto (tgt := 73) hx hb d_Mo_convex_115 (by decide) ?_
              exact ihb (w2.1, w2.2) ls H l9 (by omega) ⟨⟨(wM_mk zmo znm zfr zhs zva ztp zdn zvt zvd ztd (by omega) (by omega)), zfb, v_cvx_out zsb.1 hc84, zsb.2⟩, (lv_sub hl [1, 2, 0] rfl), hG⟩
            · skip
              refine lv_aload_n hx hb d_Mo_convex_87 rfl (lv_at hl 0 rfl) ?_
              refine gh_get (ci := 5) hx hb htb in_Mo hown hK hG zmo rfl 5 (by decide) (htb _ k_2_228) (fun _ h9 => h9) rfl d_Mo_convex_88 ?_
              refine lv_iconst (v := 4) hx hb d_Mo_convex_91 (by decide) ?_
              refine lv_aload_n hx hb d_Mo_convex_92 rfl (lv_at hl 0 rfl) ?_
              refine gh_get (ci := 5) hx hb htb in_Mo hown hK hG zmo rfl 4 (by decide) (htb _ k_2_227) (fun _ h9 => h9) rfl d_Mo_convex_93 ?_
              refine lv_imul hx hb d_Mo_convex_96 ?_
              rw [show 4 * (nI my) = nI (4 * my) from nm_mul 4 my]
              refine lv_iload_n hx hb d_Mo_convex_97 rfl (lv_at hl 2 rfl) ?_
              refine lv_bipush (v := 64) hx hb d_Mo_convex_98 (by decide) ?_
              refine lv_idiv hx hb d_Mo_convex_100 (by decide) ?_
              rw [show (nI k2) / 64 = nI (k2 / 64) from pk_div (a := k2) (d := 64) (by omega) (by decide) (by decide)]
              refine lv_iadd hx hb d_Mo_convex_101 ?_
              rw [show (nI (4 * my)) + (nI (k2 / 64)) = nI ((4 * my) + (k2 / 64)) from nI_add (4 * my) (k2 / 64)]
              refine lv_dup2_11 hx hb d_Mo_convex_102 rfl rfl ?_
              refine gh_lald (v := w2.2 ((4 * my) + (k2 / 64))) hx hb hK hG 1 zhs rfl (vp_in_nI (by omega) (by decide)) (by rw [nI_clamp (by omega)]) d_Mo_convex_103 ?_
              refine lv_lconst (v := 1) hx hb d_Mo_convex_104 (by decide) ?_
              refine lv_iload_n hx hb d_Mo_convex_105 rfl (lv_at hl 2 rfl) ?_
              refine lv_bipush (v := 64) hx hb d_Mo_convex_106 (by decide) ?_
              refine lv_irem hx hb d_Mo_convex_108 (by decide) ?_
              rw [show (nI k2) - (nI k2) / 64 * 64 = nI (k2 % 64) from pk_rem (a := k2) (d := 64) (by omega) (by decide) (by decide)]
              refine lv_lshl (v := (1 <<< (Int32.toInt64 (nI (k2 % 64)) &&& 63))) hx hb d_Mo_convex_109 rfl ?_
              refine lv_lor hx hb d_Mo_convex_110 ?_
              refine gh_last hx hb hK hG 1 zhs rfl (vp_in_nI (by omega) (by decide)) d_Mo_convex_111 (fun H l9 hG => ?_)
              rw [nI_clamp (by omega)] at hG
              have hq4 : (gh_up w2.1 hs (.inl (cJ, 24, .inr (.inl (vp_updL w2.2 ((4 * my) + (k2 / 64)) ((w2.2 ((4 * my) + (k2 / 64))) ||| (1 <<< (Int32.toInt64 (nI (k2 % 64)) &&& 63)))))))) hs = some (.inl (cJ, 24, .inr (.inl (vp_updL w2.2 ((4 * my) + (k2 / 64)) ((w2.2 ((4 * my) + (k2 / 64))) ||| (1 <<< (Int32.toInt64 (nI (k2 % 64)) &&& 63))))))) := gh_self _ _ _
              replace hG : gh_P D vC b0 (gh_up w2.1 hs (.inl (cJ, 24, .inr (.inl (vp_updL w2.2 ((4 * my) + (k2 / 64)) ((w2.2 ((4 * my) + (k2 / 64))) ||| (1 <<< (Int32.toInt64 (nI (k2 % 64)) &&& 63)))))))) s.heap _ _ := hG
              have zmo_4 : (gh_up w2.1 hs (.inl (cJ, 24, .inr (.inl (vp_updL w2.2 ((4 * my) + (k2 / 64)) ((w2.2 ((4 * my) + (k2 / 64))) ||| (1 <<< (Int32.toInt64 (nI (k2 % 64)) &&& 63)))))))) mo = some (.inr (5, [.int 0, .int (nI g), .ref nm, .ref fr, .int (nI my), .ref hs, .ref va, .ref tp, .ref dn])) := gh_keep zhs zmo (by simp)
              have znm_4 : (gh_up w2.1 hs (.inl (cJ, 24, .inr (.inl (vp_updL w2.2 ((4 * my) + (k2 / 64)) ((w2.2 ((4 * my) + (k2 / 64))) ||| (1 <<< (Int32.toInt64 (nI (k2 % 64)) &&& 63)))))))) nm = some (.inl (cI, 24, .inl nf)) := gh_keep zhs znm (by simp)
              have zfr_4 : (gh_up w2.1 hs (.inl (cJ, 24, .inr (.inl (vp_updL w2.2 ((4 * my) + (k2 / 64)) ((w2.2 ((4 * my) + (k2 / 64))) ||| (1 <<< (Int32.toInt64 (nI (k2 % 64)) &&& 63)))))))) fr = some (.inl (cI, 8, .inl ff)) := gh_keep zhs zfr (by simp)
              have zva_4 : (gh_up w2.1 hs (.inl (cJ, 24, .inr (.inl (vp_updL w2.2 ((4 * my) + (k2 / 64)) ((w2.2 ((4 * my) + (k2 / 64))) ||| (1 <<< (Int32.toInt64 (nI (k2 % 64)) &&& 63)))))))) va = some (.inl (cJ, 8, .inr (.inl vf))) := gh_keep zhs zva (by simp)
              have ztp_4 : (gh_up w2.1 hs (.inl (cJ, 24, .inr (.inl (vp_updL w2.2 ((4 * my) + (k2 / 64)) ((w2.2 ((4 * my) + (k2 / 64))) ||| (1 <<< (Int32.toInt64 (nI (k2 % 64)) &&& 63)))))))) tp = some (.inl (cJ, 8, .inr (.inl tf))) := gh_keep zhs ztp (by simp)
              have zdn_4 : (gh_up w2.1 hs (.inl (cJ, 24, .inr (.inl (vp_updL w2.2 ((4 * my) + (k2 / 64)) ((w2.2 ((4 * my) + (k2 / 64))) ||| (1 <<< (Int32.toInt64 (nI (k2 % 64)) &&& 63)))))))) dn = some (.inl (cJ, 8, .inr (.inl df))) := gh_keep zhs zdn (by simp)
              refine lv_iinc (k := 2) (v := nI (k2 + 1)) (lv' := [(2, .int (nI (k2 + 1))), (0, .ref mo), (1, .int set)]) hx hb d_Mo_convex_112 hl rfl (nI_1 k2) (by decide) rfl (fun ls hl => ?_)
              refine lv_goto (tgt := 73) hx hb d_Mo_convex_115 (by decide) ?_
              exact ihb (gh_up w2.1 hs (.inl (cJ, 24, .inr (.inl (vp_updL w2.2 ((4 * my) + (k2 / 64)) ((w2.2 ((4 * my) + (k2 / 64))) ||| (1 <<< (Int32.toInt64 (nI (k2 % 64)) &&& 63))))))), (vp_updL w2.2 ((4 * my) + (k2 / 64)) ((w2.2 ((4 * my) + (k2 / 64))) ||| (1 <<< (Int32.toInt64 (nI (k2 % 64)) &&& 63))))) ls H l9 (by omega) ⟨⟨(wM_mk zmo_4 znm_4 zfr_4 hq4 zva_4 ztp_4 zdn_4 zvt zvd ztd (by omega) (by omega)), (frM_up zfb zhs rfl), v_cvx_in (by omega) zsb.1 hc84, w_lo zsb.2 (by omega)⟩, (lv_sub hl [1, 2, 0] rfl), hG⟩
        · skip
          replace hc48 : ¬ 4 ≤ k1 := fun q9 => hc48 ((nc_le (a := 4) (b := k1) (by omega) (by omega) rfl rfl).mpr q9)
          refine lv_aload_n hx hb d_Mo_convex_51 rfl (lv_at hl 0 rfl) ?_
          refine gh_get (ci := 5) hx hb htb in_Mo hown hK hG zmo rfl 5 (by decide) (htb _ k_2_228) (fun _ h9 => h9) rfl d_Mo_convex_52 ?_
          refine lv_iconst (v := 4) hx hb d_Mo_convex_55 (by decide) ?_
          refine lv_aload_n hx hb d_Mo_convex_56 rfl (lv_at hl 0 rfl) ?_
          refine gh_get (ci := 5) hx hb htb in_Mo hown hK hG zmo rfl 4 (by decide) (htb _ k_2_227) (fun _ h9 => h9) rfl d_Mo_convex_57 ?_
          refine lv_imul hx hb d_Mo_convex_60 ?_
          rw [show 4 * (nI my) = nI (4 * my) from nm_mul 4 my]
          refine lv_iload_n hx hb d_Mo_convex_61 rfl (lv_at hl 2 rfl) ?_
          refine lv_iadd hx hb d_Mo_convex_62 ?_
          rw [show (nI (4 * my)) + (nI k1) = nI ((4 * my) + k1) from nI_add (4 * my) k1]
          refine lv_lconst (v := 0) hx hb d_Mo_convex_63 (by decide) ?_
          refine gh_last hx hb hK hG 1 zhs rfl (vp_in_nI (by omega) (by decide)) d_Mo_convex_64 (fun H l9 hG => ?_)
          rw [nI_clamp (by omega)] at hG
          have hq5 : (gh_up w1.1 hs (.inl (cJ, 24, .inr (.inl (vp_updL w1.2 ((4 * my) + k1) 0))))) hs = some (.inl (cJ, 24, .inr (.inl (vp_updL w1.2 ((4 * my) + k1) 0)))) := gh_self _ _ _
          replace hG : gh_P D vC b0 (gh_up w1.1 hs (.inl (cJ, 24, .inr (.inl (vp_updL w1.2 ((4 * my) + k1) 0))))) s.heap _ _ := hG
          have zmo_5 : (gh_up w1.1 hs (.inl (cJ, 24, .inr (.inl (vp_updL w1.2 ((4 * my) + k1) 0))))) mo = some (.inr (5, [.int 0, .int (nI g), .ref nm, .ref fr, .int (nI my), .ref hs, .ref va, .ref tp, .ref dn])) := gh_keep zhs zmo (by simp)
          have znm_5 : (gh_up w1.1 hs (.inl (cJ, 24, .inr (.inl (vp_updL w1.2 ((4 * my) + k1) 0))))) nm = some (.inl (cI, 24, .inl nf)) := gh_keep zhs znm (by simp)
          have zfr_5 : (gh_up w1.1 hs (.inl (cJ, 24, .inr (.inl (vp_updL w1.2 ((4 * my) + k1) 0))))) fr = some (.inl (cI, 8, .inl ff)) := gh_keep zhs zfr (by simp)
          have zva_5 : (gh_up w1.1 hs (.inl (cJ, 24, .inr (.inl (vp_updL w1.2 ((4 * my) + k1) 0))))) va = some (.inl (cJ, 8, .inr (.inl vf))) := gh_keep zhs zva (by simp)
          have ztp_5 : (gh_up w1.1 hs (.inl (cJ, 24, .inr (.inl (vp_updL w1.2 ((4 * my) + k1) 0))))) tp = some (.inl (cJ, 8, .inr (.inl tf))) := gh_keep zhs ztp (by simp)
          have zdn_5 : (gh_up w1.1 hs (.inl (cJ, 24, .inr (.inl (vp_updL w1.2 ((4 * my) + k1) 0))))) dn = some (.inl (cJ, 8, .inr (.inl df))) := gh_keep zhs zdn (by simp)
          refine lv_iinc (k := 2) (v := nI (k1 + 1)) (lv' := [(2, .int (nI (k1 + 1))), (0, .ref mo), (1, .int set)]) hx hb d_Mo_convex_65 hl rfl (nI_1 k1) (by decide) rfl (fun ls hl => ?_)
          refine lv_goto (tgt := 46) hx hb d_Mo_convex_68 (by decide) ?_
          exact iha (gh_up w1.1 hs (.inl (cJ, 24, .inr (.inl (vp_updL w1.2 ((4 * my) + k1) 0)))), (vp_updL w1.2 ((4 * my) + k1) 0)) ls H l9 (by omega) ⟨⟨(wM_mk zmo_5 znm_5 zfr_5 hq5 zva_5 ztp_5 zdn_5 zvt zvd ztd (by omega) (by omega)), (frM_up zfa zhs rfl), w_in (g := fun _ => 0) zsa.1 rfl, w_lo zsa.2 (by omega)⟩, (lv_sub hl [1, 2, 0] rfl), hG⟩
      · skip
        replace hc24 : my = 6 := (nc_eq (a := my) (b := 6) (by omega) (by omega) rfl rfl).mp hc24
        refine lv_iconst (v := 2) hx hb d_Mo_convex_27 (by decide) ?_
        refine lv_goto (tgt := 32) hx hb d_Mo_convex_28 (by decide) ?_
        refine gh_put (ci := 5) (ty := .int) hx hb htb in_Mo t_Mo ty_Mo nm_Mo hown hK hG zmo rfl 0 (by decide) (htb _ k_2_223) (fun _ h9 => h9) rfl (by decide +kernel) rfl rfl (Nat.le_of_ble_eq_true rfl) d_Mo_convex_32 (fun H l9 hG => ?_)
        have hq6 : (gh_up h mo (.inr (5, [.int 2, .int (nI g), .ref nm, .ref fr, .int (nI my), .ref hs, .ref va, .ref tp, .ref dn]))) mo = some (.inr (5, [.int 2, .int (nI g), .ref nm, .ref fr, .int (nI my), .ref hs, .ref va, .ref tp, .ref dn])) := gh_self _ _ _
        replace hG : gh_P D vC b0 (gh_up h mo (.inr (5, [.int 2, .int (nI g), .ref nm, .ref fr, .int (nI my), .ref hs, .ref va, .ref tp, .ref dn]))) s.heap _ _ := hG
        have znm_6 : (gh_up h mo (.inr (5, [.int 2, .int (nI g), .ref nm, .ref fr, .int (nI my), .ref hs, .ref va, .ref tp, .ref dn]))) nm = some (.inl (cI, 24, .inl nf)) := gh_keep zmo znm (by simp)
        have zfr_6 : (gh_up h mo (.inr (5, [.int 2, .int (nI g), .ref nm, .ref fr, .int (nI my), .ref hs, .ref va, .ref tp, .ref dn]))) fr = some (.inl (cI, 8, .inl ff)) := gh_keep zmo zfr (by simp)
        have zhs_6 : (gh_up h mo (.inr (5, [.int 2, .int (nI g), .ref nm, .ref fr, .int (nI my), .ref hs, .ref va, .ref tp, .ref dn]))) hs = some (.inl (cJ, 24, .inr (.inl hf))) := gh_keep zmo zhs (by simp)
        have zva_6 : (gh_up h mo (.inr (5, [.int 2, .int (nI g), .ref nm, .ref fr, .int (nI my), .ref hs, .ref va, .ref tp, .ref dn]))) va = some (.inl (cJ, 8, .inr (.inl vf))) := gh_keep zmo zva (by simp)
        have ztp_6 : (gh_up h mo (.inr (5, [.int 2, .int (nI g), .ref nm, .ref fr, .int (nI my), .ref hs, .ref va, .ref tp, .ref dn]))) tp = some (.inl (cJ, 8, .inr (.inl tf))) := gh_keep zmo ztp (by simp)
        have zdn_6 : (gh_up h mo (.inr (5, [.int 2, .int (nI g), .ref nm, .ref fr, .int (nI my), .ref hs, .ref va, .ref tp, .ref dn]))) dn = some (.inl (cJ, 8, .inr (.inl df))) := gh_keep zmo zdn (by simp)
        refine lv_aload_n hx hb d_Mo_convex_35 rfl (lv_at hl 0 rfl) ?_
        refine gh_get (ci := 5) hx hb htb in_Mo hown hK hG hq6 rfl 0 (by decide) (htb _ k_2_223) (fun _ h9 => h9) rfl d_Mo_convex_36 ?_
        refine lv_if_le (tgt := 44) hx hb d_Mo_convex_39 (by decide) (fun hc39 => absurd hc39 (by decide)) (fun hc39 => ?_)
        refine lv_iconst (v := 0) hx hb d_Mo_convex_42 (by decide) ?_
        exact gh_iret hx hb hr hlk rfl hG d_Mo_convex_43 (rB_0 (by simp [v_badV, hc2, hc11]) (rB_1 (decide_eq_true hc24) ⟨rfl, (wM_mk hq6 znm_6 zfr_6 zhs_6 zva_6 ztp_6 zdn_6 zvt zvd ztd (by omega) (by omega)), (frM_up zf0 zmo rfl)⟩))
    · skip
      refine lv_iconst (v := 1) hx hb d_Mo_convex_14 (by decide) ?_
      refine lv_goto (tgt := 32) hx hb d_Mo_convex_15 (by decide) ?_
      refine gh_put (ci := 5) (ty := .int) hx hb htb in_Mo t_Mo ty_Mo nm_Mo hown hK hG zmo rfl 0 (by decide) (htb _ k_2_223) (fun _ h9 => h9) rfl (by decide +kernel) rfl rfl (Nat.le_of_ble_eq_true rfl) d_Mo_convex_32 (fun H l9 hG => ?_)
      have hq7 : (gh_up h mo (.inr (5, [.int 1, .int (nI g), .ref nm, .ref fr, .int (nI my), .ref hs, .ref va, .ref tp, .ref dn]))) mo = some (.inr (5, [.int 1, .int (nI g), .ref nm, .ref fr, .int (nI my), .ref hs, .ref va, .ref tp, .ref dn])) := gh_self _ _ _
      replace hG : gh_P D vC b0 (gh_up h mo (.inr (5, [.int 1, .int (nI g), .ref nm, .ref fr, .int (nI my), .ref hs, .ref va, .ref tp, .ref dn]))) s.heap _ _ := hG
      have znm_7 : (gh_up h mo (.inr (5, [.int 1, .int (nI g), .ref nm, .ref fr, .int (nI my), .ref hs, .ref va, .ref tp, .ref dn]))) nm = some (.inl (cI, 24, .inl nf)) := gh_keep zmo znm (by simp)
      have zfr_7 : (gh_up h mo (.inr (5, [.int 1, .int (nI g), .ref nm, .ref fr, .int (nI my), .ref hs, .ref va, .ref tp, .ref dn]))) fr = some (.inl (cI, 8, .inl ff)) := gh_keep zmo zfr (by simp)
      have zhs_7 : (gh_up h mo (.inr (5, [.int 1, .int (nI g), .ref nm, .ref fr, .int (nI my), .ref hs, .ref va, .ref tp, .ref dn]))) hs = some (.inl (cJ, 24, .inr (.inl hf))) := gh_keep zmo zhs (by simp)
      have zva_7 : (gh_up h mo (.inr (5, [.int 1, .int (nI g), .ref nm, .ref fr, .int (nI my), .ref hs, .ref va, .ref tp, .ref dn]))) va = some (.inl (cJ, 8, .inr (.inl vf))) := gh_keep zmo zva (by simp)
      have ztp_7 : (gh_up h mo (.inr (5, [.int 1, .int (nI g), .ref nm, .ref fr, .int (nI my), .ref hs, .ref va, .ref tp, .ref dn]))) tp = some (.inl (cJ, 8, .inr (.inl tf))) := gh_keep zmo ztp (by simp)
      have zdn_7 : (gh_up h mo (.inr (5, [.int 1, .int (nI g), .ref nm, .ref fr, .int (nI my), .ref hs, .ref va, .ref tp, .ref dn]))) dn = some (.inl (cJ, 8, .inr (.inl df))) := gh_keep zmo zdn (by simp)
      refine lv_aload_n hx hb d_Mo_convex_35 rfl (lv_at hl 0 rfl) ?_
      refine gh_get (ci := 5) hx hb htb in_Mo hown hK hG hq7 rfl 0 (by decide) (htb _ k_2_223) (fun _ h9 => h9) rfl d_Mo_convex_36 ?_
      refine lv_if_le (tgt := 44) hx hb d_Mo_convex_39 (by decide) (fun hc39 => absurd hc39 (by decide)) (fun hc39 => ?_)
      refine lv_iconst (v := 0) hx hb d_Mo_convex_42 (by decide) ?_
      exact gh_iret hx hb hr hlk rfl hG d_Mo_convex_43 (rB_1 (by simp [v_badV, hc2, hc11]) ⟨rfl, (wM_mk hq7 znm_7 zfr_7 zhs_7 zva_7 ztp_7 zdn_7 zvt zvd ztd (by omega) (by omega)), (frM_up zf0 zmo rfl)⟩)

set_option maxHeartbeats 4000000 in
set_option maxRecDepth 100000 in
/-- join -/
theorem c_Mo_join {mo nm fr hs va tp dn g my : Nat} {th : Int32} {nf ff : Nat → Int32} {hf vf tf df : Nat → Int64} (hW : wM cI cJ h mo nm fr hs va tp dn th g my nf ff hf vf tf df) {how : Int32} : gh_C l D vC (tZ cI cJ cP cS) (xF b0) b0 y_Mo_join w_Mo_join ({ frames := 0, cells := 0, slots := 0, locals := 0 }) [.ref mo, .int how] h (rB (v_badJ how) (rW (some (.int 0)) (fun h2 => wM cI cJ h2 mo nm fr hs va tp dn 1 g my nf ff hf vf tf df ∧ frM h h2)) (rB (decide (my < 2)) (rW (some (.int 0)) (fun h2 => wM cI cJ h2 mo nm fr hs va tp dn 2 g my nf ff hf vf tf df ∧ frM h h2)) (rW (some (.int (nI (my - 1)))) (fun h2 => ∃ f2 : Nat → Int64, (∀ j, j < 4 → f2 (4 * (my - 1) - 4 + j) = v_jn how (hf (4 * (my - 1) - 4 + j)) (hf (4 * (my - 1) + j))) ∧ (∀ j, j < 4 * (my - 1) - 4 → f2 j = hf j) ∧ wM cI cJ h2 mo nm fr hs va tp dn 0 g (my - 1) nf ff f2 vf tf df ∧ frM h h2)))) := by
  refine gh_ofW (by decide) (Nat.le_of_ble_eq_true rfl) ?_
  intro p e s m below meth c ls hctx hno hl hG hK hX
  obtain ⟨hx, hb, hr, hml, hown, hlk, hts, hnm⟩ := hctx
  have htb : ∀ w ∈ tB, w.before _ s = true := fun w hw => hts w (List.mem_cons_of_mem _ hw)
  replace hl : lv_has ls 7 [(0, .ref mo), (1, .int how)] := hl
  obtain ⟨zmo, znm, zfr, zhs, zva, ztp, zdn, zvt, zvd, ztd, zg, zy⟩ := hW
  have zf0 : frM h h := frM_rf h
  refine lv_aload_n hx hb d_Mo_join_0 rfl (lv_at hl 0 rfl) ?_
  refine lv_iload_n hx hb d_Mo_join_1 rfl (lv_at hl 1 rfl) ?_
  refine lv_if_lt (tgt := 10) hx hb d_Mo_join_2 (by decide) (fun hc2 => ?_) (fun hc2 => ?_)
  · skip
    refine lv_iconst (v := 1) hx hb d_Mo_join_10 (by decide) ?_
    refine lv_goto (tgt := 27) hx hb d_Mo_join_11 (by decide) ?_
    refine gh_put (ci := 5) (ty := .int) hx hb htb in_Mo t_Mo ty_Mo nm_Mo hown hK hG zmo rfl 0 (by decide) (htb _ k_2_223) (fun _ h9 => h9) rfl (by decide +kernel) rfl rfl (Nat.le_of_ble_eq_true rfl) d_Mo_join_27 (fun H l9 hG => ?_)
    have hq1 : (gh_up h mo (.inr (5, [.int 1, .int (nI g), .ref nm, .ref fr, .int (nI my), .ref hs, .ref va, .ref tp, .ref dn]))) mo = some (.inr (5, [.int 1, .int (nI g), .ref nm, .ref fr, .int (nI my), .ref hs, .ref va, .ref tp, .ref dn])) := gh_self _ _ _
    replace hG : gh_P D vC b0 (gh_up h mo (.inr (5, [.int 1, .int (nI g), .ref nm, .ref fr, .int (nI my), .ref hs, .ref va, .ref tp, .ref dn]))) s.heap _ _ := hG
    have znm_1 : (gh_up h mo (.inr (5, [.int 1, .int (nI g), .ref nm, .ref fr, .int (nI my), .ref hs, .ref va, .ref tp, .ref dn]))) nm = some (.inl (cI, 24, .inl nf)) := gh_keep zmo znm (by simp)
    have zfr_1 : (gh_up h mo (.inr (5, [.int 1, .int (nI g), .ref nm, .ref fr, .int (nI my), .ref hs, .ref va, .ref tp, .ref dn]))) fr = some (.inl (cI, 8, .inl ff)) := gh_keep zmo zfr (by simp)
    have zhs_1 : (gh_up h mo (.inr (5, [.int 1, .int (nI g), .ref nm, .ref fr, .int (nI my), .ref hs, .ref va, .ref tp, .ref dn]))) hs = some (.inl (cJ, 24, .inr (.inl hf))) := gh_keep zmo zhs (by simp)
    have zva_1 : (gh_up h mo (.inr (5, [.int 1, .int (nI g), .ref nm, .ref fr, .int (nI my), .ref hs, .ref va, .ref tp, .ref dn]))) va = some (.inl (cJ, 8, .inr (.inl vf))) := gh_keep zmo zva (by simp)
    have ztp_1 : (gh_up h mo (.inr (5, [.int 1, .int (nI g), .ref nm, .ref fr, .int (nI my), .ref hs, .ref va, .ref tp, .ref dn]))) tp = some (.inl (cJ, 8, .inr (.inl tf))) := gh_keep zmo ztp (by simp)
    have zdn_1 : (gh_up h mo (.inr (5, [.int 1, .int (nI g), .ref nm, .ref fr, .int (nI my), .ref hs, .ref va, .ref tp, .ref dn]))) dn = some (.inl (cJ, 8, .inr (.inl df))) := gh_keep zmo zdn (by simp)
    refine lv_aload_n hx hb d_Mo_join_30 rfl (lv_at hl 0 rfl) ?_
    refine gh_get (ci := 5) hx hb htb in_Mo hown hK hG hq1 rfl 0 (by decide) (htb _ k_2_223) (fun _ h9 => h9) rfl d_Mo_join_31 ?_
    refine lv_if_le (tgt := 39) hx hb d_Mo_join_34 (by decide) (fun hc34 => absurd hc34 (by decide)) (fun hc34 => ?_)
    refine lv_iconst (v := 0) hx hb d_Mo_join_37 (by decide) ?_
    exact gh_iret hx hb hr hlk rfl hG d_Mo_join_38 (rB_1 (by simp [v_badJ, hc2]) ⟨rfl, (wM_mk hq1 znm_1 zfr_1 zhs_1 zva_1 ztp_1 zdn_1 zvt zvd ztd (by omega) (by omega)), (frM_up zf0 zmo rfl)⟩)
  · skip
    refine lv_iload_n hx hb d_Mo_join_5 rfl (lv_at hl 1 rfl) ?_
    refine lv_iconst (v := 3) hx hb d_Mo_join_6 (by decide) ?_
    refine lv_icmp_le (tgt := 14) hx hb d_Mo_join_7 (by decide) (fun hc7 => ?_) (fun hc7 => ?_)
    · skip
      refine lv_aload_n hx hb d_Mo_join_14 rfl (lv_at hl 0 rfl) ?_
      refine gh_get (ci := 5) hx hb htb in_Mo hown hK hG zmo rfl 4 (by decide) (htb _ k_2_227) (fun _ h9 => h9) rfl d_Mo_join_15 ?_
      refine lv_iconst (v := 2) hx hb d_Mo_join_18 (by decide) ?_
      refine lv_icmp_ge (tgt := 26) hx hb d_Mo_join_19 (by decide) (fun hc19 => ?_) (fun hc19 => ?_)
      · skip
        replace hc19 : 2 ≤ my := (nc_le (a := 2) (b := my) (by omega) (by omega) rfl rfl).mp hc19
        refine lv_iconst (v := 0) hx hb d_Mo_join_26 (by decide) ?_
        refine gh_put (ci := 5) (ty := .int) hx hb htb in_Mo t_Mo ty_Mo nm_Mo hown hK hG zmo rfl 0 (by decide) (htb _ k_2_223) (fun _ h9 => h9) rfl (by decide +kernel) rfl rfl (Nat.le_of_ble_eq_true rfl) d_Mo_join_27 (fun H l9 hG => ?_)
        have hq2 : (gh_up h mo (.inr (5, [.int 0, .int (nI g), .ref nm, .ref fr, .int (nI my), .ref hs, .ref va, .ref tp, .ref dn]))) mo = some (.inr (5, [.int 0, .int (nI g), .ref nm, .ref fr, .int (nI my), .ref hs, .ref va, .ref tp, .ref dn])) := gh_self _ _ _
        replace hG : gh_P D vC b0 (gh_up h mo (.inr (5, [.int 0, .int (nI g), .ref nm, .ref fr, .int (nI my), .ref hs, .ref va, .ref tp, .ref dn]))) s.heap _ _ := hG
        have znm_2 : (gh_up h mo (.inr (5, [.int 0, .int (nI g), .ref nm, .ref fr, .int (nI my), .ref hs, .ref va, .ref tp, .ref dn]))) nm = some (.inl (cI, 24, .inl nf)) := gh_keep zmo znm (by simp)
        have zfr_2 : (gh_up h mo (.inr (5, [.int 0, .int (nI g), .ref nm, .ref fr, .int (nI my), .ref hs, .ref va, .ref tp, .ref dn]))) fr = some (.inl (cI, 8, .inl ff)) := gh_keep zmo zfr (by simp)
        have zhs_2 : (gh_up h mo (.inr (5, [.int 0, .int (nI g), .ref nm, .ref fr, .int (nI my), .ref hs, .ref va, .ref tp, .ref dn]))) hs = some (.inl (cJ, 24, .inr (.inl hf))) := gh_keep zmo zhs (by simp)
        have zva_2 : (gh_up h mo (.inr (5, [.int 0, .int (nI g), .ref nm, .ref fr, .int (nI my), .ref hs, .ref va, .ref tp, .ref dn]))) va = some (.inl (cJ, 8, .inr (.inl vf))) := gh_keep zmo zva (by simp)
        have ztp_2 : (gh_up h mo (.inr (5, [.int 0, .int (nI g), .ref nm, .ref fr, .int (nI my), .ref hs, .ref va, .ref tp, .ref dn]))) tp = some (.inl (cJ, 8, .inr (.inl tf))) := gh_keep zmo ztp (by simp)
        have zdn_2 : (gh_up h mo (.inr (5, [.int 0, .int (nI g), .ref nm, .ref fr, .int (nI my), .ref hs, .ref va, .ref tp, .ref dn]))) dn = some (.inl (cJ, 8, .inr (.inl df))) := gh_keep zmo zdn (by simp)
        refine lv_aload_n hx hb d_Mo_join_30 rfl (lv_at hl 0 rfl) ?_
        refine gh_get (ci := 5) hx hb htb in_Mo hown hK hG hq2 rfl 0 (by decide) (htb _ k_2_223) (fun _ h9 => h9) rfl d_Mo_join_31 ?_
        refine lv_if_le (tgt := 39) hx hb d_Mo_join_34 (by decide) (fun hc34 => ?_) (fun hc34 => absurd hc34 (by decide))
        refine lv_aload_n hx hb d_Mo_join_39 rfl (lv_at hl 0 rfl) ?_
        refine lv_dup hx hb d_Mo_join_40 rfl ?_
        refine gh_get (ci := 5) hx hb htb in_Mo hown hK hG hq2 rfl 4 (by decide) (htb _ k_2_227) (fun _ h9 => h9) rfl d_Mo_join_41 ?_
        refine lv_iconst (v := 1) hx hb d_Mo_join_44 (by decide) ?_
        refine lv_isub hx hb d_Mo_join_45 ?_
        rw [show nI my - 1 = nI (my - 1) from pk_sub (a := my) (b := 1) (by omega)]
        refine gh_put (ci := 5) (ty := .int) hx hb htb in_Mo t_Mo ty_Mo nm_Mo hown hK hG hq2 rfl 4 (by decide) (htb _ k_2_227) (fun _ h9 => h9) rfl (by decide +kernel) rfl rfl (Nat.le_of_ble_eq_true rfl) d_Mo_join_46 (fun H l9 hG => ?_)
        have hq3 : (gh_up (gh_up h mo (.inr (5, [.int 0, .int (nI g), .ref nm, .ref fr, .int (nI my), .ref hs, .ref va, .ref tp, .ref dn]))) mo (.inr (5, [.int 0, .int (nI g), .ref nm, .ref fr, .int (nI (my - 1)), .ref hs, .ref va, .ref tp, .ref dn]))) mo = some (.inr (5, [.int 0, .int (nI g), .ref nm, .ref fr, .int (nI (my - 1)), .ref hs, .ref va, .ref tp, .ref dn])) := gh_self _ _ _
        replace hG : gh_P D vC b0 (gh_up (gh_up h mo (.inr (5, [.int 0, .int (nI g), .ref nm, .ref fr, .int (nI my), .ref hs, .ref va, .ref tp, .ref dn]))) mo (.inr (5, [.int 0, .int (nI g), .ref nm, .ref fr, .int (nI (my - 1)), .ref hs, .ref va, .ref tp, .ref dn]))) s.heap _ _ := hG
        have znm_3 : (gh_up (gh_up h mo (.inr (5, [.int 0, .int (nI g), .ref nm, .ref fr, .int (nI my), .ref hs, .ref va, .ref tp, .ref dn]))) mo (.inr (5, [.int 0, .int (nI g), .ref nm, .ref fr, .int (nI (my - 1)), .ref hs, .ref va, .ref tp, .ref dn]))) nm = some (.inl (cI, 24, .inl nf)) := gh_keep hq2 znm_2 (by simp)
        have zfr_3 : (gh_up (gh_up h mo (.inr (5, [.int 0, .int (nI g), .ref nm, .ref fr, .int (nI my), .ref hs, .ref va, .ref tp, .ref dn]))) mo (.inr (5, [.int 0, .int (nI g), .ref nm, .ref fr, .int (nI (my - 1)), .ref hs, .ref va, .ref tp, .ref dn]))) fr = some (.inl (cI, 8, .inl ff)) := gh_keep hq2 zfr_2 (by simp)
        have zhs_3 : (gh_up (gh_up h mo (.inr (5, [.int 0, .int (nI g), .ref nm, .ref fr, .int (nI my), .ref hs, .ref va, .ref tp, .ref dn]))) mo (.inr (5, [.int 0, .int (nI g), .ref nm, .ref fr, .int (nI (my - 1)), .ref hs, .ref va, .ref tp, .ref dn]))) hs = some (.inl (cJ, 24, .inr (.inl hf))) := gh_keep hq2 zhs_2 (by simp)
        have zva_3 : (gh_up (gh_up h mo (.inr (5, [.int 0, .int (nI g), .ref nm, .ref fr, .int (nI my), .ref hs, .ref va, .ref tp, .ref dn]))) mo (.inr (5, [.int 0, .int (nI g), .ref nm, .ref fr, .int (nI (my - 1)), .ref hs, .ref va, .ref tp, .ref dn]))) va = some (.inl (cJ, 8, .inr (.inl vf))) := gh_keep hq2 zva_2 (by simp)
        have ztp_3 : (gh_up (gh_up h mo (.inr (5, [.int 0, .int (nI g), .ref nm, .ref fr, .int (nI my), .ref hs, .ref va, .ref tp, .ref dn]))) mo (.inr (5, [.int 0, .int (nI g), .ref nm, .ref fr, .int (nI (my - 1)), .ref hs, .ref va, .ref tp, .ref dn]))) tp = some (.inl (cJ, 8, .inr (.inl tf))) := gh_keep hq2 ztp_2 (by simp)
        have zdn_3 : (gh_up (gh_up h mo (.inr (5, [.int 0, .int (nI g), .ref nm, .ref fr, .int (nI my), .ref hs, .ref va, .ref tp, .ref dn]))) mo (.inr (5, [.int 0, .int (nI g), .ref nm, .ref fr, .int (nI (my - 1)), .ref hs, .ref va, .ref tp, .ref dn]))) dn = some (.inl (cJ, 8, .inr (.inl df))) := gh_keep hq2 zdn_2 (by simp)
        refine lv_iconst (v := 0) hx hb d_Mo_join_49 (by decide) ?_
        refine lv_istore_n (lv' := [(2, .int 0), (0, .ref mo), (1, .int how)]) hx hb d_Mo_join_50 rfl hl (by decide) rfl (fun ls hl => ?_)
        refine gh_gen hG (fun H l9 hG => ?_)
        refine lp_upH (α := gh_M × (Nat → Int64)) (G := fun ls H l9 => W p l e _ s m _ below meth c H l9 _ _ _ (F0 m 51 ls [])) 4 (fun k w1 ls H l9 => (wM cI cJ w1.1 mo nm fr hs va tp dn 0 g (my - 1) nf ff w1.2 vf tf df ∧ frM h w1.1 ∧ ((∀ j, j < k → w1.2 (4 * (my - 1) - 4 + j) = v_jn how (hf (4 * (my - 1) - 4 + j)) (hf (4 * (my - 1) + j))) ∧ (∀ j, j < 4 * (my - 1) - 4 → w1.2 j = hf j) ∧ ∀ j, 4 * (my - 1) - 4 + k ≤ j → w1.2 j = hf j)) ∧ lv_has ls 7 [(0, .ref mo), (1, .int how), (2, .int (nI k))] ∧ gh_P D vC b0 w1.1 s.heap H l9) ?_ 0 (gh_up (gh_up h mo (.inr (5, [.int 0, .int (nI g), .ref nm, .ref fr, .int (nI my), .ref hs, .ref va, .ref tp, .ref dn]))) mo (.inr (5, [.int 0, .int (nI g), .ref nm, .ref fr, .int (nI (my - 1)), .ref hs, .ref va, .ref tp, .ref dn])), hf) ls H l9 (Nat.zero_le _) ⟨⟨(wM_mk hq3 znm_3 zfr_3 zhs_3 zva_3 ztp_3 zdn_3 zvt zvd ztd (by omega) (by omega)), (frM_up (frM_up zf0 zmo rfl) hq2 rfl), (fun j hj => absurd hj (Nat.not_lt_zero j)), (fun j _ => rfl), (fun j _ => rfl)⟩, (lv_sub hl [1, 2, 0] rfl), hG⟩
        intro k w1 ls H l9 hk hI ih
        obtain ⟨hi1, hl, hG⟩ := hI
        obtain ⟨⟨zmo, znm, zfr, zhs, zva, ztp, zdn, zvt, zvd, ztd, zg, zy⟩, zf, zs⟩ := hi1
        refine lv_iload_n hx hb d_Mo_join_51 rfl (lv_at hl 2 rfl) ?_
        refine lv_iconst (v := 4) hx hb d_Mo_join_52 (by decide) ?_
        refine lv_icmp_ge (tgt := 151) hx hb d_Mo_join_53 (by decide) (fun hc53 => ?_) (fun hc53 => ?_)
        · skip
          replace hc53 : 4 ≤ k := (nc_le (a := 4) (b := k) (by omega) (by omega) rfl rfl).mp hc53
          refine lv_aload_n hx hb d_Mo_join_151 rfl (lv_at hl 0 rfl) ?_
          refine gh_get (ci := 5) hx hb htb in_Mo hown hK hG zmo rfl 4 (by decide) (htb _ k_2_227) (fun _ h9 => h9) rfl d_Mo_join_152 ?_
          exact gh_iret hx hb hr hlk rfl hG d_Mo_join_155 (rB_0 (by simp [v_badJ, hc2, hc7]) (rB_0 (decide_eq_false (by omega)) ⟨rfl, w1.2, (fun j hj => zs.1 j (by omega)), zs.2.1, (wM_mk zmo znm zfr zhs zva ztp zdn zvt zvd ztd (by omega) (by omega)), zf⟩))
        · skip
          replace hc53 : ¬ 4 ≤ k := fun q9 => hc53 ((nc_le (a := 4) (b := k) (by omega) (by omega) rfl rfl).mpr q9)
          refine lv_aload_n hx hb d_Mo_join_56 rfl (lv_at hl 0 rfl) ?_
          refine gh_get (ci := 5) hx hb htb in_Mo hown hK hG zmo rfl 5 (by decide) (htb _ k_2_228) (fun _ h9 => h9) rfl d_Mo_join_57 ?_
          refine lv_iconst (v := 4) hx hb d_Mo_join_60 (by decide) ?_
          refine lv_aload_n hx hb d_Mo_join_61 rfl (lv_at hl 0 rfl) ?_
          refine gh_get (ci := 5) hx hb htb in_Mo hown hK hG zmo rfl 4 (by decide) (htb _ k_2_227) (fun _ h9 => h9) rfl d_Mo_join_62 ?_
          refine lv_imul hx hb d_Mo_join_65 ?_
          rw [show 4 * (nI (my - 1)) = nI (4 * (my - 1)) from nm_mul 4 (my - 1)]
          refine lv_iconst (v := 4) hx hb d_Mo_join_66 (by decide) ?_
          refine lv_isub hx hb d_Mo_join_67 ?_
          rw [show nI (4 * (my - 1)) - 4 = nI ((4 * (my - 1)) - 4) from pk_sub (a := (4 * (my - 1))) (b := 4) (by omega)]
          refine lv_iload_n hx hb d_Mo_join_68 rfl (lv_at hl 2 rfl) ?_
          refine lv_iadd hx hb d_Mo_join_69 ?_
          rw [show (nI ((4 * (my - 1)) - 4)) + (nI k) = nI (((4 * (my - 1)) - 4) + k) from nI_add ((4 * (my - 1)) - 4) k]
          refine gh_lald (v := w1.2 (((4 * (my - 1)) - 4) + k)) hx hb hK hG 1 zhs rfl (vp_in_nI (by omega) (by decide)) (by rw [nI_clamp (by omega)]) d_Mo_join_70 ?_
          refine lv_lstore_n (lv' := [(3, .long (w1.2 (((4 * (my - 1)) - 4) + k))), (0, .ref mo), (1, .int how), (2, .int (nI k))]) hx hb d_Mo_join_71 rfl hl (by decide) rfl (fun ls hl => ?_)
          refine lv_aload_n hx hb d_Mo_join_72 rfl (lv_at hl 1 rfl) ?_
          refine gh_get (ci := 5) hx hb htb in_Mo hown hK hG zmo rfl 5 (by decide) (htb _ k_2_228) (fun _ h9 => h9) rfl d_Mo_join_73 ?_
          refine lv_iconst (v := 4) hx hb d_Mo_join_76 (by decide) ?_
          refine lv_aload_n hx hb d_Mo_join_77 rfl (lv_at hl 1 rfl) ?_
          refine gh_get (ci := 5) hx hb htb in_Mo hown hK hG zmo rfl 4 (by decide) (htb _ k_2_227) (fun _ h9 => h9) rfl d_Mo_join_78 ?_
          refine lv_imul hx hb d_Mo_join_81 ?_
          rw [show 4 * (nI (my - 1)) = nI (4 * (my - 1)) from nm_mul 4 (my - 1)]
          refine lv_iload_n hx hb d_Mo_join_82 rfl (lv_at hl 3 rfl) ?_
          refine lv_iadd hx hb d_Mo_join_83 ?_
          rw [show (nI (4 * (my - 1))) + (nI k) = nI ((4 * (my - 1)) + k) from nI_add (4 * (my - 1)) k]
          refine gh_lald (v := w1.2 ((4 * (my - 1)) + k)) hx hb hK hG 1 zhs rfl (vp_in_nI (by omega) (by decide)) (by rw [nI_clamp (by omega)]) d_Mo_join_84 ?_
          refine lv_lstore (lv' := [(5, .long (w1.2 ((4 * (my - 1)) + k))), (3, .long (w1.2 (((4 * (my - 1)) - 4) + k))), (0, .ref mo), (1, .int how), (2, .int (nI k))]) hx hb d_Mo_join_85 hl (by decide) rfl (fun ls hl => ?_)
          refine lv_aload_n hx hb d_Mo_join_87 rfl (lv_at hl 2 rfl) ?_
          refine gh_get (ci := 5) hx hb htb in_Mo hown hK hG zmo rfl 5 (by decide) (htb _ k_2_228) (fun _ h9 => h9) rfl d_Mo_join_88 ?_
          refine lv_iconst (v := 4) hx hb d_Mo_join_91 (by decide) ?_
          refine lv_aload_n hx hb d_Mo_join_92 rfl (lv_at hl 2 rfl) ?_
          refine gh_get (ci := 5) hx hb htb in_Mo hown hK hG zmo rfl 4 (by decide) (htb _ k_2_227) (fun _ h9 => h9) rfl d_Mo_join_93 ?_
          refine lv_imul hx hb d_Mo_join_96 ?_
          rw [show 4 * (nI (my - 1)) = nI (4 * (my - 1)) from nm_mul 4 (my - 1)]
          refine lv_iconst (v := 4) hx hb d_Mo_join_97 (by decide) ?_
          refine lv_isub hx hb d_Mo_join_98 ?_
          rw [show nI (4 * (my - 1)) - 4 = nI ((4 * (my - 1)) - 4) from pk_sub (a := (4 * (my - 1))) (b := 4) (by omega)]
          refine lv_iload_n hx hb d_Mo_join_99 rfl (lv_at hl 4 rfl) ?_
          refine lv_iadd hx hb d_Mo_join_100 ?_
          rw [show (nI ((4 * (my - 1)) - 4)) + (nI k) = nI (((4 * (my - 1)) - 4) + k) from nI_add ((4 * (my - 1)) - 4) k]
          refine lv_iload_n hx hb d_Mo_join_101 rfl (lv_at hl 3 rfl) ?_
          refine lv_if_ne (tgt := 112) hx hb d_Mo_join_102 (by decide) (fun hc102 => ?_) (fun hc102 => ?_)
          · skip
            refine lv_iload_n hx hb d_Mo_join_112 rfl (lv_at hl 3 rfl) ?_
            refine lv_iconst (v := 1) hx hb d_Mo_join_113 (by decide) ?_
            refine lv_icmp_ne (tgt := 124) hx hb d_Mo_join_114 (by decide) (fun hc114 => ?_) (fun hc114 => ?_)
            · skip
              refine lv_iload_n hx hb d_Mo_join_124 rfl (lv_at hl 3 rfl) ?_
              refine lv_iconst (v := 2) hx hb d_Mo_join_125 (by decide) ?_
              refine lv_icmp_ne (tgt := 140) hx hb d_Mo_join_126 (by decide) (fun hc126 => ?_) (fun hc126 => ?_)
              · skip
                refine lv_lload_n hx hb d_Mo_join_140 rfl (lv_at hl 1 rfl) ?_
                refine lv_lload hx hb d_Mo_join_141 (lv_at hl 0 rfl) ?_
                refine lv_lxor hx hb d_Mo_join_143 ?_
                refine gh_last hx hb hK hG 1 zhs rfl (vp_in_nI (by omega) (by decide)) d_Mo_join_144 (fun H l9 hG => ?_)
                rw [nI_clamp (by omega)] at hG
                have hq4 : (gh_up w1.1 hs (.inl (cJ, 24, .inr (.inl (vp_updL w1.2 (((4 * (my - 1)) - 4) + k) ((w1.2 (((4 * (my - 1)) - 4) + k)) ^^^ (w1.2 ((4 * (my - 1)) + k)))))))) hs = some (.inl (cJ, 24, .inr (.inl (vp_updL w1.2 (((4 * (my - 1)) - 4) + k) ((w1.2 (((4 * (my - 1)) - 4) + k)) ^^^ (w1.2 ((4 * (my - 1)) + k))))))) := gh_self _ _ _
                replace hG : gh_P D vC b0 (gh_up w1.1 hs (.inl (cJ, 24, .inr (.inl (vp_updL w1.2 (((4 * (my - 1)) - 4) + k) ((w1.2 (((4 * (my - 1)) - 4) + k)) ^^^ (w1.2 ((4 * (my - 1)) + k)))))))) s.heap _ _ := hG
                have zmo_4 : (gh_up w1.1 hs (.inl (cJ, 24, .inr (.inl (vp_updL w1.2 (((4 * (my - 1)) - 4) + k) ((w1.2 (((4 * (my - 1)) - 4) + k)) ^^^ (w1.2 ((4 * (my - 1)) + k)))))))) mo = some (.inr (5, [.int 0, .int (nI g), .ref nm, .ref fr, .int (nI (my - 1)), .ref hs, .ref va, .ref tp, .ref dn])) := gh_keep zhs zmo (by simp)
                have znm_4 : (gh_up w1.1 hs (.inl (cJ, 24, .inr (.inl (vp_updL w1.2 (((4 * (my - 1)) - 4) + k) ((w1.2 (((4 * (my - 1)) - 4) + k)) ^^^ (w1.2 ((4 * (my - 1)) + k)))))))) nm = some (.inl (cI, 24, .inl nf)) := gh_keep zhs znm (by simp)
                have zfr_4 : (gh_up w1.1 hs (.inl (cJ, 24, .inr (.inl (vp_updL w1.2 (((4 * (my - 1)) - 4) + k) ((w1.2 (((4 * (my - 1)) - 4) + k)) ^^^ (w1.2 ((4 * (my - 1)) + k)))))))) fr = some (.inl (cI, 8, .inl ff)) := gh_keep zhs zfr (by simp)
                have zva_4 : (gh_up w1.1 hs (.inl (cJ, 24, .inr (.inl (vp_updL w1.2 (((4 * (my - 1)) - 4) + k) ((w1.2 (((4 * (my - 1)) - 4) + k)) ^^^ (w1.2 ((4 * (my - 1)) + k)))))))) va = some (.inl (cJ, 8, .inr (.inl vf))) := gh_keep zhs zva (by simp)
                have ztp_4 : (gh_up w1.1 hs (.inl (cJ, 24, .inr (.inl (vp_updL w1.2 (((4 * (my - 1)) - 4) + k) ((w1.2 (((4 * (my - 1)) - 4) + k)) ^^^ (w1.2 ((4 * (my - 1)) + k)))))))) tp = some (.inl (cJ, 8, .inr (.inl tf))) := gh_keep zhs ztp (by simp)
                have zdn_4 : (gh_up w1.1 hs (.inl (cJ, 24, .inr (.inl (vp_updL w1.2 (((4 * (my - 1)) - 4) + k) ((w1.2 (((4 * (my - 1)) - 4) + k)) ^^^ (w1.2 ((4 * (my - 1)) + k)))))))) dn = some (.inl (cJ, 8, .inr (.inl df))) := gh_keep zhs zdn (by simp)
                refine lv_iinc (k := 4) (v := nI (k + 1)) (lv' := [(2, .int (nI (k + 1))), (5, .long (w1.2 ((4 * (my - 1)) + k))), (3, .long (w1.2 (((4 * (my - 1)) - 4) + k))), (0, .ref mo), (1, .int how)]) hx hb d_Mo_join_145 hl rfl (nI_1 k) (by decide) rfl (fun ls hl => ?_)
                refine lv_goto (tgt := 51) hx hb d_Mo_join_148 (by decide) ?_
                exact ih (gh_up w1.1 hs (.inl (cJ, 24, .inr (.inl (vp_updL w1.2 (((4 * (my - 1)) - 4) + k) ((w1.2 (((4 * (my - 1)) - 4) + k)) ^^^ (w1.2 ((4 * (my - 1)) + k))))))), (vp_updL w1.2 (((4 * (my - 1)) - 4) + k) ((w1.2 (((4 * (my - 1)) - 4) + k)) ^^^ (w1.2 ((4 * (my - 1)) + k))))) ls H l9 (by omega) ⟨⟨(wM_mk zmo_4 znm_4 zfr_4 hq4 zva_4 ztp_4 zdn_4 zvt zvd ztd (by omega) (by omega)), (frM_up zf zhs rfl), w_in (g := fun j => v_jn how (hf (4 * (my - 1) - 4 + j)) (hf (4 * (my - 1) + j))) zs.1 (by rw [zs.2.2 _ (Nat.le_refl _), zs.2.2 (4 * (my - 1) + k) (by omega)]; unfold v_jn; rw [if_neg hc102, if_neg hc114, if_neg hc126]), w_lo zs.2.1 (by omega), w_hi zs.2.2⟩, (lv_sub hl [3, 4, 0] rfl), hG⟩
              · skip
                refine lv_lload_n hx hb d_Mo_join_129 rfl (lv_at hl 1 rfl) ?_
                refine lv_lload hx hb d_Mo_join_130 (lv_at hl 0 rfl) ?_
                refine lv_ldc2 (v := (-1)) hx hb hown (htb _ k_3_36) d_Mo_join_132 ?_
                refine lv_lxor hx hb d_Mo_join_135 ?_
                refine lv_land hx hb d_Mo_join_136 ?_
                refine lv_goto (tgt := 144) hx hb d_Mo_join_137 (by decide) ?_
                refine gh_last hx hb hK hG 1 zhs rfl (vp_in_nI (by omega) (by decide)) d_Mo_join_144 (fun H l9 hG => ?_)
                rw [nI_clamp (by omega)] at hG
                have hq5 : (gh_up w1.1 hs (.inl (cJ, 24, .inr (.inl (vp_updL w1.2 (((4 * (my - 1)) - 4) + k) ((w1.2 (((4 * (my - 1)) - 4) + k)) &&& ((w1.2 ((4 * (my - 1)) + k)) ^^^ (-1)))))))) hs = some (.inl (cJ, 24, .inr (.inl (vp_updL w1.2 (((4 * (my - 1)) - 4) + k) ((w1.2 (((4 * (my - 1)) - 4) + k)) &&& ((w1.2 ((4 * (my - 1)) + k)) ^^^ (-1))))))) := gh_self _ _ _
                replace hG : gh_P D vC b0 (gh_up w1.1 hs (.inl (cJ, 24, .inr (.inl (vp_updL w1.2 (((4 * (my - 1)) - 4) + k) ((w1.2 (((4 * (my - 1)) - 4) + k)) &&& ((w1.2 ((4 * (my - 1)) + k)) ^^^ (-1)))))))) s.heap _ _ := hG
                have zmo_5 : (gh_up w1.1 hs (.inl (cJ, 24, .inr (.inl (vp_updL w1.2 (((4 * (my - 1)) - 4) + k) ((w1.2 (((4 * (my - 1)) - 4) + k)) &&& ((w1.2 ((4 * (my - 1)) + k)) ^^^ (-1)))))))) mo = some (.inr (5, [.int 0, .int (nI g), .ref nm, .ref fr, .int (nI (my - 1)), .ref hs, .ref va, .ref tp, .ref dn])) := gh_keep zhs zmo (by simp)
                have znm_5 : (gh_up w1.1 hs (.inl (cJ, 24, .inr (.inl (vp_updL w1.2 (((4 * (my - 1)) - 4) + k) ((w1.2 (((4 * (my - 1)) - 4) + k)) &&& ((w1.2 ((4 * (my - 1)) + k)) ^^^ (-1)))))))) nm = some (.inl (cI, 24, .inl nf)) := gh_keep zhs znm (by simp)
                have zfr_5 : (gh_up w1.1 hs (.inl (cJ, 24, .inr (.inl (vp_updL w1.2 (((4 * (my - 1)) - 4) + k) ((w1.2 (((4 * (my - 1)) - 4) + k)) &&& ((w1.2 ((4 * (my - 1)) + k)) ^^^ (-1)))))))) fr = some (.inl (cI, 8, .inl ff)) := gh_keep zhs zfr (by simp)
                have zva_5 : (gh_up w1.1 hs (.inl (cJ, 24, .inr (.inl (vp_updL w1.2 (((4 * (my - 1)) - 4) + k) ((w1.2 (((4 * (my - 1)) - 4) + k)) &&& ((w1.2 ((4 * (my - 1)) + k)) ^^^ (-1)))))))) va = some (.inl (cJ, 8, .inr (.inl vf))) := gh_keep zhs zva (by simp)
                have ztp_5 : (gh_up w1.1 hs (.inl (cJ, 24, .inr (.inl (vp_updL w1.2 (((4 * (my - 1)) - 4) + k) ((w1.2 (((4 * (my - 1)) - 4) + k)) &&& ((w1.2 ((4 * (my - 1)) + k)) ^^^ (-1)))))))) tp = some (.inl (cJ, 8, .inr (.inl tf))) := gh_keep zhs ztp (by simp)
                have zdn_5 : (gh_up w1.1 hs (.inl (cJ, 24, .inr (.inl (vp_updL w1.2 (((4 * (my - 1)) - 4) + k) ((w1.2 (((4 * (my - 1)) - 4) + k)) &&& ((w1.2 ((4 * (my - 1)) + k)) ^^^ (-1)))))))) dn = some (.inl (cJ, 8, .inr (.inl df))) := gh_keep zhs zdn (by simp)
                refine lv_iinc (k := 4) (v := nI (k + 1)) (lv' := [(2, .int (nI (k + 1))), (5, .long (w1.2 ((4 * (my - 1)) + k))), (3, .long (w1.2 (((4 * (my - 1)) - 4) + k))), (0, .ref mo), (1, .int how)]) hx hb d_Mo_join_145 hl rfl (nI_1 k) (by decide) rfl (fun ls hl => ?_)
                refine lv_goto (tgt := 51) hx hb d_Mo_join_148 (by decide) ?_
                exact ih (gh_up w1.1 hs (.inl (cJ, 24, .inr (.inl (vp_updL w1.2 (((4 * (my - 1)) - 4) + k) ((w1.2 (((4 * (my - 1)) - 4) + k)) &&& ((w1.2 ((4 * (my - 1)) + k)) ^^^ (-1))))))), (vp_updL w1.2 (((4 * (my - 1)) - 4) + k) ((w1.2 (((4 * (my - 1)) - 4) + k)) &&& ((w1.2 ((4 * (my - 1)) + k)) ^^^ (-1))))) ls H l9 (by omega) ⟨⟨(wM_mk zmo_5 znm_5 zfr_5 hq5 zva_5 ztp_5 zdn_5 zvt zvd ztd (by omega) (by omega)), (frM_up zf zhs rfl), w_in (g := fun j => v_jn how (hf (4 * (my - 1) - 4 + j)) (hf (4 * (my - 1) + j))) zs.1 (by rw [zs.2.2 _ (Nat.le_refl _), zs.2.2 (4 * (my - 1) + k) (by omega)]; unfold v_jn; rw [if_neg hc102, if_neg hc114, if_pos hc126]), w_lo zs.2.1 (by omega), w_hi zs.2.2⟩, (lv_sub hl [3, 4, 0] rfl), hG⟩
            · skip
              refine lv_lload_n hx hb d_Mo_join_117 rfl (lv_at hl 1 rfl) ?_
              refine lv_lload hx hb d_Mo_join_118 (lv_at hl 0 rfl) ?_
              refine lv_land hx hb d_Mo_join_120 ?_
              refine lv_goto (tgt := 144) hx hb d_Mo_join_121 (by decide) ?_
              refine gh_last hx hb hK hG 1 zhs rfl (vp_in_nI (by omega) (by decide)) d_Mo_join_144 (fun H l9 hG => ?_)
              rw [nI_clamp (by omega)] at hG
              have hq6 : (gh_up w1.1 hs (.inl (cJ, 24, .inr (.inl (vp_updL w1.2 (((4 * (my - 1)) - 4) + k) ((w1.2 (((4 * (my - 1)) - 4) + k)) &&& (w1.2 ((4 * (my - 1)) + k)))))))) hs = some (.inl (cJ, 24, .inr (.inl (vp_updL w1.2 (((4 * (my - 1)) - 4) + k) ((w1.2 (((4 * (my - 1)) - 4) + k)) &&& (w1.2 ((4 * (my - 1)) + k))))))) := gh_self _ _ _
              replace hG : gh_P D vC b0 (gh_up w1.1 hs (.inl (cJ, 24, .inr (.inl (vp_updL w1.2 (((4 * (my - 1)) - 4) + k) ((w1.2 (((4 * (my - 1)) - 4) + k)) &&& (w1.2 ((4 * (my - 1)) + k)))))))) s.heap _ _ := hG
              have zmo_6 : (gh_up w1.1 hs (.inl (cJ, 24, .inr (.inl (vp_updL w1.2 (((4 * (my - 1)) - 4) + k) ((w1.2 (((4 * (my - 1)) - 4) + k)) &&& (w1.2 ((4 * (my - 1)) + k)))))))) mo = some (.inr (5, [.int 0, .int (nI g), .ref nm, .ref fr, .int (nI (my - 1)), .ref hs, .ref va, .ref tp, .ref dn])) := gh_keep zhs zmo (by simp)
              have znm_6 : (gh_up w1.1 hs (.inl (cJ, 24, .inr (.inl (vp_updL w1.2 (((4 * (my - 1)) - 4) + k) ((w1.2 (((4 * (my - 1)) - 4) + k)) &&& (w1.2 ((4 * (my - 1)) + k)))))))) nm = some (.inl (cI, 24, .inl nf)) := gh_keep zhs znm (by simp)
              have zfr_6 : (gh_up w1.1 hs (.inl (cJ, 24, .inr (.inl (vp_updL w1.2 (((4 * (my - 1)) - 4) + k) ((w1.2 (((4 * (my - 1)) - 4) + k)) &&& (w1.2 ((4 * (my - 1)) + k)))))))) fr = some (.inl (cI, 8, .inl ff)) := gh_keep zhs zfr (by simp)
              have zva_6 : (gh_up w1.1 hs (.inl (cJ, 24, .inr (.inl (vp_updL w1.2 (((4 * (my - 1)) - 4) + k) ((w1.2 (((4 * (my - 1)) - 4) + k)) &&& (w1.2 ((4 * (my - 1)) + k)))))))) va = some (.inl (cJ, 8, .inr (.inl vf))) := gh_keep zhs zva (by simp)
              have ztp_6 : (gh_up w1.1 hs (.inl (cJ, 24, .inr (.inl (vp_updL w1.2 (((4 * (my - 1)) - 4) + k) ((w1.2 (((4 * (my - 1)) - 4) + k)) &&& (w1.2 ((4 * (my - 1)) + k)))))))) tp = some (.inl (cJ, 8, .inr (.inl tf))) := gh_keep zhs ztp (by simp)
              have zdn_6 : (gh_up w1.1 hs (.inl (cJ, 24, .inr (.inl (vp_updL w1.2 (((4 * (my - 1)) - 4) + k) ((w1.2 (((4 * (my - 1)) - 4) + k)) &&& (w1.2 ((4 * (my - 1)) + k)))))))) dn = some (.inl (cJ, 8, .inr (.inl df))) := gh_keep zhs zdn (by simp)
              refine lv_iinc (k := 4) (v := nI (k + 1)) (lv' := [(2, .int (nI (k + 1))), (5, .long (w1.2 ((4 * (my - 1)) + k))), (3, .long (w1.2 (((4 * (my - 1)) - 4) + k))), (0, .ref mo), (1, .int how)]) hx hb d_Mo_join_145 hl rfl (nI_1 k) (by decide) rfl (fun ls hl => ?_)
              refine lv_goto (tgt := 51) hx hb d_Mo_join_148 (by decide) ?_
              exact ih (gh_up w1.1 hs (.inl (cJ, 24, .inr (.inl (vp_updL w1.2 (((4 * (my - 1)) - 4) + k) ((w1.2 (((4 * (my - 1)) - 4) + k)) &&& (w1.2 ((4 * (my - 1)) + k))))))), (vp_updL w1.2 (((4 * (my - 1)) - 4) + k) ((w1.2 (((4 * (my - 1)) - 4) + k)) &&& (w1.2 ((4 * (my - 1)) + k))))) ls H l9 (by omega) ⟨⟨(wM_mk zmo_6 znm_6 zfr_6 hq6 zva_6 ztp_6 zdn_6 zvt zvd ztd (by omega) (by omega)), (frM_up zf zhs rfl), w_in (g := fun j => v_jn how (hf (4 * (my - 1) - 4 + j)) (hf (4 * (my - 1) + j))) zs.1 (by rw [zs.2.2 _ (Nat.le_refl _), zs.2.2 (4 * (my - 1) + k) (by omega)]; unfold v_jn; rw [if_neg hc102, if_pos hc114]), w_lo zs.2.1 (by omega), w_hi zs.2.2⟩, (lv_sub hl [3, 4, 0] rfl), hG⟩
          · skip
            refine lv_lload_n hx hb d_Mo_join_105 rfl (lv_at hl 1 rfl) ?_
            refine lv_lload hx hb d_Mo_join_106 (lv_at hl 0 rfl) ?_
            refine lv_lor hx hb d_Mo_join_108 ?_
            refine lv_goto (tgt := 144) hx hb d_Mo_join_109 (by decide) ?_
            refine gh_last hx hb hK hG 1 zhs rfl (vp_in_nI (by omega) (by decide)) d_Mo_join_144 (fun H l9 hG => ?_)
            rw [nI_clamp (by omega)] at hG
            have hq7 : (gh_up w1.1 hs (.inl (cJ, 24, .inr (.inl (vp_updL w1.2 (((4 * (my - 1)) - 4) + k) ((w1.2 (((4 * (my - 1)) - 4) + k)) ||| (w1.2 ((4 * (my - 1)) + k)))))))) hs = some (.inl (cJ, 24, .inr (.inl (vp_updL w1.2 (((4 * (my - 1)) - 4) + k) ((w1.2 (((4 * (my - 1)) - 4) + k)) ||| (w1.2 ((4 * (my - 1)) + k))))))) := gh_self _ _ _
            replace hG : gh_P D vC b0 (gh_up w1.1 hs (.inl (cJ, 24, .inr (.inl (vp_updL w1.2 (((4 * (my - 1)) - 4) + k) ((w1.2 (((4 * (my - 1)) - 4) + k)) ||| (w1.2 ((4 * (my - 1)) + k)))))))) s.heap _ _ := hG
            have zmo_7 : (gh_up w1.1 hs (.inl (cJ, 24, .inr (.inl (vp_updL w1.2 (((4 * (my - 1)) - 4) + k) ((w1.2 (((4 * (my - 1)) - 4) + k)) ||| (w1.2 ((4 * (my - 1)) + k)))))))) mo = some (.inr (5, [.int 0, .int (nI g), .ref nm, .ref fr, .int (nI (my - 1)), .ref hs, .ref va, .ref tp, .ref dn])) := gh_keep zhs zmo (by simp)
            have znm_7 : (gh_up w1.1 hs (.inl (cJ, 24, .inr (.inl (vp_updL w1.2 (((4 * (my - 1)) - 4) + k) ((w1.2 (((4 * (my - 1)) - 4) + k)) ||| (w1.2 ((4 * (my - 1)) + k)))))))) nm = some (.inl (cI, 24, .inl nf)) := gh_keep zhs znm (by simp)
            have zfr_7 : (gh_up w1.1 hs (.inl (cJ, 24, .inr (.inl (vp_updL w1.2 (((4 * (my - 1)) - 4) + k) ((w1.2 (((4 * (my - 1)) - 4) + k)) ||| (w1.2 ((4 * (my - 1)) + k)))))))) fr = some (.inl (cI, 8, .inl ff)) := gh_keep zhs zfr (by simp)
            have zva_7 : (gh_up w1.1 hs (.inl (cJ, 24, .inr (.inl (vp_updL w1.2 (((4 * (my - 1)) - 4) + k) ((w1.2 (((4 * (my - 1)) - 4) + k)) ||| (w1.2 ((4 * (my - 1)) + k)))))))) va = some (.inl (cJ, 8, .inr (.inl vf))) := gh_keep zhs zva (by simp)
            have ztp_7 : (gh_up w1.1 hs (.inl (cJ, 24, .inr (.inl (vp_updL w1.2 (((4 * (my - 1)) - 4) + k) ((w1.2 (((4 * (my - 1)) - 4) + k)) ||| (w1.2 ((4 * (my - 1)) + k)))))))) tp = some (.inl (cJ, 8, .inr (.inl tf))) := gh_keep zhs ztp (by simp)
            have zdn_7 : (gh_up w1.1 hs (.inl (cJ, 24, .inr (.inl (vp_updL w1.2 (((4 * (my - 1)) - 4) + k) ((w1.2 (((4 * (my - 1)) - 4) + k)) ||| (w1.2 ((4 * (my - 1)) + k)))))))) dn = some (.inl (cJ, 8, .inr (.inl df))) := gh_keep zhs zdn (by simp)
            refine lv_iinc (k := 4) (v := nI (k + 1)) (lv' := [(2, .int (nI (k + 1))), (5, .long (w1.2 ((4 * (my - 1)) + k))), (3, .long (w1.2 (((4 * (my - 1)) - 4) + k))), (0, .ref mo), (1, .int how)]) hx hb d_Mo_join_145 hl rfl (nI_1 k) (by decide) rfl (fun ls hl => ?_)
            refine lv_goto (tgt := 51) hx hb d_Mo_join_148 (by decide) ?_
            exact ih (gh_up w1.1 hs (.inl (cJ, 24, .inr (.inl (vp_updL w1.2 (((4 * (my - 1)) - 4) + k) ((w1.2 (((4 * (my - 1)) - 4) + k)) ||| (w1.2 ((4 * (my - 1)) + k))))))), (vp_updL w1.2 (((4 * (my - 1)) - 4) + k) ((w1.2 (((4 * (my - 1)) - 4) + k)) ||| (w1.2 ((4 * (my - 1)) + k))))) ls H l9 (by omega) ⟨⟨(wM_mk zmo_7 znm_7 zfr_7 hq7 zva_7 ztp_7 zdn_7 zvt zvd ztd (by omega) (by omega)), (frM_up zf zhs rfl), w_in (g := fun j => v_jn how (hf (4 * (my - 1) - 4 + j)) (hf (4 * (my - 1) + j))) zs.1 (by rw [zs.2.2 _ (Nat.le_refl _), zs.2.2 (4 * (my - 1) + k) (by omega)]; unfold v_jn; rw [if_pos hc102]), w_lo zs.2.1 (by omega), w_hi zs.2.2⟩, (lv_sub hl [3, 4, 0] rfl), hG⟩
      · skip
        replace hc19 : ¬ 2 ≤ my := fun q9 => hc19 ((nc_le (a := 2) (b := my) (by omega) (by omega) rfl rfl).mpr q9)
        refine lv_iconst (v := 2) hx hb d_Mo_join_22 (by decide) ?_
        refine lv_goto (tgt := 27) hx hb d_Mo_join_23 (by decide) ?_
        refine gh_put (ci := 5) (ty := .int) hx hb htb in_Mo t_Mo ty_Mo nm_Mo hown hK hG zmo rfl 0 (by decide) (htb _ k_2_223) (fun _ h9 => h9) rfl (by decide +kernel) rfl rfl (Nat.le_of_ble_eq_true rfl) d_Mo_join_27 (fun H l9 hG => ?_)
        have hq8 : (gh_up h mo (.inr (5, [.int 2, .int (nI g), .ref nm, .ref fr, .int (nI my), .ref hs, .ref va, .ref tp, .ref dn]))) mo = some (.inr (5, [.int 2, .int (nI g), .ref nm, .ref fr, .int (nI my), .ref hs, .ref va, .ref tp, .ref dn])) := gh_self _ _ _
        replace hG : gh_P D vC b0 (gh_up h mo (.inr (5, [.int 2, .int (nI g), .ref nm, .ref fr, .int (nI my), .ref hs, .ref va, .ref tp, .ref dn]))) s.heap _ _ := hG
        have znm_8 : (gh_up h mo (.inr (5, [.int 2, .int (nI g), .ref nm, .ref fr, .int (nI my), .ref hs, .ref va, .ref tp, .ref dn]))) nm = some (.inl (cI, 24, .inl nf)) := gh_keep zmo znm (by simp)
        have zfr_8 : (gh_up h mo (.inr (5, [.int 2, .int (nI g), .ref nm, .ref fr, .int (nI my), .ref hs, .ref va, .ref tp, .ref dn]))) fr = some (.inl (cI, 8, .inl ff)) := gh_keep zmo zfr (by simp)
        have zhs_8 : (gh_up h mo (.inr (5, [.int 2, .int (nI g), .ref nm, .ref fr, .int (nI my), .ref hs, .ref va, .ref tp, .ref dn]))) hs = some (.inl (cJ, 24, .inr (.inl hf))) := gh_keep zmo zhs (by simp)
        have zva_8 : (gh_up h mo (.inr (5, [.int 2, .int (nI g), .ref nm, .ref fr, .int (nI my), .ref hs, .ref va, .ref tp, .ref dn]))) va = some (.inl (cJ, 8, .inr (.inl vf))) := gh_keep zmo zva (by simp)
        have ztp_8 : (gh_up h mo (.inr (5, [.int 2, .int (nI g), .ref nm, .ref fr, .int (nI my), .ref hs, .ref va, .ref tp, .ref dn]))) tp = some (.inl (cJ, 8, .inr (.inl tf))) := gh_keep zmo ztp (by simp)
        have zdn_8 : (gh_up h mo (.inr (5, [.int 2, .int (nI g), .ref nm, .ref fr, .int (nI my), .ref hs, .ref va, .ref tp, .ref dn]))) dn = some (.inl (cJ, 8, .inr (.inl df))) := gh_keep zmo zdn (by simp)
        refine lv_aload_n hx hb d_Mo_join_30 rfl (lv_at hl 0 rfl) ?_
        refine gh_get (ci := 5) hx hb htb in_Mo hown hK hG hq8 rfl 0 (by decide) (htb _ k_2_223) (fun _ h9 => h9) rfl d_Mo_join_31 ?_
        refine lv_if_le (tgt := 39) hx hb d_Mo_join_34 (by decide) (fun hc34 => absurd hc34 (by decide)) (fun hc34 => ?_)
        refine lv_iconst (v := 0) hx hb d_Mo_join_37 (by decide) ?_
        exact gh_iret hx hb hr hlk rfl hG d_Mo_join_38 (rB_0 (by simp [v_badJ, hc2, hc7]) (rB_1 (decide_eq_true (by omega)) ⟨rfl, (wM_mk hq8 znm_8 zfr_8 zhs_8 zva_8 ztp_8 zdn_8 zvt zvd ztd (by omega) (by omega)), (frM_up zf0 zmo rfl)⟩))
    · skip
      refine lv_iconst (v := 1) hx hb d_Mo_join_10 (by decide) ?_
      refine lv_goto (tgt := 27) hx hb d_Mo_join_11 (by decide) ?_
      refine gh_put (ci := 5) (ty := .int) hx hb htb in_Mo t_Mo ty_Mo nm_Mo hown hK hG zmo rfl 0 (by decide) (htb _ k_2_223) (fun _ h9 => h9) rfl (by decide +kernel) rfl rfl (Nat.le_of_ble_eq_true rfl) d_Mo_join_27 (fun H l9 hG => ?_)
      have hq9 : (gh_up h mo (.inr (5, [.int 1, .int (nI g), .ref nm, .ref fr, .int (nI my), .ref hs, .ref va, .ref tp, .ref dn]))) mo = some (.inr (5, [.int 1, .int (nI g), .ref nm, .ref fr, .int (nI my), .ref hs, .ref va, .ref tp, .ref dn])) := gh_self _ _ _
      replace hG : gh_P D vC b0 (gh_up h mo (.inr (5, [.int 1, .int (nI g), .ref nm, .ref fr, .int (nI my), .ref hs, .ref va, .ref tp, .ref dn]))) s.heap _ _ := hG
      have znm_9 : (gh_up h mo (.inr (5, [.int 1, .int (nI g), .ref nm, .ref fr, .int (nI my), .ref hs, .ref va, .ref tp, .ref dn]))) nm = some (.inl (cI, 24, .inl nf)) := gh_keep zmo znm (by simp)
      have zfr_9 : (gh_up h mo (.inr (5, [.int 1, .int (nI g), .ref nm, .ref fr, .int (nI my), .ref hs, .ref va, .ref tp, .ref dn]))) fr = some (.inl (cI, 8, .inl ff)) := gh_keep zmo zfr (by simp)
      have zhs_9 : (gh_up h mo (.inr (5, [.int 1, .int (nI g), .ref nm, .ref fr, .int (nI my), .ref hs, .ref va, .ref tp, .ref dn]))) hs = some (.inl (cJ, 24, .inr (.inl hf))) := gh_keep zmo zhs (by simp)
      have zva_9 : (gh_up h mo (.inr (5, [.int 1, .int (nI g), .ref nm, .ref fr, .int (nI my), .ref hs, .ref va, .ref tp, .ref dn]))) va = some (.inl (cJ, 8, .inr (.inl vf))) := gh_keep zmo zva (by simp)
      have ztp_9 : (gh_up h mo (.inr (5, [.int 1, .int (nI g), .ref nm, .ref fr, .int (nI my), .ref hs, .ref va, .ref tp, .ref dn]))) tp = some (.inl (cJ, 8, .inr (.inl tf))) := gh_keep zmo ztp (by simp)
      have zdn_9 : (gh_up h mo (.inr (5, [.int 1, .int (nI g), .ref nm, .ref fr, .int (nI my), .ref hs, .ref va, .ref tp, .ref dn]))) dn = some (.inl (cJ, 8, .inr (.inl df))) := gh_keep zmo zdn (by simp)
      refine lv_aload_n hx hb d_Mo_join_30 rfl (lv_at hl 0 rfl) ?_
      refine gh_get (ci := 5) hx hb htb in_Mo hown hK hG hq9 rfl 0 (by decide) (htb _ k_2_223) (fun _ h9 => h9) rfl d_Mo_join_31 ?_
      refine lv_if_le (tgt := 39) hx hb d_Mo_join_34 (by decide) (fun hc34 => absurd hc34 (by decide)) (fun hc34 => ?_)
      refine lv_iconst (v := 0) hx hb d_Mo_join_37 (by decide) ?_
      exact gh_iret hx hb hr hlk rfl hG d_Mo_join_38 (rB_1 (by simp [v_badJ, hc2, hc7]) ⟨rfl, (wM_mk hq9 znm_9 zfr_9 zhs_9 zva_9 ztp_9 zdn_9 zvt zvd ztd (by omega) (by omega)), (frM_up zf0 zmo rfl)⟩)

set_option maxHeartbeats 4000000 in
set_option maxRecDepth 100000 in
/-- turn -/
theorem c_Mo_turn {mo nm fr hs va tp dn g my : Nat} {th : Int32} {nf ff : Nat → Int32} {hf vf tf df : Nat → Int64} (hW : wM cI cJ h mo nm fr hs va tp dn th g my nf ff hf vf tf df) : gh_C l D vC (tZ cI cJ cP cS) (xF b0) b0 y_Mo_turn w_Mo_turn ({ frames := 0, cells := 0, slots := 0, locals := 0 }) [.ref mo] h (rB (decide (my = 0)) (rW none (fun h2 => wM cI cJ h2 mo nm fr hs va tp dn 1 g my nf ff hf vf tf df ∧ frM h h2)) (rW none (fun h2 => ∃ f2 : Nat → Int64, (∀ j, j < 4 → f2 (4 * my - 4 + j) = hf (4 * my - 4 + j) ^^^ (-1)) ∧ (∀ j, j < 4 * my - 4 → f2 j = hf j) ∧ wM cI cJ h2 mo nm fr hs va tp dn 0 g my nf ff f2 vf tf df ∧ frM h h2))) := by
  refine gh_ofW (by decide) (Nat.le_of_ble_eq_true rfl) ?_
  intro p e s m below meth c ls hctx hno hl hG hK hX
  obtain ⟨hx, hb, hr, hml, hown, hlk, hts, hnm⟩ := hctx
  have htb : ∀ w ∈ tB, w.before _ s = true := fun w hw => hts w (List.mem_cons_of_mem _ hw)
  replace hl : lv_has ls 2 [(0, .ref mo)] := hl
  obtain ⟨zmo, znm, zfr, zhs, zva, ztp, zdn, zvt, zvd, ztd, zg, zy⟩ := hW
  have zf0 : frM h h := frM_rf h
  refine lv_aload_n hx hb d_Mo_turn_0 rfl (lv_at hl 0 rfl) ?_
  refine lv_aload_n hx hb d_Mo_turn_1 rfl (lv_at hl 0 rfl) ?_
  refine gh_get (ci := 5) hx hb htb in_Mo hown hK hG zmo rfl 4 (by decide) (htb _ k_2_227) (fun _ h9 => h9) rfl d_Mo_turn_2 ?_
  refine lv_if_ne (tgt := 12) hx hb d_Mo_turn_5 (by decide) (fun hc5 => ?_) (fun hc5 => ?_)
  · skip
    replace hc5 : ¬ my = 0 := fun q9 => hc5 ((nc_eq (a := my) (b := 0) (by omega) (by omega) rfl rfl).mpr q9)
    refine lv_iconst (v := 0) hx hb d_Mo_turn_12 (by decide) ?_
    refine gh_put (ci := 5) (ty := .int) hx hb htb in_Mo t_Mo ty_Mo nm_Mo hown hK hG zmo rfl 0 (by decide) (htb _ k_2_223) (fun _ h9 => h9) rfl (by decide +kernel) rfl rfl (Nat.le_of_ble_eq_true rfl) d_Mo_turn_13 (fun H l9 hG => ?_)
    have hq1 : (gh_up h mo (.inr (5, [.int 0, .int (nI g), .ref nm, .ref fr, .int (nI my), .ref hs, .ref va, .ref tp, .ref dn]))) mo = some (.inr (5, [.int 0, .int (nI g), .ref nm, .ref fr, .int (nI my), .ref hs, .ref va, .ref tp, .ref dn])) := gh_self _ _ _
    replace hG : gh_P D vC b0 (gh_up h mo (.inr (5, [.int 0, .int (nI g), .ref nm, .ref fr, .int (nI my), .ref hs, .ref va, .ref tp, .ref dn]))) s.heap _ _ := hG
    have znm_1 : (gh_up h mo (.inr (5, [.int 0, .int (nI g), .ref nm, .ref fr, .int (nI my), .ref hs, .ref va, .ref tp, .ref dn]))) nm = some (.inl (cI, 24, .inl nf)) := gh_keep zmo znm (by simp)
    have zfr_1 : (gh_up h mo (.inr (5, [.int 0, .int (nI g), .ref nm, .ref fr, .int (nI my), .ref hs, .ref va, .ref tp, .ref dn]))) fr = some (.inl (cI, 8, .inl ff)) := gh_keep zmo zfr (by simp)
    have zhs_1 : (gh_up h mo (.inr (5, [.int 0, .int (nI g), .ref nm, .ref fr, .int (nI my), .ref hs, .ref va, .ref tp, .ref dn]))) hs = some (.inl (cJ, 24, .inr (.inl hf))) := gh_keep zmo zhs (by simp)
    have zva_1 : (gh_up h mo (.inr (5, [.int 0, .int (nI g), .ref nm, .ref fr, .int (nI my), .ref hs, .ref va, .ref tp, .ref dn]))) va = some (.inl (cJ, 8, .inr (.inl vf))) := gh_keep zmo zva (by simp)
    have ztp_1 : (gh_up h mo (.inr (5, [.int 0, .int (nI g), .ref nm, .ref fr, .int (nI my), .ref hs, .ref va, .ref tp, .ref dn]))) tp = some (.inl (cJ, 8, .inr (.inl tf))) := gh_keep zmo ztp (by simp)
    have zdn_1 : (gh_up h mo (.inr (5, [.int 0, .int (nI g), .ref nm, .ref fr, .int (nI my), .ref hs, .ref va, .ref tp, .ref dn]))) dn = some (.inl (cJ, 8, .inr (.inl df))) := gh_keep zmo zdn (by simp)
    refine lv_iconst (v := 0) hx hb d_Mo_turn_16 (by decide) ?_
    refine lv_istore_n (lv' := [(1, .int 0), (0, .ref mo)]) hx hb d_Mo_turn_17 rfl hl (by decide) rfl (fun ls hl => ?_)
    refine gh_gen hG (fun H l9 hG => ?_)
    refine lp_upH (α := gh_M × (Nat → Int64)) (G := fun ls H l9 => W p l e _ s m _ below meth c H l9 _ _ _ (F0 m 18 ls [])) 4 (fun k w1 ls H l9 => (wM cI cJ w1.1 mo nm fr hs va tp dn 0 g my nf ff w1.2 vf tf df ∧ frM h w1.1 ∧ ((∀ j, j < k → w1.2 (4 * my - 4 + j) = hf (4 * my - 4 + j) ^^^ (-1)) ∧ (∀ j, j < 4 * my - 4 → w1.2 j = hf j) ∧ ∀ j, 4 * my - 4 + k ≤ j → w1.2 j = hf j)) ∧ lv_has ls 2 [(0, .ref mo), (1, .int (nI k))] ∧ gh_P D vC b0 w1.1 s.heap H l9) ?_ 0 (gh_up h mo (.inr (5, [.int 0, .int (nI g), .ref nm, .ref fr, .int (nI my), .ref hs, .ref va, .ref tp, .ref dn])), hf) ls H l9 (Nat.zero_le _) ⟨⟨(wM_mk hq1 znm_1 zfr_1 zhs_1 zva_1 ztp_1 zdn_1 zvt zvd ztd (by omega) (by omega)), (frM_up zf0 zmo rfl), (fun j hj => absurd hj (Nat.not_lt_zero j)), (fun j _ => rfl), (fun j _ => rfl)⟩, (lv_sub hl [1, 0] rfl), hG⟩
    intro k w1 ls H l9 hk hI ih
    obtain ⟨hi1, hl, hG⟩ := hI
    obtain ⟨⟨zmo, znm, zfr, zhs, zva, ztp, zdn, zvt, zvd, ztd, zg, zy⟩, zf, zs⟩ := hi1
    refine lv_iload_n hx hb d_Mo_turn_18 rfl (lv_at hl 1 rfl) ?_
    refine lv_iconst (v := 4) hx hb d_Mo_turn_19 (by decide) ?_
    refine lv_icmp_ge (tgt := 70) hx hb d_Mo_turn_20 (by decide) (fun hc20 => ?_) (fun hc20 => ?_)
    · skip
      replace hc20 : 4 ≤ k := (nc_le (a := 4) (b := k) (by omega) (by omega) rfl rfl).mp hc20
      exact gh_vret hx hb hr hlk hG d_Mo_turn_70 (rB_0 (decide_eq_false hc5) ⟨rfl, w1.2, (fun j hj => zs.1 j (by omega)), zs.2.1, (wM_mk zmo znm zfr zhs zva ztp zdn zvt zvd ztd (by omega) (by omega)), zf⟩)
    · skip
      replace hc20 : ¬ 4 ≤ k := fun q9 => hc20 ((nc_le (a := 4) (b := k) (by omega) (by omega) rfl rfl).mpr q9)
      refine lv_aload_n hx hb d_Mo_turn_23 rfl (lv_at hl 0 rfl) ?_
      refine gh_get (ci := 5) hx hb htb in_Mo hown hK hG zmo rfl 4 (by decide) (htb _ k_2_227) (fun _ h9 => h9) rfl d_Mo_turn_24 ?_
      refine lv_if_le (tgt := 70) hx hb d_Mo_turn_27 (by decide) (fun hc27 => ?_) (fun hc27 => ?_)
      · skip
        replace hc27 : my ≤ 0 := (nc_le (a := my) (b := 0) (by omega) (by omega) rfl rfl).mp hc27
        exact gh_vret hx hb hr hlk hG d_Mo_turn_70 (rB_0 (decide_eq_false hc5) ⟨rfl, w1.2, (fun j hj => zs.1 j (by omega)), zs.2.1, (wM_mk zmo znm zfr zhs zva ztp zdn zvt zvd ztd (by omega) (by omega)), zf⟩)
      · skip
        replace hc27 : ¬ my ≤ 0 := fun q9 => hc27 ((nc_le (a := my) (b := 0) (by omega) (by omega) rfl rfl).mpr q9)
        refine lv_aload_n hx hb d_Mo_turn_30 rfl (lv_at hl 0 rfl) ?_
        refine gh_get (ci := 5) hx hb htb in_Mo hown hK hG zmo rfl 5 (by decide) (htb _ k_2_228) (fun _ h9 => h9) rfl d_Mo_turn_31 ?_
        refine lv_iconst (v := 4) hx hb d_Mo_turn_34 (by decide) ?_
        refine lv_aload_n hx hb d_Mo_turn_35 rfl (lv_at hl 0 rfl) ?_
        refine gh_get (ci := 5) hx hb htb in_Mo hown hK hG zmo rfl 4 (by decide) (htb _ k_2_227) (fun _ h9 => h9) rfl d_Mo_turn_36 ?_
        refine lv_imul hx hb d_Mo_turn_39 ?_
        rw [show 4 * (nI my) = nI (4 * my) from nm_mul 4 my]
        refine lv_iconst (v := 4) hx hb d_Mo_turn_40 (by decide) ?_
        refine lv_isub hx hb d_Mo_turn_41 ?_
        rw [show nI (4 * my) - 4 = nI ((4 * my) - 4) from pk_sub (a := (4 * my)) (b := 4) (by omega)]
        refine lv_iload_n hx hb d_Mo_turn_42 rfl (lv_at hl 1 rfl) ?_
        refine lv_iadd hx hb d_Mo_turn_43 ?_
        rw [show (nI ((4 * my) - 4)) + (nI k) = nI (((4 * my) - 4) + k) from nI_add ((4 * my) - 4) k]
        refine lv_aload_n hx hb d_Mo_turn_44 rfl (lv_at hl 0 rfl) ?_
        refine gh_get (ci := 5) hx hb htb in_Mo hown hK hG zmo rfl 5 (by decide) (htb _ k_2_228) (fun _ h9 => h9) rfl d_Mo_turn_45 ?_
        refine lv_iconst (v := 4) hx hb d_Mo_turn_48 (by decide) ?_
        refine lv_aload_n hx hb d_Mo_turn_49 rfl (lv_at hl 0 rfl) ?_
        refine gh_get (ci := 5) hx hb htb in_Mo hown hK hG zmo rfl 4 (by decide) (htb _ k_2_227) (fun _ h9 => h9) rfl d_Mo_turn_50 ?_
        refine lv_imul hx hb d_Mo_turn_53 ?_
        rw [show 4 * (nI my) = nI (4 * my) from nm_mul 4 my]
        refine lv_iconst (v := 4) hx hb d_Mo_turn_54 (by decide) ?_
        refine lv_isub hx hb d_Mo_turn_55 ?_
        rw [show nI (4 * my) - 4 = nI ((4 * my) - 4) from pk_sub (a := (4 * my)) (b := 4) (by omega)]
        refine lv_iload_n hx hb d_Mo_turn_56 rfl (lv_at hl 1 rfl) ?_
        refine lv_iadd hx hb d_Mo_turn_57 ?_
        rw [show (nI ((4 * my) - 4)) + (nI k) = nI (((4 * my) - 4) + k) from nI_add ((4 * my) - 4) k]
        refine gh_lald (v := w1.2 (((4 * my) - 4) + k)) hx hb hK hG 1 zhs rfl (vp_in_nI (by omega) (by decide)) (by rw [nI_clamp (by omega)]) d_Mo_turn_58 ?_
        refine lv_ldc2 (v := (-1)) hx hb hown (htb _ k_3_36) d_Mo_turn_59 ?_
        refine lv_lxor hx hb d_Mo_turn_62 ?_
        refine gh_last hx hb hK hG 1 zhs rfl (vp_in_nI (by omega) (by decide)) d_Mo_turn_63 (fun H l9 hG => ?_)
        rw [nI_clamp (by omega)] at hG
        have hq2 : (gh_up w1.1 hs (.inl (cJ, 24, .inr (.inl (vp_updL w1.2 (((4 * my) - 4) + k) ((w1.2 (((4 * my) - 4) + k)) ^^^ (-1))))))) hs = some (.inl (cJ, 24, .inr (.inl (vp_updL w1.2 (((4 * my) - 4) + k) ((w1.2 (((4 * my) - 4) + k)) ^^^ (-1)))))) := gh_self _ _ _
        replace hG : gh_P D vC b0 (gh_up w1.1 hs (.inl (cJ, 24, .inr (.inl (vp_updL w1.2 (((4 * my) - 4) + k) ((w1.2 (((4 * my) - 4) + k)) ^^^ (-1))))))) s.heap _ _ := hG
        have zmo_2 : (gh_up w1.1 hs (.inl (cJ, 24, .inr (.inl (vp_updL w1.2 (((4 * my) - 4) + k) ((w1.2 (((4 * my) - 4) + k)) ^^^ (-1))))))) mo = some (.inr (5, [.int 0, .int (nI g), .ref nm, .ref fr, .int (nI my), .ref hs, .ref va, .ref tp, .ref dn])) := gh_keep zhs zmo (by simp)
        have znm_2 : (gh_up w1.1 hs (.inl (cJ, 24, .inr (.inl (vp_updL w1.2 (((4 * my) - 4) + k) ((w1.2 (((4 * my) - 4) + k)) ^^^ (-1))))))) nm = some (.inl (cI, 24, .inl nf)) := gh_keep zhs znm (by simp)
        have zfr_2 : (gh_up w1.1 hs (.inl (cJ, 24, .inr (.inl (vp_updL w1.2 (((4 * my) - 4) + k) ((w1.2 (((4 * my) - 4) + k)) ^^^ (-1))))))) fr = some (.inl (cI, 8, .inl ff)) := gh_keep zhs zfr (by simp)
        have zva_2 : (gh_up w1.1 hs (.inl (cJ, 24, .inr (.inl (vp_updL w1.2 (((4 * my) - 4) + k) ((w1.2 (((4 * my) - 4) + k)) ^^^ (-1))))))) va = some (.inl (cJ, 8, .inr (.inl vf))) := gh_keep zhs zva (by simp)
        have ztp_2 : (gh_up w1.1 hs (.inl (cJ, 24, .inr (.inl (vp_updL w1.2 (((4 * my) - 4) + k) ((w1.2 (((4 * my) - 4) + k)) ^^^ (-1))))))) tp = some (.inl (cJ, 8, .inr (.inl tf))) := gh_keep zhs ztp (by simp)
        have zdn_2 : (gh_up w1.1 hs (.inl (cJ, 24, .inr (.inl (vp_updL w1.2 (((4 * my) - 4) + k) ((w1.2 (((4 * my) - 4) + k)) ^^^ (-1))))))) dn = some (.inl (cJ, 8, .inr (.inl df))) := gh_keep zhs zdn (by simp)
        refine lv_iinc (k := 1) (v := nI (k + 1)) (lv' := [(1, .int (nI (k + 1))), (0, .ref mo)]) hx hb d_Mo_turn_64 hl rfl (nI_1 k) (by decide) rfl (fun ls hl => ?_)
        refine lv_goto (tgt := 18) hx hb d_Mo_turn_67 (by decide) ?_
        exact ih (gh_up w1.1 hs (.inl (cJ, 24, .inr (.inl (vp_updL w1.2 (((4 * my) - 4) + k) ((w1.2 (((4 * my) - 4) + k)) ^^^ (-1)))))), (vp_updL w1.2 (((4 * my) - 4) + k) ((w1.2 (((4 * my) - 4) + k)) ^^^ (-1)))) ls H l9 (by omega) ⟨⟨(wM_mk zmo_2 znm_2 zfr_2 hq2 zva_2 ztp_2 zdn_2 zvt zvd ztd (by omega) (by omega)), (frM_up zf zhs rfl), w_in (g := fun j => hf (4 * my - 4 + j) ^^^ (-1)) zs.1 (by rw [zs.2.2 _ (Nat.le_refl _)]), w_lo zs.2.1 (by omega), w_hi zs.2.2⟩, (lv_sub hl [1, 0] rfl), hG⟩
  · skip
    replace hc5 : my = 0 := (nc_eq (a := my) (b := 0) (by omega) (by omega) rfl rfl).mp hc5
    obtain rfl := hc5
    refine lv_iconst (v := 1) hx hb d_Mo_turn_8 (by decide) ?_
    refine lv_goto (tgt := 13) hx hb d_Mo_turn_9 (by decide) ?_
    refine gh_put (ci := 5) (ty := .int) hx hb htb in_Mo t_Mo ty_Mo nm_Mo hown hK hG zmo rfl 0 (by decide) (htb _ k_2_223) (fun _ h9 => h9) rfl (by decide +kernel) rfl rfl (Nat.le_of_ble_eq_true rfl) d_Mo_turn_13 (fun H l9 hG => ?_)
    have hq3 : (gh_up h mo (.inr (5, [.int 1, .int (nI g), .ref nm, .ref fr, .int (nI 0), .ref hs, .ref va, .ref tp, .ref dn]))) mo = some (.inr (5, [.int 1, .int (nI g), .ref nm, .ref fr, .int (nI 0), .ref hs, .ref va, .ref tp, .ref dn])) := gh_self _ _ _
    replace hG : gh_P D vC b0 (gh_up h mo (.inr (5, [.int 1, .int (nI g), .ref nm, .ref fr, .int (nI 0), .ref hs, .ref va, .ref tp, .ref dn]))) s.heap _ _ := hG
    have znm_3 : (gh_up h mo (.inr (5, [.int 1, .int (nI g), .ref nm, .ref fr, .int (nI 0), .ref hs, .ref va, .ref tp, .ref dn]))) nm = some (.inl (cI, 24, .inl nf)) := gh_keep zmo znm (by simp)
    have zfr_3 : (gh_up h mo (.inr (5, [.int 1, .int (nI g), .ref nm, .ref fr, .int (nI 0), .ref hs, .ref va, .ref tp, .ref dn]))) fr = some (.inl (cI, 8, .inl ff)) := gh_keep zmo zfr (by simp)
    have zhs_3 : (gh_up h mo (.inr (5, [.int 1, .int (nI g), .ref nm, .ref fr, .int (nI 0), .ref hs, .ref va, .ref tp, .ref dn]))) hs = some (.inl (cJ, 24, .inr (.inl hf))) := gh_keep zmo zhs (by simp)
    have zva_3 : (gh_up h mo (.inr (5, [.int 1, .int (nI g), .ref nm, .ref fr, .int (nI 0), .ref hs, .ref va, .ref tp, .ref dn]))) va = some (.inl (cJ, 8, .inr (.inl vf))) := gh_keep zmo zva (by simp)
    have ztp_3 : (gh_up h mo (.inr (5, [.int 1, .int (nI g), .ref nm, .ref fr, .int (nI 0), .ref hs, .ref va, .ref tp, .ref dn]))) tp = some (.inl (cJ, 8, .inr (.inl tf))) := gh_keep zmo ztp (by simp)
    have zdn_3 : (gh_up h mo (.inr (5, [.int 1, .int (nI g), .ref nm, .ref fr, .int (nI 0), .ref hs, .ref va, .ref tp, .ref dn]))) dn = some (.inl (cJ, 8, .inr (.inl df))) := gh_keep zmo zdn (by simp)
    refine lv_iconst (v := 0) hx hb d_Mo_turn_16 (by decide) ?_
    refine lv_istore_n (lv' := [(1, .int 0), (0, .ref mo)]) hx hb d_Mo_turn_17 rfl hl (by decide) rfl (fun ls hl => ?_)
    refine lv_iload_n hx hb d_Mo_turn_18 rfl (lv_at hl 0 rfl) ?_
    refine lv_iconst (v := 4) hx hb d_Mo_turn_19 (by decide) ?_
    refine lv_icmp_ge (tgt := 70) hx hb d_Mo_turn_20 (by decide) (fun hc20 => absurd hc20 (by decide)) (fun hc20 => ?_)
    refine lv_aload_n hx hb d_Mo_turn_23 rfl (lv_at hl 1 rfl) ?_
    refine gh_get (ci := 5) hx hb htb in_Mo hown hK hG hq3 rfl 4 (by decide) (htb _ k_2_227) (fun _ h9 => h9) rfl d_Mo_turn_24 ?_
    refine lv_if_le (tgt := 70) hx hb d_Mo_turn_27 (by decide) (fun hc27 => ?_) (fun hc27 => absurd hc27 (by decide))
    exact gh_vret hx hb hr hlk hG d_Mo_turn_70 (rB_1 rfl ⟨rfl, (wM_mk hq3 znm_3 zfr_3 zhs_3 zva_3 ztp_3 zdn_3 zvt zvd ztd (by omega) (by omega)), (frM_up zf0 zmo rfl)⟩)

set_option maxHeartbeats 4000000 in
set_option maxRecDepth 100000 in
/-- copy -/
theorem c_Mo_copy {mo nm fr hs va tp dn g my : Nat} {th : Int32} {nf ff : Nat → Int32} {hf vf tf df : Nat → Int64} (hW : wM cI cJ h mo nm fr hs va tp dn th g my nf ff hf vf tf df) {k1 : Int32} : gh_C l D vC (tZ cI cJ cP cS) (xF b0) b0 y_Mo_copy w_Mo_copy ({ frames := 0, cells := 0, slots := 0, locals := 0 }) [.ref mo, .int k1] h (rB (m_badC k1 my) (rW (some (.int 0)) (fun h2 => wM cI cJ h2 mo nm fr hs va tp dn 1 g my nf ff hf vf tf df ∧ frM h h2)) (rB (decide (my = 6)) (rW (some (.int 0)) (fun h2 => wM cI cJ h2 mo nm fr hs va tp dn 2 g my nf ff hf vf tf df ∧ frM h h2)) (rW (some (.int (nI (my + 1)))) (fun h2 => ∃ (v : Nat) (f2 : Nat → Int64), k1 = nI v ∧ v < my ∧ (∀ j, j < 4 → f2 (4 * my + j) = hf (4 * (my - 1 - v) + j)) ∧ (∀ j, j < 4 * my → f2 j = hf j) ∧ wM cI cJ h2 mo nm fr hs va tp dn 0 g (my + 1) nf ff f2 vf tf df ∧ frM h h2)))) := by
  refine gh_ofW (by decide) (Nat.le_of_ble_eq_true rfl) ?_
  intro p e s m below meth c ls hctx hno hl hG hK hX
  obtain ⟨hx, hb, hr, hml, hown, hlk, hts, hnm⟩ := hctx
  have htb : ∀ w ∈ tB, w.before _ s = true := fun w hw => hts w (List.mem_cons_of_mem _ hw)
  replace hl : lv_has ls 3 [(0, .ref mo), (1, .int k1)] := hl
  obtain ⟨zmo, znm, zfr, zhs, zva, ztp, zdn, zvt, zvd, ztd, zg, zy⟩ := hW
  have zf0 : frM h h := frM_rf h
  refine lv_aload_n hx hb d_Mo_copy_0 rfl (lv_at hl 0 rfl) ?_
  refine lv_iload_n hx hb d_Mo_copy_1 rfl (lv_at hl 1 rfl) ?_
  refine lv_if_lt (tgt := 13) hx hb d_Mo_copy_2 (by decide) (fun hc2 => ?_) (fun hc2 => ?_)
  · skip
    refine lv_iconst (v := 1) hx hb d_Mo_copy_13 (by decide) ?_
    refine lv_goto (tgt := 31) hx hb d_Mo_copy_14 (by decide) ?_
    refine gh_put (ci := 5) (ty := .int) hx hb htb in_Mo t_Mo ty_Mo nm_Mo hown hK hG zmo rfl 0 (by decide) (htb _ k_2_223) (fun _ h9 => h9) rfl (by decide +kernel) rfl rfl (Nat.le_of_ble_eq_true rfl) d_Mo_copy_31 (fun H l9 hG => ?_)
    have hq1 : (gh_up h mo (.inr (5, [.int 1, .int (nI g), .ref nm, .ref fr, .int (nI my), .ref hs, .ref va, .ref tp, .ref dn]))) mo = some (.inr (5, [.int 1, .int (nI g), .ref nm, .ref fr, .int (nI my), .ref hs, .ref va, .ref tp, .ref dn])) := gh_self _ _ _
    replace hG : gh_P D vC b0 (gh_up h mo (.inr (5, [.int 1, .int (nI g), .ref nm, .ref fr, .int (nI my), .ref hs, .ref va, .ref tp, .ref dn]))) s.heap _ _ := hG
    have znm_1 : (gh_up h mo (.inr (5, [.int 1, .int (nI g), .ref nm, .ref fr, .int (nI my), .ref hs, .ref va, .ref tp, .ref dn]))) nm = some (.inl (cI, 24, .inl nf)) := gh_keep zmo znm (by simp)
    have zfr_1 : (gh_up h mo (.inr (5, [.int 1, .int (nI g), .ref nm, .ref fr, .int (nI my), .ref hs, .ref va, .ref tp, .ref dn]))) fr = some (.inl (cI, 8, .inl ff)) := gh_keep zmo zfr (by simp)
    have zhs_1 : (gh_up h mo (.inr (5, [.int 1, .int (nI g), .ref nm, .ref fr, .int (nI my), .ref hs, .ref va, .ref tp, .ref dn]))) hs = some (.inl (cJ, 24, .inr (.inl hf))) := gh_keep zmo zhs (by simp)
    have zva_1 : (gh_up h mo (.inr (5, [.int 1, .int (nI g), .ref nm, .ref fr, .int (nI my), .ref hs, .ref va, .ref tp, .ref dn]))) va = some (.inl (cJ, 8, .inr (.inl vf))) := gh_keep zmo zva (by simp)
    have ztp_1 : (gh_up h mo (.inr (5, [.int 1, .int (nI g), .ref nm, .ref fr, .int (nI my), .ref hs, .ref va, .ref tp, .ref dn]))) tp = some (.inl (cJ, 8, .inr (.inl tf))) := gh_keep zmo ztp (by simp)
    have zdn_1 : (gh_up h mo (.inr (5, [.int 1, .int (nI g), .ref nm, .ref fr, .int (nI my), .ref hs, .ref va, .ref tp, .ref dn]))) dn = some (.inl (cJ, 8, .inr (.inl df))) := gh_keep zmo zdn (by simp)
    refine lv_aload_n hx hb d_Mo_copy_34 rfl (lv_at hl 0 rfl) ?_
    refine gh_get (ci := 5) hx hb htb in_Mo hown hK hG hq1 rfl 0 (by decide) (htb _ k_2_223) (fun _ h9 => h9) rfl d_Mo_copy_35 ?_
    refine lv_if_le (tgt := 43) hx hb d_Mo_copy_38 (by decide) (fun hc38 => absurd hc38 (by decide)) (fun hc38 => ?_)
    refine lv_iconst (v := 0) hx hb d_Mo_copy_41 (by decide) ?_
    exact gh_iret hx hb hr hlk rfl hG d_Mo_copy_42 (rB_1 (by simp [m_badC, hc2]) ⟨rfl, (wM_mk hq1 znm_1 zfr_1 zhs_1 zva_1 ztp_1 zdn_1 zvt zvd ztd (by omega) (by omega)), (frM_up zf0 zmo rfl)⟩)
  · skip
    obtain ⟨v, hv, rfl⟩ := nI_of hc2
    refine lv_iload_n hx hb d_Mo_copy_5 rfl (lv_at hl 1 rfl) ?_
    refine lv_aload_n hx hb d_Mo_copy_6 rfl (lv_at hl 0 rfl) ?_
    refine gh_get (ci := 5) hx hb htb in_Mo hown hK hG zmo rfl 4 (by decide) (htb _ k_2_227) (fun _ h9 => h9) rfl d_Mo_copy_7 ?_
    refine lv_icmp_lt (tgt := 17) hx hb d_Mo_copy_10 (by decide) (fun hc10 => ?_) (fun hc10 => ?_)
    · skip
      replace hc10 : v < my := (nc_lt (a := v) (b := my) (by omega) (by omega) rfl rfl).mp hc10
      have hbC : m_badC (nI v) my = false := by simp only [m_badC, Bool.or_eq_false_iff, Bool.not_eq_false', decide_eq_false_iff_not, decide_eq_true_eq]; exact ⟨hc2, (nc_lt (a := v) (b := my) (by omega) (by omega) rfl rfl).mpr hc10⟩
      refine lv_aload_n hx hb d_Mo_copy_17 rfl (lv_at hl 0 rfl) ?_
      refine gh_get (ci := 5) hx hb htb in_Mo hown hK hG zmo rfl 4 (by decide) (htb _ k_2_227) (fun _ h9 => h9) rfl d_Mo_copy_18 ?_
      refine lv_bipush (v := 6) hx hb d_Mo_copy_21 (by decide) ?_
      refine lv_icmp_ne (tgt := 30) hx hb d_Mo_copy_23 (by decide) (fun hc23 => ?_) (fun hc23 => ?_)
      · skip
        replace hc23 : ¬ my = 6 := fun q9 => hc23 ((nc_eq (a := my) (b := 6) (by omega) (by omega) rfl rfl).mpr q9)
        refine lv_iconst (v := 0) hx hb d_Mo_copy_30 (by decide) ?_
        refine gh_put (ci := 5) (ty := .int) hx hb htb in_Mo t_Mo ty_Mo nm_Mo hown hK hG zmo rfl 0 (by decide) (htb _ k_2_223) (fun _ h9 => h9) rfl (by decide +kernel) rfl rfl (Nat.le_of_ble_eq_true rfl) d_Mo_copy_31 (fun H l9 hG => ?_)
        have hq2 : (gh_up h mo (.inr (5, [.int 0, .int (nI g), .ref nm, .ref fr, .int (nI my), .ref hs, .ref va, .ref tp, .ref dn]))) mo = some (.inr (5, [.int 0, .int (nI g), .ref nm, .ref fr, .int (nI my), .ref hs, .ref va, .ref tp, .ref dn])) := gh_self _ _ _
        replace hG : gh_P D vC b0 (gh_up h mo (.inr (5, [.int 0, .int (nI g), .ref nm, .ref fr, .int (nI my), .ref hs, .ref va, .ref tp, .ref dn]))) s.heap _ _ := hG
        have znm_2 : (gh_up h mo (.inr (5, [.int 0, .int (nI g), .ref nm, .ref fr, .int (nI my), .ref hs, .ref va, .ref tp, .ref dn]))) nm = some (.inl (cI, 24, .inl nf)) := gh_keep zmo znm (by simp)
        have zfr_2 : (gh_up h mo (.inr (5, [.int 0, .int (nI g), .ref nm, .ref fr, .int (nI my), .ref hs, .ref va, .ref tp, .ref dn]))) fr = some (.inl (cI, 8, .inl ff)) := gh_keep zmo zfr (by simp)
        have zhs_2 : (gh_up h mo (.inr (5, [.int 0, .int (nI g), .ref nm, .ref fr, .int (nI my), .ref hs, .ref va, .ref tp, .ref dn]))) hs = some (.inl (cJ, 24, .inr (.inl hf))) := gh_keep zmo zhs (by simp)
        have zva_2 : (gh_up h mo (.inr (5, [.int 0, .int (nI g), .ref nm, .ref fr, .int (nI my), .ref hs, .ref va, .ref tp, .ref dn]))) va = some (.inl (cJ, 8, .inr (.inl vf))) := gh_keep zmo zva (by simp)
        have ztp_2 : (gh_up h mo (.inr (5, [.int 0, .int (nI g), .ref nm, .ref fr, .int (nI my), .ref hs, .ref va, .ref tp, .ref dn]))) tp = some (.inl (cJ, 8, .inr (.inl tf))) := gh_keep zmo ztp (by simp)
        have zdn_2 : (gh_up h mo (.inr (5, [.int 0, .int (nI g), .ref nm, .ref fr, .int (nI my), .ref hs, .ref va, .ref tp, .ref dn]))) dn = some (.inl (cJ, 8, .inr (.inl df))) := gh_keep zmo zdn (by simp)
        refine lv_aload_n hx hb d_Mo_copy_34 rfl (lv_at hl 0 rfl) ?_
        refine gh_get (ci := 5) hx hb htb in_Mo hown hK hG hq2 rfl 0 (by decide) (htb _ k_2_223) (fun _ h9 => h9) rfl d_Mo_copy_35 ?_
        refine lv_if_le (tgt := 43) hx hb d_Mo_copy_38 (by decide) (fun hc38 => ?_) (fun hc38 => absurd hc38 (by decide))
        refine lv_iconst (v := 0) hx hb d_Mo_copy_43 (by decide) ?_
        refine lv_istore_n (lv' := [(2, .int 0), (0, .ref mo), (1, .int (nI v))]) hx hb d_Mo_copy_44 rfl hl (by decide) rfl (fun ls hl => ?_)
        refine gh_gen hG (fun H l9 hG => ?_)
        refine lp_upH (α := gh_M × (Nat → Int64)) (G := fun ls H l9 => W p l e _ s m _ below meth c H l9 _ _ _ (F0 m 45 ls [])) 4 (fun k w1 ls H l9 => (wM cI cJ w1.1 mo nm fr hs va tp dn 0 g my nf ff w1.2 vf tf df ∧ frM h w1.1 ∧ ((∀ j, j < k → w1.2 (4 * my + j) = hf (4 * (my - 1 - v) + j)) ∧ ∀ j, j < 4 * my → w1.2 j = hf j)) ∧ lv_has ls 3 [(0, .ref mo), (1, .int (nI v)), (2, .int (nI k))] ∧ gh_P D vC b0 w1.1 s.heap H l9) ?_ 0 (gh_up h mo (.inr (5, [.int 0, .int (nI g), .ref nm, .ref fr, .int (nI my), .ref hs, .ref va, .ref tp, .ref dn])), hf) ls H l9 (Nat.zero_le _) ⟨⟨(wM_mk hq2 znm_2 zfr_2 zhs_2 zva_2 ztp_2 zdn_2 zvt zvd ztd (by omega) (by omega)), (frM_up zf0 zmo rfl), (fun j hj => absurd hj (Nat.not_lt_zero j)), (fun j _ => rfl)⟩, (lv_sub hl [1, 2, 0] rfl), hG⟩
        intro k w1 ls H l9 hk hI ih
        obtain ⟨hi1, hl, hG⟩ := hI
        obtain ⟨⟨zmo, znm, zfr, zhs, zva, ztp, zdn, zvt, zvd, ztd, zg, zy⟩, zf, zs⟩ := hi1
        refine lv_iload_n hx hb d_Mo_copy_45 rfl (lv_at hl 2 rfl) ?_
        refine lv_iconst (v := 4) hx hb d_Mo_copy_46 (by decide) ?_
        refine lv_icmp_ge (tgt := 86) hx hb d_Mo_copy_47 (by decide) (fun hc47 => ?_) (fun hc47 => ?_)
        · skip
          replace hc47 : 4 ≤ k := (nc_le (a := 4) (b := k) (by omega) (by omega) rfl rfl).mp hc47
          refine lv_aload_n hx hb d_Mo_copy_86 rfl (lv_at hl 0 rfl) ?_
          refine lv_dup hx hb d_Mo_copy_87 rfl ?_
          refine gh_get (ci := 5) hx hb htb in_Mo hown hK hG zmo rfl 4 (by decide) (htb _ k_2_227) (fun _ h9 => h9) rfl d_Mo_copy_88 ?_
          refine lv_iconst (v := 1) hx hb d_Mo_copy_91 (by decide) ?_
          refine lv_iadd hx hb d_Mo_copy_92 ?_
          rw [show nI my + 1 = nI (my + 1) from nI_1 my]
          refine gh_put (ci := 5) (ty := .int) hx hb htb in_Mo t_Mo ty_Mo nm_Mo hown hK hG zmo rfl 4 (by decide) (htb _ k_2_227) (fun _ h9 => h9) rfl (by decide +kernel) rfl rfl (Nat.le_of_ble_eq_true rfl) d_Mo_copy_93 (fun H l9 hG => ?_)
          have hq3 : (gh_up w1.1 mo (.inr (5, [.int 0, .int (nI g), .ref nm, .ref fr, .int (nI (my + 1)), .ref hs, .ref va, .ref tp, .ref dn]))) mo = some (.inr (5, [.int 0, .int (nI g), .ref nm, .ref fr, .int (nI (my + 1)), .ref hs, .ref va, .ref tp, .ref dn])) := gh_self _ _ _
          replace hG : gh_P D vC b0 (gh_up w1.1 mo (.inr (5, [.int 0, .int (nI g), .ref nm, .ref fr, .int (nI (my + 1)), .ref hs, .ref va, .ref tp, .ref dn]))) s.heap _ _ := hG
          have znm_3 : (gh_up w1.1 mo (.inr (5, [.int 0, .int (nI g), .ref nm, .ref fr, .int (nI (my + 1)), .ref hs, .ref va, .ref tp, .ref dn]))) nm = some (.inl (cI, 24, .inl nf)) := gh_keep zmo znm (by simp)
          have zfr_3 : (gh_up w1.1 mo (.inr (5, [.int 0, .int (nI g), .ref nm, .ref fr, .int (nI (my + 1)), .ref hs, .ref va, .ref tp, .ref dn]))) fr = some (.inl (cI, 8, .inl ff)) := gh_keep zmo zfr (by simp)
          have zhs_3 : (gh_up w1.1 mo (.inr (5, [.int 0, .int (nI g), .ref nm, .ref fr, .int (nI (my + 1)), .ref hs, .ref va, .ref tp, .ref dn]))) hs = some (.inl (cJ, 24, .inr (.inl w1.2))) := gh_keep zmo zhs (by simp)
          have zva_3 : (gh_up w1.1 mo (.inr (5, [.int 0, .int (nI g), .ref nm, .ref fr, .int (nI (my + 1)), .ref hs, .ref va, .ref tp, .ref dn]))) va = some (.inl (cJ, 8, .inr (.inl vf))) := gh_keep zmo zva (by simp)
          have ztp_3 : (gh_up w1.1 mo (.inr (5, [.int 0, .int (nI g), .ref nm, .ref fr, .int (nI (my + 1)), .ref hs, .ref va, .ref tp, .ref dn]))) tp = some (.inl (cJ, 8, .inr (.inl tf))) := gh_keep zmo ztp (by simp)
          have zdn_3 : (gh_up w1.1 mo (.inr (5, [.int 0, .int (nI g), .ref nm, .ref fr, .int (nI (my + 1)), .ref hs, .ref va, .ref tp, .ref dn]))) dn = some (.inl (cJ, 8, .inr (.inl df))) := gh_keep zmo zdn (by simp)
          refine lv_aload_n hx hb d_Mo_copy_96 rfl (lv_at hl 0 rfl) ?_
          refine gh_get (ci := 5) hx hb htb in_Mo hown hK hG hq3 rfl 4 (by decide) (htb _ k_2_227) (fun _ h9 => h9) rfl d_Mo_copy_97 ?_
          exact gh_iret hx hb hr hlk rfl hG d_Mo_copy_100 (rB_0 hbC (rB_0 (decide_eq_false hc23) ⟨rfl, v, w1.2, rfl, by omega, (fun j hj => zs.1 j (by omega)), zs.2, (wM_mk hq3 znm_3 zfr_3 zhs_3 zva_3 ztp_3 zdn_3 zvt zvd ztd (by omega) (by omega)), (frM_up zf zmo rfl)⟩))
        · skip
          replace hc47 : ¬ 4 ≤ k := fun q9 => hc47 ((nc_le (a := 4) (b := k) (by omega) (by omega) rfl rfl).mpr q9)
          refine lv_aload_n hx hb d_Mo_copy_50 rfl (lv_at hl 0 rfl) ?_
          refine gh_get (ci := 5) hx hb htb in_Mo hown hK hG zmo rfl 5 (by decide) (htb _ k_2_228) (fun _ h9 => h9) rfl d_Mo_copy_51 ?_
          refine lv_iconst (v := 4) hx hb d_Mo_copy_54 (by decide) ?_
          refine lv_aload_n hx hb d_Mo_copy_55 rfl (lv_at hl 0 rfl) ?_
          refine gh_get (ci := 5) hx hb htb in_Mo hown hK hG zmo rfl 4 (by decide) (htb _ k_2_227) (fun _ h9 => h9) rfl d_Mo_copy_56 ?_
          refine lv_imul hx hb d_Mo_copy_59 ?_
          rw [show 4 * (nI my) = nI (4 * my) from nm_mul 4 my]
          refine lv_iload_n hx hb d_Mo_copy_60 rfl (lv_at hl 2 rfl) ?_
          refine lv_iadd hx hb d_Mo_copy_61 ?_
          rw [show (nI (4 * my)) + (nI k) = nI ((4 * my) + k) from nI_add (4 * my) k]
          refine lv_aload_n hx hb d_Mo_copy_62 rfl (lv_at hl 0 rfl) ?_
          refine gh_get (ci := 5) hx hb htb in_Mo hown hK hG zmo rfl 5 (by decide) (htb _ k_2_228) (fun _ h9 => h9) rfl d_Mo_copy_63 ?_
          refine lv_iconst (v := 4) hx hb d_Mo_copy_66 (by decide) ?_
          refine lv_aload_n hx hb d_Mo_copy_67 rfl (lv_at hl 0 rfl) ?_
          refine gh_get (ci := 5) hx hb htb in_Mo hown hK hG zmo rfl 4 (by decide) (htb _ k_2_227) (fun _ h9 => h9) rfl d_Mo_copy_68 ?_
          refine lv_iconst (v := 1) hx hb d_Mo_copy_71 (by decide) ?_
          refine lv_isub hx hb d_Mo_copy_72 ?_
          rw [show nI my - 1 = nI (my - 1) from pk_sub (a := my) (b := 1) (by omega)]
          refine lv_iload_n hx hb d_Mo_copy_73 rfl (lv_at hl 1 rfl) ?_
          refine lv_isub hx hb d_Mo_copy_74 ?_
          rw [show nI (my - 1) - (nI v) = nI ((my - 1) - v) from pk_sub (a := (my - 1)) (b := v) (by omega)]
          refine lv_imul hx hb d_Mo_copy_75 ?_
          rw [show 4 * (nI ((my - 1) - v)) = nI (4 * ((my - 1) - v)) from nm_mul 4 ((my - 1) - v)]
          refine lv_iload_n hx hb d_Mo_copy_76 rfl (lv_at hl 2 rfl) ?_
          refine lv_iadd hx hb d_Mo_copy_77 ?_
          rw [show (nI (4 * ((my - 1) - v))) + (nI k) = nI ((4 * ((my - 1) - v)) + k) from nI_add (4 * ((my - 1) - v)) k]
          refine gh_lald (v := w1.2 ((4 * ((my - 1) - v)) + k)) hx hb hK hG 1 zhs rfl (vp_in_nI (by omega) (by decide)) (by rw [nI_clamp (by omega)]) d_Mo_copy_78 ?_
          refine gh_last hx hb hK hG 1 zhs rfl (vp_in_nI (by omega) (by decide)) d_Mo_copy_79 (fun H l9 hG => ?_)
          rw [nI_clamp (by omega)] at hG
          have hq4 : (gh_up w1.1 hs (.inl (cJ, 24, .inr (.inl (vp_updL w1.2 ((4 * my) + k) (w1.2 ((4 * ((my - 1) - v)) + k))))))) hs = some (.inl (cJ, 24, .inr (.inl (vp_updL w1.2 ((4 * my) + k) (w1.2 ((4 * ((my - 1) - v)) + k)))))) := gh_self _ _ _
          replace hG : gh_P D vC b0 (gh_up w1.1 hs (.inl (cJ, 24, .inr (.inl (vp_updL w1.2 ((4 * my) + k) (w1.2 ((4 * ((my - 1) - v)) + k))))))) s.heap _ _ := hG
          have zmo_4 : (gh_up w1.1 hs (.inl (cJ, 24, .inr (.inl (vp_updL w1.2 ((4 * my) + k) (w1.2 ((4 * ((my - 1) - v)) + k))))))) mo = some (.inr (5, [.int 0, .int (nI g), .ref nm, .ref fr, .int (nI my), .ref hs, .ref va, .ref tp, .ref dn])) := gh_keep zhs zmo (by simp)
          have znm_4 : (gh_up w1.1 hs (.inl (cJ, 24, .inr (.inl (vp_updL w1.2 ((4 * my) + k) (w1.2 ((4 * ((my - 1) - v)) + k))))))) nm = some (.inl (cI, 24, .inl nf)) := gh_keep zhs znm (by simp)
          have zfr_4 : (gh_up w1.1 hs (.inl (cJ, 24, .inr (.inl (vp_updL w1.2 ((4 * my) + k) (w1.2 ((4 * ((my - 1) - v)) + k))))))) fr = some (.inl (cI, 8, .inl ff)) := gh_keep zhs zfr (by simp)
          have zva_4 : (gh_up w1.1 hs (.inl (cJ, 24, .inr (.inl (vp_updL w1.2 ((4 * my) + k) (w1.2 ((4 * ((my - 1) - v)) + k))))))) va = some (.inl (cJ, 8, .inr (.inl vf))) := gh_keep zhs zva (by simp)
          have ztp_4 : (gh_up w1.1 hs (.inl (cJ, 24, .inr (.inl (vp_updL w1.2 ((4 * my) + k) (w1.2 ((4 * ((my - 1) - v)) + k))))))) tp = some (.inl (cJ, 8, .inr (.inl tf))) := gh_keep zhs ztp (by simp)
          have zdn_4 : (gh_up w1.1 hs (.inl (cJ, 24, .inr (.inl (vp_updL w1.2 ((4 * my) + k) (w1.2 ((4 * ((my - 1) - v)) + k))))))) dn = some (.inl (cJ, 8, .inr (.inl df))) := gh_keep zhs zdn (by simp)
          refine lv_iinc (k := 2) (v := nI (k + 1)) (lv' := [(2, .int (nI (k + 1))), (0, .ref mo), (1, .int (nI v))]) hx hb d_Mo_copy_80 hl rfl (nI_1 k) (by decide) rfl (fun ls hl => ?_)
          refine lv_goto (tgt := 45) hx hb d_Mo_copy_83 (by decide) ?_
          exact ih (gh_up w1.1 hs (.inl (cJ, 24, .inr (.inl (vp_updL w1.2 ((4 * my) + k) (w1.2 ((4 * ((my - 1) - v)) + k)))))), (vp_updL w1.2 ((4 * my) + k) (w1.2 ((4 * ((my - 1) - v)) + k)))) ls H l9 (by omega) ⟨⟨(wM_mk zmo_4 znm_4 zfr_4 hq4 zva_4 ztp_4 zdn_4 zvt zvd ztd (by omega) (by omega)), (frM_up zf zhs rfl), w_in (g := fun j => hf (4 * (my - 1 - v) + j)) zs.1 (by rw [zs.2 _ (by omega)]), w_lo zs.2 (by omega)⟩, (lv_sub hl [1, 2, 0] rfl), hG⟩
      · skip
        replace hc23 : my = 6 := (nc_eq (a := my) (b := 6) (by omega) (by omega) rfl rfl).mp hc23
        refine lv_iconst (v := 2) hx hb d_Mo_copy_26 (by decide) ?_
        refine lv_goto (tgt := 31) hx hb d_Mo_copy_27 (by decide) ?_
        refine gh_put (ci := 5) (ty := .int) hx hb htb in_Mo t_Mo ty_Mo nm_Mo hown hK hG zmo rfl 0 (by decide) (htb _ k_2_223) (fun _ h9 => h9) rfl (by decide +kernel) rfl rfl (Nat.le_of_ble_eq_true rfl) d_Mo_copy_31 (fun H l9 hG => ?_)
        have hq5 : (gh_up h mo (.inr (5, [.int 2, .int (nI g), .ref nm, .ref fr, .int (nI my), .ref hs, .ref va, .ref tp, .ref dn]))) mo = some (.inr (5, [.int 2, .int (nI g), .ref nm, .ref fr, .int (nI my), .ref hs, .ref va, .ref tp, .ref dn])) := gh_self _ _ _
        replace hG : gh_P D vC b0 (gh_up h mo (.inr (5, [.int 2, .int (nI g), .ref nm, .ref fr, .int (nI my), .ref hs, .ref va, .ref tp, .ref dn]))) s.heap _ _ := hG
        have znm_5 : (gh_up h mo (.inr (5, [.int 2, .int (nI g), .ref nm, .ref fr, .int (nI my), .ref hs, .ref va, .ref tp, .ref dn]))) nm = some (.inl (cI, 24, .inl nf)) := gh_keep zmo znm (by simp)
        have zfr_5 : (gh_up h mo (.inr (5, [.int 2, .int (nI g), .ref nm, .ref fr, .int (nI my), .ref hs, .ref va, .ref tp, .ref dn]))) fr = some (.inl (cI, 8, .inl ff)) := gh_keep zmo zfr (by simp)
        have zhs_5 : (gh_up h mo (.inr (5, [.int 2, .int (nI g), .ref nm, .ref fr, .int (nI my), .ref hs, .ref va, .ref tp, .ref dn]))) hs = some (.inl (cJ, 24, .inr (.inl hf))) := gh_keep zmo zhs (by simp)
        have zva_5 : (gh_up h mo (.inr (5, [.int 2, .int (nI g), .ref nm, .ref fr, .int (nI my), .ref hs, .ref va, .ref tp, .ref dn]))) va = some (.inl (cJ, 8, .inr (.inl vf))) := gh_keep zmo zva (by simp)
        have ztp_5 : (gh_up h mo (.inr (5, [.int 2, .int (nI g), .ref nm, .ref fr, .int (nI my), .ref hs, .ref va, .ref tp, .ref dn]))) tp = some (.inl (cJ, 8, .inr (.inl tf))) := gh_keep zmo ztp (by simp)
        have zdn_5 : (gh_up h mo (.inr (5, [.int 2, .int (nI g), .ref nm, .ref fr, .int (nI my), .ref hs, .ref va, .ref tp, .ref dn]))) dn = some (.inl (cJ, 8, .inr (.inl df))) := gh_keep zmo zdn (by simp)
        refine lv_aload_n hx hb d_Mo_copy_34 rfl (lv_at hl 0 rfl) ?_
        refine gh_get (ci := 5) hx hb htb in_Mo hown hK hG hq5 rfl 0 (by decide) (htb _ k_2_223) (fun _ h9 => h9) rfl d_Mo_copy_35 ?_
        refine lv_if_le (tgt := 43) hx hb d_Mo_copy_38 (by decide) (fun hc38 => absurd hc38 (by decide)) (fun hc38 => ?_)
        refine lv_iconst (v := 0) hx hb d_Mo_copy_41 (by decide) ?_
        exact gh_iret hx hb hr hlk rfl hG d_Mo_copy_42 (rB_0 hbC (rB_1 (decide_eq_true hc23) ⟨rfl, (wM_mk hq5 znm_5 zfr_5 zhs_5 zva_5 ztp_5 zdn_5 zvt zvd ztd (by omega) (by omega)), (frM_up zf0 zmo rfl)⟩))
    · skip
      replace hc10 : ¬ v < my := fun q9 => hc10 ((nc_lt (a := v) (b := my) (by omega) (by omega) rfl rfl).mpr q9)
      have hq4 : ¬ nI v < nI my := fun k9 => hc10 ((nc_lt (a := v) (b := my) (by omega) (by omega) rfl rfl).mp k9)
      refine lv_iconst (v := 1) hx hb d_Mo_copy_13 (by decide) ?_
      refine lv_goto (tgt := 31) hx hb d_Mo_copy_14 (by decide) ?_
      refine gh_put (ci := 5) (ty := .int) hx hb htb in_Mo t_Mo ty_Mo nm_Mo hown hK hG zmo rfl 0 (by decide) (htb _ k_2_223) (fun _ h9 => h9) rfl (by decide +kernel) rfl rfl (Nat.le_of_ble_eq_true rfl) d_Mo_copy_31 (fun H l9 hG => ?_)
      have hq6 : (gh_up h mo (.inr (5, [.int 1, .int (nI g), .ref nm, .ref fr, .int (nI my), .ref hs, .ref va, .ref tp, .ref dn]))) mo = some (.inr (5, [.int 1, .int (nI g), .ref nm, .ref fr, .int (nI my), .ref hs, .ref va, .ref tp, .ref dn])) := gh_self _ _ _
      replace hG : gh_P D vC b0 (gh_up h mo (.inr (5, [.int 1, .int (nI g), .ref nm, .ref fr, .int (nI my), .ref hs, .ref va, .ref tp, .ref dn]))) s.heap _ _ := hG
      have znm_6 : (gh_up h mo (.inr (5, [.int 1, .int (nI g), .ref nm, .ref fr, .int (nI my), .ref hs, .ref va, .ref tp, .ref dn]))) nm = some (.inl (cI, 24, .inl nf)) := gh_keep zmo znm (by simp)
      have zfr_6 : (gh_up h mo (.inr (5, [.int 1, .int (nI g), .ref nm, .ref fr, .int (nI my), .ref hs, .ref va, .ref tp, .ref dn]))) fr = some (.inl (cI, 8, .inl ff)) := gh_keep zmo zfr (by simp)
      have zhs_6 : (gh_up h mo (.inr (5, [.int 1, .int (nI g), .ref nm, .ref fr, .int (nI my), .ref hs, .ref va, .ref tp, .ref dn]))) hs = some (.inl (cJ, 24, .inr (.inl hf))) := gh_keep zmo zhs (by simp)
      have zva_6 : (gh_up h mo (.inr (5, [.int 1, .int (nI g), .ref nm, .ref fr, .int (nI my), .ref hs, .ref va, .ref tp, .ref dn]))) va = some (.inl (cJ, 8, .inr (.inl vf))) := gh_keep zmo zva (by simp)
      have ztp_6 : (gh_up h mo (.inr (5, [.int 1, .int (nI g), .ref nm, .ref fr, .int (nI my), .ref hs, .ref va, .ref tp, .ref dn]))) tp = some (.inl (cJ, 8, .inr (.inl tf))) := gh_keep zmo ztp (by simp)
      have zdn_6 : (gh_up h mo (.inr (5, [.int 1, .int (nI g), .ref nm, .ref fr, .int (nI my), .ref hs, .ref va, .ref tp, .ref dn]))) dn = some (.inl (cJ, 8, .inr (.inl df))) := gh_keep zmo zdn (by simp)
      refine lv_aload_n hx hb d_Mo_copy_34 rfl (lv_at hl 0 rfl) ?_
      refine gh_get (ci := 5) hx hb htb in_Mo hown hK hG hq6 rfl 0 (by decide) (htb _ k_2_223) (fun _ h9 => h9) rfl d_Mo_copy_35 ?_
      refine lv_if_le (tgt := 43) hx hb d_Mo_copy_38 (by decide) (fun hc38 => absurd hc38 (by decide)) (fun hc38 => ?_)
      refine lv_iconst (v := 0) hx hb d_Mo_copy_41 (by decide) ?_
      exact gh_iret hx hb hr hlk rfl hG d_Mo_copy_42 (rB_1 (by simp [m_badC, hq4]) ⟨rfl, (wM_mk hq6 znm_6 zfr_6 zhs_6 zva_6 ztp_6 zdn_6 zvt zvd ztd (by omega) (by omega)), (frM_up zf0 zmo rfl)⟩)

end
