/-- a loop that may make cells as it goes -/
theorem lp_upK {α : Type} {G : Nat → Array Slot → Heap → List Loc → Prop} (n : Nat) (I : Nat → α → Array Slot → Heap → List Loc → Prop) (step : ∀ k a ls H l9, k ≤ n → I k a ls H l9 → (∀ a' ls' H' l', k < n → I (k + 1) a' ls' H' l' → G (k + 1) ls' H' l') → G k ls H l9) : ∀ k a ls H l9, k ≤ n → I k a ls H l9 → G k ls H l9 := by
  have K : ∀ d k a ls H l9, n - k < d → k ≤ n → I k a ls H l9 → G k ls H l9 := by
    intro d
    induction d with
    | zero => intro k a ls H l9 hd; omega
    | succ d ih =>
      intro k a ls H l9 hd hk hI
      exact step k a ls H l9 hk hI (fun a' ls' H' l' hlt hI' => ih (k + 1) a' ls' H' l' (by omega) (by omega) hI')
  exact fun k a ls H l9 hk hI => K (n - k + 1) k a ls H l9 (by omega) hk hI

section
variable {l : Launch} {D : va_G} {cI cJ cP cS : ClassId} {b0 : Nat} {h : gh_M}

set_option maxHeartbeats 4000000 in
set_option maxRecDepth 100000 in
/-- side -/
theorem c_X_side {sp al fi : Nat} {n : Nat} {ga : Nat → Option Nat} {gf : Nat → Int32} {pl fs : Nat → Nat} {pa pb pc pd : Nat → Int64} (hsp : h sp = some (.inr (2, [.ref al, .ref fi, .int (nI n)]))) (hal : h al = some (.inl (cP, 14, .inr (.inr (.inr (.inr ga)))))) (hfi : h fi = some (.inl (cI, 14, .inl gf))) (hga : ∀ i, i < n → ga i = some (pl i)) (hgf : ∀ i, i < n → gf i = nI (fs i)) (hfs : ∀ i, fs i < 14) (hpl : ∀ i, i < n → h (pl i) = some (.inr (1, [.long (pa i), .long (pb i), .long (pc i), .long (pd i)]))) (hn : n ≤ 14) (h6 : 6 ≤ n) {x sk po : Nat} {gs : Nat → Option Nat} {so wo : Nat → Nat} {wd : Nat → Nat → Int64} {ht : Nat} {px py pz pw : Int64} (hxx : h x = some (.inr (0, [.ref sp, .ref sk, .ref po, .int (nI ht)]))) (hsk : h sk = some (.inl (cS, 6, .inr (.inr (.inr (.inr gs)))))) (hgs : ∀ j, j < 6 → gs j = some (so j)) (hpo : h po = some (.inr (3, [.long px, .long py, .long pz, .long pw]))) (hso : ∀ j, j < 6 → h (so j) = some (.inr (4, [.ref (wo j)]))) (hwo : ∀ j, j < 6 → h (wo j) = some (.inl (cJ, 4, .inr (.inl (wd j))))) (hwi : ∀ i j, i < 6 → j < 6 → wo i = wo j → i = j) (hht : ht ≤ 6) (hfi2 : ∀ i, i < n → fs i ≤ i) {a1 b1 c1 d1 : Int32} (htr : xc_off l) : gh_C l D vC (tZ cI cJ cP cS) (xF b0) b0 y_X_side w_X_side ({ frames := 7, cells := 3, slots := 18, locals := 130 }) [.ref x, .int a1, .int b1, .int c1, .int d1] h (rB (m_badQ a1 b1 c1 d1) (rT 6 h) (rB (decide (ht = 0)) (rT 7 h) (rB (decide (m_only (fun i => decide (m_exc (pa i) (pb i) (pc i) (pd i) (Int32.toInt64 a1) (Int32.toInt64 b1) (Int32.toInt64 c1) (Int32.toInt64 d1) = 0)) fs n = -1)) (rT 9 (gh_up h po (.inr (3, [.long (Int32.toInt64 a1), .long (Int32.toInt64 b1), .long (Int32.toInt64 c1), .long (Int32.toInt64 d1)])))) (fun oc h2 => oc = .returned (some (.int (m_lkat (wd (ht - 1)) n fs pa pb pc pd ((m_only (fun i => decide (m_exc (pa i) (pb i) (pc i) (pd i) (Int32.toInt64 a1) (Int32.toInt64 b1) (Int32.toInt64 c1) (Int32.toInt64 d1) = 0)) fs n).toNatClampNeg) (Int32.toInt64 a1) (Int32.toInt64 b1) (Int32.toInt64 c1) (Int32.toInt64 d1)))) ∧ h2 = gh_up h po (.inr (3, [.long (Int32.toInt64 a1), .long (Int32.toInt64 b1), .long (Int32.toInt64 c1), .long (Int32.toInt64 d1)])))))) := by
  refine gh_ofW (by decide) (Nat.le_of_ble_eq_true rfl) ?_
  intro p e s m below meth c ls hctx hno hl hG hK hX
  obtain ⟨hx, hb, hr, hml, hown, hlk, hts, hnm⟩ := hctx
  have htb : ∀ w ∈ tB, w.before _ s = true := fun w hw => hts w (List.mem_cons_of_mem _ hw)
  replace hl : lv_has ls 6 [(0, .ref x), (1, .int a1), (2, .int b1), (3, .int c1), (4, .int d1)] := hl
  refine lv_iload_n hx hb d_X_side_0 rfl (lv_at hl 1 rfl) ?_
  refine lv_iload_n hx hb d_X_side_1 rfl (lv_at hl 2 rfl) ?_
  refine lv_iload_n hx hb d_X_side_2 rfl (lv_at hl 3 rfl) ?_
  refine lv_iload hx hb d_X_side_3 (lv_at hl 4 rfl) ?_
  refine gh_cS (As := [.int a1, .int b1, .int c1, .int d1]) (rest := []) (xF_ok b0) hx hb hml hown hK hX hG (c_X_requirePoint htr) (q_X_requirePoint htb ⟨by decide, by decide⟩) (htb _ k_2_90) (htb _ k_2_91) rfl hl.1 rfl (Nat.le_of_ble_eq_true rfl) d_X_side_5 ⟨by decide, by decide⟩ (fun v9 h9 H l9 hp9 hG => ?_) (fun x9 h9 H l9 hp9 hG => gx_widenT (k := 3) (n := 18) (by decide) (by decide) (gh_pass hlk (fun z9 hz9 => hno z9 hz9 _) hG (rB_1 (rB_v hp9).1 (rB_v hp9).2)))
  obtain ⟨hbq, hv9, hh9⟩ := rB_r hp9
  cases hv9
  rw [hh9] at hG
  refine W.eq (g2 := F0 m 8 ls []) rfl ?_
  refine W.widen (k := 1) (n := 6) (by decide) (by decide) ?_
  refine lv_aload_n hx hb d_X_side_8 rfl (lv_at hl 0 rfl) ?_
  refine gh_cV (ci := 0) (As := []) (rest := []) (xF_ok b0) hx hb hml hown hK hX hG rfl hxx (c_X_requireSolid hxx hht htr) (q_X_requireSolid htb ⟨by decide, by decide⟩) (htb _ k_2_39) (htb _ k_2_41) (htb _ k_s_X_requireSolid) rfl hl.1 rfl (Nat.le_of_ble_eq_true rfl) d_X_side_9 ⟨by decide, by decide⟩ (fun v9 h9 H l9 hp9 hG => ?_) (fun x9 h9 H l9 hp9 hG => gx_widenT (k := 3) (n := 18) (by decide) (by decide) (gh_pass hlk (fun z9 hz9 => hno z9 hz9 _) hG (rB_0 hbq (rB_1 (rB_v hp9).1 (rB_v hp9).2))))
  obtain ⟨hb9, hv9, hh9⟩ := rB_r hp9
  cases hv9
  rw [hh9] at hG
  have hsol := of_decide_eq_false hb9
  refine W.eq (g2 := F0 m 12 ls []) rfl ?_
  refine W.widen (k := 2) (n := 12) (by decide) (by decide) ?_
  have hs1 : 1 ≤ ht := by omega
  refine lv_aload_n hx hb d_X_side_12 rfl (lv_at hl 0 rfl) ?_
  refine gh_get (ci := 0) hx hb htb in_X hown hK hG hxx rfl 2 (by decide) (htb _ k_1_111) (fun _ h9 => h9) rfl d_X_side_13 ?_
  refine lv_iload_n hx hb d_X_side_16 rfl (lv_at hl 1 rfl) ?_
  refine lv_i2l (v := Int32.toInt64 a1) hx hb d_X_side_17 rfl ?_
  refine lv_iload_n hx hb d_X_side_18 rfl (lv_at hl 2 rfl) ?_
  refine lv_i2l (v := Int32.toInt64 b1) hx hb d_X_side_19 rfl ?_
  refine lv_iload_n hx hb d_X_side_20 rfl (lv_at hl 3 rfl) ?_
  refine lv_i2l (v := Int32.toInt64 c1) hx hb d_X_side_21 rfl ?_
  refine lv_iload hx hb d_X_side_22 (lv_at hl 4 rfl) ?_
  refine lv_i2l (v := Int32.toInt64 d1) hx hb d_X_side_24 rfl ?_
  refine gh_cV (ci := 3) (As := [.long (Int32.toInt64 a1), .long (Int32.toInt64 b1), .long (Int32.toInt64 c1), .long (Int32.toInt64 d1)]) (rest := []) (xF_ok b0) hx hb hml hown hK hX hG rfl hpo (c_Pt_place hpo) (q_Pt_place htb ⟨by decide, by decide⟩) (htb _ k_2_95) (htb _ k_2_96) (htb _ k_2_97) rfl hl.1 rfl (Nat.le_of_ble_eq_true rfl) d_X_side_25 ⟨by decide, by decide⟩ (fun v9 h9 H l9 hp9 hG => ?_) (fun _ _ _ _ hp9 _ => by cases hp9.1)
  obtain ⟨hv9, hh9⟩ := hp9
  cases hv9
  rw [hh9] at hG
  have hq1 : (gh_up h po (.inr (3, [.long (Int32.toInt64 a1), .long (Int32.toInt64 b1), .long (Int32.toInt64 c1), .long (Int32.toInt64 d1)]))) po = some (.inr (3, [.long (Int32.toInt64 a1), .long (Int32.toInt64 b1), .long (Int32.toInt64 c1), .long (Int32.toInt64 d1)])) := gh_self _ _ _
  replace hG : gh_P D vC b0 (gh_up h po (.inr (3, [.long (Int32.toInt64 a1), .long (Int32.toInt64 b1), .long (Int32.toInt64 c1), .long (Int32.toInt64 d1)]))) s.heap _ _ := hG
  have hsp_1 : (gh_up h po (.inr (3, [.long (Int32.toInt64 a1), .long (Int32.toInt64 b1), .long (Int32.toInt64 c1), .long (Int32.toInt64 d1)]))) sp = some (.inr (2, [.ref al, .ref fi, .int (nI n)])) := gh_keep hpo hsp (by simp)
  have hal_1 : (gh_up h po (.inr (3, [.long (Int32.toInt64 a1), .long (Int32.toInt64 b1), .long (Int32.toInt64 c1), .long (Int32.toInt64 d1)]))) al = some (.inl (cP, 14, .inr (.inr (.inr (.inr ga))))) := gh_keep hpo hal (by simp)
  have hfi_1 : (gh_up h po (.inr (3, [.long (Int32.toInt64 a1), .long (Int32.toInt64 b1), .long (Int32.toInt64 c1), .long (Int32.toInt64 d1)]))) fi = some (.inl (cI, 14, .inl gf)) := gh_keep hpo hfi (by simp)
  have hxx_1 : (gh_up h po (.inr (3, [.long (Int32.toInt64 a1), .long (Int32.toInt64 b1), .long (Int32.toInt64 c1), .long (Int32.toInt64 d1)]))) x = some (.inr (0, [.ref sp, .ref sk, .ref po, .int (nI ht)])) := gh_keep hpo hxx (by simp)
  have hsk_1 : (gh_up h po (.inr (3, [.long (Int32.toInt64 a1), .long (Int32.toInt64 b1), .long (Int32.toInt64 c1), .long (Int32.toInt64 d1)]))) sk = some (.inl (cS, 6, .inr (.inr (.inr (.inr gs))))) := gh_keep hpo hsk (by simp)
  replace hpl : ∀ i, i < n → (gh_up h po (.inr (3, [.long (Int32.toInt64 a1), .long (Int32.toInt64 b1), .long (Int32.toInt64 c1), .long (Int32.toInt64 d1)]))) (pl i) = some (.inr (1, [.long (pa i), .long (pb i), .long (pc i), .long (pd i)])) := fun i hi => gh_keep hpo (hpl i hi) (by simp)
  replace hso : ∀ j, j < 6 → (gh_up h po (.inr (3, [.long (Int32.toInt64 a1), .long (Int32.toInt64 b1), .long (Int32.toInt64 c1), .long (Int32.toInt64 d1)]))) (so j) = some (.inr (4, [.ref (wo j)])) := fun j hj => gh_keep hpo (hso j hj) (by simp)
  replace hwo : ∀ j, j < 6 → (gh_up h po (.inr (3, [.long (Int32.toInt64 a1), .long (Int32.toInt64 b1), .long (Int32.toInt64 c1), .long (Int32.toInt64 d1)]))) (wo j) = some (.inl (cJ, 4, .inr (.inl (wd j)))) := fun j hj => gh_keep hpo (hwo j hj) (by simp)
  refine W.eq (g2 := F0 m 28 ls []) rfl ?_
  refine W.widen (k := 2) (n := 12) (by decide) (by decide) ?_
  refine lv_aload_n hx hb d_X_side_28 rfl (lv_at hl 0 rfl) ?_
  refine gh_get (ci := 0) hx hb htb in_X hown hK hG hxx_1 rfl 0 (by decide) (htb _ k_1_109) (fun _ h9 => h9) rfl d_X_side_29 ?_
  refine lv_aload_n hx hb d_X_side_32 rfl (lv_at hl 0 rfl) ?_
  refine gh_get (ci := 0) hx hb htb in_X hown hK hG hxx_1 rfl 2 (by decide) (htb _ k_1_111) (fun _ h9 => h9) rfl d_X_side_33 ?_
  refine gh_cV (ci := 2) (As := [.ref po]) (rest := []) (xF_ok b0) hx hb hml hown hK hX hG rfl hsp_1 (c_Ps_onlyOneAt hsp_1 hal_1 hfi_1 hga hgf hfs hpl hn hq1) (q_Ps_onlyOneAt htb ⟨by decide, by decide⟩) (htb _ k_2_133) (htb _ k_2_134) (htb _ k_2_135) rfl hl.1 rfl (Nat.le_of_ble_eq_true rfl) d_X_side_36 ⟨by decide, by decide⟩ (fun v9 h9 H l9 hp9 hG => ?_) (fun _ _ _ _ hp9 _ => by cases hp9.1)
  obtain ⟨hv9, hh9⟩ := hp9
  cases hv9
  rw [hh9] at hG
  refine W.eq (g2 := F0 m 39 ls [.int (m_only (fun i => decide (m_exc (pa i) (pb i) (pc i) (pd i) (Int32.toInt64 a1) (Int32.toInt64 b1) (Int32.toInt64 c1) (Int32.toInt64 d1) = 0)) fs n)]) rfl ?_
  refine W.widen (k := 2) (n := 12) (by decide) (by decide) ?_
  refine lv_istore (lv' := [(5, .int (m_only (fun i => decide (m_exc (pa i) (pb i) (pc i) (pd i) (Int32.toInt64 a1) (Int32.toInt64 b1) (Int32.toInt64 c1) (Int32.toInt64 d1) = 0)) fs n)), (0, .ref x), (1, .int a1), (2, .int b1), (3, .int c1), (4, .int d1)]) hx hb d_X_side_39 hl (by decide) rfl (fun ls hl => ?_)
  refine lv_iload hx hb d_X_side_41 (lv_at hl 0 rfl) ?_
  refine lv_iconst (v := (-1)) hx hb d_X_side_43 (by decide) ?_
  refine lv_icmp_ne (tgt := 57) hx hb d_X_side_44 (by decide) (fun hc44 => ?_) (fun hc44 => ?_)
  · skip
    obtain ⟨k9, hk9, hon9, he9⟩ := m_only_some hc44
    have hz9 := hfi2 k9 hk9
    rw [he9] at hl
    replace hl : lv_has ls 6 [(5, .int (nI (fs k9))), (0, .ref x), (1, .int a1), (2, .int b1), (3, .int c1), (4, .int d1)] := hl
    refine lv_aload_n hx hb d_X_side_57 rfl (lv_at hl 1 rfl) ?_
    refine lv_iload hx hb d_X_side_58 (lv_at hl 0 rfl) ?_
    refine gh_cV (ci := 0) (As := [.int (nI (fs k9))]) (rest := []) (xF_ok b0) hx hb hml hown hK hX hG rfl hxx_1 (c_X_lookAtSpot hsp_1 hal_1 hfi_1 hga hgf hfs hpl hn h6 hxx_1 hsk_1 hgs hq1 hso hwo hwi hht hs1 (fc := (fs k9)) (by omega)) (q_X_lookAtSpot htb ⟨by decide, by decide⟩) (htb _ k_2_153) (htb _ k_2_155) (htb _ k_s_X_lookAtSpot) rfl hl.1 rfl (Nat.le_of_ble_eq_true rfl) d_X_side_60 ⟨by decide, by decide⟩ (fun v9 h9 H l9 hp9 hG => ?_) (fun _ _ _ _ hp9 _ => by cases hp9.1)
    obtain ⟨hv9, hh9⟩ := hp9
    cases hv9
    rw [hh9] at hG
    refine W.eq (g2 := F0 m 63 ls [.int (m_lkat (wd (ht - 1)) n fs pa pb pc pd (fs k9) (Int32.toInt64 a1) (Int32.toInt64 b1) (Int32.toInt64 c1) (Int32.toInt64 d1))]) rfl ?_
    refine W.widen (k := 2) (n := 12) (by decide) (by decide) ?_
    refine W.widen (k := 3) (n := 18) (by decide) (by decide) ?_
    exact gh_iret hx hb hr hlk rfl hG d_X_side_63 (rB_0 hbq (rB_0 (decide_eq_false hsol) (rB_0 (decide_eq_false hc44) ⟨by rw [he9, nI_clamp (by have z9 := hfs k9; omega)], rfl⟩)))
  · skip
    refine W.widen (k := 2) (n := 12) (by decide) (by decide) ?_
    exact gh_thr (bytes := prog_16_method_4_code) (index := 13) (is := 125) (E := R_NS) (ci := 9) hx hb htr hlk hno hml hl.1 hown htb hK hX hG rfl (by decide +kernel) k_2_137 k_1_13 k_2_138 (List.mem_of_getElem? (i := 12) rfl) (by decide +kernel) (by decide +kernel) (by decide +kernel) (by decide +kernel) at_NS d_X_side_47 d_X_side_50 d_X_side_51 d_X_side_53 d_X_side_56 (by decide) (by decide) (by decide) (by decide) (fun q9 hq9 => rB_0 hbq (rB_0 (decide_eq_false hsol) (rB_1 (decide_eq_true hc44) ⟨q9, rfl, hq9, rfl⟩)))

set_option maxHeartbeats 4000000 in
set_option maxRecDepth 100000 in
/-- isEntry -/
theorem c_X_isEntry {sp al fi : Nat} {n : Nat} {ga : Nat → Option Nat} {gf : Nat → Int32} {pl fs : Nat → Nat} {pa pb pc pd : Nat → Int64} (hsp : h sp = some (.inr (2, [.ref al, .ref fi, .int (nI n)]))) (hal : h al = some (.inl (cP, 14, .inr (.inr (.inr (.inr ga)))))) (hfi : h fi = some (.inl (cI, 14, .inl gf))) (hga : ∀ i, i < n → ga i = some (pl i)) (hgf : ∀ i, i < n → gf i = nI (fs i)) (hfs : ∀ i, fs i < 14) (hpl : ∀ i, i < n → h (pl i) = some (.inr (1, [.long (pa i), .long (pb i), .long (pc i), .long (pd i)]))) (hn : n ≤ 14) (h6 : 6 ≤ n) {x sk po : Nat} {gs : Nat → Option Nat} {so wo : Nat → Nat} {wd : Nat → Nat → Int64} {ht : Nat} {px py pz pw : Int64} (hxx : h x = some (.inr (0, [.ref sp, .ref sk, .ref po, .int (nI ht)]))) (hsk : h sk = some (.inl (cS, 6, .inr (.inr (.inr (.inr gs)))))) (hgs : ∀ j, j < 6 → gs j = some (so j)) (hpo : h po = some (.inr (3, [.long px, .long py, .long pz, .long pw]))) (hso : ∀ j, j < 6 → h (so j) = some (.inr (4, [.ref (wo j)]))) (hwo : ∀ j, j < 6 → h (wo j) = some (.inl (cJ, 4, .inr (.inl (wd j))))) (hwi : ∀ i j, i < 6 → j < 6 → wo i = wo j → i = j) (hht : ht ≤ 6) (hfi2 : ∀ i, i < n → fs i ≤ i) (hs1 : 1 ≤ ht) {i0 : Nat} (hi0 : i0 < n) {ax u v : Int32} (htr : xc_off l) : gh_C l D vC (tZ cI cJ cP cS) (xF b0) b0 y_X_isEntry w_X_isEntry ({ frames := 6, cells := 1, slots := 6, locals := 110 }) [.ref x, .int (nI i0), .int ax, .int u, .int v] h (rB (decide (m_fac ax (pa i0) (pb i0) (pc i0) = 0)) (rI 0 h) (rB (!m_all (fun i => decide (m_exc (pa i) (pb i) (pc i) (pd i) (e_x ax (Int32.toInt64 u) (Int32.toInt64 v) (pa i0) (pb i0) (pc i0) (pd i0)) (e_y ax (Int32.toInt64 u) (Int32.toInt64 v) (pa i0) (pb i0) (pc i0) (pd i0)) (e_z ax (Int32.toInt64 u) (Int32.toInt64 v) (pa i0) (pb i0) (pc i0) (pd i0)) (e_w ax (pa i0) (pb i0) (pc i0)) ≤ 0)) 6) (rI 0 (gh_up h po (.inr (3, [.long (e_x ax (Int32.toInt64 u) (Int32.toInt64 v) (pa i0) (pb i0) (pc i0) (pd i0)), .long (e_y ax (Int32.toInt64 u) (Int32.toInt64 v) (pa i0) (pb i0) (pc i0) (pd i0)), .long (e_z ax (Int32.toInt64 u) (Int32.toInt64 v) (pa i0) (pb i0) (pc i0) (pd i0)), .long (e_w ax (pa i0) (pb i0) (pc i0))])))) (rB (decide (m_only (fun i => decide (m_exc (pa i) (pb i) (pc i) (pd i) (e_x ax (Int32.toInt64 u) (Int32.toInt64 v) (pa i0) (pb i0) (pc i0) (pd i0)) (e_y ax (Int32.toInt64 u) (Int32.toInt64 v) (pa i0) (pb i0) (pc i0) (pd i0)) (e_z ax (Int32.toInt64 u) (Int32.toInt64 v) (pa i0) (pb i0) (pc i0) (pd i0)) (e_w ax (pa i0) (pb i0) (pc i0)) = 0)) fs n = -1)) (rT 9 (gh_up h po (.inr (3, [.long (e_x ax (Int32.toInt64 u) (Int32.toInt64 v) (pa i0) (pb i0) (pc i0) (pd i0)), .long (e_y ax (Int32.toInt64 u) (Int32.toInt64 v) (pa i0) (pb i0) (pc i0) (pd i0)), .long (e_z ax (Int32.toInt64 u) (Int32.toInt64 v) (pa i0) (pb i0) (pc i0) (pd i0)), .long (e_w ax (pa i0) (pb i0) (pc i0))])))) (rI (m_b (m_lkat (wd (ht - 1)) n fs pa pb pc pd i0 (e_x ax (Int32.toInt64 u) (Int32.toInt64 v) (pa i0) (pb i0) (pc i0) (pd i0)) (e_y ax (Int32.toInt64 u) (Int32.toInt64 v) (pa i0) (pb i0) (pc i0) (pd i0)) (e_z ax (Int32.toInt64 u) (Int32.toInt64 v) (pa i0) (pb i0) (pc i0) (pd i0)) (e_w ax (pa i0) (pb i0) (pc i0)) == (if m_fac ax (pa i0) (pb i0) (pc i0) < 0 then 1 else -1))) (gh_up h po (.inr (3, [.long (e_x ax (Int32.toInt64 u) (Int32.toInt64 v) (pa i0) (pb i0) (pc i0) (pd i0)), .long (e_y ax (Int32.toInt64 u) (Int32.toInt64 v) (pa i0) (pb i0) (pc i0) (pd i0)), .long (e_z ax (Int32.toInt64 u) (Int32.toInt64 v) (pa i0) (pb i0) (pc i0) (pd i0)), .long (e_w ax (pa i0) (pb i0) (pc i0))]))))))) := by
  refine gh_ofW (by decide) (Nat.le_of_ble_eq_true rfl) ?_
  intro p e s m below meth c ls hctx hno hl hG hK hX
  obtain ⟨hx, hb, hr, hml, hown, hlk, hts, hnm⟩ := hctx
  have htb : ∀ w ∈ tB, w.before _ s = true := fun w hw => hts w (List.mem_cons_of_mem _ hw)
  replace hl : lv_has ls 10 [(0, .ref x), (1, .int (nI i0)), (2, .int ax), (3, .int u), (4, .int v)] := hl
  have hpl0 := hpl
  have hso0 := hso
  have hwo0 := hwo
  refine lv_aload_n hx hb d_X_isEntry_0 rfl (lv_at hl 0 rfl) ?_
  refine gh_get (ci := 0) hx hb htb in_X hown hK hG hxx rfl 0 (by decide) (htb _ k_1_109) (fun _ h9 => h9) rfl d_X_isEntry_1 ?_
  refine lv_iload_n hx hb d_X_isEntry_4 rfl (lv_at hl 1 rfl) ?_
  refine gh_cV (ci := 2) (As := [.int (nI i0)]) (rest := []) (xF_ok b0) hx hb hml hown hK hX hG rfl hsp (c_Ps_get hsp hal hfi hga hgf hfs hpl hn (by omega)) (q_Ps_get htb ⟨by decide, by decide⟩) (htb _ k_2_195) (htb _ k_2_196) (htb _ k_2_197) rfl hl.1 rfl (Nat.le_of_ble_eq_true rfl) d_X_isEntry_5 ⟨by decide, by decide⟩ (fun v9 h9 H l9 hp9 hG => ?_) (fun _ _ _ _ hp9 _ => by cases hp9.1)
  obtain ⟨hv9, hh9⟩ := hp9
  cases hv9
  rw [hh9] at hG
  refine W.eq (g2 := F0 m 8 ls [.ref (pl i0)]) rfl ?_
  refine W.widen (k := 0) (n := 0) (by decide) (by decide) ?_
  refine lv_astore (lv' := [(5, .ref (pl i0)), (0, .ref x), (1, .int (nI i0)), (2, .int ax), (3, .int u), (4, .int v)]) hx hb d_X_isEntry_8 hl (by decide) rfl (fun ls hl => ?_)
  refine lv_aload hx hb d_X_isEntry_10 (lv_at hl 0 rfl) ?_
  refine lv_iload_n hx hb d_X_isEntry_12 rfl (lv_at hl 3 rfl) ?_
  refine gh_cV (ci := 1) (As := [.int ax]) (rest := []) (xF_ok b0) hx hb hml hown hK hX hG rfl (hpl i0 (by omega)) (c_Pl_factor (hpl i0 (by omega))) (q_Pl_factor htb ⟨by decide, by decide⟩) (htb _ k_2_199) (htb _ k_2_200) (htb _ k_2_201) rfl hl.1 rfl (Nat.le_of_ble_eq_true rfl) d_X_isEntry_13 ⟨by decide, by decide⟩ (fun v9 h9 H l9 hp9 hG => ?_) (fun _ _ _ _ hp9 _ => by cases hp9.1)
  obtain ⟨hv9, hh9⟩ := hp9
  cases hv9
  rw [hh9] at hG
  refine W.eq (g2 := F0 m 16 ls [.long (m_fac ax (pa i0) (pb i0) (pc i0))]) rfl ?_
  refine W.widen (k := 0) (n := 0) (by decide) (by decide) ?_
  refine lv_lstore (lv' := [(6, .long (m_fac ax (pa i0) (pb i0) (pc i0))), (5, .ref (pl i0)), (0, .ref x), (1, .int (nI i0)), (2, .int ax), (3, .int u), (4, .int v)]) hx hb d_X_isEntry_16 hl (by decide) rfl (fun ls hl => ?_)
  refine lv_lload hx hb d_X_isEntry_18 (lv_at hl 0 rfl) ?_
  refine lv_lconst (v := 0) hx hb d_X_isEntry_20 (by decide) ?_
  refine W.lcmp hx hb d_X_isEntry_21 ?_
  refine lv_if_ne (tgt := 27) hx hb d_X_isEntry_22 (by decide) (fun hc22 => ?_) (fun hc22 => ?_)
  · skip
    rw [lg_cmp_eq] at hc22
    refine lv_aload_n hx hb d_X_isEntry_27 rfl (lv_at hl 2 rfl) ?_
    refine gh_get (ci := 0) hx hb htb in_X hown hK hG hxx rfl 2 (by decide) (htb _ k_1_111) (fun _ h9 => h9) rfl d_X_isEntry_28 ?_
    refine lv_iload_n hx hb d_X_isEntry_31 rfl (lv_at hl 4 rfl) ?_
    refine lv_lconst (v := 0) hx hb d_X_isEntry_32 (by decide) ?_
    refine lv_iload_n hx hb d_X_isEntry_33 rfl (lv_at hl 5 rfl) ?_
    refine lv_i2l (v := Int32.toInt64 u) hx hb d_X_isEntry_34 rfl ?_
    refine lv_iload hx hb d_X_isEntry_35 (lv_at hl 6 rfl) ?_
    refine lv_i2l (v := Int32.toInt64 v) hx hb d_X_isEntry_37 rfl ?_
    refine lv_lconst (v := 1) hx hb d_X_isEntry_38 (by decide) ?_
    refine gh_cV (ci := 3) (As := [.int ax, .long 0, .long (Int32.toInt64 u), .long (Int32.toInt64 v), .long 1]) (rest := []) (xF_ok b0) hx hb hml hown hK hX hG rfl hpo (c_Pt_placeOnAxis hpo) (q_Pt_placeOnAxis htb ⟨by decide, by decide⟩) (htb _ k_2_203) (htb _ k_2_204) (htb _ k_2_205) rfl hl.1 rfl (Nat.le_of_ble_eq_true rfl) d_X_isEntry_39 ⟨by decide, by decide⟩ (fun v9 h9 H l9 hp9 hG => ?_) (fun _ _ _ _ hp9 _ => by cases hp9.1)
    obtain ⟨hv9, hh9⟩ := hp9
    cases hv9
    rw [hh9, m_onax_eq] at hG
    have hq1 : (gh_up h po (.inr (3, [.long (m_ox ax 0 (Int32.toInt64 u) (Int32.toInt64 v) 1), .long (m_oy ax 0 (Int32.toInt64 u) (Int32.toInt64 v) 1), .long (m_oz ax 0 (Int32.toInt64 u) (Int32.toInt64 v) 1), .long 1]))) po = some (.inr (3, [.long (m_ox ax 0 (Int32.toInt64 u) (Int32.toInt64 v) 1), .long (m_oy ax 0 (Int32.toInt64 u) (Int32.toInt64 v) 1), .long (m_oz ax 0 (Int32.toInt64 u) (Int32.toInt64 v) 1), .long 1])) := gh_self _ _ _
    replace hG : gh_P D vC b0 (gh_up h po (.inr (3, [.long (m_ox ax 0 (Int32.toInt64 u) (Int32.toInt64 v) 1), .long (m_oy ax 0 (Int32.toInt64 u) (Int32.toInt64 v) 1), .long (m_oz ax 0 (Int32.toInt64 u) (Int32.toInt64 v) 1), .long 1]))) s.heap _ _ := hG
    have hsp_1 : (gh_up h po (.inr (3, [.long (m_ox ax 0 (Int32.toInt64 u) (Int32.toInt64 v) 1), .long (m_oy ax 0 (Int32.toInt64 u) (Int32.toInt64 v) 1), .long (m_oz ax 0 (Int32.toInt64 u) (Int32.toInt64 v) 1), .long 1]))) sp = some (.inr (2, [.ref al, .ref fi, .int (nI n)])) := gh_keep hpo hsp (by simp)
    have hal_1 : (gh_up h po (.inr (3, [.long (m_ox ax 0 (Int32.toInt64 u) (Int32.toInt64 v) 1), .long (m_oy ax 0 (Int32.toInt64 u) (Int32.toInt64 v) 1), .long (m_oz ax 0 (Int32.toInt64 u) (Int32.toInt64 v) 1), .long 1]))) al = some (.inl (cP, 14, .inr (.inr (.inr (.inr ga))))) := gh_keep hpo hal (by simp)
    have hfi_1 : (gh_up h po (.inr (3, [.long (m_ox ax 0 (Int32.toInt64 u) (Int32.toInt64 v) 1), .long (m_oy ax 0 (Int32.toInt64 u) (Int32.toInt64 v) 1), .long (m_oz ax 0 (Int32.toInt64 u) (Int32.toInt64 v) 1), .long 1]))) fi = some (.inl (cI, 14, .inl gf)) := gh_keep hpo hfi (by simp)
    have hxx_1 : (gh_up h po (.inr (3, [.long (m_ox ax 0 (Int32.toInt64 u) (Int32.toInt64 v) 1), .long (m_oy ax 0 (Int32.toInt64 u) (Int32.toInt64 v) 1), .long (m_oz ax 0 (Int32.toInt64 u) (Int32.toInt64 v) 1), .long 1]))) x = some (.inr (0, [.ref sp, .ref sk, .ref po, .int (nI ht)])) := gh_keep hpo hxx (by simp)
    have hsk_1 : (gh_up h po (.inr (3, [.long (m_ox ax 0 (Int32.toInt64 u) (Int32.toInt64 v) 1), .long (m_oy ax 0 (Int32.toInt64 u) (Int32.toInt64 v) 1), .long (m_oz ax 0 (Int32.toInt64 u) (Int32.toInt64 v) 1), .long 1]))) sk = some (.inl (cS, 6, .inr (.inr (.inr (.inr gs))))) := gh_keep hpo hsk (by simp)
    replace hpl : ∀ i, i < n → (gh_up h po (.inr (3, [.long (m_ox ax 0 (Int32.toInt64 u) (Int32.toInt64 v) 1), .long (m_oy ax 0 (Int32.toInt64 u) (Int32.toInt64 v) 1), .long (m_oz ax 0 (Int32.toInt64 u) (Int32.toInt64 v) 1), .long 1]))) (pl i) = some (.inr (1, [.long (pa i), .long (pb i), .long (pc i), .long (pd i)])) := fun i hi => gh_keep hpo (hpl i hi) (by simp)
    replace hso : ∀ j, j < 6 → (gh_up h po (.inr (3, [.long (m_ox ax 0 (Int32.toInt64 u) (Int32.toInt64 v) 1), .long (m_oy ax 0 (Int32.toInt64 u) (Int32.toInt64 v) 1), .long (m_oz ax 0 (Int32.toInt64 u) (Int32.toInt64 v) 1), .long 1]))) (so j) = some (.inr (4, [.ref (wo j)])) := fun j hj => gh_keep hpo (hso j hj) (by simp)
    replace hwo : ∀ j, j < 6 → (gh_up h po (.inr (3, [.long (m_ox ax 0 (Int32.toInt64 u) (Int32.toInt64 v) 1), .long (m_oy ax 0 (Int32.toInt64 u) (Int32.toInt64 v) 1), .long (m_oz ax 0 (Int32.toInt64 u) (Int32.toInt64 v) 1), .long 1]))) (wo j) = some (.inl (cJ, 4, .inr (.inl (wd j)))) := fun j hj => gh_keep hpo (hwo j hj) (by simp)
    refine W.eq (g2 := F0 m 42 ls []) rfl ?_
    refine W.widen (k := 0) (n := 0) (by decide) (by decide) ?_
    refine lv_aload hx hb d_X_isEntry_42 (lv_at hl 1 rfl) ?_
    refine lv_aload_n hx hb d_X_isEntry_44 rfl (lv_at hl 2 rfl) ?_
    refine gh_get (ci := 0) hx hb htb in_X hown hK hG hxx_1 rfl 2 (by decide) (htb _ k_1_111) (fun _ h9 => h9) rfl d_X_isEntry_45 ?_
    refine gh_cV (ci := 1) (As := [.ref po]) (rest := []) (xF_ok b0) hx hb hml hown hK hX hG rfl (hpl i0 (by omega)) (c_Pl_excess (hpl i0 (by omega)) hq1) (q_Pl_excess htb ⟨by decide, by decide⟩) (htb _ k_2_208) (htb _ k_2_104) (htb _ k_2_105) rfl hl.1 rfl (Nat.le_of_ble_eq_true rfl) d_X_isEntry_48 ⟨by decide, by decide⟩ (fun v9 h9 H l9 hp9 hG => ?_) (fun _ _ _ _ hp9 _ => by cases hp9.1)
    obtain ⟨hv9, hh9⟩ := hp9
    cases hv9
    rw [hh9] at hG
    refine W.eq (g2 := F0 m 51 ls [.long (m_exc (pa i0) (pb i0) (pc i0) (pd i0) (m_ox ax 0 (Int32.toInt64 u) (Int32.toInt64 v) 1) (m_oy ax 0 (Int32.toInt64 u) (Int32.toInt64 v) 1) (m_oz ax 0 (Int32.toInt64 u) (Int32.toInt64 v) 1) 1)]) rfl ?_
    refine W.widen (k := 0) (n := 0) (by decide) (by decide) ?_
    refine lv_lneg hx hb d_X_isEntry_51 ?_
    refine lv_lstore (lv' := [(8, .long (-(m_exc (pa i0) (pb i0) (pc i0) (pd i0) (m_ox ax 0 (Int32.toInt64 u) (Int32.toInt64 v) 1) (m_oy ax 0 (Int32.toInt64 u) (Int32.toInt64 v) 1) (m_oz ax 0 (Int32.toInt64 u) (Int32.toInt64 v) 1) 1))), (6, .long (m_fac ax (pa i0) (pb i0) (pc i0))), (5, .ref (pl i0)), (0, .ref x), (1, .int (nI i0)), (2, .int ax), (3, .int u), (4, .int v)]) hx hb d_X_isEntry_52 hl (by decide) rfl (fun ls hl => ?_)
    refine lv_aload_n hx hb d_X_isEntry_54 rfl (lv_at hl 3 rfl) ?_
    refine gh_get (ci := 0) hx hb htb in_X hown hK hG hxx_1 rfl 2 (by decide) (htb _ k_1_111) (fun _ h9 => h9) rfl d_X_isEntry_55 ?_
    refine lv_iload_n hx hb d_X_isEntry_58 rfl (lv_at hl 5 rfl) ?_
    refine lv_lload hx hb d_X_isEntry_59 (lv_at hl 1 rfl) ?_
    refine lv_lconst (v := 0) hx hb d_X_isEntry_61 (by decide) ?_
    refine W.lcmp hx hb d_X_isEntry_62 ?_
    refine lv_if_ge (tgt := 72) hx hb d_X_isEntry_63 (by decide) (fun hc63 => ?_) (fun hc63 => ?_)
    · skip
      rw [lg_cmp_ge] at hc63
      refine lv_lload hx hb d_X_isEntry_72 (lv_at hl 0 rfl) ?_
      refine lv_iload_n hx hb d_X_isEntry_74 rfl (lv_at hl 6 rfl) ?_
      refine lv_i2l (v := Int32.toInt64 u) hx hb d_X_isEntry_75 rfl ?_
      refine lv_iload hx hb d_X_isEntry_76 (lv_at hl 7 rfl) ?_
      refine lv_i2l (v := Int32.toInt64 v) hx hb d_X_isEntry_78 rfl ?_
      refine lv_lload hx hb d_X_isEntry_79 (lv_at hl 1 rfl) ?_
      refine va_mabs_long hx hb (hml.trans hl.1.symm) hown (htb _ k_2_209) (htb _ k_2_210) (htb _ k_1_14) (htb _ k_math) (by decide) (Nat.le_of_ble_eq_true rfl) (by decide) (by decide) d_X_isEntry_81 ?_
      refine W.eq (g2 := F0 m 84 ls [.long (if 0 < (m_fac ax (pa i0) (pb i0) (pc i0)) then (m_fac ax (pa i0) (pb i0) (pc i0)) else -(m_fac ax (pa i0) (pb i0) (pc i0))), .long (Int32.toInt64 v), .long (Int32.toInt64 u), .long (-(m_exc (pa i0) (pb i0) (pc i0) (pd i0) (m_ox ax 0 (Int32.toInt64 u) (Int32.toInt64 v) 1) (m_oy ax 0 (Int32.toInt64 u) (Int32.toInt64 v) 1) (m_oz ax 0 (Int32.toInt64 u) (Int32.toInt64 v) 1) 1)), .int ax, .ref po]) rfl ?_
      refine gh_cV (ci := 3) (As := [.int ax, .long (-(m_exc (pa i0) (pb i0) (pc i0) (pd i0) (m_ox ax 0 (Int32.toInt64 u) (Int32.toInt64 v) 1) (m_oy ax 0 (Int32.toInt64 u) (Int32.toInt64 v) 1) (m_oz ax 0 (Int32.toInt64 u) (Int32.toInt64 v) 1) 1)), .long (Int32.toInt64 u), .long (Int32.toInt64 v), .long (if 0 < (m_fac ax (pa i0) (pb i0) (pc i0)) then (m_fac ax (pa i0) (pb i0) (pc i0)) else -(m_fac ax (pa i0) (pb i0) (pc i0)))]) (rest := []) (xF_ok b0) hx hb hml hown hK hX hG rfl hq1 (c_Pt_placeOnAxis hq1) (q_Pt_placeOnAxis htb ⟨by decide, by decide⟩) (htb _ k_2_203) (htb _ k_2_204) (htb _ k_2_205) rfl hl.1 rfl (Nat.le_of_ble_eq_true rfl) d_X_isEntry_84 ⟨by decide, by decide⟩ (fun v9 h9 H l9 hp9 hG => ?_) (fun _ _ _ _ hp9 _ => by cases hp9.1)
      have hal9 : e_al ax (Int32.toInt64 u) (Int32.toInt64 v) (pa i0) (pb i0) (pc i0) (pd i0) = e_mis ax (Int32.toInt64 u) (Int32.toInt64 v) (pa i0) (pb i0) (pc i0) (pd i0) := by unfold e_al; rw [if_neg (Int64.not_lt.mpr hc63)]
      obtain ⟨hv9, hh9⟩ := hp9
      cases hv9
      rw [hh9, m_onax_eq, gh_uu] at hG
      replace hG : gh_P D vC b0 (gh_up h po (.inr (3, [.long (e_x ax (Int32.toInt64 u) (Int32.toInt64 v) (pa i0) (pb i0) (pc i0) (pd i0)), .long (e_y ax (Int32.toInt64 u) (Int32.toInt64 v) (pa i0) (pb i0) (pc i0) (pd i0)), .long (e_z ax (Int32.toInt64 u) (Int32.toInt64 v) (pa i0) (pb i0) (pc i0) (pd i0)), .long (e_w ax (pa i0) (pb i0) (pc i0))]))) s.heap H l9 := by unfold e_x e_y e_z; rw [hal9]; exact hG
      replace hpl := hpl0
      replace hso := hso0
      replace hwo := hwo0
      have hq2 : (gh_up h po (.inr (3, [.long (e_x ax (Int32.toInt64 u) (Int32.toInt64 v) (pa i0) (pb i0) (pc i0) (pd i0)), .long (e_y ax (Int32.toInt64 u) (Int32.toInt64 v) (pa i0) (pb i0) (pc i0) (pd i0)), .long (e_z ax (Int32.toInt64 u) (Int32.toInt64 v) (pa i0) (pb i0) (pc i0) (pd i0)), .long (e_w ax (pa i0) (pb i0) (pc i0))]))) po = some (.inr (3, [.long (e_x ax (Int32.toInt64 u) (Int32.toInt64 v) (pa i0) (pb i0) (pc i0) (pd i0)), .long (e_y ax (Int32.toInt64 u) (Int32.toInt64 v) (pa i0) (pb i0) (pc i0) (pd i0)), .long (e_z ax (Int32.toInt64 u) (Int32.toInt64 v) (pa i0) (pb i0) (pc i0) (pd i0)), .long (e_w ax (pa i0) (pb i0) (pc i0))])) := gh_self _ _ _
      replace hG : gh_P D vC b0 (gh_up h po (.inr (3, [.long (e_x ax (Int32.toInt64 u) (Int32.toInt64 v) (pa i0) (pb i0) (pc i0) (pd i0)), .long (e_y ax (Int32.toInt64 u) (Int32.toInt64 v) (pa i0) (pb i0) (pc i0) (pd i0)), .long (e_z ax (Int32.toInt64 u) (Int32.toInt64 v) (pa i0) (pb i0) (pc i0) (pd i0)), .long (e_w ax (pa i0) (pb i0) (pc i0))]))) s.heap _ _ := hG
      have hsp_2 : (gh_up h po (.inr (3, [.long (e_x ax (Int32.toInt64 u) (Int32.toInt64 v) (pa i0) (pb i0) (pc i0) (pd i0)), .long (e_y ax (Int32.toInt64 u) (Int32.toInt64 v) (pa i0) (pb i0) (pc i0) (pd i0)), .long (e_z ax (Int32.toInt64 u) (Int32.toInt64 v) (pa i0) (pb i0) (pc i0) (pd i0)), .long (e_w ax (pa i0) (pb i0) (pc i0))]))) sp = some (.inr (2, [.ref al, .ref fi, .int (nI n)])) := gh_keep hpo hsp (by simp)
      have hal_2 : (gh_up h po (.inr (3, [.long (e_x ax (Int32.toInt64 u) (Int32.toInt64 v) (pa i0) (pb i0) (pc i0) (pd i0)), .long (e_y ax (Int32.toInt64 u) (Int32.toInt64 v) (pa i0) (pb i0) (pc i0) (pd i0)), .long (e_z ax (Int32.toInt64 u) (Int32.toInt64 v) (pa i0) (pb i0) (pc i0) (pd i0)), .long (e_w ax (pa i0) (pb i0) (pc i0))]))) al = some (.inl (cP, 14, .inr (.inr (.inr (.inr ga))))) := gh_keep hpo hal (by simp)
      have hfi_2 : (gh_up h po (.inr (3, [.long (e_x ax (Int32.toInt64 u) (Int32.toInt64 v) (pa i0) (pb i0) (pc i0) (pd i0)), .long (e_y ax (Int32.toInt64 u) (Int32.toInt64 v) (pa i0) (pb i0) (pc i0) (pd i0)), .long (e_z ax (Int32.toInt64 u) (Int32.toInt64 v) (pa i0) (pb i0) (pc i0) (pd i0)), .long (e_w ax (pa i0) (pb i0) (pc i0))]))) fi = some (.inl (cI, 14, .inl gf)) := gh_keep hpo hfi (by simp)
      have hxx_2 : (gh_up h po (.inr (3, [.long (e_x ax (Int32.toInt64 u) (Int32.toInt64 v) (pa i0) (pb i0) (pc i0) (pd i0)), .long (e_y ax (Int32.toInt64 u) (Int32.toInt64 v) (pa i0) (pb i0) (pc i0) (pd i0)), .long (e_z ax (Int32.toInt64 u) (Int32.toInt64 v) (pa i0) (pb i0) (pc i0) (pd i0)), .long (e_w ax (pa i0) (pb i0) (pc i0))]))) x = some (.inr (0, [.ref sp, .ref sk, .ref po, .int (nI ht)])) := gh_keep hpo hxx (by simp)
      have hsk_2 : (gh_up h po (.inr (3, [.long (e_x ax (Int32.toInt64 u) (Int32.toInt64 v) (pa i0) (pb i0) (pc i0) (pd i0)), .long (e_y ax (Int32.toInt64 u) (Int32.toInt64 v) (pa i0) (pb i0) (pc i0) (pd i0)), .long (e_z ax (Int32.toInt64 u) (Int32.toInt64 v) (pa i0) (pb i0) (pc i0) (pd i0)), .long (e_w ax (pa i0) (pb i0) (pc i0))]))) sk = some (.inl (cS, 6, .inr (.inr (.inr (.inr gs))))) := gh_keep hpo hsk (by simp)
      replace hpl : ∀ i, i < n → (gh_up h po (.inr (3, [.long (e_x ax (Int32.toInt64 u) (Int32.toInt64 v) (pa i0) (pb i0) (pc i0) (pd i0)), .long (e_y ax (Int32.toInt64 u) (Int32.toInt64 v) (pa i0) (pb i0) (pc i0) (pd i0)), .long (e_z ax (Int32.toInt64 u) (Int32.toInt64 v) (pa i0) (pb i0) (pc i0) (pd i0)), .long (e_w ax (pa i0) (pb i0) (pc i0))]))) (pl i) = some (.inr (1, [.long (pa i), .long (pb i), .long (pc i), .long (pd i)])) := fun i hi => gh_keep hpo (hpl i hi) (by simp)
      replace hso : ∀ j, j < 6 → (gh_up h po (.inr (3, [.long (e_x ax (Int32.toInt64 u) (Int32.toInt64 v) (pa i0) (pb i0) (pc i0) (pd i0)), .long (e_y ax (Int32.toInt64 u) (Int32.toInt64 v) (pa i0) (pb i0) (pc i0) (pd i0)), .long (e_z ax (Int32.toInt64 u) (Int32.toInt64 v) (pa i0) (pb i0) (pc i0) (pd i0)), .long (e_w ax (pa i0) (pb i0) (pc i0))]))) (so j) = some (.inr (4, [.ref (wo j)])) := fun j hj => gh_keep hpo (hso j hj) (by simp)
      replace hwo : ∀ j, j < 6 → (gh_up h po (.inr (3, [.long (e_x ax (Int32.toInt64 u) (Int32.toInt64 v) (pa i0) (pb i0) (pc i0) (pd i0)), .long (e_y ax (Int32.toInt64 u) (Int32.toInt64 v) (pa i0) (pb i0) (pc i0) (pd i0)), .long (e_z ax (Int32.toInt64 u) (Int32.toInt64 v) (pa i0) (pb i0) (pc i0) (pd i0)), .long (e_w ax (pa i0) (pb i0) (pc i0))]))) (wo j) = some (.inl (cJ, 4, .inr (.inl (wd j)))) := fun j hj => gh_keep hpo (hwo j hj) (by simp)
      refine W.eq (g2 := F0 m 87 ls []) rfl ?_
      refine W.widen (k := 0) (n := 0) (by decide) (by decide) ?_
      refine lv_aload_n hx hb d_X_isEntry_87 rfl (lv_at hl 3 rfl) ?_
      refine gh_get (ci := 0) hx hb htb in_X hown hK hG hxx_2 rfl 0 (by decide) (htb _ k_1_109) (fun _ h9 => h9) rfl d_X_isEntry_88 ?_
      refine lv_aload_n hx hb d_X_isEntry_91 rfl (lv_at hl 3 rfl) ?_
      refine gh_get (ci := 0) hx hb htb in_X hown hK hG hxx_2 rfl 2 (by decide) (htb _ k_1_111) (fun _ h9 => h9) rfl d_X_isEntry_92 ?_
      refine gh_cV (ci := 2) (As := [.ref po]) (rest := []) (xF_ok b0) hx hb hml hown hK hX hG rfl hsp_2 (c_Ps_isInBox hsp_2 hal_2 hfi_2 hga hgf hfs hpl hn hq2 h6) (q_Ps_isInBox htb ⟨by decide, by decide⟩) (htb _ k_2_212) (htb _ k_2_213) (htb _ k_2_214) rfl hl.1 rfl (Nat.le_of_ble_eq_true rfl) d_X_isEntry_95 ⟨by decide, by decide⟩ (fun v9 h9 H l9 hp9 hG => ?_) (fun _ _ _ _ hp9 _ => by cases hp9.1)
      obtain ⟨hv9, hh9⟩ := hp9
      cases hv9
      rw [hh9] at hG
      refine W.eq (g2 := F0 m 98 ls [.int (m_b (m_all (fun i => decide (m_exc (pa i) (pb i) (pc i) (pd i) (e_x ax (Int32.toInt64 u) (Int32.toInt64 v) (pa i0) (pb i0) (pc i0) (pd i0)) (e_y ax (Int32.toInt64 u) (Int32.toInt64 v) (pa i0) (pb i0) (pc i0) (pd i0)) (e_z ax (Int32.toInt64 u) (Int32.toInt64 v) (pa i0) (pb i0) (pc i0) (pd i0)) (e_w ax (pa i0) (pb i0) (pc i0)) ≤ 0)) 6))]) rfl ?_
      refine W.widen (k := 0) (n := 0) (by decide) (by decide) ?_
      refine lv_if_ne (tgt := 103) hx hb d_X_isEntry_98 (by decide) (fun hc98 => ?_) (fun hc98 => ?_)
      · skip
        replace hc98 := mb_1.mp hc98
        refine lv_aload_n hx hb d_X_isEntry_103 rfl (lv_at hl 3 rfl) ?_
        refine gh_get (ci := 0) hx hb htb in_X hown hK hG hxx_2 rfl 0 (by decide) (htb _ k_1_109) (fun _ h9 => h9) rfl d_X_isEntry_104 ?_
        refine lv_aload_n hx hb d_X_isEntry_107 rfl (lv_at hl 3 rfl) ?_
        refine gh_get (ci := 0) hx hb htb in_X hown hK hG hxx_2 rfl 2 (by decide) (htb _ k_1_111) (fun _ h9 => h9) rfl d_X_isEntry_108 ?_
        refine gh_cV (ci := 2) (As := [.ref po]) (rest := []) (xF_ok b0) hx hb hml hown hK hX hG rfl hsp_2 (c_Ps_onlyOneAt hsp_2 hal_2 hfi_2 hga hgf hfs hpl hn hq2) (q_Ps_onlyOneAt htb ⟨by decide, by decide⟩) (htb _ k_2_133) (htb _ k_2_134) (htb _ k_2_135) rfl hl.1 rfl (Nat.le_of_ble_eq_true rfl) d_X_isEntry_111 ⟨by decide, by decide⟩ (fun v9 h9 H l9 hp9 hG => ?_) (fun _ _ _ _ hp9 _ => by cases hp9.1)
        obtain ⟨hv9, hh9⟩ := hp9
        cases hv9
        rw [hh9] at hG
        refine W.eq (g2 := F0 m 114 ls [.int (m_only (fun i => decide (m_exc (pa i) (pb i) (pc i) (pd i) (e_x ax (Int32.toInt64 u) (Int32.toInt64 v) (pa i0) (pb i0) (pc i0) (pd i0)) (e_y ax (Int32.toInt64 u) (Int32.toInt64 v) (pa i0) (pb i0) (pc i0) (pd i0)) (e_z ax (Int32.toInt64 u) (Int32.toInt64 v) (pa i0) (pb i0) (pc i0) (pd i0)) (e_w ax (pa i0) (pb i0) (pc i0)) = 0)) fs n)]) rfl ?_
        refine W.widen (k := 0) (n := 0) (by decide) (by decide) ?_
        refine lv_iconst (v := (-1)) hx hb d_X_isEntry_114 (by decide) ?_
        refine lv_icmp_ne (tgt := 128) hx hb d_X_isEntry_115 (by decide) (fun hc115 => ?_) (fun hc115 => ?_)
        · skip
          refine lv_aload_n hx hb d_X_isEntry_128 rfl (lv_at hl 3 rfl) ?_
          refine lv_iload_n hx hb d_X_isEntry_129 rfl (lv_at hl 4 rfl) ?_
          refine gh_cV (ci := 0) (As := [.int (nI i0)]) (rest := []) (xF_ok b0) hx hb hml hown hK hX hG rfl hxx_2 (c_X_lookAtSpot hsp_2 hal_2 hfi_2 hga hgf hfs hpl hn h6 hxx_2 hsk_2 hgs hq2 hso hwo hwi hht hs1 (fc := i0) (by omega)) (q_X_lookAtSpot htb ⟨by decide, by decide⟩) (htb _ k_2_153) (htb _ k_2_155) (htb _ k_s_X_lookAtSpot) rfl hl.1 rfl (Nat.le_of_ble_eq_true rfl) d_X_isEntry_130 ⟨by decide, by decide⟩ (fun v9 h9 H l9 hp9 hG => ?_) (fun _ _ _ _ hp9 _ => by cases hp9.1)
          obtain ⟨hv9, hh9⟩ := hp9
          cases hv9
          rw [hh9] at hG
          refine W.eq (g2 := F0 m 133 ls [.int (m_lkat (wd (ht - 1)) n fs pa pb pc pd i0 (e_x ax (Int32.toInt64 u) (Int32.toInt64 v) (pa i0) (pb i0) (pc i0) (pd i0)) (e_y ax (Int32.toInt64 u) (Int32.toInt64 v) (pa i0) (pb i0) (pc i0) (pd i0)) (e_z ax (Int32.toInt64 u) (Int32.toInt64 v) (pa i0) (pb i0) (pc i0) (pd i0)) (e_w ax (pa i0) (pb i0) (pc i0)))]) rfl ?_
          refine W.widen (k := 0) (n := 0) (by decide) (by decide) ?_
          refine lv_lload hx hb d_X_isEntry_133 (lv_at hl 1 rfl) ?_
          refine lv_lconst (v := 0) hx hb d_X_isEntry_135 (by decide) ?_
          refine W.lcmp hx hb d_X_isEntry_136 ?_
          refine lv_if_ge (tgt := 144) hx hb d_X_isEntry_137 (by decide) (fun hc137 => ?_) (fun hc137 => ?_)
          · skip
            rw [lg_cmp_ge] at hc137
            refine lv_iconst (v := (-1)) hx hb d_X_isEntry_144 (by decide) ?_
            refine lv_icmp_ne (tgt := 152) hx hb d_X_isEntry_145 (by decide) (fun hc145 => ?_) (fun hc145 => ?_)
            · skip
              refine lv_iconst (v := 0) hx hb d_X_isEntry_152 (by decide) ?_
              refine W.widen (k := 1) (n := 6) (by decide) (by decide) ?_
              exact gh_iret hx hb hr hlk rfl hG d_X_isEntry_153 (rB_0 (decide_eq_false hc22) (rB_0 (by rw [hc98]; rfl) (rB_0 (decide_eq_false hc115) ⟨by rw [if_neg (Int64.not_lt.mpr hc137), beq_eq_false_iff_ne.mpr hc145]; rfl, rfl⟩)))
            · skip
              refine lv_iconst (v := 1) hx hb d_X_isEntry_148 (by decide) ?_
              refine lv_goto (tgt := 153) hx hb d_X_isEntry_149 (by decide) ?_
              refine W.widen (k := 1) (n := 6) (by decide) (by decide) ?_
              exact gh_iret hx hb hr hlk rfl hG d_X_isEntry_153 (rB_0 (decide_eq_false hc22) (rB_0 (by rw [hc98]; rfl) (rB_0 (decide_eq_false hc115) ⟨by rw [if_neg (Int64.not_lt.mpr hc137), beq_iff_eq.mpr hc145]; rfl, rfl⟩)))
          · skip
            rw [lg_cmp_ge] at hc137
            refine lv_iconst (v := 1) hx hb d_X_isEntry_140 (by decide) ?_
            refine lv_goto (tgt := 145) hx hb d_X_isEntry_141 (by decide) ?_
            refine lv_icmp_ne (tgt := 152) hx hb d_X_isEntry_145 (by decide) (fun hc145 => ?_) (fun hc145 => ?_)
            · skip
              refine lv_iconst (v := 0) hx hb d_X_isEntry_152 (by decide) ?_
              refine W.widen (k := 1) (n := 6) (by decide) (by decide) ?_
              exact gh_iret hx hb hr hlk rfl hG d_X_isEntry_153 (rB_0 (decide_eq_false hc22) (rB_0 (by rw [hc98]; rfl) (rB_0 (decide_eq_false hc115) ⟨by rw [if_pos (Int64.not_le.mp hc137), beq_eq_false_iff_ne.mpr hc145]; rfl, rfl⟩)))
            · skip
              refine lv_iconst (v := 1) hx hb d_X_isEntry_148 (by decide) ?_
              refine lv_goto (tgt := 153) hx hb d_X_isEntry_149 (by decide) ?_
              refine W.widen (k := 1) (n := 6) (by decide) (by decide) ?_
              exact gh_iret hx hb hr hlk rfl hG d_X_isEntry_153 (rB_0 (decide_eq_false hc22) (rB_0 (by rw [hc98]; rfl) (rB_0 (decide_eq_false hc115) ⟨by rw [if_pos (Int64.not_le.mp hc137), beq_iff_eq.mpr hc145]; rfl, rfl⟩)))
        · skip
          refine W.widen (k := 0) (n := 0) (by decide) (by decide) ?_
          exact gh_thr (bytes := prog_16_method_4_code) (index := 13) (is := 171) (E := R_NS) (ci := 9) hx hb htr hlk hno hml hl.1 hown htb hK hX hG rfl (by decide +kernel) k_2_137 k_1_13 k_2_138 (List.mem_of_getElem? (i := 15) rfl) (by decide +kernel) (by decide +kernel) (by decide +kernel) (by decide +kernel) at_NS d_X_isEntry_118 d_X_isEntry_121 d_X_isEntry_122 d_X_isEntry_124 d_X_isEntry_127 (by decide) (by decide) (by decide) (by decide) (fun q9 hq9 => rB_0 (decide_eq_false hc22) (rB_0 (by rw [hc98]; rfl) (rB_1 (decide_eq_true hc115) ⟨q9, rfl, hq9, rfl⟩)))
      · skip
        replace hc98 := mb_0.mp hc98
        refine lv_iconst (v := 0) hx hb d_X_isEntry_101 (by decide) ?_
        refine W.widen (k := 1) (n := 6) (by decide) (by decide) ?_
        exact gh_iret hx hb hr hlk rfl hG d_X_isEntry_102 (rB_0 (decide_eq_false hc22) (rB_1 (by rw [hc98]; rfl) ⟨rfl, rfl⟩))
    · skip
      rw [lg_cmp_ge] at hc63
      refine lv_lload hx hb d_X_isEntry_66 (lv_at hl 0 rfl) ?_
      refine lv_lneg hx hb d_X_isEntry_68 ?_
      refine lv_goto (tgt := 74) hx hb d_X_isEntry_69 (by decide) ?_
      refine lv_iload_n hx hb d_X_isEntry_74 rfl (lv_at hl 6 rfl) ?_
      refine lv_i2l (v := Int32.toInt64 u) hx hb d_X_isEntry_75 rfl ?_
      refine lv_iload hx hb d_X_isEntry_76 (lv_at hl 7 rfl) ?_
      refine lv_i2l (v := Int32.toInt64 v) hx hb d_X_isEntry_78 rfl ?_
      refine lv_lload hx hb d_X_isEntry_79 (lv_at hl 1 rfl) ?_
      refine va_mabs_long hx hb (hml.trans hl.1.symm) hown (htb _ k_2_209) (htb _ k_2_210) (htb _ k_1_14) (htb _ k_math) (by decide) (Nat.le_of_ble_eq_true rfl) (by decide) (by decide) d_X_isEntry_81 ?_
      refine W.eq (g2 := F0 m 84 ls [.long (if 0 < (m_fac ax (pa i0) (pb i0) (pc i0)) then (m_fac ax (pa i0) (pb i0) (pc i0)) else -(m_fac ax (pa i0) (pb i0) (pc i0))), .long (Int32.toInt64 v), .long (Int32.toInt64 u), .long (-(-(m_exc (pa i0) (pb i0) (pc i0) (pd i0) (m_ox ax 0 (Int32.toInt64 u) (Int32.toInt64 v) 1) (m_oy ax 0 (Int32.toInt64 u) (Int32.toInt64 v) 1) (m_oz ax 0 (Int32.toInt64 u) (Int32.toInt64 v) 1) 1))), .int ax, .ref po]) rfl ?_
      refine gh_cV (ci := 3) (As := [.int ax, .long (-(-(m_exc (pa i0) (pb i0) (pc i0) (pd i0) (m_ox ax 0 (Int32.toInt64 u) (Int32.toInt64 v) 1) (m_oy ax 0 (Int32.toInt64 u) (Int32.toInt64 v) 1) (m_oz ax 0 (Int32.toInt64 u) (Int32.toInt64 v) 1) 1))), .long (Int32.toInt64 u), .long (Int32.toInt64 v), .long (if 0 < (m_fac ax (pa i0) (pb i0) (pc i0)) then (m_fac ax (pa i0) (pb i0) (pc i0)) else -(m_fac ax (pa i0) (pb i0) (pc i0)))]) (rest := []) (xF_ok b0) hx hb hml hown hK hX hG rfl hq1 (c_Pt_placeOnAxis hq1) (q_Pt_placeOnAxis htb ⟨by decide, by decide⟩) (htb _ k_2_203) (htb _ k_2_204) (htb _ k_2_205) rfl hl.1 rfl (Nat.le_of_ble_eq_true rfl) d_X_isEntry_84 ⟨by decide, by decide⟩ (fun v9 h9 H l9 hp9 hG => ?_) (fun _ _ _ _ hp9 _ => by cases hp9.1)
      have hal9 : e_al ax (Int32.toInt64 u) (Int32.toInt64 v) (pa i0) (pb i0) (pc i0) (pd i0) = -(e_mis ax (Int32.toInt64 u) (Int32.toInt64 v) (pa i0) (pb i0) (pc i0) (pd i0)) := by unfold e_al; rw [if_pos (Int64.not_le.mp hc63)]
      obtain ⟨hv9, hh9⟩ := hp9
      cases hv9
      rw [hh9, m_onax_eq, gh_uu] at hG
      replace hG : gh_P D vC b0 (gh_up h po (.inr (3, [.long (e_x ax (Int32.toInt64 u) (Int32.toInt64 v) (pa i0) (pb i0) (pc i0) (pd i0)), .long (e_y ax (Int32.toInt64 u) (Int32.toInt64 v) (pa i0) (pb i0) (pc i0) (pd i0)), .long (e_z ax (Int32.toInt64 u) (Int32.toInt64 v) (pa i0) (pb i0) (pc i0) (pd i0)), .long (e_w ax (pa i0) (pb i0) (pc i0))]))) s.heap H l9 := by unfold e_x e_y e_z; rw [hal9]; exact hG
      replace hpl := hpl0
      replace hso := hso0
      replace hwo := hwo0
      have hq3 : (gh_up h po (.inr (3, [.long (e_x ax (Int32.toInt64 u) (Int32.toInt64 v) (pa i0) (pb i0) (pc i0) (pd i0)), .long (e_y ax (Int32.toInt64 u) (Int32.toInt64 v) (pa i0) (pb i0) (pc i0) (pd i0)), .long (e_z ax (Int32.toInt64 u) (Int32.toInt64 v) (pa i0) (pb i0) (pc i0) (pd i0)), .long (e_w ax (pa i0) (pb i0) (pc i0))]))) po = some (.inr (3, [.long (e_x ax (Int32.toInt64 u) (Int32.toInt64 v) (pa i0) (pb i0) (pc i0) (pd i0)), .long (e_y ax (Int32.toInt64 u) (Int32.toInt64 v) (pa i0) (pb i0) (pc i0) (pd i0)), .long (e_z ax (Int32.toInt64 u) (Int32.toInt64 v) (pa i0) (pb i0) (pc i0) (pd i0)), .long (e_w ax (pa i0) (pb i0) (pc i0))])) := gh_self _ _ _
      replace hG : gh_P D vC b0 (gh_up h po (.inr (3, [.long (e_x ax (Int32.toInt64 u) (Int32.toInt64 v) (pa i0) (pb i0) (pc i0) (pd i0)), .long (e_y ax (Int32.toInt64 u) (Int32.toInt64 v) (pa i0) (pb i0) (pc i0) (pd i0)), .long (e_z ax (Int32.toInt64 u) (Int32.toInt64 v) (pa i0) (pb i0) (pc i0) (pd i0)), .long (e_w ax (pa i0) (pb i0) (pc i0))]))) s.heap _ _ := hG
      have hsp_3 : (gh_up h po (.inr (3, [.long (e_x ax (Int32.toInt64 u) (Int32.toInt64 v) (pa i0) (pb i0) (pc i0) (pd i0)), .long (e_y ax (Int32.toInt64 u) (Int32.toInt64 v) (pa i0) (pb i0) (pc i0) (pd i0)), .long (e_z ax (Int32.toInt64 u) (Int32.toInt64 v) (pa i0) (pb i0) (pc i0) (pd i0)), .long (e_w ax (pa i0) (pb i0) (pc i0))]))) sp = some (.inr (2, [.ref al, .ref fi, .int (nI n)])) := gh_keep hpo hsp (by simp)
      have hal_3 : (gh_up h po (.inr (3, [.long (e_x ax (Int32.toInt64 u) (Int32.toInt64 v) (pa i0) (pb i0) (pc i0) (pd i0)), .long (e_y ax (Int32.toInt64 u) (Int32.toInt64 v) (pa i0) (pb i0) (pc i0) (pd i0)), .long (e_z ax (Int32.toInt64 u) (Int32.toInt64 v) (pa i0) (pb i0) (pc i0) (pd i0)), .long (e_w ax (pa i0) (pb i0) (pc i0))]))) al = some (.inl (cP, 14, .inr (.inr (.inr (.inr ga))))) := gh_keep hpo hal (by simp)
      have hfi_3 : (gh_up h po (.inr (3, [.long (e_x ax (Int32.toInt64 u) (Int32.toInt64 v) (pa i0) (pb i0) (pc i0) (pd i0)), .long (e_y ax (Int32.toInt64 u) (Int32.toInt64 v) (pa i0) (pb i0) (pc i0) (pd i0)), .long (e_z ax (Int32.toInt64 u) (Int32.toInt64 v) (pa i0) (pb i0) (pc i0) (pd i0)), .long (e_w ax (pa i0) (pb i0) (pc i0))]))) fi = some (.inl (cI, 14, .inl gf)) := gh_keep hpo hfi (by simp)
      have hxx_3 : (gh_up h po (.inr (3, [.long (e_x ax (Int32.toInt64 u) (Int32.toInt64 v) (pa i0) (pb i0) (pc i0) (pd i0)), .long (e_y ax (Int32.toInt64 u) (Int32.toInt64 v) (pa i0) (pb i0) (pc i0) (pd i0)), .long (e_z ax (Int32.toInt64 u) (Int32.toInt64 v) (pa i0) (pb i0) (pc i0) (pd i0)), .long (e_w ax (pa i0) (pb i0) (pc i0))]))) x = some (.inr (0, [.ref sp, .ref sk, .ref po, .int (nI ht)])) := gh_keep hpo hxx (by simp)
      have hsk_3 : (gh_up h po (.inr (3, [.long (e_x ax (Int32.toInt64 u) (Int32.toInt64 v) (pa i0) (pb i0) (pc i0) (pd i0)), .long (e_y ax (Int32.toInt64 u) (Int32.toInt64 v) (pa i0) (pb i0) (pc i0) (pd i0)), .long (e_z ax (Int32.toInt64 u) (Int32.toInt64 v) (pa i0) (pb i0) (pc i0) (pd i0)), .long (e_w ax (pa i0) (pb i0) (pc i0))]))) sk = some (.inl (cS, 6, .inr (.inr (.inr (.inr gs))))) := gh_keep hpo hsk (by simp)
      replace hpl : ∀ i, i < n → (gh_up h po (.inr (3, [.long (e_x ax (Int32.toInt64 u) (Int32.toInt64 v) (pa i0) (pb i0) (pc i0) (pd i0)), .long (e_y ax (Int32.toInt64 u) (Int32.toInt64 v) (pa i0) (pb i0) (pc i0) (pd i0)), .long (e_z ax (Int32.toInt64 u) (Int32.toInt64 v) (pa i0) (pb i0) (pc i0) (pd i0)), .long (e_w ax (pa i0) (pb i0) (pc i0))]))) (pl i) = some (.inr (1, [.long (pa i), .long (pb i), .long (pc i), .long (pd i)])) := fun i hi => gh_keep hpo (hpl i hi) (by simp)
      replace hso : ∀ j, j < 6 → (gh_up h po (.inr (3, [.long (e_x ax (Int32.toInt64 u) (Int32.toInt64 v) (pa i0) (pb i0) (pc i0) (pd i0)), .long (e_y ax (Int32.toInt64 u) (Int32.toInt64 v) (pa i0) (pb i0) (pc i0) (pd i0)), .long (e_z ax (Int32.toInt64 u) (Int32.toInt64 v) (pa i0) (pb i0) (pc i0) (pd i0)), .long (e_w ax (pa i0) (pb i0) (pc i0))]))) (so j) = some (.inr (4, [.ref (wo j)])) := fun j hj => gh_keep hpo (hso j hj) (by simp)
      replace hwo : ∀ j, j < 6 → (gh_up h po (.inr (3, [.long (e_x ax (Int32.toInt64 u) (Int32.toInt64 v) (pa i0) (pb i0) (pc i0) (pd i0)), .long (e_y ax (Int32.toInt64 u) (Int32.toInt64 v) (pa i0) (pb i0) (pc i0) (pd i0)), .long (e_z ax (Int32.toInt64 u) (Int32.toInt64 v) (pa i0) (pb i0) (pc i0) (pd i0)), .long (e_w ax (pa i0) (pb i0) (pc i0))]))) (wo j) = some (.inl (cJ, 4, .inr (.inl (wd j)))) := fun j hj => gh_keep hpo (hwo j hj) (by simp)
      refine W.eq (g2 := F0 m 87 ls []) rfl ?_
      refine W.widen (k := 0) (n := 0) (by decide) (by decide) ?_
      refine lv_aload_n hx hb d_X_isEntry_87 rfl (lv_at hl 3 rfl) ?_
      refine gh_get (ci := 0) hx hb htb in_X hown hK hG hxx_3 rfl 0 (by decide) (htb _ k_1_109) (fun _ h9 => h9) rfl d_X_isEntry_88 ?_
      refine lv_aload_n hx hb d_X_isEntry_91 rfl (lv_at hl 3 rfl) ?_
      refine gh_get (ci := 0) hx hb htb in_X hown hK hG hxx_3 rfl 2 (by decide) (htb _ k_1_111) (fun _ h9 => h9) rfl d_X_isEntry_92 ?_
      refine gh_cV (ci := 2) (As := [.ref po]) (rest := []) (xF_ok b0) hx hb hml hown hK hX hG rfl hsp_3 (c_Ps_isInBox hsp_3 hal_3 hfi_3 hga hgf hfs hpl hn hq3 h6) (q_Ps_isInBox htb ⟨by decide, by decide⟩) (htb _ k_2_212) (htb _ k_2_213) (htb _ k_2_214) rfl hl.1 rfl (Nat.le_of_ble_eq_true rfl) d_X_isEntry_95 ⟨by decide, by decide⟩ (fun v9 h9 H l9 hp9 hG => ?_) (fun _ _ _ _ hp9 _ => by cases hp9.1)
      obtain ⟨hv9, hh9⟩ := hp9
      cases hv9
      rw [hh9] at hG
      refine W.eq (g2 := F0 m 98 ls [.int (m_b (m_all (fun i => decide (m_exc (pa i) (pb i) (pc i) (pd i) (e_x ax (Int32.toInt64 u) (Int32.toInt64 v) (pa i0) (pb i0) (pc i0) (pd i0)) (e_y ax (Int32.toInt64 u) (Int32.toInt64 v) (pa i0) (pb i0) (pc i0) (pd i0)) (e_z ax (Int32.toInt64 u) (Int32.toInt64 v) (pa i0) (pb i0) (pc i0) (pd i0)) (e_w ax (pa i0) (pb i0) (pc i0)) ≤ 0)) 6))]) rfl ?_
      refine W.widen (k := 0) (n := 0) (by decide) (by decide) ?_
      refine lv_if_ne (tgt := 103) hx hb d_X_isEntry_98 (by decide) (fun hc98 => ?_) (fun hc98 => ?_)
      · skip
        replace hc98 := mb_1.mp hc98
        refine lv_aload_n hx hb d_X_isEntry_103 rfl (lv_at hl 3 rfl) ?_
        refine gh_get (ci := 0) hx hb htb in_X hown hK hG hxx_3 rfl 0 (by decide) (htb _ k_1_109) (fun _ h9 => h9) rfl d_X_isEntry_104 ?_
        refine lv_aload_n hx hb d_X_isEntry_107 rfl (lv_at hl 3 rfl) ?_
        refine gh_get (ci := 0) hx hb htb in_X hown hK hG hxx_3 rfl 2 (by decide) (htb _ k_1_111) (fun _ h9 => h9) rfl d_X_isEntry_108 ?_
        refine gh_cV (ci := 2) (As := [.ref po]) (rest := []) (xF_ok b0) hx hb hml hown hK hX hG rfl hsp_3 (c_Ps_onlyOneAt hsp_3 hal_3 hfi_3 hga hgf hfs hpl hn hq3) (q_Ps_onlyOneAt htb ⟨by decide, by decide⟩) (htb _ k_2_133) (htb _ k_2_134) (htb _ k_2_135) rfl hl.1 rfl (Nat.le_of_ble_eq_true rfl) d_X_isEntry_111 ⟨by decide, by decide⟩ (fun v9 h9 H l9 hp9 hG => ?_) (fun _ _ _ _ hp9 _ => by cases hp9.1)
        obtain ⟨hv9, hh9⟩ := hp9
        cases hv9
        rw [hh9] at hG
        refine W.eq (g2 := F0 m 114 ls [.int (m_only (fun i => decide (m_exc (pa i) (pb i) (pc i) (pd i) (e_x ax (Int32.toInt64 u) (Int32.toInt64 v) (pa i0) (pb i0) (pc i0) (pd i0)) (e_y ax (Int32.toInt64 u) (Int32.toInt64 v) (pa i0) (pb i0) (pc i0) (pd i0)) (e_z ax (Int32.toInt64 u) (Int32.toInt64 v) (pa i0) (pb i0) (pc i0) (pd i0)) (e_w ax (pa i0) (pb i0) (pc i0)) = 0)) fs n)]) rfl ?_
        refine W.widen (k := 0) (n := 0) (by decide) (by decide) ?_
        refine lv_iconst (v := (-1)) hx hb d_X_isEntry_114 (by decide) ?_
        refine lv_icmp_ne (tgt := 128) hx hb d_X_isEntry_115 (by decide) (fun hc115 => ?_) (fun hc115 => ?_)
        · skip
          refine lv_aload_n hx hb d_X_isEntry_128 rfl (lv_at hl 3 rfl) ?_
          refine lv_iload_n hx hb d_X_isEntry_129 rfl (lv_at hl 4 rfl) ?_
          refine gh_cV (ci := 0) (As := [.int (nI i0)]) (rest := []) (xF_ok b0) hx hb hml hown hK hX hG rfl hxx_3 (c_X_lookAtSpot hsp_3 hal_3 hfi_3 hga hgf hfs hpl hn h6 hxx_3 hsk_3 hgs hq3 hso hwo hwi hht hs1 (fc := i0) (by omega)) (q_X_lookAtSpot htb ⟨by decide, by decide⟩) (htb _ k_2_153) (htb _ k_2_155) (htb _ k_s_X_lookAtSpot) rfl hl.1 rfl (Nat.le_of_ble_eq_true rfl) d_X_isEntry_130 ⟨by decide, by decide⟩ (fun v9 h9 H l9 hp9 hG => ?_) (fun _ _ _ _ hp9 _ => by cases hp9.1)
          obtain ⟨hv9, hh9⟩ := hp9
          cases hv9
          rw [hh9] at hG
          refine W.eq (g2 := F0 m 133 ls [.int (m_lkat (wd (ht - 1)) n fs pa pb pc pd i0 (e_x ax (Int32.toInt64 u) (Int32.toInt64 v) (pa i0) (pb i0) (pc i0) (pd i0)) (e_y ax (Int32.toInt64 u) (Int32.toInt64 v) (pa i0) (pb i0) (pc i0) (pd i0)) (e_z ax (Int32.toInt64 u) (Int32.toInt64 v) (pa i0) (pb i0) (pc i0) (pd i0)) (e_w ax (pa i0) (pb i0) (pc i0)))]) rfl ?_
          refine W.widen (k := 0) (n := 0) (by decide) (by decide) ?_
          refine lv_lload hx hb d_X_isEntry_133 (lv_at hl 1 rfl) ?_
          refine lv_lconst (v := 0) hx hb d_X_isEntry_135 (by decide) ?_
          refine W.lcmp hx hb d_X_isEntry_136 ?_
          refine lv_if_ge (tgt := 144) hx hb d_X_isEntry_137 (by decide) (fun hc137 => ?_) (fun hc137 => ?_)
          · skip
            rw [lg_cmp_ge] at hc137
            refine lv_iconst (v := (-1)) hx hb d_X_isEntry_144 (by decide) ?_
            refine lv_icmp_ne (tgt := 152) hx hb d_X_isEntry_145 (by decide) (fun hc145 => ?_) (fun hc145 => ?_)
            · skip
              refine lv_iconst (v := 0) hx hb d_X_isEntry_152 (by decide) ?_
              refine W.widen (k := 1) (n := 6) (by decide) (by decide) ?_
              exact gh_iret hx hb hr hlk rfl hG d_X_isEntry_153 (rB_0 (decide_eq_false hc22) (rB_0 (by rw [hc98]; rfl) (rB_0 (decide_eq_false hc115) ⟨by rw [if_neg (Int64.not_lt.mpr hc137), beq_eq_false_iff_ne.mpr hc145]; rfl, rfl⟩)))
            · skip
              refine lv_iconst (v := 1) hx hb d_X_isEntry_148 (by decide) ?_
              refine lv_goto (tgt := 153) hx hb d_X_isEntry_149 (by decide) ?_
              refine W.widen (k := 1) (n := 6) (by decide) (by decide) ?_
              exact gh_iret hx hb hr hlk rfl hG d_X_isEntry_153 (rB_0 (decide_eq_false hc22) (rB_0 (by rw [hc98]; rfl) (rB_0 (decide_eq_false hc115) ⟨by rw [if_neg (Int64.not_lt.mpr hc137), beq_iff_eq.mpr hc145]; rfl, rfl⟩)))
          · skip
            rw [lg_cmp_ge] at hc137
            refine lv_iconst (v := 1) hx hb d_X_isEntry_140 (by decide) ?_
            refine lv_goto (tgt := 145) hx hb d_X_isEntry_141 (by decide) ?_
            refine lv_icmp_ne (tgt := 152) hx hb d_X_isEntry_145 (by decide) (fun hc145 => ?_) (fun hc145 => ?_)
            · skip
              refine lv_iconst (v := 0) hx hb d_X_isEntry_152 (by decide) ?_
              refine W.widen (k := 1) (n := 6) (by decide) (by decide) ?_
              exact gh_iret hx hb hr hlk rfl hG d_X_isEntry_153 (rB_0 (decide_eq_false hc22) (rB_0 (by rw [hc98]; rfl) (rB_0 (decide_eq_false hc115) ⟨by rw [if_pos (Int64.not_le.mp hc137), beq_eq_false_iff_ne.mpr hc145]; rfl, rfl⟩)))
            · skip
              refine lv_iconst (v := 1) hx hb d_X_isEntry_148 (by decide) ?_
              refine lv_goto (tgt := 153) hx hb d_X_isEntry_149 (by decide) ?_
              refine W.widen (k := 1) (n := 6) (by decide) (by decide) ?_
              exact gh_iret hx hb hr hlk rfl hG d_X_isEntry_153 (rB_0 (decide_eq_false hc22) (rB_0 (by rw [hc98]; rfl) (rB_0 (decide_eq_false hc115) ⟨by rw [if_pos (Int64.not_le.mp hc137), beq_iff_eq.mpr hc145]; rfl, rfl⟩)))
        · skip
          refine W.widen (k := 0) (n := 0) (by decide) (by decide) ?_
          exact gh_thr (bytes := prog_16_method_4_code) (index := 13) (is := 171) (E := R_NS) (ci := 9) hx hb htr hlk hno hml hl.1 hown htb hK hX hG rfl (by decide +kernel) k_2_137 k_1_13 k_2_138 (List.mem_of_getElem? (i := 15) rfl) (by decide +kernel) (by decide +kernel) (by decide +kernel) (by decide +kernel) at_NS d_X_isEntry_118 d_X_isEntry_121 d_X_isEntry_122 d_X_isEntry_124 d_X_isEntry_127 (by decide) (by decide) (by decide) (by decide) (fun q9 hq9 => rB_0 (decide_eq_false hc22) (rB_0 (by rw [hc98]; rfl) (rB_1 (decide_eq_true hc115) ⟨q9, rfl, hq9, rfl⟩)))
      · skip
        replace hc98 := mb_0.mp hc98
        refine lv_iconst (v := 0) hx hb d_X_isEntry_101 (by decide) ?_
        refine W.widen (k := 1) (n := 6) (by decide) (by decide) ?_
        exact gh_iret hx hb hr hlk rfl hG d_X_isEntry_102 (rB_0 (decide_eq_false hc22) (rB_1 (by rw [hc98]; rfl) ⟨rfl, rfl⟩))
  · skip
    rw [lg_cmp_eq] at hc22
    refine lv_iconst (v := 0) hx hb d_X_isEntry_25 (by decide) ?_
    refine W.widen (k := 1) (n := 6) (by decide) (by decide) ?_
    exact gh_iret hx hb hr hlk rfl hG d_X_isEntry_26 (rB_1 (decide_eq_true hc22) ⟨rfl, rfl⟩)

end
