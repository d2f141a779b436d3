/-- the world of the planes, in one word -/
def wPs (cI cP : ClassId) (h : gh_M) (sp al fi n : Nat) (ga : Nat → Option Nat) (gf : Nat → Int32) (pl fs : Nat → Nat) (pa pb pc pd : Nat → Int64) : Prop :=
  h sp = some (.inr (2, [.ref al, .ref fi, .int (nI n)])) ∧ h al = some (.inl (cP, 14, .inr (.inr (.inr (.inr ga))))) ∧ h fi = some (.inl (cI, 14, .inl gf)) ∧ (∀ i, i < n → ga i = some (pl i)) ∧ (∀ i, i < n → gf i = nI (fs i)) ∧ (∀ i, fs i < 14) ∧
  (∀ i, i < n → h (pl i) = some (.inr (1, [.long (pa i), .long (pb i), .long (pc i), .long (pd i)]))) ∧ n ≤ 14
/-- the world behind add -/
def m_addH (cI cP : ClassId) (h : gh_M) (sp al fi n : Nat) (ga : Nat → Option Nat) (gf : Nat → Int32) (q r : Nat) : gh_M :=
  gh_up (gh_up (gh_up h al (.inl (cP, 14, .inr (.inr (.inr (.inr (va_up ga n (some q)))))))) fi (.inl (cI, 14, .inl (upd gf n (nI r))))) sp (.inr (2, [.ref al, .ref fi, .int (nI (n + 1))]))
theorem m_addH_ne {cI cP : ClassId} {h : gh_M} {sp al fi n : Nat} {ga : Nat → Option Nat} {gf : Nat → Int32} {q r x : Nat} (h1 : x ≠ sp) (h2 : x ≠ al) (h3 : x ≠ fi) : m_addH cI cP h sp al fi n ga gf q r x = h x := by
  unfold m_addH
  rw [gh_ne h1, gh_ne h3, gh_ne h2]
theorem wPs_add {cI cP : ClassId} {h : gh_M} {sp al fi n q r : Nat} {ga : Nat → Option Nat} {gf : Nat → Int32} {pl fs : Nat → Nat} {pa pb pc pd : Nat → Int64} {qa qb qc qd : Int64} (hw : wPs cI cP h sp al fi n ga gf pl fs pa pb pc pd) (hn : n < 14) (hr : r < 14) (hq : h q = some (.inr (1, [.long qa, .long qb, .long qc, .long qd]))) :
    wPs cI cP (m_addH cI cP h sp al fi n ga gf q r) sp al fi (n + 1) (va_up ga n (some q)) (upd gf n (nI r)) (va_up pl n q) (va_up fs n r) (va_up pa n qa) (va_up pb n qb) (va_up pc n qc) (va_up pd n qd) := by
  obtain ⟨h1, h2, h3, h4, h5, h6, h7, h8⟩ := hw
  have e1 : sp ≠ al := fun k => by rw [k, h2] at h1; cases h1
  have e2 : sp ≠ fi := fun k => by rw [k, h3] at h1; cases h1
  have e3 : al ≠ fi := fun k => by rw [k, h3] at h2; cases h2
  have hx : ∀ x ws, h x = some (.inr (1, ws)) → m_addH cI cP h sp al fi n ga gf q r x = some (.inr (1, ws)) := by
    intro x ws hx
    rw [m_addH_ne (fun k => by rw [k, h1] at hx; cases hx) (fun k => by rw [k, h2] at hx; cases hx) (fun k => by rw [k, h3] at hx; cases hx)]
    exact hx
  refine ⟨gh_self _ _ _, ?_, ?_, ?_, ?_, ?_, ?_, by omega⟩
  · unfold m_addH
    rw [gh_ne e1.symm, gh_ne e3, gh_self]
  · unfold m_addH
    rw [gh_ne e2.symm, gh_self]
  · intro i hi
    unfold va_up
    split
    · rfl
    · exact h4 i (by omega)
  · intro i hi
    unfold va_up upd
    split
    · rfl
    · exact h5 i (by omega)
  · intro i
    unfold va_up
    split
    · exact hr
    · exact h6 i
  · intro i hi
    unfold va_up
    split
    · exact hx q _ hq
    · exact hx (pl i) _ (h7 i (by omega))
theorem m_fst_le (g : Nat → Bool) (n : Nat) : m_fst g n ≤ n := by
  induction n with
  | zero => exact Nat.le_refl _
  | succ n ih =>
    simp only [m_fst]
    split
    · omega
    · split <;> omega

section
variable {l : Launch} {D : va_G} {cI cJ cP cS : ClassId} {b0 : Nat} {h : gh_M}

set_option maxHeartbeats 4000000 in
set_option maxRecDepth 100000 in
/-- add -/
theorem c_Ps_add {sp al fi : Nat} {n : Nat} {ga : Nat → Option Nat} {gf : Nat → Int32} {pl fs : Nat → Nat} {pa pb pc pd : Nat → Int64} (hsp : h sp = some (.inr (2, [.ref al, .ref fi, .int (nI n)]))) (hal : h al = some (.inl (cP, 14, .inr (.inr (.inr (.inr ga)))))) (hfi : h fi = some (.inl (cI, 14, .inl gf))) (hga : ∀ i, i < n → ga i = some (pl i)) (hgf : ∀ i, i < n → gf i = nI (fs i)) (hfs : ∀ i, fs i < 14) (hpl : ∀ i, i < n → h (pl i) = some (.inr (1, [.long (pa i), .long (pb i), .long (pc i), .long (pd i)]))) (hn : n ≤ 14) {q : Nat} {qa qb qc qd : Int64} (hq : h q = some (.inr (1, [.long qa, .long qb, .long qc, .long qd]))) (hn1 : n < 14) : gh_C l D vC (tZ cI cJ cP cS) (xF b0) b0 y_Ps_add w_Ps_add ({ frames := 2, cells := 0, slots := 0, locals := 50 }) [.ref sp, .ref q] h (rV (m_addH cI cP h sp al fi n ga gf q (m_fst (fun i => m_one (pa i) (pb i) (pc i) (pd i) qa qb qc qd) n))) := by
  refine gh_ofW (by decide) (Nat.le_of_ble_eq_true rfl) ?_
  intro p e s m below meth c ls hctx hno hl hG hK hX
  obtain ⟨hx, hb, hr, hml, hown, hlk, hts, hnm⟩ := hctx
  have htb : ∀ w ∈ tB, w.before _ s = true := fun w hw => hts w (List.mem_cons_of_mem _ hw)
  replace hl : lv_has ls 2 [(0, .ref sp), (1, .ref q)] := hl
  refine lv_aload_n hx hb d_Ps_add_0 rfl (lv_at hl 0 rfl) ?_
  refine gh_get (ci := 2) hx hb htb in_Ps hown hK hG hsp rfl 0 (by decide) (htb _ k_1_64) (fun _ h9 => h9) rfl d_Ps_add_1 ?_
  refine lv_aload_n hx hb d_Ps_add_4 rfl (lv_at hl 0 rfl) ?_
  refine gh_get (ci := 2) hx hb htb in_Ps hown hK hG hsp rfl 2 (by decide) (htb _ k_1_66) (fun _ h9 => h9) rfl d_Ps_add_5 ?_
  refine lv_aload_n hx hb d_Ps_add_8 rfl (lv_at hl 1 rfl) ?_
  refine gh_aast (r := (R_Pl, T_Pl, 4)) hx hb hK hG 2 1 hal rfl hq rfl (vp_in_nI (by omega) (by decide)) d_Ps_add_9 (fun H l9 hG => ?_)
  rw [nI_clamp (by omega)] at hG
  have hq1 : (gh_up h al (.inl (cP, 14, .inr (.inr (.inr (.inr (va_up ga n (some q)))))))) al = some (.inl (cP, 14, .inr (.inr (.inr (.inr (va_up ga n (some q))))))) := gh_self _ _ _
  replace hG : gh_P D vC b0 (gh_up h al (.inl (cP, 14, .inr (.inr (.inr (.inr (va_up ga n (some q)))))))) s.heap _ _ := hG
  have hsp_1 : (gh_up h al (.inl (cP, 14, .inr (.inr (.inr (.inr (va_up ga n (some q)))))))) sp = some (.inr (2, [.ref al, .ref fi, .int (nI n)])) := gh_keep hal hsp (by simp)
  have hfi_1 : (gh_up h al (.inl (cP, 14, .inr (.inr (.inr (.inr (va_up ga n (some q)))))))) fi = some (.inl (cI, 14, .inl gf)) := gh_keep hal hfi (by simp)
  have hq_1 : (gh_up h al (.inl (cP, 14, .inr (.inr (.inr (.inr (va_up ga n (some q)))))))) q = some (.inr (1, [.long qa, .long qb, .long qc, .long qd])) := gh_keep hal hq (by simp)
  replace hpl : ∀ i, i < n → (gh_up h al (.inl (cP, 14, .inr (.inr (.inr (.inr (va_up ga n (some q)))))))) (pl i) = some (.inr (1, [.long (pa i), .long (pb i), .long (pc i), .long (pd i)])) := fun i hi => gh_keep hal (hpl i hi) (by simp)
  refine lv_aload_n hx hb d_Ps_add_10 rfl (lv_at hl 0 rfl) ?_
  refine gh_get (ci := 2) hx hb htb in_Ps hown hK hG hsp_1 rfl 1 (by decide) (htb _ k_1_65) (fun _ h9 => h9) rfl d_Ps_add_11 ?_
  refine lv_aload_n hx hb d_Ps_add_14 rfl (lv_at hl 0 rfl) ?_
  refine gh_get (ci := 2) hx hb htb in_Ps hown hK hG hsp_1 rfl 2 (by decide) (htb _ k_1_66) (fun _ h9 => h9) rfl d_Ps_add_15 ?_
  refine lv_aload_n hx hb d_Ps_add_18 rfl (lv_at hl 0 rfl) ?_
  refine lv_aload_n hx hb d_Ps_add_19 rfl (lv_at hl 1 rfl) ?_
  have hga2 : ∀ i, i < n → (va_up ga n (some q)) i = some (pl i) := fun i hi => by unfold va_up; rw [if_neg (by omega)]; exact hga i hi
  refine gh_cV (ci := 2) (As := [.ref q]) (rest := [.int (nI n), .ref fi]) (xF_ok b0) hx hb hml hown hK hX hG rfl hsp_1 (c_Ps_firstOneWith hsp_1 hq1 hfi_1 hga2 hgf hfs hpl hn hq_1) (q_Ps_firstOneWith htb ⟨by decide, by decide⟩) (htb _ k_1_55) (htb _ k_1_57) (htb _ k_s_Ps_firstOneWith) rfl hl.1 rfl (Nat.le_of_ble_eq_true rfl) d_Ps_add_20 ⟨by decide, by decide⟩ (fun v9 h9 H l9 hp9 hG => ?_) (fun _ _ _ _ hp9 _ => by cases hp9.1)
  obtain ⟨hv9, hh9⟩ := hp9
  cases hv9
  rw [hh9] at hG
  refine W.eq (g2 := F0 m 23 ls [.int (nI (m_fst (fun i => m_one (pa i) (pb i) (pc i) (pd i) qa qb qc qd) n)), .int (nI n), .ref fi]) rfl ?_
  refine W.widen (k := 0) (n := 0) (by decide) (by decide) ?_
  refine gh_iast hx hb hK hG 0 hfi_1 rfl (vp_in_nI (by omega) (by decide)) d_Ps_add_23 (fun H l9 hG => ?_)
  rw [nI_clamp (by omega)] at hG
  have hq2 : (gh_up (gh_up h al (.inl (cP, 14, .inr (.inr (.inr (.inr (va_up ga n (some q)))))))) fi (.inl (cI, 14, .inl (upd gf n (nI (m_fst (fun i => m_one (pa i) (pb i) (pc i) (pd i) qa qb qc qd) n)))))) fi = some (.inl (cI, 14, .inl (upd gf n (nI (m_fst (fun i => m_one (pa i) (pb i) (pc i) (pd i) qa qb qc qd) n))))) := gh_self _ _ _
  replace hG : gh_P D vC b0 (gh_up (gh_up h al (.inl (cP, 14, .inr (.inr (.inr (.inr (va_up ga n (some q)))))))) fi (.inl (cI, 14, .inl (upd gf n (nI (m_fst (fun i => m_one (pa i) (pb i) (pc i) (pd i) qa qb qc qd) n)))))) s.heap _ _ := hG
  have hsp_2 : (gh_up (gh_up h al (.inl (cP, 14, .inr (.inr (.inr (.inr (va_up ga n (some q)))))))) fi (.inl (cI, 14, .inl (upd gf n (nI (m_fst (fun i => m_one (pa i) (pb i) (pc i) (pd i) qa qb qc qd) n)))))) sp = some (.inr (2, [.ref al, .ref fi, .int (nI n)])) := gh_keep hfi_1 hsp_1 (by simp)
  have hq_2 : (gh_up (gh_up h al (.inl (cP, 14, .inr (.inr (.inr (.inr (va_up ga n (some q)))))))) fi (.inl (cI, 14, .inl (upd gf n (nI (m_fst (fun i => m_one (pa i) (pb i) (pc i) (pd i) qa qb qc qd) n)))))) q = some (.inr (1, [.long qa, .long qb, .long qc, .long qd])) := gh_keep hfi_1 hq_1 (by simp)
  have hq1_2 : (gh_up (gh_up h al (.inl (cP, 14, .inr (.inr (.inr (.inr (va_up ga n (some q)))))))) fi (.inl (cI, 14, .inl (upd gf n (nI (m_fst (fun i => m_one (pa i) (pb i) (pc i) (pd i) qa qb qc qd) n)))))) al = some (.inl (cP, 14, .inr (.inr (.inr (.inr (va_up ga n (some q))))))) := gh_keep hfi_1 hq1 (by simp)
  replace hpl : ∀ i, i < n → (gh_up (gh_up h al (.inl (cP, 14, .inr (.inr (.inr (.inr (va_up ga n (some q)))))))) fi (.inl (cI, 14, .inl (upd gf n (nI (m_fst (fun i => m_one (pa i) (pb i) (pc i) (pd i) qa qb qc qd) n)))))) (pl i) = some (.inr (1, [.long (pa i), .long (pb i), .long (pc i), .long (pd i)])) := fun i hi => gh_keep hfi_1 (hpl i hi) (by simp)
  refine lv_aload_n hx hb d_Ps_add_24 rfl (lv_at hl 0 rfl) ?_
  refine lv_dup hx hb d_Ps_add_25 rfl ?_
  refine gh_get (ci := 2) hx hb htb in_Ps hown hK hG hsp_2 rfl 2 (by decide) (htb _ k_1_66) (fun _ h9 => h9) rfl d_Ps_add_26 ?_
  refine lv_iconst (v := 1) hx hb d_Ps_add_29 (by decide) ?_
  refine lv_iadd hx hb d_Ps_add_30 ?_
  refine gh_put (ci := 2) (ty := .int) hx hb htb in_Ps t_Ps ty_Ps nm_Ps hown hK hG hsp_2 rfl 2 (by decide) (htb _ k_1_66) (fun _ h9 => h9) rfl (by decide +kernel) rfl rfl (Nat.le_of_ble_eq_true rfl) d_Ps_add_31 (fun H l9 hG => ?_)
  have hq3 : (gh_up (gh_up (gh_up h al (.inl (cP, 14, .inr (.inr (.inr (.inr (va_up ga n (some q)))))))) fi (.inl (cI, 14, .inl (upd gf n (nI (m_fst (fun i => m_one (pa i) (pb i) (pc i) (pd i) qa qb qc qd) n)))))) sp (.inr (2, [.ref al, .ref fi, .int ((nI n) + 1)]))) sp = some (.inr (2, [.ref al, .ref fi, .int ((nI n) + 1)])) := gh_self _ _ _
  replace hG : gh_P D vC b0 (gh_up (gh_up (gh_up h al (.inl (cP, 14, .inr (.inr (.inr (.inr (va_up ga n (some q)))))))) fi (.inl (cI, 14, .inl (upd gf n (nI (m_fst (fun i => m_one (pa i) (pb i) (pc i) (pd i) qa qb qc qd) n)))))) sp (.inr (2, [.ref al, .ref fi, .int ((nI n) + 1)]))) s.heap _ _ := hG
  have hq_3 : (gh_up (gh_up (gh_up h al (.inl (cP, 14, .inr (.inr (.inr (.inr (va_up ga n (some q)))))))) fi (.inl (cI, 14, .inl (upd gf n (nI (m_fst (fun i => m_one (pa i) (pb i) (pc i) (pd i) qa qb qc qd) n)))))) sp (.inr (2, [.ref al, .ref fi, .int ((nI n) + 1)]))) q = some (.inr (1, [.long qa, .long qb, .long qc, .long qd])) := gh_keep hsp_2 hq_2 (by simp)
  have hq1_3 : (gh_up (gh_up (gh_up h al (.inl (cP, 14, .inr (.inr (.inr (.inr (va_up ga n (some q)))))))) fi (.inl (cI, 14, .inl (upd gf n (nI (m_fst (fun i => m_one (pa i) (pb i) (pc i) (pd i) qa qb qc qd) n)))))) sp (.inr (2, [.ref al, .ref fi, .int ((nI n) + 1)]))) al = some (.inl (cP, 14, .inr (.inr (.inr (.inr (va_up ga n (some q))))))) := gh_keep hsp_2 hq1_2 (by simp)
  have hq2_3 : (gh_up (gh_up (gh_up h al (.inl (cP, 14, .inr (.inr (.inr (.inr (va_up ga n (some q)))))))) fi (.inl (cI, 14, .inl (upd gf n (nI (m_fst (fun i => m_one (pa i) (pb i) (pc i) (pd i) qa qb qc qd) n)))))) sp (.inr (2, [.ref al, .ref fi, .int ((nI n) + 1)]))) fi = some (.inl (cI, 14, .inl (upd gf n (nI (m_fst (fun i => m_one (pa i) (pb i) (pc i) (pd i) qa qb qc qd) n))))) := gh_keep hsp_2 hq2 (by simp)
  replace hpl : ∀ i, i < n → (gh_up (gh_up (gh_up h al (.inl (cP, 14, .inr (.inr (.inr (.inr (va_up ga n (some q)))))))) fi (.inl (cI, 14, .inl (upd gf n (nI (m_fst (fun i => m_one (pa i) (pb i) (pc i) (pd i) qa qb qc qd) n)))))) sp (.inr (2, [.ref al, .ref fi, .int ((nI n) + 1)]))) (pl i) = some (.inr (1, [.long (pa i), .long (pb i), .long (pc i), .long (pd i)])) := fun i hi => gh_keep hsp_2 (hpl i hi) (by simp)
  exact gh_vret hx hb hr hlk hG d_Ps_add_34 ⟨rfl, by simp only [m_addH, nI_1]⟩

end
