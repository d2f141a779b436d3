theorem tI_start {fs : Nat → Nat} {pa pb pc pd : Nat → Int64} (hf : ∀ i, i < 6 → fs i = i) (hb : ∀ i, i < 6 → pa i = m_bx 0 i ∧ pb i = m_bx 1 i ∧ pc i = m_bx 2 i ∧ pd i = 1000) : tI 0 6 fs pa pb pc pd (fun _ => 0) (fun _ => 0) := by
  refine ⟨rfl, by decide, hb, fun k hk => absurd hk (Nat.not_lt_zero k), fun k hk => absurd hk (Nat.not_lt_zero k), fun i hi => ?_⟩
  rw [hf i hi]
  refine ⟨Nat.le_refl i, fun j hj ho => ?_, pv_one_refl _⟩
  have t : ∀ i, i < 6 → tP pa pb pc pd i 0 = (m_bx 0 i).toInt ∧ tP pa pb pc pd i 1 = (m_bx 1 i).toInt ∧ tP pa pb pc pd i 2 = (m_bx 2 i).toInt ∧ tP pa pb pc pd i 3 = 1000 := fun i hi => by
    obtain ⟨h1, h2, h3, h4⟩ := hb i hi
    refine ⟨?_, ?_, ?_, ?_⟩
    · show (pa i).toInt = _; rw [h1]
    · show (pb i).toInt = _; rw [h2]
    · show (pc i).toInt = _; rw [h3]
    · show (pd i).toInt = _; rw [h4]; decide
  obtain ⟨p0, p1, p2, p3⟩ := t j (by omega)
  obtain ⟨q0, q1, q2, q3⟩ := t i hi
  have e0 := ho 0 3 (by omega) (by omega)
  have e1 := ho 1 3 (by omega) (by omega)
  have e2 := ho 2 3 (by omega) (by omega)
  rw [p0, q0, p3, q3] at e0
  rw [p1, q1, p3, q3] at e1
  rw [p2, q2, p3, q3] at e2
  have D : ∀ i, i < 6 → ∀ j, j < 6 → (m_bx 0 i).toInt = (m_bx 0 j).toInt → (m_bx 1 i).toInt = (m_bx 1 j).toInt → (m_bx 2 i).toInt = (m_bx 2 j).toInt → i = j := by decide +kernel
  have := D j (by omega) i hi (by omega) (by omega) (by omega)
  omega

set_option maxHeartbeats 8000000 in
set_option maxRecDepth 100000 in
theorem law_front {p : Program} {l : Launch} {e : Env} {s : State} {m : MethodId} {below : List Frame} {meth : Method} {c : Code} {D : va_G} {cI cJ cP cS : ClassId} {b0 b L : Nat} {xs : Nat → Int32} {Q : State → Prop} (hx : p.tables.exec = Jvm.exec) (hb : c.code = b_La_law) (hml : c.maxLocals = 7) (hown : s.vm.findClass R_La = some m.cls) (htb : ∀ w ∈ tB, w.before #[Value.ref b] s = true) (hK : va_K D vC (tZ cI cJ cP cS) s) (hX : xF b0 s) (hscr : va_X b L xs s s.heap) (hbl : b < s.heap.size) (hbb : b < b0) (htr : xc_off l) (hL : L ≤ 2560)
    (hend : ∀ (ls : Array Slot) (H : Heap) (l9 : List Loc) (h : gh_M), gh_P D vC b0 h s.heap H l9 → W p l e room_1 s m #[Value.ref b] below meth c H l9 601024 7293034 Q (F0 m 720 ls [])) {h0 : gh_M} {ls : Array Slot} {H : Heap} {l9 : List Loc} (hl : lv_has ls 7 [(0, .ref b)]) (hG : gh_P D vC b0 h0 s.heap H l9) : W p l e room_1 s m #[Value.ref b] below meth c H l9 0 0 Q (F0 m 0 ls []) := by
  refine gh_new (ci := 0) (fs := [.null, .null, .null, .int 0]) hx hb htb in_X t_X ty_X hown (htb _ k_1_15) (htb _ k_1_16) (htb _ k_1_1) hK hG rfl (fun j hj => by rcases (show j = 0 ∨ j = 1 ∨ j = 2 ∨ j = 3 by omega) with rfl | rfl | rfl | rfl <;> rfl) (by decide) (by decide) d_La_law_0 (fun q1 H hf1 hG => ?_)
  have hq2 : (gh_up h0 q1 (.inr (0, [.null, .null, .null, .int 0]))) q1 = some (.inr (0, [.null, .null, .null, .int 0])) := gh_self _ _ _
  replace hG : gh_P D vC b0 (gh_up h0 q1 (.inr (0, [.null, .null, .null, .int 0]))) s.heap _ _ := hG
  refine W.widen (k := 1) (n := 4) (by decide) (by decide) ?_
  refine lv_dup hx hb d_La_law_3 rfl ?_
  refine gh_cI (As := []) (rest := [.ref q1]) (xF_ok b0) hx hb hml hown hK hX hG (c_X_init hq2) (q_X_init htb ⟨by decide, by decide⟩) (htb _ k_1_17) (htb _ k_1_18) rfl (htb _ k_1_19) rfl hl.1 rfl (Nat.le_of_ble_eq_true rfl) d_La_law_4 ⟨by decide, by decide⟩ (fun v9 hA H l9 hp9 hG => ?_) (fun _ _ _ _ hp9 _ => by cases hp9.1)
  obtain ⟨hv9, sp, al, fi, ga, gf, pl, fs, pa, pb, pc, pd, sk, po, gs, so, wo, hXw, hfs6, hbx, hkx⟩ := hp9
  cases hv9
  refine W.eq (g2 := F0 m 7 ls [.ref q1]) rfl ?_
  refine W.widen (k := 24) (n := 99) (by decide) (by decide) ?_
  refine lv_astore_n (lv' := [(1, .ref q1), (0, .ref b)]) hx hb d_La_law_7 rfl hl (by decide) rfl (fun ls hl => ?_)
  refine gh_new (ci := 5) (fs := [.int 0, .int 0, .null, .null, .int 0, .null, .null, .null, .null]) hx hb htb in_Mo t_Mo ty_Mo hown (htb _ k_2_217) (htb _ k_2_218) (htb _ k_1_6) hK hG rfl (fun j hj => by rcases (show j = 0 ∨ j = 1 ∨ j = 2 ∨ j = 3 ∨ j = 4 ∨ j = 5 ∨ j = 6 ∨ j = 7 ∨ j = 8 by omega) with rfl | rfl | rfl | rfl | rfl | rfl | rfl | rfl | rfl <;> rfl) (by decide) (by decide) d_La_law_8 (fun q3 H hf3 hG => ?_)
  have hq4 : (gh_up hA q3 (.inr (5, [.int 0, .int 0, .null, .null, .int 0, .null, .null, .null, .null]))) q3 = some (.inr (5, [.int 0, .int 0, .null, .null, .int 0, .null, .null, .null, .null])) := gh_self _ _ _
  replace hG : gh_P D vC b0 (gh_up hA q3 (.inr (5, [.int 0, .int 0, .null, .null, .int 0, .null, .null, .null, .null]))) s.heap _ _ := hG
  refine W.widen (k := 25) (n := 108) (by decide) (by decide) ?_
  refine lv_dup hx hb d_La_law_11 rfl ?_
  refine gh_cI (As := []) (rest := [.ref q3]) (xF_ok b0) hx hb hml hown hK hX hG (c_Mo_init hq4) (q_Mo_init htb ⟨by decide, by decide⟩) (htb _ k_2_219) (htb _ k_2_220) rfl (htb _ k_2_221) rfl hl.1 rfl (Nat.le_of_ble_eq_true rfl) d_La_law_12 ⟨by decide, by decide⟩ (fun v9 hB H l9 hp9 hG => ?_) (fun _ _ _ _ hp9 _ => by cases hp9.1)
  obtain ⟨hv9, nm, fr, hs, va, tp, dn, hMw, hfc⟩ := hp9
  cases hv9
  have hXv := wX_keep (fun z e k9 _ => hfc z e (gh_keepN hf3 k9) (fun z9 => by rw [z9, hf3] at k9; cases k9)) hXw
  refine W.eq (g2 := F0 m 15 ls [.ref q3]) rfl ?_
  refine W.widen (k := 31) (n := 188) (by decide) (by decide) ?_
  refine lv_astore_n (lv' := [(2, .ref q3), (1, .ref q1), (0, .ref b)]) hx hb d_La_law_15 rfl hl (by decide) rfl (fun ls hl => ?_)
  refine lv_iconst (v := 1) hx hb d_La_law_16 (by decide) ?_
  refine gh_newa (atype := .long) (a0 := (1, .inr (.inl (fun _ => 0)))) hx hb (htb _ k_1_85) rfl hK hG 1 rfl (fun _ => rfl) (by decide) rfl (by decide) (by decide) (by decide) d_La_law_17 (fun q5 H hf5 hG => ?_)
  have hq6 : (gh_up hB q5 (.inl (cJ, 1, .inr (.inl (fun _ => 0))))) q5 = some (.inl (cJ, 1, .inr (.inl (fun _ => 0)))) := gh_self _ _ _
  replace hG : gh_P D vC b0 (gh_up hB q5 (.inl (cJ, 1, .inr (.inl (fun _ => 0))))) s.heap _ _ := hG
  refine W.widen (k := 32) (n := 189) (by decide) (by decide) ?_
  refine lv_astore_n (lv' := [(3, .ref q5), (2, .ref q3), (1, .ref q1), (0, .ref b)]) hx hb d_La_law_19 rfl hl (by decide) rfl (fun ls hl => ?_)
  refine lv_iconst (v := 0) hx hb d_La_law_20 (by decide) ?_
  refine lv_istore (lv' := [(4, .int 0), (3, .ref q5), (2, .ref q3), (1, .ref q1), (0, .ref b)]) hx hb d_La_law_21 hl (by decide) rfl (fun ls hl => ?_)
  refine W.widen (k := 100) (n := 1000) (by decide) (by decide) ?_
  have hI2 : lwI cI cJ cP cS (gh_up hB q5 (.inl (cJ, 1, .inr (.inl (fun _ => 0))))) q1 q3 q5 0 := ⟨_, _, _, _, _, _, _, _, _, _, _, _, _, _, _, _, _, _, _, _, _, _, _, _, _, _, _, _, _, _, _, _, _, _, _, _, _, wX_new hf5 hXv, wM_keep (fun _ _ k9 _ => gh_keepN hf5 k9) hMw, hq6, tI_start hfs6 hbx, fun j hj => absurd hj (Nat.not_lt_zero j)⟩
  exact law_loop hx hb hml hown htb hK hX hscr hbl hbb htr hL hend hI2 (lv_sub hl [4, 3, 2, 1, 0] rfl) hG
