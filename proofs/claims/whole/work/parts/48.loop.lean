theorem gh_S {D : va_G} {cl : List vw_C} {b0 : Nat} {h : gh_M} {H0 H : Heap} {locs : List Loc} (hG : gh_P D cl b0 h H0 H locs) : va_S (fun q => b0 ≤ q) H0 H locs := by
  obtain ⟨_, _, _, _, hS, _⟩ := hG
  exact hS
theorem nI_toI {a : Nat} (h : a < 2 ^ 30) : (nI a).toInt = a := by
  have := pk_sub_toInt (a := a) (b := 0) h (by omega)
  rw [show nI a - nI 0 = nI a from pk_sub (Nat.zero_le a)] at this
  omega
theorem fi_le {g n : Nat} {fs : Nat → Nat} {pa pb pc pd : Nat → Int64} {nf ff : Nat → Int32} (hT : tI g n fs pa pb pc pd nf ff) : ∀ i, i < n → fs i ≤ i := fun i hi => (hT.2.2.2.2.2 i hi).1

set_option maxHeartbeats 8000000 in
set_option maxRecDepth 100000 in
theorem law_loop {p : Program} {l : Launch} {e : Env} {s : State} {m : MethodId} {below : List Frame} {meth : Method} {c : Code} {D : va_G} {cI cJ cP cS : ClassId} {b0 b L x mo ou : Nat} {xs : Nat → Int32} {Q : State → Prop} (hx : p.tables.exec = Jvm.exec) (hb : c.code = b_La_law) (hml : c.maxLocals = 7) (hown : s.vm.findClass R_La = some m.cls) (htb : ∀ w ∈ tB, w.before #[Value.ref b] s = true) (hK : va_K D vC (tZ cI cJ cP cS) s) (hX : xF b0 s) (hscr : va_X b L xs s s.heap) (hbl : b < s.heap.size) (hbb : b < b0) (htr : xc_off l) (hL : L ≤ 2560)
    (hend : ∀ (ls : Array Slot) (H : Heap) (l9 : List Loc) (h : gh_M), gh_P D vC b0 h s.heap H l9 → W p l e room_1 s m #[Value.ref b] below meth c H l9 601024 7293034 Q (F0 m 720 ls [])) {h : gh_M} {th : Int32} (hI : lwI cI cJ cP cS h x mo ou th) {ls : Array Slot} {H : Heap} {l9 : List Loc} (hl : lv_has ls 7 [(0, .ref b), (1, .ref x), (2, .ref mo), (3, .ref ou), (4, .int (nI 0))]) (hG : gh_P D vC b0 h s.heap H l9) : W p l e room_1 s m #[Value.ref b] below meth c H l9 100 1000 Q (F0 m 23 ls []) := by
  refine lp_upK (α := gh_M × Int32) (G := fun k ls H l9 => W p l e room_1 s m #[Value.ref b] below meth c H l9 (100 + 20 * k) (1000 + 100 * k) Q (F0 m 23 ls [])) (L / 5) (fun k A ls H l9 => lwI cI cJ cP cS A.1 x mo ou A.2 ∧ lv_has ls 7 [(0, .ref b), (1, .ref x), (2, .ref mo), (3, .ref ou), (4, .int (nI (5 * k)))] ∧ gh_P D vC b0 A.1 s.heap H l9) ?_ 0 (h, th) ls H l9 (Nat.zero_le _) ⟨hI, hl, hG⟩
  rintro k ⟨h, th⟩ ls H l9 hk ⟨hI0, hl, hG⟩ ih
  replace hI0 : lwI cI cJ cP cS h x mo ou th := hI0
  replace hG : gh_P D vC b0 h s.heap H l9 := hG
  refine lv_iload hx hb d_La_law_23 (lv_at hl 4 rfl) ?_
  refine lv_aload_n hx hb d_La_law_25 rfl (lv_at hl 0 rfl) ?_
  refine va_slen (A := fun q => b0 ≤ q) hx hb hscr hbl (Nat.not_le.mpr hbb) (gh_S hG) d_La_law_26 ?_
  refine lv_iconst (v := 5) hx hb d_La_law_27 (by decide) ?_
  refine lv_isub hx hb d_La_law_28 ?_
  refine lv_icmp_gt (tgt := 720) hx hb d_La_law_29 (by decide) (fun hc29 => ?_) (fun hc29 => ?_)
  · refine W.widen (k := 601024) (n := 7293034) (by omega) (by omega) ?_
    exact hend ls H l9 h hG
  replace hc29 : ¬ (nI L - nI 5) < nI (5 * k) := hc29
  rw [Int32.lt_iff_toInt_lt, pk_sub_toInt (by omega) (by omega), nI_toI (by omega)] at hc29
  have hc5 : 5 * k + 5 ≤ L := by omega
  refine lv_aload_n hx hb d_La_law_32 rfl (lv_at hl 0 rfl) ?_
  refine lv_iload hx hb d_La_law_33 (lv_at hl 4 rfl) ?_
  refine va_sld (A := fun q => b0 ≤ q) hx hb hscr hbl (Nat.not_le.mpr hbb) (gh_S hG) (vp_in_nI (by omega) (by omega)) d_La_law_35 ?_
  rw [nI_clamp (by omega)]
  refine lv_bipush (v := 15) hx hb d_La_law_36 (by decide) ?_
  refine lv_iand hx hb d_La_law_38 ?_
  obtain ⟨j, hj, hje⟩ := x_and15 (xs (5 * k))
  rw [hje]
  rcases (show j = 0 ∨ j = 1 ∨ j = 2 ∨ j = 3 ∨ j = 4 ∨ j = 5 ∨ j = 6 ∨ j = 7 ∨ j = 8 ∨ j = 9 ∨ j = 10 ∨ j = 11 ∨ j = 12 ∨ j = 13 ∨ j = 14 ∨ j = 15 by omega) with rfl | rfl | rfl | rfl | rfl | rfl | rfl | rfl | rfl | rfl | rfl | rfl | rfl | rfl | rfl | rfl
  · skip
    refine lv_tableIn (tgt := 96) (off := 57) hx hb d_La_law_39 (by decide) (by decide) rfl (by decide) ?_
    obtain ⟨sp, al, fi, n, ga, gf, pl, fs, pa, pb, pc, pd, sk, po, gs, so, wo, wd, ht, px, py, pz, pw, nm, fr, hs, va, tp, dn, g, nf, ff, hf, vf, tf, df, fo, hXw, hMw, hou, hT, hwd⟩ := hI0
    obtain ⟨⟨hsp, hal, hfi, hga, hgf, hfs, hpl, hn14⟩, h6, hxx, hsk, hgs, hpo, hso, hwo, hwi, hht⟩ := id hXw
    have hn6 := hT.1
    refine lv_aload_n hx hb d_La_law_96 rfl (lv_at hl 1 rfl) ?_
    refine lv_aload_n hx hb d_La_law_97 rfl (lv_at hl 0 rfl) ?_
    refine lv_iload hx hb d_La_law_98 (lv_at hl 4 rfl) ?_
    refine lv_iconst (v := 1) hx hb d_La_law_100 (by decide) ?_
    refine lv_iadd hx hb d_La_law_101 ?_
    rw [show (nI (5 * k)) + 1 = nI ((5 * k) + 1) from nI_add (5 * k) 1]
    refine va_sld (A := fun q => b0 ≤ q) hx hb hscr hbl (Nat.not_le.mpr hbb) (gh_S hG) (vp_in_nI (by omega) (by omega)) d_La_law_102 ?_
    rw [nI_clamp (by omega)]
    refine lv_aload_n hx hb d_La_law_103 rfl (lv_at hl 0 rfl) ?_
    refine lv_iload hx hb d_La_law_104 (lv_at hl 4 rfl) ?_
    refine lv_iconst (v := 2) hx hb d_La_law_106 (by decide) ?_
    refine lv_iadd hx hb d_La_law_107 ?_
    rw [show (nI (5 * k)) + 2 = nI ((5 * k) + 2) from nI_add (5 * k) 2]
    refine va_sld (A := fun q => b0 ≤ q) hx hb hscr hbl (Nat.not_le.mpr hbb) (gh_S hG) (vp_in_nI (by omega) (by omega)) d_La_law_108 ?_
    rw [nI_clamp (by omega)]
    refine lv_aload_n hx hb d_La_law_109 rfl (lv_at hl 0 rfl) ?_
    refine lv_iload hx hb d_La_law_110 (lv_at hl 4 rfl) ?_
    refine lv_iconst (v := 3) hx hb d_La_law_112 (by decide) ?_
    refine lv_iadd hx hb d_La_law_113 ?_
    rw [show (nI (5 * k)) + 3 = nI ((5 * k) + 3) from nI_add (5 * k) 3]
    refine va_sld (A := fun q => b0 ≤ q) hx hb hscr hbl (Nat.not_le.mpr hbb) (gh_S hG) (vp_in_nI (by omega) (by omega)) d_La_law_114 ?_
    rw [nI_clamp (by omega)]
    refine lv_aload_n hx hb d_La_law_115 rfl (lv_at hl 0 rfl) ?_
    refine lv_iload hx hb d_La_law_116 (lv_at hl 4 rfl) ?_
    refine lv_iconst (v := 4) hx hb d_La_law_118 (by decide) ?_
    refine lv_iadd hx hb d_La_law_119 ?_
    rw [show (nI (5 * k)) + 4 = nI ((5 * k) + 4) from nI_add (5 * k) 4]
    refine va_sld (A := fun q => b0 ≤ q) hx hb hscr hbl (Nat.not_le.mpr hbb) (gh_S hG) (vp_in_nI (by omega) (by omega)) d_La_law_120 ?_
    rw [nI_clamp (by omega)]
    refine lv_aload_n hx hb d_La_law_121 rfl (lv_at hl 3 rfl) ?_
    refine gh_cS (As := [.ref x, .int (xs ((5 * k) + 1)), .int (xs ((5 * k) + 2)), .int (xs ((5 * k) + 3)), .int (xs ((5 * k) + 4)), .ref ou]) (rest := []) (xF_ok b0) hx hb hml hown hK hX hG (c_La_plane hxx (c_X_plane hsp hal hfi hga hgf hfs hpl hn14 h6 hxx hsk hgs hpo hso hwo hwi hht htr) (o_plane hXw hMw hou hT hwd).1 (o_plane hXw hMw hou hT hwd).2) (q_La_plane htb ⟨by decide, by decide⟩) (htb _ k_1_134) (htb _ k_1_135) rfl hl.1 rfl (Nat.le_of_ble_eq_true rfl) d_La_law_122 ⟨by show 100 + 20 * k + 1 ≤ 601024; omega, by show 1000 + 100 * k + 6 ≤ 7293034; omega⟩ (fun v9 hB H l9 hp9 hG => ?_) (fun x9 h9 H l9 hp9 hG => by obtain ⟨k9, hk9, -⟩ := s_plane hXw hMw hou hT hwd hp9; cases hk9)
    obtain ⟨k9, hk9, hM1, hnx⟩ := s_plane hXw hMw hou hT hwd hp9
    cases hk9
    refine W.eq (g2 := F0 m 125 ls [.int k9]) rfl ?_
    refine W.widen (k := 100 + 20 * k + 1) (n := 1000 + 100 * k + 6) (by show 100 + 20 * k + 1 ≤ 100 + 20 * k + 1; omega) (by show 1000 + 100 * k + 6 ≤ 1000 + 100 * k + 6; omega) ?_
    refine lv_istore (lv' := [(5, .int k9), (0, .ref b), (1, .ref x), (2, .ref mo), (3, .ref ou), (4, .int (nI (5 * k)))]) hx hb d_La_law_125 hl (by decide) rfl (fun ls hl => ?_)
    refine lv_aload_n hx hb d_La_law_127 rfl (lv_at hl 3 rfl) ?_
    refine lv_aload_n hx hb d_La_law_128 rfl (lv_at hl 1 rfl) ?_
    refine lv_iload hx hb d_La_law_129 (lv_at hl 5 rfl) ?_
    refine lv_iconst (v := 1) hx hb d_La_law_131 (by decide) ?_
    refine lv_iadd hx hb d_La_law_132 ?_
    rw [show (nI (5 * k)) + 1 = nI ((5 * k) + 1) from nI_add (5 * k) 1]
    refine va_sld (A := fun q => b0 ≤ q) hx hb hscr hbl (Nat.not_le.mpr hbb) (gh_S hG) (vp_in_nI (by omega) (by omega)) d_La_law_133 ?_
    rw [nI_clamp (by omega)]
    refine lv_aload_n hx hb d_La_law_134 rfl (lv_at hl 1 rfl) ?_
    refine lv_iload hx hb d_La_law_135 (lv_at hl 5 rfl) ?_
    refine lv_iconst (v := 2) hx hb d_La_law_137 (by decide) ?_
    refine lv_iadd hx hb d_La_law_138 ?_
    rw [show (nI (5 * k)) + 2 = nI ((5 * k) + 2) from nI_add (5 * k) 2]
    refine va_sld (A := fun q => b0 ≤ q) hx hb hscr hbl (Nat.not_le.mpr hbb) (gh_S hG) (vp_in_nI (by omega) (by omega)) d_La_law_139 ?_
    rw [nI_clamp (by omega)]
    refine lv_aload_n hx hb d_La_law_140 rfl (lv_at hl 1 rfl) ?_
    refine lv_iload hx hb d_La_law_141 (lv_at hl 5 rfl) ?_
    refine lv_iconst (v := 3) hx hb d_La_law_143 (by decide) ?_
    refine lv_iadd hx hb d_La_law_144 ?_
    rw [show (nI (5 * k)) + 3 = nI ((5 * k) + 3) from nI_add (5 * k) 3]
    refine va_sld (A := fun q => b0 ≤ q) hx hb hscr hbl (Nat.not_le.mpr hbb) (gh_S hG) (vp_in_nI (by omega) (by omega)) d_La_law_145 ?_
    rw [nI_clamp (by omega)]
    refine lv_aload_n hx hb d_La_law_146 rfl (lv_at hl 1 rfl) ?_
    refine lv_iload hx hb d_La_law_147 (lv_at hl 5 rfl) ?_
    refine lv_iconst (v := 4) hx hb d_La_law_149 (by decide) ?_
    refine lv_iadd hx hb d_La_law_150 ?_
    rw [show (nI (5 * k)) + 4 = nI ((5 * k) + 4) from nI_add (5 * k) 4]
    refine va_sld (A := fun q => b0 ≤ q) hx hb hscr hbl (Nat.not_le.mpr hbb) (gh_S hG) (vp_in_nI (by omega) (by omega)) d_La_law_151 ?_
    rw [nI_clamp (by omega)]
    refine gh_cV (ci := 5) (As := [.int (xs ((5 * k) + 1)), .int (xs ((5 * k) + 2)), .int (xs ((5 * k) + 3)), .int (xs ((5 * k) + 4))]) (rest := []) (xF_ok b0) hx hb hml hown hK hX hG rfl hM1.1 (c_Mo_plane hM1) (q_Mo_plane htb ⟨by decide, by decide⟩) (htb _ k_3_15) (htb _ k_3_16) (htb _ k_3_17) rfl hl.1 rfl (Nat.le_of_ble_eq_true rfl) d_La_law_152 ⟨by show 100 + 20 * k + 1 + 0 ≤ 601024; omega, by show 1000 + 100 * k + 6 + 0 ≤ 7293034; omega⟩ (fun v9 hC H l9 hp9 hG => ?_) (fun x9 h9 H l9 hp9 hG => by obtain ⟨k9, hk9, -⟩ := hnx _ _ hp9; cases hk9)
    obtain ⟨b9, hb9, hR⟩ := hnx _ _ hp9
    cases hb9
    have hI2 := lwR_I hR
    obtain ⟨sp, al, fi, n, ga, gf, pl, fs, pa, pb, pc, pd, sk, po, gs, so, wo, wd, ht, px, py, pz, pw, nm, fr, hs, va, tp, dn, g, nf, ff, hf, vf, tf, df, fo, hXw, hMw, hou, hT, hwd, hbo⟩ := hR
    refine W.eq (g2 := F0 m 155 ls [.int b9]) rfl ?_
    refine W.widen (k := 100 + 20 * k + 1) (n := 1000 + 100 * k + 6) (by show 100 + 20 * k + 1 + 0 ≤ 100 + 20 * k + 1; omega) (by show 1000 + 100 * k + 6 + 0 ≤ 1000 + 100 * k + 6; omega) ?_
    refine lv_istore (lv' := [(6, .int b9), (5, .int k9), (0, .ref b), (1, .ref x), (2, .ref mo), (3, .ref ou), (4, .int (nI (5 * k)))]) hx hb d_La_law_155 hl (by decide) rfl (fun ls hl => ?_)
    refine lv_aload_n hx hb d_La_law_157 rfl (lv_at hl 4 rfl) ?_
    refine gh_cV (ci := 5) (As := []) (rest := []) (xF_ok b0) hx hb hml hown hK hX hG rfl hMw.1 (c_Mo_thrown hMw) (q_Mo_thrown htb ⟨by decide, by decide⟩) (htb _ k_3_11) (htb _ k_3_12) (htb _ k_3_13) rfl hl.1 rfl (Nat.le_of_ble_eq_true rfl) d_La_law_158 ⟨by show 100 + 20 * k + 1 + 0 ≤ 601024; omega, by show 1000 + 100 * k + 6 + 0 ≤ 7293034; omega⟩ (fun v9 h9 H l9 hp9 hG => ?_) (fun _ _ _ _ hp9 _ => by cases hp9.1)
    obtain ⟨hv9, hh9⟩ := hp9
    cases hv9
    rw [hh9] at hG
    refine W.eq (g2 := F0 m 161 ls [.int k9]) rfl ?_
    refine W.widen (k := 100 + 20 * k + 1) (n := 1000 + 100 * k + 6) (by show 100 + 20 * k + 1 + 0 ≤ 100 + 20 * k + 1; omega) (by show 1000 + 100 * k + 6 + 0 ≤ 1000 + 100 * k + 6; omega) ?_
    refine lv_iload hx hb d_La_law_161 (lv_at hl 1 rfl) ?_
    refine lv_icmp_eq (tgt := 168) hx hb d_La_law_163 (by decide) (fun hc163 => ?_) (fun hc => absurd rfl hc)
    refine lv_iload hx hb d_La_law_168 (lv_at hl 1 rfl) ?_
    refine lv_if_ne (tgt := 185) hx hb d_La_law_170 (by decide) (fun hc170 => ?_) (fun hc170 => ?_)
    · skip
      refine lv_goto (tgt := 714) hx hb d_La_law_185 (by decide) ?_
      refine lv_iinc (k := 6) (v := nI (5 * (k + 1))) (lv' := [(4, .int (nI (5 * (k + 1)))), (6, .int b9), (5, .int k9), (0, .ref b), (1, .ref x), (2, .ref mo), (3, .ref ou)]) hx hb d_La_law_714 hl rfl (nI_add (5 * k) 5) (by decide) rfl (fun ls hl => ?_)
      refine lv_goto (tgt := 23) hx hb d_La_law_717 (by decide) ?_
      refine W.widen (k := 100 + 20 * (k + 1)) (n := 1000 + 100 * (k + 1)) (by omega) (by omega) ?_
      exact ih (hC, k9) ls H l9 (by omega) ⟨hI2, (lv_sub hl [3, 4, 5, 6, 0] rfl), hG⟩
    · skip
      refine lv_aload_n hx hb d_La_law_173 rfl (lv_at hl 5 rfl) ?_
      refine lv_iconst (v := 0) hx hb d_La_law_174 (by decide) ?_
      refine gh_lald (v := fo 0) hx hb hK hG 1 hou rfl (vp_in_nI (n := 0) (by decide) (by decide)) rfl d_La_law_175 ?_
      refine lv_iload hx hb d_La_law_176 (lv_at hl 0 rfl) ?_
      refine lv_i2l (v := Int32.toInt64 b9) hx hb d_La_law_178 rfl ?_
      refine W.lcmp hx hb d_La_law_179 ?_
      refine lv_if_eq (tgt := 185) hx hb d_La_law_180 (by decide) (fun hc180 => ?_) (fun hc => absurd ((lg_cmp_eq _ _).mpr (hbo hc170)) hc)
      refine lv_goto (tgt := 714) hx hb d_La_law_185 (by decide) ?_
      refine lv_iinc (k := 6) (v := nI (5 * (k + 1))) (lv' := [(4, .int (nI (5 * (k + 1)))), (6, .int b9), (5, .int k9), (0, .ref b), (1, .ref x), (2, .ref mo), (3, .ref ou)]) hx hb d_La_law_714 hl rfl (nI_add (5 * k) 5) (by decide) rfl (fun ls hl => ?_)
      refine lv_goto (tgt := 23) hx hb d_La_law_717 (by decide) ?_
      refine W.widen (k := 100 + 20 * (k + 1)) (n := 1000 + 100 * (k + 1)) (by omega) (by omega) ?_
      exact ih (hC, k9) ls H l9 (by omega) ⟨hI2, (lv_sub hl [3, 4, 5, 6, 0] rfl), hG⟩
  · skip
    refine lv_tableIn (tgt := 188) (off := 149) hx hb d_La_law_39 (by decide) (by decide) rfl (by decide) ?_
    obtain ⟨sp, al, fi, n, ga, gf, pl, fs, pa, pb, pc, pd, sk, po, gs, so, wo, wd, ht, px, py, pz, pw, nm, fr, hs, va, tp, dn, g, nf, ff, hf, vf, tf, df, fo, hXw, hMw, hou, hT, hwd⟩ := hI0
    obtain ⟨⟨hsp, hal, hfi, hga, hgf, hfs, hpl, hn14⟩, h6, hxx, hsk, hgs, hpo, hso, hwo, hwi, hht⟩ := id hXw
    have hn6 := hT.1
    refine lv_aload_n hx hb d_La_law_188 rfl (lv_at hl 1 rfl) ?_
    refine gh_cV (ci := 0) (As := []) (rest := []) (xF_ok b0) hx hb hml hown hK hX hG rfl hxx (c_X_planes hsp hal hfi hga hgf hfs hpl hn14 h6 hxx hsk hgs hpo hso hwo hwi hht) (q_X_planes htb ⟨by decide, by decide⟩) (htb _ k_1_122) (htb _ k_1_123) (htb _ k_1_124) rfl hl.1 rfl (Nat.le_of_ble_eq_true rfl) d_La_law_189 ⟨by show 100 + 20 * k + 0 ≤ 601024; omega, by show 1000 + 100 * k + 0 ≤ 7293034; omega⟩ (fun v9 h9 H l9 hp9 hG => ?_) (fun _ _ _ _ hp9 _ => by cases hp9.1)
    obtain ⟨hv9, hh9⟩ := hp9
    cases hv9
    rw [hh9] at hG
    refine W.eq (g2 := F0 m 192 ls [.int (nI (n - 6))]) rfl ?_
    refine W.widen (k := 100 + 20 * k) (n := 1000 + 100 * k) (by show 100 + 20 * k + 0 ≤ 100 + 20 * k; omega) (by show 1000 + 100 * k + 0 ≤ 1000 + 100 * k; omega) ?_
    refine lv_aload_n hx hb d_La_law_192 rfl (lv_at hl 2 rfl) ?_
    refine gh_cV (ci := 5) (As := []) (rest := [.int (nI (n - 6))]) (xF_ok b0) hx hb hml hown hK hX hG rfl hMw.1 (c_Mo_planes hMw) (q_Mo_planes htb ⟨by decide, by decide⟩) (htb _ k_3_24) (htb _ k_3_25) (htb _ k_3_26) rfl hl.1 rfl (Nat.le_of_ble_eq_true rfl) d_La_law_193 ⟨by show 100 + 20 * k + 0 ≤ 601024; omega, by show 1000 + 100 * k + 0 ≤ 7293034; omega⟩ (fun v9 hC H l9 hp9 hG => ?_) (fun _ _ _ _ hp9 _ => by cases hp9.1)
    obtain ⟨hv9, w9, f9⟩ := hp9
    cases hv9
    have hI2 : lwI cI cJ cP cS hC x mo ou 0 := ⟨_, _, _, _, _, _, _, _, _, _, _, _, _, _, _, _, _, _, _, _, _, _, _, _, _, _, _, _, _, _, _, _, _, _, _, _, _, wX_frM f9 hXw, w9, f9 ou _ hou rfl, hT, hwd⟩
    refine W.eq (g2 := F0 m 196 ls [.int (nI g), .int (nI (n - 6))]) rfl ?_
    refine W.widen (k := 100 + 20 * k) (n := 1000 + 100 * k) (by show 100 + 20 * k + 0 ≤ 100 + 20 * k; omega) (by show 1000 + 100 * k + 0 ≤ 1000 + 100 * k; omega) ?_
    refine lv_icmp_eq (tgt := 714) hx hb d_La_law_196 (by decide) (fun hc196 => ?_) (fun hc => absurd (by rw [show n - 6 = g by omega]) hc)
    refine lv_iinc (k := 4) (v := nI (5 * (k + 1))) (lv' := [(4, .int (nI (5 * (k + 1)))), (0, .ref b), (1, .ref x), (2, .ref mo), (3, .ref ou)]) hx hb d_La_law_714 hl rfl (nI_add (5 * k) 5) (by decide) rfl (fun ls hl => ?_)
    refine lv_goto (tgt := 23) hx hb d_La_law_717 (by decide) ?_
    refine W.widen (k := 100 + 20 * (k + 1)) (n := 1000 + 100 * (k + 1)) (by omega) (by omega) ?_
    exact ih (hC, 0) ls H l9 (by omega) ⟨hI2, (lv_sub hl [1, 2, 3, 4, 0] rfl), hG⟩
  · skip
    refine lv_tableIn (tgt := 201) (off := 162) hx hb d_La_law_39 (by decide) (by decide) rfl (by decide) ?_
    obtain ⟨sp, al, fi, n, ga, gf, pl, fs, pa, pb, pc, pd, sk, po, gs, so, wo, wd, ht, px, py, pz, pw, nm, fr, hs, va, tp, dn, g, nf, ff, hf, vf, tf, df, fo, hXw, hMw, hou, hT, hwd⟩ := hI0
    obtain ⟨⟨hsp, hal, hfi, hga, hgf, hfs, hpl, hn14⟩, h6, hxx, hsk, hgs, hpo, hso, hwo, hwi, hht⟩ := id hXw
    have hn6 := hT.1
    refine lv_aload_n hx hb d_La_law_201 rfl (lv_at hl 1 rfl) ?_
    refine lv_aload_n hx hb d_La_law_202 rfl (lv_at hl 0 rfl) ?_
    refine lv_iload hx hb d_La_law_203 (lv_at hl 4 rfl) ?_
    refine lv_iconst (v := 1) hx hb d_La_law_205 (by decide) ?_
    refine lv_iadd hx hb d_La_law_206 ?_
    rw [show (nI (5 * k)) + 1 = nI ((5 * k) + 1) from nI_add (5 * k) 1]
    refine va_sld (A := fun q => b0 ≤ q) hx hb hscr hbl (Nat.not_le.mpr hbb) (gh_S hG) (vp_in_nI (by omega) (by omega)) d_La_law_207 ?_
    rw [nI_clamp (by omega)]
    refine lv_aload_n hx hb d_La_law_208 rfl (lv_at hl 3 rfl) ?_
    refine gh_cS (As := [.ref x, .int (xs ((5 * k) + 1)), .ref ou]) (rest := []) (xF_ok b0) hx hb hml hown hK hX hG (c_La_convex hxx (c_X_convex hsp hal hfi hga hgf hfs hpl hn14 h6 hxx hsk hgs hpo hso hwo hwi hht htr) (o_convex hXw hMw hou hT hwd).1 (o_convex hXw hMw hou hT hwd).2) (q_La_convex htb ⟨by decide, by decide⟩) (htb _ k_1_238) (htb _ k_1_239) rfl hl.1 rfl (Nat.le_of_ble_eq_true rfl) d_La_law_209 ⟨by show 100 + 20 * k + 1 ≤ 601024; omega, by show 1000 + 100 * k + 6 ≤ 7293034; omega⟩ (fun v9 hB H l9 hp9 hG => ?_) (fun x9 h9 H l9 hp9 hG => by obtain ⟨k9, hk9, -⟩ := s_convex hXw hMw hou hT hwd hp9; cases hk9)
    obtain ⟨k9, hk9, hM1, hnx⟩ := s_convex hXw hMw hou hT hwd hp9
    cases hk9
    refine W.eq (g2 := F0 m 212 ls [.int k9]) rfl ?_
    refine W.widen (k := 100 + 20 * k + 1) (n := 1000 + 100 * k + 6) (by show 100 + 20 * k + 1 ≤ 100 + 20 * k + 1; omega) (by show 1000 + 100 * k + 6 ≤ 1000 + 100 * k + 6; omega) ?_
    refine lv_istore (lv' := [(5, .int k9), (0, .ref b), (1, .ref x), (2, .ref mo), (3, .ref ou), (4, .int (nI (5 * k)))]) hx hb d_La_law_212 hl (by decide) rfl (fun ls hl => ?_)
    refine lv_aload_n hx hb d_La_law_214 rfl (lv_at hl 3 rfl) ?_
    refine lv_aload_n hx hb d_La_law_215 rfl (lv_at hl 1 rfl) ?_
    refine lv_iload hx hb d_La_law_216 (lv_at hl 5 rfl) ?_
    refine lv_iconst (v := 1) hx hb d_La_law_218 (by decide) ?_
    refine lv_iadd hx hb d_La_law_219 ?_
    rw [show (nI (5 * k)) + 1 = nI ((5 * k) + 1) from nI_add (5 * k) 1]
    refine va_sld (A := fun q => b0 ≤ q) hx hb hscr hbl (Nat.not_le.mpr hbb) (gh_S hG) (vp_in_nI (by omega) (by omega)) d_La_law_220 ?_
    rw [nI_clamp (by omega)]
    refine gh_cV (ci := 5) (As := [.int (xs ((5 * k) + 1))]) (rest := []) (xF_ok b0) hx hb hml hown hK hX hG rfl hM1.1 (c_Mo_convex hM1) (q_Mo_convex htb ⟨by decide, by decide⟩) (htb _ k_3_28) (htb _ k_3_29) (htb _ k_3_30) rfl hl.1 rfl (Nat.le_of_ble_eq_true rfl) d_La_law_221 ⟨by show 100 + 20 * k + 1 + 0 ≤ 601024; omega, by show 1000 + 100 * k + 6 + 0 ≤ 7293034; omega⟩ (fun v9 hC H l9 hp9 hG => ?_) (fun x9 h9 H l9 hp9 hG => by obtain ⟨k9, hk9, -⟩ := hnx _ _ hp9; cases hk9)
    obtain ⟨b9, hb9, hR⟩ := hnx _ _ hp9
    cases hb9
    have hI2 := lwR_I hR
    obtain ⟨sp, al, fi, n, ga, gf, pl, fs, pa, pb, pc, pd, sk, po, gs, so, wo, wd, ht, px, py, pz, pw, nm, fr, hs, va, tp, dn, g, nf, ff, hf, vf, tf, df, fo, hXw, hMw, hou, hT, hwd, hbo⟩ := hR
    refine W.eq (g2 := F0 m 224 ls [.int b9]) rfl ?_
    refine W.widen (k := 100 + 20 * k + 1) (n := 1000 + 100 * k + 6) (by show 100 + 20 * k + 1 + 0 ≤ 100 + 20 * k + 1; omega) (by show 1000 + 100 * k + 6 + 0 ≤ 1000 + 100 * k + 6; omega) ?_
    refine lv_istore (lv' := [(6, .int b9), (5, .int k9), (0, .ref b), (1, .ref x), (2, .ref mo), (3, .ref ou), (4, .int (nI (5 * k)))]) hx hb d_La_law_224 hl (by decide) rfl (fun ls hl => ?_)
    refine lv_aload_n hx hb d_La_law_226 rfl (lv_at hl 4 rfl) ?_
    refine gh_cV (ci := 5) (As := []) (rest := []) (xF_ok b0) hx hb hml hown hK hX hG rfl hMw.1 (c_Mo_thrown hMw) (q_Mo_thrown htb ⟨by decide, by decide⟩) (htb _ k_3_11) (htb _ k_3_12) (htb _ k_3_13) rfl hl.1 rfl (Nat.le_of_ble_eq_true rfl) d_La_law_227 ⟨by show 100 + 20 * k + 1 + 0 ≤ 601024; omega, by show 1000 + 100 * k + 6 + 0 ≤ 7293034; omega⟩ (fun v9 h9 H l9 hp9 hG => ?_) (fun _ _ _ _ hp9 _ => by cases hp9.1)
    obtain ⟨hv9, hh9⟩ := hp9
    cases hv9
    rw [hh9] at hG
    refine W.eq (g2 := F0 m 230 ls [.int k9]) rfl ?_
    refine W.widen (k := 100 + 20 * k + 1) (n := 1000 + 100 * k + 6) (by show 100 + 20 * k + 1 + 0 ≤ 100 + 20 * k + 1; omega) (by show 1000 + 100 * k + 6 + 0 ≤ 1000 + 100 * k + 6; omega) ?_
    refine lv_iload hx hb d_La_law_230 (lv_at hl 1 rfl) ?_
    refine lv_icmp_eq (tgt := 237) hx hb d_La_law_232 (by decide) (fun hc232 => ?_) (fun hc => absurd rfl hc)
    refine lv_iload hx hb d_La_law_237 (lv_at hl 1 rfl) ?_
    refine lv_if_ne (tgt := 254) hx hb d_La_law_239 (by decide) (fun hc239 => ?_) (fun hc239 => ?_)
    · skip
      refine lv_goto (tgt := 714) hx hb d_La_law_254 (by decide) ?_
      refine lv_iinc (k := 6) (v := nI (5 * (k + 1))) (lv' := [(4, .int (nI (5 * (k + 1)))), (6, .int b9), (5, .int k9), (0, .ref b), (1, .ref x), (2, .ref mo), (3, .ref ou)]) hx hb d_La_law_714 hl rfl (nI_add (5 * k) 5) (by decide) rfl (fun ls hl => ?_)
      refine lv_goto (tgt := 23) hx hb d_La_law_717 (by decide) ?_
      refine W.widen (k := 100 + 20 * (k + 1)) (n := 1000 + 100 * (k + 1)) (by omega) (by omega) ?_
      exact ih (hC, k9) ls H l9 (by omega) ⟨hI2, (lv_sub hl [3, 4, 5, 6, 0] rfl), hG⟩
    · skip
      refine lv_aload_n hx hb d_La_law_242 rfl (lv_at hl 5 rfl) ?_
      refine lv_iconst (v := 0) hx hb d_La_law_243 (by decide) ?_
      refine gh_lald (v := fo 0) hx hb hK hG 1 hou rfl (vp_in_nI (n := 0) (by decide) (by decide)) rfl d_La_law_244 ?_
      refine lv_iload hx hb d_La_law_245 (lv_at hl 0 rfl) ?_
      refine lv_i2l (v := Int32.toInt64 b9) hx hb d_La_law_247 rfl ?_
      refine W.lcmp hx hb d_La_law_248 ?_
      refine lv_if_eq (tgt := 254) hx hb d_La_law_249 (by decide) (fun hc249 => ?_) (fun hc => absurd ((lg_cmp_eq _ _).mpr (hbo hc239)) hc)
      refine lv_goto (tgt := 714) hx hb d_La_law_254 (by decide) ?_
      refine lv_iinc (k := 6) (v := nI (5 * (k + 1))) (lv' := [(4, .int (nI (5 * (k + 1)))), (6, .int b9), (5, .int k9), (0, .ref b), (1, .ref x), (2, .ref mo), (3, .ref ou)]) hx hb d_La_law_714 hl rfl (nI_add (5 * k) 5) (by decide) rfl (fun ls hl => ?_)
      refine lv_goto (tgt := 23) hx hb d_La_law_717 (by decide) ?_
      refine W.widen (k := 100 + 20 * (k + 1)) (n := 1000 + 100 * (k + 1)) (by omega) (by omega) ?_
      exact ih (hC, k9) ls H l9 (by omega) ⟨hI2, (lv_sub hl [3, 4, 5, 6, 0] rfl), hG⟩
  · skip
    refine lv_tableIn (tgt := 257) (off := 218) hx hb d_La_law_39 (by decide) (by decide) rfl (by decide) ?_
    obtain ⟨sp, al, fi, n, ga, gf, pl, fs, pa, pb, pc, pd, sk, po, gs, so, wo, wd, ht, px, py, pz, pw, nm, fr, hs, va, tp, dn, g, nf, ff, hf, vf, tf, df, fo, hXw, hMw, hou, hT, hwd⟩ := hI0
    obtain ⟨⟨hsp, hal, hfi, hga, hgf, hfs, hpl, hn14⟩, h6, hxx, hsk, hgs, hpo, hso, hwo, hwi, hht⟩ := id hXw
    have hn6 := hT.1
    refine lv_aload_n hx hb d_La_law_257 rfl (lv_at hl 1 rfl) ?_
    refine lv_aload_n hx hb d_La_law_258 rfl (lv_at hl 0 rfl) ?_
    refine lv_iload hx hb d_La_law_259 (lv_at hl 4 rfl) ?_
    refine lv_iconst (v := 1) hx hb d_La_law_261 (by decide) ?_
    refine lv_iadd hx hb d_La_law_262 ?_
    rw [show (nI (5 * k)) + 1 = nI ((5 * k) + 1) from nI_add (5 * k) 1]
    refine va_sld (A := fun q => b0 ≤ q) hx hb hscr hbl (Nat.not_le.mpr hbb) (gh_S hG) (vp_in_nI (by omega) (by omega)) d_La_law_263 ?_
    rw [nI_clamp (by omega)]
    refine lv_aload_n hx hb d_La_law_264 rfl (lv_at hl 3 rfl) ?_
    refine gh_cS (As := [.ref x, .int (xs ((5 * k) + 1)), .ref ou]) (rest := []) (xF_ok b0) hx hb hml hown hK hX hG (c_La_join hxx (c_X_join hsp hal hfi hga hgf hfs hpl hn14 h6 hxx hsk hgs hpo hso hwo hwi hht htr) (o_join hXw hMw hou hT hwd).1 (o_join hXw hMw hou hT hwd).2) (q_La_join htb ⟨by decide, by decide⟩) (htb _ k_2_15) (htb _ k_2_16) rfl hl.1 rfl (Nat.le_of_ble_eq_true rfl) d_La_law_265 ⟨by show 100 + 20 * k + 1 ≤ 601024; omega, by show 1000 + 100 * k + 6 ≤ 7293034; omega⟩ (fun v9 hB H l9 hp9 hG => ?_) (fun x9 h9 H l9 hp9 hG => by obtain ⟨k9, hk9, -⟩ := s_join hXw hMw hou hT hwd hp9; cases hk9)
    obtain ⟨k9, hk9, hM1, hnx⟩ := s_join hXw hMw hou hT hwd hp9
    cases hk9
    refine W.eq (g2 := F0 m 268 ls [.int k9]) rfl ?_
    refine W.widen (k := 100 + 20 * k + 1) (n := 1000 + 100 * k + 6) (by show 100 + 20 * k + 1 ≤ 100 + 20 * k + 1; omega) (by show 1000 + 100 * k + 6 ≤ 1000 + 100 * k + 6; omega) ?_
    refine lv_istore (lv' := [(5, .int k9), (0, .ref b), (1, .ref x), (2, .ref mo), (3, .ref ou), (4, .int (nI (5 * k)))]) hx hb d_La_law_268 hl (by decide) rfl (fun ls hl => ?_)
    refine lv_aload_n hx hb d_La_law_270 rfl (lv_at hl 3 rfl) ?_
    refine lv_aload_n hx hb d_La_law_271 rfl (lv_at hl 1 rfl) ?_
    refine lv_iload hx hb d_La_law_272 (lv_at hl 5 rfl) ?_
    refine lv_iconst (v := 1) hx hb d_La_law_274 (by decide) ?_
    refine lv_iadd hx hb d_La_law_275 ?_
    rw [show (nI (5 * k)) + 1 = nI ((5 * k) + 1) from nI_add (5 * k) 1]
    refine va_sld (A := fun q => b0 ≤ q) hx hb hscr hbl (Nat.not_le.mpr hbb) (gh_S hG) (vp_in_nI (by omega) (by omega)) d_La_law_276 ?_
    rw [nI_clamp (by omega)]
    refine gh_cV (ci := 5) (As := [.int (xs ((5 * k) + 1))]) (rest := []) (xF_ok b0) hx hb hml hown hK hX hG rfl hM1.1 (c_Mo_join hM1) (q_Mo_join htb ⟨by decide, by decide⟩) (htb _ k_3_32) (htb _ k_3_33) (htb _ k_3_34) rfl hl.1 rfl (Nat.le_of_ble_eq_true rfl) d_La_law_277 ⟨by show 100 + 20 * k + 1 + 0 ≤ 601024; omega, by show 1000 + 100 * k + 6 + 0 ≤ 7293034; omega⟩ (fun v9 hC H l9 hp9 hG => ?_) (fun x9 h9 H l9 hp9 hG => by obtain ⟨k9, hk9, -⟩ := hnx _ _ hp9; cases hk9)
    obtain ⟨b9, hb9, hR⟩ := hnx _ _ hp9
    cases hb9
    have hI2 := lwR_I hR
    obtain ⟨sp, al, fi, n, ga, gf, pl, fs, pa, pb, pc, pd, sk, po, gs, so, wo, wd, ht, px, py, pz, pw, nm, fr, hs, va, tp, dn, g, nf, ff, hf, vf, tf, df, fo, hXw, hMw, hou, hT, hwd, hbo⟩ := hR
    refine W.eq (g2 := F0 m 280 ls [.int b9]) rfl ?_
    refine W.widen (k := 100 + 20 * k + 1) (n := 1000 + 100 * k + 6) (by show 100 + 20 * k + 1 + 0 ≤ 100 + 20 * k + 1; omega) (by show 1000 + 100 * k + 6 + 0 ≤ 1000 + 100 * k + 6; omega) ?_
    refine lv_istore (lv' := [(6, .int b9), (5, .int k9), (0, .ref b), (1, .ref x), (2, .ref mo), (3, .ref ou), (4, .int (nI (5 * k)))]) hx hb d_La_law_280 hl (by decide) rfl (fun ls hl => ?_)
    refine lv_aload_n hx hb d_La_law_282 rfl (lv_at hl 4 rfl) ?_
    refine gh_cV (ci := 5) (As := []) (rest := []) (xF_ok b0) hx hb hml hown hK hX hG rfl hMw.1 (c_Mo_thrown hMw) (q_Mo_thrown htb ⟨by decide, by decide⟩) (htb _ k_3_11) (htb _ k_3_12) (htb _ k_3_13) rfl hl.1 rfl (Nat.le_of_ble_eq_true rfl) d_La_law_283 ⟨by show 100 + 20 * k + 1 + 0 ≤ 601024; omega, by show 1000 + 100 * k + 6 + 0 ≤ 7293034; omega⟩ (fun v9 h9 H l9 hp9 hG => ?_) (fun _ _ _ _ hp9 _ => by cases hp9.1)
    obtain ⟨hv9, hh9⟩ := hp9
    cases hv9
    rw [hh9] at hG
    refine W.eq (g2 := F0 m 286 ls [.int k9]) rfl ?_
    refine W.widen (k := 100 + 20 * k + 1) (n := 1000 + 100 * k + 6) (by show 100 + 20 * k + 1 + 0 ≤ 100 + 20 * k + 1; omega) (by show 1000 + 100 * k + 6 + 0 ≤ 1000 + 100 * k + 6; omega) ?_
    refine lv_iload hx hb d_La_law_286 (lv_at hl 1 rfl) ?_
    refine lv_icmp_eq (tgt := 293) hx hb d_La_law_288 (by decide) (fun hc288 => ?_) (fun hc => absurd rfl hc)
    refine lv_iload hx hb d_La_law_293 (lv_at hl 1 rfl) ?_
    refine lv_if_ne (tgt := 310) hx hb d_La_law_295 (by decide) (fun hc295 => ?_) (fun hc295 => ?_)
    · skip
      refine lv_goto (tgt := 714) hx hb d_La_law_310 (by decide) ?_
      refine lv_iinc (k := 6) (v := nI (5 * (k + 1))) (lv' := [(4, .int (nI (5 * (k + 1)))), (6, .int b9), (5, .int k9), (0, .ref b), (1, .ref x), (2, .ref mo), (3, .ref ou)]) hx hb d_La_law_714 hl rfl (nI_add (5 * k) 5) (by decide) rfl (fun ls hl => ?_)
      refine lv_goto (tgt := 23) hx hb d_La_law_717 (by decide) ?_
      refine W.widen (k := 100 + 20 * (k + 1)) (n := 1000 + 100 * (k + 1)) (by omega) (by omega) ?_
      exact ih (hC, k9) ls H l9 (by omega) ⟨hI2, (lv_sub hl [3, 4, 5, 6, 0] rfl), hG⟩
    · skip
      refine lv_aload_n hx hb d_La_law_298 rfl (lv_at hl 5 rfl) ?_
      refine lv_iconst (v := 0) hx hb d_La_law_299 (by decide) ?_
      refine gh_lald (v := fo 0) hx hb hK hG 1 hou rfl (vp_in_nI (n := 0) (by decide) (by decide)) rfl d_La_law_300 ?_
      refine lv_iload hx hb d_La_law_301 (lv_at hl 0 rfl) ?_
      refine lv_i2l (v := Int32.toInt64 b9) hx hb d_La_law_303 rfl ?_
      refine W.lcmp hx hb d_La_law_304 ?_
      refine lv_if_eq (tgt := 310) hx hb d_La_law_305 (by decide) (fun hc305 => ?_) (fun hc => absurd ((lg_cmp_eq _ _).mpr (hbo hc295)) hc)
      refine lv_goto (tgt := 714) hx hb d_La_law_310 (by decide) ?_
      refine lv_iinc (k := 6) (v := nI (5 * (k + 1))) (lv' := [(4, .int (nI (5 * (k + 1)))), (6, .int b9), (5, .int k9), (0, .ref b), (1, .ref x), (2, .ref mo), (3, .ref ou)]) hx hb d_La_law_714 hl rfl (nI_add (5 * k) 5) (by decide) rfl (fun ls hl => ?_)
      refine lv_goto (tgt := 23) hx hb d_La_law_717 (by decide) ?_
      refine W.widen (k := 100 + 20 * (k + 1)) (n := 1000 + 100 * (k + 1)) (by omega) (by omega) ?_
      exact ih (hC, k9) ls H l9 (by omega) ⟨hI2, (lv_sub hl [3, 4, 5, 6, 0] rfl), hG⟩
  · skip
    refine lv_tableIn (tgt := 313) (off := 274) hx hb d_La_law_39 (by decide) (by decide) rfl (by decide) ?_
    obtain ⟨sp, al, fi, n, ga, gf, pl, fs, pa, pb, pc, pd, sk, po, gs, so, wo, wd, ht, px, py, pz, pw, nm, fr, hs, va, tp, dn, g, nf, ff, hf, vf, tf, df, fo, hXw, hMw, hou, hT, hwd⟩ := hI0
    obtain ⟨⟨hsp, hal, hfi, hga, hgf, hfs, hpl, hn14⟩, h6, hxx, hsk, hgs, hpo, hso, hwo, hwi, hht⟩ := id hXw
    have hn6 := hT.1
    refine lv_aload_n hx hb d_La_law_313 rfl (lv_at hl 1 rfl) ?_
    refine gh_cS (As := [.ref x]) (rest := []) (xF_ok b0) hx hb hml hown hK hX hG (c_La_turn hxx (c_X_turn hsp hal hfi hga hgf hfs hpl hn14 h6 hxx hsk hgs hpo hso hwo hwi hht htr) (o_turn hXw hMw hou hT hwd).1 (o_turn hXw hMw hou hT hwd).2) (q_La_turn htb ⟨by decide, by decide⟩) (htb _ k_2_32) (htb _ k_2_33) rfl hl.1 rfl (Nat.le_of_ble_eq_true rfl) d_La_law_314 ⟨by show 100 + 20 * k + 1 ≤ 601024; omega, by show 1000 + 100 * k + 6 ≤ 7293034; omega⟩ (fun v9 hB H l9 hp9 hG => ?_) (fun x9 h9 H l9 hp9 hG => by obtain ⟨k9, hk9, -⟩ := s_turn hXw hMw hou hT hwd hp9; cases hk9)
    obtain ⟨k9, hk9, hM1, hnx⟩ := s_turn hXw hMw hou hT hwd hp9
    cases hk9
    refine W.eq (g2 := F0 m 317 ls [.int k9]) rfl ?_
    refine W.widen (k := 100 + 20 * k + 1) (n := 1000 + 100 * k + 6) (by show 100 + 20 * k + 1 ≤ 100 + 20 * k + 1; omega) (by show 1000 + 100 * k + 6 ≤ 1000 + 100 * k + 6; omega) ?_
    refine lv_istore (lv' := [(5, .int k9), (0, .ref b), (1, .ref x), (2, .ref mo), (3, .ref ou), (4, .int (nI (5 * k)))]) hx hb d_La_law_317 hl (by decide) rfl (fun ls hl => ?_)
    refine lv_aload_n hx hb d_La_law_319 rfl (lv_at hl 3 rfl) ?_
    refine gh_cV (ci := 5) (As := []) (rest := []) (xF_ok b0) hx hb hml hown hK hX hG rfl hM1.1 (c_Mo_turn hM1) (q_Mo_turn htb ⟨by decide, by decide⟩) (htb _ k_3_37) (htb _ k_3_38) (htb _ k_3_39) rfl hl.1 rfl (Nat.le_of_ble_eq_true rfl) d_La_law_320 ⟨by show 100 + 20 * k + 1 + 0 ≤ 601024; omega, by show 1000 + 100 * k + 6 + 0 ≤ 7293034; omega⟩ (fun v9 hC H l9 hp9 hG => ?_) (fun x9 h9 H l9 hp9 hG => by cases (hnx _ _ hp9).1)
    obtain ⟨hb9, hI2⟩ := hnx _ _ hp9
    cases hb9
    obtain ⟨sp, al, fi, n, ga, gf, pl, fs, pa, pb, pc, pd, sk, po, gs, so, wo, wd, ht, px, py, pz, pw, nm, fr, hs, va, tp, dn, g, nf, ff, hf, vf, tf, df, fo, hXw, hMw, hou, hT, hwd⟩ := id hI2
    refine W.eq (g2 := F0 m 323 ls []) rfl ?_
    refine W.widen (k := 100 + 20 * k + 1) (n := 1000 + 100 * k + 6) (by show 100 + 20 * k + 1 + 0 ≤ 100 + 20 * k + 1; omega) (by show 1000 + 100 * k + 6 + 0 ≤ 1000 + 100 * k + 6; omega) ?_
    refine lv_aload_n hx hb d_La_law_323 rfl (lv_at hl 3 rfl) ?_
    refine gh_cV (ci := 5) (As := []) (rest := []) (xF_ok b0) hx hb hml hown hK hX hG rfl hMw.1 (c_Mo_thrown hMw) (q_Mo_thrown htb ⟨by decide, by decide⟩) (htb _ k_3_11) (htb _ k_3_12) (htb _ k_3_13) rfl hl.1 rfl (Nat.le_of_ble_eq_true rfl) d_La_law_324 ⟨by show 100 + 20 * k + 1 + 0 ≤ 601024; omega, by show 1000 + 100 * k + 6 + 0 ≤ 7293034; omega⟩ (fun v9 h9 H l9 hp9 hG => ?_) (fun _ _ _ _ hp9 _ => by cases hp9.1)
    obtain ⟨hv9, hh9⟩ := hp9
    cases hv9
    rw [hh9] at hG
    refine W.eq (g2 := F0 m 327 ls [.int k9]) rfl ?_
    refine W.widen (k := 100 + 20 * k + 1) (n := 1000 + 100 * k + 6) (by show 100 + 20 * k + 1 + 0 ≤ 100 + 20 * k + 1; omega) (by show 1000 + 100 * k + 6 + 0 ≤ 1000 + 100 * k + 6; omega) ?_
    refine lv_iload hx hb d_La_law_327 (lv_at hl 0 rfl) ?_
    refine lv_icmp_eq (tgt := 334) hx hb d_La_law_329 (by decide) (fun hc329 => ?_) (fun hc => absurd rfl hc)
    refine lv_goto (tgt := 714) hx hb d_La_law_334 (by decide) ?_
    refine lv_iinc (k := 5) (v := nI (5 * (k + 1))) (lv' := [(4, .int (nI (5 * (k + 1)))), (5, .int k9), (0, .ref b), (1, .ref x), (2, .ref mo), (3, .ref ou)]) hx hb d_La_law_714 hl rfl (nI_add (5 * k) 5) (by decide) rfl (fun ls hl => ?_)
    refine lv_goto (tgt := 23) hx hb d_La_law_717 (by decide) ?_
    refine W.widen (k := 100 + 20 * (k + 1)) (n := 1000 + 100 * (k + 1)) (by omega) (by omega) ?_
    exact ih (hC, k9) ls H l9 (by omega) ⟨hI2, (lv_sub hl [2, 3, 4, 5, 0] rfl), hG⟩
  · skip
    refine lv_tableIn (tgt := 337) (off := 298) hx hb d_La_law_39 (by decide) (by decide) rfl (by decide) ?_
    obtain ⟨sp, al, fi, n, ga, gf, pl, fs, pa, pb, pc, pd, sk, po, gs, so, wo, wd, ht, px, py, pz, pw, nm, fr, hs, va, tp, dn, g, nf, ff, hf, vf, tf, df, fo, hXw, hMw, hou, hT, hwd⟩ := hI0
    obtain ⟨⟨hsp, hal, hfi, hga, hgf, hfs, hpl, hn14⟩, h6, hxx, hsk, hgs, hpo, hso, hwo, hwi, hht⟩ := id hXw
    have hn6 := hT.1
    refine lv_aload_n hx hb d_La_law_337 rfl (lv_at hl 1 rfl) ?_
    refine lv_aload_n hx hb d_La_law_338 rfl (lv_at hl 0 rfl) ?_
    refine lv_iload hx hb d_La_law_339 (lv_at hl 4 rfl) ?_
    refine lv_iconst (v := 1) hx hb d_La_law_341 (by decide) ?_
    refine lv_iadd hx hb d_La_law_342 ?_
    rw [show (nI (5 * k)) + 1 = nI ((5 * k) + 1) from nI_add (5 * k) 1]
    refine va_sld (A := fun q => b0 ≤ q) hx hb hscr hbl (Nat.not_le.mpr hbb) (gh_S hG) (vp_in_nI (by omega) (by omega)) d_La_law_343 ?_
    rw [nI_clamp (by omega)]
    refine lv_aload_n hx hb d_La_law_344 rfl (lv_at hl 3 rfl) ?_
    refine gh_cS (As := [.ref x, .int (xs ((5 * k) + 1)), .ref ou]) (rest := []) (xF_ok b0) hx hb hml hown hK hX hG (c_La_copy hxx (c_X_copy hsp hal hfi hga hgf hfs hpl hn14 h6 hxx hsk hgs hpo hso hwo hwi hht htr) (o_copy hXw hMw hou hT hwd).1 (o_copy hXw hMw hou hT hwd).2) (q_La_copy htb ⟨by decide, by decide⟩) (htb _ k_2_48) (htb _ k_2_49) rfl hl.1 rfl (Nat.le_of_ble_eq_true rfl) d_La_law_345 ⟨by show 100 + 20 * k + 1 ≤ 601024; omega, by show 1000 + 100 * k + 6 ≤ 7293034; omega⟩ (fun v9 hB H l9 hp9 hG => ?_) (fun x9 h9 H l9 hp9 hG => by obtain ⟨k9, hk9, -⟩ := s_copy hXw hMw hou hT hwd hp9; cases hk9)
    obtain ⟨k9, hk9, hM1, hnx⟩ := s_copy hXw hMw hou hT hwd hp9
    cases hk9
    refine W.eq (g2 := F0 m 348 ls [.int k9]) rfl ?_
    refine W.widen (k := 100 + 20 * k + 1) (n := 1000 + 100 * k + 6) (by show 100 + 20 * k + 1 ≤ 100 + 20 * k + 1; omega) (by show 1000 + 100 * k + 6 ≤ 1000 + 100 * k + 6; omega) ?_
    refine lv_istore (lv' := [(5, .int k9), (0, .ref b), (1, .ref x), (2, .ref mo), (3, .ref ou), (4, .int (nI (5 * k)))]) hx hb d_La_law_348 hl (by decide) rfl (fun ls hl => ?_)
    refine lv_aload_n hx hb d_La_law_350 rfl (lv_at hl 3 rfl) ?_
    refine lv_aload_n hx hb d_La_law_351 rfl (lv_at hl 1 rfl) ?_
    refine lv_iload hx hb d_La_law_352 (lv_at hl 5 rfl) ?_
    refine lv_iconst (v := 1) hx hb d_La_law_354 (by decide) ?_
    refine lv_iadd hx hb d_La_law_355 ?_
    rw [show (nI (5 * k)) + 1 = nI ((5 * k) + 1) from nI_add (5 * k) 1]
    refine va_sld (A := fun q => b0 ≤ q) hx hb hscr hbl (Nat.not_le.mpr hbb) (gh_S hG) (vp_in_nI (by omega) (by omega)) d_La_law_356 ?_
    rw [nI_clamp (by omega)]
    refine gh_cV (ci := 5) (As := [.int (xs ((5 * k) + 1))]) (rest := []) (xF_ok b0) hx hb hml hown hK hX hG rfl hM1.1 (c_Mo_copy hM1) (q_Mo_copy htb ⟨by decide, by decide⟩) (htb _ k_3_41) (htb _ k_3_42) (htb _ k_3_43) rfl hl.1 rfl (Nat.le_of_ble_eq_true rfl) d_La_law_357 ⟨by show 100 + 20 * k + 1 + 0 ≤ 601024; omega, by show 1000 + 100 * k + 6 + 0 ≤ 7293034; omega⟩ (fun v9 hC H l9 hp9 hG => ?_) (fun x9 h9 H l9 hp9 hG => by obtain ⟨k9, hk9, -⟩ := hnx _ _ hp9; cases hk9)
    obtain ⟨b9, hb9, hR⟩ := hnx _ _ hp9
    cases hb9
    have hI2 := lwR_I hR
    obtain ⟨sp, al, fi, n, ga, gf, pl, fs, pa, pb, pc, pd, sk, po, gs, so, wo, wd, ht, px, py, pz, pw, nm, fr, hs, va, tp, dn, g, nf, ff, hf, vf, tf, df, fo, hXw, hMw, hou, hT, hwd, hbo⟩ := hR
    refine W.eq (g2 := F0 m 360 ls [.int b9]) rfl ?_
    refine W.widen (k := 100 + 20 * k + 1) (n := 1000 + 100 * k + 6) (by show 100 + 20 * k + 1 + 0 ≤ 100 + 20 * k + 1; omega) (by show 1000 + 100 * k + 6 + 0 ≤ 1000 + 100 * k + 6; omega) ?_
    refine lv_istore (lv' := [(6, .int b9), (5, .int k9), (0, .ref b), (1, .ref x), (2, .ref mo), (3, .ref ou), (4, .int (nI (5 * k)))]) hx hb d_La_law_360 hl (by decide) rfl (fun ls hl => ?_)
    refine lv_aload_n hx hb d_La_law_362 rfl (lv_at hl 4 rfl) ?_
    refine gh_cV (ci := 5) (As := []) (rest := []) (xF_ok b0) hx hb hml hown hK hX hG rfl hMw.1 (c_Mo_thrown hMw) (q_Mo_thrown htb ⟨by decide, by decide⟩) (htb _ k_3_11) (htb _ k_3_12) (htb _ k_3_13) rfl hl.1 rfl (Nat.le_of_ble_eq_true rfl) d_La_law_363 ⟨by show 100 + 20 * k + 1 + 0 ≤ 601024; omega, by show 1000 + 100 * k + 6 + 0 ≤ 7293034; omega⟩ (fun v9 h9 H l9 hp9 hG => ?_) (fun _ _ _ _ hp9 _ => by cases hp9.1)
    obtain ⟨hv9, hh9⟩ := hp9
    cases hv9
    rw [hh9] at hG
    refine W.eq (g2 := F0 m 366 ls [.int k9]) rfl ?_
    refine W.widen (k := 100 + 20 * k + 1) (n := 1000 + 100 * k + 6) (by show 100 + 20 * k + 1 + 0 ≤ 100 + 20 * k + 1; omega) (by show 1000 + 100 * k + 6 + 0 ≤ 1000 + 100 * k + 6; omega) ?_
    refine lv_iload hx hb d_La_law_366 (lv_at hl 1 rfl) ?_
    refine lv_icmp_eq (tgt := 373) hx hb d_La_law_368 (by decide) (fun hc368 => ?_) (fun hc => absurd rfl hc)
    refine lv_iload hx hb d_La_law_373 (lv_at hl 1 rfl) ?_
    refine lv_if_ne (tgt := 390) hx hb d_La_law_375 (by decide) (fun hc375 => ?_) (fun hc375 => ?_)
    · skip
      refine lv_goto (tgt := 714) hx hb d_La_law_390 (by decide) ?_
      refine lv_iinc (k := 6) (v := nI (5 * (k + 1))) (lv' := [(4, .int (nI (5 * (k + 1)))), (6, .int b9), (5, .int k9), (0, .ref b), (1, .ref x), (2, .ref mo), (3, .ref ou)]) hx hb d_La_law_714 hl rfl (nI_add (5 * k) 5) (by decide) rfl (fun ls hl => ?_)
      refine lv_goto (tgt := 23) hx hb d_La_law_717 (by decide) ?_
      refine W.widen (k := 100 + 20 * (k + 1)) (n := 1000 + 100 * (k + 1)) (by omega) (by omega) ?_
      exact ih (hC, k9) ls H l9 (by omega) ⟨hI2, (lv_sub hl [3, 4, 5, 6, 0] rfl), hG⟩
    · skip
      refine lv_aload_n hx hb d_La_law_378 rfl (lv_at hl 5 rfl) ?_
      refine lv_iconst (v := 0) hx hb d_La_law_379 (by decide) ?_
      refine gh_lald (v := fo 0) hx hb hK hG 1 hou rfl (vp_in_nI (n := 0) (by decide) (by decide)) rfl d_La_law_380 ?_
      refine lv_iload hx hb d_La_law_381 (lv_at hl 0 rfl) ?_
      refine lv_i2l (v := Int32.toInt64 b9) hx hb d_La_law_383 rfl ?_
      refine W.lcmp hx hb d_La_law_384 ?_
      refine lv_if_eq (tgt := 390) hx hb d_La_law_385 (by decide) (fun hc385 => ?_) (fun hc => absurd ((lg_cmp_eq _ _).mpr (hbo hc375)) hc)
      refine lv_goto (tgt := 714) hx hb d_La_law_390 (by decide) ?_
      refine lv_iinc (k := 6) (v := nI (5 * (k + 1))) (lv' := [(4, .int (nI (5 * (k + 1)))), (6, .int b9), (5, .int k9), (0, .ref b), (1, .ref x), (2, .ref mo), (3, .ref ou)]) hx hb d_La_law_714 hl rfl (nI_add (5 * k) 5) (by decide) rfl (fun ls hl => ?_)
      refine lv_goto (tgt := 23) hx hb d_La_law_717 (by decide) ?_
      refine W.widen (k := 100 + 20 * (k + 1)) (n := 1000 + 100 * (k + 1)) (by omega) (by omega) ?_
      exact ih (hC, k9) ls H l9 (by omega) ⟨hI2, (lv_sub hl [3, 4, 5, 6, 0] rfl), hG⟩
  · skip
    refine lv_tableIn (tgt := 393) (off := 354) hx hb d_La_law_39 (by decide) (by decide) rfl (by decide) ?_
    obtain ⟨sp, al, fi, n, ga, gf, pl, fs, pa, pb, pc, pd, sk, po, gs, so, wo, wd, ht, px, py, pz, pw, nm, fr, hs, va, tp, dn, g, nf, ff, hf, vf, tf, df, fo, hXw, hMw, hou, hT, hwd⟩ := hI0
    obtain ⟨⟨hsp, hal, hfi, hga, hgf, hfs, hpl, hn14⟩, h6, hxx, hsk, hgs, hpo, hso, hwo, hwi, hht⟩ := id hXw
    have hn6 := hT.1
    refine lv_aload_n hx hb d_La_law_393 rfl (lv_at hl 1 rfl) ?_
    refine lv_aload_n hx hb d_La_law_394 rfl (lv_at hl 3 rfl) ?_
    refine gh_cS (As := [.ref x, .ref ou]) (rest := []) (xF_ok b0) hx hb hml hown hK hX hG (c_La_drop hxx (c_X_drop hsp hal hfi hga hgf hfs hpl hn14 h6 hxx hsk hgs hpo hso hwo hwi hht htr) (o_drop hXw hMw hou hT hwd).1 (o_drop hXw hMw hou hT hwd).2) (q_La_drop htb ⟨by decide, by decide⟩) (htb _ k_2_76) (htb _ k_2_77) rfl hl.1 rfl (Nat.le_of_ble_eq_true rfl) d_La_law_395 ⟨by show 100 + 20 * k + 1 ≤ 601024; omega, by show 1000 + 100 * k + 6 ≤ 7293034; omega⟩ (fun v9 hB H l9 hp9 hG => ?_) (fun x9 h9 H l9 hp9 hG => by obtain ⟨k9, hk9, -⟩ := s_drop hXw hMw hou hT hwd hp9; cases hk9)
    obtain ⟨k9, hk9, hM1, hnx⟩ := s_drop hXw hMw hou hT hwd hp9
    cases hk9
    refine W.eq (g2 := F0 m 398 ls [.int k9]) rfl ?_
    refine W.widen (k := 100 + 20 * k + 1) (n := 1000 + 100 * k + 6) (by show 100 + 20 * k + 1 ≤ 100 + 20 * k + 1; omega) (by show 1000 + 100 * k + 6 ≤ 1000 + 100 * k + 6; omega) ?_
    refine lv_istore (lv' := [(5, .int k9), (0, .ref b), (1, .ref x), (2, .ref mo), (3, .ref ou), (4, .int (nI (5 * k)))]) hx hb d_La_law_398 hl (by decide) rfl (fun ls hl => ?_)
    refine lv_aload_n hx hb d_La_law_400 rfl (lv_at hl 3 rfl) ?_
    refine gh_cV (ci := 5) (As := []) (rest := []) (xF_ok b0) hx hb hml hown hK hX hG rfl hM1.1 (c_Mo_drop hM1) (q_Mo_drop htb ⟨by decide, by decide⟩) (htb _ k_3_45) (htb _ k_3_46) (htb _ k_3_47) rfl hl.1 rfl (Nat.le_of_ble_eq_true rfl) d_La_law_401 ⟨by show 100 + 20 * k + 1 + 0 ≤ 601024; omega, by show 1000 + 100 * k + 6 + 0 ≤ 7293034; omega⟩ (fun v9 hC H l9 hp9 hG => ?_) (fun x9 h9 H l9 hp9 hG => by obtain ⟨k9, hk9, -⟩ := hnx _ _ hp9; cases hk9)
    obtain ⟨b9, hb9, hR⟩ := hnx _ _ hp9
    cases hb9
    have hI2 := lwR_I hR
    obtain ⟨sp, al, fi, n, ga, gf, pl, fs, pa, pb, pc, pd, sk, po, gs, so, wo, wd, ht, px, py, pz, pw, nm, fr, hs, va, tp, dn, g, nf, ff, hf, vf, tf, df, fo, hXw, hMw, hou, hT, hwd, hbo⟩ := hR
    refine W.eq (g2 := F0 m 404 ls [.int b9]) rfl ?_
    refine W.widen (k := 100 + 20 * k + 1) (n := 1000 + 100 * k + 6) (by show 100 + 20 * k + 1 + 0 ≤ 100 + 20 * k + 1; omega) (by show 1000 + 100 * k + 6 + 0 ≤ 1000 + 100 * k + 6; omega) ?_
    refine lv_istore (lv' := [(6, .int b9), (5, .int k9), (0, .ref b), (1, .ref x), (2, .ref mo), (3, .ref ou), (4, .int (nI (5 * k)))]) hx hb d_La_law_404 hl (by decide) rfl (fun ls hl => ?_)
    refine lv_aload_n hx hb d_La_law_406 rfl (lv_at hl 4 rfl) ?_
    refine gh_cV (ci := 5) (As := []) (rest := []) (xF_ok b0) hx hb hml hown hK hX hG rfl hMw.1 (c_Mo_thrown hMw) (q_Mo_thrown htb ⟨by decide, by decide⟩) (htb _ k_3_11) (htb _ k_3_12) (htb _ k_3_13) rfl hl.1 rfl (Nat.le_of_ble_eq_true rfl) d_La_law_407 ⟨by show 100 + 20 * k + 1 + 0 ≤ 601024; omega, by show 1000 + 100 * k + 6 + 0 ≤ 7293034; omega⟩ (fun v9 h9 H l9 hp9 hG => ?_) (fun _ _ _ _ hp9 _ => by cases hp9.1)
    obtain ⟨hv9, hh9⟩ := hp9
    cases hv9
    rw [hh9] at hG
    refine W.eq (g2 := F0 m 410 ls [.int k9]) rfl ?_
    refine W.widen (k := 100 + 20 * k + 1) (n := 1000 + 100 * k + 6) (by show 100 + 20 * k + 1 + 0 ≤ 100 + 20 * k + 1; omega) (by show 1000 + 100 * k + 6 + 0 ≤ 1000 + 100 * k + 6; omega) ?_
    refine lv_iload hx hb d_La_law_410 (lv_at hl 1 rfl) ?_
    refine lv_icmp_eq (tgt := 417) hx hb d_La_law_412 (by decide) (fun hc412 => ?_) (fun hc => absurd rfl hc)
    refine lv_iload hx hb d_La_law_417 (lv_at hl 1 rfl) ?_
    refine lv_if_ne (tgt := 434) hx hb d_La_law_419 (by decide) (fun hc419 => ?_) (fun hc419 => ?_)
    · skip
      refine lv_goto (tgt := 714) hx hb d_La_law_434 (by decide) ?_
      refine lv_iinc (k := 6) (v := nI (5 * (k + 1))) (lv' := [(4, .int (nI (5 * (k + 1)))), (6, .int b9), (5, .int k9), (0, .ref b), (1, .ref x), (2, .ref mo), (3, .ref ou)]) hx hb d_La_law_714 hl rfl (nI_add (5 * k) 5) (by decide) rfl (fun ls hl => ?_)
      refine lv_goto (tgt := 23) hx hb d_La_law_717 (by decide) ?_
      refine W.widen (k := 100 + 20 * (k + 1)) (n := 1000 + 100 * (k + 1)) (by omega) (by omega) ?_
      exact ih (hC, k9) ls H l9 (by omega) ⟨hI2, (lv_sub hl [3, 4, 5, 6, 0] rfl), hG⟩
    · skip
      refine lv_aload_n hx hb d_La_law_422 rfl (lv_at hl 5 rfl) ?_
      refine lv_iconst (v := 0) hx hb d_La_law_423 (by decide) ?_
      refine gh_lald (v := fo 0) hx hb hK hG 1 hou rfl (vp_in_nI (n := 0) (by decide) (by decide)) rfl d_La_law_424 ?_
      refine lv_iload hx hb d_La_law_425 (lv_at hl 0 rfl) ?_
      refine lv_i2l (v := Int32.toInt64 b9) hx hb d_La_law_427 rfl ?_
      refine W.lcmp hx hb d_La_law_428 ?_
      refine lv_if_eq (tgt := 434) hx hb d_La_law_429 (by decide) (fun hc429 => ?_) (fun hc => absurd ((lg_cmp_eq _ _).mpr (hbo hc419)) hc)
      refine lv_goto (tgt := 714) hx hb d_La_law_434 (by decide) ?_
      refine lv_iinc (k := 6) (v := nI (5 * (k + 1))) (lv' := [(4, .int (nI (5 * (k + 1)))), (6, .int b9), (5, .int k9), (0, .ref b), (1, .ref x), (2, .ref mo), (3, .ref ou)]) hx hb d_La_law_714 hl rfl (nI_add (5 * k) 5) (by decide) rfl (fun ls hl => ?_)
      refine lv_goto (tgt := 23) hx hb d_La_law_717 (by decide) ?_
      refine W.widen (k := 100 + 20 * (k + 1)) (n := 1000 + 100 * (k + 1)) (by omega) (by omega) ?_
      exact ih (hC, k9) ls H l9 (by omega) ⟨hI2, (lv_sub hl [3, 4, 5, 6, 0] rfl), hG⟩
  · skip
    refine lv_tableIn (tgt := 437) (off := 398) hx hb d_La_law_39 (by decide) (by decide) rfl (by decide) ?_
    obtain ⟨sp, al, fi, n, ga, gf, pl, fs, pa, pb, pc, pd, sk, po, gs, so, wo, wd, ht, px, py, pz, pw, nm, fr, hs, va, tp, dn, g, nf, ff, hf, vf, tf, df, fo, hXw, hMw, hou, hT, hwd⟩ := hI0
    obtain ⟨⟨hsp, hal, hfi, hga, hgf, hfs, hpl, hn14⟩, h6, hxx, hsk, hgs, hpo, hso, hwo, hwi, hht⟩ := id hXw
    have hn6 := hT.1
    refine lv_aload_n hx hb d_La_law_437 rfl (lv_at hl 1 rfl) ?_
    refine gh_cV (ci := 0) (As := []) (rest := []) (xF_ok b0) hx hb hml hown hK hX hG rfl hxx (c_X_solids hsp hal hfi hga hgf hfs hpl hn14 h6 hxx hsk hgs hpo hso hwo hwi hht) (q_X_solids htb ⟨by decide, by decide⟩) (htb _ k_1_130) (htb _ k_1_131) (htb _ k_1_132) rfl hl.1 rfl (Nat.le_of_ble_eq_true rfl) d_La_law_438 ⟨by show 100 + 20 * k + 0 ≤ 601024; omega, by show 1000 + 100 * k + 0 ≤ 7293034; omega⟩ (fun v9 h9 H l9 hp9 hG => ?_) (fun _ _ _ _ hp9 _ => by cases hp9.1)
    obtain ⟨hv9, hh9⟩ := hp9
    cases hv9
    rw [hh9] at hG
    refine W.eq (g2 := F0 m 441 ls [.int (nI ht)]) rfl ?_
    refine W.widen (k := 100 + 20 * k) (n := 1000 + 100 * k) (by show 100 + 20 * k + 0 ≤ 100 + 20 * k; omega) (by show 1000 + 100 * k + 0 ≤ 1000 + 100 * k; omega) ?_
    refine lv_aload_n hx hb d_La_law_441 rfl (lv_at hl 2 rfl) ?_
    refine gh_cV (ci := 5) (As := []) (rest := [.int (nI ht)]) (xF_ok b0) hx hb hml hown hK hX hG rfl hMw.1 (c_Mo_solids hMw) (q_Mo_solids htb ⟨by decide, by decide⟩) (htb _ k_3_49) (htb _ k_3_50) (htb _ k_3_51) rfl hl.1 rfl (Nat.le_of_ble_eq_true rfl) d_La_law_442 ⟨by show 100 + 20 * k + 0 ≤ 601024; omega, by show 1000 + 100 * k + 0 ≤ 7293034; omega⟩ (fun v9 hC H l9 hp9 hG => ?_) (fun _ _ _ _ hp9 _ => by cases hp9.1)
    obtain ⟨hv9, w9, f9⟩ := hp9
    cases hv9
    have hI2 : lwI cI cJ cP cS hC x mo ou 0 := ⟨_, _, _, _, _, _, _, _, _, _, _, _, _, _, _, _, _, _, _, _, _, _, _, _, _, _, _, _, _, _, _, _, _, _, _, _, _, wX_frM f9 hXw, w9, f9 ou _ hou rfl, hT, hwd⟩
    refine W.eq (g2 := F0 m 445 ls [.int (nI ht), .int (nI ht)]) rfl ?_
    refine W.widen (k := 100 + 20 * k) (n := 1000 + 100 * k) (by show 100 + 20 * k + 0 ≤ 100 + 20 * k; omega) (by show 1000 + 100 * k + 0 ≤ 1000 + 100 * k; omega) ?_
    refine lv_icmp_eq (tgt := 714) hx hb d_La_law_445 (by decide) (fun hc445 => ?_) (fun hc => absurd rfl hc)
    refine lv_iinc (k := 4) (v := nI (5 * (k + 1))) (lv' := [(4, .int (nI (5 * (k + 1)))), (0, .ref b), (1, .ref x), (2, .ref mo), (3, .ref ou)]) hx hb d_La_law_714 hl rfl (nI_add (5 * k) 5) (by decide) rfl (fun ls hl => ?_)
    refine lv_goto (tgt := 23) hx hb d_La_law_717 (by decide) ?_
    refine W.widen (k := 100 + 20 * (k + 1)) (n := 1000 + 100 * (k + 1)) (by omega) (by omega) ?_
    exact ih (hC, 0) ls H l9 (by omega) ⟨hI2, (lv_sub hl [1, 2, 3, 4, 0] rfl), hG⟩
  · skip
    refine lv_tableIn (tgt := 450) (off := 411) hx hb d_La_law_39 (by decide) (by decide) rfl (by decide) ?_
    obtain ⟨sp, al, fi, n, ga, gf, pl, fs, pa, pb, pc, pd, sk, po, gs, so, wo, wd, ht, px, py, pz, pw, nm, fr, hs, va, tp, dn, g, nf, ff, hf, vf, tf, df, fo, hXw, hMw, hou, hT, hwd⟩ := hI0
    obtain ⟨⟨hsp, hal, hfi, hga, hgf, hfs, hpl, hn14⟩, h6, hxx, hsk, hgs, hpo, hso, hwo, hwi, hht⟩ := id hXw
    have hn6 := hT.1
    refine lv_aload_n hx hb d_La_law_450 rfl (lv_at hl 1 rfl) ?_
    refine lv_aload_n hx hb d_La_law_451 rfl (lv_at hl 0 rfl) ?_
    refine lv_iload hx hb d_La_law_452 (lv_at hl 4 rfl) ?_
    refine lv_iconst (v := 1) hx hb d_La_law_454 (by decide) ?_
    refine lv_iadd hx hb d_La_law_455 ?_
    rw [show (nI (5 * k)) + 1 = nI ((5 * k) + 1) from nI_add (5 * k) 1]
    refine va_sld (A := fun q => b0 ≤ q) hx hb hscr hbl (Nat.not_le.mpr hbb) (gh_S hG) (vp_in_nI (by omega) (by omega)) d_La_law_456 ?_
    rw [nI_clamp (by omega)]
    refine lv_aload_n hx hb d_La_law_457 rfl (lv_at hl 0 rfl) ?_
    refine lv_iload hx hb d_La_law_458 (lv_at hl 4 rfl) ?_
    refine lv_iconst (v := 2) hx hb d_La_law_460 (by decide) ?_
    refine lv_iadd hx hb d_La_law_461 ?_
    rw [show (nI (5 * k)) + 2 = nI ((5 * k) + 2) from nI_add (5 * k) 2]
    refine va_sld (A := fun q => b0 ≤ q) hx hb hscr hbl (Nat.not_le.mpr hbb) (gh_S hG) (vp_in_nI (by omega) (by omega)) d_La_law_462 ?_
    rw [nI_clamp (by omega)]
    refine lv_aload_n hx hb d_La_law_463 rfl (lv_at hl 0 rfl) ?_
    refine lv_iload hx hb d_La_law_464 (lv_at hl 4 rfl) ?_
    refine lv_iconst (v := 3) hx hb d_La_law_466 (by decide) ?_
    refine lv_iadd hx hb d_La_law_467 ?_
    rw [show (nI (5 * k)) + 3 = nI ((5 * k) + 3) from nI_add (5 * k) 3]
    refine va_sld (A := fun q => b0 ≤ q) hx hb hscr hbl (Nat.not_le.mpr hbb) (gh_S hG) (vp_in_nI (by omega) (by omega)) d_La_law_468 ?_
    rw [nI_clamp (by omega)]
    refine lv_aload_n hx hb d_La_law_469 rfl (lv_at hl 0 rfl) ?_
    refine lv_iload hx hb d_La_law_470 (lv_at hl 4 rfl) ?_
    refine lv_iconst (v := 4) hx hb d_La_law_472 (by decide) ?_
    refine lv_iadd hx hb d_La_law_473 ?_
    rw [show (nI (5 * k)) + 4 = nI ((5 * k) + 4) from nI_add (5 * k) 4]
    refine va_sld (A := fun q => b0 ≤ q) hx hb hscr hbl (Nat.not_le.mpr hbb) (gh_S hG) (vp_in_nI (by omega) (by omega)) d_La_law_474 ?_
    rw [nI_clamp (by omega)]
    refine lv_aload_n hx hb d_La_law_475 rfl (lv_at hl 3 rfl) ?_
    refine gh_cS (As := [.ref x, .int (xs ((5 * k) + 1)), .int (xs ((5 * k) + 2)), .int (xs ((5 * k) + 3)), .int (xs ((5 * k) + 4)), .ref ou]) (rest := []) (xF_ok b0) hx hb hml hown hK hX hG (c_La_inside hxx (c_X_inside hsp hal hfi hga hgf hfs hpl hn14 h6 hxx hsk hgs hpo hso hwo hwi hht htr) (o_inside hXw hMw hou hT hwd).1 (o_inside hXw hMw hou hT hwd).2) (q_La_inside htb ⟨by decide, by decide⟩) (htb _ k_2_83) (htb _ k_2_84) rfl hl.1 rfl (Nat.le_of_ble_eq_true rfl) d_La_law_476 ⟨by show 100 + 20 * k + 2 ≤ 601024; omega, by show 1000 + 100 * k + 12 ≤ 7293034; omega⟩ (fun v9 hB H l9 hp9 hG => ?_) (fun x9 h9 H l9 hp9 hG => by obtain ⟨k9, hk9, -⟩ := s_inside hXw hMw hou hT hwd hp9; cases hk9)
    obtain ⟨k9, hk9, hM1, hnx⟩ := s_inside hXw hMw hou hT hwd hp9
    cases hk9
    refine W.eq (g2 := F0 m 479 ls [.int k9]) rfl ?_
    refine W.widen (k := 100 + 20 * k + 2) (n := 1000 + 100 * k + 12) (by show 100 + 20 * k + 2 ≤ 100 + 20 * k + 2; omega) (by show 1000 + 100 * k + 12 ≤ 1000 + 100 * k + 12; omega) ?_
    refine lv_istore (lv' := [(5, .int k9), (0, .ref b), (1, .ref x), (2, .ref mo), (3, .ref ou), (4, .int (nI (5 * k)))]) hx hb d_La_law_479 hl (by decide) rfl (fun ls hl => ?_)
    refine lv_aload_n hx hb d_La_law_481 rfl (lv_at hl 3 rfl) ?_
    refine lv_aload_n hx hb d_La_law_482 rfl (lv_at hl 1 rfl) ?_
    refine lv_iload hx hb d_La_law_483 (lv_at hl 5 rfl) ?_
    refine lv_iconst (v := 1) hx hb d_La_law_485 (by decide) ?_
    refine lv_iadd hx hb d_La_law_486 ?_
    rw [show (nI (5 * k)) + 1 = nI ((5 * k) + 1) from nI_add (5 * k) 1]
    refine va_sld (A := fun q => b0 ≤ q) hx hb hscr hbl (Nat.not_le.mpr hbb) (gh_S hG) (vp_in_nI (by omega) (by omega)) d_La_law_487 ?_
    rw [nI_clamp (by omega)]
    refine lv_aload_n hx hb d_La_law_488 rfl (lv_at hl 1 rfl) ?_
    refine lv_iload hx hb d_La_law_489 (lv_at hl 5 rfl) ?_
    refine lv_iconst (v := 2) hx hb d_La_law_491 (by decide) ?_
    refine lv_iadd hx hb d_La_law_492 ?_
    rw [show (nI (5 * k)) + 2 = nI ((5 * k) + 2) from nI_add (5 * k) 2]
    refine va_sld (A := fun q => b0 ≤ q) hx hb hscr hbl (Nat.not_le.mpr hbb) (gh_S hG) (vp_in_nI (by omega) (by omega)) d_La_law_493 ?_
    rw [nI_clamp (by omega)]
    refine lv_aload_n hx hb d_La_law_494 rfl (lv_at hl 1 rfl) ?_
    refine lv_iload hx hb d_La_law_495 (lv_at hl 5 rfl) ?_
    refine lv_iconst (v := 3) hx hb d_La_law_497 (by decide) ?_
    refine lv_iadd hx hb d_La_law_498 ?_
    rw [show (nI (5 * k)) + 3 = nI ((5 * k) + 3) from nI_add (5 * k) 3]
    refine va_sld (A := fun q => b0 ≤ q) hx hb hscr hbl (Nat.not_le.mpr hbb) (gh_S hG) (vp_in_nI (by omega) (by omega)) d_La_law_499 ?_
    rw [nI_clamp (by omega)]
    refine lv_aload_n hx hb d_La_law_500 rfl (lv_at hl 1 rfl) ?_
    refine lv_iload hx hb d_La_law_501 (lv_at hl 5 rfl) ?_
    refine lv_iconst (v := 4) hx hb d_La_law_503 (by decide) ?_
    refine lv_iadd hx hb d_La_law_504 ?_
    rw [show (nI (5 * k)) + 4 = nI ((5 * k) + 4) from nI_add (5 * k) 4]
    refine va_sld (A := fun q => b0 ≤ q) hx hb hscr hbl (Nat.not_le.mpr hbb) (gh_S hG) (vp_in_nI (by omega) (by omega)) d_La_law_505 ?_
    rw [nI_clamp (by omega)]
    refine gh_cV (ci := 5) (As := [.int (xs ((5 * k) + 1)), .int (xs ((5 * k) + 2)), .int (xs ((5 * k) + 3)), .int (xs ((5 * k) + 4))]) (rest := []) (xF_ok b0) hx hb hml hown hK hX hG rfl hM1.1 (c_Mo_inside hM1) (q_Mo_inside htb ⟨by decide, by decide⟩) (htb _ k_3_53) (htb _ k_3_54) (htb _ k_3_55) rfl hl.1 rfl (Nat.le_of_ble_eq_true rfl) d_La_law_506 ⟨by show 100 + 20 * k + 2 + 0 ≤ 601024; omega, by show 1000 + 100 * k + 12 + 0 ≤ 7293034; omega⟩ (fun v9 hC H l9 hp9 hG => ?_) (fun x9 h9 H l9 hp9 hG => by obtain ⟨k9, hk9, -⟩ := hnx _ _ hp9; cases hk9)
    obtain ⟨b9, hb9, hR⟩ := hnx _ _ hp9
    cases hb9
    have hI2 := lwR_I hR
    obtain ⟨sp, al, fi, n, ga, gf, pl, fs, pa, pb, pc, pd, sk, po, gs, so, wo, wd, ht, px, py, pz, pw, nm, fr, hs, va, tp, dn, g, nf, ff, hf, vf, tf, df, fo, hXw, hMw, hou, hT, hwd, hbo⟩ := hR
    refine W.eq (g2 := F0 m 509 ls [.int b9]) rfl ?_
    refine W.widen (k := 100 + 20 * k + 2) (n := 1000 + 100 * k + 12) (by show 100 + 20 * k + 2 + 0 ≤ 100 + 20 * k + 2; omega) (by show 1000 + 100 * k + 12 + 0 ≤ 1000 + 100 * k + 12; omega) ?_
    refine lv_istore (lv' := [(6, .int b9), (5, .int k9), (0, .ref b), (1, .ref x), (2, .ref mo), (3, .ref ou), (4, .int (nI (5 * k)))]) hx hb d_La_law_509 hl (by decide) rfl (fun ls hl => ?_)
    refine lv_aload_n hx hb d_La_law_511 rfl (lv_at hl 4 rfl) ?_
    refine gh_cV (ci := 5) (As := []) (rest := []) (xF_ok b0) hx hb hml hown hK hX hG rfl hMw.1 (c_Mo_thrown hMw) (q_Mo_thrown htb ⟨by decide, by decide⟩) (htb _ k_3_11) (htb _ k_3_12) (htb _ k_3_13) rfl hl.1 rfl (Nat.le_of_ble_eq_true rfl) d_La_law_512 ⟨by show 100 + 20 * k + 2 + 0 ≤ 601024; omega, by show 1000 + 100 * k + 12 + 0 ≤ 7293034; omega⟩ (fun v9 h9 H l9 hp9 hG => ?_) (fun _ _ _ _ hp9 _ => by cases hp9.1)
    obtain ⟨hv9, hh9⟩ := hp9
    cases hv9
    rw [hh9] at hG
    refine W.eq (g2 := F0 m 515 ls [.int k9]) rfl ?_
    refine W.widen (k := 100 + 20 * k + 2) (n := 1000 + 100 * k + 12) (by show 100 + 20 * k + 2 + 0 ≤ 100 + 20 * k + 2; omega) (by show 1000 + 100 * k + 12 + 0 ≤ 1000 + 100 * k + 12; omega) ?_
    refine lv_iload hx hb d_La_law_515 (lv_at hl 1 rfl) ?_
    refine lv_icmp_eq (tgt := 522) hx hb d_La_law_517 (by decide) (fun hc517 => ?_) (fun hc => absurd rfl hc)
    refine lv_iload hx hb d_La_law_522 (lv_at hl 1 rfl) ?_
    refine lv_if_ne (tgt := 539) hx hb d_La_law_524 (by decide) (fun hc524 => ?_) (fun hc524 => ?_)
    · skip
      refine lv_goto (tgt := 714) hx hb d_La_law_539 (by decide) ?_
      refine lv_iinc (k := 6) (v := nI (5 * (k + 1))) (lv' := [(4, .int (nI (5 * (k + 1)))), (6, .int b9), (5, .int k9), (0, .ref b), (1, .ref x), (2, .ref mo), (3, .ref ou)]) hx hb d_La_law_714 hl rfl (nI_add (5 * k) 5) (by decide) rfl (fun ls hl => ?_)
      refine lv_goto (tgt := 23) hx hb d_La_law_717 (by decide) ?_
      refine W.widen (k := 100 + 20 * (k + 1)) (n := 1000 + 100 * (k + 1)) (by omega) (by omega) ?_
      exact ih (hC, k9) ls H l9 (by omega) ⟨hI2, (lv_sub hl [3, 4, 5, 6, 0] rfl), hG⟩
    · skip
      refine lv_aload_n hx hb d_La_law_527 rfl (lv_at hl 5 rfl) ?_
      refine lv_iconst (v := 0) hx hb d_La_law_528 (by decide) ?_
      refine gh_lald (v := fo 0) hx hb hK hG 1 hou rfl (vp_in_nI (n := 0) (by decide) (by decide)) rfl d_La_law_529 ?_
      refine lv_iload hx hb d_La_law_530 (lv_at hl 0 rfl) ?_
      refine lv_i2l (v := Int32.toInt64 b9) hx hb d_La_law_532 rfl ?_
      refine W.lcmp hx hb d_La_law_533 ?_
      refine lv_if_eq (tgt := 539) hx hb d_La_law_534 (by decide) (fun hc534 => ?_) (fun hc => absurd ((lg_cmp_eq _ _).mpr (hbo hc524)) hc)
      refine lv_goto (tgt := 714) hx hb d_La_law_539 (by decide) ?_
      refine lv_iinc (k := 6) (v := nI (5 * (k + 1))) (lv' := [(4, .int (nI (5 * (k + 1)))), (6, .int b9), (5, .int k9), (0, .ref b), (1, .ref x), (2, .ref mo), (3, .ref ou)]) hx hb d_La_law_714 hl rfl (nI_add (5 * k) 5) (by decide) rfl (fun ls hl => ?_)
      refine lv_goto (tgt := 23) hx hb d_La_law_717 (by decide) ?_
      refine W.widen (k := 100 + 20 * (k + 1)) (n := 1000 + 100 * (k + 1)) (by omega) (by omega) ?_
      exact ih (hC, k9) ls H l9 (by omega) ⟨hI2, (lv_sub hl [3, 4, 5, 6, 0] rfl), hG⟩
  · skip
    refine lv_tableIn (tgt := 542) (off := 503) hx hb d_La_law_39 (by decide) (by decide) rfl (by decide) ?_
    obtain ⟨sp, al, fi, n, ga, gf, pl, fs, pa, pb, pc, pd, sk, po, gs, so, wo, wd, ht, px, py, pz, pw, nm, fr, hs, va, tp, dn, g, nf, ff, hf, vf, tf, df, fo, hXw, hMw, hou, hT, hwd⟩ := hI0
    obtain ⟨⟨hsp, hal, hfi, hga, hgf, hfs, hpl, hn14⟩, h6, hxx, hsk, hgs, hpo, hso, hwo, hwi, hht⟩ := id hXw
    have hn6 := hT.1
    refine lv_aload_n hx hb d_La_law_542 rfl (lv_at hl 1 rfl) ?_
    refine lv_aload_n hx hb d_La_law_543 rfl (lv_at hl 0 rfl) ?_
    refine lv_iload hx hb d_La_law_544 (lv_at hl 4 rfl) ?_
    refine lv_iconst (v := 1) hx hb d_La_law_546 (by decide) ?_
    refine lv_iadd hx hb d_La_law_547 ?_
    rw [show (nI (5 * k)) + 1 = nI ((5 * k) + 1) from nI_add (5 * k) 1]
    refine va_sld (A := fun q => b0 ≤ q) hx hb hscr hbl (Nat.not_le.mpr hbb) (gh_S hG) (vp_in_nI (by omega) (by omega)) d_La_law_548 ?_
    rw [nI_clamp (by omega)]
    refine lv_aload_n hx hb d_La_law_549 rfl (lv_at hl 0 rfl) ?_
    refine lv_iload hx hb d_La_law_550 (lv_at hl 4 rfl) ?_
    refine lv_iconst (v := 2) hx hb d_La_law_552 (by decide) ?_
    refine lv_iadd hx hb d_La_law_553 ?_
    rw [show (nI (5 * k)) + 2 = nI ((5 * k) + 2) from nI_add (5 * k) 2]
    refine va_sld (A := fun q => b0 ≤ q) hx hb hscr hbl (Nat.not_le.mpr hbb) (gh_S hG) (vp_in_nI (by omega) (by omega)) d_La_law_554 ?_
    rw [nI_clamp (by omega)]
    refine lv_aload_n hx hb d_La_law_555 rfl (lv_at hl 0 rfl) ?_
    refine lv_iload hx hb d_La_law_556 (lv_at hl 4 rfl) ?_
    refine lv_iconst (v := 3) hx hb d_La_law_558 (by decide) ?_
    refine lv_iadd hx hb d_La_law_559 ?_
    rw [show (nI (5 * k)) + 3 = nI ((5 * k) + 3) from nI_add (5 * k) 3]
    refine va_sld (A := fun q => b0 ≤ q) hx hb hscr hbl (Nat.not_le.mpr hbb) (gh_S hG) (vp_in_nI (by omega) (by omega)) d_La_law_560 ?_
    rw [nI_clamp (by omega)]
    refine lv_aload_n hx hb d_La_law_561 rfl (lv_at hl 0 rfl) ?_
    refine lv_iload hx hb d_La_law_562 (lv_at hl 4 rfl) ?_
    refine lv_iconst (v := 4) hx hb d_La_law_564 (by decide) ?_
    refine lv_iadd hx hb d_La_law_565 ?_
    rw [show (nI (5 * k)) + 4 = nI ((5 * k) + 4) from nI_add (5 * k) 4]
    refine va_sld (A := fun q => b0 ≤ q) hx hb hscr hbl (Nat.not_le.mpr hbb) (gh_S hG) (vp_in_nI (by omega) (by omega)) d_La_law_566 ?_
    rw [nI_clamp (by omega)]
    refine lv_aload_n hx hb d_La_law_567 rfl (lv_at hl 3 rfl) ?_
    refine gh_cS (As := [.ref x, .int (xs ((5 * k) + 1)), .int (xs ((5 * k) + 2)), .int (xs ((5 * k) + 3)), .int (xs ((5 * k) + 4)), .ref ou]) (rest := []) (xF_ok b0) hx hb hml hown hK hX hG (c_La_side hxx (c_X_side hsp hal hfi hga hgf hfs hpl hn14 h6 hxx hsk hgs hpo hso hwo hwi hht (fi_le hT) htr) (o_side hXw hMw hou hT hwd).1 (o_side hXw hMw hou hT hwd).2) (q_La_side htb ⟨by decide, by decide⟩) (htb _ k_2_125) (htb _ k_2_126) rfl hl.1 rfl (Nat.le_of_ble_eq_true rfl) d_La_law_568 ⟨by show 100 + 20 * k + 3 ≤ 601024; omega, by show 1000 + 100 * k + 18 ≤ 7293034; omega⟩ (fun v9 hB H l9 hp9 hG => ?_) (fun x9 h9 H l9 hp9 hG => by obtain ⟨k9, hk9, -⟩ := s_side hXw hMw hou hT hwd hp9; cases hk9)
    obtain ⟨k9, hk9, hM1, hnx⟩ := s_side hXw hMw hou hT hwd hp9
    cases hk9
    refine W.eq (g2 := F0 m 571 ls [.int k9]) rfl ?_
    refine W.widen (k := 100 + 20 * k + 3) (n := 1000 + 100 * k + 18) (by show 100 + 20 * k + 3 ≤ 100 + 20 * k + 3; omega) (by show 1000 + 100 * k + 18 ≤ 1000 + 100 * k + 18; omega) ?_
    refine lv_istore (lv' := [(5, .int k9), (0, .ref b), (1, .ref x), (2, .ref mo), (3, .ref ou), (4, .int (nI (5 * k)))]) hx hb d_La_law_571 hl (by decide) rfl (fun ls hl => ?_)
    refine lv_aload_n hx hb d_La_law_573 rfl (lv_at hl 3 rfl) ?_
    refine lv_aload_n hx hb d_La_law_574 rfl (lv_at hl 1 rfl) ?_
    refine lv_iload hx hb d_La_law_575 (lv_at hl 5 rfl) ?_
    refine lv_iconst (v := 1) hx hb d_La_law_577 (by decide) ?_
    refine lv_iadd hx hb d_La_law_578 ?_
    rw [show (nI (5 * k)) + 1 = nI ((5 * k) + 1) from nI_add (5 * k) 1]
    refine va_sld (A := fun q => b0 ≤ q) hx hb hscr hbl (Nat.not_le.mpr hbb) (gh_S hG) (vp_in_nI (by omega) (by omega)) d_La_law_579 ?_
    rw [nI_clamp (by omega)]
    refine lv_aload_n hx hb d_La_law_580 rfl (lv_at hl 1 rfl) ?_
    refine lv_iload hx hb d_La_law_581 (lv_at hl 5 rfl) ?_
    refine lv_iconst (v := 2) hx hb d_La_law_583 (by decide) ?_
    refine lv_iadd hx hb d_La_law_584 ?_
    rw [show (nI (5 * k)) + 2 = nI ((5 * k) + 2) from nI_add (5 * k) 2]
    refine va_sld (A := fun q => b0 ≤ q) hx hb hscr hbl (Nat.not_le.mpr hbb) (gh_S hG) (vp_in_nI (by omega) (by omega)) d_La_law_585 ?_
    rw [nI_clamp (by omega)]
    refine lv_aload_n hx hb d_La_law_586 rfl (lv_at hl 1 rfl) ?_
    refine lv_iload hx hb d_La_law_587 (lv_at hl 5 rfl) ?_
    refine lv_iconst (v := 3) hx hb d_La_law_589 (by decide) ?_
    refine lv_iadd hx hb d_La_law_590 ?_
    rw [show (nI (5 * k)) + 3 = nI ((5 * k) + 3) from nI_add (5 * k) 3]
    refine va_sld (A := fun q => b0 ≤ q) hx hb hscr hbl (Nat.not_le.mpr hbb) (gh_S hG) (vp_in_nI (by omega) (by omega)) d_La_law_591 ?_
    rw [nI_clamp (by omega)]
    refine lv_aload_n hx hb d_La_law_592 rfl (lv_at hl 1 rfl) ?_
    refine lv_iload hx hb d_La_law_593 (lv_at hl 5 rfl) ?_
    refine lv_iconst (v := 4) hx hb d_La_law_595 (by decide) ?_
    refine lv_iadd hx hb d_La_law_596 ?_
    rw [show (nI (5 * k)) + 4 = nI ((5 * k) + 4) from nI_add (5 * k) 4]
    refine va_sld (A := fun q => b0 ≤ q) hx hb hscr hbl (Nat.not_le.mpr hbb) (gh_S hG) (vp_in_nI (by omega) (by omega)) d_La_law_597 ?_
    rw [nI_clamp (by omega)]
    refine gh_cV (ci := 5) (As := [.int (xs ((5 * k) + 1)), .int (xs ((5 * k) + 2)), .int (xs ((5 * k) + 3)), .int (xs ((5 * k) + 4))]) (rest := []) (xF_ok b0) hx hb hml hown hK hX hG rfl hM1.1 (c_Mo_side hM1) (q_Mo_side htb ⟨by decide, by decide⟩) (htb _ k_3_79) (htb _ k_3_80) (htb _ k_3_81) rfl hl.1 rfl (Nat.le_of_ble_eq_true rfl) d_La_law_598 ⟨by show 100 + 20 * k + 3 + 0 ≤ 601024; omega, by show 1000 + 100 * k + 18 + 0 ≤ 7293034; omega⟩ (fun v9 hC H l9 hp9 hG => ?_) (fun x9 h9 H l9 hp9 hG => by obtain ⟨k9, hk9, -⟩ := hnx _ _ hp9; cases hk9)
    obtain ⟨b9, hb9, hR⟩ := hnx _ _ hp9
    cases hb9
    have hI2 := lwR_I hR
    obtain ⟨sp, al, fi, n, ga, gf, pl, fs, pa, pb, pc, pd, sk, po, gs, so, wo, wd, ht, px, py, pz, pw, nm, fr, hs, va, tp, dn, g, nf, ff, hf, vf, tf, df, fo, hXw, hMw, hou, hT, hwd, hbo⟩ := hR
    refine W.eq (g2 := F0 m 601 ls [.int b9]) rfl ?_
    refine W.widen (k := 100 + 20 * k + 3) (n := 1000 + 100 * k + 18) (by show 100 + 20 * k + 3 + 0 ≤ 100 + 20 * k + 3; omega) (by show 1000 + 100 * k + 18 + 0 ≤ 1000 + 100 * k + 18; omega) ?_
    refine lv_istore (lv' := [(6, .int b9), (5, .int k9), (0, .ref b), (1, .ref x), (2, .ref mo), (3, .ref ou), (4, .int (nI (5 * k)))]) hx hb d_La_law_601 hl (by decide) rfl (fun ls hl => ?_)
    refine lv_aload_n hx hb d_La_law_603 rfl (lv_at hl 4 rfl) ?_
    refine gh_cV (ci := 5) (As := []) (rest := []) (xF_ok b0) hx hb hml hown hK hX hG rfl hMw.1 (c_Mo_thrown hMw) (q_Mo_thrown htb ⟨by decide, by decide⟩) (htb _ k_3_11) (htb _ k_3_12) (htb _ k_3_13) rfl hl.1 rfl (Nat.le_of_ble_eq_true rfl) d_La_law_604 ⟨by show 100 + 20 * k + 3 + 0 ≤ 601024; omega, by show 1000 + 100 * k + 18 + 0 ≤ 7293034; omega⟩ (fun v9 h9 H l9 hp9 hG => ?_) (fun _ _ _ _ hp9 _ => by cases hp9.1)
    obtain ⟨hv9, hh9⟩ := hp9
    cases hv9
    rw [hh9] at hG
    refine W.eq (g2 := F0 m 607 ls [.int k9]) rfl ?_
    refine W.widen (k := 100 + 20 * k + 3) (n := 1000 + 100 * k + 18) (by show 100 + 20 * k + 3 + 0 ≤ 100 + 20 * k + 3; omega) (by show 1000 + 100 * k + 18 + 0 ≤ 1000 + 100 * k + 18; omega) ?_
    refine lv_iload hx hb d_La_law_607 (lv_at hl 1 rfl) ?_
    refine lv_icmp_eq (tgt := 614) hx hb d_La_law_609 (by decide) (fun hc609 => ?_) (fun hc => absurd rfl hc)
    refine lv_iload hx hb d_La_law_614 (lv_at hl 1 rfl) ?_
    refine lv_if_ne (tgt := 631) hx hb d_La_law_616 (by decide) (fun hc616 => ?_) (fun hc616 => ?_)
    · skip
      refine lv_goto (tgt := 714) hx hb d_La_law_631 (by decide) ?_
      refine lv_iinc (k := 6) (v := nI (5 * (k + 1))) (lv' := [(4, .int (nI (5 * (k + 1)))), (6, .int b9), (5, .int k9), (0, .ref b), (1, .ref x), (2, .ref mo), (3, .ref ou)]) hx hb d_La_law_714 hl rfl (nI_add (5 * k) 5) (by decide) rfl (fun ls hl => ?_)
      refine lv_goto (tgt := 23) hx hb d_La_law_717 (by decide) ?_
      refine W.widen (k := 100 + 20 * (k + 1)) (n := 1000 + 100 * (k + 1)) (by omega) (by omega) ?_
      exact ih (hC, k9) ls H l9 (by omega) ⟨hI2, (lv_sub hl [3, 4, 5, 6, 0] rfl), hG⟩
    · skip
      refine lv_aload_n hx hb d_La_law_619 rfl (lv_at hl 5 rfl) ?_
      refine lv_iconst (v := 0) hx hb d_La_law_620 (by decide) ?_
      refine gh_lald (v := fo 0) hx hb hK hG 1 hou rfl (vp_in_nI (n := 0) (by decide) (by decide)) rfl d_La_law_621 ?_
      refine lv_iload hx hb d_La_law_622 (lv_at hl 0 rfl) ?_
      refine lv_i2l (v := Int32.toInt64 b9) hx hb d_La_law_624 rfl ?_
      refine W.lcmp hx hb d_La_law_625 ?_
      refine lv_if_eq (tgt := 631) hx hb d_La_law_626 (by decide) (fun hc626 => ?_) (fun hc => absurd ((lg_cmp_eq _ _).mpr (hbo hc616)) hc)
      refine lv_goto (tgt := 714) hx hb d_La_law_631 (by decide) ?_
      refine lv_iinc (k := 6) (v := nI (5 * (k + 1))) (lv' := [(4, .int (nI (5 * (k + 1)))), (6, .int b9), (5, .int k9), (0, .ref b), (1, .ref x), (2, .ref mo), (3, .ref ou)]) hx hb d_La_law_714 hl rfl (nI_add (5 * k) 5) (by decide) rfl (fun ls hl => ?_)
      refine lv_goto (tgt := 23) hx hb d_La_law_717 (by decide) ?_
      refine W.widen (k := 100 + 20 * (k + 1)) (n := 1000 + 100 * (k + 1)) (by omega) (by omega) ?_
      exact ih (hC, k9) ls H l9 (by omega) ⟨hI2, (lv_sub hl [3, 4, 5, 6, 0] rfl), hG⟩
  · skip
    refine lv_tableIn (tgt := 634) (off := 595) hx hb d_La_law_39 (by decide) (by decide) rfl (by decide) ?_
    obtain ⟨sp, al, fi, n, ga, gf, pl, fs, pa, pb, pc, pd, sk, po, gs, so, wo, wd, ht, px, py, pz, pw, nm, fr, hs, va, tp, dn, g, nf, ff, hf, vf, tf, df, fo, hXw, hMw, hou, hT, hwd⟩ := hI0
    obtain ⟨⟨hsp, hal, hfi, hga, hgf, hfs, hpl, hn14⟩, h6, hxx, hsk, hgs, hpo, hso, hwo, hwi, hht⟩ := id hXw
    have hn6 := hT.1
    refine lv_aload_n hx hb d_La_law_634 rfl (lv_at hl 1 rfl) ?_
    refine lv_aload_n hx hb d_La_law_635 rfl (lv_at hl 0 rfl) ?_
    refine lv_iload hx hb d_La_law_636 (lv_at hl 4 rfl) ?_
    refine lv_iconst (v := 1) hx hb d_La_law_638 (by decide) ?_
    refine lv_iadd hx hb d_La_law_639 ?_
    rw [show (nI (5 * k)) + 1 = nI ((5 * k) + 1) from nI_add (5 * k) 1]
    refine va_sld (A := fun q => b0 ≤ q) hx hb hscr hbl (Nat.not_le.mpr hbb) (gh_S hG) (vp_in_nI (by omega) (by omega)) d_La_law_640 ?_
    rw [nI_clamp (by omega)]
    refine lv_aload_n hx hb d_La_law_641 rfl (lv_at hl 0 rfl) ?_
    refine lv_iload hx hb d_La_law_642 (lv_at hl 4 rfl) ?_
    refine lv_iconst (v := 2) hx hb d_La_law_644 (by decide) ?_
    refine lv_iadd hx hb d_La_law_645 ?_
    rw [show (nI (5 * k)) + 2 = nI ((5 * k) + 2) from nI_add (5 * k) 2]
    refine va_sld (A := fun q => b0 ≤ q) hx hb hscr hbl (Nat.not_le.mpr hbb) (gh_S hG) (vp_in_nI (by omega) (by omega)) d_La_law_646 ?_
    rw [nI_clamp (by omega)]
    refine lv_aload_n hx hb d_La_law_647 rfl (lv_at hl 0 rfl) ?_
    refine lv_iload hx hb d_La_law_648 (lv_at hl 4 rfl) ?_
    refine lv_iconst (v := 3) hx hb d_La_law_650 (by decide) ?_
    refine lv_iadd hx hb d_La_law_651 ?_
    rw [show (nI (5 * k)) + 3 = nI ((5 * k) + 3) from nI_add (5 * k) 3]
    refine va_sld (A := fun q => b0 ≤ q) hx hb hscr hbl (Nat.not_le.mpr hbb) (gh_S hG) (vp_in_nI (by omega) (by omega)) d_La_law_652 ?_
    rw [nI_clamp (by omega)]
    refine lv_aload_n hx hb d_La_law_653 rfl (lv_at hl 3 rfl) ?_
    refine gh_cS (As := [.ref x, .int (xs ((5 * k) + 1)), .int (xs ((5 * k) + 2)), .int (xs ((5 * k) + 3)), .ref ou]) (rest := []) (xF_ok b0) hx hb hml hown hK hX hG (c_La_enters hxx (c_X_enters hsp hal hfi hga hgf hfs hpl hn14 h6 hxx hsk hgs hpo hso hwo hwi hht (fi_le hT) htr) (o_enters hXw hMw hou hT hwd).1 (o_enters hXw hMw hou hT hwd).2) (q_La_enters htb ⟨by decide, by decide⟩) (htb _ k_2_174) (htb _ k_2_175) rfl hl.1 rfl (Nat.le_of_ble_eq_true rfl) d_La_law_654 ⟨by show 100 + 20 * k + 15 ≤ 601024; omega, by show 1000 + 100 * k + 90 ≤ 7293034; omega⟩ (fun v9 hB H l9 hp9 hG => ?_) (fun x9 h9 H l9 hp9 hG => by obtain ⟨k9, hk9, -⟩ := s_enters hXw hMw hou hT hwd hp9; cases hk9)
    obtain ⟨k9, hk9, hM1, hnx⟩ := s_enters hXw hMw hou hT hwd hp9
    cases hk9
    refine W.eq (g2 := F0 m 657 ls [.int k9]) rfl ?_
    refine W.widen (k := 100 + 20 * k + 15) (n := 1000 + 100 * k + 90) (by show 100 + 20 * k + 15 ≤ 100 + 20 * k + 15; omega) (by show 1000 + 100 * k + 90 ≤ 1000 + 100 * k + 90; omega) ?_
    refine lv_istore (lv' := [(5, .int k9), (0, .ref b), (1, .ref x), (2, .ref mo), (3, .ref ou), (4, .int (nI (5 * k)))]) hx hb d_La_law_657 hl (by decide) rfl (fun ls hl => ?_)
    refine lv_aload_n hx hb d_La_law_659 rfl (lv_at hl 3 rfl) ?_
    refine lv_aload_n hx hb d_La_law_660 rfl (lv_at hl 1 rfl) ?_
    refine lv_iload hx hb d_La_law_661 (lv_at hl 5 rfl) ?_
    refine lv_iconst (v := 1) hx hb d_La_law_663 (by decide) ?_
    refine lv_iadd hx hb d_La_law_664 ?_
    rw [show (nI (5 * k)) + 1 = nI ((5 * k) + 1) from nI_add (5 * k) 1]
    refine va_sld (A := fun q => b0 ≤ q) hx hb hscr hbl (Nat.not_le.mpr hbb) (gh_S hG) (vp_in_nI (by omega) (by omega)) d_La_law_665 ?_
    rw [nI_clamp (by omega)]
    refine lv_aload_n hx hb d_La_law_666 rfl (lv_at hl 1 rfl) ?_
    refine lv_iload hx hb d_La_law_667 (lv_at hl 5 rfl) ?_
    refine lv_iconst (v := 2) hx hb d_La_law_669 (by decide) ?_
    refine lv_iadd hx hb d_La_law_670 ?_
    rw [show (nI (5 * k)) + 2 = nI ((5 * k) + 2) from nI_add (5 * k) 2]
    refine va_sld (A := fun q => b0 ≤ q) hx hb hscr hbl (Nat.not_le.mpr hbb) (gh_S hG) (vp_in_nI (by omega) (by omega)) d_La_law_671 ?_
    rw [nI_clamp (by omega)]
    refine lv_aload_n hx hb d_La_law_672 rfl (lv_at hl 1 rfl) ?_
    refine lv_iload hx hb d_La_law_673 (lv_at hl 5 rfl) ?_
    refine lv_iconst (v := 3) hx hb d_La_law_675 (by decide) ?_
    refine lv_iadd hx hb d_La_law_676 ?_
    rw [show (nI (5 * k)) + 3 = nI ((5 * k) + 3) from nI_add (5 * k) 3]
    refine va_sld (A := fun q => b0 ≤ q) hx hb hscr hbl (Nat.not_le.mpr hbb) (gh_S hG) (vp_in_nI (by omega) (by omega)) d_La_law_677 ?_
    rw [nI_clamp (by omega)]
    refine gh_cV (ci := 5) (As := [.int (xs ((5 * k) + 1)), .int (xs ((5 * k) + 2)), .int (xs ((5 * k) + 3))]) (rest := []) (xF_ok b0) hx hb hml hown hK hX hG rfl hM1.1 (c_Mo_enters hM1 (ky := fun a => eKy (tP pa pb pc pd) a n) (fun a ha _ hu hv => keys_ok hT ha (bey_f (by decide) (by decide) hu) (bey_f (by decide) (by decide) hv))) (q_Mo_enters htb ⟨by decide, by decide⟩) (htb _ k_3_99) (htb _ k_3_100) (htb _ k_3_101) rfl hl.1 rfl (Nat.le_of_ble_eq_true rfl) d_La_law_678 ⟨by show 100 + 20 * k + 15 + 0 ≤ 601024; omega, by show 1000 + 100 * k + 90 + 0 ≤ 7293034; omega⟩ (fun v9 hC H l9 hp9 hG => ?_) (fun x9 h9 H l9 hp9 hG => by obtain ⟨k9, hk9, -⟩ := hnx _ _ hp9; cases hk9)
    obtain ⟨b9, hb9, hR⟩ := hnx _ _ hp9
    cases hb9
    have hI2 := lwR_I hR
    obtain ⟨sp, al, fi, n, ga, gf, pl, fs, pa, pb, pc, pd, sk, po, gs, so, wo, wd, ht, px, py, pz, pw, nm, fr, hs, va, tp, dn, g, nf, ff, hf, vf, tf, df, fo, hXw, hMw, hou, hT, hwd, hbo⟩ := hR
    refine W.eq (g2 := F0 m 681 ls [.int b9]) rfl ?_
    refine W.widen (k := 100 + 20 * k + 15) (n := 1000 + 100 * k + 90) (by show 100 + 20 * k + 15 + 0 ≤ 100 + 20 * k + 15; omega) (by show 1000 + 100 * k + 90 + 0 ≤ 1000 + 100 * k + 90; omega) ?_
    refine lv_istore (lv' := [(6, .int b9), (5, .int k9), (0, .ref b), (1, .ref x), (2, .ref mo), (3, .ref ou), (4, .int (nI (5 * k)))]) hx hb d_La_law_681 hl (by decide) rfl (fun ls hl => ?_)
    refine lv_aload_n hx hb d_La_law_683 rfl (lv_at hl 4 rfl) ?_
    refine gh_cV (ci := 5) (As := []) (rest := []) (xF_ok b0) hx hb hml hown hK hX hG rfl hMw.1 (c_Mo_thrown hMw) (q_Mo_thrown htb ⟨by decide, by decide⟩) (htb _ k_3_11) (htb _ k_3_12) (htb _ k_3_13) rfl hl.1 rfl (Nat.le_of_ble_eq_true rfl) d_La_law_684 ⟨by show 100 + 20 * k + 15 + 0 ≤ 601024; omega, by show 1000 + 100 * k + 90 + 0 ≤ 7293034; omega⟩ (fun v9 h9 H l9 hp9 hG => ?_) (fun _ _ _ _ hp9 _ => by cases hp9.1)
    obtain ⟨hv9, hh9⟩ := hp9
    cases hv9
    rw [hh9] at hG
    refine W.eq (g2 := F0 m 687 ls [.int k9]) rfl ?_
    refine W.widen (k := 100 + 20 * k + 15) (n := 1000 + 100 * k + 90) (by show 100 + 20 * k + 15 + 0 ≤ 100 + 20 * k + 15; omega) (by show 1000 + 100 * k + 90 + 0 ≤ 1000 + 100 * k + 90; omega) ?_
    refine lv_iload hx hb d_La_law_687 (lv_at hl 1 rfl) ?_
    refine lv_icmp_eq (tgt := 694) hx hb d_La_law_689 (by decide) (fun hc689 => ?_) (fun hc => absurd rfl hc)
    refine lv_iload hx hb d_La_law_694 (lv_at hl 1 rfl) ?_
    refine lv_if_ne (tgt := 711) hx hb d_La_law_696 (by decide) (fun hc696 => ?_) (fun hc696 => ?_)
    · skip
      refine lv_goto (tgt := 714) hx hb d_La_law_711 (by decide) ?_
      refine lv_iinc (k := 6) (v := nI (5 * (k + 1))) (lv' := [(4, .int (nI (5 * (k + 1)))), (6, .int b9), (5, .int k9), (0, .ref b), (1, .ref x), (2, .ref mo), (3, .ref ou)]) hx hb d_La_law_714 hl rfl (nI_add (5 * k) 5) (by decide) rfl (fun ls hl => ?_)
      refine lv_goto (tgt := 23) hx hb d_La_law_717 (by decide) ?_
      refine W.widen (k := 100 + 20 * (k + 1)) (n := 1000 + 100 * (k + 1)) (by omega) (by omega) ?_
      exact ih (hC, k9) ls H l9 (by omega) ⟨hI2, (lv_sub hl [3, 4, 5, 6, 0] rfl), hG⟩
    · skip
      refine lv_aload_n hx hb d_La_law_699 rfl (lv_at hl 5 rfl) ?_
      refine lv_iconst (v := 0) hx hb d_La_law_700 (by decide) ?_
      refine gh_lald (v := fo 0) hx hb hK hG 1 hou rfl (vp_in_nI (n := 0) (by decide) (by decide)) rfl d_La_law_701 ?_
      refine lv_iload hx hb d_La_law_702 (lv_at hl 0 rfl) ?_
      refine lv_i2l (v := Int32.toInt64 b9) hx hb d_La_law_704 rfl ?_
      refine W.lcmp hx hb d_La_law_705 ?_
      refine lv_if_eq (tgt := 711) hx hb d_La_law_706 (by decide) (fun hc706 => ?_) (fun hc => absurd ((lg_cmp_eq _ _).mpr (hbo hc696)) hc)
      refine lv_goto (tgt := 714) hx hb d_La_law_711 (by decide) ?_
      refine lv_iinc (k := 6) (v := nI (5 * (k + 1))) (lv' := [(4, .int (nI (5 * (k + 1)))), (6, .int b9), (5, .int k9), (0, .ref b), (1, .ref x), (2, .ref mo), (3, .ref ou)]) hx hb d_La_law_714 hl rfl (nI_add (5 * k) 5) (by decide) rfl (fun ls hl => ?_)
      refine lv_goto (tgt := 23) hx hb d_La_law_717 (by decide) ?_
      refine W.widen (k := 100 + 20 * (k + 1)) (n := 1000 + 100 * (k + 1)) (by omega) (by omega) ?_
      exact ih (hC, k9) ls H l9 (by omega) ⟨hI2, (lv_sub hl [3, 4, 5, 6, 0] rfl), hG⟩
  · skip
    refine lv_tableOut (tgt := 714) hx hb d_La_law_39 (by decide) (by decide) ?_
    refine lv_iinc (k := 4) (v := nI (5 * (k + 1))) (lv' := [(4, .int (nI (5 * (k + 1)))), (0, .ref b), (1, .ref x), (2, .ref mo), (3, .ref ou)]) hx hb d_La_law_714 hl rfl (nI_add (5 * k) 5) (by decide) rfl (fun ls hl => ?_)
    refine lv_goto (tgt := 23) hx hb d_La_law_717 (by decide) ?_
    refine W.widen (k := 100 + 20 * (k + 1)) (n := 1000 + 100 * (k + 1)) (by omega) (by omega) ?_
    exact ih (h, th) ls H l9 (by omega) ⟨hI0, (lv_sub hl [1, 2, 3, 4, 0] rfl), hG⟩
  · skip
    refine lv_tableOut (tgt := 714) hx hb d_La_law_39 (by decide) (by decide) ?_
    refine lv_iinc (k := 4) (v := nI (5 * (k + 1))) (lv' := [(4, .int (nI (5 * (k + 1)))), (0, .ref b), (1, .ref x), (2, .ref mo), (3, .ref ou)]) hx hb d_La_law_714 hl rfl (nI_add (5 * k) 5) (by decide) rfl (fun ls hl => ?_)
    refine lv_goto (tgt := 23) hx hb d_La_law_717 (by decide) ?_
    refine W.widen (k := 100 + 20 * (k + 1)) (n := 1000 + 100 * (k + 1)) (by omega) (by omega) ?_
    exact ih (h, th) ls H l9 (by omega) ⟨hI0, (lv_sub hl [1, 2, 3, 4, 0] rfl), hG⟩
  · skip
    refine lv_tableOut (tgt := 714) hx hb d_La_law_39 (by decide) (by decide) ?_
    refine lv_iinc (k := 4) (v := nI (5 * (k + 1))) (lv' := [(4, .int (nI (5 * (k + 1)))), (0, .ref b), (1, .ref x), (2, .ref mo), (3, .ref ou)]) hx hb d_La_law_714 hl rfl (nI_add (5 * k) 5) (by decide) rfl (fun ls hl => ?_)
    refine lv_goto (tgt := 23) hx hb d_La_law_717 (by decide) ?_
    refine W.widen (k := 100 + 20 * (k + 1)) (n := 1000 + 100 * (k + 1)) (by omega) (by omega) ?_
    exact ih (h, th) ls H l9 (by omega) ⟨hI0, (lv_sub hl [1, 2, 3, 4, 0] rfl), hG⟩
  · skip
    refine lv_tableOut (tgt := 714) hx hb d_La_law_39 (by decide) (by decide) ?_
    refine lv_iinc (k := 4) (v := nI (5 * (k + 1))) (lv' := [(4, .int (nI (5 * (k + 1)))), (0, .ref b), (1, .ref x), (2, .ref mo), (3, .ref ou)]) hx hb d_La_law_714 hl rfl (nI_add (5 * k) 5) (by decide) rfl (fun ls hl => ?_)
    refine lv_goto (tgt := 23) hx hb d_La_law_717 (by decide) ?_
    refine W.widen (k := 100 + 20 * (k + 1)) (n := 1000 + 100 * (k + 1)) (by omega) (by omega) ?_
    exact ih (h, th) ls H l9 (by omega) ⟨hI0, (lv_sub hl [1, 2, 3, 4, 0] rfl), hG⟩
  · skip
    refine lv_tableOut (tgt := 714) hx hb d_La_law_39 (by decide) (by decide) ?_
    refine lv_iinc (k := 4) (v := nI (5 * (k + 1))) (lv' := [(4, .int (nI (5 * (k + 1)))), (0, .ref b), (1, .ref x), (2, .ref mo), (3, .ref ou)]) hx hb d_La_law_714 hl rfl (nI_add (5 * k) 5) (by decide) rfl (fun ls hl => ?_)
    refine lv_goto (tgt := 23) hx hb d_La_law_717 (by decide) ?_
    refine W.widen (k := 100 + 20 * (k + 1)) (n := 1000 + 100 * (k + 1)) (by omega) (by omega) ?_
    exact ih (h, th) ls H l9 (by omega) ⟨hI0, (lv_sub hl [1, 2, 3, 4, 0] rfl), hG⟩
