section
variable {l : Launch} {D : va_G} {cI cJ cP cS : ClassId} {b0 : Nat} {h : gh_M}

set_option maxHeartbeats 4000000 in
set_option maxRecDepth 100000 in
/-- plane -/
theorem c_X_plane {sp al fi : Nat} {n : Nat} {ga : Nat → Option Nat} {gf : Nat → Int32} {pl fs : Nat → Nat} {pa pb pc pd : Nat → Int64} (hsp : h sp = some (.inr (2, [.ref al, .ref fi, .int (nI n)]))) (hal : h al = some (.inl (cP, 14, .inr (.inr (.inr (.inr ga)))))) (hfi : h fi = some (.inl (cI, 14, .inl gf))) (hga : ∀ i, i < n → ga i = some (pl i)) (hgf : ∀ i, i < n → gf i = nI (fs i)) (hfs : ∀ i, fs i < 14) (hpl : ∀ i, i < n → h (pl i) = some (.inr (1, [.long (pa i), .long (pb i), .long (pc i), .long (pd i)]))) (hn : n ≤ 14) (h6 : 6 ≤ n) {x sk po : Nat} {gs : Nat → Option Nat} {so wo : Nat → Nat} {wd : Nat → Nat → Int64} {ht : Nat} {px py pz pw : Int64} (hxx : h x = some (.inr (0, [.ref sp, .ref sk, .ref po, .int (nI ht)]))) (hsk : h sk = some (.inl (cS, 6, .inr (.inr (.inr (.inr gs)))))) (hgs : ∀ j, j < 6 → gs j = some (so j)) (hpo : h po = some (.inr (3, [.long px, .long py, .long pz, .long pw]))) (hso : ∀ j, j < 6 → h (so j) = some (.inr (4, [.ref (wo j)]))) (hwo : ∀ j, j < 6 → h (wo j) = some (.inl (cJ, 4, .inr (.inl (wd j))))) (hwi : ∀ i j, i < 6 → j < 6 → wo i = wo j → i = j) (hht : ht ≤ 6) {a1 b1 c1 d1 : Int32} (htr : xc_off l) : gh_C l D vC (tZ cI cJ cP cS) (xF b0) b0 y_X_plane w_X_plane ({ frames := 6, cells := 1, slots := 6, locals := 100 }) [.ref x, .int a1, .int b1, .int c1, .int d1] h (rB (m_badP a1 b1 c1 d1) (rT 6 h) (rB (decide (14 ≤ n)) (rT 7 h) (fun oc h2 => oc = .returned (some (.int (nI (n - 6)))) ∧ ∃ q, h q = none ∧ h2 = m_addH cI cP (gh_up h q (.inr (1, [.long (Int32.toInt64 a1), .long (Int32.toInt64 b1), .long (Int32.toInt64 c1), .long (Int32.toInt64 d1)]))) sp al fi n ga gf q (m_fst (fun i => m_one (pa i) (pb i) (pc i) (pd i) (Int32.toInt64 a1) (Int32.toInt64 b1) (Int32.toInt64 c1) (Int32.toInt64 d1)) n)))) := by
  refine gh_ofW (by decide) (Nat.le_of_ble_eq_true rfl) ?_
  intro p e s m below meth c ls hctx hno hl hG hK hX
  obtain ⟨hx, hb, hr, hml, hown, hlk, hts, hnm⟩ := hctx
  have htb : ∀ w ∈ tB, w.before _ s = true := fun w hw => hts w (List.mem_cons_of_mem _ hw)
  replace hl : lv_has ls 6 [(0, .ref x), (1, .int a1), (2, .int b1), (3, .int c1), (4, .int d1)] := hl
  refine lv_iload_n hx hb d_X_plane_0 rfl (lv_at hl 1 rfl) ?_
  refine lv_if_ne (tgt := 22) hx hb d_X_plane_1 (by decide) (fun hc1 => ?_) (fun hc1 => ?_)
  · skip
    refine lv_iload_n hx hb d_X_plane_22 rfl (lv_at hl 1 rfl) ?_
    refine lv_ldc (v := 1000000) hx hb hown (htb _ k_1_212) d_X_plane_23 ?_
    refine gh_cS (As := [.int a1, .int 1000000]) (rest := []) (xF_ok b0) hx hb hml hown hK hX hG c_X_isBeyond (q_X_isBeyond htb ⟨by decide, by decide⟩) (htb _ k_1_213) (htb _ k_1_214) rfl hl.1 rfl (Nat.le_of_ble_eq_true rfl) d_X_plane_25 ⟨by decide, by decide⟩ (fun v9 h9 H l9 hp9 hG => ?_) (fun _ _ _ _ hp9 _ => by cases hp9.1)
    obtain ⟨hv9, hh9⟩ := hp9
    cases hv9
    rw [hh9] at hG
    refine W.eq (g2 := F0 m 28 ls [.int (m_b (m_bey a1 1000000))]) rfl ?_
    refine W.widen (k := 0) (n := 0) (by decide) (by decide) ?_
    refine lv_if_ne (tgt := 49) hx hb d_X_plane_28 (by decide) (fun hc28 => ?_) (fun hc28 => ?_)
    · skip
      replace hc28 := mb_1.mp hc28
      refine W.widen (k := 0) (n := 0) (by decide) (by decide) ?_
      exact gh_thr (bytes := Bundle.six) (index := 7) (is := 46) (E := R_IA) (ci := 6) hx hb htr hlk hno hml hl.1 hown htb hK hX hG rfl (by decide +kernel) k_1_143 k_1_10 k_1_144 (List.mem_of_getElem? (i := 1) rfl) (by decide +kernel) (by decide +kernel) (by decide +kernel) (by decide +kernel) at_IA d_X_plane_49 d_X_plane_52 d_X_plane_53 d_X_plane_55 d_X_plane_58 (by decide) (by decide) (by decide) (by decide) (fun q9 hq9 => rB_1 (by simp [m_badP, hc1, hc28]) ⟨q9, rfl, hq9, rfl⟩)
    · skip
      replace hc28 := mb_0.mp hc28
      refine lv_iload_n hx hb d_X_plane_31 rfl (lv_at hl 2 rfl) ?_
      refine lv_ldc (v := 1000000) hx hb hown (htb _ k_1_212) d_X_plane_32 ?_
      refine gh_cS (As := [.int b1, .int 1000000]) (rest := []) (xF_ok b0) hx hb hml hown hK hX hG c_X_isBeyond (q_X_isBeyond htb ⟨by decide, by decide⟩) (htb _ k_1_213) (htb _ k_1_214) rfl hl.1 rfl (Nat.le_of_ble_eq_true rfl) d_X_plane_34 ⟨by decide, by decide⟩ (fun v9 h9 H l9 hp9 hG => ?_) (fun _ _ _ _ hp9 _ => by cases hp9.1)
      obtain ⟨hv9, hh9⟩ := hp9
      cases hv9
      rw [hh9] at hG
      refine W.eq (g2 := F0 m 37 ls [.int (m_b (m_bey b1 1000000))]) rfl ?_
      refine W.widen (k := 0) (n := 0) (by decide) (by decide) ?_
      refine lv_if_ne (tgt := 49) hx hb d_X_plane_37 (by decide) (fun hc37 => ?_) (fun hc37 => ?_)
      · skip
        replace hc37 := mb_1.mp hc37
        refine W.widen (k := 0) (n := 0) (by decide) (by decide) ?_
        exact gh_thr (bytes := Bundle.six) (index := 7) (is := 46) (E := R_IA) (ci := 6) hx hb htr hlk hno hml hl.1 hown htb hK hX hG rfl (by decide +kernel) k_1_143 k_1_10 k_1_144 (List.mem_of_getElem? (i := 1) rfl) (by decide +kernel) (by decide +kernel) (by decide +kernel) (by decide +kernel) at_IA d_X_plane_49 d_X_plane_52 d_X_plane_53 d_X_plane_55 d_X_plane_58 (by decide) (by decide) (by decide) (by decide) (fun q9 hq9 => rB_1 (by simp [m_badP, hc1, hc28, hc37]) ⟨q9, rfl, hq9, rfl⟩)
      · skip
        replace hc37 := mb_0.mp hc37
        refine lv_iload_n hx hb d_X_plane_40 rfl (lv_at hl 3 rfl) ?_
        refine lv_ldc (v := 1000000) hx hb hown (htb _ k_1_212) d_X_plane_41 ?_
        refine gh_cS (As := [.int c1, .int 1000000]) (rest := []) (xF_ok b0) hx hb hml hown hK hX hG c_X_isBeyond (q_X_isBeyond htb ⟨by decide, by decide⟩) (htb _ k_1_213) (htb _ k_1_214) rfl hl.1 rfl (Nat.le_of_ble_eq_true rfl) d_X_plane_43 ⟨by decide, by decide⟩ (fun v9 h9 H l9 hp9 hG => ?_) (fun _ _ _ _ hp9 _ => by cases hp9.1)
        obtain ⟨hv9, hh9⟩ := hp9
        cases hv9
        rw [hh9] at hG
        refine W.eq (g2 := F0 m 46 ls [.int (m_b (m_bey c1 1000000))]) rfl ?_
        refine W.widen (k := 0) (n := 0) (by decide) (by decide) ?_
        refine lv_if_eq (tgt := 59) hx hb d_X_plane_46 (by decide) (fun hc46 => ?_) (fun hc46 => ?_)
        · skip
          replace hc46 := mb_0.mp hc46
          refine lv_iload hx hb d_X_plane_59 (lv_at hl 4 rfl) ?_
          refine lv_ldc (v := 1000000000) hx hb hown (htb _ k_1_217) d_X_plane_61 ?_
          refine gh_cS (As := [.int d1, .int 1000000000]) (rest := []) (xF_ok b0) hx hb hml hown hK hX hG c_X_isBeyond (q_X_isBeyond htb ⟨by decide, by decide⟩) (htb _ k_1_213) (htb _ k_1_214) rfl hl.1 rfl (Nat.le_of_ble_eq_true rfl) d_X_plane_63 ⟨by decide, by decide⟩ (fun v9 h9 H l9 hp9 hG => ?_) (fun _ _ _ _ hp9 _ => by cases hp9.1)
          obtain ⟨hv9, hh9⟩ := hp9
          cases hv9
          rw [hh9] at hG
          refine W.eq (g2 := F0 m 66 ls [.int (m_b (m_bey d1 1000000000))]) rfl ?_
          refine W.widen (k := 0) (n := 0) (by decide) (by decide) ?_
          refine lv_if_eq (tgt := 79) hx hb d_X_plane_66 (by decide) (fun hc66 => ?_) (fun hc66 => ?_)
          · skip
            replace hc66 := mb_0.mp hc66
            refine lv_aload_n hx hb d_X_plane_79 rfl (lv_at hl 0 rfl) ?_
            refine gh_get (ci := 0) hx hb htb in_X hown hK hG hxx rfl 0 (by decide) (htb _ k_1_109) (fun _ h9 => h9) rfl d_X_plane_80 ?_
            refine gh_cV (ci := 2) (As := []) (rest := []) (xF_ok b0) hx hb hml hown hK hX hG rfl hsp (c_Ps_given hsp hal hfi hga hgf hfs hpl hn h6) (q_Ps_given htb ⟨by decide, by decide⟩) (htb _ k_1_126) (htb _ k_1_127) (htb _ k_1_128) rfl hl.1 rfl (Nat.le_of_ble_eq_true rfl) d_X_plane_83 ⟨by decide, by decide⟩ (fun v9 h9 H l9 hp9 hG => ?_) (fun _ _ _ _ hp9 _ => by cases hp9.1)
            obtain ⟨hv9, hh9⟩ := hp9
            cases hv9
            rw [hh9] at hG
            refine W.eq (g2 := F0 m 86 ls [.int (nI (n - 6))]) rfl ?_
            refine W.widen (k := 0) (n := 0) (by decide) (by decide) ?_
            refine lv_bipush (v := 8) hx hb d_X_plane_86 (by decide) ?_
            refine lv_icmp_lt (tgt := 101) hx hb d_X_plane_88 (by decide) (fun hc88 => ?_) (fun hc88 => ?_)
            · skip
              replace hc88 : (n - 6) < 8 := (nc_lt (a := (n - 6)) (b := 8) (by omega) (by omega) rfl rfl).mp hc88
              refine lv_aload_n hx hb d_X_plane_101 rfl (lv_at hl 0 rfl) ?_
              refine gh_get (ci := 0) hx hb htb in_X hown hK hG hxx rfl 0 (by decide) (htb _ k_1_109) (fun _ h9 => h9) rfl d_X_plane_102 ?_
              refine gh_cV (ci := 2) (As := []) (rest := []) (xF_ok b0) hx hb hml hown hK hX hG rfl hsp (c_Ps_given hsp hal hfi hga hgf hfs hpl hn h6) (q_Ps_given htb ⟨by decide, by decide⟩) (htb _ k_1_126) (htb _ k_1_127) (htb _ k_1_128) rfl hl.1 rfl (Nat.le_of_ble_eq_true rfl) d_X_plane_105 ⟨by decide, by decide⟩ (fun v9 h9 H l9 hp9 hG => ?_) (fun _ _ _ _ hp9 _ => by cases hp9.1)
              obtain ⟨hv9, hh9⟩ := hp9
              cases hv9
              rw [hh9] at hG
              refine W.eq (g2 := F0 m 108 ls [.int (nI (n - 6))]) rfl ?_
              refine W.widen (k := 0) (n := 0) (by decide) (by decide) ?_
              refine lv_istore (lv' := [(5, .int (nI (n - 6))), (0, .ref x), (1, .int a1), (2, .int b1), (3, .int c1), (4, .int d1)]) hx hb d_X_plane_108 hl (by decide) rfl (fun ls hl => ?_)
              refine lv_aload_n hx hb d_X_plane_110 rfl (lv_at hl 1 rfl) ?_
              refine gh_get (ci := 0) hx hb htb in_X hown hK hG hxx rfl 0 (by decide) (htb _ k_1_109) (fun _ h9 => h9) rfl d_X_plane_111 ?_
              refine gh_new (ci := 1) (fs := [.long 0, .long 0, .long 0, .long 0]) hx hb htb in_Pl t_Pl ty_Pl hown (htb _ k_1_235) (htb _ k_1_31) (htb _ k_1_3) hK hG rfl (fun j hj => by rcases (show j = 0 ∨ j = 1 ∨ j = 2 ∨ j = 3 by omega) with rfl | rfl | rfl | rfl <;> rfl) (by decide) (by decide) d_X_plane_114 (fun q1 H hf1 hG => ?_)
              have hq2 : (gh_up h q1 (.inr (1, [.long 0, .long 0, .long 0, .long 0]))) q1 = some (.inr (1, [.long 0, .long 0, .long 0, .long 0])) := gh_self _ _ _
              replace hG : gh_P D vC b0 (gh_up h q1 (.inr (1, [.long 0, .long 0, .long 0, .long 0]))) s.heap _ _ := hG
              have hsp_2 : (gh_up h q1 (.inr (1, [.long 0, .long 0, .long 0, .long 0]))) sp = some (.inr (2, [.ref al, .ref fi, .int (nI n)])) := gh_keepN hf1 hsp
              have hal_2 : (gh_up h q1 (.inr (1, [.long 0, .long 0, .long 0, .long 0]))) al = some (.inl (cP, 14, .inr (.inr (.inr (.inr ga))))) := gh_keepN hf1 hal
              have hfi_2 : (gh_up h q1 (.inr (1, [.long 0, .long 0, .long 0, .long 0]))) fi = some (.inl (cI, 14, .inl gf)) := gh_keepN hf1 hfi
              have hxx_2 : (gh_up h q1 (.inr (1, [.long 0, .long 0, .long 0, .long 0]))) x = some (.inr (0, [.ref sp, .ref sk, .ref po, .int (nI ht)])) := gh_keepN hf1 hxx
              have hsk_2 : (gh_up h q1 (.inr (1, [.long 0, .long 0, .long 0, .long 0]))) sk = some (.inl (cS, 6, .inr (.inr (.inr (.inr gs))))) := gh_keepN hf1 hsk
              have hpo_2 : (gh_up h q1 (.inr (1, [.long 0, .long 0, .long 0, .long 0]))) po = some (.inr (3, [.long px, .long py, .long pz, .long pw])) := gh_keepN hf1 hpo
              refine W.widen (k := 1) (n := 4) (by decide) (by decide) ?_
              refine lv_dup hx hb d_X_plane_117 rfl ?_
              refine lv_iload_n hx hb d_X_plane_118 rfl (lv_at hl 2 rfl) ?_
              refine lv_i2l (v := Int32.toInt64 a1) hx hb d_X_plane_119 rfl ?_
              refine lv_iload_n hx hb d_X_plane_120 rfl (lv_at hl 3 rfl) ?_
              refine lv_i2l (v := Int32.toInt64 b1) hx hb d_X_plane_121 rfl ?_
              refine lv_iload_n hx hb d_X_plane_122 rfl (lv_at hl 4 rfl) ?_
              refine lv_i2l (v := Int32.toInt64 c1) hx hb d_X_plane_123 rfl ?_
              refine lv_iload hx hb d_X_plane_124 (lv_at hl 5 rfl) ?_
              refine lv_i2l (v := Int32.toInt64 d1) hx hb d_X_plane_126 rfl ?_
              refine gh_cI (As := [.long (Int32.toInt64 a1), .long (Int32.toInt64 b1), .long (Int32.toInt64 c1), .long (Int32.toInt64 d1)]) (rest := [.ref q1, .ref sp]) (xF_ok b0) hx hb hml hown hK hX hG (c_Pl_init hq2) (q_Pl_init htb ⟨by decide, by decide⟩) (htb _ k_1_236) (htb _ k_1_34) rfl (htb _ k_1_35) rfl hl.1 rfl (Nat.le_of_ble_eq_true rfl) d_X_plane_127 ⟨by decide, by decide⟩ (fun v9 h9 H l9 hp9 hG => ?_) (fun _ _ _ _ hp9 _ => by cases hp9.1)
              obtain ⟨hv9, hh9⟩ := hp9
              cases hv9
              rw [hh9, gh_uu] at hG
              have hk_sp : (gh_up h q1 (.inr (1, [.long (Int32.toInt64 a1), .long (Int32.toInt64 b1), .long (Int32.toInt64 c1), .long (Int32.toInt64 d1)]))) sp = some (.inr (2, [.ref al, .ref fi, .int (nI n)])) := gh_keepN hf1 hsp
              have hk_al : (gh_up h q1 (.inr (1, [.long (Int32.toInt64 a1), .long (Int32.toInt64 b1), .long (Int32.toInt64 c1), .long (Int32.toInt64 d1)]))) al = some (.inl (cP, 14, .inr (.inr (.inr (.inr ga))))) := gh_keepN hf1 hal
              have hk_fi : (gh_up h q1 (.inr (1, [.long (Int32.toInt64 a1), .long (Int32.toInt64 b1), .long (Int32.toInt64 c1), .long (Int32.toInt64 d1)]))) fi = some (.inl (cI, 14, .inl gf)) := gh_keepN hf1 hfi
              have hk_x : (gh_up h q1 (.inr (1, [.long (Int32.toInt64 a1), .long (Int32.toInt64 b1), .long (Int32.toInt64 c1), .long (Int32.toInt64 d1)]))) x = some (.inr (0, [.ref sp, .ref sk, .ref po, .int (nI ht)])) := gh_keepN hf1 hxx
              have hk_sk : (gh_up h q1 (.inr (1, [.long (Int32.toInt64 a1), .long (Int32.toInt64 b1), .long (Int32.toInt64 c1), .long (Int32.toInt64 d1)]))) sk = some (.inl (cS, 6, .inr (.inr (.inr (.inr gs))))) := gh_keepN hf1 hsk
              have hk_po : (gh_up h q1 (.inr (1, [.long (Int32.toInt64 a1), .long (Int32.toInt64 b1), .long (Int32.toInt64 c1), .long (Int32.toInt64 d1)]))) po = some (.inr (3, [.long px, .long py, .long pz, .long pw])) := gh_keepN hf1 hpo
              have hk_pl : ∀ i, i < n → (gh_up h q1 (.inr (1, [.long (Int32.toInt64 a1), .long (Int32.toInt64 b1), .long (Int32.toInt64 c1), .long (Int32.toInt64 d1)]))) (pl i) = some (.inr (1, [.long (pa i), .long (pb i), .long (pc i), .long (pd i)])) := fun i hi => gh_keepN hf1 (hpl i hi)
              have hk_q : (gh_up h q1 (.inr (1, [.long (Int32.toInt64 a1), .long (Int32.toInt64 b1), .long (Int32.toInt64 c1), .long (Int32.toInt64 d1)]))) q1 = some (.inr (1, [.long (Int32.toInt64 a1), .long (Int32.toInt64 b1), .long (Int32.toInt64 c1), .long (Int32.toInt64 d1)])) := gh_self _ _ _
              refine W.eq (g2 := F0 m 130 ls [.ref q1, .ref sp]) rfl ?_
              refine W.widen (k := 1) (n := 4) (by decide) (by decide) ?_
              refine gh_cV (ci := 2) (As := [.ref q1]) (rest := []) (xF_ok b0) hx hb hml hown hK hX hG rfl hk_sp (c_Ps_add hk_sp hk_al hk_fi hga hgf hfs hk_pl hn hk_q (by omega)) (q_Ps_add htb ⟨by decide, by decide⟩) (htb _ k_1_237) (htb _ k_1_52) (htb _ k_1_53) rfl hl.1 rfl (Nat.le_of_ble_eq_true rfl) d_X_plane_130 ⟨by decide, by decide⟩ (fun v9 h9 H l9 hp9 hG => ?_) (fun _ _ _ _ hp9 _ => by cases hp9.1)
              obtain ⟨hv9, hh9⟩ := hp9
              cases hv9
              rw [hh9] at hG
              refine W.eq (g2 := F0 m 133 ls []) rfl ?_
              refine W.widen (k := 1) (n := 4) (by decide) (by decide) ?_
              refine lv_iload hx hb d_X_plane_133 (lv_at hl 0 rfl) ?_
              refine W.widen (k := 1) (n := 6) (by decide) (by decide) ?_
              exact gh_iret hx hb hr hlk rfl hG d_X_plane_135 (rB_0 (by simp [m_badP, hc1, hc28, hc37, hc46, hc66]) (rB_0 (decide_eq_false (by omega)) ⟨rfl, q1, hf1, rfl⟩))
            · skip
              replace hc88 : ¬ (n - 6) < 8 := fun q9 => hc88 ((nc_lt (a := (n - 6)) (b := 8) (by omega) (by omega) rfl rfl).mpr q9)
              refine W.widen (k := 0) (n := 0) (by decide) (by decide) ?_
              exact gh_thr (bytes := Bundle.six) (index := 7) (is := 57) (E := R_IS) (ci := 7) hx hb htr hlk hno hml hl.1 hown htb hK hX hG rfl (by decide +kernel) k_1_219 k_1_11 k_1_220 (List.mem_of_getElem? (i := 3) rfl) (by decide +kernel) (by decide +kernel) (by decide +kernel) (by decide +kernel) at_IS d_X_plane_91 d_X_plane_94 d_X_plane_95 d_X_plane_97 d_X_plane_100 (by decide) (by decide) (by decide) (by decide) (fun q9 hq9 => rB_0 (by simp [m_badP, hc1, hc28, hc37, hc46, hc66]) (rB_1 (decide_eq_true (by omega)) ⟨q9, rfl, hq9, rfl⟩))
          · skip
            replace hc66 := mb_1.mp hc66
            refine W.widen (k := 0) (n := 0) (by decide) (by decide) ?_
            exact gh_thr (bytes := Bundle.six) (index := 7) (is := 49) (E := R_IA) (ci := 6) hx hb htr hlk hno hml hl.1 hown htb hK hX hG rfl (by decide +kernel) k_1_143 k_1_10 k_1_144 (List.mem_of_getElem? (i := 2) rfl) (by decide +kernel) (by decide +kernel) (by decide +kernel) (by decide +kernel) at_IA d_X_plane_69 d_X_plane_72 d_X_plane_73 d_X_plane_75 d_X_plane_78 (by decide) (by decide) (by decide) (by decide) (fun q9 hq9 => rB_1 (by simp [m_badP, hc1, hc28, hc37, hc46, hc66]) ⟨q9, rfl, hq9, rfl⟩)
        · skip
          replace hc46 := mb_1.mp hc46
          refine W.widen (k := 0) (n := 0) (by decide) (by decide) ?_
          exact gh_thr (bytes := Bundle.six) (index := 7) (is := 46) (E := R_IA) (ci := 6) hx hb htr hlk hno hml hl.1 hown htb hK hX hG rfl (by decide +kernel) k_1_143 k_1_10 k_1_144 (List.mem_of_getElem? (i := 1) rfl) (by decide +kernel) (by decide +kernel) (by decide +kernel) (by decide +kernel) at_IA d_X_plane_49 d_X_plane_52 d_X_plane_53 d_X_plane_55 d_X_plane_58 (by decide) (by decide) (by decide) (by decide) (fun q9 hq9 => rB_1 (by simp [m_badP, hc1, hc28, hc37, hc46]) ⟨q9, rfl, hq9, rfl⟩)
  · skip
    refine lv_iload_n hx hb d_X_plane_4 rfl (lv_at hl 2 rfl) ?_
    refine lv_if_ne (tgt := 22) hx hb d_X_plane_5 (by decide) (fun hc5 => ?_) (fun hc5 => ?_)
    · skip
      refine lv_iload_n hx hb d_X_plane_22 rfl (lv_at hl 1 rfl) ?_
      refine lv_ldc (v := 1000000) hx hb hown (htb _ k_1_212) d_X_plane_23 ?_
      refine gh_cS (As := [.int a1, .int 1000000]) (rest := []) (xF_ok b0) hx hb hml hown hK hX hG c_X_isBeyond (q_X_isBeyond htb ⟨by decide, by decide⟩) (htb _ k_1_213) (htb _ k_1_214) rfl hl.1 rfl (Nat.le_of_ble_eq_true rfl) d_X_plane_25 ⟨by decide, by decide⟩ (fun v9 h9 H l9 hp9 hG => ?_) (fun _ _ _ _ hp9 _ => by cases hp9.1)
      obtain ⟨hv9, hh9⟩ := hp9
      cases hv9
      rw [hh9] at hG
      refine W.eq (g2 := F0 m 28 ls [.int (m_b (m_bey a1 1000000))]) rfl ?_
      refine W.widen (k := 0) (n := 0) (by decide) (by decide) ?_
      refine lv_if_ne (tgt := 49) hx hb d_X_plane_28 (by decide) (fun hc28 => ?_) (fun hc28 => ?_)
      · skip
        replace hc28 := mb_1.mp hc28
        refine W.widen (k := 0) (n := 0) (by decide) (by decide) ?_
        exact gh_thr (bytes := Bundle.six) (index := 7) (is := 46) (E := R_IA) (ci := 6) hx hb htr hlk hno hml hl.1 hown htb hK hX hG rfl (by decide +kernel) k_1_143 k_1_10 k_1_144 (List.mem_of_getElem? (i := 1) rfl) (by decide +kernel) (by decide +kernel) (by decide +kernel) (by decide +kernel) at_IA d_X_plane_49 d_X_plane_52 d_X_plane_53 d_X_plane_55 d_X_plane_58 (by decide) (by decide) (by decide) (by decide) (fun q9 hq9 => rB_1 (by simp [m_badP, hc5, hc28]) ⟨q9, rfl, hq9, rfl⟩)
      · skip
        replace hc28 := mb_0.mp hc28
        refine lv_iload_n hx hb d_X_plane_31 rfl (lv_at hl 2 rfl) ?_
        refine lv_ldc (v := 1000000) hx hb hown (htb _ k_1_212) d_X_plane_32 ?_
        refine gh_cS (As := [.int b1, .int 1000000]) (rest := []) (xF_ok b0) hx hb hml hown hK hX hG c_X_isBeyond (q_X_isBeyond htb ⟨by decide, by decide⟩) (htb _ k_1_213) (htb _ k_1_214) rfl hl.1 rfl (Nat.le_of_ble_eq_true rfl) d_X_plane_34 ⟨by decide, by decide⟩ (fun v9 h9 H l9 hp9 hG => ?_) (fun _ _ _ _ hp9 _ => by cases hp9.1)
        obtain ⟨hv9, hh9⟩ := hp9
        cases hv9
        rw [hh9] at hG
        refine W.eq (g2 := F0 m 37 ls [.int (m_b (m_bey b1 1000000))]) rfl ?_
        refine W.widen (k := 0) (n := 0) (by decide) (by decide) ?_
        refine lv_if_ne (tgt := 49) hx hb d_X_plane_37 (by decide) (fun hc37 => ?_) (fun hc37 => ?_)
        · skip
          replace hc37 := mb_1.mp hc37
          refine W.widen (k := 0) (n := 0) (by decide) (by decide) ?_
          exact gh_thr (bytes := Bundle.six) (index := 7) (is := 46) (E := R_IA) (ci := 6) hx hb htr hlk hno hml hl.1 hown htb hK hX hG rfl (by decide +kernel) k_1_143 k_1_10 k_1_144 (List.mem_of_getElem? (i := 1) rfl) (by decide +kernel) (by decide +kernel) (by decide +kernel) (by decide +kernel) at_IA d_X_plane_49 d_X_plane_52 d_X_plane_53 d_X_plane_55 d_X_plane_58 (by decide) (by decide) (by decide) (by decide) (fun q9 hq9 => rB_1 (by simp [m_badP, hc5, hc28, hc37]) ⟨q9, rfl, hq9, rfl⟩)
        · skip
          replace hc37 := mb_0.mp hc37
          refine lv_iload_n hx hb d_X_plane_40 rfl (lv_at hl 3 rfl) ?_
          refine lv_ldc (v := 1000000) hx hb hown (htb _ k_1_212) d_X_plane_41 ?_
          refine gh_cS (As := [.int c1, .int 1000000]) (rest := []) (xF_ok b0) hx hb hml hown hK hX hG c_X_isBeyond (q_X_isBeyond htb ⟨by decide, by decide⟩) (htb _ k_1_213) (htb _ k_1_214) rfl hl.1 rfl (Nat.le_of_ble_eq_true rfl) d_X_plane_43 ⟨by decide, by decide⟩ (fun v9 h9 H l9 hp9 hG => ?_) (fun _ _ _ _ hp9 _ => by cases hp9.1)
          obtain ⟨hv9, hh9⟩ := hp9
          cases hv9
          rw [hh9] at hG
          refine W.eq (g2 := F0 m 46 ls [.int (m_b (m_bey c1 1000000))]) rfl ?_
          refine W.widen (k := 0) (n := 0) (by decide) (by decide) ?_
          refine lv_if_eq (tgt := 59) hx hb d_X_plane_46 (by decide) (fun hc46 => ?_) (fun hc46 => ?_)
          · skip
            replace hc46 := mb_0.mp hc46
            refine lv_iload hx hb d_X_plane_59 (lv_at hl 4 rfl) ?_
            refine lv_ldc (v := 1000000000) hx hb hown (htb _ k_1_217) d_X_plane_61 ?_
            refine gh_cS (As := [.int d1, .int 1000000000]) (rest := []) (xF_ok b0) hx hb hml hown hK hX hG c_X_isBeyond (q_X_isBeyond htb ⟨by decide, by decide⟩) (htb _ k_1_213) (htb _ k_1_214) rfl hl.1 rfl (Nat.le_of_ble_eq_true rfl) d_X_plane_63 ⟨by decide, by decide⟩ (fun v9 h9 H l9 hp9 hG => ?_) (fun _ _ _ _ hp9 _ => by cases hp9.1)
            obtain ⟨hv9, hh9⟩ := hp9
            cases hv9
            rw [hh9] at hG
            refine W.eq (g2 := F0 m 66 ls [.int (m_b (m_bey d1 1000000000))]) rfl ?_
            refine W.widen (k := 0) (n := 0) (by decide) (by decide) ?_
            refine lv_if_eq (tgt := 79) hx hb d_X_plane_66 (by decide) (fun hc66 => ?_) (fun hc66 => ?_)
            · skip
              replace hc66 := mb_0.mp hc66
              refine lv_aload_n hx hb d_X_plane_79 rfl (lv_at hl 0 rfl) ?_
              refine gh_get (ci := 0) hx hb htb in_X hown hK hG hxx rfl 0 (by decide) (htb _ k_1_109) (fun _ h9 => h9) rfl d_X_plane_80 ?_
              refine gh_cV (ci := 2) (As := []) (rest := []) (xF_ok b0) hx hb hml hown hK hX hG rfl hsp (c_Ps_given hsp hal hfi hga hgf hfs hpl hn h6) (q_Ps_given htb ⟨by decide, by decide⟩) (htb _ k_1_126) (htb _ k_1_127) (htb _ k_1_128) rfl hl.1 rfl (Nat.le_of_ble_eq_true rfl) d_X_plane_83 ⟨by decide, by decide⟩ (fun v9 h9 H l9 hp9 hG => ?_) (fun _ _ _ _ hp9 _ => by cases hp9.1)
              obtain ⟨hv9, hh9⟩ := hp9
              cases hv9
              rw [hh9] at hG
              refine W.eq (g2 := F0 m 86 ls [.int (nI (n - 6))]) rfl ?_
              refine W.widen (k := 0) (n := 0) (by decide) (by decide) ?_
              refine lv_bipush (v := 8) hx hb d_X_plane_86 (by decide) ?_
              refine lv_icmp_lt (tgt := 101) hx hb d_X_plane_88 (by decide) (fun hc88 => ?_) (fun hc88 => ?_)
              · skip
                replace hc88 : (n - 6) < 8 := (nc_lt (a := (n - 6)) (b := 8) (by omega) (by omega) rfl rfl).mp hc88
                refine lv_aload_n hx hb d_X_plane_101 rfl (lv_at hl 0 rfl) ?_
                refine gh_get (ci := 0) hx hb htb in_X hown hK hG hxx rfl 0 (by decide) (htb _ k_1_109) (fun _ h9 => h9) rfl d_X_plane_102 ?_
                refine gh_cV (ci := 2) (As := []) (rest := []) (xF_ok b0) hx hb hml hown hK hX hG rfl hsp (c_Ps_given hsp hal hfi hga hgf hfs hpl hn h6) (q_Ps_given htb ⟨by decide, by decide⟩) (htb _ k_1_126) (htb _ k_1_127) (htb _ k_1_128) rfl hl.1 rfl (Nat.le_of_ble_eq_true rfl) d_X_plane_105 ⟨by decide, by decide⟩ (fun v9 h9 H l9 hp9 hG => ?_) (fun _ _ _ _ hp9 _ => by cases hp9.1)
                obtain ⟨hv9, hh9⟩ := hp9
                cases hv9
                rw [hh9] at hG
                refine W.eq (g2 := F0 m 108 ls [.int (nI (n - 6))]) rfl ?_
                refine W.widen (k := 0) (n := 0) (by decide) (by decide) ?_
                refine lv_istore (lv' := [(5, .int (nI (n - 6))), (0, .ref x), (1, .int a1), (2, .int b1), (3, .int c1), (4, .int d1)]) hx hb d_X_plane_108 hl (by decide) rfl (fun ls hl => ?_)
                refine lv_aload_n hx hb d_X_plane_110 rfl (lv_at hl 1 rfl) ?_
                refine gh_get (ci := 0) hx hb htb in_X hown hK hG hxx rfl 0 (by decide) (htb _ k_1_109) (fun _ h9 => h9) rfl d_X_plane_111 ?_
                refine gh_new (ci := 1) (fs := [.long 0, .long 0, .long 0, .long 0]) hx hb htb in_Pl t_Pl ty_Pl hown (htb _ k_1_235) (htb _ k_1_31) (htb _ k_1_3) hK hG rfl (fun j hj => by rcases (show j = 0 ∨ j = 1 ∨ j = 2 ∨ j = 3 by omega) with rfl | rfl | rfl | rfl <;> rfl) (by decide) (by decide) d_X_plane_114 (fun q3 H hf3 hG => ?_)
                have hq4 : (gh_up h q3 (.inr (1, [.long 0, .long 0, .long 0, .long 0]))) q3 = some (.inr (1, [.long 0, .long 0, .long 0, .long 0])) := gh_self _ _ _
                replace hG : gh_P D vC b0 (gh_up h q3 (.inr (1, [.long 0, .long 0, .long 0, .long 0]))) s.heap _ _ := hG
                have hsp_4 : (gh_up h q3 (.inr (1, [.long 0, .long 0, .long 0, .long 0]))) sp = some (.inr (2, [.ref al, .ref fi, .int (nI n)])) := gh_keepN hf3 hsp
                have hal_4 : (gh_up h q3 (.inr (1, [.long 0, .long 0, .long 0, .long 0]))) al = some (.inl (cP, 14, .inr (.inr (.inr (.inr ga))))) := gh_keepN hf3 hal
                have hfi_4 : (gh_up h q3 (.inr (1, [.long 0, .long 0, .long 0, .long 0]))) fi = some (.inl (cI, 14, .inl gf)) := gh_keepN hf3 hfi
                have hxx_4 : (gh_up h q3 (.inr (1, [.long 0, .long 0, .long 0, .long 0]))) x = some (.inr (0, [.ref sp, .ref sk, .ref po, .int (nI ht)])) := gh_keepN hf3 hxx
                have hsk_4 : (gh_up h q3 (.inr (1, [.long 0, .long 0, .long 0, .long 0]))) sk = some (.inl (cS, 6, .inr (.inr (.inr (.inr gs))))) := gh_keepN hf3 hsk
                have hpo_4 : (gh_up h q3 (.inr (1, [.long 0, .long 0, .long 0, .long 0]))) po = some (.inr (3, [.long px, .long py, .long pz, .long pw])) := gh_keepN hf3 hpo
                refine W.widen (k := 1) (n := 4) (by decide) (by decide) ?_
                refine lv_dup hx hb d_X_plane_117 rfl ?_
                refine lv_iload_n hx hb d_X_plane_118 rfl (lv_at hl 2 rfl) ?_
                refine lv_i2l (v := Int32.toInt64 a1) hx hb d_X_plane_119 rfl ?_
                refine lv_iload_n hx hb d_X_plane_120 rfl (lv_at hl 3 rfl) ?_
                refine lv_i2l (v := Int32.toInt64 b1) hx hb d_X_plane_121 rfl ?_
                refine lv_iload_n hx hb d_X_plane_122 rfl (lv_at hl 4 rfl) ?_
                refine lv_i2l (v := Int32.toInt64 c1) hx hb d_X_plane_123 rfl ?_
                refine lv_iload hx hb d_X_plane_124 (lv_at hl 5 rfl) ?_
                refine lv_i2l (v := Int32.toInt64 d1) hx hb d_X_plane_126 rfl ?_
                refine gh_cI (As := [.long (Int32.toInt64 a1), .long (Int32.toInt64 b1), .long (Int32.toInt64 c1), .long (Int32.toInt64 d1)]) (rest := [.ref q3, .ref sp]) (xF_ok b0) hx hb hml hown hK hX hG (c_Pl_init hq4) (q_Pl_init htb ⟨by decide, by decide⟩) (htb _ k_1_236) (htb _ k_1_34) rfl (htb _ k_1_35) rfl hl.1 rfl (Nat.le_of_ble_eq_true rfl) d_X_plane_127 ⟨by decide, by decide⟩ (fun v9 h9 H l9 hp9 hG => ?_) (fun _ _ _ _ hp9 _ => by cases hp9.1)
                obtain ⟨hv9, hh9⟩ := hp9
                cases hv9
                rw [hh9, gh_uu] at hG
                have hk_sp : (gh_up h q3 (.inr (1, [.long (Int32.toInt64 a1), .long (Int32.toInt64 b1), .long (Int32.toInt64 c1), .long (Int32.toInt64 d1)]))) sp = some (.inr (2, [.ref al, .ref fi, .int (nI n)])) := gh_keepN hf3 hsp
                have hk_al : (gh_up h q3 (.inr (1, [.long (Int32.toInt64 a1), .long (Int32.toInt64 b1), .long (Int32.toInt64 c1), .long (Int32.toInt64 d1)]))) al = some (.inl (cP, 14, .inr (.inr (.inr (.inr ga))))) := gh_keepN hf3 hal
                have hk_fi : (gh_up h q3 (.inr (1, [.long (Int32.toInt64 a1), .long (Int32.toInt64 b1), .long (Int32.toInt64 c1), .long (Int32.toInt64 d1)]))) fi = some (.inl (cI, 14, .inl gf)) := gh_keepN hf3 hfi
                have hk_x : (gh_up h q3 (.inr (1, [.long (Int32.toInt64 a1), .long (Int32.toInt64 b1), .long (Int32.toInt64 c1), .long (Int32.toInt64 d1)]))) x = some (.inr (0, [.ref sp, .ref sk, .ref po, .int (nI ht)])) := gh_keepN hf3 hxx
                have hk_sk : (gh_up h q3 (.inr (1, [.long (Int32.toInt64 a1), .long (Int32.toInt64 b1), .long (Int32.toInt64 c1), .long (Int32.toInt64 d1)]))) sk = some (.inl (cS, 6, .inr (.inr (.inr (.inr gs))))) := gh_keepN hf3 hsk
                have hk_po : (gh_up h q3 (.inr (1, [.long (Int32.toInt64 a1), .long (Int32.toInt64 b1), .long (Int32.toInt64 c1), .long (Int32.toInt64 d1)]))) po = some (.inr (3, [.long px, .long py, .long pz, .long pw])) := gh_keepN hf3 hpo
                have hk_pl : ∀ i, i < n → (gh_up h q3 (.inr (1, [.long (Int32.toInt64 a1), .long (Int32.toInt64 b1), .long (Int32.toInt64 c1), .long (Int32.toInt64 d1)]))) (pl i) = some (.inr (1, [.long (pa i), .long (pb i), .long (pc i), .long (pd i)])) := fun i hi => gh_keepN hf3 (hpl i hi)
                have hk_q : (gh_up h q3 (.inr (1, [.long (Int32.toInt64 a1), .long (Int32.toInt64 b1), .long (Int32.toInt64 c1), .long (Int32.toInt64 d1)]))) q3 = some (.inr (1, [.long (Int32.toInt64 a1), .long (Int32.toInt64 b1), .long (Int32.toInt64 c1), .long (Int32.toInt64 d1)])) := gh_self _ _ _
                refine W.eq (g2 := F0 m 130 ls [.ref q3, .ref sp]) rfl ?_
                refine W.widen (k := 1) (n := 4) (by decide) (by decide) ?_
                refine gh_cV (ci := 2) (As := [.ref q3]) (rest := []) (xF_ok b0) hx hb hml hown hK hX hG rfl hk_sp (c_Ps_add hk_sp hk_al hk_fi hga hgf hfs hk_pl hn hk_q (by omega)) (q_Ps_add htb ⟨by decide, by decide⟩) (htb _ k_1_237) (htb _ k_1_52) (htb _ k_1_53) rfl hl.1 rfl (Nat.le_of_ble_eq_true rfl) d_X_plane_130 ⟨by decide, by decide⟩ (fun v9 h9 H l9 hp9 hG => ?_) (fun _ _ _ _ hp9 _ => by cases hp9.1)
                obtain ⟨hv9, hh9⟩ := hp9
                cases hv9
                rw [hh9] at hG
                refine W.eq (g2 := F0 m 133 ls []) rfl ?_
                refine W.widen (k := 1) (n := 4) (by decide) (by decide) ?_
                refine lv_iload hx hb d_X_plane_133 (lv_at hl 0 rfl) ?_
                refine W.widen (k := 1) (n := 6) (by decide) (by decide) ?_
                exact gh_iret hx hb hr hlk rfl hG d_X_plane_135 (rB_0 (by simp [m_badP, hc5, hc28, hc37, hc46, hc66]) (rB_0 (decide_eq_false (by omega)) ⟨rfl, q3, hf3, rfl⟩))
              · skip
                replace hc88 : ¬ (n - 6) < 8 := fun q9 => hc88 ((nc_lt (a := (n - 6)) (b := 8) (by omega) (by omega) rfl rfl).mpr q9)
                refine W.widen (k := 0) (n := 0) (by decide) (by decide) ?_
                exact gh_thr (bytes := Bundle.six) (index := 7) (is := 57) (E := R_IS) (ci := 7) hx hb htr hlk hno hml hl.1 hown htb hK hX hG rfl (by decide +kernel) k_1_219 k_1_11 k_1_220 (List.mem_of_getElem? (i := 3) rfl) (by decide +kernel) (by decide +kernel) (by decide +kernel) (by decide +kernel) at_IS d_X_plane_91 d_X_plane_94 d_X_plane_95 d_X_plane_97 d_X_plane_100 (by decide) (by decide) (by decide) (by decide) (fun q9 hq9 => rB_0 (by simp [m_badP, hc5, hc28, hc37, hc46, hc66]) (rB_1 (decide_eq_true (by omega)) ⟨q9, rfl, hq9, rfl⟩))
            · skip
              replace hc66 := mb_1.mp hc66
              refine W.widen (k := 0) (n := 0) (by decide) (by decide) ?_
              exact gh_thr (bytes := Bundle.six) (index := 7) (is := 49) (E := R_IA) (ci := 6) hx hb htr hlk hno hml hl.1 hown htb hK hX hG rfl (by decide +kernel) k_1_143 k_1_10 k_1_144 (List.mem_of_getElem? (i := 2) rfl) (by decide +kernel) (by decide +kernel) (by decide +kernel) (by decide +kernel) at_IA d_X_plane_69 d_X_plane_72 d_X_plane_73 d_X_plane_75 d_X_plane_78 (by decide) (by decide) (by decide) (by decide) (fun q9 hq9 => rB_1 (by simp [m_badP, hc5, hc28, hc37, hc46, hc66]) ⟨q9, rfl, hq9, rfl⟩)
          · skip
            replace hc46 := mb_1.mp hc46
            refine W.widen (k := 0) (n := 0) (by decide) (by decide) ?_
            exact gh_thr (bytes := Bundle.six) (index := 7) (is := 46) (E := R_IA) (ci := 6) hx hb htr hlk hno hml hl.1 hown htb hK hX hG rfl (by decide +kernel) k_1_143 k_1_10 k_1_144 (List.mem_of_getElem? (i := 1) rfl) (by decide +kernel) (by decide +kernel) (by decide +kernel) (by decide +kernel) at_IA d_X_plane_49 d_X_plane_52 d_X_plane_53 d_X_plane_55 d_X_plane_58 (by decide) (by decide) (by decide) (by decide) (fun q9 hq9 => rB_1 (by simp [m_badP, hc5, hc28, hc37, hc46]) ⟨q9, rfl, hq9, rfl⟩)
    · skip
      refine lv_iload_n hx hb d_X_plane_8 rfl (lv_at hl 3 rfl) ?_
      refine lv_if_ne (tgt := 22) hx hb d_X_plane_9 (by decide) (fun hc9 => ?_) (fun hc9 => ?_)
      · skip
        refine lv_iload_n hx hb d_X_plane_22 rfl (lv_at hl 1 rfl) ?_
        refine lv_ldc (v := 1000000) hx hb hown (htb _ k_1_212) d_X_plane_23 ?_
        refine gh_cS (As := [.int a1, .int 1000000]) (rest := []) (xF_ok b0) hx hb hml hown hK hX hG c_X_isBeyond (q_X_isBeyond htb ⟨by decide, by decide⟩) (htb _ k_1_213) (htb _ k_1_214) rfl hl.1 rfl (Nat.le_of_ble_eq_true rfl) d_X_plane_25 ⟨by decide, by decide⟩ (fun v9 h9 H l9 hp9 hG => ?_) (fun _ _ _ _ hp9 _ => by cases hp9.1)
        obtain ⟨hv9, hh9⟩ := hp9
        cases hv9
        rw [hh9] at hG
        refine W.eq (g2 := F0 m 28 ls [.int (m_b (m_bey a1 1000000))]) rfl ?_
        refine W.widen (k := 0) (n := 0) (by decide) (by decide) ?_
        refine lv_if_ne (tgt := 49) hx hb d_X_plane_28 (by decide) (fun hc28 => ?_) (fun hc28 => ?_)
        · skip
          replace hc28 := mb_1.mp hc28
          refine W.widen (k := 0) (n := 0) (by decide) (by decide) ?_
          exact gh_thr (bytes := Bundle.six) (index := 7) (is := 46) (E := R_IA) (ci := 6) hx hb htr hlk hno hml hl.1 hown htb hK hX hG rfl (by decide +kernel) k_1_143 k_1_10 k_1_144 (List.mem_of_getElem? (i := 1) rfl) (by decide +kernel) (by decide +kernel) (by decide +kernel) (by decide +kernel) at_IA d_X_plane_49 d_X_plane_52 d_X_plane_53 d_X_plane_55 d_X_plane_58 (by decide) (by decide) (by decide) (by decide) (fun q9 hq9 => rB_1 (by simp [m_badP, hc9, hc28]) ⟨q9, rfl, hq9, rfl⟩)
        · skip
          replace hc28 := mb_0.mp hc28
          refine lv_iload_n hx hb d_X_plane_31 rfl (lv_at hl 2 rfl) ?_
          refine lv_ldc (v := 1000000) hx hb hown (htb _ k_1_212) d_X_plane_32 ?_
          refine gh_cS (As := [.int b1, .int 1000000]) (rest := []) (xF_ok b0) hx hb hml hown hK hX hG c_X_isBeyond (q_X_isBeyond htb ⟨by decide, by decide⟩) (htb _ k_1_213) (htb _ k_1_214) rfl hl.1 rfl (Nat.le_of_ble_eq_true rfl) d_X_plane_34 ⟨by decide, by decide⟩ (fun v9 h9 H l9 hp9 hG => ?_) (fun _ _ _ _ hp9 _ => by cases hp9.1)
          obtain ⟨hv9, hh9⟩ := hp9
          cases hv9
          rw [hh9] at hG
          refine W.eq (g2 := F0 m 37 ls [.int (m_b (m_bey b1 1000000))]) rfl ?_
          refine W.widen (k := 0) (n := 0) (by decide) (by decide) ?_
          refine lv_if_ne (tgt := 49) hx hb d_X_plane_37 (by decide) (fun hc37 => ?_) (fun hc37 => ?_)
          · skip
            replace hc37 := mb_1.mp hc37
            refine W.widen (k := 0) (n := 0) (by decide) (by decide) ?_
            exact gh_thr (bytes := Bundle.six) (index := 7) (is := 46) (E := R_IA) (ci := 6) hx hb htr hlk hno hml hl.1 hown htb hK hX hG rfl (by decide +kernel) k_1_143 k_1_10 k_1_144 (List.mem_of_getElem? (i := 1) rfl) (by decide +kernel) (by decide +kernel) (by decide +kernel) (by decide +kernel) at_IA d_X_plane_49 d_X_plane_52 d_X_plane_53 d_X_plane_55 d_X_plane_58 (by decide) (by decide) (by decide) (by decide) (fun q9 hq9 => rB_1 (by simp [m_badP, hc9, hc28, hc37]) ⟨q9, rfl, hq9, rfl⟩)
          · skip
            replace hc37 := mb_0.mp hc37
            refine lv_iload_n hx hb d_X_plane_40 rfl (lv_at hl 3 rfl) ?_
            refine lv_ldc (v := 1000000) hx hb hown (htb _ k_1_212) d_X_plane_41 ?_
            refine gh_cS (As := [.int c1, .int 1000000]) (rest := []) (xF_ok b0) hx hb hml hown hK hX hG c_X_isBeyond (q_X_isBeyond htb ⟨by decide, by decide⟩) (htb _ k_1_213) (htb _ k_1_214) rfl hl.1 rfl (Nat.le_of_ble_eq_true rfl) d_X_plane_43 ⟨by decide, by decide⟩ (fun v9 h9 H l9 hp9 hG => ?_) (fun _ _ _ _ hp9 _ => by cases hp9.1)
            obtain ⟨hv9, hh9⟩ := hp9
            cases hv9
            rw [hh9] at hG
            refine W.eq (g2 := F0 m 46 ls [.int (m_b (m_bey c1 1000000))]) rfl ?_
            refine W.widen (k := 0) (n := 0) (by decide) (by decide) ?_
            refine lv_if_eq (tgt := 59) hx hb d_X_plane_46 (by decide) (fun hc46 => ?_) (fun hc46 => ?_)
            · skip
              replace hc46 := mb_0.mp hc46
              refine lv_iload hx hb d_X_plane_59 (lv_at hl 4 rfl) ?_
              refine lv_ldc (v := 1000000000) hx hb hown (htb _ k_1_217) d_X_plane_61 ?_
              refine gh_cS (As := [.int d1, .int 1000000000]) (rest := []) (xF_ok b0) hx hb hml hown hK hX hG c_X_isBeyond (q_X_isBeyond htb ⟨by decide, by decide⟩) (htb _ k_1_213) (htb _ k_1_214) rfl hl.1 rfl (Nat.le_of_ble_eq_true rfl) d_X_plane_63 ⟨by decide, by decide⟩ (fun v9 h9 H l9 hp9 hG => ?_) (fun _ _ _ _ hp9 _ => by cases hp9.1)
              obtain ⟨hv9, hh9⟩ := hp9
              cases hv9
              rw [hh9] at hG
              refine W.eq (g2 := F0 m 66 ls [.int (m_b (m_bey d1 1000000000))]) rfl ?_
              refine W.widen (k := 0) (n := 0) (by decide) (by decide) ?_
              refine lv_if_eq (tgt := 79) hx hb d_X_plane_66 (by decide) (fun hc66 => ?_) (fun hc66 => ?_)
              · skip
                replace hc66 := mb_0.mp hc66
                refine lv_aload_n hx hb d_X_plane_79 rfl (lv_at hl 0 rfl) ?_
                refine gh_get (ci := 0) hx hb htb in_X hown hK hG hxx rfl 0 (by decide) (htb _ k_1_109) (fun _ h9 => h9) rfl d_X_plane_80 ?_
                refine gh_cV (ci := 2) (As := []) (rest := []) (xF_ok b0) hx hb hml hown hK hX hG rfl hsp (c_Ps_given hsp hal hfi hga hgf hfs hpl hn h6) (q_Ps_given htb ⟨by decide, by decide⟩) (htb _ k_1_126) (htb _ k_1_127) (htb _ k_1_128) rfl hl.1 rfl (Nat.le_of_ble_eq_true rfl) d_X_plane_83 ⟨by decide, by decide⟩ (fun v9 h9 H l9 hp9 hG => ?_) (fun _ _ _ _ hp9 _ => by cases hp9.1)
                obtain ⟨hv9, hh9⟩ := hp9
                cases hv9
                rw [hh9] at hG
                refine W.eq (g2 := F0 m 86 ls [.int (nI (n - 6))]) rfl ?_
                refine W.widen (k := 0) (n := 0) (by decide) (by decide) ?_
                refine lv_bipush (v := 8) hx hb d_X_plane_86 (by decide) ?_
                refine lv_icmp_lt (tgt := 101) hx hb d_X_plane_88 (by decide) (fun hc88 => ?_) (fun hc88 => ?_)
                · skip
                  replace hc88 : (n - 6) < 8 := (nc_lt (a := (n - 6)) (b := 8) (by omega) (by omega) rfl rfl).mp hc88
                  refine lv_aload_n hx hb d_X_plane_101 rfl (lv_at hl 0 rfl) ?_
                  refine gh_get (ci := 0) hx hb htb in_X hown hK hG hxx rfl 0 (by decide) (htb _ k_1_109) (fun _ h9 => h9) rfl d_X_plane_102 ?_
                  refine gh_cV (ci := 2) (As := []) (rest := []) (xF_ok b0) hx hb hml hown hK hX hG rfl hsp (c_Ps_given hsp hal hfi hga hgf hfs hpl hn h6) (q_Ps_given htb ⟨by decide, by decide⟩) (htb _ k_1_126) (htb _ k_1_127) (htb _ k_1_128) rfl hl.1 rfl (Nat.le_of_ble_eq_true rfl) d_X_plane_105 ⟨by decide, by decide⟩ (fun v9 h9 H l9 hp9 hG => ?_) (fun _ _ _ _ hp9 _ => by cases hp9.1)
                  obtain ⟨hv9, hh9⟩ := hp9
                  cases hv9
                  rw [hh9] at hG
                  refine W.eq (g2 := F0 m 108 ls [.int (nI (n - 6))]) rfl ?_
                  refine W.widen (k := 0) (n := 0) (by decide) (by decide) ?_
                  refine lv_istore (lv' := [(5, .int (nI (n - 6))), (0, .ref x), (1, .int a1), (2, .int b1), (3, .int c1), (4, .int d1)]) hx hb d_X_plane_108 hl (by decide) rfl (fun ls hl => ?_)
                  refine lv_aload_n hx hb d_X_plane_110 rfl (lv_at hl 1 rfl) ?_
                  refine gh_get (ci := 0) hx hb htb in_X hown hK hG hxx rfl 0 (by decide) (htb _ k_1_109) (fun _ h9 => h9) rfl d_X_plane_111 ?_
                  refine gh_new (ci := 1) (fs := [.long 0, .long 0, .long 0, .long 0]) hx hb htb in_Pl t_Pl ty_Pl hown (htb _ k_1_235) (htb _ k_1_31) (htb _ k_1_3) hK hG rfl (fun j hj => by rcases (show j = 0 ∨ j = 1 ∨ j = 2 ∨ j = 3 by omega) with rfl | rfl | rfl | rfl <;> rfl) (by decide) (by decide) d_X_plane_114 (fun q5 H hf5 hG => ?_)
                  have hq6 : (gh_up h q5 (.inr (1, [.long 0, .long 0, .long 0, .long 0]))) q5 = some (.inr (1, [.long 0, .long 0, .long 0, .long 0])) := gh_self _ _ _
                  replace hG : gh_P D vC b0 (gh_up h q5 (.inr (1, [.long 0, .long 0, .long 0, .long 0]))) s.heap _ _ := hG
                  have hsp_6 : (gh_up h q5 (.inr (1, [.long 0, .long 0, .long 0, .long 0]))) sp = some (.inr (2, [.ref al, .ref fi, .int (nI n)])) := gh_keepN hf5 hsp
                  have hal_6 : (gh_up h q5 (.inr (1, [.long 0, .long 0, .long 0, .long 0]))) al = some (.inl (cP, 14, .inr (.inr (.inr (.inr ga))))) := gh_keepN hf5 hal
                  have hfi_6 : (gh_up h q5 (.inr (1, [.long 0, .long 0, .long 0, .long 0]))) fi = some (.inl (cI, 14, .inl gf)) := gh_keepN hf5 hfi
                  have hxx_6 : (gh_up h q5 (.inr (1, [.long 0, .long 0, .long 0, .long 0]))) x = some (.inr (0, [.ref sp, .ref sk, .ref po, .int (nI ht)])) := gh_keepN hf5 hxx
                  have hsk_6 : (gh_up h q5 (.inr (1, [.long 0, .long 0, .long 0, .long 0]))) sk = some (.inl (cS, 6, .inr (.inr (.inr (.inr gs))))) := gh_keepN hf5 hsk
                  have hpo_6 : (gh_up h q5 (.inr (1, [.long 0, .long 0, .long 0, .long 0]))) po = some (.inr (3, [.long px, .long py, .long pz, .long pw])) := gh_keepN hf5 hpo
                  refine W.widen (k := 1) (n := 4) (by decide) (by decide) ?_
                  refine lv_dup hx hb d_X_plane_117 rfl ?_
                  refine lv_iload_n hx hb d_X_plane_118 rfl (lv_at hl 2 rfl) ?_
                  refine lv_i2l (v := Int32.toInt64 a1) hx hb d_X_plane_119 rfl ?_
                  refine lv_iload_n hx hb d_X_plane_120 rfl (lv_at hl 3 rfl) ?_
                  refine lv_i2l (v := Int32.toInt64 b1) hx hb d_X_plane_121 rfl ?_
                  refine lv_iload_n hx hb d_X_plane_122 rfl (lv_at hl 4 rfl) ?_
                  refine lv_i2l (v := Int32.toInt64 c1) hx hb d_X_plane_123 rfl ?_
                  refine lv_iload hx hb d_X_plane_124 (lv_at hl 5 rfl) ?_
                  refine lv_i2l (v := Int32.toInt64 d1) hx hb d_X_plane_126 rfl ?_
                  refine gh_cI (As := [.long (Int32.toInt64 a1), .long (Int32.toInt64 b1), .long (Int32.toInt64 c1), .long (Int32.toInt64 d1)]) (rest := [.ref q5, .ref sp]) (xF_ok b0) hx hb hml hown hK hX hG (c_Pl_init hq6) (q_Pl_init htb ⟨by decide, by decide⟩) (htb _ k_1_236) (htb _ k_1_34) rfl (htb _ k_1_35) rfl hl.1 rfl (Nat.le_of_ble_eq_true rfl) d_X_plane_127 ⟨by decide, by decide⟩ (fun v9 h9 H l9 hp9 hG => ?_) (fun _ _ _ _ hp9 _ => by cases hp9.1)
                  obtain ⟨hv9, hh9⟩ := hp9
                  cases hv9
                  rw [hh9, gh_uu] at hG
                  have hk_sp : (gh_up h q5 (.inr (1, [.long (Int32.toInt64 a1), .long (Int32.toInt64 b1), .long (Int32.toInt64 c1), .long (Int32.toInt64 d1)]))) sp = some (.inr (2, [.ref al, .ref fi, .int (nI n)])) := gh_keepN hf5 hsp
                  have hk_al : (gh_up h q5 (.inr (1, [.long (Int32.toInt64 a1), .long (Int32.toInt64 b1), .long (Int32.toInt64 c1), .long (Int32.toInt64 d1)]))) al = some (.inl (cP, 14, .inr (.inr (.inr (.inr ga))))) := gh_keepN hf5 hal
                  have hk_fi : (gh_up h q5 (.inr (1, [.long (Int32.toInt64 a1), .long (Int32.toInt64 b1), .long (Int32.toInt64 c1), .long (Int32.toInt64 d1)]))) fi = some (.inl (cI, 14, .inl gf)) := gh_keepN hf5 hfi
                  have hk_x : (gh_up h q5 (.inr (1, [.long (Int32.toInt64 a1), .long (Int32.toInt64 b1), .long (Int32.toInt64 c1), .long (Int32.toInt64 d1)]))) x = some (.inr (0, [.ref sp, .ref sk, .ref po, .int (nI ht)])) := gh_keepN hf5 hxx
                  have hk_sk : (gh_up h q5 (.inr (1, [.long (Int32.toInt64 a1), .long (Int32.toInt64 b1), .long (Int32.toInt64 c1), .long (Int32.toInt64 d1)]))) sk = some (.inl (cS, 6, .inr (.inr (.inr (.inr gs))))) := gh_keepN hf5 hsk
                  have hk_po : (gh_up h q5 (.inr (1, [.long (Int32.toInt64 a1), .long (Int32.toInt64 b1), .long (Int32.toInt64 c1), .long (Int32.toInt64 d1)]))) po = some (.inr (3, [.long px, .long py, .long pz, .long pw])) := gh_keepN hf5 hpo
                  have hk_pl : ∀ i, i < n → (gh_up h q5 (.inr (1, [.long (Int32.toInt64 a1), .long (Int32.toInt64 b1), .long (Int32.toInt64 c1), .long (Int32.toInt64 d1)]))) (pl i) = some (.inr (1, [.long (pa i), .long (pb i), .long (pc i), .long (pd i)])) := fun i hi => gh_keepN hf5 (hpl i hi)
                  have hk_q : (gh_up h q5 (.inr (1, [.long (Int32.toInt64 a1), .long (Int32.toInt64 b1), .long (Int32.toInt64 c1), .long (Int32.toInt64 d1)]))) q5 = some (.inr (1, [.long (Int32.toInt64 a1), .long (Int32.toInt64 b1), .long (Int32.toInt64 c1), .long (Int32.toInt64 d1)])) := gh_self _ _ _
                  refine W.eq (g2 := F0 m 130 ls [.ref q5, .ref sp]) rfl ?_
                  refine W.widen (k := 1) (n := 4) (by decide) (by decide) ?_
                  refine gh_cV (ci := 2) (As := [.ref q5]) (rest := []) (xF_ok b0) hx hb hml hown hK hX hG rfl hk_sp (c_Ps_add hk_sp hk_al hk_fi hga hgf hfs hk_pl hn hk_q (by omega)) (q_Ps_add htb ⟨by decide, by decide⟩) (htb _ k_1_237) (htb _ k_1_52) (htb _ k_1_53) rfl hl.1 rfl (Nat.le_of_ble_eq_true rfl) d_X_plane_130 ⟨by decide, by decide⟩ (fun v9 h9 H l9 hp9 hG => ?_) (fun _ _ _ _ hp9 _ => by cases hp9.1)
                  obtain ⟨hv9, hh9⟩ := hp9
                  cases hv9
                  rw [hh9] at hG
                  refine W.eq (g2 := F0 m 133 ls []) rfl ?_
                  refine W.widen (k := 1) (n := 4) (by decide) (by decide) ?_
                  refine lv_iload hx hb d_X_plane_133 (lv_at hl 0 rfl) ?_
                  refine W.widen (k := 1) (n := 6) (by decide) (by decide) ?_
                  exact gh_iret hx hb hr hlk rfl hG d_X_plane_135 (rB_0 (by simp [m_badP, hc9, hc28, hc37, hc46, hc66]) (rB_0 (decide_eq_false (by omega)) ⟨rfl, q5, hf5, rfl⟩))
                · skip
                  replace hc88 : ¬ (n - 6) < 8 := fun q9 => hc88 ((nc_lt (a := (n - 6)) (b := 8) (by omega) (by omega) rfl rfl).mpr q9)
                  refine W.widen (k := 0) (n := 0) (by decide) (by decide) ?_
                  exact gh_thr (bytes := Bundle.six) (index := 7) (is := 57) (E := R_IS) (ci := 7) hx hb htr hlk hno hml hl.1 hown htb hK hX hG rfl (by decide +kernel) k_1_219 k_1_11 k_1_220 (List.mem_of_getElem? (i := 3) rfl) (by decide +kernel) (by decide +kernel) (by decide +kernel) (by decide +kernel) at_IS d_X_plane_91 d_X_plane_94 d_X_plane_95 d_X_plane_97 d_X_plane_100 (by decide) (by decide) (by decide) (by decide) (fun q9 hq9 => rB_0 (by simp [m_badP, hc9, hc28, hc37, hc46, hc66]) (rB_1 (decide_eq_true (by omega)) ⟨q9, rfl, hq9, rfl⟩))
              · skip
                replace hc66 := mb_1.mp hc66
                refine W.widen (k := 0) (n := 0) (by decide) (by decide) ?_
                exact gh_thr (bytes := Bundle.six) (index := 7) (is := 49) (E := R_IA) (ci := 6) hx hb htr hlk hno hml hl.1 hown htb hK hX hG rfl (by decide +kernel) k_1_143 k_1_10 k_1_144 (List.mem_of_getElem? (i := 2) rfl) (by decide +kernel) (by decide +kernel) (by decide +kernel) (by decide +kernel) at_IA d_X_plane_69 d_X_plane_72 d_X_plane_73 d_X_plane_75 d_X_plane_78 (by decide) (by decide) (by decide) (by decide) (fun q9 hq9 => rB_1 (by simp [m_badP, hc9, hc28, hc37, hc46, hc66]) ⟨q9, rfl, hq9, rfl⟩)
            · skip
              replace hc46 := mb_1.mp hc46
              refine W.widen (k := 0) (n := 0) (by decide) (by decide) ?_
              exact gh_thr (bytes := Bundle.six) (index := 7) (is := 46) (E := R_IA) (ci := 6) hx hb htr hlk hno hml hl.1 hown htb hK hX hG rfl (by decide +kernel) k_1_143 k_1_10 k_1_144 (List.mem_of_getElem? (i := 1) rfl) (by decide +kernel) (by decide +kernel) (by decide +kernel) (by decide +kernel) at_IA d_X_plane_49 d_X_plane_52 d_X_plane_53 d_X_plane_55 d_X_plane_58 (by decide) (by decide) (by decide) (by decide) (fun q9 hq9 => rB_1 (by simp [m_badP, hc9, hc28, hc37, hc46]) ⟨q9, rfl, hq9, rfl⟩)
      · skip
        refine W.widen (k := 0) (n := 0) (by decide) (by decide) ?_
        exact gh_thr (bytes := Bundle.six) (index := 7) (is := 36) (E := R_IA) (ci := 6) hx hb htr hlk hno hml hl.1 hown htb hK hX hG rfl (by decide +kernel) k_1_143 k_1_10 k_1_144 (List.mem_of_getElem? (i := 0) rfl) (by decide +kernel) (by decide +kernel) (by decide +kernel) (by decide +kernel) at_IA d_X_plane_12 d_X_plane_15 d_X_plane_16 d_X_plane_18 d_X_plane_21 (by decide) (by decide) (by decide) (by decide) (fun q9 hq9 => rB_1 (by simp [m_badP, hc1, hc5, hc9]) ⟨q9, rfl, hq9, rfl⟩)

set_option maxHeartbeats 4000000 in
set_option maxRecDepth 100000 in
/-- convex -/
theorem c_X_convex {sp al fi : Nat} {n : Nat} {ga : Nat → Option Nat} {gf : Nat → Int32} {pl fs : Nat → Nat} {pa pb pc pd : Nat → Int64} (hsp : h sp = some (.inr (2, [.ref al, .ref fi, .int (nI n)]))) (hal : h al = some (.inl (cP, 14, .inr (.inr (.inr (.inr ga)))))) (hfi : h fi = some (.inl (cI, 14, .inl gf))) (hga : ∀ i, i < n → ga i = some (pl i)) (hgf : ∀ i, i < n → gf i = nI (fs i)) (hfs : ∀ i, fs i < 14) (hpl : ∀ i, i < n → h (pl i) = some (.inr (1, [.long (pa i), .long (pb i), .long (pc i), .long (pd i)]))) (hn : n ≤ 14) (h6 : 6 ≤ n) {x sk po : Nat} {gs : Nat → Option Nat} {so wo : Nat → Nat} {wd : Nat → Nat → Int64} {ht : Nat} {px py pz pw : Int64} (hxx : h x = some (.inr (0, [.ref sp, .ref sk, .ref po, .int (nI ht)]))) (hsk : h sk = some (.inl (cS, 6, .inr (.inr (.inr (.inr gs)))))) (hgs : ∀ j, j < 6 → gs j = some (so j)) (hpo : h po = some (.inr (3, [.long px, .long py, .long pz, .long pw]))) (hso : ∀ j, j < 6 → h (so j) = some (.inr (4, [.ref (wo j)]))) (hwo : ∀ j, j < 6 → h (wo j) = some (.inl (cJ, 4, .inr (.inl (wd j))))) (hwi : ∀ i j, i < 6 → j < 6 → wo i = wo j → i = j) (hht : ht ≤ 6) {set : Int32} (htr : xc_off l) : gh_C l D vC (tZ cI cJ cP cS) (xF b0) b0 y_X_convex w_X_convex ({ frames := 7, cells := 1, slots := 6, locals := 130 }) [.ref x, .int set] h (rB (m_badV set (n - 6)) (rT 6 h) (rB (decide (6 ≤ ht)) (rT 7 h) (fun oc h2 => oc = .returned (some (.int (nI (ht + 1)))) ∧ ∃ f2 : Nat → Int64, (∀ j, j < 4 → f2 j = m_cvx set 256 j) ∧ h2 = gh_up (gh_up h (wo ht) (.inl (cJ, 4, .inr (.inl f2)))) x (.inr (0, [.ref sp, .ref sk, .ref po, .int (nI (ht + 1))]))))) := by
  refine gh_ofW (by decide) (Nat.le_of_ble_eq_true rfl) ?_
  intro p e s m below meth c ls hctx hno hl hG hK hX
  obtain ⟨hx, hb, hr, hml, hown, hlk, hts, hnm⟩ := hctx
  have htb : ∀ w ∈ tB, w.before _ s = true := fun w hw => hts w (List.mem_cons_of_mem _ hw)
  replace hl : lv_has ls 2 [(0, .ref x), (1, .int set)] := hl
  refine lv_iload_n hx hb d_X_convex_0 rfl (lv_at hl 1 rfl) ?_
  refine lv_if_lt (tgt := 16) hx hb d_X_convex_1 (by decide) (fun hc1 => ?_) (fun hc1 => ?_)
  · skip
    refine W.widen (k := 0) (n := 0) (by decide) (by decide) ?_
    exact gh_thr (bytes := Bundle.six) (index := 7) (is := 69) (E := R_IA) (ci := 6) hx hb htr hlk hno hml hl.1 hown htb hK hX hG rfl (by decide +kernel) k_1_143 k_1_10 k_1_144 (List.mem_of_getElem? (i := 4) rfl) (by decide +kernel) (by decide +kernel) (by decide +kernel) (by decide +kernel) at_IA d_X_convex_16 d_X_convex_19 d_X_convex_20 d_X_convex_22 d_X_convex_25 (by decide) (by decide) (by decide) (by decide) (fun q9 hq9 => rB_1 (by simp [m_badV, hc1]) ⟨q9, rfl, hq9, rfl⟩)
  · skip
    refine lv_iload_n hx hb d_X_convex_4 rfl (lv_at hl 1 rfl) ?_
    refine lv_aload_n hx hb d_X_convex_5 rfl (lv_at hl 0 rfl) ?_
    refine gh_get (ci := 0) hx hb htb in_X hown hK hG hxx rfl 0 (by decide) (htb _ k_1_109) (fun _ h9 => h9) rfl d_X_convex_6 ?_
    refine gh_cV (ci := 2) (As := []) (rest := [.int set]) (xF_ok b0) hx hb hml hown hK hX hG rfl hsp (c_Ps_given hsp hal hfi hga hgf hfs hpl hn h6) (q_Ps_given htb ⟨by decide, by decide⟩) (htb _ k_1_126) (htb _ k_1_127) (htb _ k_1_128) rfl hl.1 rfl (Nat.le_of_ble_eq_true rfl) d_X_convex_9 ⟨by decide, by decide⟩ (fun v9 h9 H l9 hp9 hG => ?_) (fun _ _ _ _ hp9 _ => by cases hp9.1)
    obtain ⟨hv9, hh9⟩ := hp9
    cases hv9
    rw [hh9] at hG
    refine W.eq (g2 := F0 m 12 ls [.int (nI (n - 6)), .int set]) rfl ?_
    refine W.widen (k := 0) (n := 0) (by decide) (by decide) ?_
    refine lv_ishr hx hb d_X_convex_12 ?_
    refine lv_if_eq (tgt := 26) hx hb d_X_convex_13 (by decide) (fun hc13 => ?_) (fun hc13 => ?_)
    · skip
      refine lv_aload_n hx hb d_X_convex_26 rfl (lv_at hl 0 rfl) ?_
      refine gh_cV (ci := 0) (As := []) (rest := []) (xF_ok b0) hx hb hml hown hK hX hG rfl hxx (c_X_requireRoom hxx hht htr) (q_X_requireRoom htb ⟨by decide, by decide⟩) (htb _ k_2_6) (htb _ k_2_8) (htb _ k_s_X_requireRoom) rfl hl.1 rfl (Nat.le_of_ble_eq_true rfl) d_X_convex_27 ⟨by decide, by decide⟩ (fun v9 h9 H l9 hp9 hG => ?_) (fun x9 h9 H l9 hp9 hG => gx_widenT (k := 1) (n := 6) (by decide) (by decide) (gh_pass hlk (fun z9 hz9 => hno z9 hz9 _) hG (rB_0 (by simp [m_badV, hc1, hc13]) (rB_1 (rB_v hp9).1 (rB_v hp9).2))))
      obtain ⟨hb9, hv9, hh9⟩ := rB_r hp9
      cases hv9
      rw [hh9] at hG
      have hroom := of_decide_eq_false hb9
      refine W.eq (g2 := F0 m 30 ls []) rfl ?_
      refine W.widen (k := 1) (n := 6) (by decide) (by decide) ?_
      refine lv_aload_n hx hb d_X_convex_30 rfl (lv_at hl 0 rfl) ?_
      refine gh_get (ci := 0) hx hb htb in_X hown hK hG hxx rfl 1 (by decide) (htb _ k_1_110) (fun _ h9 => h9) rfl d_X_convex_31 ?_
      refine lv_aload_n hx hb d_X_convex_34 rfl (lv_at hl 0 rfl) ?_
      refine gh_get (ci := 0) hx hb htb in_X hown hK hG hxx rfl 3 (by decide) (htb _ k_1_112) (fun _ h9 => h9) rfl d_X_convex_35 ?_
      refine gh_aald (v := so ht) hx hb hK hG 3 hsk rfl (vp_in_nI (by omega) (by decide)) (by rw [nI_clamp (by omega)]; exact hgs _ (by omega)) d_X_convex_38 ?_
      refine lv_iload_n hx hb d_X_convex_39 rfl (lv_at hl 1 rfl) ?_
      refine gh_cV (ci := 4) (As := [.int set]) (rest := []) (xF_ok b0) hx hb hml hown hK hX hG rfl (hso ht (by omega)) (c_So_becomeConvex (hso ht (by omega)) (hwo ht (by omega)) (set := set)) (q_So_becomeConvex htb ⟨by decide, by decide⟩) (htb _ k_2_11) (htb _ k_2_12) (htb _ k_2_13) rfl hl.1 rfl (Nat.le_of_ble_eq_true rfl) d_X_convex_40 ⟨by decide, by decide⟩ (fun v9 h9 H l9 hp9 hG => ?_) (fun _ _ _ _ hp9 _ => by cases hp9.1)
      obtain ⟨hv9, f2, hf2, hh9⟩ := hp9
      cases hv9
      rw [hh9] at hG
      have hq1 : (gh_up h (wo ht) (.inl (cJ, 4, .inr (.inl f2)))) (wo ht) = some (.inl (cJ, 4, .inr (.inl f2))) := gh_self _ _ _
      replace hG : gh_P D vC b0 (gh_up h (wo ht) (.inl (cJ, 4, .inr (.inl f2)))) s.heap _ _ := hG
      have hsp_1 : (gh_up h (wo ht) (.inl (cJ, 4, .inr (.inl f2)))) sp = some (.inr (2, [.ref al, .ref fi, .int (nI n)])) := gh_keep (hwo ht (by omega)) hsp (by simp)
      have hal_1 : (gh_up h (wo ht) (.inl (cJ, 4, .inr (.inl f2)))) al = some (.inl (cP, 14, .inr (.inr (.inr (.inr ga))))) := gh_keep (hwo ht (by omega)) hal (by simp)
      have hfi_1 : (gh_up h (wo ht) (.inl (cJ, 4, .inr (.inl f2)))) fi = some (.inl (cI, 14, .inl gf)) := gh_keep (hwo ht (by omega)) hfi (by simp)
      have hxx_1 : (gh_up h (wo ht) (.inl (cJ, 4, .inr (.inl f2)))) x = some (.inr (0, [.ref sp, .ref sk, .ref po, .int (nI ht)])) := gh_keep (hwo ht (by omega)) hxx (by simp)
      have hsk_1 : (gh_up h (wo ht) (.inl (cJ, 4, .inr (.inl f2)))) sk = some (.inl (cS, 6, .inr (.inr (.inr (.inr gs))))) := gh_keep (hwo ht (by omega)) hsk (by simp)
      have hpo_1 : (gh_up h (wo ht) (.inl (cJ, 4, .inr (.inl f2)))) po = some (.inr (3, [.long px, .long py, .long pz, .long pw])) := gh_keep (hwo ht (by omega)) hpo (by simp)
      refine W.eq (g2 := F0 m 43 ls []) rfl ?_
      refine W.widen (k := 1) (n := 6) (by decide) (by decide) ?_
      refine lv_aload_n hx hb d_X_convex_43 rfl (lv_at hl 0 rfl) ?_
      refine lv_dup hx hb d_X_convex_44 rfl ?_
      refine gh_get (ci := 0) hx hb htb in_X hown hK hG hxx_1 rfl 3 (by decide) (htb _ k_1_112) (fun _ h9 => h9) rfl d_X_convex_45 ?_
      refine lv_iconst (v := 1) hx hb d_X_convex_48 (by decide) ?_
      refine lv_iadd hx hb d_X_convex_49 ?_
      rw [show nI ht + 1 = nI (ht + 1) from nI_1 ht]
      refine gh_put (ci := 0) (ty := .int) hx hb htb in_X t_X ty_X nm_X hown hK hG hxx_1 rfl 3 (by decide) (htb _ k_1_112) (fun _ h9 => h9) rfl (by decide +kernel) rfl rfl (Nat.le_of_ble_eq_true rfl) d_X_convex_50 (fun H l9 hG => ?_)
      have hq2 : (gh_up (gh_up h (wo ht) (.inl (cJ, 4, .inr (.inl f2)))) x (.inr (0, [.ref sp, .ref sk, .ref po, .int (nI (ht + 1))]))) x = some (.inr (0, [.ref sp, .ref sk, .ref po, .int (nI (ht + 1))])) := gh_self _ _ _
      replace hG : gh_P D vC b0 (gh_up (gh_up h (wo ht) (.inl (cJ, 4, .inr (.inl f2)))) x (.inr (0, [.ref sp, .ref sk, .ref po, .int (nI (ht + 1))]))) s.heap _ _ := hG
      have hsp_2 : (gh_up (gh_up h (wo ht) (.inl (cJ, 4, .inr (.inl f2)))) x (.inr (0, [.ref sp, .ref sk, .ref po, .int (nI (ht + 1))]))) sp = some (.inr (2, [.ref al, .ref fi, .int (nI n)])) := gh_keep hxx_1 hsp_1 (by simp)
      have hal_2 : (gh_up (gh_up h (wo ht) (.inl (cJ, 4, .inr (.inl f2)))) x (.inr (0, [.ref sp, .ref sk, .ref po, .int (nI (ht + 1))]))) al = some (.inl (cP, 14, .inr (.inr (.inr (.inr ga))))) := gh_keep hxx_1 hal_1 (by simp)
      have hfi_2 : (gh_up (gh_up h (wo ht) (.inl (cJ, 4, .inr (.inl f2)))) x (.inr (0, [.ref sp, .ref sk, .ref po, .int (nI (ht + 1))]))) fi = some (.inl (cI, 14, .inl gf)) := gh_keep hxx_1 hfi_1 (by simp)
      have hsk_2 : (gh_up (gh_up h (wo ht) (.inl (cJ, 4, .inr (.inl f2)))) x (.inr (0, [.ref sp, .ref sk, .ref po, .int (nI (ht + 1))]))) sk = some (.inl (cS, 6, .inr (.inr (.inr (.inr gs))))) := gh_keep hxx_1 hsk_1 (by simp)
      have hpo_2 : (gh_up (gh_up h (wo ht) (.inl (cJ, 4, .inr (.inl f2)))) x (.inr (0, [.ref sp, .ref sk, .ref po, .int (nI (ht + 1))]))) po = some (.inr (3, [.long px, .long py, .long pz, .long pw])) := gh_keep hxx_1 hpo_1 (by simp)
      refine lv_aload_n hx hb d_X_convex_53 rfl (lv_at hl 0 rfl) ?_
      refine gh_get (ci := 0) hx hb htb in_X hown hK hG hq2 rfl 3 (by decide) (htb _ k_1_112) (fun _ h9 => h9) rfl d_X_convex_54 ?_
      exact gh_iret hx hb hr hlk rfl hG d_X_convex_57 (rB_0 (by simp [m_badV, hc1, hc13]) (rB_0 (decide_eq_false hroom) ⟨rfl, f2, hf2, rfl⟩))
    · skip
      refine W.widen (k := 0) (n := 0) (by decide) (by decide) ?_
      exact gh_thr (bytes := Bundle.six) (index := 7) (is := 69) (E := R_IA) (ci := 6) hx hb htr hlk hno hml hl.1 hown htb hK hX hG rfl (by decide +kernel) k_1_143 k_1_10 k_1_144 (List.mem_of_getElem? (i := 4) rfl) (by decide +kernel) (by decide +kernel) (by decide +kernel) (by decide +kernel) at_IA d_X_convex_16 d_X_convex_19 d_X_convex_20 d_X_convex_22 d_X_convex_25 (by decide) (by decide) (by decide) (by decide) (fun q9 hq9 => rB_1 (by simp [m_badV, hc1, hc13]) ⟨q9, rfl, hq9, rfl⟩)

set_option maxHeartbeats 4000000 in
set_option maxRecDepth 100000 in
/-- join -/
theorem c_X_join {sp al fi : Nat} {n : Nat} {ga : Nat → Option Nat} {gf : Nat → Int32} {pl fs : Nat → Nat} {pa pb pc pd : Nat → Int64} (hsp : h sp = some (.inr (2, [.ref al, .ref fi, .int (nI n)]))) (hal : h al = some (.inl (cP, 14, .inr (.inr (.inr (.inr ga)))))) (hfi : h fi = some (.inl (cI, 14, .inl gf))) (hga : ∀ i, i < n → ga i = some (pl i)) (hgf : ∀ i, i < n → gf i = nI (fs i)) (hfs : ∀ i, fs i < 14) (hpl : ∀ i, i < n → h (pl i) = some (.inr (1, [.long (pa i), .long (pb i), .long (pc i), .long (pd i)]))) (hn : n ≤ 14) (h6 : 6 ≤ n) {x sk po : Nat} {gs : Nat → Option Nat} {so wo : Nat → Nat} {wd : Nat → Nat → Int64} {ht : Nat} {px py pz pw : Int64} (hxx : h x = some (.inr (0, [.ref sp, .ref sk, .ref po, .int (nI ht)]))) (hsk : h sk = some (.inl (cS, 6, .inr (.inr (.inr (.inr gs)))))) (hgs : ∀ j, j < 6 → gs j = some (so j)) (hpo : h po = some (.inr (3, [.long px, .long py, .long pz, .long pw]))) (hso : ∀ j, j < 6 → h (so j) = some (.inr (4, [.ref (wo j)]))) (hwo : ∀ j, j < 6 → h (wo j) = some (.inl (cJ, 4, .inr (.inl (wd j))))) (hwi : ∀ i j, i < 6 → j < 6 → wo i = wo j → i = j) (hht : ht ≤ 6) {how : Int32} (htr : xc_off l) : gh_C l D vC (tZ cI cJ cP cS) (xF b0) b0 y_X_join w_X_join ({ frames := 6, cells := 1, slots := 6, locals := 100 }) [.ref x, .int how] h (rB (m_badJ how) (rT 6 h) (rB (decide (ht < 2)) (rT 7 h) (fun oc h2 => oc = .returned (some (.int (nI (ht - 1)))) ∧ ∃ (v : Nat) (f2 : Nat → Int64), how = nI v ∧ v < 4 ∧ (∀ j, j < 4 → f2 j = m_jn v (wd (ht - 2) j) (wd (ht - 1) j)) ∧ h2 = gh_up (gh_up h (wo (ht - 2)) (.inl (cJ, 4, .inr (.inl f2)))) x (.inr (0, [.ref sp, .ref sk, .ref po, .int (nI (ht - 1))]))))) := by
  refine gh_ofW (by decide) (Nat.le_of_ble_eq_true rfl) ?_
  intro p e s m below meth c ls hctx hno hl hG hK hX
  obtain ⟨hx, hb, hr, hml, hown, hlk, hts, hnm⟩ := hctx
  have htb : ∀ w ∈ tB, w.before _ s = true := fun w hw => hts w (List.mem_cons_of_mem _ hw)
  replace hl : lv_has ls 2 [(0, .ref x), (1, .int how)] := hl
  refine lv_iload_n hx hb d_X_join_0 rfl (lv_at hl 1 rfl) ?_
  refine lv_if_lt (tgt := 9) hx hb d_X_join_1 (by decide) (fun hc1 => ?_) (fun hc1 => ?_)
  · skip
    refine W.widen (k := 0) (n := 0) (by decide) (by decide) ?_
    exact gh_thr (bytes := Bundle.six) (index := 7) (is := 78) (E := R_IA) (ci := 6) hx hb htr hlk hno hml hl.1 hown htb hK hX hG rfl (by decide +kernel) k_1_143 k_1_10 k_1_144 (List.mem_of_getElem? (i := 6) rfl) (by decide +kernel) (by decide +kernel) (by decide +kernel) (by decide +kernel) at_IA d_X_join_9 d_X_join_12 d_X_join_13 d_X_join_15 d_X_join_18 (by decide) (by decide) (by decide) (by decide) (fun q9 hq9 => rB_1 (by simp [m_badJ, hc1]) ⟨q9, rfl, hq9, rfl⟩)
  · skip
    obtain ⟨v, hv, rfl⟩ := nI_of hc1
    refine lv_iload_n hx hb d_X_join_4 rfl (lv_at hl 1 rfl) ?_
    refine lv_iconst (v := 4) hx hb d_X_join_5 (by decide) ?_
    refine lv_icmp_lt (tgt := 19) hx hb d_X_join_6 (by decide) (fun hc6 => ?_) (fun hc6 => ?_)
    · skip
      replace hc6 : v < 4 := (nc_lt (a := v) (b := 4) (by omega) (by omega) rfl rfl).mp hc6
      have hbJ : m_badJ (nI v) = false := by simp only [m_badJ, Bool.or_eq_false_iff, Bool.not_eq_false', decide_eq_false_iff_not, decide_eq_true_eq]; exact ⟨hc1, (nc_lt (a := v) (b := 4) (by omega) (by omega) rfl rfl).mpr hc6⟩
      refine lv_aload_n hx hb d_X_join_19 rfl (lv_at hl 0 rfl) ?_
      refine gh_get (ci := 0) hx hb htb in_X hown hK hG hxx rfl 3 (by decide) (htb _ k_1_112) (fun _ h9 => h9) rfl d_X_join_20 ?_
      refine lv_iconst (v := 2) hx hb d_X_join_23 (by decide) ?_
      refine lv_icmp_ge (tgt := 37) hx hb d_X_join_24 (by decide) (fun hc24 => ?_) (fun hc24 => ?_)
      · skip
        replace hc24 : 2 ≤ ht := (nc_le (a := 2) (b := ht) (by omega) (by omega) rfl rfl).mp hc24
        refine lv_aload_n hx hb d_X_join_37 rfl (lv_at hl 0 rfl) ?_
        refine gh_get (ci := 0) hx hb htb in_X hown hK hG hxx rfl 1 (by decide) (htb _ k_1_110) (fun _ h9 => h9) rfl d_X_join_38 ?_
        refine lv_aload_n hx hb d_X_join_41 rfl (lv_at hl 0 rfl) ?_
        refine gh_get (ci := 0) hx hb htb in_X hown hK hG hxx rfl 3 (by decide) (htb _ k_1_112) (fun _ h9 => h9) rfl d_X_join_42 ?_
        refine lv_iconst (v := 2) hx hb d_X_join_45 (by decide) ?_
        refine lv_isub hx hb d_X_join_46 ?_
        rw [show nI ht - 2 = nI (ht - 2) from pk_sub (a := ht) (b := 2) (by omega)]
        refine gh_aald (v := so (ht - 2)) hx hb hK hG 3 hsk rfl (vp_in_nI (by omega) (by decide)) (by rw [nI_clamp (by omega)]; exact hgs _ (by omega)) d_X_join_47 ?_
        refine lv_aload_n hx hb d_X_join_48 rfl (lv_at hl 0 rfl) ?_
        refine gh_get (ci := 0) hx hb htb in_X hown hK hG hxx rfl 1 (by decide) (htb _ k_1_110) (fun _ h9 => h9) rfl d_X_join_49 ?_
        refine lv_aload_n hx hb d_X_join_52 rfl (lv_at hl 0 rfl) ?_
        refine gh_get (ci := 0) hx hb htb in_X hown hK hG hxx rfl 3 (by decide) (htb _ k_1_112) (fun _ h9 => h9) rfl d_X_join_53 ?_
        refine lv_iconst (v := 1) hx hb d_X_join_56 (by decide) ?_
        refine lv_isub hx hb d_X_join_57 ?_
        rw [show nI ht - 1 = nI (ht - 1) from pk_sub (a := ht) (b := 1) (by omega)]
        refine gh_aald (v := so (ht - 1)) hx hb hK hG 3 hsk rfl (vp_in_nI (by omega) (by decide)) (by rw [nI_clamp (by omega)]; exact hgs _ (by omega)) d_X_join_58 ?_
        refine lv_iload_n hx hb d_X_join_59 rfl (lv_at hl 1 rfl) ?_
        refine gh_cV (ci := 4) (As := [.ref (so (ht - 1)), .int (nI v)]) (rest := []) (xF_ok b0) hx hb hml hown hK hX hG rfl (hso (ht - 2) (by omega)) (c_So_joinWith (hso (ht - 2) (by omega)) (hwo (ht - 2) (by omega)) (hso (ht - 1) (by omega)) (hwo (ht - 1) (by omega)) (fun k9 => absurd (hwi _ _ (by omega) (by omega) k9) (by omega)) (by omega)) (q_So_joinWith htb ⟨by decide, by decide⟩) (htb _ k_2_24) (htb _ k_2_25) (htb _ k_2_26) rfl hl.1 rfl (Nat.le_of_ble_eq_true rfl) d_X_join_60 ⟨by decide, by decide⟩ (fun v9 h9 H l9 hp9 hG => ?_) (fun _ _ _ _ hp9 _ => by cases hp9.1)
        obtain ⟨hv9, f2, hf2, hh9⟩ := hp9
        cases hv9
        rw [hh9] at hG
        have hq1 : (gh_up h (wo (ht - 2)) (.inl (cJ, 4, .inr (.inl f2)))) (wo (ht - 2)) = some (.inl (cJ, 4, .inr (.inl f2))) := gh_self _ _ _
        replace hG : gh_P D vC b0 (gh_up h (wo (ht - 2)) (.inl (cJ, 4, .inr (.inl f2)))) s.heap _ _ := hG
        have hsp_1 : (gh_up h (wo (ht - 2)) (.inl (cJ, 4, .inr (.inl f2)))) sp = some (.inr (2, [.ref al, .ref fi, .int (nI n)])) := gh_keep (hwo (ht - 2) (by omega)) hsp (by simp)
        have hal_1 : (gh_up h (wo (ht - 2)) (.inl (cJ, 4, .inr (.inl f2)))) al = some (.inl (cP, 14, .inr (.inr (.inr (.inr ga))))) := gh_keep (hwo (ht - 2) (by omega)) hal (by simp)
        have hfi_1 : (gh_up h (wo (ht - 2)) (.inl (cJ, 4, .inr (.inl f2)))) fi = some (.inl (cI, 14, .inl gf)) := gh_keep (hwo (ht - 2) (by omega)) hfi (by simp)
        have hxx_1 : (gh_up h (wo (ht - 2)) (.inl (cJ, 4, .inr (.inl f2)))) x = some (.inr (0, [.ref sp, .ref sk, .ref po, .int (nI ht)])) := gh_keep (hwo (ht - 2) (by omega)) hxx (by simp)
        have hsk_1 : (gh_up h (wo (ht - 2)) (.inl (cJ, 4, .inr (.inl f2)))) sk = some (.inl (cS, 6, .inr (.inr (.inr (.inr gs))))) := gh_keep (hwo (ht - 2) (by omega)) hsk (by simp)
        have hpo_1 : (gh_up h (wo (ht - 2)) (.inl (cJ, 4, .inr (.inl f2)))) po = some (.inr (3, [.long px, .long py, .long pz, .long pw])) := gh_keep (hwo (ht - 2) (by omega)) hpo (by simp)
        refine W.eq (g2 := F0 m 63 ls []) rfl ?_
        refine W.widen (k := 0) (n := 0) (by decide) (by decide) ?_
        refine lv_aload_n hx hb d_X_join_63 rfl (lv_at hl 0 rfl) ?_
        refine lv_dup hx hb d_X_join_64 rfl ?_
        refine gh_get (ci := 0) hx hb htb in_X hown hK hG hxx_1 rfl 3 (by decide) (htb _ k_1_112) (fun _ h9 => h9) rfl d_X_join_65 ?_
        refine lv_iconst (v := 1) hx hb d_X_join_68 (by decide) ?_
        refine lv_isub hx hb d_X_join_69 ?_
        rw [show nI ht - 1 = nI (ht - 1) from pk_sub (a := ht) (b := 1) (by omega)]
        refine gh_put (ci := 0) (ty := .int) hx hb htb in_X t_X ty_X nm_X hown hK hG hxx_1 rfl 3 (by decide) (htb _ k_1_112) (fun _ h9 => h9) rfl (by decide +kernel) rfl rfl (Nat.le_of_ble_eq_true rfl) d_X_join_70 (fun H l9 hG => ?_)
        have hq2 : (gh_up (gh_up h (wo (ht - 2)) (.inl (cJ, 4, .inr (.inl f2)))) x (.inr (0, [.ref sp, .ref sk, .ref po, .int (nI (ht - 1))]))) x = some (.inr (0, [.ref sp, .ref sk, .ref po, .int (nI (ht - 1))])) := gh_self _ _ _
        replace hG : gh_P D vC b0 (gh_up (gh_up h (wo (ht - 2)) (.inl (cJ, 4, .inr (.inl f2)))) x (.inr (0, [.ref sp, .ref sk, .ref po, .int (nI (ht - 1))]))) s.heap _ _ := hG
        have hsp_2 : (gh_up (gh_up h (wo (ht - 2)) (.inl (cJ, 4, .inr (.inl f2)))) x (.inr (0, [.ref sp, .ref sk, .ref po, .int (nI (ht - 1))]))) sp = some (.inr (2, [.ref al, .ref fi, .int (nI n)])) := gh_keep hxx_1 hsp_1 (by simp)
        have hal_2 : (gh_up (gh_up h (wo (ht - 2)) (.inl (cJ, 4, .inr (.inl f2)))) x (.inr (0, [.ref sp, .ref sk, .ref po, .int (nI (ht - 1))]))) al = some (.inl (cP, 14, .inr (.inr (.inr (.inr ga))))) := gh_keep hxx_1 hal_1 (by simp)
        have hfi_2 : (gh_up (gh_up h (wo (ht - 2)) (.inl (cJ, 4, .inr (.inl f2)))) x (.inr (0, [.ref sp, .ref sk, .ref po, .int (nI (ht - 1))]))) fi = some (.inl (cI, 14, .inl gf)) := gh_keep hxx_1 hfi_1 (by simp)
        have hsk_2 : (gh_up (gh_up h (wo (ht - 2)) (.inl (cJ, 4, .inr (.inl f2)))) x (.inr (0, [.ref sp, .ref sk, .ref po, .int (nI (ht - 1))]))) sk = some (.inl (cS, 6, .inr (.inr (.inr (.inr gs))))) := gh_keep hxx_1 hsk_1 (by simp)
        have hpo_2 : (gh_up (gh_up h (wo (ht - 2)) (.inl (cJ, 4, .inr (.inl f2)))) x (.inr (0, [.ref sp, .ref sk, .ref po, .int (nI (ht - 1))]))) po = some (.inr (3, [.long px, .long py, .long pz, .long pw])) := gh_keep hxx_1 hpo_1 (by simp)
        refine lv_aload_n hx hb d_X_join_73 rfl (lv_at hl 0 rfl) ?_
        refine gh_get (ci := 0) hx hb htb in_X hown hK hG hq2 rfl 3 (by decide) (htb _ k_1_112) (fun _ h9 => h9) rfl d_X_join_74 ?_
        refine W.widen (k := 1) (n := 6) (by decide) (by decide) ?_
        exact gh_iret hx hb hr hlk rfl hG d_X_join_77 (rB_0 hbJ (rB_0 (decide_eq_false (by omega)) ⟨rfl, v, f2, rfl, hc6, hf2, rfl⟩))
      · skip
        replace hc24 : ¬ 2 ≤ ht := fun q9 => hc24 ((nc_le (a := 2) (b := ht) (by omega) (by omega) rfl rfl).mpr q9)
        refine W.widen (k := 0) (n := 0) (by decide) (by decide) ?_
        exact gh_thr (bytes := Bundle.six) (index := 7) (is := 80) (E := R_IS) (ci := 7) hx hb htr hlk hno hml hl.1 hown htb hK hX hG rfl (by decide +kernel) k_1_219 k_1_11 k_1_220 (List.mem_of_getElem? (i := 7) rfl) (by decide +kernel) (by decide +kernel) (by decide +kernel) (by decide +kernel) at_IS d_X_join_27 d_X_join_30 d_X_join_31 d_X_join_33 d_X_join_36 (by decide) (by decide) (by decide) (by decide) (fun q9 hq9 => rB_0 hbJ (rB_1 (decide_eq_true (by omega)) ⟨q9, rfl, hq9, rfl⟩))
    · skip
      replace hc6 : ¬ v < 4 := fun q9 => hc6 ((nc_lt (a := v) (b := 4) (by omega) (by omega) rfl rfl).mpr q9)
      have hq4 : ¬ nI v < 4 := fun k9 => hc6 ((nc_lt (a := v) (b := 4) (by omega) (by omega) rfl rfl).mp k9)
      refine W.widen (k := 0) (n := 0) (by decide) (by decide) ?_
      exact gh_thr (bytes := Bundle.six) (index := 7) (is := 78) (E := R_IA) (ci := 6) hx hb htr hlk hno hml hl.1 hown htb hK hX hG rfl (by decide +kernel) k_1_143 k_1_10 k_1_144 (List.mem_of_getElem? (i := 6) rfl) (by decide +kernel) (by decide +kernel) (by decide +kernel) (by decide +kernel) at_IA d_X_join_9 d_X_join_12 d_X_join_13 d_X_join_15 d_X_join_18 (by decide) (by decide) (by decide) (by decide) (fun q9 hq9 => rB_1 (by simp [m_badJ, hq4]) ⟨q9, rfl, hq9, rfl⟩)

set_option maxHeartbeats 4000000 in
set_option maxRecDepth 100000 in
/-- turn -/
theorem c_X_turn {sp al fi : Nat} {n : Nat} {ga : Nat → Option Nat} {gf : Nat → Int32} {pl fs : Nat → Nat} {pa pb pc pd : Nat → Int64} (hsp : h sp = some (.inr (2, [.ref al, .ref fi, .int (nI n)]))) (hal : h al = some (.inl (cP, 14, .inr (.inr (.inr (.inr ga)))))) (hfi : h fi = some (.inl (cI, 14, .inl gf))) (hga : ∀ i, i < n → ga i = some (pl i)) (hgf : ∀ i, i < n → gf i = nI (fs i)) (hfs : ∀ i, fs i < 14) (hpl : ∀ i, i < n → h (pl i) = some (.inr (1, [.long (pa i), .long (pb i), .long (pc i), .long (pd i)]))) (hn : n ≤ 14) (h6 : 6 ≤ n) {x sk po : Nat} {gs : Nat → Option Nat} {so wo : Nat → Nat} {wd : Nat → Nat → Int64} {ht : Nat} {px py pz pw : Int64} (hxx : h x = some (.inr (0, [.ref sp, .ref sk, .ref po, .int (nI ht)]))) (hsk : h sk = some (.inl (cS, 6, .inr (.inr (.inr (.inr gs)))))) (hgs : ∀ j, j < 6 → gs j = some (so j)) (hpo : h po = some (.inr (3, [.long px, .long py, .long pz, .long pw]))) (hso : ∀ j, j < 6 → h (so j) = some (.inr (4, [.ref (wo j)]))) (hwo : ∀ j, j < 6 → h (wo j) = some (.inl (cJ, 4, .inr (.inl (wd j))))) (hwi : ∀ i j, i < 6 → j < 6 → wo i = wo j → i = j) (hht : ht ≤ 6) (htr : xc_off l) : gh_C l D vC (tZ cI cJ cP cS) (xF b0) b0 y_X_turn w_X_turn ({ frames := 7, cells := 1, slots := 6, locals := 130 }) [.ref x] h (rB (decide (ht = 0)) (rT 7 h) (fun oc h2 => oc = .returned none ∧ ∃ f2 : Nat → Int64, (∀ j, j < 4 → f2 j = wd (ht - 1) j ^^^ (-1)) ∧ h2 = gh_up h (wo (ht - 1)) (.inl (cJ, 4, .inr (.inl f2))))) := by
  refine gh_ofW (by decide) (Nat.le_of_ble_eq_true rfl) ?_
  intro p e s m below meth c ls hctx hno hl hG hK hX
  obtain ⟨hx, hb, hr, hml, hown, hlk, hts, hnm⟩ := hctx
  have htb : ∀ w ∈ tB, w.before _ s = true := fun w hw => hts w (List.mem_cons_of_mem _ hw)
  replace hl : lv_has ls 1 [(0, .ref x)] := hl
  refine lv_aload_n hx hb d_X_turn_0 rfl (lv_at hl 0 rfl) ?_
  refine gh_cV (ci := 0) (As := []) (rest := []) (xF_ok b0) hx hb hml hown hK hX hG rfl hxx (c_X_requireSolid hxx hht htr) (q_X_requireSolid htb ⟨by decide, by decide⟩) (htb _ k_2_39) (htb _ k_2_41) (htb _ k_s_X_requireSolid) rfl hl.1 rfl (Nat.le_of_ble_eq_true rfl) d_X_turn_1 ⟨by decide, by decide⟩ (fun v9 h9 H l9 hp9 hG => ?_) (fun x9 h9 H l9 hp9 hG => gx_widenT (k := 1) (n := 6) (by decide) (by decide) (gh_pass hlk (fun z9 hz9 => hno z9 hz9 _) hG (rB_1 (rB_v hp9).1 (rB_v hp9).2)))
  obtain ⟨hb9, hv9, hh9⟩ := rB_r hp9
  cases hv9
  rw [hh9] at hG
  have hsol := of_decide_eq_false hb9
  refine W.eq (g2 := F0 m 4 ls []) rfl ?_
  refine W.widen (k := 1) (n := 6) (by decide) (by decide) ?_
  refine lv_aload_n hx hb d_X_turn_4 rfl (lv_at hl 0 rfl) ?_
  refine gh_get (ci := 0) hx hb htb in_X hown hK hG hxx rfl 1 (by decide) (htb _ k_1_110) (fun _ h9 => h9) rfl d_X_turn_5 ?_
  refine lv_aload_n hx hb d_X_turn_8 rfl (lv_at hl 0 rfl) ?_
  refine gh_get (ci := 0) hx hb htb in_X hown hK hG hxx rfl 3 (by decide) (htb _ k_1_112) (fun _ h9 => h9) rfl d_X_turn_9 ?_
  refine lv_iconst (v := 1) hx hb d_X_turn_12 (by decide) ?_
  refine lv_isub hx hb d_X_turn_13 ?_
  rw [show nI ht - 1 = nI (ht - 1) from pk_sub (a := ht) (b := 1) (by omega)]
  refine gh_aald (v := so (ht - 1)) hx hb hK hG 3 hsk rfl (vp_in_nI (by omega) (by decide)) (by rw [nI_clamp (by omega)]; exact hgs _ (by omega)) d_X_turn_14 ?_
  refine gh_cV (ci := 4) (As := []) (rest := []) (xF_ok b0) hx hb hml hown hK hX hG rfl (hso (ht - 1) (by omega)) (c_So_becomeItsRest (hso (ht - 1) (by omega)) (hwo (ht - 1) (by omega))) (q_So_becomeItsRest htb ⟨by decide, by decide⟩) (htb _ k_2_44) (htb _ k_2_45) (htb _ k_2_46) rfl hl.1 rfl (Nat.le_of_ble_eq_true rfl) d_X_turn_15 ⟨by decide, by decide⟩ (fun v9 h9 H l9 hp9 hG => ?_) (fun _ _ _ _ hp9 _ => by cases hp9.1)
  obtain ⟨hv9, f2, hf2, hh9⟩ := hp9
  cases hv9
  rw [hh9] at hG
  have hq1 : (gh_up h (wo (ht - 1)) (.inl (cJ, 4, .inr (.inl f2)))) (wo (ht - 1)) = some (.inl (cJ, 4, .inr (.inl f2))) := gh_self _ _ _
  replace hG : gh_P D vC b0 (gh_up h (wo (ht - 1)) (.inl (cJ, 4, .inr (.inl f2)))) s.heap _ _ := hG
  have hsp_1 : (gh_up h (wo (ht - 1)) (.inl (cJ, 4, .inr (.inl f2)))) sp = some (.inr (2, [.ref al, .ref fi, .int (nI n)])) := gh_keep (hwo (ht - 1) (by omega)) hsp (by simp)
  have hal_1 : (gh_up h (wo (ht - 1)) (.inl (cJ, 4, .inr (.inl f2)))) al = some (.inl (cP, 14, .inr (.inr (.inr (.inr ga))))) := gh_keep (hwo (ht - 1) (by omega)) hal (by simp)
  have hfi_1 : (gh_up h (wo (ht - 1)) (.inl (cJ, 4, .inr (.inl f2)))) fi = some (.inl (cI, 14, .inl gf)) := gh_keep (hwo (ht - 1) (by omega)) hfi (by simp)
  have hxx_1 : (gh_up h (wo (ht - 1)) (.inl (cJ, 4, .inr (.inl f2)))) x = some (.inr (0, [.ref sp, .ref sk, .ref po, .int (nI ht)])) := gh_keep (hwo (ht - 1) (by omega)) hxx (by simp)
  have hsk_1 : (gh_up h (wo (ht - 1)) (.inl (cJ, 4, .inr (.inl f2)))) sk = some (.inl (cS, 6, .inr (.inr (.inr (.inr gs))))) := gh_keep (hwo (ht - 1) (by omega)) hsk (by simp)
  have hpo_1 : (gh_up h (wo (ht - 1)) (.inl (cJ, 4, .inr (.inl f2)))) po = some (.inr (3, [.long px, .long py, .long pz, .long pw])) := gh_keep (hwo (ht - 1) (by omega)) hpo (by simp)
  refine W.eq (g2 := F0 m 18 ls []) rfl ?_
  refine W.widen (k := 1) (n := 6) (by decide) (by decide) ?_
  exact gh_vret hx hb hr hlk hG d_X_turn_18 (rB_0 (decide_eq_false hsol) ⟨rfl, f2, hf2, rfl⟩)

set_option maxHeartbeats 4000000 in
set_option maxRecDepth 100000 in
/-- drop -/
theorem c_X_drop {sp al fi : Nat} {n : Nat} {ga : Nat → Option Nat} {gf : Nat → Int32} {pl fs : Nat → Nat} {pa pb pc pd : Nat → Int64} (hsp : h sp = some (.inr (2, [.ref al, .ref fi, .int (nI n)]))) (hal : h al = some (.inl (cP, 14, .inr (.inr (.inr (.inr ga)))))) (hfi : h fi = some (.inl (cI, 14, .inl gf))) (hga : ∀ i, i < n → ga i = some (pl i)) (hgf : ∀ i, i < n → gf i = nI (fs i)) (hfs : ∀ i, fs i < 14) (hpl : ∀ i, i < n → h (pl i) = some (.inr (1, [.long (pa i), .long (pb i), .long (pc i), .long (pd i)]))) (hn : n ≤ 14) (h6 : 6 ≤ n) {x sk po : Nat} {gs : Nat → Option Nat} {so wo : Nat → Nat} {wd : Nat → Nat → Int64} {ht : Nat} {px py pz pw : Int64} (hxx : h x = some (.inr (0, [.ref sp, .ref sk, .ref po, .int (nI ht)]))) (hsk : h sk = some (.inl (cS, 6, .inr (.inr (.inr (.inr gs)))))) (hgs : ∀ j, j < 6 → gs j = some (so j)) (hpo : h po = some (.inr (3, [.long px, .long py, .long pz, .long pw]))) (hso : ∀ j, j < 6 → h (so j) = some (.inr (4, [.ref (wo j)]))) (hwo : ∀ j, j < 6 → h (wo j) = some (.inl (cJ, 4, .inr (.inl (wd j))))) (hwi : ∀ i j, i < 6 → j < 6 → wo i = wo j → i = j) (hht : ht ≤ 6) (htr : xc_off l) : gh_C l D vC (tZ cI cJ cP cS) (xF b0) b0 y_X_drop w_X_drop ({ frames := 7, cells := 1, slots := 6, locals := 130 }) [.ref x] h (rB (decide (ht = 0)) (rT 7 h) (fun oc h2 => oc = .returned (some (.int (nI (ht - 1)))) ∧ h2 = gh_up h x (.inr (0, [.ref sp, .ref sk, .ref po, .int (nI (ht - 1))])))) := by
  refine gh_ofW (by decide) (Nat.le_of_ble_eq_true rfl) ?_
  intro p e s m below meth c ls hctx hno hl hG hK hX
  obtain ⟨hx, hb, hr, hml, hown, hlk, hts, hnm⟩ := hctx
  have htb : ∀ w ∈ tB, w.before _ s = true := fun w hw => hts w (List.mem_cons_of_mem _ hw)
  replace hl : lv_has ls 1 [(0, .ref x)] := hl
  refine lv_aload_n hx hb d_X_drop_0 rfl (lv_at hl 0 rfl) ?_
  refine gh_cV (ci := 0) (As := []) (rest := []) (xF_ok b0) hx hb hml hown hK hX hG rfl hxx (c_X_requireSolid hxx hht htr) (q_X_requireSolid htb ⟨by decide, by decide⟩) (htb _ k_2_39) (htb _ k_2_41) (htb _ k_s_X_requireSolid) rfl hl.1 rfl (Nat.le_of_ble_eq_true rfl) d_X_drop_1 ⟨by decide, by decide⟩ (fun v9 h9 H l9 hp9 hG => ?_) (fun x9 h9 H l9 hp9 hG => gx_widenT (k := 1) (n := 6) (by decide) (by decide) (gh_pass hlk (fun z9 hz9 => hno z9 hz9 _) hG (rB_1 (rB_v hp9).1 (rB_v hp9).2)))
  obtain ⟨hb9, hv9, hh9⟩ := rB_r hp9
  cases hv9
  rw [hh9] at hG
  have hsol := of_decide_eq_false hb9
  refine W.eq (g2 := F0 m 4 ls []) rfl ?_
  refine W.widen (k := 1) (n := 6) (by decide) (by decide) ?_
  refine lv_aload_n hx hb d_X_drop_4 rfl (lv_at hl 0 rfl) ?_
  refine lv_dup hx hb d_X_drop_5 rfl ?_
  refine gh_get (ci := 0) hx hb htb in_X hown hK hG hxx rfl 3 (by decide) (htb _ k_1_112) (fun _ h9 => h9) rfl d_X_drop_6 ?_
  refine lv_iconst (v := 1) hx hb d_X_drop_9 (by decide) ?_
  refine lv_isub hx hb d_X_drop_10 ?_
  rw [show nI ht - 1 = nI (ht - 1) from pk_sub (a := ht) (b := 1) (by omega)]
  refine gh_put (ci := 0) (ty := .int) hx hb htb in_X t_X ty_X nm_X hown hK hG hxx rfl 3 (by decide) (htb _ k_1_112) (fun _ h9 => h9) rfl (by decide +kernel) rfl rfl (Nat.le_of_ble_eq_true rfl) d_X_drop_11 (fun H l9 hG => ?_)
  have hq1 : (gh_up h x (.inr (0, [.ref sp, .ref sk, .ref po, .int (nI (ht - 1))]))) x = some (.inr (0, [.ref sp, .ref sk, .ref po, .int (nI (ht - 1))])) := gh_self _ _ _
  replace hG : gh_P D vC b0 (gh_up h x (.inr (0, [.ref sp, .ref sk, .ref po, .int (nI (ht - 1))]))) s.heap _ _ := hG
  have hsp_1 : (gh_up h x (.inr (0, [.ref sp, .ref sk, .ref po, .int (nI (ht - 1))]))) sp = some (.inr (2, [.ref al, .ref fi, .int (nI n)])) := gh_keep hxx hsp (by simp)
  have hal_1 : (gh_up h x (.inr (0, [.ref sp, .ref sk, .ref po, .int (nI (ht - 1))]))) al = some (.inl (cP, 14, .inr (.inr (.inr (.inr ga))))) := gh_keep hxx hal (by simp)
  have hfi_1 : (gh_up h x (.inr (0, [.ref sp, .ref sk, .ref po, .int (nI (ht - 1))]))) fi = some (.inl (cI, 14, .inl gf)) := gh_keep hxx hfi (by simp)
  have hsk_1 : (gh_up h x (.inr (0, [.ref sp, .ref sk, .ref po, .int (nI (ht - 1))]))) sk = some (.inl (cS, 6, .inr (.inr (.inr (.inr gs))))) := gh_keep hxx hsk (by simp)
  have hpo_1 : (gh_up h x (.inr (0, [.ref sp, .ref sk, .ref po, .int (nI (ht - 1))]))) po = some (.inr (3, [.long px, .long py, .long pz, .long pw])) := gh_keep hxx hpo (by simp)
  refine lv_aload_n hx hb d_X_drop_14 rfl (lv_at hl 0 rfl) ?_
  refine gh_get (ci := 0) hx hb htb in_X hown hK hG hq1 rfl 3 (by decide) (htb _ k_1_112) (fun _ h9 => h9) rfl d_X_drop_15 ?_
  exact gh_iret hx hb hr hlk rfl hG d_X_drop_18 (rB_0 (decide_eq_false hsol) ⟨rfl, rfl⟩)

set_option maxHeartbeats 4000000 in
set_option maxRecDepth 100000 in
/-- copy -/
theorem c_X_copy {sp al fi : Nat} {n : Nat} {ga : Nat → Option Nat} {gf : Nat → Int32} {pl fs : Nat → Nat} {pa pb pc pd : Nat → Int64} (hsp : h sp = some (.inr (2, [.ref al, .ref fi, .int (nI n)]))) (hal : h al = some (.inl (cP, 14, .inr (.inr (.inr (.inr ga)))))) (hfi : h fi = some (.inl (cI, 14, .inl gf))) (hga : ∀ i, i < n → ga i = some (pl i)) (hgf : ∀ i, i < n → gf i = nI (fs i)) (hfs : ∀ i, fs i < 14) (hpl : ∀ i, i < n → h (pl i) = some (.inr (1, [.long (pa i), .long (pb i), .long (pc i), .long (pd i)]))) (hn : n ≤ 14) (h6 : 6 ≤ n) {x sk po : Nat} {gs : Nat → Option Nat} {so wo : Nat → Nat} {wd : Nat → Nat → Int64} {ht : Nat} {px py pz pw : Int64} (hxx : h x = some (.inr (0, [.ref sp, .ref sk, .ref po, .int (nI ht)]))) (hsk : h sk = some (.inl (cS, 6, .inr (.inr (.inr (.inr gs)))))) (hgs : ∀ j, j < 6 → gs j = some (so j)) (hpo : h po = some (.inr (3, [.long px, .long py, .long pz, .long pw]))) (hso : ∀ j, j < 6 → h (so j) = some (.inr (4, [.ref (wo j)]))) (hwo : ∀ j, j < 6 → h (wo j) = some (.inl (cJ, 4, .inr (.inl (wd j))))) (hwi : ∀ i j, i < 6 → j < 6 → wo i = wo j → i = j) (hht : ht ≤ 6) {k1 : Int32} (htr : xc_off l) : gh_C l D vC (tZ cI cJ cP cS) (xF b0) b0 y_X_copy w_X_copy ({ frames := 7, cells := 1, slots := 6, locals := 130 }) [.ref x, .int k1] h (rB (m_badC k1 ht) (rT 8 h) (rB (decide (6 ≤ ht)) (rT 7 h) (fun oc h2 => oc = .returned (some (.int (nI (ht + 1)))) ∧ ∃ (v : Nat) (f2 : Nat → Int64), k1 = nI v ∧ v < ht ∧ (∀ j, j < 4 → f2 j = wd (ht - 1 - v) j) ∧ h2 = gh_up (gh_up h (wo ht) (.inl (cJ, 4, .inr (.inl f2)))) x (.inr (0, [.ref sp, .ref sk, .ref po, .int (nI (ht + 1))]))))) := by
  refine gh_ofW (by decide) (Nat.le_of_ble_eq_true rfl) ?_
  intro p e s m below meth c ls hctx hno hl hG hK hX
  obtain ⟨hx, hb, hr, hml, hown, hlk, hts, hnm⟩ := hctx
  have htb : ∀ w ∈ tB, w.before _ s = true := fun w hw => hts w (List.mem_cons_of_mem _ hw)
  replace hl : lv_has ls 2 [(0, .ref x), (1, .int k1)] := hl
  refine lv_iload_n hx hb d_X_copy_0 rfl (lv_at hl 1 rfl) ?_
  refine lv_if_lt (tgt := 12) hx hb d_X_copy_1 (by decide) (fun hc1 => ?_) (fun hc1 => ?_)
  · skip
    refine W.widen (k := 0) (n := 0) (by decide) (by decide) ?_
    exact gh_thr (bytes := Bundle.six) (index := 7) (is := 94) (E := R_IO) (ci := 8) hx hb htr hlk hno hml hl.1 hown htb hK hX hG rfl (by decide +kernel) k_2_56 k_1_12 k_2_57 (List.mem_of_getElem? (i := 9) rfl) (by decide +kernel) (by decide +kernel) (by decide +kernel) (by decide +kernel) at_IO d_X_copy_12 d_X_copy_15 d_X_copy_16 d_X_copy_18 d_X_copy_21 (by decide) (by decide) (by decide) (by decide) (fun q9 hq9 => rB_1 (by simp [m_badC, hc1]) ⟨q9, rfl, hq9, rfl⟩)
  · skip
    obtain ⟨v, hv, rfl⟩ := nI_of hc1
    refine lv_iload_n hx hb d_X_copy_4 rfl (lv_at hl 1 rfl) ?_
    refine lv_aload_n hx hb d_X_copy_5 rfl (lv_at hl 0 rfl) ?_
    refine gh_get (ci := 0) hx hb htb in_X hown hK hG hxx rfl 3 (by decide) (htb _ k_1_112) (fun _ h9 => h9) rfl d_X_copy_6 ?_
    refine lv_icmp_lt (tgt := 22) hx hb d_X_copy_9 (by decide) (fun hc9 => ?_) (fun hc9 => ?_)
    · skip
      replace hc9 : v < ht := (nc_lt (a := v) (b := ht) (by omega) (by omega) rfl rfl).mp hc9
      have hbC : m_badC (nI v) ht = false := by simp only [m_badC, Bool.or_eq_false_iff, Bool.not_eq_false', decide_eq_false_iff_not, decide_eq_true_eq]; exact ⟨hc1, (nc_lt (a := v) (b := ht) (by omega) (by omega) rfl rfl).mpr hc9⟩
      refine lv_aload_n hx hb d_X_copy_22 rfl (lv_at hl 0 rfl) ?_
      refine gh_cV (ci := 0) (As := []) (rest := []) (xF_ok b0) hx hb hml hown hK hX hG rfl hxx (c_X_requireRoom hxx hht htr) (q_X_requireRoom htb ⟨by decide, by decide⟩) (htb _ k_2_6) (htb _ k_2_8) (htb _ k_s_X_requireRoom) rfl hl.1 rfl (Nat.le_of_ble_eq_true rfl) d_X_copy_23 ⟨by decide, by decide⟩ (fun v9 h9 H l9 hp9 hG => ?_) (fun x9 h9 H l9 hp9 hG => gx_widenT (k := 1) (n := 6) (by decide) (by decide) (gh_pass hlk (fun z9 hz9 => hno z9 hz9 _) hG (rB_0 hbC (rB_1 (rB_v hp9).1 (rB_v hp9).2))))
      obtain ⟨hb9, hv9, hh9⟩ := rB_r hp9
      cases hv9
      rw [hh9] at hG
      have hroom := of_decide_eq_false hb9
      refine W.eq (g2 := F0 m 26 ls []) rfl ?_
      refine W.widen (k := 1) (n := 6) (by decide) (by decide) ?_
      refine lv_aload_n hx hb d_X_copy_26 rfl (lv_at hl 0 rfl) ?_
      refine gh_get (ci := 0) hx hb htb in_X hown hK hG hxx rfl 1 (by decide) (htb _ k_1_110) (fun _ h9 => h9) rfl d_X_copy_27 ?_
      refine lv_aload_n hx hb d_X_copy_30 rfl (lv_at hl 0 rfl) ?_
      refine gh_get (ci := 0) hx hb htb in_X hown hK hG hxx rfl 3 (by decide) (htb _ k_1_112) (fun _ h9 => h9) rfl d_X_copy_31 ?_
      refine gh_aald (v := so ht) hx hb hK hG 3 hsk rfl (vp_in_nI (by omega) (by decide)) (by rw [nI_clamp (by omega)]; exact hgs _ (by omega)) d_X_copy_34 ?_
      refine lv_aload_n hx hb d_X_copy_35 rfl (lv_at hl 0 rfl) ?_
      refine gh_get (ci := 0) hx hb htb in_X hown hK hG hxx rfl 1 (by decide) (htb _ k_1_110) (fun _ h9 => h9) rfl d_X_copy_36 ?_
      refine lv_aload_n hx hb d_X_copy_39 rfl (lv_at hl 0 rfl) ?_
      refine gh_get (ci := 0) hx hb htb in_X hown hK hG hxx rfl 3 (by decide) (htb _ k_1_112) (fun _ h9 => h9) rfl d_X_copy_40 ?_
      refine lv_iconst (v := 1) hx hb d_X_copy_43 (by decide) ?_
      refine lv_isub hx hb d_X_copy_44 ?_
      rw [show nI ht - 1 = nI (ht - 1) from pk_sub (a := ht) (b := 1) (by omega)]
      refine lv_iload_n hx hb d_X_copy_45 rfl (lv_at hl 1 rfl) ?_
      refine lv_isub hx hb d_X_copy_46 ?_
      rw [show nI (ht - 1) - (nI v) = nI ((ht - 1) - v) from pk_sub (a := (ht - 1)) (b := v) (by omega)]
      refine gh_aald (v := so ((ht - 1) - v)) hx hb hK hG 3 hsk rfl (vp_in_nI (by omega) (by decide)) (by rw [nI_clamp (by omega)]; exact hgs _ (by omega)) d_X_copy_47 ?_
      refine gh_cV (ci := 4) (As := [.ref (so ((ht - 1) - v))]) (rest := []) (xF_ok b0) hx hb hml hown hK hX hG rfl (hso ht (by omega)) (c_So_becomeLike (hso ht (by omega)) (hwo ht (by omega)) (hso ((ht - 1) - v) (by omega)) (hwo ((ht - 1) - v) (by omega)) (fun k9 => absurd (hwi _ _ (by omega) (by omega) k9) (by omega))) (q_So_becomeLike htb ⟨by decide, by decide⟩) (htb _ k_2_72) (htb _ k_2_73) (htb _ k_2_74) rfl hl.1 rfl (Nat.le_of_ble_eq_true rfl) d_X_copy_48 ⟨by decide, by decide⟩ (fun v9 h9 H l9 hp9 hG => ?_) (fun _ _ _ _ hp9 _ => by cases hp9.1)
      obtain ⟨hv9, f2, hf2, hh9⟩ := hp9
      cases hv9
      rw [hh9] at hG
      have hq1 : (gh_up h (wo ht) (.inl (cJ, 4, .inr (.inl f2)))) (wo ht) = some (.inl (cJ, 4, .inr (.inl f2))) := gh_self _ _ _
      replace hG : gh_P D vC b0 (gh_up h (wo ht) (.inl (cJ, 4, .inr (.inl f2)))) s.heap _ _ := hG
      have hsp_1 : (gh_up h (wo ht) (.inl (cJ, 4, .inr (.inl f2)))) sp = some (.inr (2, [.ref al, .ref fi, .int (nI n)])) := gh_keep (hwo ht (by omega)) hsp (by simp)
      have hal_1 : (gh_up h (wo ht) (.inl (cJ, 4, .inr (.inl f2)))) al = some (.inl (cP, 14, .inr (.inr (.inr (.inr ga))))) := gh_keep (hwo ht (by omega)) hal (by simp)
      have hfi_1 : (gh_up h (wo ht) (.inl (cJ, 4, .inr (.inl f2)))) fi = some (.inl (cI, 14, .inl gf)) := gh_keep (hwo ht (by omega)) hfi (by simp)
      have hxx_1 : (gh_up h (wo ht) (.inl (cJ, 4, .inr (.inl f2)))) x = some (.inr (0, [.ref sp, .ref sk, .ref po, .int (nI ht)])) := gh_keep (hwo ht (by omega)) hxx (by simp)
      have hsk_1 : (gh_up h (wo ht) (.inl (cJ, 4, .inr (.inl f2)))) sk = some (.inl (cS, 6, .inr (.inr (.inr (.inr gs))))) := gh_keep (hwo ht (by omega)) hsk (by simp)
      have hpo_1 : (gh_up h (wo ht) (.inl (cJ, 4, .inr (.inl f2)))) po = some (.inr (3, [.long px, .long py, .long pz, .long pw])) := gh_keep (hwo ht (by omega)) hpo (by simp)
      refine W.eq (g2 := F0 m 51 ls []) rfl ?_
      refine W.widen (k := 1) (n := 6) (by decide) (by decide) ?_
      refine lv_aload_n hx hb d_X_copy_51 rfl (lv_at hl 0 rfl) ?_
      refine lv_dup hx hb d_X_copy_52 rfl ?_
      refine gh_get (ci := 0) hx hb htb in_X hown hK hG hxx_1 rfl 3 (by decide) (htb _ k_1_112) (fun _ h9 => h9) rfl d_X_copy_53 ?_
      refine lv_iconst (v := 1) hx hb d_X_copy_56 (by decide) ?_
      refine lv_iadd hx hb d_X_copy_57 ?_
      rw [show nI ht + 1 = nI (ht + 1) from nI_1 ht]
      refine gh_put (ci := 0) (ty := .int) hx hb htb in_X t_X ty_X nm_X hown hK hG hxx_1 rfl 3 (by decide) (htb _ k_1_112) (fun _ h9 => h9) rfl (by decide +kernel) rfl rfl (Nat.le_of_ble_eq_true rfl) d_X_copy_58 (fun H l9 hG => ?_)
      have hq2 : (gh_up (gh_up h (wo ht) (.inl (cJ, 4, .inr (.inl f2)))) x (.inr (0, [.ref sp, .ref sk, .ref po, .int (nI (ht + 1))]))) x = some (.inr (0, [.ref sp, .ref sk, .ref po, .int (nI (ht + 1))])) := gh_self _ _ _
      replace hG : gh_P D vC b0 (gh_up (gh_up h (wo ht) (.inl (cJ, 4, .inr (.inl f2)))) x (.inr (0, [.ref sp, .ref sk, .ref po, .int (nI (ht + 1))]))) s.heap _ _ := hG
      have hsp_2 : (gh_up (gh_up h (wo ht) (.inl (cJ, 4, .inr (.inl f2)))) x (.inr (0, [.ref sp, .ref sk, .ref po, .int (nI (ht + 1))]))) sp = some (.inr (2, [.ref al, .ref fi, .int (nI n)])) := gh_keep hxx_1 hsp_1 (by simp)
      have hal_2 : (gh_up (gh_up h (wo ht) (.inl (cJ, 4, .inr (.inl f2)))) x (.inr (0, [.ref sp, .ref sk, .ref po, .int (nI (ht + 1))]))) al = some (.inl (cP, 14, .inr (.inr (.inr (.inr ga))))) := gh_keep hxx_1 hal_1 (by simp)
      have hfi_2 : (gh_up (gh_up h (wo ht) (.inl (cJ, 4, .inr (.inl f2)))) x (.inr (0, [.ref sp, .ref sk, .ref po, .int (nI (ht + 1))]))) fi = some (.inl (cI, 14, .inl gf)) := gh_keep hxx_1 hfi_1 (by simp)
      have hsk_2 : (gh_up (gh_up h (wo ht) (.inl (cJ, 4, .inr (.inl f2)))) x (.inr (0, [.ref sp, .ref sk, .ref po, .int (nI (ht + 1))]))) sk = some (.inl (cS, 6, .inr (.inr (.inr (.inr gs))))) := gh_keep hxx_1 hsk_1 (by simp)
      have hpo_2 : (gh_up (gh_up h (wo ht) (.inl (cJ, 4, .inr (.inl f2)))) x (.inr (0, [.ref sp, .ref sk, .ref po, .int (nI (ht + 1))]))) po = some (.inr (3, [.long px, .long py, .long pz, .long pw])) := gh_keep hxx_1 hpo_1 (by simp)
      refine lv_aload_n hx hb d_X_copy_61 rfl (lv_at hl 0 rfl) ?_
      refine gh_get (ci := 0) hx hb htb in_X hown hK hG hq2 rfl 3 (by decide) (htb _ k_1_112) (fun _ h9 => h9) rfl d_X_copy_62 ?_
      exact gh_iret hx hb hr hlk rfl hG d_X_copy_65 (rB_0 hbC (rB_0 (decide_eq_false hroom) ⟨rfl, v, f2, rfl, hc9, hf2, rfl⟩))
    · skip
      replace hc9 : ¬ v < ht := fun q9 => hc9 ((nc_lt (a := v) (b := ht) (by omega) (by omega) rfl rfl).mpr q9)
      have hq4 : ¬ nI v < nI ht := fun k9 => hc9 ((nc_lt (a := v) (b := ht) (by omega) (by omega) rfl rfl).mp k9)
      refine W.widen (k := 0) (n := 0) (by decide) (by decide) ?_
      exact gh_thr (bytes := Bundle.six) (index := 7) (is := 94) (E := R_IO) (ci := 8) hx hb htr hlk hno hml hl.1 hown htb hK hX hG rfl (by decide +kernel) k_2_56 k_1_12 k_2_57 (List.mem_of_getElem? (i := 9) rfl) (by decide +kernel) (by decide +kernel) (by decide +kernel) (by decide +kernel) at_IO d_X_copy_12 d_X_copy_15 d_X_copy_16 d_X_copy_18 d_X_copy_21 (by decide) (by decide) (by decide) (by decide) (fun q9 hq9 => rB_1 (by simp [m_badC, hq4]) ⟨q9, rfl, hq9, rfl⟩)

end
