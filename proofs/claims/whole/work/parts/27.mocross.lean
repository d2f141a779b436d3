section
variable {l : Launch} {D : va_G} {cI cJ cP cS : ClassId} {b0 : Nat} {h : gh_M}

set_option maxHeartbeats 4000000 in
set_option maxRecDepth 100000 in
/-- isInBox -/
theorem c_Mo_isInBox {mo nm fr hs va tp dn g my : Nat} {th : Int32} {nf ff : Nat → Int32} {hf vf tf df : Nat → Int64} (hW : wM cI cJ h mo nm fr hs va tp dn th g my nf ff hf vf tf df) {k : Nat} (hk : k < 8) : gh_C l D vC (tZ cI cJ cP cS) (xF b0) b0 y_Mo_isInBox w_Mo_isInBox ({ frames := 1, cells := 0, slots := 0, locals := 34 }) [.ref mo, .int (nI k)] h (rI (m_b (v_ib tf df k)) h) := by
  refine gh_ofW (by decide) (Nat.le_of_ble_eq_true rfl) ?_
  intro p e s m below meth c ls hctx hno hl hG hK hX
  obtain ⟨hx, hb, hr, hml, hown, hlk, hts, hnm⟩ := hctx
  have htb : ∀ w ∈ tB, w.before _ s = true := fun w hw => hts w (List.mem_cons_of_mem _ hw)
  replace hl : lv_has ls 2 [(0, .ref mo), (1, .int (nI k))] := hl
  obtain ⟨zmo, znm, zfr, zhs, zva, ztp, zdn, zvt, zvd, ztd, zg, zy⟩ := hW
  have zf0 : frM h h := frM_rf h
  refine lv_aload_n hx hb d_Mo_isInBox_0 rfl (lv_at hl 0 rfl) ?_
  refine gh_get (ci := 5) hx hb htb in_Mo hown hK hG zmo rfl 8 (by decide) (htb _ k_2_231) (fun _ h9 => h9) rfl d_Mo_isInBox_1 ?_
  refine lv_iload_n hx hb d_Mo_isInBox_4 rfl (lv_at hl 1 rfl) ?_
  refine gh_lald (v := df k) hx hb hK hG 1 zdn rfl (vp_in_nI (by omega) (by decide)) (by rw [nI_clamp (by omega)]) d_Mo_isInBox_5 ?_
  refine lv_lconst (v := 0) hx hb d_Mo_isInBox_6 (by decide) ?_
  refine W.lcmp hx hb d_Mo_isInBox_7 ?_
  refine lv_if_le (tgt := 59) hx hb d_Mo_isInBox_8 (by decide) (fun hc8 => ?_) (fun hc8 => ?_)
  · skip
    rw [lg_cmp_le] at hc8
    refine lv_iconst (v := 0) hx hb d_Mo_isInBox_59 (by decide) ?_
    exact gh_iret hx hb hr hlk rfl hG d_Mo_isInBox_60 (⟨by simp [v_ib, m_b, hc8], rfl⟩)
  · skip
    rw [lg_cmp_le] at hc8
    refine lv_aload_n hx hb d_Mo_isInBox_11 rfl (lv_at hl 0 rfl) ?_
    refine gh_get (ci := 5) hx hb htb in_Mo hown hK hG zmo rfl 7 (by decide) (htb _ k_2_230) (fun _ h9 => h9) rfl d_Mo_isInBox_12 ?_
    refine lv_iload_n hx hb d_Mo_isInBox_15 rfl (lv_at hl 1 rfl) ?_
    refine gh_lald (v := tf k) hx hb hK hG 1 ztp rfl (vp_in_nI (by omega) (by decide)) (by rw [nI_clamp (by omega)]) d_Mo_isInBox_16 ?_
    refine lv_aload_n hx hb d_Mo_isInBox_17 rfl (lv_at hl 0 rfl) ?_
    refine gh_get (ci := 5) hx hb htb in_Mo hown hK hG zmo rfl 8 (by decide) (htb _ k_2_231) (fun _ h9 => h9) rfl d_Mo_isInBox_18 ?_
    refine lv_iload_n hx hb d_Mo_isInBox_21 rfl (lv_at hl 1 rfl) ?_
    refine gh_lald (v := df k) hx hb hK hG 1 zdn rfl (vp_in_nI (by omega) (by decide)) (by rw [nI_clamp (by omega)]) d_Mo_isInBox_22 ?_
    refine lv_ldc2 (v := (-1000)) hx hb hown (htb _ k_3_115) d_Mo_isInBox_23 ?_
    refine lv_lconst (v := 1) hx hb d_Mo_isInBox_26 (by decide) ?_
    refine gh_cS (As := [.long (tf k), .long (df k), .long (-1000), .long 1]) (rest := []) (xF_ok b0) hx hb hml hown hK hX hG c_Mo_compare (q_Mo_compare htb ⟨by decide, by decide⟩) (htb _ k_3_116) (htb _ k_3_117) rfl hl.1 rfl (Nat.le_of_ble_eq_true rfl) d_Mo_isInBox_27 ⟨by decide, by decide⟩ (fun v9 h9 H l9 hp9 hG => ?_) (fun _ _ _ _ hp9 _ => by cases hp9.1)
    obtain ⟨hv9, hh9⟩ := hp9
    cases hv9
    rw [hh9] at hG
    refine W.eq (g2 := F0 m 30 ls [.int (v_cmp (tf k) (df k) (-1000) 1)]) rfl ?_
    refine W.widen (k := 0) (n := 0) (by decide) (by decide) ?_
    refine lv_if_lt (tgt := 59) hx hb d_Mo_isInBox_30 (by decide) (fun hc30 => ?_) (fun hc30 => ?_)
    · skip
      refine lv_iconst (v := 0) hx hb d_Mo_isInBox_59 (by decide) ?_
      exact gh_iret hx hb hr hlk rfl hG d_Mo_isInBox_60 (⟨by simp [v_ib, m_b, hc8, hc30], rfl⟩)
    · skip
      refine lv_aload_n hx hb d_Mo_isInBox_33 rfl (lv_at hl 0 rfl) ?_
      refine gh_get (ci := 5) hx hb htb in_Mo hown hK hG zmo rfl 7 (by decide) (htb _ k_2_230) (fun _ h9 => h9) rfl d_Mo_isInBox_34 ?_
      refine lv_iload_n hx hb d_Mo_isInBox_37 rfl (lv_at hl 1 rfl) ?_
      refine gh_lald (v := tf k) hx hb hK hG 1 ztp rfl (vp_in_nI (by omega) (by decide)) (by rw [nI_clamp (by omega)]) d_Mo_isInBox_38 ?_
      refine lv_aload_n hx hb d_Mo_isInBox_39 rfl (lv_at hl 0 rfl) ?_
      refine gh_get (ci := 5) hx hb htb in_Mo hown hK hG zmo rfl 8 (by decide) (htb _ k_2_231) (fun _ h9 => h9) rfl d_Mo_isInBox_40 ?_
      refine lv_iload_n hx hb d_Mo_isInBox_43 rfl (lv_at hl 1 rfl) ?_
      refine gh_lald (v := df k) hx hb hK hG 1 zdn rfl (vp_in_nI (by omega) (by decide)) (by rw [nI_clamp (by omega)]) d_Mo_isInBox_44 ?_
      refine lv_ldc2 (v := 1000) hx hb hown (htb _ k_3_119) d_Mo_isInBox_45 ?_
      refine lv_lconst (v := 1) hx hb d_Mo_isInBox_48 (by decide) ?_
      refine gh_cS (As := [.long (tf k), .long (df k), .long 1000, .long 1]) (rest := []) (xF_ok b0) hx hb hml hown hK hX hG c_Mo_compare (q_Mo_compare htb ⟨by decide, by decide⟩) (htb _ k_3_116) (htb _ k_3_117) rfl hl.1 rfl (Nat.le_of_ble_eq_true rfl) d_Mo_isInBox_49 ⟨by decide, by decide⟩ (fun v9 h9 H l9 hp9 hG => ?_) (fun _ _ _ _ hp9 _ => by cases hp9.1)
      obtain ⟨hv9, hh9⟩ := hp9
      cases hv9
      rw [hh9] at hG
      refine W.eq (g2 := F0 m 52 ls [.int (v_cmp (tf k) (df k) 1000 1)]) rfl ?_
      refine W.widen (k := 0) (n := 0) (by decide) (by decide) ?_
      refine lv_if_gt (tgt := 59) hx hb d_Mo_isInBox_52 (by decide) (fun hc52 => ?_) (fun hc52 => ?_)
      · skip
        refine lv_iconst (v := 0) hx hb d_Mo_isInBox_59 (by decide) ?_
        exact gh_iret hx hb hr hlk rfl hG d_Mo_isInBox_60 (⟨by simp [v_ib, m_b, hc8, hc30, hc52], rfl⟩)
      · skip
        refine lv_iconst (v := 1) hx hb d_Mo_isInBox_55 (by decide) ?_
        refine lv_goto (tgt := 60) hx hb d_Mo_isInBox_56 (by decide) ?_
        exact gh_iret hx hb hr hlk rfl hG d_Mo_isInBox_60 (⟨by simp [v_ib, m_b, hc8, hc30, hc52], rfl⟩)

set_option maxHeartbeats 4000000 in
set_option maxRecDepth 100000 in
/-- isCrossed -/
theorem c_Mo_isCrossed {mo nm fr hs va tp dn g my : Nat} {th : Int32} {nf ff : Nat → Int32} {hf vf tf df : Nat → Int64} (hW : wM cI cJ h mo nm fr hs va tp dn th g my nf ff hf vf tf df) {a : Nat} (ha : a < 3) : gh_C l D vC (tZ cI cJ cP cS) (xF b0) b0 y_Mo_isCrossed w_Mo_isCrossed ({ frames := 2, cells := 0, slots := 0, locals := 70 }) [.ref mo, .int (nI a)] h (rI (m_b (m_any (v_crs nf tf df a) g)) h) := by
  refine gh_ofW (by decide) (Nat.le_of_ble_eq_true rfl) ?_
  intro p e s m below meth c ls hctx hno hl hG hK hX
  obtain ⟨hx, hb, hr, hml, hown, hlk, hts, hnm⟩ := hctx
  have htb : ∀ w ∈ tB, w.before _ s = true := fun w hw => hts w (List.mem_cons_of_mem _ hw)
  replace hl : lv_has ls 6 [(0, .ref mo), (1, .int (nI a))] := hl
  obtain ⟨zmo, znm, zfr, zhs, zva, ztp, zdn, zvt, zvd, ztd, zg, zy⟩ := hW
  have zf0 : frM h h := frM_rf h
  refine lv_iconst (v := 0) hx hb d_Mo_isCrossed_0 (by decide) ?_
  refine lv_istore_n (lv' := [(2, .int 0), (0, .ref mo), (1, .int (nI a))]) hx hb d_Mo_isCrossed_1 rfl hl (by decide) rfl (fun ls hl => ?_)
  refine lv_iconst (v := 0) hx hb d_Mo_isCrossed_2 (by decide) ?_
  refine lv_istore_n (lv' := [(3, .int 0), (2, .int 0), (0, .ref mo), (1, .int (nI a))]) hx hb d_Mo_isCrossed_3 rfl hl (by decide) rfl (fun ls hl => ?_)
  refine gh_gen hG (fun H l9 hG => ?_)
  refine lp_upH (α := Bool) (G := fun ls H l9 => W p l e _ s m _ below meth c H l9 _ _ _ (F0 m 4 ls [])) g (fun k b1 ls H l9 => (b1 = m_any (v_crs nf tf df a) k) ∧ lv_has ls 6 [(0, .ref mo), (1, .int (nI a)), (2, .int (m_b b1)), (3, .int (nI k))] ∧ gh_P D vC b0 h s.heap H l9) ?_ 0 false ls H l9 (Nat.zero_le _) ⟨rfl, (lv_sub hl [2, 3, 1, 0] rfl), hG⟩
  intro k b1 ls H l9 hka hI iha
  obtain ⟨hi1a, hl, hG⟩ := hI
  refine lv_iload_n hx hb d_Mo_isCrossed_4 rfl (lv_at hl 3 rfl) ?_
  refine lv_aload_n hx hb d_Mo_isCrossed_5 rfl (lv_at hl 0 rfl) ?_
  refine gh_get (ci := 5) hx hb htb in_Mo hown hK hG zmo rfl 1 (by decide) (htb _ k_2_224) (fun _ h9 => h9) rfl d_Mo_isCrossed_6 ?_
  refine lv_icmp_ge (tgt := 186) hx hb d_Mo_isCrossed_9 (by decide) (fun hc9 => ?_) (fun hc9 => ?_)
  · skip
    replace hc9 : g ≤ k := (nc_le (a := g) (b := k) (by omega) (by omega) rfl rfl).mp hc9
    refine lv_iload_n hx hb d_Mo_isCrossed_186 rfl (lv_at hl 2 rfl) ?_
    exact gh_iret hx hb hr hlk (mb_nz _) hG d_Mo_isCrossed_187 (⟨by rw [hi1a, show k = g by omega], rfl⟩)
  · skip
    replace hc9 : ¬ g ≤ k := fun q9 => hc9 ((nc_le (a := g) (b := k) (by omega) (by omega) rfl rfl).mpr q9)
    refine lv_aload_n hx hb d_Mo_isCrossed_12 rfl (lv_at hl 0 rfl) ?_
    refine lv_iload_n hx hb d_Mo_isCrossed_13 rfl (lv_at hl 3 rfl) ?_
    refine gh_cV (ci := 5) (As := [.int (nI k)]) (rest := []) (xF_ok b0) hx hb hml hown hK hX hG rfl zmo (c_Mo_isInBox (wM_mk zmo znm zfr zhs zva ztp zdn zvt zvd ztd (by omega) (by omega)) (k := k) (by omega)) (q_Mo_isInBox htb ⟨by decide, by decide⟩) (htb _ k_3_111) (htb _ k_3_113) (htb _ k_s_Mo_isInBox) rfl hl.1 rfl (Nat.le_of_ble_eq_true rfl) d_Mo_isCrossed_14 ⟨by decide, by decide⟩ (fun v9 h9 H l9 hp9 hG => ?_) (fun _ _ _ _ hp9 _ => by cases hp9.1)
    obtain ⟨hv9, hh9⟩ := hp9
    cases hv9
    rw [hh9] at hG
    refine W.eq (g2 := F0 m 17 ls [.int (m_b (v_ib tf df k))]) rfl ?_
    refine W.widen (k := 0) (n := 0) (by decide) (by decide) ?_
    refine lv_if_ne (tgt := 23) hx hb d_Mo_isCrossed_17 (by decide) (fun hc17 => ?_) (fun hc17 => ?_)
    · skip
      replace hc17 := mb_1.mp hc17
      refine lv_aload_n hx hb d_Mo_isCrossed_23 rfl (lv_at hl 0 rfl) ?_
      refine gh_get (ci := 5) hx hb htb in_Mo hown hK hG zmo rfl 7 (by decide) (htb _ k_2_230) (fun _ h9 => h9) rfl d_Mo_isCrossed_24 ?_
      refine lv_iload_n hx hb d_Mo_isCrossed_27 rfl (lv_at hl 3 rfl) ?_
      refine gh_lald (v := tf k) hx hb hK hG 1 ztp rfl (vp_in_nI (by omega) (by decide)) (by rw [nI_clamp (by omega)]) d_Mo_isCrossed_28 ?_
      refine lv_aload_n hx hb d_Mo_isCrossed_29 rfl (lv_at hl 0 rfl) ?_
      refine gh_get (ci := 5) hx hb htb in_Mo hown hK hG zmo rfl 8 (by decide) (htb _ k_2_231) (fun _ h9 => h9) rfl d_Mo_isCrossed_30 ?_
      refine lv_iload_n hx hb d_Mo_isCrossed_33 rfl (lv_at hl 3 rfl) ?_
      refine gh_lald (v := df k) hx hb hK hG 1 zdn rfl (vp_in_nI (by omega) (by decide)) (by rw [nI_clamp (by omega)]) d_Mo_isCrossed_34 ?_
      refine lv_ldc2 (v := (-1000)) hx hb hown (htb _ k_3_115) d_Mo_isCrossed_35 ?_
      refine lv_lconst (v := 1) hx hb d_Mo_isCrossed_38 (by decide) ?_
      refine gh_cS (As := [.long (tf k), .long (df k), .long (-1000), .long 1]) (rest := []) (xF_ok b0) hx hb hml hown hK hX hG c_Mo_compare (q_Mo_compare htb ⟨by decide, by decide⟩) (htb _ k_3_116) (htb _ k_3_117) rfl hl.1 rfl (Nat.le_of_ble_eq_true rfl) d_Mo_isCrossed_39 ⟨by decide, by decide⟩ (fun v9 h9 H l9 hp9 hG => ?_) (fun _ _ _ _ hp9 _ => by cases hp9.1)
      obtain ⟨hv9, hh9⟩ := hp9
      cases hv9
      rw [hh9] at hG
      refine W.eq (g2 := F0 m 42 ls [.int (v_cmp (tf k) (df k) (-1000) 1)]) rfl ?_
      refine W.widen (k := 0) (n := 0) (by decide) (by decide) ?_
      refine lv_if_eq (tgt := 67) hx hb d_Mo_isCrossed_42 (by decide) (fun hc42 => ?_) (fun hc42 => ?_)
      · skip
        refine lv_iconst (v := 1) hx hb d_Mo_isCrossed_67 (by decide) ?_
        refine lv_goto (tgt := 72) hx hb d_Mo_isCrossed_68 (by decide) ?_
        refine lv_istore (lv' := [(4, .int 1), (0, .ref mo), (1, .int (nI a)), (2, .int (m_b b1)), (3, .int (nI k))]) hx hb d_Mo_isCrossed_72 hl (by decide) rfl (fun ls hl => ?_)
        refine lv_iload_n hx hb d_Mo_isCrossed_74 rfl (lv_at hl 3 rfl) ?_
        refine lv_if_ne (tgt := 95) hx hb d_Mo_isCrossed_75 (by decide) (fun hc75 => ?_) (fun hc75 => ?_)
        · skip
          replace hc75 := mb_1.mp hc75
          refine lv_iconst (v := 1) hx hb d_Mo_isCrossed_95 (by decide) ?_
          refine lv_goto (tgt := 100) hx hb d_Mo_isCrossed_96 (by decide) ?_
          refine lv_istore_n (lv' := [(2, .int 1), (4, .int 1), (0, .ref mo), (1, .int (nI a)), (3, .int (nI k))]) hx hb d_Mo_isCrossed_100 rfl hl (by decide) rfl (fun ls hl => ?_)
          refine lv_iconst (v := 0) hx hb d_Mo_isCrossed_101 (by decide) ?_
          refine lv_istore (lv' := [(5, .int 0), (2, .int 1), (4, .int 1), (0, .ref mo), (1, .int (nI a)), (3, .int (nI k))]) hx hb d_Mo_isCrossed_102 hl (by decide) rfl (fun ls hl => ?_)
          refine gh_gen hG (fun H l9 hG => ?_)
          refine lp_upH (α := Bool) (G := fun ls H l9 => W p l e _ s m _ below meth c H l9 _ _ _ (F0 m 104 ls [])) k (fun k2 b2 ls H l9 => (b2 = (true || m_any (v_xm nf tf df k) k2)) ∧ lv_has ls 6 [(0, .ref mo), (1, .int (nI a)), (2, .int (m_b b2)), (3, .int (nI k)), (5, .int (nI k2))] ∧ gh_P D vC b0 h s.heap H l9) ?_ 0 true ls H l9 (Nat.zero_le _) ⟨(by unfold m_any; simp), (lv_sub hl [3, 4, 1, 5, 0] rfl), hG⟩
          intro k2 b2 ls H l9 hkb hI ihb
          obtain ⟨hi1b, hl, hG⟩ := hI
          refine lv_iload hx hb d_Mo_isCrossed_104 (lv_at hl 4 rfl) ?_
          refine lv_iload_n hx hb d_Mo_isCrossed_106 rfl (lv_at hl 3 rfl) ?_
          refine lv_icmp_ge (tgt := 180) hx hb d_Mo_isCrossed_107 (by decide) (fun hc107 => ?_) (fun hc107 => ?_)
          · skip
            replace hc107 : k ≤ k2 := (nc_le (a := k) (b := k2) (by omega) (by omega) rfl rfl).mp hc107
            refine lv_iinc (k := 3) (v := nI (k + 1)) (lv' := [(3, .int (nI (k + 1))), (0, .ref mo), (1, .int (nI a)), (2, .int (m_b b2)), (5, .int (nI k2))]) hx hb d_Mo_isCrossed_180 hl rfl (nI_1 k) (by decide) rfl (fun ls hl => ?_)
            refine lv_goto (tgt := 4) hx hb d_Mo_isCrossed_183 (by decide) ?_
            exact iha b2 ls H l9 (by omega) ⟨by rw [m_any_s, ← hi1a, hi1b, show k2 = k by omega]; simp [v_crs, v_end, hc17, hc42, hc75], (lv_sub hl [1, 2, 3, 0] rfl), hG⟩
          · skip
            replace hc107 : ¬ k ≤ k2 := fun q9 => hc107 ((nc_le (a := k) (b := k2) (by omega) (by omega) rfl rfl).mpr q9)
            refine lv_iload_n hx hb d_Mo_isCrossed_110 rfl (lv_at hl 2 rfl) ?_
            refine lv_if_ne (tgt := 168) hx hb d_Mo_isCrossed_111 (by decide) (fun hc111 => ?_) (fun hc111 => ?_)
            · skip
              replace hc111 := mb_1.mp hc111
              refine lv_iconst (v := 1) hx hb d_Mo_isCrossed_168 (by decide) ?_
              refine lv_goto (tgt := 173) hx hb d_Mo_isCrossed_169 (by decide) ?_
              refine lv_istore_n (lv' := [(2, .int 1), (0, .ref mo), (1, .int (nI a)), (3, .int (nI k)), (5, .int (nI k2))]) hx hb d_Mo_isCrossed_173 rfl hl (by decide) rfl (fun ls hl => ?_)
              refine lv_iinc (k := 4) (v := nI (k2 + 1)) (lv' := [(5, .int (nI (k2 + 1))), (2, .int 1), (0, .ref mo), (1, .int (nI a)), (3, .int (nI k))]) hx hb d_Mo_isCrossed_174 hl rfl (nI_1 k2) (by decide) rfl (fun ls hl => ?_)
              refine lv_goto (tgt := 104) hx hb d_Mo_isCrossed_177 (by decide) ?_
              exact ihb true ls H l9 (by omega) ⟨by rw [m_any_s, ← Bool.or_assoc, ← hi1b]; rw [hc111]; rfl, (lv_sub hl [2, 3, 1, 4, 0] rfl), hG⟩
            · skip
              replace hc111 := mb_0.mp hc111
              refine lv_aload_n hx hb d_Mo_isCrossed_114 rfl (lv_at hl 0 rfl) ?_
              refine gh_get (ci := 5) hx hb htb in_Mo hown hK hG zmo rfl 8 (by decide) (htb _ k_2_231) (fun _ h9 => h9) rfl d_Mo_isCrossed_115 ?_
              refine lv_iload hx hb d_Mo_isCrossed_118 (lv_at hl 4 rfl) ?_
              refine gh_lald (v := df k2) hx hb hK hG 1 zdn rfl (vp_in_nI (by omega) (by decide)) (by rw [nI_clamp (by omega)]) d_Mo_isCrossed_120 ?_
              refine lv_lconst (v := 0) hx hb d_Mo_isCrossed_121 (by decide) ?_
              refine W.lcmp hx hb d_Mo_isCrossed_122 ?_
              refine lv_if_le (tgt := 172) hx hb d_Mo_isCrossed_123 (by decide) (fun hc123 => ?_) (fun hc123 => ?_)
              · skip
                rw [lg_cmp_le] at hc123
                refine lv_iconst (v := 0) hx hb d_Mo_isCrossed_172 (by decide) ?_
                refine lv_istore_n (lv' := [(2, .int 0), (0, .ref mo), (1, .int (nI a)), (3, .int (nI k)), (5, .int (nI k2))]) hx hb d_Mo_isCrossed_173 rfl hl (by decide) rfl (fun ls hl => ?_)
                refine lv_iinc (k := 4) (v := nI (k2 + 1)) (lv' := [(5, .int (nI (k2 + 1))), (2, .int 0), (0, .ref mo), (1, .int (nI a)), (3, .int (nI k))]) hx hb d_Mo_isCrossed_174 hl rfl (nI_1 k2) (by decide) rfl (fun ls hl => ?_)
                refine lv_goto (tgt := 104) hx hb d_Mo_isCrossed_177 (by decide) ?_
                exact ihb false ls H l9 (by omega) ⟨by rw [m_any_s, ← Bool.or_assoc, ← hi1b]; rw [hc111]; simp [v_xm, hc123], (lv_sub hl [2, 3, 1, 4, 0] rfl), hG⟩
              · skip
                rw [lg_cmp_le] at hc123
                refine lv_aload_n hx hb d_Mo_isCrossed_126 rfl (lv_at hl 0 rfl) ?_
                refine gh_get (ci := 5) hx hb htb in_Mo hown hK hG zmo rfl 7 (by decide) (htb _ k_2_230) (fun _ h9 => h9) rfl d_Mo_isCrossed_127 ?_
                refine lv_iload_n hx hb d_Mo_isCrossed_130 rfl (lv_at hl 3 rfl) ?_
                refine gh_lald (v := tf k) hx hb hK hG 1 ztp rfl (vp_in_nI (by omega) (by decide)) (by rw [nI_clamp (by omega)]) d_Mo_isCrossed_131 ?_
                refine lv_aload_n hx hb d_Mo_isCrossed_132 rfl (lv_at hl 0 rfl) ?_
                refine gh_get (ci := 5) hx hb htb in_Mo hown hK hG zmo rfl 8 (by decide) (htb _ k_2_231) (fun _ h9 => h9) rfl d_Mo_isCrossed_133 ?_
                refine lv_iload_n hx hb d_Mo_isCrossed_136 rfl (lv_at hl 3 rfl) ?_
                refine gh_lald (v := df k) hx hb hK hG 1 zdn rfl (vp_in_nI (by omega) (by decide)) (by rw [nI_clamp (by omega)]) d_Mo_isCrossed_137 ?_
                refine lv_aload_n hx hb d_Mo_isCrossed_138 rfl (lv_at hl 0 rfl) ?_
                refine gh_get (ci := 5) hx hb htb in_Mo hown hK hG zmo rfl 7 (by decide) (htb _ k_2_230) (fun _ h9 => h9) rfl d_Mo_isCrossed_139 ?_
                refine lv_iload hx hb d_Mo_isCrossed_142 (lv_at hl 4 rfl) ?_
                refine gh_lald (v := tf k2) hx hb hK hG 1 ztp rfl (vp_in_nI (by omega) (by decide)) (by rw [nI_clamp (by omega)]) d_Mo_isCrossed_144 ?_
                refine lv_aload_n hx hb d_Mo_isCrossed_145 rfl (lv_at hl 0 rfl) ?_
                refine gh_get (ci := 5) hx hb htb in_Mo hown hK hG zmo rfl 8 (by decide) (htb _ k_2_231) (fun _ h9 => h9) rfl d_Mo_isCrossed_146 ?_
                refine lv_iload hx hb d_Mo_isCrossed_149 (lv_at hl 4 rfl) ?_
                refine gh_lald (v := df k2) hx hb hK hG 1 zdn rfl (vp_in_nI (by omega) (by decide)) (by rw [nI_clamp (by omega)]) d_Mo_isCrossed_151 ?_
                refine gh_cS (As := [.long (tf k), .long (df k), .long (tf k2), .long (df k2)]) (rest := []) (xF_ok b0) hx hb hml hown hK hX hG c_Mo_compare (q_Mo_compare htb ⟨by decide, by decide⟩) (htb _ k_3_116) (htb _ k_3_117) rfl hl.1 rfl (Nat.le_of_ble_eq_true rfl) d_Mo_isCrossed_152 ⟨by decide, by decide⟩ (fun v9 h9 H l9 hp9 hG => ?_) (fun _ _ _ _ hp9 _ => by cases hp9.1)
                obtain ⟨hv9, hh9⟩ := hp9
                cases hv9
                rw [hh9] at hG
                refine W.eq (g2 := F0 m 155 ls [.int (v_cmp (tf k) (df k) (tf k2) (df k2))]) rfl ?_
                refine W.widen (k := 0) (n := 0) (by decide) (by decide) ?_
                refine lv_if_ne (tgt := 172) hx hb d_Mo_isCrossed_155 (by decide) (fun hc155 => ?_) (fun hc155 => ?_)
                · skip
                  refine lv_iconst (v := 0) hx hb d_Mo_isCrossed_172 (by decide) ?_
                  refine lv_istore_n (lv' := [(2, .int 0), (0, .ref mo), (1, .int (nI a)), (3, .int (nI k)), (5, .int (nI k2))]) hx hb d_Mo_isCrossed_173 rfl hl (by decide) rfl (fun ls hl => ?_)
                  refine lv_iinc (k := 4) (v := nI (k2 + 1)) (lv' := [(5, .int (nI (k2 + 1))), (2, .int 0), (0, .ref mo), (1, .int (nI a)), (3, .int (nI k))]) hx hb d_Mo_isCrossed_174 hl rfl (nI_1 k2) (by decide) rfl (fun ls hl => ?_)
                  refine lv_goto (tgt := 104) hx hb d_Mo_isCrossed_177 (by decide) ?_
                  exact ihb false ls H l9 (by omega) ⟨by rw [m_any_s, ← Bool.or_assoc, ← hi1b]; rw [hc111]; simp [v_xm, hc123, hc155], (lv_sub hl [2, 3, 1, 4, 0] rfl), hG⟩
                · skip
                  refine lv_aload_n hx hb d_Mo_isCrossed_158 rfl (lv_at hl 0 rfl) ?_
                  refine lv_iload_n hx hb d_Mo_isCrossed_159 rfl (lv_at hl 3 rfl) ?_
                  refine lv_iload hx hb d_Mo_isCrossed_160 (lv_at hl 4 rfl) ?_
                  refine gh_cV (ci := 5) (As := [.int (nI k), .int (nI k2)]) (rest := []) (xF_ok b0) hx hb hml hown hK hX hG rfl zmo (c_Mo_alike (wM_mk zmo znm zfr zhs zva ztp zdn zvt zvd ztd (by omega) (by omega)) (p1 := k) (q1 := k2) (by omega) (by omega)) (q_Mo_alike htb ⟨by decide, by decide⟩) (htb _ k_3_87) (htb _ k_3_89) (htb _ k_s_Mo_alike) rfl hl.1 rfl (Nat.le_of_ble_eq_true rfl) d_Mo_isCrossed_162 ⟨by decide, by decide⟩ (fun v9 h9 H l9 hp9 hG => ?_) (fun _ _ _ _ hp9 _ => by cases hp9.1)
                  obtain ⟨hv9, hh9⟩ := hp9
                  cases hv9
                  rw [hh9] at hG
                  refine W.eq (g2 := F0 m 165 ls [.int (v_alike nf k k2)]) rfl ?_
                  refine W.widen (k := 0) (n := 0) (by decide) (by decide) ?_
                  refine lv_if_ne (tgt := 172) hx hb d_Mo_isCrossed_165 (by decide) (fun hc165 => ?_) (fun hc165 => ?_)
                  · skip
                    refine lv_iconst (v := 0) hx hb d_Mo_isCrossed_172 (by decide) ?_
                    refine lv_istore_n (lv' := [(2, .int 0), (0, .ref mo), (1, .int (nI a)), (3, .int (nI k)), (5, .int (nI k2))]) hx hb d_Mo_isCrossed_173 rfl hl (by decide) rfl (fun ls hl => ?_)
                    refine lv_iinc (k := 4) (v := nI (k2 + 1)) (lv' := [(5, .int (nI (k2 + 1))), (2, .int 0), (0, .ref mo), (1, .int (nI a)), (3, .int (nI k))]) hx hb d_Mo_isCrossed_174 hl rfl (nI_1 k2) (by decide) rfl (fun ls hl => ?_)
                    refine lv_goto (tgt := 104) hx hb d_Mo_isCrossed_177 (by decide) ?_
                    exact ihb false ls H l9 (by omega) ⟨by rw [m_any_s, ← Bool.or_assoc, ← hi1b]; rw [hc111]; simp [v_xm, hc123, hc155, hc165], (lv_sub hl [2, 3, 1, 4, 0] rfl), hG⟩
                  · skip
                    refine lv_iconst (v := 1) hx hb d_Mo_isCrossed_168 (by decide) ?_
                    refine lv_goto (tgt := 173) hx hb d_Mo_isCrossed_169 (by decide) ?_
                    refine lv_istore_n (lv' := [(2, .int 1), (0, .ref mo), (1, .int (nI a)), (3, .int (nI k)), (5, .int (nI k2))]) hx hb d_Mo_isCrossed_173 rfl hl (by decide) rfl (fun ls hl => ?_)
                    refine lv_iinc (k := 4) (v := nI (k2 + 1)) (lv' := [(5, .int (nI (k2 + 1))), (2, .int 1), (0, .ref mo), (1, .int (nI a)), (3, .int (nI k))]) hx hb d_Mo_isCrossed_174 hl rfl (nI_1 k2) (by decide) rfl (fun ls hl => ?_)
                    refine lv_goto (tgt := 104) hx hb d_Mo_isCrossed_177 (by decide) ?_
                    exact ihb true ls H l9 (by omega) ⟨by rw [m_any_s, ← Bool.or_assoc, ← hi1b]; rw [hc111]; simp [v_xm, hc123, hc155, hc165], (lv_sub hl [2, 3, 1, 4, 0] rfl), hG⟩
        · skip
          replace hc75 := mb_0.mp hc75
          refine lv_iload hx hb d_Mo_isCrossed_78 (lv_at hl 0 rfl) ?_
          refine lv_if_eq (tgt := 99) hx hb d_Mo_isCrossed_80 (by decide) (fun hc80 => absurd hc80 (by decide)) (fun hc80 => ?_)
          refine lv_aload_n hx hb d_Mo_isCrossed_83 rfl (lv_at hl 1 rfl) ?_
          refine lv_bipush (v := 10) hx hb d_Mo_isCrossed_84 (by decide) ?_
          refine lv_iload_n hx hb d_Mo_isCrossed_86 rfl (lv_at hl 2 rfl) ?_
          refine lv_iadd hx hb d_Mo_isCrossed_87 ?_
          rw [show 10 + (nI a) = nI (10 + a) from nI_add 10 a]
          refine lv_iload_n hx hb d_Mo_isCrossed_88 rfl (lv_at hl 4 rfl) ?_
          refine gh_cV (ci := 5) (As := [.int (nI (10 + a)), .int (nI k)]) (rest := []) (xF_ok b0) hx hb hml hown hK hX hG rfl zmo (c_Mo_alike (wM_mk zmo znm zfr zhs zva ztp zdn zvt zvd ztd (by omega) (by omega)) (p1 := (10 + a)) (q1 := k) (by omega) (by omega)) (q_Mo_alike htb ⟨by decide, by decide⟩) (htb _ k_3_87) (htb _ k_3_89) (htb _ k_s_Mo_alike) rfl hl.1 rfl (Nat.le_of_ble_eq_true rfl) d_Mo_isCrossed_89 ⟨by decide, by decide⟩ (fun v9 h9 H l9 hp9 hG => ?_) (fun _ _ _ _ hp9 _ => by cases hp9.1)
          obtain ⟨hv9, hh9⟩ := hp9
          cases hv9
          rw [hh9] at hG
          refine W.eq (g2 := F0 m 92 ls [.int (v_alike nf (10 + a) k)]) rfl ?_
          refine W.widen (k := 0) (n := 0) (by decide) (by decide) ?_
          refine lv_if_ne (tgt := 99) hx hb d_Mo_isCrossed_92 (by decide) (fun hc92 => ?_) (fun hc92 => ?_)
          · skip
            refine lv_iconst (v := 0) hx hb d_Mo_isCrossed_99 (by decide) ?_
            refine lv_istore_n (lv' := [(2, .int 0), (4, .int 1), (0, .ref mo), (1, .int (nI a)), (3, .int (nI k))]) hx hb d_Mo_isCrossed_100 rfl hl (by decide) rfl (fun ls hl => ?_)
            refine lv_iconst (v := 0) hx hb d_Mo_isCrossed_101 (by decide) ?_
            refine lv_istore (lv' := [(5, .int 0), (2, .int 0), (4, .int 1), (0, .ref mo), (1, .int (nI a)), (3, .int (nI k))]) hx hb d_Mo_isCrossed_102 hl (by decide) rfl (fun ls hl => ?_)
            refine gh_gen hG (fun H l9 hG => ?_)
            refine lp_upH (α := Bool) (G := fun ls H l9 => W p l e _ s m _ below meth c H l9 _ _ _ (F0 m 104 ls [])) k (fun k2 b2 ls H l9 => (b2 = (false || m_any (v_xm nf tf df k) k2)) ∧ lv_has ls 6 [(0, .ref mo), (1, .int (nI a)), (2, .int (m_b b2)), (3, .int (nI k)), (5, .int (nI k2))] ∧ gh_P D vC b0 h s.heap H l9) ?_ 0 false ls H l9 (Nat.zero_le _) ⟨(by unfold m_any; simp), (lv_sub hl [3, 4, 1, 5, 0] rfl), hG⟩
            intro k2 b2 ls H l9 hkb hI ihb
            obtain ⟨hi1b, hl, hG⟩ := hI
            refine lv_iload hx hb d_Mo_isCrossed_104 (lv_at hl 4 rfl) ?_
            refine lv_iload_n hx hb d_Mo_isCrossed_106 rfl (lv_at hl 3 rfl) ?_
            refine lv_icmp_ge (tgt := 180) hx hb d_Mo_isCrossed_107 (by decide) (fun hc107 => ?_) (fun hc107 => ?_)
            · skip
              replace hc107 : k ≤ k2 := (nc_le (a := k) (b := k2) (by omega) (by omega) rfl rfl).mp hc107
              refine lv_iinc (k := 3) (v := nI (k + 1)) (lv' := [(3, .int (nI (k + 1))), (0, .ref mo), (1, .int (nI a)), (2, .int (m_b b2)), (5, .int (nI k2))]) hx hb d_Mo_isCrossed_180 hl rfl (nI_1 k) (by decide) rfl (fun ls hl => ?_)
              refine lv_goto (tgt := 4) hx hb d_Mo_isCrossed_183 (by decide) ?_
              exact iha b2 ls H l9 (by omega) ⟨by rw [m_any_s, ← hi1a, hi1b, show k2 = k by omega]; simp [v_crs, v_end, hc17, hc42, hc75, hc92], (lv_sub hl [1, 2, 3, 0] rfl), hG⟩
            · skip
              replace hc107 : ¬ k ≤ k2 := fun q9 => hc107 ((nc_le (a := k) (b := k2) (by omega) (by omega) rfl rfl).mpr q9)
              refine lv_iload_n hx hb d_Mo_isCrossed_110 rfl (lv_at hl 2 rfl) ?_
              refine lv_if_ne (tgt := 168) hx hb d_Mo_isCrossed_111 (by decide) (fun hc111 => ?_) (fun hc111 => ?_)
              · skip
                replace hc111 := mb_1.mp hc111
                refine lv_iconst (v := 1) hx hb d_Mo_isCrossed_168 (by decide) ?_
                refine lv_goto (tgt := 173) hx hb d_Mo_isCrossed_169 (by decide) ?_
                refine lv_istore_n (lv' := [(2, .int 1), (0, .ref mo), (1, .int (nI a)), (3, .int (nI k)), (5, .int (nI k2))]) hx hb d_Mo_isCrossed_173 rfl hl (by decide) rfl (fun ls hl => ?_)
                refine lv_iinc (k := 4) (v := nI (k2 + 1)) (lv' := [(5, .int (nI (k2 + 1))), (2, .int 1), (0, .ref mo), (1, .int (nI a)), (3, .int (nI k))]) hx hb d_Mo_isCrossed_174 hl rfl (nI_1 k2) (by decide) rfl (fun ls hl => ?_)
                refine lv_goto (tgt := 104) hx hb d_Mo_isCrossed_177 (by decide) ?_
                exact ihb true ls H l9 (by omega) ⟨by rw [m_any_s, ← Bool.or_assoc, ← hi1b]; rw [hc111]; rfl, (lv_sub hl [2, 3, 1, 4, 0] rfl), hG⟩
              · skip
                replace hc111 := mb_0.mp hc111
                refine lv_aload_n hx hb d_Mo_isCrossed_114 rfl (lv_at hl 0 rfl) ?_
                refine gh_get (ci := 5) hx hb htb in_Mo hown hK hG zmo rfl 8 (by decide) (htb _ k_2_231) (fun _ h9 => h9) rfl d_Mo_isCrossed_115 ?_
                refine lv_iload hx hb d_Mo_isCrossed_118 (lv_at hl 4 rfl) ?_
                refine gh_lald (v := df k2) hx hb hK hG 1 zdn rfl (vp_in_nI (by omega) (by decide)) (by rw [nI_clamp (by omega)]) d_Mo_isCrossed_120 ?_
                refine lv_lconst (v := 0) hx hb d_Mo_isCrossed_121 (by decide) ?_
                refine W.lcmp hx hb d_Mo_isCrossed_122 ?_
                refine lv_if_le (tgt := 172) hx hb d_Mo_isCrossed_123 (by decide) (fun hc123 => ?_) (fun hc123 => ?_)
                · skip
                  rw [lg_cmp_le] at hc123
                  refine lv_iconst (v := 0) hx hb d_Mo_isCrossed_172 (by decide) ?_
                  refine lv_istore_n (lv' := [(2, .int 0), (0, .ref mo), (1, .int (nI a)), (3, .int (nI k)), (5, .int (nI k2))]) hx hb d_Mo_isCrossed_173 rfl hl (by decide) rfl (fun ls hl => ?_)
                  refine lv_iinc (k := 4) (v := nI (k2 + 1)) (lv' := [(5, .int (nI (k2 + 1))), (2, .int 0), (0, .ref mo), (1, .int (nI a)), (3, .int (nI k))]) hx hb d_Mo_isCrossed_174 hl rfl (nI_1 k2) (by decide) rfl (fun ls hl => ?_)
                  refine lv_goto (tgt := 104) hx hb d_Mo_isCrossed_177 (by decide) ?_
                  exact ihb false ls H l9 (by omega) ⟨by rw [m_any_s, ← Bool.or_assoc, ← hi1b]; rw [hc111]; simp [v_xm, hc123], (lv_sub hl [2, 3, 1, 4, 0] rfl), hG⟩
                · skip
                  rw [lg_cmp_le] at hc123
                  refine lv_aload_n hx hb d_Mo_isCrossed_126 rfl (lv_at hl 0 rfl) ?_
                  refine gh_get (ci := 5) hx hb htb in_Mo hown hK hG zmo rfl 7 (by decide) (htb _ k_2_230) (fun _ h9 => h9) rfl d_Mo_isCrossed_127 ?_
                  refine lv_iload_n hx hb d_Mo_isCrossed_130 rfl (lv_at hl 3 rfl) ?_
                  refine gh_lald (v := tf k) hx hb hK hG 1 ztp rfl (vp_in_nI (by omega) (by decide)) (by rw [nI_clamp (by omega)]) d_Mo_isCrossed_131 ?_
                  refine lv_aload_n hx hb d_Mo_isCrossed_132 rfl (lv_at hl 0 rfl) ?_
                  refine gh_get (ci := 5) hx hb htb in_Mo hown hK hG zmo rfl 8 (by decide) (htb _ k_2_231) (fun _ h9 => h9) rfl d_Mo_isCrossed_133 ?_
                  refine lv_iload_n hx hb d_Mo_isCrossed_136 rfl (lv_at hl 3 rfl) ?_
                  refine gh_lald (v := df k) hx hb hK hG 1 zdn rfl (vp_in_nI (by omega) (by decide)) (by rw [nI_clamp (by omega)]) d_Mo_isCrossed_137 ?_
                  refine lv_aload_n hx hb d_Mo_isCrossed_138 rfl (lv_at hl 0 rfl) ?_
                  refine gh_get (ci := 5) hx hb htb in_Mo hown hK hG zmo rfl 7 (by decide) (htb _ k_2_230) (fun _ h9 => h9) rfl d_Mo_isCrossed_139 ?_
                  refine lv_iload hx hb d_Mo_isCrossed_142 (lv_at hl 4 rfl) ?_
                  refine gh_lald (v := tf k2) hx hb hK hG 1 ztp rfl (vp_in_nI (by omega) (by decide)) (by rw [nI_clamp (by omega)]) d_Mo_isCrossed_144 ?_
                  refine lv_aload_n hx hb d_Mo_isCrossed_145 rfl (lv_at hl 0 rfl) ?_
                  refine gh_get (ci := 5) hx hb htb in_Mo hown hK hG zmo rfl 8 (by decide) (htb _ k_2_231) (fun _ h9 => h9) rfl d_Mo_isCrossed_146 ?_
                  refine lv_iload hx hb d_Mo_isCrossed_149 (lv_at hl 4 rfl) ?_
                  refine gh_lald (v := df k2) hx hb hK hG 1 zdn rfl (vp_in_nI (by omega) (by decide)) (by rw [nI_clamp (by omega)]) d_Mo_isCrossed_151 ?_
                  refine gh_cS (As := [.long (tf k), .long (df k), .long (tf k2), .long (df k2)]) (rest := []) (xF_ok b0) hx hb hml hown hK hX hG c_Mo_compare (q_Mo_compare htb ⟨by decide, by decide⟩) (htb _ k_3_116) (htb _ k_3_117) rfl hl.1 rfl (Nat.le_of_ble_eq_true rfl) d_Mo_isCrossed_152 ⟨by decide, by decide⟩ (fun v9 h9 H l9 hp9 hG => ?_) (fun _ _ _ _ hp9 _ => by cases hp9.1)
                  obtain ⟨hv9, hh9⟩ := hp9
                  cases hv9
                  rw [hh9] at hG
                  refine W.eq (g2 := F0 m 155 ls [.int (v_cmp (tf k) (df k) (tf k2) (df k2))]) rfl ?_
                  refine W.widen (k := 0) (n := 0) (by decide) (by decide) ?_
                  refine lv_if_ne (tgt := 172) hx hb d_Mo_isCrossed_155 (by decide) (fun hc155 => ?_) (fun hc155 => ?_)
                  · skip
                    refine lv_iconst (v := 0) hx hb d_Mo_isCrossed_172 (by decide) ?_
                    refine lv_istore_n (lv' := [(2, .int 0), (0, .ref mo), (1, .int (nI a)), (3, .int (nI k)), (5, .int (nI k2))]) hx hb d_Mo_isCrossed_173 rfl hl (by decide) rfl (fun ls hl => ?_)
                    refine lv_iinc (k := 4) (v := nI (k2 + 1)) (lv' := [(5, .int (nI (k2 + 1))), (2, .int 0), (0, .ref mo), (1, .int (nI a)), (3, .int (nI k))]) hx hb d_Mo_isCrossed_174 hl rfl (nI_1 k2) (by decide) rfl (fun ls hl => ?_)
                    refine lv_goto (tgt := 104) hx hb d_Mo_isCrossed_177 (by decide) ?_
                    exact ihb false ls H l9 (by omega) ⟨by rw [m_any_s, ← Bool.or_assoc, ← hi1b]; rw [hc111]; simp [v_xm, hc123, hc155], (lv_sub hl [2, 3, 1, 4, 0] rfl), hG⟩
                  · skip
                    refine lv_aload_n hx hb d_Mo_isCrossed_158 rfl (lv_at hl 0 rfl) ?_
                    refine lv_iload_n hx hb d_Mo_isCrossed_159 rfl (lv_at hl 3 rfl) ?_
                    refine lv_iload hx hb d_Mo_isCrossed_160 (lv_at hl 4 rfl) ?_
                    refine gh_cV (ci := 5) (As := [.int (nI k), .int (nI k2)]) (rest := []) (xF_ok b0) hx hb hml hown hK hX hG rfl zmo (c_Mo_alike (wM_mk zmo znm zfr zhs zva ztp zdn zvt zvd ztd (by omega) (by omega)) (p1 := k) (q1 := k2) (by omega) (by omega)) (q_Mo_alike htb ⟨by decide, by decide⟩) (htb _ k_3_87) (htb _ k_3_89) (htb _ k_s_Mo_alike) rfl hl.1 rfl (Nat.le_of_ble_eq_true rfl) d_Mo_isCrossed_162 ⟨by decide, by decide⟩ (fun v9 h9 H l9 hp9 hG => ?_) (fun _ _ _ _ hp9 _ => by cases hp9.1)
                    obtain ⟨hv9, hh9⟩ := hp9
                    cases hv9
                    rw [hh9] at hG
                    refine W.eq (g2 := F0 m 165 ls [.int (v_alike nf k k2)]) rfl ?_
                    refine W.widen (k := 0) (n := 0) (by decide) (by decide) ?_
                    refine lv_if_ne (tgt := 172) hx hb d_Mo_isCrossed_165 (by decide) (fun hc165 => ?_) (fun hc165 => ?_)
                    · skip
                      refine lv_iconst (v := 0) hx hb d_Mo_isCrossed_172 (by decide) ?_
                      refine lv_istore_n (lv' := [(2, .int 0), (0, .ref mo), (1, .int (nI a)), (3, .int (nI k)), (5, .int (nI k2))]) hx hb d_Mo_isCrossed_173 rfl hl (by decide) rfl (fun ls hl => ?_)
                      refine lv_iinc (k := 4) (v := nI (k2 + 1)) (lv' := [(5, .int (nI (k2 + 1))), (2, .int 0), (0, .ref mo), (1, .int (nI a)), (3, .int (nI k))]) hx hb d_Mo_isCrossed_174 hl rfl (nI_1 k2) (by decide) rfl (fun ls hl => ?_)
                      refine lv_goto (tgt := 104) hx hb d_Mo_isCrossed_177 (by decide) ?_
                      exact ihb false ls H l9 (by omega) ⟨by rw [m_any_s, ← Bool.or_assoc, ← hi1b]; rw [hc111]; simp [v_xm, hc123, hc155, hc165], (lv_sub hl [2, 3, 1, 4, 0] rfl), hG⟩
                    · skip
                      refine lv_iconst (v := 1) hx hb d_Mo_isCrossed_168 (by decide) ?_
                      refine lv_goto (tgt := 173) hx hb d_Mo_isCrossed_169 (by decide) ?_
                      refine lv_istore_n (lv' := [(2, .int 1), (0, .ref mo), (1, .int (nI a)), (3, .int (nI k)), (5, .int (nI k2))]) hx hb d_Mo_isCrossed_173 rfl hl (by decide) rfl (fun ls hl => ?_)
                      refine lv_iinc (k := 4) (v := nI (k2 + 1)) (lv' := [(5, .int (nI (k2 + 1))), (2, .int 1), (0, .ref mo), (1, .int (nI a)), (3, .int (nI k))]) hx hb d_Mo_isCrossed_174 hl rfl (nI_1 k2) (by decide) rfl (fun ls hl => ?_)
                      refine lv_goto (tgt := 104) hx hb d_Mo_isCrossed_177 (by decide) ?_
                      exact ihb true ls H l9 (by omega) ⟨by rw [m_any_s, ← Bool.or_assoc, ← hi1b]; rw [hc111]; simp [v_xm, hc123, hc155, hc165], (lv_sub hl [2, 3, 1, 4, 0] rfl), hG⟩
          · skip
            refine lv_iconst (v := 1) hx hb d_Mo_isCrossed_95 (by decide) ?_
            refine lv_goto (tgt := 100) hx hb d_Mo_isCrossed_96 (by decide) ?_
            refine lv_istore_n (lv' := [(2, .int 1), (4, .int 1), (0, .ref mo), (1, .int (nI a)), (3, .int (nI k))]) hx hb d_Mo_isCrossed_100 rfl hl (by decide) rfl (fun ls hl => ?_)
            refine lv_iconst (v := 0) hx hb d_Mo_isCrossed_101 (by decide) ?_
            refine lv_istore (lv' := [(5, .int 0), (2, .int 1), (4, .int 1), (0, .ref mo), (1, .int (nI a)), (3, .int (nI k))]) hx hb d_Mo_isCrossed_102 hl (by decide) rfl (fun ls hl => ?_)
            refine gh_gen hG (fun H l9 hG => ?_)
            refine lp_upH (α := Bool) (G := fun ls H l9 => W p l e _ s m _ below meth c H l9 _ _ _ (F0 m 104 ls [])) k (fun k2 b2 ls H l9 => (b2 = (true || m_any (v_xm nf tf df k) k2)) ∧ lv_has ls 6 [(0, .ref mo), (1, .int (nI a)), (2, .int (m_b b2)), (3, .int (nI k)), (5, .int (nI k2))] ∧ gh_P D vC b0 h s.heap H l9) ?_ 0 true ls H l9 (Nat.zero_le _) ⟨(by unfold m_any; simp), (lv_sub hl [3, 4, 1, 5, 0] rfl), hG⟩
            intro k2 b2 ls H l9 hkb hI ihb
            obtain ⟨hi1b, hl, hG⟩ := hI
            refine lv_iload hx hb d_Mo_isCrossed_104 (lv_at hl 4 rfl) ?_
            refine lv_iload_n hx hb d_Mo_isCrossed_106 rfl (lv_at hl 3 rfl) ?_
            refine lv_icmp_ge (tgt := 180) hx hb d_Mo_isCrossed_107 (by decide) (fun hc107 => ?_) (fun hc107 => ?_)
            · skip
              replace hc107 : k ≤ k2 := (nc_le (a := k) (b := k2) (by omega) (by omega) rfl rfl).mp hc107
              refine lv_iinc (k := 3) (v := nI (k + 1)) (lv' := [(3, .int (nI (k + 1))), (0, .ref mo), (1, .int (nI a)), (2, .int (m_b b2)), (5, .int (nI k2))]) hx hb d_Mo_isCrossed_180 hl rfl (nI_1 k) (by decide) rfl (fun ls hl => ?_)
              refine lv_goto (tgt := 4) hx hb d_Mo_isCrossed_183 (by decide) ?_
              exact iha b2 ls H l9 (by omega) ⟨by rw [m_any_s, ← hi1a, hi1b, show k2 = k by omega]; simp [v_crs, v_end, hc17, hc42, hc75, hc92], (lv_sub hl [1, 2, 3, 0] rfl), hG⟩
            · skip
              replace hc107 : ¬ k ≤ k2 := fun q9 => hc107 ((nc_le (a := k) (b := k2) (by omega) (by omega) rfl rfl).mpr q9)
              refine lv_iload_n hx hb d_Mo_isCrossed_110 rfl (lv_at hl 2 rfl) ?_
              refine lv_if_ne (tgt := 168) hx hb d_Mo_isCrossed_111 (by decide) (fun hc111 => ?_) (fun hc111 => ?_)
              · skip
                replace hc111 := mb_1.mp hc111
                refine lv_iconst (v := 1) hx hb d_Mo_isCrossed_168 (by decide) ?_
                refine lv_goto (tgt := 173) hx hb d_Mo_isCrossed_169 (by decide) ?_
                refine lv_istore_n (lv' := [(2, .int 1), (0, .ref mo), (1, .int (nI a)), (3, .int (nI k)), (5, .int (nI k2))]) hx hb d_Mo_isCrossed_173 rfl hl (by decide) rfl (fun ls hl => ?_)
                refine lv_iinc (k := 4) (v := nI (k2 + 1)) (lv' := [(5, .int (nI (k2 + 1))), (2, .int 1), (0, .ref mo), (1, .int (nI a)), (3, .int (nI k))]) hx hb d_Mo_isCrossed_174 hl rfl (nI_1 k2) (by decide) rfl (fun ls hl => ?_)
                refine lv_goto (tgt := 104) hx hb d_Mo_isCrossed_177 (by decide) ?_
                exact ihb true ls H l9 (by omega) ⟨by rw [m_any_s, ← Bool.or_assoc, ← hi1b]; rw [hc111]; rfl, (lv_sub hl [2, 3, 1, 4, 0] rfl), hG⟩
              · skip
                replace hc111 := mb_0.mp hc111
                refine lv_aload_n hx hb d_Mo_isCrossed_114 rfl (lv_at hl 0 rfl) ?_
                refine gh_get (ci := 5) hx hb htb in_Mo hown hK hG zmo rfl 8 (by decide) (htb _ k_2_231) (fun _ h9 => h9) rfl d_Mo_isCrossed_115 ?_
                refine lv_iload hx hb d_Mo_isCrossed_118 (lv_at hl 4 rfl) ?_
                refine gh_lald (v := df k2) hx hb hK hG 1 zdn rfl (vp_in_nI (by omega) (by decide)) (by rw [nI_clamp (by omega)]) d_Mo_isCrossed_120 ?_
                refine lv_lconst (v := 0) hx hb d_Mo_isCrossed_121 (by decide) ?_
                refine W.lcmp hx hb d_Mo_isCrossed_122 ?_
                refine lv_if_le (tgt := 172) hx hb d_Mo_isCrossed_123 (by decide) (fun hc123 => ?_) (fun hc123 => ?_)
                · skip
                  rw [lg_cmp_le] at hc123
                  refine lv_iconst (v := 0) hx hb d_Mo_isCrossed_172 (by decide) ?_
                  refine lv_istore_n (lv' := [(2, .int 0), (0, .ref mo), (1, .int (nI a)), (3, .int (nI k)), (5, .int (nI k2))]) hx hb d_Mo_isCrossed_173 rfl hl (by decide) rfl (fun ls hl => ?_)
                  refine lv_iinc (k := 4) (v := nI (k2 + 1)) (lv' := [(5, .int (nI (k2 + 1))), (2, .int 0), (0, .ref mo), (1, .int (nI a)), (3, .int (nI k))]) hx hb d_Mo_isCrossed_174 hl rfl (nI_1 k2) (by decide) rfl (fun ls hl => ?_)
                  refine lv_goto (tgt := 104) hx hb d_Mo_isCrossed_177 (by decide) ?_
                  exact ihb false ls H l9 (by omega) ⟨by rw [m_any_s, ← Bool.or_assoc, ← hi1b]; rw [hc111]; simp [v_xm, hc123], (lv_sub hl [2, 3, 1, 4, 0] rfl), hG⟩
                · skip
                  rw [lg_cmp_le] at hc123
                  refine lv_aload_n hx hb d_Mo_isCrossed_126 rfl (lv_at hl 0 rfl) ?_
                  refine gh_get (ci := 5) hx hb htb in_Mo hown hK hG zmo rfl 7 (by decide) (htb _ k_2_230) (fun _ h9 => h9) rfl d_Mo_isCrossed_127 ?_
                  refine lv_iload_n hx hb d_Mo_isCrossed_130 rfl (lv_at hl 3 rfl) ?_
                  refine gh_lald (v := tf k) hx hb hK hG 1 ztp rfl (vp_in_nI (by omega) (by decide)) (by rw [nI_clamp (by omega)]) d_Mo_isCrossed_131 ?_
                  refine lv_aload_n hx hb d_Mo_isCrossed_132 rfl (lv_at hl 0 rfl) ?_
                  refine gh_get (ci := 5) hx hb htb in_Mo hown hK hG zmo rfl 8 (by decide) (htb _ k_2_231) (fun _ h9 => h9) rfl d_Mo_isCrossed_133 ?_
                  refine lv_iload_n hx hb d_Mo_isCrossed_136 rfl (lv_at hl 3 rfl) ?_
                  refine gh_lald (v := df k) hx hb hK hG 1 zdn rfl (vp_in_nI (by omega) (by decide)) (by rw [nI_clamp (by omega)]) d_Mo_isCrossed_137 ?_
                  refine lv_aload_n hx hb d_Mo_isCrossed_138 rfl (lv_at hl 0 rfl) ?_
                  refine gh_get (ci := 5) hx hb htb in_Mo hown hK hG zmo rfl 7 (by decide) (htb _ k_2_230) (fun _ h9 => h9) rfl d_Mo_isCrossed_139 ?_
                  refine lv_iload hx hb d_Mo_isCrossed_142 (lv_at hl 4 rfl) ?_
                  refine gh_lald (v := tf k2) hx hb hK hG 1 ztp rfl (vp_in_nI (by omega) (by decide)) (by rw [nI_clamp (by omega)]) d_Mo_isCrossed_144 ?_
                  refine lv_aload_n hx hb d_Mo_isCrossed_145 rfl (lv_at hl 0 rfl) ?_
                  refine gh_get (ci := 5) hx hb htb in_Mo hown hK hG zmo rfl 8 (by decide) (htb _ k_2_231) (fun _ h9 => h9) rfl d_Mo_isCrossed_146 ?_
                  refine lv_iload hx hb d_Mo_isCrossed_149 (lv_at hl 4 rfl) ?_
                  refine gh_lald (v := df k2) hx hb hK hG 1 zdn rfl (vp_in_nI (by omega) (by decide)) (by rw [nI_clamp (by omega)]) d_Mo_isCrossed_151 ?_
                  refine gh_cS (As := [.long (tf k), .long (df k), .long (tf k2), .long (df k2)]) (rest := []) (xF_ok b0) hx hb hml hown hK hX hG c_Mo_compare (q_Mo_compare htb ⟨by decide, by decide⟩) (htb _ k_3_116) (htb _ k_3_117) rfl hl.1 rfl (Nat.le_of_ble_eq_true rfl) d_Mo_isCrossed_152 ⟨by decide, by decide⟩ (fun v9 h9 H l9 hp9 hG => ?_) (fun _ _ _ _ hp9 _ => by cases hp9.1)
                  obtain ⟨hv9, hh9⟩ := hp9
                  cases hv9
                  rw [hh9] at hG
                  refine W.eq (g2 := F0 m 155 ls [.int (v_cmp (tf k) (df k) (tf k2) (df k2))]) rfl ?_
                  refine W.widen (k := 0) (n := 0) (by decide) (by decide) ?_
                  refine lv_if_ne (tgt := 172) hx hb d_Mo_isCrossed_155 (by decide) (fun hc155 => ?_) (fun hc155 => ?_)
                  · skip
                    refine lv_iconst (v := 0) hx hb d_Mo_isCrossed_172 (by decide) ?_
                    refine lv_istore_n (lv' := [(2, .int 0), (0, .ref mo), (1, .int (nI a)), (3, .int (nI k)), (5, .int (nI k2))]) hx hb d_Mo_isCrossed_173 rfl hl (by decide) rfl (fun ls hl => ?_)
                    refine lv_iinc (k := 4) (v := nI (k2 + 1)) (lv' := [(5, .int (nI (k2 + 1))), (2, .int 0), (0, .ref mo), (1, .int (nI a)), (3, .int (nI k))]) hx hb d_Mo_isCrossed_174 hl rfl (nI_1 k2) (by decide) rfl (fun ls hl => ?_)
                    refine lv_goto (tgt := 104) hx hb d_Mo_isCrossed_177 (by decide) ?_
                    exact ihb false ls H l9 (by omega) ⟨by rw [m_any_s, ← Bool.or_assoc, ← hi1b]; rw [hc111]; simp [v_xm, hc123, hc155], (lv_sub hl [2, 3, 1, 4, 0] rfl), hG⟩
                  · skip
                    refine lv_aload_n hx hb d_Mo_isCrossed_158 rfl (lv_at hl 0 rfl) ?_
                    refine lv_iload_n hx hb d_Mo_isCrossed_159 rfl (lv_at hl 3 rfl) ?_
                    refine lv_iload hx hb d_Mo_isCrossed_160 (lv_at hl 4 rfl) ?_
                    refine gh_cV (ci := 5) (As := [.int (nI k), .int (nI k2)]) (rest := []) (xF_ok b0) hx hb hml hown hK hX hG rfl zmo (c_Mo_alike (wM_mk zmo znm zfr zhs zva ztp zdn zvt zvd ztd (by omega) (by omega)) (p1 := k) (q1 := k2) (by omega) (by omega)) (q_Mo_alike htb ⟨by decide, by decide⟩) (htb _ k_3_87) (htb _ k_3_89) (htb _ k_s_Mo_alike) rfl hl.1 rfl (Nat.le_of_ble_eq_true rfl) d_Mo_isCrossed_162 ⟨by decide, by decide⟩ (fun v9 h9 H l9 hp9 hG => ?_) (fun _ _ _ _ hp9 _ => by cases hp9.1)
                    obtain ⟨hv9, hh9⟩ := hp9
                    cases hv9
                    rw [hh9] at hG
                    refine W.eq (g2 := F0 m 165 ls [.int (v_alike nf k k2)]) rfl ?_
                    refine W.widen (k := 0) (n := 0) (by decide) (by decide) ?_
                    refine lv_if_ne (tgt := 172) hx hb d_Mo_isCrossed_165 (by decide) (fun hc165 => ?_) (fun hc165 => ?_)
                    · skip
                      refine lv_iconst (v := 0) hx hb d_Mo_isCrossed_172 (by decide) ?_
                      refine lv_istore_n (lv' := [(2, .int 0), (0, .ref mo), (1, .int (nI a)), (3, .int (nI k)), (5, .int (nI k2))]) hx hb d_Mo_isCrossed_173 rfl hl (by decide) rfl (fun ls hl => ?_)
                      refine lv_iinc (k := 4) (v := nI (k2 + 1)) (lv' := [(5, .int (nI (k2 + 1))), (2, .int 0), (0, .ref mo), (1, .int (nI a)), (3, .int (nI k))]) hx hb d_Mo_isCrossed_174 hl rfl (nI_1 k2) (by decide) rfl (fun ls hl => ?_)
                      refine lv_goto (tgt := 104) hx hb d_Mo_isCrossed_177 (by decide) ?_
                      exact ihb false ls H l9 (by omega) ⟨by rw [m_any_s, ← Bool.or_assoc, ← hi1b]; rw [hc111]; simp [v_xm, hc123, hc155, hc165], (lv_sub hl [2, 3, 1, 4, 0] rfl), hG⟩
                    · skip
                      refine lv_iconst (v := 1) hx hb d_Mo_isCrossed_168 (by decide) ?_
                      refine lv_goto (tgt := 173) hx hb d_Mo_isCrossed_169 (by decide) ?_
                      refine lv_istore_n (lv' := [(2, .int 1), (0, .ref mo), (1, .int (nI a)), (3, .int (nI k)), (5, .int (nI k2))]) hx hb d_Mo_isCrossed_173 rfl hl (by decide) rfl (fun ls hl => ?_)
                      refine lv_iinc (k := 4) (v := nI (k2 + 1)) (lv' := [(5, .int (nI (k2 + 1))), (2, .int 1), (0, .ref mo), (1, .int (nI a)), (3, .int (nI k))]) hx hb d_Mo_isCrossed_174 hl rfl (nI_1 k2) (by decide) rfl (fun ls hl => ?_)
                      refine lv_goto (tgt := 104) hx hb d_Mo_isCrossed_177 (by decide) ?_
                      exact ihb true ls H l9 (by omega) ⟨by rw [m_any_s, ← Bool.or_assoc, ← hi1b]; rw [hc111]; simp [v_xm, hc123, hc155, hc165], (lv_sub hl [2, 3, 1, 4, 0] rfl), hG⟩
      · skip
        refine lv_aload_n hx hb d_Mo_isCrossed_45 rfl (lv_at hl 0 rfl) ?_
        refine gh_get (ci := 5) hx hb htb in_Mo hown hK hG zmo rfl 7 (by decide) (htb _ k_2_230) (fun _ h9 => h9) rfl d_Mo_isCrossed_46 ?_
        refine lv_iload_n hx hb d_Mo_isCrossed_49 rfl (lv_at hl 3 rfl) ?_
        refine gh_lald (v := tf k) hx hb hK hG 1 ztp rfl (vp_in_nI (by omega) (by decide)) (by rw [nI_clamp (by omega)]) d_Mo_isCrossed_50 ?_
        refine lv_aload_n hx hb d_Mo_isCrossed_51 rfl (lv_at hl 0 rfl) ?_
        refine gh_get (ci := 5) hx hb htb in_Mo hown hK hG zmo rfl 8 (by decide) (htb _ k_2_231) (fun _ h9 => h9) rfl d_Mo_isCrossed_52 ?_
        refine lv_iload_n hx hb d_Mo_isCrossed_55 rfl (lv_at hl 3 rfl) ?_
        refine gh_lald (v := df k) hx hb hK hG 1 zdn rfl (vp_in_nI (by omega) (by decide)) (by rw [nI_clamp (by omega)]) d_Mo_isCrossed_56 ?_
        refine lv_ldc2 (v := 1000) hx hb hown (htb _ k_3_119) d_Mo_isCrossed_57 ?_
        refine lv_lconst (v := 1) hx hb d_Mo_isCrossed_60 (by decide) ?_
        refine gh_cS (As := [.long (tf k), .long (df k), .long 1000, .long 1]) (rest := []) (xF_ok b0) hx hb hml hown hK hX hG c_Mo_compare (q_Mo_compare htb ⟨by decide, by decide⟩) (htb _ k_3_116) (htb _ k_3_117) rfl hl.1 rfl (Nat.le_of_ble_eq_true rfl) d_Mo_isCrossed_61 ⟨by decide, by decide⟩ (fun v9 h9 H l9 hp9 hG => ?_) (fun _ _ _ _ hp9 _ => by cases hp9.1)
        obtain ⟨hv9, hh9⟩ := hp9
        cases hv9
        rw [hh9] at hG
        refine W.eq (g2 := F0 m 64 ls [.int (v_cmp (tf k) (df k) 1000 1)]) rfl ?_
        refine W.widen (k := 0) (n := 0) (by decide) (by decide) ?_
        refine lv_if_ne (tgt := 71) hx hb d_Mo_isCrossed_64 (by decide) (fun hc64 => ?_) (fun hc64 => ?_)
        · skip
          refine lv_iconst (v := 0) hx hb d_Mo_isCrossed_71 (by decide) ?_
          refine lv_istore (lv' := [(4, .int 0), (0, .ref mo), (1, .int (nI a)), (2, .int (m_b b1)), (3, .int (nI k))]) hx hb d_Mo_isCrossed_72 hl (by decide) rfl (fun ls hl => ?_)
          refine lv_iload_n hx hb d_Mo_isCrossed_74 rfl (lv_at hl 3 rfl) ?_
          refine lv_if_ne (tgt := 95) hx hb d_Mo_isCrossed_75 (by decide) (fun hc75 => ?_) (fun hc75 => ?_)
          · skip
            replace hc75 := mb_1.mp hc75
            refine lv_iconst (v := 1) hx hb d_Mo_isCrossed_95 (by decide) ?_
            refine lv_goto (tgt := 100) hx hb d_Mo_isCrossed_96 (by decide) ?_
            refine lv_istore_n (lv' := [(2, .int 1), (4, .int 0), (0, .ref mo), (1, .int (nI a)), (3, .int (nI k))]) hx hb d_Mo_isCrossed_100 rfl hl (by decide) rfl (fun ls hl => ?_)
            refine lv_iconst (v := 0) hx hb d_Mo_isCrossed_101 (by decide) ?_
            refine lv_istore (lv' := [(5, .int 0), (2, .int 1), (4, .int 0), (0, .ref mo), (1, .int (nI a)), (3, .int (nI k))]) hx hb d_Mo_isCrossed_102 hl (by decide) rfl (fun ls hl => ?_)
            refine gh_gen hG (fun H l9 hG => ?_)
            refine lp_upH (α := Bool) (G := fun ls H l9 => W p l e _ s m _ below meth c H l9 _ _ _ (F0 m 104 ls [])) k (fun k2 b2 ls H l9 => (b2 = (true || m_any (v_xm nf tf df k) k2)) ∧ lv_has ls 6 [(0, .ref mo), (1, .int (nI a)), (2, .int (m_b b2)), (3, .int (nI k)), (5, .int (nI k2))] ∧ gh_P D vC b0 h s.heap H l9) ?_ 0 true ls H l9 (Nat.zero_le _) ⟨(by unfold m_any; simp), (lv_sub hl [3, 4, 1, 5, 0] rfl), hG⟩
            intro k2 b2 ls H l9 hkb hI ihb
            obtain ⟨hi1b, hl, hG⟩ := hI
            refine lv_iload hx hb d_Mo_isCrossed_104 (lv_at hl 4 rfl) ?_
            refine lv_iload_n hx hb d_Mo_isCrossed_106 rfl (lv_at hl 3 rfl) ?_
            refine lv_icmp_ge (tgt := 180) hx hb d_Mo_isCrossed_107 (by decide) (fun hc107 => ?_) (fun hc107 => ?_)
            · skip
              replace hc107 : k ≤ k2 := (nc_le (a := k) (b := k2) (by omega) (by omega) rfl rfl).mp hc107
              refine lv_iinc (k := 3) (v := nI (k + 1)) (lv' := [(3, .int (nI (k + 1))), (0, .ref mo), (1, .int (nI a)), (2, .int (m_b b2)), (5, .int (nI k2))]) hx hb d_Mo_isCrossed_180 hl rfl (nI_1 k) (by decide) rfl (fun ls hl => ?_)
              refine lv_goto (tgt := 4) hx hb d_Mo_isCrossed_183 (by decide) ?_
              exact iha b2 ls H l9 (by omega) ⟨by rw [m_any_s, ← hi1a, hi1b, show k2 = k by omega]; simp [v_crs, v_end, hc17, hc42, hc64, hc75], (lv_sub hl [1, 2, 3, 0] rfl), hG⟩
            · skip
              replace hc107 : ¬ k ≤ k2 := fun q9 => hc107 ((nc_le (a := k) (b := k2) (by omega) (by omega) rfl rfl).mpr q9)
              refine lv_iload_n hx hb d_Mo_isCrossed_110 rfl (lv_at hl 2 rfl) ?_
              refine lv_if_ne (tgt := 168) hx hb d_Mo_isCrossed_111 (by decide) (fun hc111 => ?_) (fun hc111 => ?_)
              · skip
                replace hc111 := mb_1.mp hc111
                refine lv_iconst (v := 1) hx hb d_Mo_isCrossed_168 (by decide) ?_
                refine lv_goto (tgt := 173) hx hb d_Mo_isCrossed_169 (by decide) ?_
                refine lv_istore_n (lv' := [(2, .int 1), (0, .ref mo), (1, .int (nI a)), (3, .int (nI k)), (5, .int (nI k2))]) hx hb d_Mo_isCrossed_173 rfl hl (by decide) rfl (fun ls hl => ?_)
                refine lv_iinc (k := 4) (v := nI (k2 + 1)) (lv' := [(5, .int (nI (k2 + 1))), (2, .int 1), (0, .ref mo), (1, .int (nI a)), (3, .int (nI k))]) hx hb d_Mo_isCrossed_174 hl rfl (nI_1 k2) (by decide) rfl (fun ls hl => ?_)
                refine lv_goto (tgt := 104) hx hb d_Mo_isCrossed_177 (by decide) ?_
                exact ihb true ls H l9 (by omega) ⟨by rw [m_any_s, ← Bool.or_assoc, ← hi1b]; rw [hc111]; rfl, (lv_sub hl [2, 3, 1, 4, 0] rfl), hG⟩
              · skip
                replace hc111 := mb_0.mp hc111
                refine lv_aload_n hx hb d_Mo_isCrossed_114 rfl (lv_at hl 0 rfl) ?_
                refine gh_get (ci := 5) hx hb htb in_Mo hown hK hG zmo rfl 8 (by decide) (htb _ k_2_231) (fun _ h9 => h9) rfl d_Mo_isCrossed_115 ?_
                refine lv_iload hx hb d_Mo_isCrossed_118 (lv_at hl 4 rfl) ?_
                refine gh_lald (v := df k2) hx hb hK hG 1 zdn rfl (vp_in_nI (by omega) (by decide)) (by rw [nI_clamp (by omega)]) d_Mo_isCrossed_120 ?_
                refine lv_lconst (v := 0) hx hb d_Mo_isCrossed_121 (by decide) ?_
                refine W.lcmp hx hb d_Mo_isCrossed_122 ?_
                refine lv_if_le (tgt := 172) hx hb d_Mo_isCrossed_123 (by decide) (fun hc123 => ?_) (fun hc123 => ?_)
                · skip
                  rw [lg_cmp_le] at hc123
                  refine lv_iconst (v := 0) hx hb d_Mo_isCrossed_172 (by decide) ?_
                  refine lv_istore_n (lv' := [(2, .int 0), (0, .ref mo), (1, .int (nI a)), (3, .int (nI k)), (5, .int (nI k2))]) hx hb d_Mo_isCrossed_173 rfl hl (by decide) rfl (fun ls hl => ?_)
                  refine lv_iinc (k := 4) (v := nI (k2 + 1)) (lv' := [(5, .int (nI (k2 + 1))), (2, .int 0), (0, .ref mo), (1, .int (nI a)), (3, .int (nI k))]) hx hb d_Mo_isCrossed_174 hl rfl (nI_1 k2) (by decide) rfl (fun ls hl => ?_)
                  refine lv_goto (tgt := 104) hx hb d_Mo_isCrossed_177 (by decide) ?_
                  exact ihb false ls H l9 (by omega) ⟨by rw [m_any_s, ← Bool.or_assoc, ← hi1b]; rw [hc111]; simp [v_xm, hc123], (lv_sub hl [2, 3, 1, 4, 0] rfl), hG⟩
                · skip
                  rw [lg_cmp_le] at hc123
                  refine lv_aload_n hx hb d_Mo_isCrossed_126 rfl (lv_at hl 0 rfl) ?_
                  refine gh_get (ci := 5) hx hb htb in_Mo hown hK hG zmo rfl 7 (by decide) (htb _ k_2_230) (fun _ h9 => h9) rfl d_Mo_isCrossed_127 ?_
                  refine lv_iload_n hx hb d_Mo_isCrossed_130 rfl (lv_at hl 3 rfl) ?_
                  refine gh_lald (v := tf k) hx hb hK hG 1 ztp rfl (vp_in_nI (by omega) (by decide)) (by rw [nI_clamp (by omega)]) d_Mo_isCrossed_131 ?_
                  refine lv_aload_n hx hb d_Mo_isCrossed_132 rfl (lv_at hl 0 rfl) ?_
                  refine gh_get (ci := 5) hx hb htb in_Mo hown hK hG zmo rfl 8 (by decide) (htb _ k_2_231) (fun _ h9 => h9) rfl d_Mo_isCrossed_133 ?_
                  refine lv_iload_n hx hb d_Mo_isCrossed_136 rfl (lv_at hl 3 rfl) ?_
                  refine gh_lald (v := df k) hx hb hK hG 1 zdn rfl (vp_in_nI (by omega) (by decide)) (by rw [nI_clamp (by omega)]) d_Mo_isCrossed_137 ?_
                  refine lv_aload_n hx hb d_Mo_isCrossed_138 rfl (lv_at hl 0 rfl) ?_
                  refine gh_get (ci := 5) hx hb htb in_Mo hown hK hG zmo rfl 7 (by decide) (htb _ k_2_230) (fun _ h9 => h9) rfl d_Mo_isCrossed_139 ?_
                  refine lv_iload hx hb d_Mo_isCrossed_142 (lv_at hl 4 rfl) ?_
                  refine gh_lald (v := tf k2) hx hb hK hG 1 ztp rfl (vp_in_nI (by omega) (by decide)) (by rw [nI_clamp (by omega)]) d_Mo_isCrossed_144 ?_
                  refine lv_aload_n hx hb d_Mo_isCrossed_145 rfl (lv_at hl 0 rfl) ?_
                  refine gh_get (ci := 5) hx hb htb in_Mo hown hK hG zmo rfl 8 (by decide) (htb _ k_2_231) (fun _ h9 => h9) rfl d_Mo_isCrossed_146 ?_
                  refine lv_iload hx hb d_Mo_isCrossed_149 (lv_at hl 4 rfl) ?_
                  refine gh_lald (v := df k2) hx hb hK hG 1 zdn rfl (vp_in_nI (by omega) (by decide)) (by rw [nI_clamp (by omega)]) d_Mo_isCrossed_151 ?_
                  refine gh_cS (As := [.long (tf k), .long (df k), .long (tf k2), .long (df k2)]) (rest := []) (xF_ok b0) hx hb hml hown hK hX hG c_Mo_compare (q_Mo_compare htb ⟨by decide, by decide⟩) (htb _ k_3_116) (htb _ k_3_117) rfl hl.1 rfl (Nat.le_of_ble_eq_true rfl) d_Mo_isCrossed_152 ⟨by decide, by decide⟩ (fun v9 h9 H l9 hp9 hG => ?_) (fun _ _ _ _ hp9 _ => by cases hp9.1)
                  obtain ⟨hv9, hh9⟩ := hp9
                  cases hv9
                  rw [hh9] at hG
                  refine W.eq (g2 := F0 m 155 ls [.int (v_cmp (tf k) (df k) (tf k2) (df k2))]) rfl ?_
                  refine W.widen (k := 0) (n := 0) (by decide) (by decide) ?_
                  refine lv_if_ne (tgt := 172) hx hb d_Mo_isCrossed_155 (by decide) (fun hc155 => ?_) (fun hc155 => ?_)
                  · skip
                    refine lv_iconst (v := 0) hx hb d_Mo_isCrossed_172 (by decide) ?_
                    refine lv_istore_n (lv' := [(2, .int 0), (0, .ref mo), (1, .int (nI a)), (3, .int (nI k)), (5, .int (nI k2))]) hx hb d_Mo_isCrossed_173 rfl hl (by decide) rfl (fun ls hl => ?_)
                    refine lv_iinc (k := 4) (v := nI (k2 + 1)) (lv' := [(5, .int (nI (k2 + 1))), (2, .int 0), (0, .ref mo), (1, .int (nI a)), (3, .int (nI k))]) hx hb d_Mo_isCrossed_174 hl rfl (nI_1 k2) (by decide) rfl (fun ls hl => ?_)
                    refine lv_goto (tgt := 104) hx hb d_Mo_isCrossed_177 (by decide) ?_
                    exact ihb false ls H l9 (by omega) ⟨by rw [m_any_s, ← Bool.or_assoc, ← hi1b]; rw [hc111]; simp [v_xm, hc123, hc155], (lv_sub hl [2, 3, 1, 4, 0] rfl), hG⟩
                  · skip
                    refine lv_aload_n hx hb d_Mo_isCrossed_158 rfl (lv_at hl 0 rfl) ?_
                    refine lv_iload_n hx hb d_Mo_isCrossed_159 rfl (lv_at hl 3 rfl) ?_
                    refine lv_iload hx hb d_Mo_isCrossed_160 (lv_at hl 4 rfl) ?_
                    refine gh_cV (ci := 5) (As := [.int (nI k), .int (nI k2)]) (rest := []) (xF_ok b0) hx hb hml hown hK hX hG rfl zmo (c_Mo_alike (wM_mk zmo znm zfr zhs zva ztp zdn zvt zvd ztd (by omega) (by omega)) (p1 := k) (q1 := k2) (by omega) (by omega)) (q_Mo_alike htb ⟨by decide, by decide⟩) (htb _ k_3_87) (htb _ k_3_89) (htb _ k_s_Mo_alike) rfl hl.1 rfl (Nat.le_of_ble_eq_true rfl) d_Mo_isCrossed_162 ⟨by decide, by decide⟩ (fun v9 h9 H l9 hp9 hG => ?_) (fun _ _ _ _ hp9 _ => by cases hp9.1)
                    obtain ⟨hv9, hh9⟩ := hp9
                    cases hv9
                    rw [hh9] at hG
                    refine W.eq (g2 := F0 m 165 ls [.int (v_alike nf k k2)]) rfl ?_
                    refine W.widen (k := 0) (n := 0) (by decide) (by decide) ?_
                    refine lv_if_ne (tgt := 172) hx hb d_Mo_isCrossed_165 (by decide) (fun hc165 => ?_) (fun hc165 => ?_)
                    · skip
                      refine lv_iconst (v := 0) hx hb d_Mo_isCrossed_172 (by decide) ?_
                      refine lv_istore_n (lv' := [(2, .int 0), (0, .ref mo), (1, .int (nI a)), (3, .int (nI k)), (5, .int (nI k2))]) hx hb d_Mo_isCrossed_173 rfl hl (by decide) rfl (fun ls hl => ?_)
                      refine lv_iinc (k := 4) (v := nI (k2 + 1)) (lv' := [(5, .int (nI (k2 + 1))), (2, .int 0), (0, .ref mo), (1, .int (nI a)), (3, .int (nI k))]) hx hb d_Mo_isCrossed_174 hl rfl (nI_1 k2) (by decide) rfl (fun ls hl => ?_)
                      refine lv_goto (tgt := 104) hx hb d_Mo_isCrossed_177 (by decide) ?_
                      exact ihb false ls H l9 (by omega) ⟨by rw [m_any_s, ← Bool.or_assoc, ← hi1b]; rw [hc111]; simp [v_xm, hc123, hc155, hc165], (lv_sub hl [2, 3, 1, 4, 0] rfl), hG⟩
                    · skip
                      refine lv_iconst (v := 1) hx hb d_Mo_isCrossed_168 (by decide) ?_
                      refine lv_goto (tgt := 173) hx hb d_Mo_isCrossed_169 (by decide) ?_
                      refine lv_istore_n (lv' := [(2, .int 1), (0, .ref mo), (1, .int (nI a)), (3, .int (nI k)), (5, .int (nI k2))]) hx hb d_Mo_isCrossed_173 rfl hl (by decide) rfl (fun ls hl => ?_)
                      refine lv_iinc (k := 4) (v := nI (k2 + 1)) (lv' := [(5, .int (nI (k2 + 1))), (2, .int 1), (0, .ref mo), (1, .int (nI a)), (3, .int (nI k))]) hx hb d_Mo_isCrossed_174 hl rfl (nI_1 k2) (by decide) rfl (fun ls hl => ?_)
                      refine lv_goto (tgt := 104) hx hb d_Mo_isCrossed_177 (by decide) ?_
                      exact ihb true ls H l9 (by omega) ⟨by rw [m_any_s, ← Bool.or_assoc, ← hi1b]; rw [hc111]; simp [v_xm, hc123, hc155, hc165], (lv_sub hl [2, 3, 1, 4, 0] rfl), hG⟩
          · skip
            replace hc75 := mb_0.mp hc75
            refine lv_iload hx hb d_Mo_isCrossed_78 (lv_at hl 0 rfl) ?_
            refine lv_if_eq (tgt := 99) hx hb d_Mo_isCrossed_80 (by decide) (fun hc80 => ?_) (fun hc80 => absurd hc80 (by decide))
            refine lv_iconst (v := 0) hx hb d_Mo_isCrossed_99 (by decide) ?_
            refine lv_istore_n (lv' := [(2, .int 0), (4, .int 0), (0, .ref mo), (1, .int (nI a)), (3, .int (nI k))]) hx hb d_Mo_isCrossed_100 rfl hl (by decide) rfl (fun ls hl => ?_)
            refine lv_iconst (v := 0) hx hb d_Mo_isCrossed_101 (by decide) ?_
            refine lv_istore (lv' := [(5, .int 0), (2, .int 0), (4, .int 0), (0, .ref mo), (1, .int (nI a)), (3, .int (nI k))]) hx hb d_Mo_isCrossed_102 hl (by decide) rfl (fun ls hl => ?_)
            refine gh_gen hG (fun H l9 hG => ?_)
            refine lp_upH (α := Bool) (G := fun ls H l9 => W p l e _ s m _ below meth c H l9 _ _ _ (F0 m 104 ls [])) k (fun k2 b2 ls H l9 => (b2 = (false || m_any (v_xm nf tf df k) k2)) ∧ lv_has ls 6 [(0, .ref mo), (1, .int (nI a)), (2, .int (m_b b2)), (3, .int (nI k)), (5, .int (nI k2))] ∧ gh_P D vC b0 h s.heap H l9) ?_ 0 false ls H l9 (Nat.zero_le _) ⟨(by unfold m_any; simp), (lv_sub hl [3, 4, 1, 5, 0] rfl), hG⟩
            intro k2 b2 ls H l9 hkb hI ihb
            obtain ⟨hi1b, hl, hG⟩ := hI
            refine lv_iload hx hb d_Mo_isCrossed_104 (lv_at hl 4 rfl) ?_
            refine lv_iload_n hx hb d_Mo_isCrossed_106 rfl (lv_at hl 3 rfl) ?_
            refine lv_icmp_ge (tgt := 180) hx hb d_Mo_isCrossed_107 (by decide) (fun hc107 => ?_) (fun hc107 => ?_)
            · skip
              replace hc107 : k ≤ k2 := (nc_le (a := k) (b := k2) (by omega) (by omega) rfl rfl).mp hc107
              refine lv_iinc (k := 3) (v := nI (k + 1)) (lv' := [(3, .int (nI (k + 1))), (0, .ref mo), (1, .int (nI a)), (2, .int (m_b b2)), (5, .int (nI k2))]) hx hb d_Mo_isCrossed_180 hl rfl (nI_1 k) (by decide) rfl (fun ls hl => ?_)
              refine lv_goto (tgt := 4) hx hb d_Mo_isCrossed_183 (by decide) ?_
              exact iha b2 ls H l9 (by omega) ⟨by rw [m_any_s, ← hi1a, hi1b, show k2 = k by omega]; simp [v_crs, v_end, hc17, hc42, hc64, hc75], (lv_sub hl [1, 2, 3, 0] rfl), hG⟩
            · skip
              replace hc107 : ¬ k ≤ k2 := fun q9 => hc107 ((nc_le (a := k) (b := k2) (by omega) (by omega) rfl rfl).mpr q9)
              refine lv_iload_n hx hb d_Mo_isCrossed_110 rfl (lv_at hl 2 rfl) ?_
              refine lv_if_ne (tgt := 168) hx hb d_Mo_isCrossed_111 (by decide) (fun hc111 => ?_) (fun hc111 => ?_)
              · skip
                replace hc111 := mb_1.mp hc111
                refine lv_iconst (v := 1) hx hb d_Mo_isCrossed_168 (by decide) ?_
                refine lv_goto (tgt := 173) hx hb d_Mo_isCrossed_169 (by decide) ?_
                refine lv_istore_n (lv' := [(2, .int 1), (0, .ref mo), (1, .int (nI a)), (3, .int (nI k)), (5, .int (nI k2))]) hx hb d_Mo_isCrossed_173 rfl hl (by decide) rfl (fun ls hl => ?_)
                refine lv_iinc (k := 4) (v := nI (k2 + 1)) (lv' := [(5, .int (nI (k2 + 1))), (2, .int 1), (0, .ref mo), (1, .int (nI a)), (3, .int (nI k))]) hx hb d_Mo_isCrossed_174 hl rfl (nI_1 k2) (by decide) rfl (fun ls hl => ?_)
                refine lv_goto (tgt := 104) hx hb d_Mo_isCrossed_177 (by decide) ?_
                exact ihb true ls H l9 (by omega) ⟨by rw [m_any_s, ← Bool.or_assoc, ← hi1b]; rw [hc111]; rfl, (lv_sub hl [2, 3, 1, 4, 0] rfl), hG⟩
              · skip
                replace hc111 := mb_0.mp hc111
                refine lv_aload_n hx hb d_Mo_isCrossed_114 rfl (lv_at hl 0 rfl) ?_
                refine gh_get (ci := 5) hx hb htb in_Mo hown hK hG zmo rfl 8 (by decide) (htb _ k_2_231) (fun _ h9 => h9) rfl d_Mo_isCrossed_115 ?_
                refine lv_iload hx hb d_Mo_isCrossed_118 (lv_at hl 4 rfl) ?_
                refine gh_lald (v := df k2) hx hb hK hG 1 zdn rfl (vp_in_nI (by omega) (by decide)) (by rw [nI_clamp (by omega)]) d_Mo_isCrossed_120 ?_
                refine lv_lconst (v := 0) hx hb d_Mo_isCrossed_121 (by decide) ?_
                refine W.lcmp hx hb d_Mo_isCrossed_122 ?_
                refine lv_if_le (tgt := 172) hx hb d_Mo_isCrossed_123 (by decide) (fun hc123 => ?_) (fun hc123 => ?_)
                · skip
                  rw [lg_cmp_le] at hc123
                  refine lv_iconst (v := 0) hx hb d_Mo_isCrossed_172 (by decide) ?_
                  refine lv_istore_n (lv' := [(2, .int 0), (0, .ref mo), (1, .int (nI a)), (3, .int (nI k)), (5, .int (nI k2))]) hx hb d_Mo_isCrossed_173 rfl hl (by decide) rfl (fun ls hl => ?_)
                  refine lv_iinc (k := 4) (v := nI (k2 + 1)) (lv' := [(5, .int (nI (k2 + 1))), (2, .int 0), (0, .ref mo), (1, .int (nI a)), (3, .int (nI k))]) hx hb d_Mo_isCrossed_174 hl rfl (nI_1 k2) (by decide) rfl (fun ls hl => ?_)
                  refine lv_goto (tgt := 104) hx hb d_Mo_isCrossed_177 (by decide) ?_
                  exact ihb false ls H l9 (by omega) ⟨by rw [m_any_s, ← Bool.or_assoc, ← hi1b]; rw [hc111]; simp [v_xm, hc123], (lv_sub hl [2, 3, 1, 4, 0] rfl), hG⟩
                · skip
                  rw [lg_cmp_le] at hc123
                  refine lv_aload_n hx hb d_Mo_isCrossed_126 rfl (lv_at hl 0 rfl) ?_
                  refine gh_get (ci := 5) hx hb htb in_Mo hown hK hG zmo rfl 7 (by decide) (htb _ k_2_230) (fun _ h9 => h9) rfl d_Mo_isCrossed_127 ?_
                  refine lv_iload_n hx hb d_Mo_isCrossed_130 rfl (lv_at hl 3 rfl) ?_
                  refine gh_lald (v := tf k) hx hb hK hG 1 ztp rfl (vp_in_nI (by omega) (by decide)) (by rw [nI_clamp (by omega)]) d_Mo_isCrossed_131 ?_
                  refine lv_aload_n hx hb d_Mo_isCrossed_132 rfl (lv_at hl 0 rfl) ?_
                  refine gh_get (ci := 5) hx hb htb in_Mo hown hK hG zmo rfl 8 (by decide) (htb _ k_2_231) (fun _ h9 => h9) rfl d_Mo_isCrossed_133 ?_
                  refine lv_iload_n hx hb d_Mo_isCrossed_136 rfl (lv_at hl 3 rfl) ?_
                  refine gh_lald (v := df k) hx hb hK hG 1 zdn rfl (vp_in_nI (by omega) (by decide)) (by rw [nI_clamp (by omega)]) d_Mo_isCrossed_137 ?_
                  refine lv_aload_n hx hb d_Mo_isCrossed_138 rfl (lv_at hl 0 rfl) ?_
                  refine gh_get (ci := 5) hx hb htb in_Mo hown hK hG zmo rfl 7 (by decide) (htb _ k_2_230) (fun _ h9 => h9) rfl d_Mo_isCrossed_139 ?_
                  refine lv_iload hx hb d_Mo_isCrossed_142 (lv_at hl 4 rfl) ?_
                  refine gh_lald (v := tf k2) hx hb hK hG 1 ztp rfl (vp_in_nI (by omega) (by decide)) (by rw [nI_clamp (by omega)]) d_Mo_isCrossed_144 ?_
                  refine lv_aload_n hx hb d_Mo_isCrossed_145 rfl (lv_at hl 0 rfl) ?_
                  refine gh_get (ci := 5) hx hb htb in_Mo hown hK hG zmo rfl 8 (by decide) (htb _ k_2_231) (fun _ h9 => h9) rfl d_Mo_isCrossed_146 ?_
                  refine lv_iload hx hb d_Mo_isCrossed_149 (lv_at hl 4 rfl) ?_
                  refine gh_lald (v := df k2) hx hb hK hG 1 zdn rfl (vp_in_nI (by omega) (by decide)) (by rw [nI_clamp (by omega)]) d_Mo_isCrossed_151 ?_
                  refine gh_cS (As := [.long (tf k), .long (df k), .long (tf k2), .long (df k2)]) (rest := []) (xF_ok b0) hx hb hml hown hK hX hG c_Mo_compare (q_Mo_compare htb ⟨by decide, by decide⟩) (htb _ k_3_116) (htb _ k_3_117) rfl hl.1 rfl (Nat.le_of_ble_eq_true rfl) d_Mo_isCrossed_152 ⟨by decide, by decide⟩ (fun v9 h9 H l9 hp9 hG => ?_) (fun _ _ _ _ hp9 _ => by cases hp9.1)
                  obtain ⟨hv9, hh9⟩ := hp9
                  cases hv9
                  rw [hh9] at hG
                  refine W.eq (g2 := F0 m 155 ls [.int (v_cmp (tf k) (df k) (tf k2) (df k2))]) rfl ?_
                  refine W.widen (k := 0) (n := 0) (by decide) (by decide) ?_
                  refine lv_if_ne (tgt := 172) hx hb d_Mo_isCrossed_155 (by decide) (fun hc155 => ?_) (fun hc155 => ?_)
                  · skip
                    refine lv_iconst (v := 0) hx hb d_Mo_isCrossed_172 (by decide) ?_
                    refine lv_istore_n (lv' := [(2, .int 0), (0, .ref mo), (1, .int (nI a)), (3, .int (nI k)), (5, .int (nI k2))]) hx hb d_Mo_isCrossed_173 rfl hl (by decide) rfl (fun ls hl => ?_)
                    refine lv_iinc (k := 4) (v := nI (k2 + 1)) (lv' := [(5, .int (nI (k2 + 1))), (2, .int 0), (0, .ref mo), (1, .int (nI a)), (3, .int (nI k))]) hx hb d_Mo_isCrossed_174 hl rfl (nI_1 k2) (by decide) rfl (fun ls hl => ?_)
                    refine lv_goto (tgt := 104) hx hb d_Mo_isCrossed_177 (by decide) ?_
                    exact ihb false ls H l9 (by omega) ⟨by rw [m_any_s, ← Bool.or_assoc, ← hi1b]; rw [hc111]; simp [v_xm, hc123, hc155], (lv_sub hl [2, 3, 1, 4, 0] rfl), hG⟩
                  · skip
                    refine lv_aload_n hx hb d_Mo_isCrossed_158 rfl (lv_at hl 0 rfl) ?_
                    refine lv_iload_n hx hb d_Mo_isCrossed_159 rfl (lv_at hl 3 rfl) ?_
                    refine lv_iload hx hb d_Mo_isCrossed_160 (lv_at hl 4 rfl) ?_
                    refine gh_cV (ci := 5) (As := [.int (nI k), .int (nI k2)]) (rest := []) (xF_ok b0) hx hb hml hown hK hX hG rfl zmo (c_Mo_alike (wM_mk zmo znm zfr zhs zva ztp zdn zvt zvd ztd (by omega) (by omega)) (p1 := k) (q1 := k2) (by omega) (by omega)) (q_Mo_alike htb ⟨by decide, by decide⟩) (htb _ k_3_87) (htb _ k_3_89) (htb _ k_s_Mo_alike) rfl hl.1 rfl (Nat.le_of_ble_eq_true rfl) d_Mo_isCrossed_162 ⟨by decide, by decide⟩ (fun v9 h9 H l9 hp9 hG => ?_) (fun _ _ _ _ hp9 _ => by cases hp9.1)
                    obtain ⟨hv9, hh9⟩ := hp9
                    cases hv9
                    rw [hh9] at hG
                    refine W.eq (g2 := F0 m 165 ls [.int (v_alike nf k k2)]) rfl ?_
                    refine W.widen (k := 0) (n := 0) (by decide) (by decide) ?_
                    refine lv_if_ne (tgt := 172) hx hb d_Mo_isCrossed_165 (by decide) (fun hc165 => ?_) (fun hc165 => ?_)
                    · skip
                      refine lv_iconst (v := 0) hx hb d_Mo_isCrossed_172 (by decide) ?_
                      refine lv_istore_n (lv' := [(2, .int 0), (0, .ref mo), (1, .int (nI a)), (3, .int (nI k)), (5, .int (nI k2))]) hx hb d_Mo_isCrossed_173 rfl hl (by decide) rfl (fun ls hl => ?_)
                      refine lv_iinc (k := 4) (v := nI (k2 + 1)) (lv' := [(5, .int (nI (k2 + 1))), (2, .int 0), (0, .ref mo), (1, .int (nI a)), (3, .int (nI k))]) hx hb d_Mo_isCrossed_174 hl rfl (nI_1 k2) (by decide) rfl (fun ls hl => ?_)
                      refine lv_goto (tgt := 104) hx hb d_Mo_isCrossed_177 (by decide) ?_
                      exact ihb false ls H l9 (by omega) ⟨by rw [m_any_s, ← Bool.or_assoc, ← hi1b]; rw [hc111]; simp [v_xm, hc123, hc155, hc165], (lv_sub hl [2, 3, 1, 4, 0] rfl), hG⟩
                    · skip
                      refine lv_iconst (v := 1) hx hb d_Mo_isCrossed_168 (by decide) ?_
                      refine lv_goto (tgt := 173) hx hb d_Mo_isCrossed_169 (by decide) ?_
                      refine lv_istore_n (lv' := [(2, .int 1), (0, .ref mo), (1, .int (nI a)), (3, .int (nI k)), (5, .int (nI k2))]) hx hb d_Mo_isCrossed_173 rfl hl (by decide) rfl (fun ls hl => ?_)
                      refine lv_iinc (k := 4) (v := nI (k2 + 1)) (lv' := [(5, .int (nI (k2 + 1))), (2, .int 1), (0, .ref mo), (1, .int (nI a)), (3, .int (nI k))]) hx hb d_Mo_isCrossed_174 hl rfl (nI_1 k2) (by decide) rfl (fun ls hl => ?_)
                      refine lv_goto (tgt := 104) hx hb d_Mo_isCrossed_177 (by decide) ?_
                      exact ihb true ls H l9 (by omega) ⟨by rw [m_any_s, ← Bool.or_assoc, ← hi1b]; rw [hc111]; simp [v_xm, hc123, hc155, hc165], (lv_sub hl [2, 3, 1, 4, 0] rfl), hG⟩
        · skip
          refine lv_iconst (v := 1) hx hb d_Mo_isCrossed_67 (by decide) ?_
          refine lv_goto (tgt := 72) hx hb d_Mo_isCrossed_68 (by decide) ?_
          refine lv_istore (lv' := [(4, .int 1), (0, .ref mo), (1, .int (nI a)), (2, .int (m_b b1)), (3, .int (nI k))]) hx hb d_Mo_isCrossed_72 hl (by decide) rfl (fun ls hl => ?_)
          refine lv_iload_n hx hb d_Mo_isCrossed_74 rfl (lv_at hl 3 rfl) ?_
          refine lv_if_ne (tgt := 95) hx hb d_Mo_isCrossed_75 (by decide) (fun hc75 => ?_) (fun hc75 => ?_)
          · skip
            replace hc75 := mb_1.mp hc75
            refine lv_iconst (v := 1) hx hb d_Mo_isCrossed_95 (by decide) ?_
            refine lv_goto (tgt := 100) hx hb d_Mo_isCrossed_96 (by decide) ?_
            refine lv_istore_n (lv' := [(2, .int 1), (4, .int 1), (0, .ref mo), (1, .int (nI a)), (3, .int (nI k))]) hx hb d_Mo_isCrossed_100 rfl hl (by decide) rfl (fun ls hl => ?_)
            refine lv_iconst (v := 0) hx hb d_Mo_isCrossed_101 (by decide) ?_
            refine lv_istore (lv' := [(5, .int 0), (2, .int 1), (4, .int 1), (0, .ref mo), (1, .int (nI a)), (3, .int (nI k))]) hx hb d_Mo_isCrossed_102 hl (by decide) rfl (fun ls hl => ?_)
            refine gh_gen hG (fun H l9 hG => ?_)
            refine lp_upH (α := Bool) (G := fun ls H l9 => W p l e _ s m _ below meth c H l9 _ _ _ (F0 m 104 ls [])) k (fun k2 b2 ls H l9 => (b2 = (true || m_any (v_xm nf tf df k) k2)) ∧ lv_has ls 6 [(0, .ref mo), (1, .int (nI a)), (2, .int (m_b b2)), (3, .int (nI k)), (5, .int (nI k2))] ∧ gh_P D vC b0 h s.heap H l9) ?_ 0 true ls H l9 (Nat.zero_le _) ⟨(by unfold m_any; simp), (lv_sub hl [3, 4, 1, 5, 0] rfl), hG⟩
            intro k2 b2 ls H l9 hkb hI ihb
            obtain ⟨hi1b, hl, hG⟩ := hI
            refine lv_iload hx hb d_Mo_isCrossed_104 (lv_at hl 4 rfl) ?_
            refine lv_iload_n hx hb d_Mo_isCrossed_106 rfl (lv_at hl 3 rfl) ?_
            refine lv_icmp_ge (tgt := 180) hx hb d_Mo_isCrossed_107 (by decide) (fun hc107 => ?_) (fun hc107 => ?_)
            · skip
              replace hc107 : k ≤ k2 := (nc_le (a := k) (b := k2) (by omega) (by omega) rfl rfl).mp hc107
              refine lv_iinc (k := 3) (v := nI (k + 1)) (lv' := [(3, .int (nI (k + 1))), (0, .ref mo), (1, .int (nI a)), (2, .int (m_b b2)), (5, .int (nI k2))]) hx hb d_Mo_isCrossed_180 hl rfl (nI_1 k) (by decide) rfl (fun ls hl => ?_)
              refine lv_goto (tgt := 4) hx hb d_Mo_isCrossed_183 (by decide) ?_
              exact iha b2 ls H l9 (by omega) ⟨by rw [m_any_s, ← hi1a, hi1b, show k2 = k by omega]; simp [v_crs, v_end, hc17, hc42, hc64, hc75], (lv_sub hl [1, 2, 3, 0] rfl), hG⟩
            · skip
              replace hc107 : ¬ k ≤ k2 := fun q9 => hc107 ((nc_le (a := k) (b := k2) (by omega) (by omega) rfl rfl).mpr q9)
              refine lv_iload_n hx hb d_Mo_isCrossed_110 rfl (lv_at hl 2 rfl) ?_
              refine lv_if_ne (tgt := 168) hx hb d_Mo_isCrossed_111 (by decide) (fun hc111 => ?_) (fun hc111 => ?_)
              · skip
                replace hc111 := mb_1.mp hc111
                refine lv_iconst (v := 1) hx hb d_Mo_isCrossed_168 (by decide) ?_
                refine lv_goto (tgt := 173) hx hb d_Mo_isCrossed_169 (by decide) ?_
                refine lv_istore_n (lv' := [(2, .int 1), (0, .ref mo), (1, .int (nI a)), (3, .int (nI k)), (5, .int (nI k2))]) hx hb d_Mo_isCrossed_173 rfl hl (by decide) rfl (fun ls hl => ?_)
                refine lv_iinc (k := 4) (v := nI (k2 + 1)) (lv' := [(5, .int (nI (k2 + 1))), (2, .int 1), (0, .ref mo), (1, .int (nI a)), (3, .int (nI k))]) hx hb d_Mo_isCrossed_174 hl rfl (nI_1 k2) (by decide) rfl (fun ls hl => ?_)
                refine lv_goto (tgt := 104) hx hb d_Mo_isCrossed_177 (by decide) ?_
                exact ihb true ls H l9 (by omega) ⟨by rw [m_any_s, ← Bool.or_assoc, ← hi1b]; rw [hc111]; rfl, (lv_sub hl [2, 3, 1, 4, 0] rfl), hG⟩
              · skip
                replace hc111 := mb_0.mp hc111
                refine lv_aload_n hx hb d_Mo_isCrossed_114 rfl (lv_at hl 0 rfl) ?_
                refine gh_get (ci := 5) hx hb htb in_Mo hown hK hG zmo rfl 8 (by decide) (htb _ k_2_231) (fun _ h9 => h9) rfl d_Mo_isCrossed_115 ?_
                refine lv_iload hx hb d_Mo_isCrossed_118 (lv_at hl 4 rfl) ?_
                refine gh_lald (v := df k2) hx hb hK hG 1 zdn rfl (vp_in_nI (by omega) (by decide)) (by rw [nI_clamp (by omega)]) d_Mo_isCrossed_120 ?_
                refine lv_lconst (v := 0) hx hb d_Mo_isCrossed_121 (by decide) ?_
                refine W.lcmp hx hb d_Mo_isCrossed_122 ?_
                refine lv_if_le (tgt := 172) hx hb d_Mo_isCrossed_123 (by decide) (fun hc123 => ?_) (fun hc123 => ?_)
                · skip
                  rw [lg_cmp_le] at hc123
                  refine lv_iconst (v := 0) hx hb d_Mo_isCrossed_172 (by decide) ?_
                  refine lv_istore_n (lv' := [(2, .int 0), (0, .ref mo), (1, .int (nI a)), (3, .int (nI k)), (5, .int (nI k2))]) hx hb d_Mo_isCrossed_173 rfl hl (by decide) rfl (fun ls hl => ?_)
                  refine lv_iinc (k := 4) (v := nI (k2 + 1)) (lv' := [(5, .int (nI (k2 + 1))), (2, .int 0), (0, .ref mo), (1, .int (nI a)), (3, .int (nI k))]) hx hb d_Mo_isCrossed_174 hl rfl (nI_1 k2) (by decide) rfl (fun ls hl => ?_)
                  refine lv_goto (tgt := 104) hx hb d_Mo_isCrossed_177 (by decide) ?_
                  exact ihb false ls H l9 (by omega) ⟨by rw [m_any_s, ← Bool.or_assoc, ← hi1b]; rw [hc111]; simp [v_xm, hc123], (lv_sub hl [2, 3, 1, 4, 0] rfl), hG⟩
                · skip
                  rw [lg_cmp_le] at hc123
                  refine lv_aload_n hx hb d_Mo_isCrossed_126 rfl (lv_at hl 0 rfl) ?_
                  refine gh_get (ci := 5) hx hb htb in_Mo hown hK hG zmo rfl 7 (by decide) (htb _ k_2_230) (fun _ h9 => h9) rfl d_Mo_isCrossed_127 ?_
                  refine lv_iload_n hx hb d_Mo_isCrossed_130 rfl (lv_at hl 3 rfl) ?_
                  refine gh_lald (v := tf k) hx hb hK hG 1 ztp rfl (vp_in_nI (by omega) (by decide)) (by rw [nI_clamp (by omega)]) d_Mo_isCrossed_131 ?_
                  refine lv_aload_n hx hb d_Mo_isCrossed_132 rfl (lv_at hl 0 rfl) ?_
                  refine gh_get (ci := 5) hx hb htb in_Mo hown hK hG zmo rfl 8 (by decide) (htb _ k_2_231) (fun _ h9 => h9) rfl d_Mo_isCrossed_133 ?_
                  refine lv_iload_n hx hb d_Mo_isCrossed_136 rfl (lv_at hl 3 rfl) ?_
                  refine gh_lald (v := df k) hx hb hK hG 1 zdn rfl (vp_in_nI (by omega) (by decide)) (by rw [nI_clamp (by omega)]) d_Mo_isCrossed_137 ?_
                  refine lv_aload_n hx hb d_Mo_isCrossed_138 rfl (lv_at hl 0 rfl) ?_
                  refine gh_get (ci := 5) hx hb htb in_Mo hown hK hG zmo rfl 7 (by decide) (htb _ k_2_230) (fun _ h9 => h9) rfl d_Mo_isCrossed_139 ?_
                  refine lv_iload hx hb d_Mo_isCrossed_142 (lv_at hl 4 rfl) ?_
                  refine gh_lald (v := tf k2) hx hb hK hG 1 ztp rfl (vp_in_nI (by omega) (by decide)) (by rw [nI_clamp (by omega)]) d_Mo_isCrossed_144 ?_
                  refine lv_aload_n hx hb d_Mo_isCrossed_145 rfl (lv_at hl 0 rfl) ?_
                  refine gh_get (ci := 5) hx hb htb in_Mo hown hK hG zmo rfl 8 (by decide) (htb _ k_2_231) (fun _ h9 => h9) rfl d_Mo_isCrossed_146 ?_
                  refine lv_iload hx hb d_Mo_isCrossed_149 (lv_at hl 4 rfl) ?_
                  refine gh_lald (v := df k2) hx hb hK hG 1 zdn rfl (vp_in_nI (by omega) (by decide)) (by rw [nI_clamp (by omega)]) d_Mo_isCrossed_151 ?_
                  refine gh_cS (As := [.long (tf k), .long (df k), .long (tf k2), .long (df k2)]) (rest := []) (xF_ok b0) hx hb hml hown hK hX hG c_Mo_compare (q_Mo_compare htb ⟨by decide, by decide⟩) (htb _ k_3_116) (htb _ k_3_117) rfl hl.1 rfl (Nat.le_of_ble_eq_true rfl) d_Mo_isCrossed_152 ⟨by decide, by decide⟩ (fun v9 h9 H l9 hp9 hG => ?_) (fun _ _ _ _ hp9 _ => by cases hp9.1)
                  obtain ⟨hv9, hh9⟩ := hp9
                  cases hv9
                  rw [hh9] at hG
                  refine W.eq (g2 := F0 m 155 ls [.int (v_cmp (tf k) (df k) (tf k2) (df k2))]) rfl ?_
                  refine W.widen (k := 0) (n := 0) (by decide) (by decide) ?_
                  refine lv_if_ne (tgt := 172) hx hb d_Mo_isCrossed_155 (by decide) (fun hc155 => ?_) (fun hc155 => ?_)
                  · skip
                    refine lv_iconst (v := 0) hx hb d_Mo_isCrossed_172 (by decide) ?_
                    refine lv_istore_n (lv' := [(2, .int 0), (0, .ref mo), (1, .int (nI a)), (3, .int (nI k)), (5, .int (nI k2))]) hx hb d_Mo_isCrossed_173 rfl hl (by decide) rfl (fun ls hl => ?_)
                    refine lv_iinc (k := 4) (v := nI (k2 + 1)) (lv' := [(5, .int (nI (k2 + 1))), (2, .int 0), (0, .ref mo), (1, .int (nI a)), (3, .int (nI k))]) hx hb d_Mo_isCrossed_174 hl rfl (nI_1 k2) (by decide) rfl (fun ls hl => ?_)
                    refine lv_goto (tgt := 104) hx hb d_Mo_isCrossed_177 (by decide) ?_
                    exact ihb false ls H l9 (by omega) ⟨by rw [m_any_s, ← Bool.or_assoc, ← hi1b]; rw [hc111]; simp [v_xm, hc123, hc155], (lv_sub hl [2, 3, 1, 4, 0] rfl), hG⟩
                  · skip
                    refine lv_aload_n hx hb d_Mo_isCrossed_158 rfl (lv_at hl 0 rfl) ?_
                    refine lv_iload_n hx hb d_Mo_isCrossed_159 rfl (lv_at hl 3 rfl) ?_
                    refine lv_iload hx hb d_Mo_isCrossed_160 (lv_at hl 4 rfl) ?_
                    refine gh_cV (ci := 5) (As := [.int (nI k), .int (nI k2)]) (rest := []) (xF_ok b0) hx hb hml hown hK hX hG rfl zmo (c_Mo_alike (wM_mk zmo znm zfr zhs zva ztp zdn zvt zvd ztd (by omega) (by omega)) (p1 := k) (q1 := k2) (by omega) (by omega)) (q_Mo_alike htb ⟨by decide, by decide⟩) (htb _ k_3_87) (htb _ k_3_89) (htb _ k_s_Mo_alike) rfl hl.1 rfl (Nat.le_of_ble_eq_true rfl) d_Mo_isCrossed_162 ⟨by decide, by decide⟩ (fun v9 h9 H l9 hp9 hG => ?_) (fun _ _ _ _ hp9 _ => by cases hp9.1)
                    obtain ⟨hv9, hh9⟩ := hp9
                    cases hv9
                    rw [hh9] at hG
                    refine W.eq (g2 := F0 m 165 ls [.int (v_alike nf k k2)]) rfl ?_
                    refine W.widen (k := 0) (n := 0) (by decide) (by decide) ?_
                    refine lv_if_ne (tgt := 172) hx hb d_Mo_isCrossed_165 (by decide) (fun hc165 => ?_) (fun hc165 => ?_)
                    · skip
                      refine lv_iconst (v := 0) hx hb d_Mo_isCrossed_172 (by decide) ?_
                      refine lv_istore_n (lv' := [(2, .int 0), (0, .ref mo), (1, .int (nI a)), (3, .int (nI k)), (5, .int (nI k2))]) hx hb d_Mo_isCrossed_173 rfl hl (by decide) rfl (fun ls hl => ?_)
                      refine lv_iinc (k := 4) (v := nI (k2 + 1)) (lv' := [(5, .int (nI (k2 + 1))), (2, .int 0), (0, .ref mo), (1, .int (nI a)), (3, .int (nI k))]) hx hb d_Mo_isCrossed_174 hl rfl (nI_1 k2) (by decide) rfl (fun ls hl => ?_)
                      refine lv_goto (tgt := 104) hx hb d_Mo_isCrossed_177 (by decide) ?_
                      exact ihb false ls H l9 (by omega) ⟨by rw [m_any_s, ← Bool.or_assoc, ← hi1b]; rw [hc111]; simp [v_xm, hc123, hc155, hc165], (lv_sub hl [2, 3, 1, 4, 0] rfl), hG⟩
                    · skip
                      refine lv_iconst (v := 1) hx hb d_Mo_isCrossed_168 (by decide) ?_
                      refine lv_goto (tgt := 173) hx hb d_Mo_isCrossed_169 (by decide) ?_
                      refine lv_istore_n (lv' := [(2, .int 1), (0, .ref mo), (1, .int (nI a)), (3, .int (nI k)), (5, .int (nI k2))]) hx hb d_Mo_isCrossed_173 rfl hl (by decide) rfl (fun ls hl => ?_)
                      refine lv_iinc (k := 4) (v := nI (k2 + 1)) (lv' := [(5, .int (nI (k2 + 1))), (2, .int 1), (0, .ref mo), (1, .int (nI a)), (3, .int (nI k))]) hx hb d_Mo_isCrossed_174 hl rfl (nI_1 k2) (by decide) rfl (fun ls hl => ?_)
                      refine lv_goto (tgt := 104) hx hb d_Mo_isCrossed_177 (by decide) ?_
                      exact ihb true ls H l9 (by omega) ⟨by rw [m_any_s, ← Bool.or_assoc, ← hi1b]; rw [hc111]; simp [v_xm, hc123, hc155, hc165], (lv_sub hl [2, 3, 1, 4, 0] rfl), hG⟩
          · skip
            replace hc75 := mb_0.mp hc75
            refine lv_iload hx hb d_Mo_isCrossed_78 (lv_at hl 0 rfl) ?_
            refine lv_if_eq (tgt := 99) hx hb d_Mo_isCrossed_80 (by decide) (fun hc80 => absurd hc80 (by decide)) (fun hc80 => ?_)
            refine lv_aload_n hx hb d_Mo_isCrossed_83 rfl (lv_at hl 1 rfl) ?_
            refine lv_bipush (v := 10) hx hb d_Mo_isCrossed_84 (by decide) ?_
            refine lv_iload_n hx hb d_Mo_isCrossed_86 rfl (lv_at hl 2 rfl) ?_
            refine lv_iadd hx hb d_Mo_isCrossed_87 ?_
            rw [show 10 + (nI a) = nI (10 + a) from nI_add 10 a]
            refine lv_iload_n hx hb d_Mo_isCrossed_88 rfl (lv_at hl 4 rfl) ?_
            refine gh_cV (ci := 5) (As := [.int (nI (10 + a)), .int (nI k)]) (rest := []) (xF_ok b0) hx hb hml hown hK hX hG rfl zmo (c_Mo_alike (wM_mk zmo znm zfr zhs zva ztp zdn zvt zvd ztd (by omega) (by omega)) (p1 := (10 + a)) (q1 := k) (by omega) (by omega)) (q_Mo_alike htb ⟨by decide, by decide⟩) (htb _ k_3_87) (htb _ k_3_89) (htb _ k_s_Mo_alike) rfl hl.1 rfl (Nat.le_of_ble_eq_true rfl) d_Mo_isCrossed_89 ⟨by decide, by decide⟩ (fun v9 h9 H l9 hp9 hG => ?_) (fun _ _ _ _ hp9 _ => by cases hp9.1)
            obtain ⟨hv9, hh9⟩ := hp9
            cases hv9
            rw [hh9] at hG
            refine W.eq (g2 := F0 m 92 ls [.int (v_alike nf (10 + a) k)]) rfl ?_
            refine W.widen (k := 0) (n := 0) (by decide) (by decide) ?_
            refine lv_if_ne (tgt := 99) hx hb d_Mo_isCrossed_92 (by decide) (fun hc92 => ?_) (fun hc92 => ?_)
            · skip
              refine lv_iconst (v := 0) hx hb d_Mo_isCrossed_99 (by decide) ?_
              refine lv_istore_n (lv' := [(2, .int 0), (4, .int 1), (0, .ref mo), (1, .int (nI a)), (3, .int (nI k))]) hx hb d_Mo_isCrossed_100 rfl hl (by decide) rfl (fun ls hl => ?_)
              refine lv_iconst (v := 0) hx hb d_Mo_isCrossed_101 (by decide) ?_
              refine lv_istore (lv' := [(5, .int 0), (2, .int 0), (4, .int 1), (0, .ref mo), (1, .int (nI a)), (3, .int (nI k))]) hx hb d_Mo_isCrossed_102 hl (by decide) rfl (fun ls hl => ?_)
              refine gh_gen hG (fun H l9 hG => ?_)
              refine lp_upH (α := Bool) (G := fun ls H l9 => W p l e _ s m _ below meth c H l9 _ _ _ (F0 m 104 ls [])) k (fun k2 b2 ls H l9 => (b2 = (false || m_any (v_xm nf tf df k) k2)) ∧ lv_has ls 6 [(0, .ref mo), (1, .int (nI a)), (2, .int (m_b b2)), (3, .int (nI k)), (5, .int (nI k2))] ∧ gh_P D vC b0 h s.heap H l9) ?_ 0 false ls H l9 (Nat.zero_le _) ⟨(by unfold m_any; simp), (lv_sub hl [3, 4, 1, 5, 0] rfl), hG⟩
              intro k2 b2 ls H l9 hkb hI ihb
              obtain ⟨hi1b, hl, hG⟩ := hI
              refine lv_iload hx hb d_Mo_isCrossed_104 (lv_at hl 4 rfl) ?_
              refine lv_iload_n hx hb d_Mo_isCrossed_106 rfl (lv_at hl 3 rfl) ?_
              refine lv_icmp_ge (tgt := 180) hx hb d_Mo_isCrossed_107 (by decide) (fun hc107 => ?_) (fun hc107 => ?_)
              · skip
                replace hc107 : k ≤ k2 := (nc_le (a := k) (b := k2) (by omega) (by omega) rfl rfl).mp hc107
                refine lv_iinc (k := 3) (v := nI (k + 1)) (lv' := [(3, .int (nI (k + 1))), (0, .ref mo), (1, .int (nI a)), (2, .int (m_b b2)), (5, .int (nI k2))]) hx hb d_Mo_isCrossed_180 hl rfl (nI_1 k) (by decide) rfl (fun ls hl => ?_)
                refine lv_goto (tgt := 4) hx hb d_Mo_isCrossed_183 (by decide) ?_
                exact iha b2 ls H l9 (by omega) ⟨by rw [m_any_s, ← hi1a, hi1b, show k2 = k by omega]; simp [v_crs, v_end, hc17, hc42, hc64, hc75, hc92], (lv_sub hl [1, 2, 3, 0] rfl), hG⟩
              · skip
                replace hc107 : ¬ k ≤ k2 := fun q9 => hc107 ((nc_le (a := k) (b := k2) (by omega) (by omega) rfl rfl).mpr q9)
                refine lv_iload_n hx hb d_Mo_isCrossed_110 rfl (lv_at hl 2 rfl) ?_
                refine lv_if_ne (tgt := 168) hx hb d_Mo_isCrossed_111 (by decide) (fun hc111 => ?_) (fun hc111 => ?_)
                · skip
                  replace hc111 := mb_1.mp hc111
                  refine lv_iconst (v := 1) hx hb d_Mo_isCrossed_168 (by decide) ?_
                  refine lv_goto (tgt := 173) hx hb d_Mo_isCrossed_169 (by decide) ?_
                  refine lv_istore_n (lv' := [(2, .int 1), (0, .ref mo), (1, .int (nI a)), (3, .int (nI k)), (5, .int (nI k2))]) hx hb d_Mo_isCrossed_173 rfl hl (by decide) rfl (fun ls hl => ?_)
                  refine lv_iinc (k := 4) (v := nI (k2 + 1)) (lv' := [(5, .int (nI (k2 + 1))), (2, .int 1), (0, .ref mo), (1, .int (nI a)), (3, .int (nI k))]) hx hb d_Mo_isCrossed_174 hl rfl (nI_1 k2) (by decide) rfl (fun ls hl => ?_)
                  refine lv_goto (tgt := 104) hx hb d_Mo_isCrossed_177 (by decide) ?_
                  exact ihb true ls H l9 (by omega) ⟨by rw [m_any_s, ← Bool.or_assoc, ← hi1b]; rw [hc111]; rfl, (lv_sub hl [2, 3, 1, 4, 0] rfl), hG⟩
                · skip
                  replace hc111 := mb_0.mp hc111
                  refine lv_aload_n hx hb d_Mo_isCrossed_114 rfl (lv_at hl 0 rfl) ?_
                  refine gh_get (ci := 5) hx hb htb in_Mo hown hK hG zmo rfl 8 (by decide) (htb _ k_2_231) (fun _ h9 => h9) rfl d_Mo_isCrossed_115 ?_
                  refine lv_iload hx hb d_Mo_isCrossed_118 (lv_at hl 4 rfl) ?_
                  refine gh_lald (v := df k2) hx hb hK hG 1 zdn rfl (vp_in_nI (by omega) (by decide)) (by rw [nI_clamp (by omega)]) d_Mo_isCrossed_120 ?_
                  refine lv_lconst (v := 0) hx hb d_Mo_isCrossed_121 (by decide) ?_
                  refine W.lcmp hx hb d_Mo_isCrossed_122 ?_
                  refine lv_if_le (tgt := 172) hx hb d_Mo_isCrossed_123 (by decide) (fun hc123 => ?_) (fun hc123 => ?_)
                  · skip
                    rw [lg_cmp_le] at hc123
                    refine lv_iconst (v := 0) hx hb d_Mo_isCrossed_172 (by decide) ?_
                    refine lv_istore_n (lv' := [(2, .int 0), (0, .ref mo), (1, .int (nI a)), (3, .int (nI k)), (5, .int (nI k2))]) hx hb d_Mo_isCrossed_173 rfl hl (by decide) rfl (fun ls hl => ?_)
                    refine lv_iinc (k := 4) (v := nI (k2 + 1)) (lv' := [(5, .int (nI (k2 + 1))), (2, .int 0), (0, .ref mo), (1, .int (nI a)), (3, .int (nI k))]) hx hb d_Mo_isCrossed_174 hl rfl (nI_1 k2) (by decide) rfl (fun ls hl => ?_)
                    refine lv_goto (tgt := 104) hx hb d_Mo_isCrossed_177 (by decide) ?_
                    exact ihb false ls H l9 (by omega) ⟨by rw [m_any_s, ← Bool.or_assoc, ← hi1b]; rw [hc111]; simp [v_xm, hc123], (lv_sub hl [2, 3, 1, 4, 0] rfl), hG⟩
                  · skip
                    rw [lg_cmp_le] at hc123
                    refine lv_aload_n hx hb d_Mo_isCrossed_126 rfl (lv_at hl 0 rfl) ?_
                    refine gh_get (ci := 5) hx hb htb in_Mo hown hK hG zmo rfl 7 (by decide) (htb _ k_2_230) (fun _ h9 => h9) rfl d_Mo_isCrossed_127 ?_
                    refine lv_iload_n hx hb d_Mo_isCrossed_130 rfl (lv_at hl 3 rfl) ?_
                    refine gh_lald (v := tf k) hx hb hK hG 1 ztp rfl (vp_in_nI (by omega) (by decide)) (by rw [nI_clamp (by omega)]) d_Mo_isCrossed_131 ?_
                    refine lv_aload_n hx hb d_Mo_isCrossed_132 rfl (lv_at hl 0 rfl) ?_
                    refine gh_get (ci := 5) hx hb htb in_Mo hown hK hG zmo rfl 8 (by decide) (htb _ k_2_231) (fun _ h9 => h9) rfl d_Mo_isCrossed_133 ?_
                    refine lv_iload_n hx hb d_Mo_isCrossed_136 rfl (lv_at hl 3 rfl) ?_
                    refine gh_lald (v := df k) hx hb hK hG 1 zdn rfl (vp_in_nI (by omega) (by decide)) (by rw [nI_clamp (by omega)]) d_Mo_isCrossed_137 ?_
                    refine lv_aload_n hx hb d_Mo_isCrossed_138 rfl (lv_at hl 0 rfl) ?_
                    refine gh_get (ci := 5) hx hb htb in_Mo hown hK hG zmo rfl 7 (by decide) (htb _ k_2_230) (fun _ h9 => h9) rfl d_Mo_isCrossed_139 ?_
                    refine lv_iload hx hb d_Mo_isCrossed_142 (lv_at hl 4 rfl) ?_
                    refine gh_lald (v := tf k2) hx hb hK hG 1 ztp rfl (vp_in_nI (by omega) (by decide)) (by rw [nI_clamp (by omega)]) d_Mo_isCrossed_144 ?_
                    refine lv_aload_n hx hb d_Mo_isCrossed_145 rfl (lv_at hl 0 rfl) ?_
                    refine gh_get (ci := 5) hx hb htb in_Mo hown hK hG zmo rfl 8 (by decide) (htb _ k_2_231) (fun _ h9 => h9) rfl d_Mo_isCrossed_146 ?_
                    refine lv_iload hx hb d_Mo_isCrossed_149 (lv_at hl 4 rfl) ?_
                    refine gh_lald (v := df k2) hx hb hK hG 1 zdn rfl (vp_in_nI (by omega) (by decide)) (by rw [nI_clamp (by omega)]) d_Mo_isCrossed_151 ?_
                    refine gh_cS (As := [.long (tf k), .long (df k), .long (tf k2), .long (df k2)]) (rest := []) (xF_ok b0) hx hb hml hown hK hX hG c_Mo_compare (q_Mo_compare htb ⟨by decide, by decide⟩) (htb _ k_3_116) (htb _ k_3_117) rfl hl.1 rfl (Nat.le_of_ble_eq_true rfl) d_Mo_isCrossed_152 ⟨by decide, by decide⟩ (fun v9 h9 H l9 hp9 hG => ?_) (fun _ _ _ _ hp9 _ => by cases hp9.1)
                    obtain ⟨hv9, hh9⟩ := hp9
                    cases hv9
                    rw [hh9] at hG
                    refine W.eq (g2 := F0 m 155 ls [.int (v_cmp (tf k) (df k) (tf k2) (df k2))]) rfl ?_
                    refine W.widen (k := 0) (n := 0) (by decide) (by decide) ?_
                    refine lv_if_ne (tgt := 172) hx hb d_Mo_isCrossed_155 (by decide) (fun hc155 => ?_) (fun hc155 => ?_)
                    · skip
                      refine lv_iconst (v := 0) hx hb d_Mo_isCrossed_172 (by decide) ?_
                      refine lv_istore_n (lv' := [(2, .int 0), (0, .ref mo), (1, .int (nI a)), (3, .int (nI k)), (5, .int (nI k2))]) hx hb d_Mo_isCrossed_173 rfl hl (by decide) rfl (fun ls hl => ?_)
                      refine lv_iinc (k := 4) (v := nI (k2 + 1)) (lv' := [(5, .int (nI (k2 + 1))), (2, .int 0), (0, .ref mo), (1, .int (nI a)), (3, .int (nI k))]) hx hb d_Mo_isCrossed_174 hl rfl (nI_1 k2) (by decide) rfl (fun ls hl => ?_)
                      refine lv_goto (tgt := 104) hx hb d_Mo_isCrossed_177 (by decide) ?_
                      exact ihb false ls H l9 (by omega) ⟨by rw [m_any_s, ← Bool.or_assoc, ← hi1b]; rw [hc111]; simp [v_xm, hc123, hc155], (lv_sub hl [2, 3, 1, 4, 0] rfl), hG⟩
                    · skip
                      refine lv_aload_n hx hb d_Mo_isCrossed_158 rfl (lv_at hl 0 rfl) ?_
                      refine lv_iload_n hx hb d_Mo_isCrossed_159 rfl (lv_at hl 3 rfl) ?_
                      refine lv_iload hx hb d_Mo_isCrossed_160 (lv_at hl 4 rfl) ?_
                      refine gh_cV (ci := 5) (As := [.int (nI k), .int (nI k2)]) (rest := []) (xF_ok b0) hx hb hml hown hK hX hG rfl zmo (c_Mo_alike (wM_mk zmo znm zfr zhs zva ztp zdn zvt zvd ztd (by omega) (by omega)) (p1 := k) (q1 := k2) (by omega) (by omega)) (q_Mo_alike htb ⟨by decide, by decide⟩) (htb _ k_3_87) (htb _ k_3_89) (htb _ k_s_Mo_alike) rfl hl.1 rfl (Nat.le_of_ble_eq_true rfl) d_Mo_isCrossed_162 ⟨by decide, by decide⟩ (fun v9 h9 H l9 hp9 hG => ?_) (fun _ _ _ _ hp9 _ => by cases hp9.1)
                      obtain ⟨hv9, hh9⟩ := hp9
                      cases hv9
                      rw [hh9] at hG
                      refine W.eq (g2 := F0 m 165 ls [.int (v_alike nf k k2)]) rfl ?_
                      refine W.widen (k := 0) (n := 0) (by decide) (by decide) ?_
                      refine lv_if_ne (tgt := 172) hx hb d_Mo_isCrossed_165 (by decide) (fun hc165 => ?_) (fun hc165 => ?_)
                      · skip
                        refine lv_iconst (v := 0) hx hb d_Mo_isCrossed_172 (by decide) ?_
                        refine lv_istore_n (lv' := [(2, .int 0), (0, .ref mo), (1, .int (nI a)), (3, .int (nI k)), (5, .int (nI k2))]) hx hb d_Mo_isCrossed_173 rfl hl (by decide) rfl (fun ls hl => ?_)
                        refine lv_iinc (k := 4) (v := nI (k2 + 1)) (lv' := [(5, .int (nI (k2 + 1))), (2, .int 0), (0, .ref mo), (1, .int (nI a)), (3, .int (nI k))]) hx hb d_Mo_isCrossed_174 hl rfl (nI_1 k2) (by decide) rfl (fun ls hl => ?_)
                        refine lv_goto (tgt := 104) hx hb d_Mo_isCrossed_177 (by decide) ?_
                        exact ihb false ls H l9 (by omega) ⟨by rw [m_any_s, ← Bool.or_assoc, ← hi1b]; rw [hc111]; simp [v_xm, hc123, hc155, hc165], (lv_sub hl [2, 3, 1, 4, 0] rfl), hG⟩
                      · skip
                        refine lv_iconst (v := 1) hx hb d_Mo_isCrossed_168 (by decide) ?_
                        refine lv_goto (tgt := 173) hx hb d_Mo_isCrossed_169 (by decide) ?_
                        refine lv_istore_n (lv' := [(2, .int 1), (0, .ref mo), (1, .int (nI a)), (3, .int (nI k)), (5, .int (nI k2))]) hx hb d_Mo_isCrossed_173 rfl hl (by decide) rfl (fun ls hl => ?_)
                        refine lv_iinc (k := 4) (v := nI (k2 + 1)) (lv' := [(5, .int (nI (k2 + 1))), (2, .int 1), (0, .ref mo), (1, .int (nI a)), (3, .int (nI k))]) hx hb d_Mo_isCrossed_174 hl rfl (nI_1 k2) (by decide) rfl (fun ls hl => ?_)
                        refine lv_goto (tgt := 104) hx hb d_Mo_isCrossed_177 (by decide) ?_
                        exact ihb true ls H l9 (by omega) ⟨by rw [m_any_s, ← Bool.or_assoc, ← hi1b]; rw [hc111]; simp [v_xm, hc123, hc155, hc165], (lv_sub hl [2, 3, 1, 4, 0] rfl), hG⟩
            · skip
              refine lv_iconst (v := 1) hx hb d_Mo_isCrossed_95 (by decide) ?_
              refine lv_goto (tgt := 100) hx hb d_Mo_isCrossed_96 (by decide) ?_
              refine lv_istore_n (lv' := [(2, .int 1), (4, .int 1), (0, .ref mo), (1, .int (nI a)), (3, .int (nI k))]) hx hb d_Mo_isCrossed_100 rfl hl (by decide) rfl (fun ls hl => ?_)
              refine lv_iconst (v := 0) hx hb d_Mo_isCrossed_101 (by decide) ?_
              refine lv_istore (lv' := [(5, .int 0), (2, .int 1), (4, .int 1), (0, .ref mo), (1, .int (nI a)), (3, .int (nI k))]) hx hb d_Mo_isCrossed_102 hl (by decide) rfl (fun ls hl => ?_)
              refine gh_gen hG (fun H l9 hG => ?_)
              refine lp_upH (α := Bool) (G := fun ls H l9 => W p l e _ s m _ below meth c H l9 _ _ _ (F0 m 104 ls [])) k (fun k2 b2 ls H l9 => (b2 = (true || m_any (v_xm nf tf df k) k2)) ∧ lv_has ls 6 [(0, .ref mo), (1, .int (nI a)), (2, .int (m_b b2)), (3, .int (nI k)), (5, .int (nI k2))] ∧ gh_P D vC b0 h s.heap H l9) ?_ 0 true ls H l9 (Nat.zero_le _) ⟨(by unfold m_any; simp), (lv_sub hl [3, 4, 1, 5, 0] rfl), hG⟩
              intro k2 b2 ls H l9 hkb hI ihb
              obtain ⟨hi1b, hl, hG⟩ := hI
              refine lv_iload hx hb d_Mo_isCrossed_104 (lv_at hl 4 rfl) ?_
              refine lv_iload_n hx hb d_Mo_isCrossed_106 rfl (lv_at hl 3 rfl) ?_
              refine lv_icmp_ge (tgt := 180) hx hb d_Mo_isCrossed_107 (by decide) (fun hc107 => ?_) (fun hc107 => ?_)
              · skip
                replace hc107 : k ≤ k2 := (nc_le (a := k) (b := k2) (by omega) (by omega) rfl rfl).mp hc107
                refine lv_iinc (k := 3) (v := nI (k + 1)) (lv' := [(3, .int (nI (k + 1))), (0, .ref mo), (1, .int (nI a)), (2, .int (m_b b2)), (5, .int (nI k2))]) hx hb d_Mo_isCrossed_180 hl rfl (nI_1 k) (by decide) rfl (fun ls hl => ?_)
                refine lv_goto (tgt := 4) hx hb d_Mo_isCrossed_183 (by decide) ?_
                exact iha b2 ls H l9 (by omega) ⟨by rw [m_any_s, ← hi1a, hi1b, show k2 = k by omega]; simp [v_crs, v_end, hc17, hc42, hc64, hc75, hc92], (lv_sub hl [1, 2, 3, 0] rfl), hG⟩
              · skip
                replace hc107 : ¬ k ≤ k2 := fun q9 => hc107 ((nc_le (a := k) (b := k2) (by omega) (by omega) rfl rfl).mpr q9)
                refine lv_iload_n hx hb d_Mo_isCrossed_110 rfl (lv_at hl 2 rfl) ?_
                refine lv_if_ne (tgt := 168) hx hb d_Mo_isCrossed_111 (by decide) (fun hc111 => ?_) (fun hc111 => ?_)
                · skip
                  replace hc111 := mb_1.mp hc111
                  refine lv_iconst (v := 1) hx hb d_Mo_isCrossed_168 (by decide) ?_
                  refine lv_goto (tgt := 173) hx hb d_Mo_isCrossed_169 (by decide) ?_
                  refine lv_istore_n (lv' := [(2, .int 1), (0, .ref mo), (1, .int (nI a)), (3, .int (nI k)), (5, .int (nI k2))]) hx hb d_Mo_isCrossed_173 rfl hl (by decide) rfl (fun ls hl => ?_)
                  refine lv_iinc (k := 4) (v := nI (k2 + 1)) (lv' := [(5, .int (nI (k2 + 1))), (2, .int 1), (0, .ref mo), (1, .int (nI a)), (3, .int (nI k))]) hx hb d_Mo_isCrossed_174 hl rfl (nI_1 k2) (by decide) rfl (fun ls hl => ?_)
                  refine lv_goto (tgt := 104) hx hb d_Mo_isCrossed_177 (by decide) ?_
                  exact ihb true ls H l9 (by omega) ⟨by rw [m_any_s, ← Bool.or_assoc, ← hi1b]; rw [hc111]; rfl, (lv_sub hl [2, 3, 1, 4, 0] rfl), hG⟩
                · skip
                  replace hc111 := mb_0.mp hc111
                  refine lv_aload_n hx hb d_Mo_isCrossed_114 rfl (lv_at hl 0 rfl) ?_
                  refine gh_get (ci := 5) hx hb htb in_Mo hown hK hG zmo rfl 8 (by decide) (htb _ k_2_231) (fun _ h9 => h9) rfl d_Mo_isCrossed_115 ?_
                  refine lv_iload hx hb d_Mo_isCrossed_118 (lv_at hl 4 rfl) ?_
                  refine gh_lald (v := df k2) hx hb hK hG 1 zdn rfl (vp_in_nI (by omega) (by decide)) (by rw [nI_clamp (by omega)]) d_Mo_isCrossed_120 ?_
                  refine lv_lconst (v := 0) hx hb d_Mo_isCrossed_121 (by decide) ?_
                  refine W.lcmp hx hb d_Mo_isCrossed_122 ?_
                  refine lv_if_le (tgt := 172) hx hb d_Mo_isCrossed_123 (by decide) (fun hc123 => ?_) (fun hc123 => ?_)
                  · skip
                    rw [lg_cmp_le] at hc123
                    refine lv_iconst (v := 0) hx hb d_Mo_isCrossed_172 (by decide) ?_
                    refine lv_istore_n (lv' := [(2, .int 0), (0, .ref mo), (1, .int (nI a)), (3, .int (nI k)), (5, .int (nI k2))]) hx hb d_Mo_isCrossed_173 rfl hl (by decide) rfl (fun ls hl => ?_)
                    refine lv_iinc (k := 4) (v := nI (k2 + 1)) (lv' := [(5, .int (nI (k2 + 1))), (2, .int 0), (0, .ref mo), (1, .int (nI a)), (3, .int (nI k))]) hx hb d_Mo_isCrossed_174 hl rfl (nI_1 k2) (by decide) rfl (fun ls hl => ?_)
                    refine lv_goto (tgt := 104) hx hb d_Mo_isCrossed_177 (by decide) ?_
                    exact ihb false ls H l9 (by omega) ⟨by rw [m_any_s, ← Bool.or_assoc, ← hi1b]; rw [hc111]; simp [v_xm, hc123], (lv_sub hl [2, 3, 1, 4, 0] rfl), hG⟩
                  · skip
                    rw [lg_cmp_le] at hc123
                    refine lv_aload_n hx hb d_Mo_isCrossed_126 rfl (lv_at hl 0 rfl) ?_
                    refine gh_get (ci := 5) hx hb htb in_Mo hown hK hG zmo rfl 7 (by decide) (htb _ k_2_230) (fun _ h9 => h9) rfl d_Mo_isCrossed_127 ?_
                    refine lv_iload_n hx hb d_Mo_isCrossed_130 rfl (lv_at hl 3 rfl) ?_
                    refine gh_lald (v := tf k) hx hb hK hG 1 ztp rfl (vp_in_nI (by omega) (by decide)) (by rw [nI_clamp (by omega)]) d_Mo_isCrossed_131 ?_
                    refine lv_aload_n hx hb d_Mo_isCrossed_132 rfl (lv_at hl 0 rfl) ?_
                    refine gh_get (ci := 5) hx hb htb in_Mo hown hK hG zmo rfl 8 (by decide) (htb _ k_2_231) (fun _ h9 => h9) rfl d_Mo_isCrossed_133 ?_
                    refine lv_iload_n hx hb d_Mo_isCrossed_136 rfl (lv_at hl 3 rfl) ?_
                    refine gh_lald (v := df k) hx hb hK hG 1 zdn rfl (vp_in_nI (by omega) (by decide)) (by rw [nI_clamp (by omega)]) d_Mo_isCrossed_137 ?_
                    refine lv_aload_n hx hb d_Mo_isCrossed_138 rfl (lv_at hl 0 rfl) ?_
                    refine gh_get (ci := 5) hx hb htb in_Mo hown hK hG zmo rfl 7 (by decide) (htb _ k_2_230) (fun _ h9 => h9) rfl d_Mo_isCrossed_139 ?_
                    refine lv_iload hx hb d_Mo_isCrossed_142 (lv_at hl 4 rfl) ?_
                    refine gh_lald (v := tf k2) hx hb hK hG 1 ztp rfl (vp_in_nI (by omega) (by decide)) (by rw [nI_clamp (by omega)]) d_Mo_isCrossed_144 ?_
                    refine lv_aload_n hx hb d_Mo_isCrossed_145 rfl (lv_at hl 0 rfl) ?_
                    refine gh_get (ci := 5) hx hb htb in_Mo hown hK hG zmo rfl 8 (by decide) (htb _ k_2_231) (fun _ h9 => h9) rfl d_Mo_isCrossed_146 ?_
                    refine lv_iload hx hb d_Mo_isCrossed_149 (lv_at hl 4 rfl) ?_
                    refine gh_lald (v := df k2) hx hb hK hG 1 zdn rfl (vp_in_nI (by omega) (by decide)) (by rw [nI_clamp (by omega)]) d_Mo_isCrossed_151 ?_
                    refine gh_cS (As := [.long (tf k), .long (df k), .long (tf k2), .long (df k2)]) (rest := []) (xF_ok b0) hx hb hml hown hK hX hG c_Mo_compare (q_Mo_compare htb ⟨by decide, by decide⟩) (htb _ k_3_116) (htb _ k_3_117) rfl hl.1 rfl (Nat.le_of_ble_eq_true rfl) d_Mo_isCrossed_152 ⟨by decide, by decide⟩ (fun v9 h9 H l9 hp9 hG => ?_) (fun _ _ _ _ hp9 _ => by cases hp9.1)
                    obtain ⟨hv9, hh9⟩ := hp9
                    cases hv9
                    rw [hh9] at hG
                    refine W.eq (g2 := F0 m 155 ls [.int (v_cmp (tf k) (df k) (tf k2) (df k2))]) rfl ?_
                    refine W.widen (k := 0) (n := 0) (by decide) (by decide) ?_
                    refine lv_if_ne (tgt := 172) hx hb d_Mo_isCrossed_155 (by decide) (fun hc155 => ?_) (fun hc155 => ?_)
                    · skip
                      refine lv_iconst (v := 0) hx hb d_Mo_isCrossed_172 (by decide) ?_
                      refine lv_istore_n (lv' := [(2, .int 0), (0, .ref mo), (1, .int (nI a)), (3, .int (nI k)), (5, .int (nI k2))]) hx hb d_Mo_isCrossed_173 rfl hl (by decide) rfl (fun ls hl => ?_)
                      refine lv_iinc (k := 4) (v := nI (k2 + 1)) (lv' := [(5, .int (nI (k2 + 1))), (2, .int 0), (0, .ref mo), (1, .int (nI a)), (3, .int (nI k))]) hx hb d_Mo_isCrossed_174 hl rfl (nI_1 k2) (by decide) rfl (fun ls hl => ?_)
                      refine lv_goto (tgt := 104) hx hb d_Mo_isCrossed_177 (by decide) ?_
                      exact ihb false ls H l9 (by omega) ⟨by rw [m_any_s, ← Bool.or_assoc, ← hi1b]; rw [hc111]; simp [v_xm, hc123, hc155], (lv_sub hl [2, 3, 1, 4, 0] rfl), hG⟩
                    · skip
                      refine lv_aload_n hx hb d_Mo_isCrossed_158 rfl (lv_at hl 0 rfl) ?_
                      refine lv_iload_n hx hb d_Mo_isCrossed_159 rfl (lv_at hl 3 rfl) ?_
                      refine lv_iload hx hb d_Mo_isCrossed_160 (lv_at hl 4 rfl) ?_
                      refine gh_cV (ci := 5) (As := [.int (nI k), .int (nI k2)]) (rest := []) (xF_ok b0) hx hb hml hown hK hX hG rfl zmo (c_Mo_alike (wM_mk zmo znm zfr zhs zva ztp zdn zvt zvd ztd (by omega) (by omega)) (p1 := k) (q1 := k2) (by omega) (by omega)) (q_Mo_alike htb ⟨by decide, by decide⟩) (htb _ k_3_87) (htb _ k_3_89) (htb _ k_s_Mo_alike) rfl hl.1 rfl (Nat.le_of_ble_eq_true rfl) d_Mo_isCrossed_162 ⟨by decide, by decide⟩ (fun v9 h9 H l9 hp9 hG => ?_) (fun _ _ _ _ hp9 _ => by cases hp9.1)
                      obtain ⟨hv9, hh9⟩ := hp9
                      cases hv9
                      rw [hh9] at hG
                      refine W.eq (g2 := F0 m 165 ls [.int (v_alike nf k k2)]) rfl ?_
                      refine W.widen (k := 0) (n := 0) (by decide) (by decide) ?_
                      refine lv_if_ne (tgt := 172) hx hb d_Mo_isCrossed_165 (by decide) (fun hc165 => ?_) (fun hc165 => ?_)
                      · skip
                        refine lv_iconst (v := 0) hx hb d_Mo_isCrossed_172 (by decide) ?_
                        refine lv_istore_n (lv' := [(2, .int 0), (0, .ref mo), (1, .int (nI a)), (3, .int (nI k)), (5, .int (nI k2))]) hx hb d_Mo_isCrossed_173 rfl hl (by decide) rfl (fun ls hl => ?_)
                        refine lv_iinc (k := 4) (v := nI (k2 + 1)) (lv' := [(5, .int (nI (k2 + 1))), (2, .int 0), (0, .ref mo), (1, .int (nI a)), (3, .int (nI k))]) hx hb d_Mo_isCrossed_174 hl rfl (nI_1 k2) (by decide) rfl (fun ls hl => ?_)
                        refine lv_goto (tgt := 104) hx hb d_Mo_isCrossed_177 (by decide) ?_
                        exact ihb false ls H l9 (by omega) ⟨by rw [m_any_s, ← Bool.or_assoc, ← hi1b]; rw [hc111]; simp [v_xm, hc123, hc155, hc165], (lv_sub hl [2, 3, 1, 4, 0] rfl), hG⟩
                      · skip
                        refine lv_iconst (v := 1) hx hb d_Mo_isCrossed_168 (by decide) ?_
                        refine lv_goto (tgt := 173) hx hb d_Mo_isCrossed_169 (by decide) ?_
                        refine lv_istore_n (lv' := [(2, .int 1), (0, .ref mo), (1, .int (nI a)), (3, .int (nI k)), (5, .int (nI k2))]) hx hb d_Mo_isCrossed_173 rfl hl (by decide) rfl (fun ls hl => ?_)
                        refine lv_iinc (k := 4) (v := nI (k2 + 1)) (lv' := [(5, .int (nI (k2 + 1))), (2, .int 1), (0, .ref mo), (1, .int (nI a)), (3, .int (nI k))]) hx hb d_Mo_isCrossed_174 hl rfl (nI_1 k2) (by decide) rfl (fun ls hl => ?_)
                        refine lv_goto (tgt := 104) hx hb d_Mo_isCrossed_177 (by decide) ?_
                        exact ihb true ls H l9 (by omega) ⟨by rw [m_any_s, ← Bool.or_assoc, ← hi1b]; rw [hc111]; simp [v_xm, hc123, hc155, hc165], (lv_sub hl [2, 3, 1, 4, 0] rfl), hG⟩
    · skip
      replace hc17 := mb_0.mp hc17
      refine lv_goto (tgt := 180) hx hb d_Mo_isCrossed_20 (by decide) ?_
      refine lv_iinc (k := 3) (v := nI (k + 1)) (lv' := [(3, .int (nI (k + 1))), (0, .ref mo), (1, .int (nI a)), (2, .int (m_b b1))]) hx hb d_Mo_isCrossed_180 hl rfl (nI_1 k) (by decide) rfl (fun ls hl => ?_)
      refine lv_goto (tgt := 4) hx hb d_Mo_isCrossed_183 (by decide) ?_
      exact iha b1 ls H l9 (by omega) ⟨by rw [m_any_s, ← hi1a]; simp [v_crs, hc17], (lv_sub hl [1, 2, 3, 0] rfl), hG⟩

set_option maxHeartbeats 4000000 in
set_option maxRecDepth 100000 in
/-- choiceBehind -/
theorem c_Mo_choiceBehind {mo nm fr hs va tp dn g my : Nat} {th : Int32} {nf ff : Nat → Int32} {hf vf tf df : Nat → Int64} (hW : wM cI cJ h mo nm fr hs va tp dn th g my nf ff hf vf tf df) {a : Nat} (ha : a < 3) {t d : Int64} : gh_C l D vC (tZ cI cJ cP cS) (xF b0) b0 y_Mo_choiceBehind w_Mo_choiceBehind ({ frames := 1, cells := 0, slots := 0, locals := 34 }) [.ref mo, .int (nI a), .long t, .long d] h (rI (nI (pb_num (v_bh nf vf tf df a t d) g)) h) := by
  refine gh_ofW (by decide) (Nat.le_of_ble_eq_true rfl) ?_
  intro p e s m below meth c ls hctx hno hl hG hK hX
  obtain ⟨hx, hb, hr, hml, hown, hlk, hts, hnm⟩ := hctx
  have htb : ∀ w ∈ tB, w.before _ s = true := fun w hw => hts w (List.mem_cons_of_mem _ hw)
  replace hl : lv_has ls 10 [(0, .ref mo), (1, .int (nI a)), (2, .long t), (4, .long d)] := hl
  obtain ⟨zmo, znm, zfr, zhs, zva, ztp, zdn, zvt, zvd, ztd, zg, zy⟩ := hW
  have zf0 : frM h h := frM_rf h
  refine lv_iconst (v := 0) hx hb d_Mo_choiceBehind_0 (by decide) ?_
  refine lv_istore (lv' := [(6, .int 0), (0, .ref mo), (1, .int (nI a)), (2, .long t), (4, .long d)]) hx hb d_Mo_choiceBehind_1 hl (by decide) rfl (fun ls hl => ?_)
  refine lv_iconst (v := 0) hx hb d_Mo_choiceBehind_3 (by decide) ?_
  refine lv_istore (lv' := [(7, .int 0), (6, .int 0), (0, .ref mo), (1, .int (nI a)), (2, .long t), (4, .long d)]) hx hb d_Mo_choiceBehind_4 hl (by decide) rfl (fun ls hl => ?_)
  refine gh_gen hG (fun H l9 hG => ?_)
  refine lp_upH (α := Nat) (G := fun ls H l9 => W p l e _ s m _ below meth c H l9 _ _ _ (F0 m 6 ls [])) g (fun k acc ls H l9 => (acc = pb_num (v_bh nf vf tf df a t d) k) ∧ lv_has ls 10 [(0, .ref mo), (1, .int (nI a)), (2, .long t), (4, .long d), (6, .int (nI acc)), (7, .int (nI k))] ∧ gh_P D vC b0 h s.heap H l9) ?_ 0 0 ls H l9 (Nat.zero_le _) ⟨rfl, (lv_sub hl [2, 3, 4, 5, 1, 0] rfl), hG⟩
  intro k acc ls H l9 hk hI ih
  obtain ⟨hi1, hl, hG⟩ := hI
  refine lv_iload hx hb d_Mo_choiceBehind_6 (lv_at hl 5 rfl) ?_
  refine lv_aload_n hx hb d_Mo_choiceBehind_8 rfl (lv_at hl 0 rfl) ?_
  refine gh_get (ci := 5) hx hb htb in_Mo hown hK hG zmo rfl 1 (by decide) (htb _ k_2_224) (fun _ h9 => h9) rfl d_Mo_choiceBehind_9 ?_
  refine lv_icmp_ge (tgt := 144) hx hb d_Mo_choiceBehind_12 (by decide) (fun hc12 => ?_) (fun hc12 => ?_)
  · skip
    replace hc12 : g ≤ k := (nc_le (a := g) (b := k) (by omega) (by omega) rfl rfl).mp hc12
    refine lv_iload hx hb d_Mo_choiceBehind_144 (lv_at hl 4 rfl) ?_
    exact gh_iret hx hb hr hlk rfl hG d_Mo_choiceBehind_146 (⟨by rw [hi1, show k = g by omega], rfl⟩)
  · skip
    replace hc12 : ¬ g ≤ k := fun q9 => hc12 ((nc_le (a := g) (b := k) (by omega) (by omega) rfl rfl).mpr q9)
    refine lv_aload_n hx hb d_Mo_choiceBehind_15 rfl (lv_at hl 0 rfl) ?_
    refine gh_get (ci := 5) hx hb htb in_Mo hown hK hG zmo rfl 8 (by decide) (htb _ k_2_231) (fun _ h9 => h9) rfl d_Mo_choiceBehind_16 ?_
    refine lv_iload hx hb d_Mo_choiceBehind_19 (lv_at hl 5 rfl) ?_
    refine gh_lald (v := df k) hx hb hK hG 1 zdn rfl (vp_in_nI (by omega) (by decide)) (by rw [nI_clamp (by omega)]) d_Mo_choiceBehind_21 ?_
    refine lv_lconst (v := 0) hx hb d_Mo_choiceBehind_22 (by decide) ?_
    refine W.lcmp hx hb d_Mo_choiceBehind_23 ?_
    refine lv_if_le (tgt := 54) hx hb d_Mo_choiceBehind_24 (by decide) (fun hc24 => ?_) (fun hc24 => ?_)
    · skip
      rw [lg_cmp_le] at hc24
      refine lv_iconst (v := 0) hx hb d_Mo_choiceBehind_54 (by decide) ?_
      refine lv_istore (lv' := [(8, .int 0), (0, .ref mo), (1, .int (nI a)), (2, .long t), (4, .long d), (6, .int (nI acc)), (7, .int (nI k))]) hx hb d_Mo_choiceBehind_55 hl (by decide) rfl (fun ls hl => ?_)
      refine lv_aload_n hx hb d_Mo_choiceBehind_57 rfl (lv_at hl 1 rfl) ?_
      refine gh_get (ci := 5) hx hb htb in_Mo hown hK hG zmo rfl 8 (by decide) (htb _ k_2_231) (fun _ h9 => h9) rfl d_Mo_choiceBehind_58 ?_
      refine lv_iload hx hb d_Mo_choiceBehind_61 (lv_at hl 6 rfl) ?_
      refine gh_lald (v := df k) hx hb hK hG 1 zdn rfl (vp_in_nI (by omega) (by decide)) (by rw [nI_clamp (by omega)]) d_Mo_choiceBehind_63 ?_
      refine lv_lconst (v := 0) hx hb d_Mo_choiceBehind_64 (by decide) ?_
      refine W.lcmp hx hb d_Mo_choiceBehind_65 ?_
      refine lv_if_ne (tgt := 89) hx hb d_Mo_choiceBehind_66 (by decide) (fun hc66 => ?_) (fun hc66 => ?_)
      · skip
        rw [lg_cmp_eq] at hc66
        refine lv_aload_n hx hb d_Mo_choiceBehind_89 rfl (lv_at hl 1 rfl) ?_
        refine gh_get (ci := 5) hx hb htb in_Mo hown hK hG zmo rfl 2 (by decide) (htb _ k_2_225) (fun _ h9 => h9) rfl d_Mo_choiceBehind_90 ?_
        refine lv_iconst (v := 3) hx hb d_Mo_choiceBehind_93 (by decide) ?_
        refine lv_iload hx hb d_Mo_choiceBehind_94 (lv_at hl 6 rfl) ?_
        refine lv_imul hx hb d_Mo_choiceBehind_96 ?_
        rw [show 3 * (nI k) = nI (3 * k) from nm_mul 3 k]
        refine lv_iload_n hx hb d_Mo_choiceBehind_97 rfl (lv_at hl 2 rfl) ?_
        refine lv_iadd hx hb d_Mo_choiceBehind_98 ?_
        rw [show (nI (3 * k)) + (nI a) = nI ((3 * k) + a) from nI_add (3 * k) a]
        refine gh_iald (v := nf ((3 * k) + a)) hx hb hK hG 0 znm rfl (vp_in_nI (by omega) (by decide)) (by rw [nI_clamp (by omega)]) d_Mo_choiceBehind_99 ?_
        refine lv_if_le (tgt := 107) hx hb d_Mo_choiceBehind_100 (by decide) (fun hc100 => ?_) (fun hc100 => ?_)
        · skip
          refine lv_iconst (v := 0) hx hb d_Mo_choiceBehind_107 (by decide) ?_
          refine lv_iload hx hb d_Mo_choiceBehind_108 (lv_at hl 0 rfl) ?_
          refine lv_icmp_eq (tgt := 117) hx hb d_Mo_choiceBehind_110 (by decide) (fun hc110 => ?_) (fun hc110 => absurd hc110 (by decide))
          refine lv_iconst (v := 0) hx hb d_Mo_choiceBehind_117 (by decide) ?_
          refine lv_istore (lv' := [(9, .int 0), (8, .int 0), (0, .ref mo), (1, .int (nI a)), (2, .long t), (4, .long d), (6, .int (nI acc)), (7, .int (nI k))]) hx hb d_Mo_choiceBehind_118 hl (by decide) rfl (fun ls hl => ?_)
          refine lv_iload hx hb d_Mo_choiceBehind_120 (lv_at hl 6 rfl) ?_
          refine lv_iload hx hb d_Mo_choiceBehind_122 (lv_at hl 0 rfl) ?_
          refine lv_if_eq (tgt := 134) hx hb d_Mo_choiceBehind_124 (by decide) (fun hc124 => ?_) (fun hc124 => absurd hc124 (by decide))
          refine lv_iconst (v := 0) hx hb d_Mo_choiceBehind_134 (by decide) ?_
          refine lv_iadd hx hb d_Mo_choiceBehind_135 ?_
          rw [show (nI acc) + 0 = nI (acc + 0) from nI_add acc 0]
          refine lv_istore (lv' := [(6, .int (nI (acc + 0))), (9, .int 0), (8, .int 0), (0, .ref mo), (1, .int (nI a)), (2, .long t), (4, .long d), (7, .int (nI k))]) hx hb d_Mo_choiceBehind_136 hl (by decide) rfl (fun ls hl => ?_)
          refine lv_iinc (k := 7) (v := nI (k + 1)) (lv' := [(7, .int (nI (k + 1))), (6, .int (nI (acc + 0))), (9, .int 0), (8, .int 0), (0, .ref mo), (1, .int (nI a)), (2, .long t), (4, .long d)]) hx hb d_Mo_choiceBehind_138 hl rfl (nI_1 k) (by decide) rfl (fun ls hl => ?_)
          refine lv_goto (tgt := 6) hx hb d_Mo_choiceBehind_141 (by decide) ?_
          exact ih (acc + 0) ls H l9 (by omega) ⟨by rw [hi1]; exact pb_ny (by simp [v_bh, hc24, hc66, hc100]), (lv_sub hl [4, 5, 6, 7, 1, 0] rfl), hG⟩
        · skip
          refine lv_iconst (v := 1) hx hb d_Mo_choiceBehind_103 (by decide) ?_
          refine lv_goto (tgt := 108) hx hb d_Mo_choiceBehind_104 (by decide) ?_
          refine lv_iload hx hb d_Mo_choiceBehind_108 (lv_at hl 0 rfl) ?_
          refine lv_icmp_eq (tgt := 117) hx hb d_Mo_choiceBehind_110 (by decide) (fun hc110 => absurd hc110 (by decide)) (fun hc110 => ?_)
          refine lv_iconst (v := 1) hx hb d_Mo_choiceBehind_113 (by decide) ?_
          refine lv_goto (tgt := 118) hx hb d_Mo_choiceBehind_114 (by decide) ?_
          refine lv_istore (lv' := [(9, .int 1), (8, .int 0), (0, .ref mo), (1, .int (nI a)), (2, .long t), (4, .long d), (6, .int (nI acc)), (7, .int (nI k))]) hx hb d_Mo_choiceBehind_118 hl (by decide) rfl (fun ls hl => ?_)
          refine lv_iload hx hb d_Mo_choiceBehind_120 (lv_at hl 6 rfl) ?_
          refine lv_iload hx hb d_Mo_choiceBehind_122 (lv_at hl 0 rfl) ?_
          refine lv_if_eq (tgt := 134) hx hb d_Mo_choiceBehind_124 (by decide) (fun hc124 => absurd hc124 (by decide)) (fun hc124 => ?_)
          refine lv_iconst (v := 1) hx hb d_Mo_choiceBehind_127 (by decide) ?_
          refine lv_iload hx hb d_Mo_choiceBehind_128 (lv_at hl 7 rfl) ?_
          refine lv_ishl hx hb d_Mo_choiceBehind_130 ?_
          rw [show (1 : Int32) <<< (nI k &&& 31) = nI (2 ^ k) from sh_1 k (by omega)]
          refine lv_goto (tgt := 135) hx hb d_Mo_choiceBehind_131 (by decide) ?_
          refine lv_iadd hx hb d_Mo_choiceBehind_135 ?_
          rw [show (nI acc) + (nI (2 ^ k)) = nI (acc + (2 ^ k)) from nI_add acc (2 ^ k)]
          refine lv_istore (lv' := [(6, .int (nI (acc + (2 ^ k)))), (9, .int 1), (8, .int 0), (0, .ref mo), (1, .int (nI a)), (2, .long t), (4, .long d), (7, .int (nI k))]) hx hb d_Mo_choiceBehind_136 hl (by decide) rfl (fun ls hl => ?_)
          refine lv_iinc (k := 7) (v := nI (k + 1)) (lv' := [(7, .int (nI (k + 1))), (6, .int (nI (acc + (2 ^ k)))), (9, .int 1), (8, .int 0), (0, .ref mo), (1, .int (nI a)), (2, .long t), (4, .long d)]) hx hb d_Mo_choiceBehind_138 hl rfl (nI_1 k) (by decide) rfl (fun ls hl => ?_)
          refine lv_goto (tgt := 6) hx hb d_Mo_choiceBehind_141 (by decide) ?_
          exact ih (acc + (2 ^ k)) ls H l9 (by omega) ⟨by rw [hi1]; exact pb_nx (by simp [v_bh, hc24, hc66, hc100]), (lv_sub hl [4, 5, 6, 7, 1, 0] rfl), hG⟩
      · skip
        rw [lg_cmp_eq] at hc66
        refine lv_aload_n hx hb d_Mo_choiceBehind_69 rfl (lv_at hl 1 rfl) ?_
        refine gh_get (ci := 5) hx hb htb in_Mo hown hK hG zmo rfl 6 (by decide) (htb _ k_2_229) (fun _ h9 => h9) rfl d_Mo_choiceBehind_70 ?_
        refine lv_iload hx hb d_Mo_choiceBehind_73 (lv_at hl 6 rfl) ?_
        refine gh_lald (v := vf k) hx hb hK hG 1 zva rfl (vp_in_nI (by omega) (by decide)) (by rw [nI_clamp (by omega)]) d_Mo_choiceBehind_75 ?_
        refine lv_lconst (v := 0) hx hb d_Mo_choiceBehind_76 (by decide) ?_
        refine W.lcmp hx hb d_Mo_choiceBehind_77 ?_
        refine lv_if_ge (tgt := 85) hx hb d_Mo_choiceBehind_78 (by decide) (fun hc78 => ?_) (fun hc78 => ?_)
        · skip
          rw [lg_cmp_ge] at hc78
          refine lv_iconst (v := 0) hx hb d_Mo_choiceBehind_85 (by decide) ?_
          refine lv_goto (tgt := 118) hx hb d_Mo_choiceBehind_86 (by decide) ?_
          refine lv_istore (lv' := [(9, .int 0), (8, .int 0), (0, .ref mo), (1, .int (nI a)), (2, .long t), (4, .long d), (6, .int (nI acc)), (7, .int (nI k))]) hx hb d_Mo_choiceBehind_118 hl (by decide) rfl (fun ls hl => ?_)
          refine lv_iload hx hb d_Mo_choiceBehind_120 (lv_at hl 6 rfl) ?_
          refine lv_iload hx hb d_Mo_choiceBehind_122 (lv_at hl 0 rfl) ?_
          refine lv_if_eq (tgt := 134) hx hb d_Mo_choiceBehind_124 (by decide) (fun hc124 => ?_) (fun hc124 => absurd hc124 (by decide))
          refine lv_iconst (v := 0) hx hb d_Mo_choiceBehind_134 (by decide) ?_
          refine lv_iadd hx hb d_Mo_choiceBehind_135 ?_
          rw [show (nI acc) + 0 = nI (acc + 0) from nI_add acc 0]
          refine lv_istore (lv' := [(6, .int (nI (acc + 0))), (9, .int 0), (8, .int 0), (0, .ref mo), (1, .int (nI a)), (2, .long t), (4, .long d), (7, .int (nI k))]) hx hb d_Mo_choiceBehind_136 hl (by decide) rfl (fun ls hl => ?_)
          refine lv_iinc (k := 7) (v := nI (k + 1)) (lv' := [(7, .int (nI (k + 1))), (6, .int (nI (acc + 0))), (9, .int 0), (8, .int 0), (0, .ref mo), (1, .int (nI a)), (2, .long t), (4, .long d)]) hx hb d_Mo_choiceBehind_138 hl rfl (nI_1 k) (by decide) rfl (fun ls hl => ?_)
          refine lv_goto (tgt := 6) hx hb d_Mo_choiceBehind_141 (by decide) ?_
          exact ih (acc + 0) ls H l9 (by omega) ⟨by rw [hi1]; exact pb_ny (by simp [v_bh, hc24, hc66, hc78]), (lv_sub hl [4, 5, 6, 7, 1, 0] rfl), hG⟩
        · skip
          rw [lg_cmp_ge] at hc78
          refine lv_iconst (v := 1) hx hb d_Mo_choiceBehind_81 (by decide) ?_
          refine lv_goto (tgt := 118) hx hb d_Mo_choiceBehind_82 (by decide) ?_
          refine lv_istore (lv' := [(9, .int 1), (8, .int 0), (0, .ref mo), (1, .int (nI a)), (2, .long t), (4, .long d), (6, .int (nI acc)), (7, .int (nI k))]) hx hb d_Mo_choiceBehind_118 hl (by decide) rfl (fun ls hl => ?_)
          refine lv_iload hx hb d_Mo_choiceBehind_120 (lv_at hl 6 rfl) ?_
          refine lv_iload hx hb d_Mo_choiceBehind_122 (lv_at hl 0 rfl) ?_
          refine lv_if_eq (tgt := 134) hx hb d_Mo_choiceBehind_124 (by decide) (fun hc124 => absurd hc124 (by decide)) (fun hc124 => ?_)
          refine lv_iconst (v := 1) hx hb d_Mo_choiceBehind_127 (by decide) ?_
          refine lv_iload hx hb d_Mo_choiceBehind_128 (lv_at hl 7 rfl) ?_
          refine lv_ishl hx hb d_Mo_choiceBehind_130 ?_
          rw [show (1 : Int32) <<< (nI k &&& 31) = nI (2 ^ k) from sh_1 k (by omega)]
          refine lv_goto (tgt := 135) hx hb d_Mo_choiceBehind_131 (by decide) ?_
          refine lv_iadd hx hb d_Mo_choiceBehind_135 ?_
          rw [show (nI acc) + (nI (2 ^ k)) = nI (acc + (2 ^ k)) from nI_add acc (2 ^ k)]
          refine lv_istore (lv' := [(6, .int (nI (acc + (2 ^ k)))), (9, .int 1), (8, .int 0), (0, .ref mo), (1, .int (nI a)), (2, .long t), (4, .long d), (7, .int (nI k))]) hx hb d_Mo_choiceBehind_136 hl (by decide) rfl (fun ls hl => ?_)
          refine lv_iinc (k := 7) (v := nI (k + 1)) (lv' := [(7, .int (nI (k + 1))), (6, .int (nI (acc + (2 ^ k)))), (9, .int 1), (8, .int 0), (0, .ref mo), (1, .int (nI a)), (2, .long t), (4, .long d)]) hx hb d_Mo_choiceBehind_138 hl rfl (nI_1 k) (by decide) rfl (fun ls hl => ?_)
          refine lv_goto (tgt := 6) hx hb d_Mo_choiceBehind_141 (by decide) ?_
          exact ih (acc + (2 ^ k)) ls H l9 (by omega) ⟨by rw [hi1]; exact pb_nx (by simp [v_bh, hc24, hc66, hc78]), (lv_sub hl [4, 5, 6, 7, 1, 0] rfl), hG⟩
    · skip
      rw [lg_cmp_le] at hc24
      refine lv_aload_n hx hb d_Mo_choiceBehind_27 rfl (lv_at hl 0 rfl) ?_
      refine gh_get (ci := 5) hx hb htb in_Mo hown hK hG zmo rfl 7 (by decide) (htb _ k_2_230) (fun _ h9 => h9) rfl d_Mo_choiceBehind_28 ?_
      refine lv_iload hx hb d_Mo_choiceBehind_31 (lv_at hl 5 rfl) ?_
      refine gh_lald (v := tf k) hx hb hK hG 1 ztp rfl (vp_in_nI (by omega) (by decide)) (by rw [nI_clamp (by omega)]) d_Mo_choiceBehind_33 ?_
      refine lv_aload_n hx hb d_Mo_choiceBehind_34 rfl (lv_at hl 0 rfl) ?_
      refine gh_get (ci := 5) hx hb htb in_Mo hown hK hG zmo rfl 8 (by decide) (htb _ k_2_231) (fun _ h9 => h9) rfl d_Mo_choiceBehind_35 ?_
      refine lv_iload hx hb d_Mo_choiceBehind_38 (lv_at hl 5 rfl) ?_
      refine gh_lald (v := df k) hx hb hK hG 1 zdn rfl (vp_in_nI (by omega) (by decide)) (by rw [nI_clamp (by omega)]) d_Mo_choiceBehind_40 ?_
      refine lv_lload_n hx hb d_Mo_choiceBehind_41 rfl (lv_at hl 2 rfl) ?_
      refine lv_lload hx hb d_Mo_choiceBehind_42 (lv_at hl 3 rfl) ?_
      refine gh_cS (As := [.long (tf k), .long (df k), .long t, .long d]) (rest := []) (xF_ok b0) hx hb hml hown hK hX hG c_Mo_compare (q_Mo_compare htb ⟨by decide, by decide⟩) (htb _ k_3_116) (htb _ k_3_117) rfl hl.1 rfl (Nat.le_of_ble_eq_true rfl) d_Mo_choiceBehind_44 ⟨by decide, by decide⟩ (fun v9 h9 H l9 hp9 hG => ?_) (fun _ _ _ _ hp9 _ => by cases hp9.1)
      obtain ⟨hv9, hh9⟩ := hp9
      cases hv9
      rw [hh9] at hG
      refine W.eq (g2 := F0 m 47 ls [.int (v_cmp (tf k) (df k) t d)]) rfl ?_
      refine W.widen (k := 0) (n := 0) (by decide) (by decide) ?_
      refine lv_if_gt (tgt := 54) hx hb d_Mo_choiceBehind_47 (by decide) (fun hc47 => ?_) (fun hc47 => ?_)
      · skip
        refine lv_iconst (v := 0) hx hb d_Mo_choiceBehind_54 (by decide) ?_
        refine lv_istore (lv' := [(8, .int 0), (0, .ref mo), (1, .int (nI a)), (2, .long t), (4, .long d), (6, .int (nI acc)), (7, .int (nI k))]) hx hb d_Mo_choiceBehind_55 hl (by decide) rfl (fun ls hl => ?_)
        refine lv_aload_n hx hb d_Mo_choiceBehind_57 rfl (lv_at hl 1 rfl) ?_
        refine gh_get (ci := 5) hx hb htb in_Mo hown hK hG zmo rfl 8 (by decide) (htb _ k_2_231) (fun _ h9 => h9) rfl d_Mo_choiceBehind_58 ?_
        refine lv_iload hx hb d_Mo_choiceBehind_61 (lv_at hl 6 rfl) ?_
        refine gh_lald (v := df k) hx hb hK hG 1 zdn rfl (vp_in_nI (by omega) (by decide)) (by rw [nI_clamp (by omega)]) d_Mo_choiceBehind_63 ?_
        refine lv_lconst (v := 0) hx hb d_Mo_choiceBehind_64 (by decide) ?_
        refine W.lcmp hx hb d_Mo_choiceBehind_65 ?_
        refine lv_if_ne (tgt := 89) hx hb d_Mo_choiceBehind_66 (by decide) (fun hc66 => ?_) (fun hc66 => ?_)
        · skip
          rw [lg_cmp_eq] at hc66
          refine lv_aload_n hx hb d_Mo_choiceBehind_89 rfl (lv_at hl 1 rfl) ?_
          refine gh_get (ci := 5) hx hb htb in_Mo hown hK hG zmo rfl 2 (by decide) (htb _ k_2_225) (fun _ h9 => h9) rfl d_Mo_choiceBehind_90 ?_
          refine lv_iconst (v := 3) hx hb d_Mo_choiceBehind_93 (by decide) ?_
          refine lv_iload hx hb d_Mo_choiceBehind_94 (lv_at hl 6 rfl) ?_
          refine lv_imul hx hb d_Mo_choiceBehind_96 ?_
          rw [show 3 * (nI k) = nI (3 * k) from nm_mul 3 k]
          refine lv_iload_n hx hb d_Mo_choiceBehind_97 rfl (lv_at hl 2 rfl) ?_
          refine lv_iadd hx hb d_Mo_choiceBehind_98 ?_
          rw [show (nI (3 * k)) + (nI a) = nI ((3 * k) + a) from nI_add (3 * k) a]
          refine gh_iald (v := nf ((3 * k) + a)) hx hb hK hG 0 znm rfl (vp_in_nI (by omega) (by decide)) (by rw [nI_clamp (by omega)]) d_Mo_choiceBehind_99 ?_
          refine lv_if_le (tgt := 107) hx hb d_Mo_choiceBehind_100 (by decide) (fun hc100 => ?_) (fun hc100 => ?_)
          · skip
            refine lv_iconst (v := 0) hx hb d_Mo_choiceBehind_107 (by decide) ?_
            refine lv_iload hx hb d_Mo_choiceBehind_108 (lv_at hl 0 rfl) ?_
            refine lv_icmp_eq (tgt := 117) hx hb d_Mo_choiceBehind_110 (by decide) (fun hc110 => ?_) (fun hc110 => absurd hc110 (by decide))
            refine lv_iconst (v := 0) hx hb d_Mo_choiceBehind_117 (by decide) ?_
            refine lv_istore (lv' := [(9, .int 0), (8, .int 0), (0, .ref mo), (1, .int (nI a)), (2, .long t), (4, .long d), (6, .int (nI acc)), (7, .int (nI k))]) hx hb d_Mo_choiceBehind_118 hl (by decide) rfl (fun ls hl => ?_)
            refine lv_iload hx hb d_Mo_choiceBehind_120 (lv_at hl 6 rfl) ?_
            refine lv_iload hx hb d_Mo_choiceBehind_122 (lv_at hl 0 rfl) ?_
            refine lv_if_eq (tgt := 134) hx hb d_Mo_choiceBehind_124 (by decide) (fun hc124 => ?_) (fun hc124 => absurd hc124 (by decide))
            refine lv_iconst (v := 0) hx hb d_Mo_choiceBehind_134 (by decide) ?_
            refine lv_iadd hx hb d_Mo_choiceBehind_135 ?_
            rw [show (nI acc) + 0 = nI (acc + 0) from nI_add acc 0]
            refine lv_istore (lv' := [(6, .int (nI (acc + 0))), (9, .int 0), (8, .int 0), (0, .ref mo), (1, .int (nI a)), (2, .long t), (4, .long d), (7, .int (nI k))]) hx hb d_Mo_choiceBehind_136 hl (by decide) rfl (fun ls hl => ?_)
            refine lv_iinc (k := 7) (v := nI (k + 1)) (lv' := [(7, .int (nI (k + 1))), (6, .int (nI (acc + 0))), (9, .int 0), (8, .int 0), (0, .ref mo), (1, .int (nI a)), (2, .long t), (4, .long d)]) hx hb d_Mo_choiceBehind_138 hl rfl (nI_1 k) (by decide) rfl (fun ls hl => ?_)
            refine lv_goto (tgt := 6) hx hb d_Mo_choiceBehind_141 (by decide) ?_
            exact ih (acc + 0) ls H l9 (by omega) ⟨by rw [hi1]; exact pb_ny (by simp [v_bh, hc24, hc47, hc66, hc100]), (lv_sub hl [4, 5, 6, 7, 1, 0] rfl), hG⟩
          · skip
            refine lv_iconst (v := 1) hx hb d_Mo_choiceBehind_103 (by decide) ?_
            refine lv_goto (tgt := 108) hx hb d_Mo_choiceBehind_104 (by decide) ?_
            refine lv_iload hx hb d_Mo_choiceBehind_108 (lv_at hl 0 rfl) ?_
            refine lv_icmp_eq (tgt := 117) hx hb d_Mo_choiceBehind_110 (by decide) (fun hc110 => absurd hc110 (by decide)) (fun hc110 => ?_)
            refine lv_iconst (v := 1) hx hb d_Mo_choiceBehind_113 (by decide) ?_
            refine lv_goto (tgt := 118) hx hb d_Mo_choiceBehind_114 (by decide) ?_
            refine lv_istore (lv' := [(9, .int 1), (8, .int 0), (0, .ref mo), (1, .int (nI a)), (2, .long t), (4, .long d), (6, .int (nI acc)), (7, .int (nI k))]) hx hb d_Mo_choiceBehind_118 hl (by decide) rfl (fun ls hl => ?_)
            refine lv_iload hx hb d_Mo_choiceBehind_120 (lv_at hl 6 rfl) ?_
            refine lv_iload hx hb d_Mo_choiceBehind_122 (lv_at hl 0 rfl) ?_
            refine lv_if_eq (tgt := 134) hx hb d_Mo_choiceBehind_124 (by decide) (fun hc124 => absurd hc124 (by decide)) (fun hc124 => ?_)
            refine lv_iconst (v := 1) hx hb d_Mo_choiceBehind_127 (by decide) ?_
            refine lv_iload hx hb d_Mo_choiceBehind_128 (lv_at hl 7 rfl) ?_
            refine lv_ishl hx hb d_Mo_choiceBehind_130 ?_
            rw [show (1 : Int32) <<< (nI k &&& 31) = nI (2 ^ k) from sh_1 k (by omega)]
            refine lv_goto (tgt := 135) hx hb d_Mo_choiceBehind_131 (by decide) ?_
            refine lv_iadd hx hb d_Mo_choiceBehind_135 ?_
            rw [show (nI acc) + (nI (2 ^ k)) = nI (acc + (2 ^ k)) from nI_add acc (2 ^ k)]
            refine lv_istore (lv' := [(6, .int (nI (acc + (2 ^ k)))), (9, .int 1), (8, .int 0), (0, .ref mo), (1, .int (nI a)), (2, .long t), (4, .long d), (7, .int (nI k))]) hx hb d_Mo_choiceBehind_136 hl (by decide) rfl (fun ls hl => ?_)
            refine lv_iinc (k := 7) (v := nI (k + 1)) (lv' := [(7, .int (nI (k + 1))), (6, .int (nI (acc + (2 ^ k)))), (9, .int 1), (8, .int 0), (0, .ref mo), (1, .int (nI a)), (2, .long t), (4, .long d)]) hx hb d_Mo_choiceBehind_138 hl rfl (nI_1 k) (by decide) rfl (fun ls hl => ?_)
            refine lv_goto (tgt := 6) hx hb d_Mo_choiceBehind_141 (by decide) ?_
            exact ih (acc + (2 ^ k)) ls H l9 (by omega) ⟨by rw [hi1]; exact pb_nx (by simp [v_bh, hc24, hc47, hc66, hc100]), (lv_sub hl [4, 5, 6, 7, 1, 0] rfl), hG⟩
        · skip
          rw [lg_cmp_eq] at hc66
          refine lv_aload_n hx hb d_Mo_choiceBehind_69 rfl (lv_at hl 1 rfl) ?_
          refine gh_get (ci := 5) hx hb htb in_Mo hown hK hG zmo rfl 6 (by decide) (htb _ k_2_229) (fun _ h9 => h9) rfl d_Mo_choiceBehind_70 ?_
          refine lv_iload hx hb d_Mo_choiceBehind_73 (lv_at hl 6 rfl) ?_
          refine gh_lald (v := vf k) hx hb hK hG 1 zva rfl (vp_in_nI (by omega) (by decide)) (by rw [nI_clamp (by omega)]) d_Mo_choiceBehind_75 ?_
          refine lv_lconst (v := 0) hx hb d_Mo_choiceBehind_76 (by decide) ?_
          refine W.lcmp hx hb d_Mo_choiceBehind_77 ?_
          refine lv_if_ge (tgt := 85) hx hb d_Mo_choiceBehind_78 (by decide) (fun hc78 => ?_) (fun hc78 => ?_)
          · skip
            rw [lg_cmp_ge] at hc78
            refine lv_iconst (v := 0) hx hb d_Mo_choiceBehind_85 (by decide) ?_
            refine lv_goto (tgt := 118) hx hb d_Mo_choiceBehind_86 (by decide) ?_
            refine lv_istore (lv' := [(9, .int 0), (8, .int 0), (0, .ref mo), (1, .int (nI a)), (2, .long t), (4, .long d), (6, .int (nI acc)), (7, .int (nI k))]) hx hb d_Mo_choiceBehind_118 hl (by decide) rfl (fun ls hl => ?_)
            refine lv_iload hx hb d_Mo_choiceBehind_120 (lv_at hl 6 rfl) ?_
            refine lv_iload hx hb d_Mo_choiceBehind_122 (lv_at hl 0 rfl) ?_
            refine lv_if_eq (tgt := 134) hx hb d_Mo_choiceBehind_124 (by decide) (fun hc124 => ?_) (fun hc124 => absurd hc124 (by decide))
            refine lv_iconst (v := 0) hx hb d_Mo_choiceBehind_134 (by decide) ?_
            refine lv_iadd hx hb d_Mo_choiceBehind_135 ?_
            rw [show (nI acc) + 0 = nI (acc + 0) from nI_add acc 0]
            refine lv_istore (lv' := [(6, .int (nI (acc + 0))), (9, .int 0), (8, .int 0), (0, .ref mo), (1, .int (nI a)), (2, .long t), (4, .long d), (7, .int (nI k))]) hx hb d_Mo_choiceBehind_136 hl (by decide) rfl (fun ls hl => ?_)
            refine lv_iinc (k := 7) (v := nI (k + 1)) (lv' := [(7, .int (nI (k + 1))), (6, .int (nI (acc + 0))), (9, .int 0), (8, .int 0), (0, .ref mo), (1, .int (nI a)), (2, .long t), (4, .long d)]) hx hb d_Mo_choiceBehind_138 hl rfl (nI_1 k) (by decide) rfl (fun ls hl => ?_)
            refine lv_goto (tgt := 6) hx hb d_Mo_choiceBehind_141 (by decide) ?_
            exact ih (acc + 0) ls H l9 (by omega) ⟨by rw [hi1]; exact pb_ny (by simp [v_bh, hc24, hc47, hc66, hc78]), (lv_sub hl [4, 5, 6, 7, 1, 0] rfl), hG⟩
          · skip
            rw [lg_cmp_ge] at hc78
            refine lv_iconst (v := 1) hx hb d_Mo_choiceBehind_81 (by decide) ?_
            refine lv_goto (tgt := 118) hx hb d_Mo_choiceBehind_82 (by decide) ?_
            refine lv_istore (lv' := [(9, .int 1), (8, .int 0), (0, .ref mo), (1, .int (nI a)), (2, .long t), (4, .long d), (6, .int (nI acc)), (7, .int (nI k))]) hx hb d_Mo_choiceBehind_118 hl (by decide) rfl (fun ls hl => ?_)
            refine lv_iload hx hb d_Mo_choiceBehind_120 (lv_at hl 6 rfl) ?_
            refine lv_iload hx hb d_Mo_choiceBehind_122 (lv_at hl 0 rfl) ?_
            refine lv_if_eq (tgt := 134) hx hb d_Mo_choiceBehind_124 (by decide) (fun hc124 => absurd hc124 (by decide)) (fun hc124 => ?_)
            refine lv_iconst (v := 1) hx hb d_Mo_choiceBehind_127 (by decide) ?_
            refine lv_iload hx hb d_Mo_choiceBehind_128 (lv_at hl 7 rfl) ?_
            refine lv_ishl hx hb d_Mo_choiceBehind_130 ?_
            rw [show (1 : Int32) <<< (nI k &&& 31) = nI (2 ^ k) from sh_1 k (by omega)]
            refine lv_goto (tgt := 135) hx hb d_Mo_choiceBehind_131 (by decide) ?_
            refine lv_iadd hx hb d_Mo_choiceBehind_135 ?_
            rw [show (nI acc) + (nI (2 ^ k)) = nI (acc + (2 ^ k)) from nI_add acc (2 ^ k)]
            refine lv_istore (lv' := [(6, .int (nI (acc + (2 ^ k)))), (9, .int 1), (8, .int 0), (0, .ref mo), (1, .int (nI a)), (2, .long t), (4, .long d), (7, .int (nI k))]) hx hb d_Mo_choiceBehind_136 hl (by decide) rfl (fun ls hl => ?_)
            refine lv_iinc (k := 7) (v := nI (k + 1)) (lv' := [(7, .int (nI (k + 1))), (6, .int (nI (acc + (2 ^ k)))), (9, .int 1), (8, .int 0), (0, .ref mo), (1, .int (nI a)), (2, .long t), (4, .long d)]) hx hb d_Mo_choiceBehind_138 hl rfl (nI_1 k) (by decide) rfl (fun ls hl => ?_)
            refine lv_goto (tgt := 6) hx hb d_Mo_choiceBehind_141 (by decide) ?_
            exact ih (acc + (2 ^ k)) ls H l9 (by omega) ⟨by rw [hi1]; exact pb_nx (by simp [v_bh, hc24, hc47, hc66, hc78]), (lv_sub hl [4, 5, 6, 7, 1, 0] rfl), hG⟩
      · skip
        refine lv_iconst (v := 1) hx hb d_Mo_choiceBehind_50 (by decide) ?_
        refine lv_goto (tgt := 55) hx hb d_Mo_choiceBehind_51 (by decide) ?_
        refine lv_istore (lv' := [(8, .int 1), (0, .ref mo), (1, .int (nI a)), (2, .long t), (4, .long d), (6, .int (nI acc)), (7, .int (nI k))]) hx hb d_Mo_choiceBehind_55 hl (by decide) rfl (fun ls hl => ?_)
        refine lv_aload_n hx hb d_Mo_choiceBehind_57 rfl (lv_at hl 1 rfl) ?_
        refine gh_get (ci := 5) hx hb htb in_Mo hown hK hG zmo rfl 8 (by decide) (htb _ k_2_231) (fun _ h9 => h9) rfl d_Mo_choiceBehind_58 ?_
        refine lv_iload hx hb d_Mo_choiceBehind_61 (lv_at hl 6 rfl) ?_
        refine gh_lald (v := df k) hx hb hK hG 1 zdn rfl (vp_in_nI (by omega) (by decide)) (by rw [nI_clamp (by omega)]) d_Mo_choiceBehind_63 ?_
        refine lv_lconst (v := 0) hx hb d_Mo_choiceBehind_64 (by decide) ?_
        refine W.lcmp hx hb d_Mo_choiceBehind_65 ?_
        refine lv_if_ne (tgt := 89) hx hb d_Mo_choiceBehind_66 (by decide) (fun hc66 => ?_) (fun hc66 => ?_)
        · skip
          rw [lg_cmp_eq] at hc66
          refine lv_aload_n hx hb d_Mo_choiceBehind_89 rfl (lv_at hl 1 rfl) ?_
          refine gh_get (ci := 5) hx hb htb in_Mo hown hK hG zmo rfl 2 (by decide) (htb _ k_2_225) (fun _ h9 => h9) rfl d_Mo_choiceBehind_90 ?_
          refine lv_iconst (v := 3) hx hb d_Mo_choiceBehind_93 (by decide) ?_
          refine lv_iload hx hb d_Mo_choiceBehind_94 (lv_at hl 6 rfl) ?_
          refine lv_imul hx hb d_Mo_choiceBehind_96 ?_
          rw [show 3 * (nI k) = nI (3 * k) from nm_mul 3 k]
          refine lv_iload_n hx hb d_Mo_choiceBehind_97 rfl (lv_at hl 2 rfl) ?_
          refine lv_iadd hx hb d_Mo_choiceBehind_98 ?_
          rw [show (nI (3 * k)) + (nI a) = nI ((3 * k) + a) from nI_add (3 * k) a]
          refine gh_iald (v := nf ((3 * k) + a)) hx hb hK hG 0 znm rfl (vp_in_nI (by omega) (by decide)) (by rw [nI_clamp (by omega)]) d_Mo_choiceBehind_99 ?_
          refine lv_if_le (tgt := 107) hx hb d_Mo_choiceBehind_100 (by decide) (fun hc100 => ?_) (fun hc100 => ?_)
          · skip
            refine lv_iconst (v := 0) hx hb d_Mo_choiceBehind_107 (by decide) ?_
            refine lv_iload hx hb d_Mo_choiceBehind_108 (lv_at hl 0 rfl) ?_
            refine lv_icmp_eq (tgt := 117) hx hb d_Mo_choiceBehind_110 (by decide) (fun hc110 => absurd hc110 (by decide)) (fun hc110 => ?_)
            refine lv_iconst (v := 1) hx hb d_Mo_choiceBehind_113 (by decide) ?_
            refine lv_goto (tgt := 118) hx hb d_Mo_choiceBehind_114 (by decide) ?_
            refine lv_istore (lv' := [(9, .int 1), (8, .int 1), (0, .ref mo), (1, .int (nI a)), (2, .long t), (4, .long d), (6, .int (nI acc)), (7, .int (nI k))]) hx hb d_Mo_choiceBehind_118 hl (by decide) rfl (fun ls hl => ?_)
            refine lv_iload hx hb d_Mo_choiceBehind_120 (lv_at hl 6 rfl) ?_
            refine lv_iload hx hb d_Mo_choiceBehind_122 (lv_at hl 0 rfl) ?_
            refine lv_if_eq (tgt := 134) hx hb d_Mo_choiceBehind_124 (by decide) (fun hc124 => absurd hc124 (by decide)) (fun hc124 => ?_)
            refine lv_iconst (v := 1) hx hb d_Mo_choiceBehind_127 (by decide) ?_
            refine lv_iload hx hb d_Mo_choiceBehind_128 (lv_at hl 7 rfl) ?_
            refine lv_ishl hx hb d_Mo_choiceBehind_130 ?_
            rw [show (1 : Int32) <<< (nI k &&& 31) = nI (2 ^ k) from sh_1 k (by omega)]
            refine lv_goto (tgt := 135) hx hb d_Mo_choiceBehind_131 (by decide) ?_
            refine lv_iadd hx hb d_Mo_choiceBehind_135 ?_
            rw [show (nI acc) + (nI (2 ^ k)) = nI (acc + (2 ^ k)) from nI_add acc (2 ^ k)]
            refine lv_istore (lv' := [(6, .int (nI (acc + (2 ^ k)))), (9, .int 1), (8, .int 1), (0, .ref mo), (1, .int (nI a)), (2, .long t), (4, .long d), (7, .int (nI k))]) hx hb d_Mo_choiceBehind_136 hl (by decide) rfl (fun ls hl => ?_)
            refine lv_iinc (k := 7) (v := nI (k + 1)) (lv' := [(7, .int (nI (k + 1))), (6, .int (nI (acc + (2 ^ k)))), (9, .int 1), (8, .int 1), (0, .ref mo), (1, .int (nI a)), (2, .long t), (4, .long d)]) hx hb d_Mo_choiceBehind_138 hl rfl (nI_1 k) (by decide) rfl (fun ls hl => ?_)
            refine lv_goto (tgt := 6) hx hb d_Mo_choiceBehind_141 (by decide) ?_
            exact ih (acc + (2 ^ k)) ls H l9 (by omega) ⟨by rw [hi1]; exact pb_nx (by simp [v_bh, hc24, hc47, hc66, hc100]), (lv_sub hl [4, 5, 6, 7, 1, 0] rfl), hG⟩
          · skip
            refine lv_iconst (v := 1) hx hb d_Mo_choiceBehind_103 (by decide) ?_
            refine lv_goto (tgt := 108) hx hb d_Mo_choiceBehind_104 (by decide) ?_
            refine lv_iload hx hb d_Mo_choiceBehind_108 (lv_at hl 0 rfl) ?_
            refine lv_icmp_eq (tgt := 117) hx hb d_Mo_choiceBehind_110 (by decide) (fun hc110 => ?_) (fun hc110 => absurd hc110 (by decide))
            refine lv_iconst (v := 0) hx hb d_Mo_choiceBehind_117 (by decide) ?_
            refine lv_istore (lv' := [(9, .int 0), (8, .int 1), (0, .ref mo), (1, .int (nI a)), (2, .long t), (4, .long d), (6, .int (nI acc)), (7, .int (nI k))]) hx hb d_Mo_choiceBehind_118 hl (by decide) rfl (fun ls hl => ?_)
            refine lv_iload hx hb d_Mo_choiceBehind_120 (lv_at hl 6 rfl) ?_
            refine lv_iload hx hb d_Mo_choiceBehind_122 (lv_at hl 0 rfl) ?_
            refine lv_if_eq (tgt := 134) hx hb d_Mo_choiceBehind_124 (by decide) (fun hc124 => ?_) (fun hc124 => absurd hc124 (by decide))
            refine lv_iconst (v := 0) hx hb d_Mo_choiceBehind_134 (by decide) ?_
            refine lv_iadd hx hb d_Mo_choiceBehind_135 ?_
            rw [show (nI acc) + 0 = nI (acc + 0) from nI_add acc 0]
            refine lv_istore (lv' := [(6, .int (nI (acc + 0))), (9, .int 0), (8, .int 1), (0, .ref mo), (1, .int (nI a)), (2, .long t), (4, .long d), (7, .int (nI k))]) hx hb d_Mo_choiceBehind_136 hl (by decide) rfl (fun ls hl => ?_)
            refine lv_iinc (k := 7) (v := nI (k + 1)) (lv' := [(7, .int (nI (k + 1))), (6, .int (nI (acc + 0))), (9, .int 0), (8, .int 1), (0, .ref mo), (1, .int (nI a)), (2, .long t), (4, .long d)]) hx hb d_Mo_choiceBehind_138 hl rfl (nI_1 k) (by decide) rfl (fun ls hl => ?_)
            refine lv_goto (tgt := 6) hx hb d_Mo_choiceBehind_141 (by decide) ?_
            exact ih (acc + 0) ls H l9 (by omega) ⟨by rw [hi1]; exact pb_ny (by simp [v_bh, hc24, hc47, hc66, hc100]), (lv_sub hl [4, 5, 6, 7, 1, 0] rfl), hG⟩
        · skip
          rw [lg_cmp_eq] at hc66
          refine lv_aload_n hx hb d_Mo_choiceBehind_69 rfl (lv_at hl 1 rfl) ?_
          refine gh_get (ci := 5) hx hb htb in_Mo hown hK hG zmo rfl 6 (by decide) (htb _ k_2_229) (fun _ h9 => h9) rfl d_Mo_choiceBehind_70 ?_
          refine lv_iload hx hb d_Mo_choiceBehind_73 (lv_at hl 6 rfl) ?_
          refine gh_lald (v := vf k) hx hb hK hG 1 zva rfl (vp_in_nI (by omega) (by decide)) (by rw [nI_clamp (by omega)]) d_Mo_choiceBehind_75 ?_
          refine lv_lconst (v := 0) hx hb d_Mo_choiceBehind_76 (by decide) ?_
          refine W.lcmp hx hb d_Mo_choiceBehind_77 ?_
          refine lv_if_ge (tgt := 85) hx hb d_Mo_choiceBehind_78 (by decide) (fun hc78 => ?_) (fun hc78 => ?_)
          · skip
            rw [lg_cmp_ge] at hc78
            refine lv_iconst (v := 0) hx hb d_Mo_choiceBehind_85 (by decide) ?_
            refine lv_goto (tgt := 118) hx hb d_Mo_choiceBehind_86 (by decide) ?_
            refine lv_istore (lv' := [(9, .int 0), (8, .int 1), (0, .ref mo), (1, .int (nI a)), (2, .long t), (4, .long d), (6, .int (nI acc)), (7, .int (nI k))]) hx hb d_Mo_choiceBehind_118 hl (by decide) rfl (fun ls hl => ?_)
            refine lv_iload hx hb d_Mo_choiceBehind_120 (lv_at hl 6 rfl) ?_
            refine lv_iload hx hb d_Mo_choiceBehind_122 (lv_at hl 0 rfl) ?_
            refine lv_if_eq (tgt := 134) hx hb d_Mo_choiceBehind_124 (by decide) (fun hc124 => ?_) (fun hc124 => absurd hc124 (by decide))
            refine lv_iconst (v := 0) hx hb d_Mo_choiceBehind_134 (by decide) ?_
            refine lv_iadd hx hb d_Mo_choiceBehind_135 ?_
            rw [show (nI acc) + 0 = nI (acc + 0) from nI_add acc 0]
            refine lv_istore (lv' := [(6, .int (nI (acc + 0))), (9, .int 0), (8, .int 1), (0, .ref mo), (1, .int (nI a)), (2, .long t), (4, .long d), (7, .int (nI k))]) hx hb d_Mo_choiceBehind_136 hl (by decide) rfl (fun ls hl => ?_)
            refine lv_iinc (k := 7) (v := nI (k + 1)) (lv' := [(7, .int (nI (k + 1))), (6, .int (nI (acc + 0))), (9, .int 0), (8, .int 1), (0, .ref mo), (1, .int (nI a)), (2, .long t), (4, .long d)]) hx hb d_Mo_choiceBehind_138 hl rfl (nI_1 k) (by decide) rfl (fun ls hl => ?_)
            refine lv_goto (tgt := 6) hx hb d_Mo_choiceBehind_141 (by decide) ?_
            exact ih (acc + 0) ls H l9 (by omega) ⟨by rw [hi1]; exact pb_ny (by simp [v_bh, hc24, hc47, hc66, hc78]), (lv_sub hl [4, 5, 6, 7, 1, 0] rfl), hG⟩
          · skip
            rw [lg_cmp_ge] at hc78
            refine lv_iconst (v := 1) hx hb d_Mo_choiceBehind_81 (by decide) ?_
            refine lv_goto (tgt := 118) hx hb d_Mo_choiceBehind_82 (by decide) ?_
            refine lv_istore (lv' := [(9, .int 1), (8, .int 1), (0, .ref mo), (1, .int (nI a)), (2, .long t), (4, .long d), (6, .int (nI acc)), (7, .int (nI k))]) hx hb d_Mo_choiceBehind_118 hl (by decide) rfl (fun ls hl => ?_)
            refine lv_iload hx hb d_Mo_choiceBehind_120 (lv_at hl 6 rfl) ?_
            refine lv_iload hx hb d_Mo_choiceBehind_122 (lv_at hl 0 rfl) ?_
            refine lv_if_eq (tgt := 134) hx hb d_Mo_choiceBehind_124 (by decide) (fun hc124 => absurd hc124 (by decide)) (fun hc124 => ?_)
            refine lv_iconst (v := 1) hx hb d_Mo_choiceBehind_127 (by decide) ?_
            refine lv_iload hx hb d_Mo_choiceBehind_128 (lv_at hl 7 rfl) ?_
            refine lv_ishl hx hb d_Mo_choiceBehind_130 ?_
            rw [show (1 : Int32) <<< (nI k &&& 31) = nI (2 ^ k) from sh_1 k (by omega)]
            refine lv_goto (tgt := 135) hx hb d_Mo_choiceBehind_131 (by decide) ?_
            refine lv_iadd hx hb d_Mo_choiceBehind_135 ?_
            rw [show (nI acc) + (nI (2 ^ k)) = nI (acc + (2 ^ k)) from nI_add acc (2 ^ k)]
            refine lv_istore (lv' := [(6, .int (nI (acc + (2 ^ k)))), (9, .int 1), (8, .int 1), (0, .ref mo), (1, .int (nI a)), (2, .long t), (4, .long d), (7, .int (nI k))]) hx hb d_Mo_choiceBehind_136 hl (by decide) rfl (fun ls hl => ?_)
            refine lv_iinc (k := 7) (v := nI (k + 1)) (lv' := [(7, .int (nI (k + 1))), (6, .int (nI (acc + (2 ^ k)))), (9, .int 1), (8, .int 1), (0, .ref mo), (1, .int (nI a)), (2, .long t), (4, .long d)]) hx hb d_Mo_choiceBehind_138 hl rfl (nI_1 k) (by decide) rfl (fun ls hl => ?_)
            refine lv_goto (tgt := 6) hx hb d_Mo_choiceBehind_141 (by decide) ?_
            exact ih (acc + (2 ^ k)) ls H l9 (by omega) ⟨by rw [hi1]; exact pb_nx (by simp [v_bh, hc24, hc47, hc66, hc78]), (lv_sub hl [4, 5, 6, 7, 1, 0] rfl), hG⟩

end
