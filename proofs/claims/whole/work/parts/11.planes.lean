section
variable {l : Launch} {D : va_G} {cI cJ cP cS : ClassId} {b0 : Nat} {h : gh_M}

set_option maxHeartbeats 4000000 in
set_option maxRecDepth 100000 in
/-- isCellInBox -/
theorem c_Ps_isCellInBox {ce : Int32} : gh_C l D vC (tZ cI cJ cP cS) (xF b0) b0 y_Ps_isCellInBox w_Ps_isCellInBox ({ frames := 0, cells := 0, slots := 0, locals := 0 }) [.int ce] h (rI (m_b (decide (ce &&& 63 = 63))) h) := by
  refine gh_ofW (by decide) (Nat.le_of_ble_eq_true rfl) ?_
  intro p e s m below meth c ls hctx hno hl hG hK hX
  obtain ⟨hx, hb, hr, hml, hown, hlk, hts, hnm⟩ := hctx
  have htb : ∀ w ∈ tB, w.before _ s = true := fun w hw => hts w (List.mem_cons_of_mem _ hw)
  replace hl : lv_has ls 1 [(0, .int ce)] := hl
  refine lv_iload_n hx hb d_Ps_isCellInBox_0 rfl (lv_at hl 0 rfl) ?_
  refine lv_bipush (v := 63) hx hb d_Ps_isCellInBox_1 (by decide) ?_
  refine lv_iand hx hb d_Ps_isCellInBox_3 ?_
  refine lv_bipush (v := 63) hx hb d_Ps_isCellInBox_4 (by decide) ?_
  refine lv_icmp_ne (tgt := 13) hx hb d_Ps_isCellInBox_6 (by decide) (fun hc6 => ?_) (fun hc6 => ?_)
  · skip
    refine lv_iconst (v := 0) hx hb d_Ps_isCellInBox_13 (by decide) ?_
    exact gh_iret hx hb hr hlk rfl hG d_Ps_isCellInBox_14 ⟨by simp_all [m_b], rfl⟩
  · skip
    refine lv_iconst (v := 1) hx hb d_Ps_isCellInBox_9 (by decide) ?_
    refine lv_goto (tgt := 14) hx hb d_Ps_isCellInBox_10 (by decide) ?_
    exact gh_iret hx hb hr hlk rfl hG d_Ps_isCellInBox_14 ⟨by simp_all [m_b], rfl⟩

set_option maxHeartbeats 4000000 in
set_option maxRecDepth 100000 in
/-- givenOfCell -/
theorem c_Ps_givenOfCell {ce : Int32} : gh_C l D vC (tZ cI cJ cP cS) (xF b0) b0 y_Ps_givenOfCell w_Ps_givenOfCell ({ frames := 0, cells := 0, slots := 0, locals := 0 }) [.int ce] h (rI (ce >>> ((6 : Int32) &&& 31)) h) := by
  refine gh_ofW (by decide) (Nat.le_of_ble_eq_true rfl) ?_
  intro p e s m below meth c ls hctx hno hl hG hK hX
  obtain ⟨hx, hb, hr, hml, hown, hlk, hts, hnm⟩ := hctx
  have htb : ∀ w ∈ tB, w.before _ s = true := fun w hw => hts w (List.mem_cons_of_mem _ hw)
  replace hl : lv_has ls 1 [(0, .int ce)] := hl
  refine lv_iload_n hx hb d_Ps_givenOfCell_0 rfl (lv_at hl 0 rfl) ?_
  refine lv_bipush (v := 6) hx hb d_Ps_givenOfCell_1 (by decide) ?_
  refine lv_ishr hx hb d_Ps_givenOfCell_3 ?_
  exact gh_iret hx hb hr hlk rfl hG d_Ps_givenOfCell_4 ⟨rfl, rfl⟩

set_option maxHeartbeats 4000000 in
set_option maxRecDepth 100000 in
/-- count -/
theorem c_Ps_count {sp al fi : Nat} {n : Nat} {ga : Nat → Option Nat} {gf : Nat → Int32} {pl fs : Nat → Nat} {pa pb pc pd : Nat → Int64} (hsp : h sp = some (.inr (2, [.ref al, .ref fi, .int (nI n)]))) (hal : h al = some (.inl (cP, 14, .inr (.inr (.inr (.inr ga)))))) (hfi : h fi = some (.inl (cI, 14, .inl gf))) (hga : ∀ i, i < n → ga i = some (pl i)) (hgf : ∀ i, i < n → gf i = nI (fs i)) (hfs : ∀ i, fs i < 14) (hpl : ∀ i, i < n → h (pl i) = some (.inr (1, [.long (pa i), .long (pb i), .long (pc i), .long (pd i)]))) (hn : n ≤ 14) : gh_C l D vC (tZ cI cJ cP cS) (xF b0) b0 y_Ps_count w_Ps_count ({ frames := 0, cells := 0, slots := 0, locals := 0 }) [.ref sp] h (rI (nI n) h) := by
  refine gh_ofW (by decide) (Nat.le_of_ble_eq_true rfl) ?_
  intro p e s m below meth c ls hctx hno hl hG hK hX
  obtain ⟨hx, hb, hr, hml, hown, hlk, hts, hnm⟩ := hctx
  have htb : ∀ w ∈ tB, w.before _ s = true := fun w hw => hts w (List.mem_cons_of_mem _ hw)
  replace hl : lv_has ls 1 [(0, .ref sp)] := hl
  refine lv_aload_n hx hb d_Ps_count_0 rfl (lv_at hl 0 rfl) ?_
  refine gh_get (ci := 2) hx hb htb in_Ps hown hK hG hsp rfl 2 (by decide) (htb _ k_1_66) (fun _ h9 => h9) rfl d_Ps_count_1 ?_
  exact gh_iret hx hb hr hlk rfl hG d_Ps_count_4 ⟨rfl, rfl⟩

set_option maxHeartbeats 4000000 in
set_option maxRecDepth 100000 in
/-- given -/
theorem c_Ps_given {sp al fi : Nat} {n : Nat} {ga : Nat → Option Nat} {gf : Nat → Int32} {pl fs : Nat → Nat} {pa pb pc pd : Nat → Int64} (hsp : h sp = some (.inr (2, [.ref al, .ref fi, .int (nI n)]))) (hal : h al = some (.inl (cP, 14, .inr (.inr (.inr (.inr ga)))))) (hfi : h fi = some (.inl (cI, 14, .inl gf))) (hga : ∀ i, i < n → ga i = some (pl i)) (hgf : ∀ i, i < n → gf i = nI (fs i)) (hfs : ∀ i, fs i < 14) (hpl : ∀ i, i < n → h (pl i) = some (.inr (1, [.long (pa i), .long (pb i), .long (pc i), .long (pd i)]))) (hn : n ≤ 14) (h6 : 6 ≤ n) : gh_C l D vC (tZ cI cJ cP cS) (xF b0) b0 y_Ps_given w_Ps_given ({ frames := 0, cells := 0, slots := 0, locals := 0 }) [.ref sp] h (rI (nI (n - 6)) h) := by
  refine gh_ofW (by decide) (Nat.le_of_ble_eq_true rfl) ?_
  intro p e s m below meth c ls hctx hno hl hG hK hX
  obtain ⟨hx, hb, hr, hml, hown, hlk, hts, hnm⟩ := hctx
  have htb : ∀ w ∈ tB, w.before _ s = true := fun w hw => hts w (List.mem_cons_of_mem _ hw)
  replace hl : lv_has ls 1 [(0, .ref sp)] := hl
  refine lv_aload_n hx hb d_Ps_given_0 rfl (lv_at hl 0 rfl) ?_
  refine gh_get (ci := 2) hx hb htb in_Ps hown hK hG hsp rfl 2 (by decide) (htb _ k_1_66) (fun _ h9 => h9) rfl d_Ps_given_1 ?_
  refine lv_bipush (v := 6) hx hb d_Ps_given_4 (by decide) ?_
  refine lv_isub hx hb d_Ps_given_6 ?_
  exact gh_iret hx hb hr hlk rfl hG d_Ps_given_7 ⟨by rw [show (6 : Int32) = nI 6 from rfl, pk_sub h6], rfl⟩

set_option maxHeartbeats 4000000 in
set_option maxRecDepth 100000 in
/-- get -/
theorem c_Ps_get {sp al fi : Nat} {n : Nat} {ga : Nat → Option Nat} {gf : Nat → Int32} {pl fs : Nat → Nat} {pa pb pc pd : Nat → Int64} (hsp : h sp = some (.inr (2, [.ref al, .ref fi, .int (nI n)]))) (hal : h al = some (.inl (cP, 14, .inr (.inr (.inr (.inr ga)))))) (hfi : h fi = some (.inl (cI, 14, .inl gf))) (hga : ∀ i, i < n → ga i = some (pl i)) (hgf : ∀ i, i < n → gf i = nI (fs i)) (hfs : ∀ i, fs i < 14) (hpl : ∀ i, i < n → h (pl i) = some (.inr (1, [.long (pa i), .long (pb i), .long (pc i), .long (pd i)]))) (hn : n ≤ 14) {i : Nat} (hi : i < n) : gh_C l D vC (tZ cI cJ cP cS) (xF b0) b0 y_Ps_get w_Ps_get ({ frames := 0, cells := 0, slots := 0, locals := 0 }) [.ref sp, .int (nI i)] h (rA (pl i) h) := by
  refine gh_ofW (by decide) (Nat.le_of_ble_eq_true rfl) ?_
  intro p e s m below meth c ls hctx hno hl hG hK hX
  obtain ⟨hx, hb, hr, hml, hown, hlk, hts, hnm⟩ := hctx
  have htb : ∀ w ∈ tB, w.before _ s = true := fun w hw => hts w (List.mem_cons_of_mem _ hw)
  replace hl : lv_has ls 2 [(0, .ref sp), (1, .int (nI i))] := hl
  refine lv_aload_n hx hb d_Ps_get_0 rfl (lv_at hl 0 rfl) ?_
  refine gh_get (ci := 2) hx hb htb in_Ps hown hK hG hsp rfl 0 (by decide) (htb _ k_1_64) (fun _ h9 => h9) rfl d_Ps_get_1 ?_
  refine lv_iload_n hx hb d_Ps_get_4 rfl (lv_at hl 1 rfl) ?_
  refine gh_aald (v := pl i) hx hb hK hG 2 hal rfl (vp_in_nI (by omega) (by decide)) (by rw [nI_clamp (by omega)]; exact hga _ (by omega)) d_Ps_get_5 ?_
  exact gh_aret hx hb hr hlk (Or.inl ⟨_, rfl⟩) hG d_Ps_get_6 ⟨rfl, rfl⟩

set_option maxHeartbeats 4000000 in
set_option maxRecDepth 100000 in
/-- isFirst -/
theorem c_Ps_isFirst {sp al fi : Nat} {n : Nat} {ga : Nat → Option Nat} {gf : Nat → Int32} {pl fs : Nat → Nat} {pa pb pc pd : Nat → Int64} (hsp : h sp = some (.inr (2, [.ref al, .ref fi, .int (nI n)]))) (hal : h al = some (.inl (cP, 14, .inr (.inr (.inr (.inr ga)))))) (hfi : h fi = some (.inl (cI, 14, .inl gf))) (hga : ∀ i, i < n → ga i = some (pl i)) (hgf : ∀ i, i < n → gf i = nI (fs i)) (hfs : ∀ i, fs i < 14) (hpl : ∀ i, i < n → h (pl i) = some (.inr (1, [.long (pa i), .long (pb i), .long (pc i), .long (pd i)]))) (hn : n ≤ 14) {i : Nat} (hi : i < n) : gh_C l D vC (tZ cI cJ cP cS) (xF b0) b0 y_Ps_isFirst w_Ps_isFirst ({ frames := 0, cells := 0, slots := 0, locals := 0 }) [.ref sp, .int (nI i)] h (rI (m_b (decide (fs i = i))) h) := by
  refine gh_ofW (by decide) (Nat.le_of_ble_eq_true rfl) ?_
  intro p e s m below meth c ls hctx hno hl hG hK hX
  obtain ⟨hx, hb, hr, hml, hown, hlk, hts, hnm⟩ := hctx
  have htb : ∀ w ∈ tB, w.before _ s = true := fun w hw => hts w (List.mem_cons_of_mem _ hw)
  replace hl : lv_has ls 2 [(0, .ref sp), (1, .int (nI i))] := hl
  refine lv_aload_n hx hb d_Ps_isFirst_0 rfl (lv_at hl 0 rfl) ?_
  refine gh_get (ci := 2) hx hb htb in_Ps hown hK hG hsp rfl 1 (by decide) (htb _ k_1_65) (fun _ h9 => h9) rfl d_Ps_isFirst_1 ?_
  refine lv_iload_n hx hb d_Ps_isFirst_4 rfl (lv_at hl 1 rfl) ?_
  have hfb1 := hfs i
  refine gh_iald (v := nI (fs i)) hx hb hK hG 0 hfi rfl (vp_in_nI (by omega) (by decide)) (by rw [nI_clamp (by omega)]; exact hgf _ (by omega)) d_Ps_isFirst_5 ?_
  refine lv_iload_n hx hb d_Ps_isFirst_6 rfl (lv_at hl 1 rfl) ?_
  refine lv_icmp_ne (tgt := 14) hx hb d_Ps_isFirst_7 (by decide) (fun hc7 => ?_) (fun hc7 => ?_)
  · skip
    replace hc7 : ¬ (fs i) = i := fun q9 => hc7 ((nc_eq (a := (fs i)) (b := i) (by omega) (by omega) rfl rfl).mpr q9)
    refine lv_iconst (v := 0) hx hb d_Ps_isFirst_14 (by decide) ?_
    exact gh_iret hx hb hr hlk rfl hG d_Ps_isFirst_15 ⟨by simp_all [m_b], rfl⟩
  · skip
    replace hc7 : (fs i) = i := (nc_eq (a := (fs i)) (b := i) (by omega) (by omega) rfl rfl).mp hc7
    refine lv_iconst (v := 1) hx hb d_Ps_isFirst_10 (by decide) ?_
    refine lv_goto (tgt := 15) hx hb d_Ps_isFirst_11 (by decide) ?_
    exact gh_iret hx hb hr hlk rfl hG d_Ps_isFirst_15 ⟨by simp_all [m_b], rfl⟩

set_option maxHeartbeats 4000000 in
set_option maxRecDepth 100000 in
/-- isInBox -/
theorem c_Ps_isInBox {sp al fi : Nat} {n : Nat} {ga : Nat → Option Nat} {gf : Nat → Int32} {pl fs : Nat → Nat} {pa pb pc pd : Nat → Int64} (hsp : h sp = some (.inr (2, [.ref al, .ref fi, .int (nI n)]))) (hal : h al = some (.inl (cP, 14, .inr (.inr (.inr (.inr ga)))))) (hfi : h fi = some (.inl (cI, 14, .inl gf))) (hga : ∀ i, i < n → ga i = some (pl i)) (hgf : ∀ i, i < n → gf i = nI (fs i)) (hfs : ∀ i, fs i < 14) (hpl : ∀ i, i < n → h (pl i) = some (.inr (1, [.long (pa i), .long (pb i), .long (pc i), .long (pd i)]))) (hn : n ≤ 14) {q : Nat} {x y z w : Int64} (hp : h q = some (.inr (3, [.long x, .long y, .long z, .long w]))) (h6 : 6 ≤ n) : gh_C l D vC (tZ cI cJ cP cS) (xF b0) b0 y_Ps_isInBox w_Ps_isInBox ({ frames := 1, cells := 0, slots := 0, locals := 21 }) [.ref sp, .ref q] h (rI (m_b (m_all (fun i => decide (m_exc (pa i) (pb i) (pc i) (pd i) x y z w ≤ 0)) 6)) h) := by
  refine gh_ofW (by decide) (Nat.le_of_ble_eq_true rfl) ?_
  intro p e s m below meth c ls hctx hno hl hG hK hX
  obtain ⟨hx, hb, hr, hml, hown, hlk, hts, hnm⟩ := hctx
  have htb : ∀ w ∈ tB, w.before _ s = true := fun w hw => hts w (List.mem_cons_of_mem _ hw)
  replace hl : lv_has ls 3 [(0, .ref sp), (1, .ref q)] := hl
  refine lv_iconst (v := 0) hx hb d_Ps_isInBox_0 (by decide) ?_
  refine lv_istore_n (lv' := [(2, .int 0), (0, .ref sp), (1, .ref q)]) hx hb d_Ps_isInBox_1 rfl hl (by decide) rfl (fun ls hl => ?_)
  refine gh_gen hG (fun H l9 hG => ?_)
  refine lp_upH (α := Unit) (G := fun ls H l9 => W p l e _ s m _ below meth c H l9 _ _ _ (F0 m 2 ls [])) 6 (fun k _u ls H l9 => (∀ i, i < k → decide (m_exc (pa i) (pb i) (pc i) (pd i) x y z w ≤ 0) = true) ∧ lv_has ls 3 [(0, .ref sp), (1, .ref q), (2, .int (nI k))] ∧ gh_P D vC b0 h s.heap H l9) ?_ 0 () ls H l9 (Nat.zero_le _) ⟨(fun i hi => absurd hi (Nat.not_lt_zero i)), (lv_sub hl [1, 2, 0] rfl), hG⟩
  intro k _u ls H l9 hk hI ih
  obtain ⟨hi1, hl, hG⟩ := hI
  refine lv_iload_n hx hb d_Ps_isInBox_2 rfl (lv_at hl 2 rfl) ?_
  refine lv_bipush (v := 6) hx hb d_Ps_isInBox_3 (by decide) ?_
  refine lv_icmp_ge (tgt := 31) hx hb d_Ps_isInBox_5 (by decide) (fun hc5 => ?_) (fun hc5 => ?_)
  · skip
    replace hc5 : 6 ≤ k := (nc_le (a := 6) (b := k) (by omega) (by omega) rfl rfl).mp hc5
    refine lv_iconst (v := 1) hx hb d_Ps_isInBox_31 (by decide) ?_
    exact gh_iret hx hb hr hlk rfl hG d_Ps_isInBox_32 ⟨by rw [m_all_t (fun i hi => hi1 i (by omega))]; rfl, rfl⟩
  · skip
    replace hc5 : ¬ 6 ≤ k := fun q9 => hc5 ((nc_le (a := 6) (b := k) (by omega) (by omega) rfl rfl).mpr q9)
    refine lv_aload_n hx hb d_Ps_isInBox_8 rfl (lv_at hl 0 rfl) ?_
    refine gh_get (ci := 2) hx hb htb in_Ps hown hK hG hsp rfl 0 (by decide) (htb _ k_1_64) (fun _ h9 => h9) rfl d_Ps_isInBox_9 ?_
    refine lv_iload_n hx hb d_Ps_isInBox_12 rfl (lv_at hl 2 rfl) ?_
    refine gh_aald (v := pl k) hx hb hK hG 2 hal rfl (vp_in_nI (by omega) (by decide)) (by rw [nI_clamp (by omega)]; exact hga _ (by omega)) d_Ps_isInBox_13 ?_
    refine lv_aload_n hx hb d_Ps_isInBox_14 rfl (lv_at hl 1 rfl) ?_
    refine gh_cV (ci := 1) (As := [.ref q]) (rest := []) (xF_ok b0) hx hb hml hown hK hX hG rfl (hpl k (by omega)) (c_Pl_excess (hpl k (by omega)) hp) (q_Pl_excess htb ⟨by decide, by decide⟩) (htb _ k_2_103) (htb _ k_2_104) (htb _ k_2_105) rfl hl.1 rfl (Nat.le_of_ble_eq_true rfl) d_Ps_isInBox_15 ⟨by decide, by decide⟩ (fun v9 h9 H l9 hp9 hG => ?_) (fun _ _ _ _ hp9 _ => by cases hp9.1)
    obtain ⟨hv9, hh9⟩ := hp9
    cases hv9
    rw [hh9] at hG
    refine W.eq (g2 := F0 m 18 ls [.long (m_exc (pa k) (pb k) (pc k) (pd k) x y z w)]) rfl ?_
    refine W.widen (k := 0) (n := 0) (by decide) (by decide) ?_
    refine lv_lconst (v := 0) hx hb d_Ps_isInBox_18 (by decide) ?_
    refine W.lcmp hx hb d_Ps_isInBox_19 ?_
    refine lv_if_le (tgt := 25) hx hb d_Ps_isInBox_20 (by decide) (fun hc20 => ?_) (fun hc20 => ?_)
    · skip
      rw [lg_cmp_le] at hc20
      refine lv_iinc (k := 2) (v := nI (k + 1)) (lv' := [(2, .int (nI (k + 1))), (0, .ref sp), (1, .ref q)]) hx hb d_Ps_isInBox_25 hl rfl (nI_1 k) (by decide) rfl (fun ls hl => ?_)
      refine lv_goto (tgt := 2) hx hb d_Ps_isInBox_28 (by decide) ?_
      exact ih () ls H l9 (by omega) ⟨lt_s hi1 (decide_eq_true hc20), (lv_sub hl [1, 2, 0] rfl), hG⟩
    · skip
      rw [lg_cmp_le] at hc20
      refine lv_iconst (v := 0) hx hb d_Ps_isInBox_23 (by decide) ?_
      exact gh_iret hx hb hr hlk rfl hG d_Ps_isInBox_24 ⟨by rw [m_all_f (k := k) (by omega) (decide_eq_false hc20)]; rfl, rfl⟩

set_option maxHeartbeats 4000000 in
set_option maxRecDepth 100000 in
/-- isOnAny -/
theorem c_Ps_isOnAny {sp al fi : Nat} {n : Nat} {ga : Nat → Option Nat} {gf : Nat → Int32} {pl fs : Nat → Nat} {pa pb pc pd : Nat → Int64} (hsp : h sp = some (.inr (2, [.ref al, .ref fi, .int (nI n)]))) (hal : h al = some (.inl (cP, 14, .inr (.inr (.inr (.inr ga)))))) (hfi : h fi = some (.inl (cI, 14, .inl gf))) (hga : ∀ i, i < n → ga i = some (pl i)) (hgf : ∀ i, i < n → gf i = nI (fs i)) (hfs : ∀ i, fs i < 14) (hpl : ∀ i, i < n → h (pl i) = some (.inr (1, [.long (pa i), .long (pb i), .long (pc i), .long (pd i)]))) (hn : n ≤ 14) {q : Nat} {x y z w : Int64} (hp : h q = some (.inr (3, [.long x, .long y, .long z, .long w]))) : gh_C l D vC (tZ cI cJ cP cS) (xF b0) b0 y_Ps_isOnAny w_Ps_isOnAny ({ frames := 1, cells := 0, slots := 0, locals := 21 }) [.ref sp, .ref q] h (rI (m_b (m_any (fun i => decide (m_exc (pa i) (pb i) (pc i) (pd i) x y z w = 0)) n)) h) := by
  refine gh_ofW (by decide) (Nat.le_of_ble_eq_true rfl) ?_
  intro p e s m below meth c ls hctx hno hl hG hK hX
  obtain ⟨hx, hb, hr, hml, hown, hlk, hts, hnm⟩ := hctx
  have htb : ∀ w ∈ tB, w.before _ s = true := fun w hw => hts w (List.mem_cons_of_mem _ hw)
  replace hl : lv_has ls 3 [(0, .ref sp), (1, .ref q)] := hl
  refine lv_iconst (v := 0) hx hb d_Ps_isOnAny_0 (by decide) ?_
  refine lv_istore_n (lv' := [(2, .int 0), (0, .ref sp), (1, .ref q)]) hx hb d_Ps_isOnAny_1 rfl hl (by decide) rfl (fun ls hl => ?_)
  refine gh_gen hG (fun H l9 hG => ?_)
  refine lp_upH (α := Unit) (G := fun ls H l9 => W p l e _ s m _ below meth c H l9 _ _ _ (F0 m 2 ls [])) n (fun k _u ls H l9 => (∀ i, i < k → decide (m_exc (pa i) (pb i) (pc i) (pd i) x y z w = 0) = false) ∧ lv_has ls 3 [(0, .ref sp), (1, .ref q), (2, .int (nI k))] ∧ gh_P D vC b0 h s.heap H l9) ?_ 0 () ls H l9 (Nat.zero_le _) ⟨(fun i hi => absurd hi (Nat.not_lt_zero i)), (lv_sub hl [1, 2, 0] rfl), hG⟩
  intro k _u ls H l9 hk hI ih
  obtain ⟨hi1, hl, hG⟩ := hI
  refine lv_iload_n hx hb d_Ps_isOnAny_2 rfl (lv_at hl 2 rfl) ?_
  refine lv_aload_n hx hb d_Ps_isOnAny_3 rfl (lv_at hl 0 rfl) ?_
  refine gh_get (ci := 2) hx hb htb in_Ps hown hK hG hsp rfl 2 (by decide) (htb _ k_1_66) (fun _ h9 => h9) rfl d_Ps_isOnAny_4 ?_
  refine lv_icmp_ge (tgt := 33) hx hb d_Ps_isOnAny_7 (by decide) (fun hc7 => ?_) (fun hc7 => ?_)
  · skip
    replace hc7 : n ≤ k := (nc_le (a := n) (b := k) (by omega) (by omega) rfl rfl).mp hc7
    refine lv_iconst (v := 0) hx hb d_Ps_isOnAny_33 (by decide) ?_
    exact gh_iret hx hb hr hlk rfl hG d_Ps_isOnAny_34 ⟨by rw [m_any_f (fun i hi => hi1 i (by omega))]; rfl, rfl⟩
  · skip
    replace hc7 : ¬ n ≤ k := fun q9 => hc7 ((nc_le (a := n) (b := k) (by omega) (by omega) rfl rfl).mpr q9)
    refine lv_aload_n hx hb d_Ps_isOnAny_10 rfl (lv_at hl 0 rfl) ?_
    refine gh_get (ci := 2) hx hb htb in_Ps hown hK hG hsp rfl 0 (by decide) (htb _ k_1_64) (fun _ h9 => h9) rfl d_Ps_isOnAny_11 ?_
    refine lv_iload_n hx hb d_Ps_isOnAny_14 rfl (lv_at hl 2 rfl) ?_
    refine gh_aald (v := pl k) hx hb hK hG 2 hal rfl (vp_in_nI (by omega) (by decide)) (by rw [nI_clamp (by omega)]; exact hga _ (by omega)) d_Ps_isOnAny_15 ?_
    refine lv_aload_n hx hb d_Ps_isOnAny_16 rfl (lv_at hl 1 rfl) ?_
    refine gh_cV (ci := 1) (As := [.ref q]) (rest := []) (xF_ok b0) hx hb hml hown hK hX hG rfl (hpl k (by omega)) (c_Pl_excess (hpl k (by omega)) hp) (q_Pl_excess htb ⟨by decide, by decide⟩) (htb _ k_2_103) (htb _ k_2_104) (htb _ k_2_105) rfl hl.1 rfl (Nat.le_of_ble_eq_true rfl) d_Ps_isOnAny_17 ⟨by decide, by decide⟩ (fun v9 h9 H l9 hp9 hG => ?_) (fun _ _ _ _ hp9 _ => by cases hp9.1)
    obtain ⟨hv9, hh9⟩ := hp9
    cases hv9
    rw [hh9] at hG
    refine W.eq (g2 := F0 m 20 ls [.long (m_exc (pa k) (pb k) (pc k) (pd k) x y z w)]) rfl ?_
    refine W.widen (k := 0) (n := 0) (by decide) (by decide) ?_
    refine lv_lconst (v := 0) hx hb d_Ps_isOnAny_20 (by decide) ?_
    refine W.lcmp hx hb d_Ps_isOnAny_21 ?_
    refine lv_if_ne (tgt := 27) hx hb d_Ps_isOnAny_22 (by decide) (fun hc22 => ?_) (fun hc22 => ?_)
    · skip
      rw [lg_cmp_eq] at hc22
      refine lv_iinc (k := 2) (v := nI (k + 1)) (lv' := [(2, .int (nI (k + 1))), (0, .ref sp), (1, .ref q)]) hx hb d_Ps_isOnAny_27 hl rfl (nI_1 k) (by decide) rfl (fun ls hl => ?_)
      refine lv_goto (tgt := 2) hx hb d_Ps_isOnAny_30 (by decide) ?_
      exact ih () ls H l9 (by omega) ⟨lt_s hi1 (decide_eq_false hc22), (lv_sub hl [1, 2, 0] rfl), hG⟩
    · skip
      rw [lg_cmp_eq] at hc22
      refine lv_iconst (v := 1) hx hb d_Ps_isOnAny_25 (by decide) ?_
      exact gh_iret hx hb hr hlk rfl hG d_Ps_isOnAny_26 ⟨by rw [m_any_t (k := k) (by omega) (decide_eq_true hc22)]; rfl, rfl⟩

set_option maxHeartbeats 4000000 in
set_option maxRecDepth 100000 in
/-- cellOf -/
theorem c_Ps_cellOf {sp al fi : Nat} {n : Nat} {ga : Nat → Option Nat} {gf : Nat → Int32} {pl fs : Nat → Nat} {pa pb pc pd : Nat → Int64} (hsp : h sp = some (.inr (2, [.ref al, .ref fi, .int (nI n)]))) (hal : h al = some (.inl (cP, 14, .inr (.inr (.inr (.inr ga)))))) (hfi : h fi = some (.inl (cI, 14, .inl gf))) (hga : ∀ i, i < n → ga i = some (pl i)) (hgf : ∀ i, i < n → gf i = nI (fs i)) (hfs : ∀ i, fs i < 14) (hpl : ∀ i, i < n → h (pl i) = some (.inr (1, [.long (pa i), .long (pb i), .long (pc i), .long (pd i)]))) (hn : n ≤ 14) {q : Nat} {x y z w : Int64} (hp : h q = some (.inr (3, [.long x, .long y, .long z, .long w]))) : gh_C l D vC (tZ cI cJ cP cS) (xF b0) b0 y_Ps_cellOf w_Ps_cellOf ({ frames := 1, cells := 0, slots := 0, locals := 21 }) [.ref sp, .ref q] h (rI (m_bits (fun i => decide (m_exc (pa i) (pb i) (pc i) (pd i) x y z w < 0)) n) h) := by
  refine gh_ofW (by decide) (Nat.le_of_ble_eq_true rfl) ?_
  intro p e s m below meth c ls hctx hno hl hG hK hX
  obtain ⟨hx, hb, hr, hml, hown, hlk, hts, hnm⟩ := hctx
  have htb : ∀ w ∈ tB, w.before _ s = true := fun w hw => hts w (List.mem_cons_of_mem _ hw)
  replace hl : lv_has ls 4 [(0, .ref sp), (1, .ref q)] := hl
  refine lv_iconst (v := 0) hx hb d_Ps_cellOf_0 (by decide) ?_
  refine lv_istore_n (lv' := [(2, .int 0), (0, .ref sp), (1, .ref q)]) hx hb d_Ps_cellOf_1 rfl hl (by decide) rfl (fun ls hl => ?_)
  refine lv_iconst (v := 0) hx hb d_Ps_cellOf_2 (by decide) ?_
  refine lv_istore_n (lv' := [(3, .int 0), (2, .int 0), (0, .ref sp), (1, .ref q)]) hx hb d_Ps_cellOf_3 rfl hl (by decide) rfl (fun ls hl => ?_)
  refine gh_gen hG (fun H l9 hG => ?_)
  refine lp_upH (α := Int32) (G := fun ls H l9 => W p l e _ s m _ below meth c H l9 _ _ _ (F0 m 4 ls [])) n (fun k acc ls H l9 => (acc = m_bits (fun i => decide (m_exc (pa i) (pb i) (pc i) (pd i) x y z w < 0)) k) ∧ lv_has ls 4 [(0, .ref sp), (1, .ref q), (2, .int acc), (3, .int (nI k))] ∧ gh_P D vC b0 h s.heap H l9) ?_ 0 0 ls H l9 (Nat.zero_le _) ⟨rfl, (lv_sub hl [2, 3, 1, 0] rfl), hG⟩
  intro k acc ls H l9 hk hI ih
  obtain ⟨hi1, hl, hG⟩ := hI
  refine lv_iload_n hx hb d_Ps_cellOf_4 rfl (lv_at hl 3 rfl) ?_
  refine lv_aload_n hx hb d_Ps_cellOf_5 rfl (lv_at hl 0 rfl) ?_
  refine gh_get (ci := 2) hx hb htb in_Ps hown hK hG hsp rfl 2 (by decide) (htb _ k_1_66) (fun _ h9 => h9) rfl d_Ps_cellOf_6 ?_
  refine lv_icmp_ge (tgt := 39) hx hb d_Ps_cellOf_9 (by decide) (fun hc9 => ?_) (fun hc9 => ?_)
  · skip
    replace hc9 : n ≤ k := (nc_le (a := n) (b := k) (by omega) (by omega) rfl rfl).mp hc9
    refine lv_iload_n hx hb d_Ps_cellOf_39 rfl (lv_at hl 2 rfl) ?_
    exact gh_iret hx hb hr hlk rfl hG d_Ps_cellOf_40 ⟨by rw [hi1, show k = n by omega], rfl⟩
  · skip
    replace hc9 : ¬ n ≤ k := fun q9 => hc9 ((nc_le (a := n) (b := k) (by omega) (by omega) rfl rfl).mpr q9)
    refine lv_aload_n hx hb d_Ps_cellOf_12 rfl (lv_at hl 0 rfl) ?_
    refine gh_get (ci := 2) hx hb htb in_Ps hown hK hG hsp rfl 0 (by decide) (htb _ k_1_64) (fun _ h9 => h9) rfl d_Ps_cellOf_13 ?_
    refine lv_iload_n hx hb d_Ps_cellOf_16 rfl (lv_at hl 3 rfl) ?_
    refine gh_aald (v := pl k) hx hb hK hG 2 hal rfl (vp_in_nI (by omega) (by decide)) (by rw [nI_clamp (by omega)]; exact hga _ (by omega)) d_Ps_cellOf_17 ?_
    refine lv_aload_n hx hb d_Ps_cellOf_18 rfl (lv_at hl 1 rfl) ?_
    refine gh_cV (ci := 1) (As := [.ref q]) (rest := []) (xF_ok b0) hx hb hml hown hK hX hG rfl (hpl k (by omega)) (c_Pl_excess (hpl k (by omega)) hp) (q_Pl_excess htb ⟨by decide, by decide⟩) (htb _ k_2_103) (htb _ k_2_104) (htb _ k_2_105) rfl hl.1 rfl (Nat.le_of_ble_eq_true rfl) d_Ps_cellOf_19 ⟨by decide, by decide⟩ (fun v9 h9 H l9 hp9 hG => ?_) (fun _ _ _ _ hp9 _ => by cases hp9.1)
    obtain ⟨hv9, hh9⟩ := hp9
    cases hv9
    rw [hh9] at hG
    refine W.eq (g2 := F0 m 22 ls [.long (m_exc (pa k) (pb k) (pc k) (pd k) x y z w)]) rfl ?_
    refine W.widen (k := 0) (n := 0) (by decide) (by decide) ?_
    refine lv_lconst (v := 0) hx hb d_Ps_cellOf_22 (by decide) ?_
    refine W.lcmp hx hb d_Ps_cellOf_23 ?_
    refine lv_if_ge (tgt := 33) hx hb d_Ps_cellOf_24 (by decide) (fun hc24 => ?_) (fun hc24 => ?_)
    · skip
      rw [lg_cmp_ge] at hc24
      refine lv_iinc (k := 3) (v := nI (k + 1)) (lv' := [(3, .int (nI (k + 1))), (0, .ref sp), (1, .ref q), (2, .int acc)]) hx hb d_Ps_cellOf_33 hl rfl (nI_1 k) (by decide) rfl (fun ls hl => ?_)
      refine lv_goto (tgt := 4) hx hb d_Ps_cellOf_36 (by decide) ?_
      exact ih acc ls H l9 (by omega) ⟨(by rw [hi1, m_bits_f (g := (fun i => decide (m_exc (pa i) (pb i) (pc i) (pd i) x y z w < 0))) (decide_eq_false (Int64.not_lt.mpr hc24))]), (lv_sub hl [1, 2, 3, 0] rfl), hG⟩
    · skip
      rw [lg_cmp_ge] at hc24
      refine lv_iload_n hx hb d_Ps_cellOf_27 rfl (lv_at hl 2 rfl) ?_
      refine lv_iconst (v := 1) hx hb d_Ps_cellOf_28 (by decide) ?_
      refine lv_iload_n hx hb d_Ps_cellOf_29 rfl (lv_at hl 3 rfl) ?_
      refine lv_ishl hx hb d_Ps_cellOf_30 ?_
      refine lv_ior hx hb d_Ps_cellOf_31 ?_
      refine lv_istore_n (lv' := [(2, .int (acc ||| (1 <<< ((nI k) &&& 31)))), (0, .ref sp), (1, .ref q), (3, .int (nI k))]) hx hb d_Ps_cellOf_32 rfl hl (by decide) rfl (fun ls hl => ?_)
      refine lv_iinc (k := 3) (v := nI (k + 1)) (lv' := [(3, .int (nI (k + 1))), (2, .int (acc ||| (1 <<< ((nI k) &&& 31)))), (0, .ref sp), (1, .ref q)]) hx hb d_Ps_cellOf_33 hl rfl (nI_1 k) (by decide) rfl (fun ls hl => ?_)
      refine lv_goto (tgt := 4) hx hb d_Ps_cellOf_36 (by decide) ?_
      exact ih (acc ||| (1 <<< ((nI k) &&& 31))) ls H l9 (by omega) ⟨(by rw [hi1, m_bits_t (g := (fun i => decide (m_exc (pa i) (pb i) (pc i) (pd i) x y z w < 0))) (decide_eq_true (Int64.not_le.mp hc24))]), (lv_sub hl [2, 3, 1, 0] rfl), hG⟩

set_option maxHeartbeats 4000000 in
set_option maxRecDepth 100000 in
/-- onlyOneAt -/
theorem c_Ps_onlyOneAt {sp al fi : Nat} {n : Nat} {ga : Nat → Option Nat} {gf : Nat → Int32} {pl fs : Nat → Nat} {pa pb pc pd : Nat → Int64} (hsp : h sp = some (.inr (2, [.ref al, .ref fi, .int (nI n)]))) (hal : h al = some (.inl (cP, 14, .inr (.inr (.inr (.inr ga)))))) (hfi : h fi = some (.inl (cI, 14, .inl gf))) (hga : ∀ i, i < n → ga i = some (pl i)) (hgf : ∀ i, i < n → gf i = nI (fs i)) (hfs : ∀ i, fs i < 14) (hpl : ∀ i, i < n → h (pl i) = some (.inr (1, [.long (pa i), .long (pb i), .long (pc i), .long (pd i)]))) (hn : n ≤ 14) {q : Nat} {x y z w : Int64} (hp : h q = some (.inr (3, [.long x, .long y, .long z, .long w]))) : gh_C l D vC (tZ cI cJ cP cS) (xF b0) b0 y_Ps_onlyOneAt w_Ps_onlyOneAt ({ frames := 1, cells := 0, slots := 0, locals := 21 }) [.ref sp, .ref q] h (rI (m_only (fun i => decide (m_exc (pa i) (pb i) (pc i) (pd i) x y z w = 0)) fs n) h) := by
  refine gh_ofW (by decide) (Nat.le_of_ble_eq_true rfl) ?_
  intro p e s m below meth c ls hctx hno hl hG hK hX
  obtain ⟨hx, hb, hr, hml, hown, hlk, hts, hnm⟩ := hctx
  have htb : ∀ w ∈ tB, w.before _ s = true := fun w hw => hts w (List.mem_cons_of_mem _ hw)
  replace hl : lv_has ls 4 [(0, .ref sp), (1, .ref q)] := hl
  refine lv_iconst (v := (-1)) hx hb d_Ps_onlyOneAt_0 (by decide) ?_
  refine lv_istore_n (lv' := [(2, .int (-1)), (0, .ref sp), (1, .ref q)]) hx hb d_Ps_onlyOneAt_1 rfl hl (by decide) rfl (fun ls hl => ?_)
  refine lv_iconst (v := 0) hx hb d_Ps_onlyOneAt_2 (by decide) ?_
  refine lv_istore_n (lv' := [(3, .int 0), (2, .int (-1)), (0, .ref sp), (1, .ref q)]) hx hb d_Ps_onlyOneAt_3 rfl hl (by decide) rfl (fun ls hl => ?_)
  refine gh_gen hG (fun H l9 hG => ?_)
  refine lp_upH (α := Int32) (G := fun ls H l9 => W p l e _ s m _ below meth c H l9 _ _ _ (F0 m 4 ls [])) n (fun k acc ls H l9 => (m_fnd (fun i => decide (m_exc (pa i) (pb i) (pc i) (pd i) x y z w = 0)) fs k = some acc) ∧ lv_has ls 4 [(0, .ref sp), (1, .ref q), (2, .int acc), (3, .int (nI k))] ∧ gh_P D vC b0 h s.heap H l9) ?_ 0 (-1) ls H l9 (Nat.zero_le _) ⟨rfl, (lv_sub hl [2, 3, 1, 0] rfl), hG⟩
  intro k acc ls H l9 hk hI ih
  obtain ⟨hi1, hl, hG⟩ := hI
  refine lv_iload_n hx hb d_Ps_onlyOneAt_4 rfl (lv_at hl 3 rfl) ?_
  refine lv_aload_n hx hb d_Ps_onlyOneAt_5 rfl (lv_at hl 0 rfl) ?_
  refine gh_get (ci := 2) hx hb htb in_Ps hown hK hG hsp rfl 2 (by decide) (htb _ k_1_66) (fun _ h9 => h9) rfl d_Ps_onlyOneAt_6 ?_
  refine lv_icmp_ge (tgt := 57) hx hb d_Ps_onlyOneAt_9 (by decide) (fun hc9 => ?_) (fun hc9 => ?_)
  · skip
    replace hc9 : n ≤ k := (nc_le (a := n) (b := k) (by omega) (by omega) rfl rfl).mp hc9
    refine lv_iload_n hx hb d_Ps_onlyOneAt_57 rfl (lv_at hl 2 rfl) ?_
    exact gh_iret hx hb hr hlk rfl hG d_Ps_onlyOneAt_58 ⟨by unfold m_only; rw [show n = k by omega, hi1]; rfl, rfl⟩
  · skip
    replace hc9 : ¬ n ≤ k := fun q9 => hc9 ((nc_le (a := n) (b := k) (by omega) (by omega) rfl rfl).mpr q9)
    refine lv_aload_n hx hb d_Ps_onlyOneAt_12 rfl (lv_at hl 0 rfl) ?_
    refine gh_get (ci := 2) hx hb htb in_Ps hown hK hG hsp rfl 0 (by decide) (htb _ k_1_64) (fun _ h9 => h9) rfl d_Ps_onlyOneAt_13 ?_
    refine lv_iload_n hx hb d_Ps_onlyOneAt_16 rfl (lv_at hl 3 rfl) ?_
    refine gh_aald (v := pl k) hx hb hK hG 2 hal rfl (vp_in_nI (by omega) (by decide)) (by rw [nI_clamp (by omega)]; exact hga _ (by omega)) d_Ps_onlyOneAt_17 ?_
    refine lv_aload_n hx hb d_Ps_onlyOneAt_18 rfl (lv_at hl 1 rfl) ?_
    refine gh_cV (ci := 1) (As := [.ref q]) (rest := []) (xF_ok b0) hx hb hml hown hK hX hG rfl (hpl k (by omega)) (c_Pl_excess (hpl k (by omega)) hp) (q_Pl_excess htb ⟨by decide, by decide⟩) (htb _ k_2_103) (htb _ k_2_104) (htb _ k_2_105) rfl hl.1 rfl (Nat.le_of_ble_eq_true rfl) d_Ps_onlyOneAt_19 ⟨by decide, by decide⟩ (fun v9 h9 H l9 hp9 hG => ?_) (fun _ _ _ _ hp9 _ => by cases hp9.1)
    obtain ⟨hv9, hh9⟩ := hp9
    cases hv9
    rw [hh9] at hG
    refine W.eq (g2 := F0 m 22 ls [.long (m_exc (pa k) (pb k) (pc k) (pd k) x y z w)]) rfl ?_
    refine W.widen (k := 0) (n := 0) (by decide) (by decide) ?_
    refine lv_lconst (v := 0) hx hb d_Ps_onlyOneAt_22 (by decide) ?_
    refine W.lcmp hx hb d_Ps_onlyOneAt_23 ?_
    refine lv_if_ne (tgt := 51) hx hb d_Ps_onlyOneAt_24 (by decide) (fun hc24 => ?_) (fun hc24 => ?_)
    · skip
      rw [lg_cmp_eq] at hc24
      refine lv_iinc (k := 3) (v := nI (k + 1)) (lv' := [(3, .int (nI (k + 1))), (0, .ref sp), (1, .ref q), (2, .int acc)]) hx hb d_Ps_onlyOneAt_51 hl rfl (nI_1 k) (by decide) rfl (fun ls hl => ?_)
      refine lv_goto (tgt := 4) hx hb d_Ps_onlyOneAt_54 (by decide) ?_
      exact ih acc ls H l9 (by omega) ⟨(m_fnd_s1 (on := (fun i => decide (m_exc (pa i) (pb i) (pc i) (pd i) x y z w = 0))) hi1 (decide_eq_false hc24)), (lv_sub hl [1, 2, 3, 0] rfl), hG⟩
    · skip
      rw [lg_cmp_eq] at hc24
      refine lv_iload_n hx hb d_Ps_onlyOneAt_27 rfl (lv_at hl 2 rfl) ?_
      refine lv_iconst (v := (-1)) hx hb d_Ps_onlyOneAt_28 (by decide) ?_
      refine lv_icmp_eq (tgt := 44) hx hb d_Ps_onlyOneAt_29 (by decide) (fun hc29 => ?_) (fun hc29 => ?_)
      · skip
        refine lv_aload_n hx hb d_Ps_onlyOneAt_44 rfl (lv_at hl 0 rfl) ?_
        refine gh_get (ci := 2) hx hb htb in_Ps hown hK hG hsp rfl 1 (by decide) (htb _ k_1_65) (fun _ h9 => h9) rfl d_Ps_onlyOneAt_45 ?_
        refine lv_iload_n hx hb d_Ps_onlyOneAt_48 rfl (lv_at hl 3 rfl) ?_
        have hfb1 := hfs k
        refine gh_iald (v := nI (fs k)) hx hb hK hG 0 hfi rfl (vp_in_nI (by omega) (by decide)) (by rw [nI_clamp (by omega)]; exact hgf _ (by omega)) d_Ps_onlyOneAt_49 ?_
        refine lv_istore_n (lv' := [(2, .int (nI (fs k))), (0, .ref sp), (1, .ref q), (3, .int (nI k))]) hx hb d_Ps_onlyOneAt_50 rfl hl (by decide) rfl (fun ls hl => ?_)
        refine lv_iinc (k := 3) (v := nI (k + 1)) (lv' := [(3, .int (nI (k + 1))), (2, .int (nI (fs k))), (0, .ref sp), (1, .ref q)]) hx hb d_Ps_onlyOneAt_51 hl rfl (nI_1 k) (by decide) rfl (fun ls hl => ?_)
        refine lv_goto (tgt := 4) hx hb d_Ps_onlyOneAt_54 (by decide) ?_
        exact ih (nI (fs k)) ls H l9 (by omega) ⟨(m_fnd_s2 (on := (fun i => decide (m_exc (pa i) (pb i) (pc i) (pd i) x y z w = 0))) hi1 (decide_eq_true hc24) (Or.inl hc29)), (lv_sub hl [2, 3, 1, 0] rfl), hG⟩
      · skip
        refine lv_iload_n hx hb d_Ps_onlyOneAt_32 rfl (lv_at hl 2 rfl) ?_
        refine lv_aload_n hx hb d_Ps_onlyOneAt_33 rfl (lv_at hl 0 rfl) ?_
        refine gh_get (ci := 2) hx hb htb in_Ps hown hK hG hsp rfl 1 (by decide) (htb _ k_1_65) (fun _ h9 => h9) rfl d_Ps_onlyOneAt_34 ?_
        refine lv_iload_n hx hb d_Ps_onlyOneAt_37 rfl (lv_at hl 3 rfl) ?_
        have hfb2 := hfs k
        refine gh_iald (v := nI (fs k)) hx hb hK hG 0 hfi rfl (vp_in_nI (by omega) (by decide)) (by rw [nI_clamp (by omega)]; exact hgf _ (by omega)) d_Ps_onlyOneAt_38 ?_
        refine lv_icmp_eq (tgt := 44) hx hb d_Ps_onlyOneAt_39 (by decide) (fun hc39 => ?_) (fun hc39 => ?_)
        · skip
          refine lv_aload_n hx hb d_Ps_onlyOneAt_44 rfl (lv_at hl 0 rfl) ?_
          refine gh_get (ci := 2) hx hb htb in_Ps hown hK hG hsp rfl 1 (by decide) (htb _ k_1_65) (fun _ h9 => h9) rfl d_Ps_onlyOneAt_45 ?_
          refine lv_iload_n hx hb d_Ps_onlyOneAt_48 rfl (lv_at hl 3 rfl) ?_
          have hfb3 := hfs k
          refine gh_iald (v := nI (fs k)) hx hb hK hG 0 hfi rfl (vp_in_nI (by omega) (by decide)) (by rw [nI_clamp (by omega)]; exact hgf _ (by omega)) d_Ps_onlyOneAt_49 ?_
          refine lv_istore_n (lv' := [(2, .int (nI (fs k))), (0, .ref sp), (1, .ref q), (3, .int (nI k))]) hx hb d_Ps_onlyOneAt_50 rfl hl (by decide) rfl (fun ls hl => ?_)
          refine lv_iinc (k := 3) (v := nI (k + 1)) (lv' := [(3, .int (nI (k + 1))), (2, .int (nI (fs k))), (0, .ref sp), (1, .ref q)]) hx hb d_Ps_onlyOneAt_51 hl rfl (nI_1 k) (by decide) rfl (fun ls hl => ?_)
          refine lv_goto (tgt := 4) hx hb d_Ps_onlyOneAt_54 (by decide) ?_
          exact ih (nI (fs k)) ls H l9 (by omega) ⟨(m_fnd_s2 (on := (fun i => decide (m_exc (pa i) (pb i) (pc i) (pd i) x y z w = 0))) hi1 (decide_eq_true hc24) (Or.inr hc39)), (lv_sub hl [2, 3, 1, 0] rfl), hG⟩
        · skip
          refine lv_iconst (v := (-1)) hx hb d_Ps_onlyOneAt_42 (by decide) ?_
          exact gh_iret hx hb hr hlk rfl hG d_Ps_onlyOneAt_43 ⟨by unfold m_only; rw [m_fnd_none (k := k + 1) (m_fnd_n (on := (fun i => decide (m_exc (pa i) (pb i) (pc i) (pd i) x y z w = 0))) hi1 (decide_eq_true hc24) hc29 hc39) n (by omega)]; rfl, rfl⟩

set_option maxHeartbeats 4000000 in
set_option maxRecDepth 100000 in
/-- halfSpacesAlong -/
theorem c_Ps_halfSpacesAlong {sp al fi : Nat} {n : Nat} {ga : Nat → Option Nat} {gf : Nat → Int32} {pl fs : Nat → Nat} {pa pb pc pd : Nat → Int64} (hsp : h sp = some (.inr (2, [.ref al, .ref fi, .int (nI n)]))) (hal : h al = some (.inl (cP, 14, .inr (.inr (.inr (.inr ga)))))) (hfi : h fi = some (.inl (cI, 14, .inl gf))) (hga : ∀ i, i < n → ga i = some (pl i)) (hgf : ∀ i, i < n → gf i = nI (fs i)) (hfs : ∀ i, fs i < 14) (hpl : ∀ i, i < n → h (pl i) = some (.inr (1, [.long (pa i), .long (pb i), .long (pc i), .long (pd i)]))) (hn : n ≤ 14) {fc : Nat} {sm : Bool} (hfc : fc < n) : gh_C l D vC (tZ cI cJ cP cS) (xF b0) b0 y_Ps_halfSpacesAlong w_Ps_halfSpacesAlong ({ frames := 1, cells := 0, slots := 0, locals := 21 }) [.ref sp, .int (nI fc), .int (m_b sm)] h (rI (m_bits (fun i => decide (fs i = fc) && (m_lk (pa i) (pb i) (pc i) (pa fc) (pb fc) (pc fc) == sm)) n) h) := by
  refine gh_ofW (by decide) (Nat.le_of_ble_eq_true rfl) ?_
  intro p e s m below meth c ls hctx hno hl hG hK hX
  obtain ⟨hx, hb, hr, hml, hown, hlk, hts, hnm⟩ := hctx
  have htb : ∀ w ∈ tB, w.before _ s = true := fun w hw => hts w (List.mem_cons_of_mem _ hw)
  replace hl : lv_has ls 5 [(0, .ref sp), (1, .int (nI fc)), (2, .int (m_b sm))] := hl
  refine lv_iconst (v := 0) hx hb d_Ps_halfSpacesAlong_0 (by decide) ?_
  refine lv_istore_n (lv' := [(3, .int 0), (0, .ref sp), (1, .int (nI fc)), (2, .int (m_b sm))]) hx hb d_Ps_halfSpacesAlong_1 rfl hl (by decide) rfl (fun ls hl => ?_)
  refine lv_iconst (v := 0) hx hb d_Ps_halfSpacesAlong_2 (by decide) ?_
  refine lv_istore (lv' := [(4, .int 0), (3, .int 0), (0, .ref sp), (1, .int (nI fc)), (2, .int (m_b sm))]) hx hb d_Ps_halfSpacesAlong_3 hl (by decide) rfl (fun ls hl => ?_)
  refine gh_gen hG (fun H l9 hG => ?_)
  refine lp_upH (α := Int32) (G := fun ls H l9 => W p l e _ s m _ below meth c H l9 _ _ _ (F0 m 5 ls [])) n (fun k acc ls H l9 => (acc = m_bits (fun i => decide (fs i = fc) && (m_lk (pa i) (pb i) (pc i) (pa fc) (pb fc) (pc fc) == sm)) k) ∧ lv_has ls 5 [(0, .ref sp), (1, .int (nI fc)), (2, .int (m_b sm)), (3, .int acc), (4, .int (nI k))] ∧ gh_P D vC b0 h s.heap H l9) ?_ 0 0 ls H l9 (Nat.zero_le _) ⟨rfl, (lv_sub hl [2, 3, 4, 1, 0] rfl), hG⟩
  intro k acc ls H l9 hk hI ih
  obtain ⟨hi1, hl, hG⟩ := hI
  refine lv_iload hx hb d_Ps_halfSpacesAlong_5 (lv_at hl 4 rfl) ?_
  refine lv_aload_n hx hb d_Ps_halfSpacesAlong_7 rfl (lv_at hl 0 rfl) ?_
  refine gh_get (ci := 2) hx hb htb in_Ps hown hK hG hsp rfl 2 (by decide) (htb _ k_1_66) (fun _ h9 => h9) rfl d_Ps_halfSpacesAlong_8 ?_
  refine lv_icmp_ge (tgt := 58) hx hb d_Ps_halfSpacesAlong_11 (by decide) (fun hc11 => ?_) (fun hc11 => ?_)
  · skip
    replace hc11 : n ≤ k := (nc_le (a := n) (b := k) (by omega) (by omega) rfl rfl).mp hc11
    refine lv_iload_n hx hb d_Ps_halfSpacesAlong_58 rfl (lv_at hl 3 rfl) ?_
    exact gh_iret hx hb hr hlk rfl hG d_Ps_halfSpacesAlong_59 ⟨by rw [hi1, show k = n by omega], rfl⟩
  · skip
    replace hc11 : ¬ n ≤ k := fun q9 => hc11 ((nc_le (a := n) (b := k) (by omega) (by omega) rfl rfl).mpr q9)
    refine lv_aload_n hx hb d_Ps_halfSpacesAlong_14 rfl (lv_at hl 0 rfl) ?_
    refine gh_get (ci := 2) hx hb htb in_Ps hown hK hG hsp rfl 1 (by decide) (htb _ k_1_65) (fun _ h9 => h9) rfl d_Ps_halfSpacesAlong_15 ?_
    refine lv_iload hx hb d_Ps_halfSpacesAlong_18 (lv_at hl 4 rfl) ?_
    have hfb1 := hfs k
    refine gh_iald (v := nI (fs k)) hx hb hK hG 0 hfi rfl (vp_in_nI (by omega) (by decide)) (by rw [nI_clamp (by omega)]; exact hgf _ (by omega)) d_Ps_halfSpacesAlong_20 ?_
    refine lv_iload_n hx hb d_Ps_halfSpacesAlong_21 rfl (lv_at hl 1 rfl) ?_
    refine lv_icmp_ne (tgt := 52) hx hb d_Ps_halfSpacesAlong_22 (by decide) (fun hc22 => ?_) (fun hc22 => ?_)
    · skip
      replace hc22 : ¬ (fs k) = fc := fun q9 => hc22 ((nc_eq (a := (fs k)) (b := fc) (by omega) (by omega) rfl rfl).mpr q9)
      refine lv_iinc (k := 4) (v := nI (k + 1)) (lv' := [(4, .int (nI (k + 1))), (0, .ref sp), (1, .int (nI fc)), (2, .int (m_b sm)), (3, .int acc)]) hx hb d_Ps_halfSpacesAlong_52 hl rfl (nI_1 k) (by decide) rfl (fun ls hl => ?_)
      refine lv_goto (tgt := 5) hx hb d_Ps_halfSpacesAlong_55 (by decide) ?_
      exact ih acc ls H l9 (by omega) ⟨(by rw [hi1, m_bits_f (g := (fun i => decide (fs i = fc) && (m_lk (pa i) (pb i) (pc i) (pa fc) (pb fc) (pc fc) == sm))) (by simp [hc22])]), (lv_sub hl [1, 2, 3, 4, 0] rfl), hG⟩
    · skip
      replace hc22 : (fs k) = fc := (nc_eq (a := (fs k)) (b := fc) (by omega) (by omega) rfl rfl).mp hc22
      refine lv_aload_n hx hb d_Ps_halfSpacesAlong_25 rfl (lv_at hl 0 rfl) ?_
      refine gh_get (ci := 2) hx hb htb in_Ps hown hK hG hsp rfl 0 (by decide) (htb _ k_1_64) (fun _ h9 => h9) rfl d_Ps_halfSpacesAlong_26 ?_
      refine lv_iload hx hb d_Ps_halfSpacesAlong_29 (lv_at hl 4 rfl) ?_
      refine gh_aald (v := pl k) hx hb hK hG 2 hal rfl (vp_in_nI (by omega) (by decide)) (by rw [nI_clamp (by omega)]; exact hga _ (by omega)) d_Ps_halfSpacesAlong_31 ?_
      refine lv_aload_n hx hb d_Ps_halfSpacesAlong_32 rfl (lv_at hl 0 rfl) ?_
      refine gh_get (ci := 2) hx hb htb in_Ps hown hK hG hsp rfl 0 (by decide) (htb _ k_1_64) (fun _ h9 => h9) rfl d_Ps_halfSpacesAlong_33 ?_
      refine lv_iload_n hx hb d_Ps_halfSpacesAlong_36 rfl (lv_at hl 1 rfl) ?_
      refine gh_aald (v := pl fc) hx hb hK hG 2 hal rfl (vp_in_nI (by omega) (by decide)) (by rw [nI_clamp (by omega)]; exact hga _ (by omega)) d_Ps_halfSpacesAlong_37 ?_
      refine gh_cV (ci := 1) (As := [.ref (pl fc)]) (rest := []) (xF_ok b0) hx hb hml hown hK hX hG rfl (hpl k (by omega)) (c_Pl_looksLike (hpl k (by omega)) (hpl fc (by omega))) (q_Pl_looksLike htb ⟨by decide, by decide⟩) (htb _ k_2_166) (htb _ k_2_167) (htb _ k_2_168) rfl hl.1 rfl (Nat.le_of_ble_eq_true rfl) d_Ps_halfSpacesAlong_38 ⟨by decide, by decide⟩ (fun v9 h9 H l9 hp9 hG => ?_) (fun _ _ _ _ hp9 _ => by cases hp9.1)
      obtain ⟨hv9, hh9⟩ := hp9
      cases hv9
      rw [hh9] at hG
      refine W.eq (g2 := F0 m 41 ls [.int (m_b (m_lk (pa k) (pb k) (pc k) (pa fc) (pb fc) (pc fc)))]) rfl ?_
      refine W.widen (k := 0) (n := 0) (by decide) (by decide) ?_
      refine lv_iload_n hx hb d_Ps_halfSpacesAlong_41 rfl (lv_at hl 2 rfl) ?_
      refine lv_icmp_ne (tgt := 52) hx hb d_Ps_halfSpacesAlong_42 (by decide) (fun hc42 => ?_) (fun hc42 => ?_)
      · skip
        refine lv_iinc (k := 4) (v := nI (k + 1)) (lv' := [(4, .int (nI (k + 1))), (0, .ref sp), (1, .int (nI fc)), (2, .int (m_b sm)), (3, .int acc)]) hx hb d_Ps_halfSpacesAlong_52 hl rfl (nI_1 k) (by decide) rfl (fun ls hl => ?_)
        refine lv_goto (tgt := 5) hx hb d_Ps_halfSpacesAlong_55 (by decide) ?_
        exact ih acc ls H l9 (by omega) ⟨(by rw [hi1, m_bits_f (g := (fun i => decide (fs i = fc) && (m_lk (pa i) (pb i) (pc i) (pa fc) (pb fc) (pc fc) == sm))) (by have q9 := mt mb_eq.mpr hc42; simp_all)]), (lv_sub hl [1, 2, 3, 4, 0] rfl), hG⟩
      · skip
        refine lv_iload_n hx hb d_Ps_halfSpacesAlong_45 rfl (lv_at hl 3 rfl) ?_
        refine lv_iconst (v := 1) hx hb d_Ps_halfSpacesAlong_46 (by decide) ?_
        refine lv_iload hx hb d_Ps_halfSpacesAlong_47 (lv_at hl 4 rfl) ?_
        refine lv_ishl hx hb d_Ps_halfSpacesAlong_49 ?_
        refine lv_ior hx hb d_Ps_halfSpacesAlong_50 ?_
        refine lv_istore_n (lv' := [(3, .int (acc ||| (1 <<< ((nI k) &&& 31)))), (0, .ref sp), (1, .int (nI fc)), (2, .int (m_b sm)), (4, .int (nI k))]) hx hb d_Ps_halfSpacesAlong_51 rfl hl (by decide) rfl (fun ls hl => ?_)
        refine lv_iinc (k := 4) (v := nI (k + 1)) (lv' := [(4, .int (nI (k + 1))), (3, .int (acc ||| (1 <<< ((nI k) &&& 31)))), (0, .ref sp), (1, .int (nI fc)), (2, .int (m_b sm))]) hx hb d_Ps_halfSpacesAlong_52 hl rfl (nI_1 k) (by decide) rfl (fun ls hl => ?_)
        refine lv_goto (tgt := 5) hx hb d_Ps_halfSpacesAlong_55 (by decide) ?_
        exact ih (acc ||| (1 <<< ((nI k) &&& 31))) ls H l9 (by omega) ⟨(by rw [hi1, m_bits_t (g := (fun i => decide (fs i = fc) && (m_lk (pa i) (pb i) (pc i) (pa fc) (pb fc) (pc fc) == sm))) (by have q9 := mb_eq.mp hc42; simp_all)]), (lv_sub hl [2, 3, 4, 1, 0] rfl), hG⟩

set_option maxHeartbeats 4000000 in
set_option maxRecDepth 100000 in
/-- cellWhereLess -/
theorem c_Ps_cellWhereLess {sp al fi : Nat} {n : Nat} {ga : Nat → Option Nat} {gf : Nat → Int32} {pl fs : Nat → Nat} {pa pb pc pd : Nat → Int64} (hsp : h sp = some (.inr (2, [.ref al, .ref fi, .int (nI n)]))) (hal : h al = some (.inl (cP, 14, .inr (.inr (.inr (.inr ga)))))) (hfi : h fi = some (.inl (cI, 14, .inl gf))) (hga : ∀ i, i < n → ga i = some (pl i)) (hgf : ∀ i, i < n → gf i = nI (fs i)) (hfs : ∀ i, fs i < 14) (hpl : ∀ i, i < n → h (pl i) = some (.inr (1, [.long (pa i), .long (pb i), .long (pc i), .long (pd i)]))) (hn : n ≤ 14) {q : Nat} {x y z w : Int64} (hp : h q = some (.inr (3, [.long x, .long y, .long z, .long w]))) {fc : Nat} (hfc : fc < n) : gh_C l D vC (tZ cI cJ cP cS) (xF b0) b0 y_Ps_cellWhereLess w_Ps_cellWhereLess ({ frames := 2, cells := 0, slots := 0, locals := 50 }) [.ref sp, .ref q, .int (nI fc)] h (rI (m_bits (fun i => decide (m_exc (pa i) (pb i) (pc i) (pd i) x y z w < 0)) n ||| m_bits (fun i => decide (fs i = fc) && (m_lk (pa i) (pb i) (pc i) (pa fc) (pb fc) (pc fc) == true)) n) h) := by
  refine gh_ofW (by decide) (Nat.le_of_ble_eq_true rfl) ?_
  intro p e s m below meth c ls hctx hno hl hG hK hX
  obtain ⟨hx, hb, hr, hml, hown, hlk, hts, hnm⟩ := hctx
  have htb : ∀ w ∈ tB, w.before _ s = true := fun w hw => hts w (List.mem_cons_of_mem _ hw)
  replace hl : lv_has ls 3 [(0, .ref sp), (1, .ref q), (2, .int (nI fc))] := hl
  refine lv_aload_n hx hb d_Ps_cellWhereLess_0 rfl (lv_at hl 0 rfl) ?_
  refine lv_aload_n hx hb d_Ps_cellWhereLess_1 rfl (lv_at hl 1 rfl) ?_
  refine gh_cV (ci := 2) (As := [.ref q]) (rest := []) (xF_ok b0) hx hb hml hown hK hX hG rfl hsp (c_Ps_cellOf hsp hal hfi hga hgf hfs hpl hn hp) (q_Ps_cellOf htb ⟨by decide, by decide⟩) (htb _ k_2_161) (htb _ k_2_108) (htb _ k_2_109) rfl hl.1 rfl (Nat.le_of_ble_eq_true rfl) d_Ps_cellWhereLess_2 ⟨by decide, by decide⟩ (fun v9 h9 H l9 hp9 hG => ?_) (fun _ _ _ _ hp9 _ => by cases hp9.1)
  obtain ⟨hv9, hh9⟩ := hp9
  cases hv9
  rw [hh9] at hG
  refine W.eq (g2 := F0 m 5 ls [.int (m_bits (fun i => decide (m_exc (pa i) (pb i) (pc i) (pd i) x y z w < 0)) n)]) rfl ?_
  refine W.widen (k := 0) (n := 0) (by decide) (by decide) ?_
  refine lv_aload_n hx hb d_Ps_cellWhereLess_5 rfl (lv_at hl 0 rfl) ?_
  refine lv_iload_n hx hb d_Ps_cellWhereLess_6 rfl (lv_at hl 2 rfl) ?_
  refine lv_iconst (v := 1) hx hb d_Ps_cellWhereLess_7 (by decide) ?_
  refine gh_cV (ci := 2) (As := [.int (nI fc), .int 1]) (rest := [.int (m_bits (fun i => decide (m_exc (pa i) (pb i) (pc i) (pd i) x y z w < 0)) n)]) (xF_ok b0) hx hb hml hown hK hX hG rfl hsp (c_Ps_halfSpacesAlong (sm := true) hsp hal hfi hga hgf hfs hpl hn (by omega)) (q_Ps_halfSpacesAlong htb ⟨by decide, by decide⟩) (htb _ k_2_162) (htb _ k_2_164) (htb _ k_s_Ps_halfSpacesAlong) rfl hl.1 rfl (Nat.le_of_ble_eq_true rfl) d_Ps_cellWhereLess_8 ⟨by decide, by decide⟩ (fun v9 h9 H l9 hp9 hG => ?_) (fun _ _ _ _ hp9 _ => by cases hp9.1)
  obtain ⟨hv9, hh9⟩ := hp9
  cases hv9
  rw [hh9] at hG
  refine W.eq (g2 := F0 m 11 ls [.int (m_bits (fun i => decide (fs i = fc) && (m_lk (pa i) (pb i) (pc i) (pa fc) (pb fc) (pc fc) == true)) n), .int (m_bits (fun i => decide (m_exc (pa i) (pb i) (pc i) (pd i) x y z w < 0)) n)]) rfl ?_
  refine W.widen (k := 0) (n := 0) (by decide) (by decide) ?_
  refine lv_ior hx hb d_Ps_cellWhereLess_11 ?_
  exact gh_iret hx hb hr hlk rfl hG d_Ps_cellWhereLess_12 ⟨rfl, rfl⟩

set_option maxHeartbeats 4000000 in
set_option maxRecDepth 100000 in
/-- cellWhereMore -/
theorem c_Ps_cellWhereMore {sp al fi : Nat} {n : Nat} {ga : Nat → Option Nat} {gf : Nat → Int32} {pl fs : Nat → Nat} {pa pb pc pd : Nat → Int64} (hsp : h sp = some (.inr (2, [.ref al, .ref fi, .int (nI n)]))) (hal : h al = some (.inl (cP, 14, .inr (.inr (.inr (.inr ga)))))) (hfi : h fi = some (.inl (cI, 14, .inl gf))) (hga : ∀ i, i < n → ga i = some (pl i)) (hgf : ∀ i, i < n → gf i = nI (fs i)) (hfs : ∀ i, fs i < 14) (hpl : ∀ i, i < n → h (pl i) = some (.inr (1, [.long (pa i), .long (pb i), .long (pc i), .long (pd i)]))) (hn : n ≤ 14) {q : Nat} {x y z w : Int64} (hp : h q = some (.inr (3, [.long x, .long y, .long z, .long w]))) {fc : Nat} (hfc : fc < n) : gh_C l D vC (tZ cI cJ cP cS) (xF b0) b0 y_Ps_cellWhereMore w_Ps_cellWhereMore ({ frames := 2, cells := 0, slots := 0, locals := 50 }) [.ref sp, .ref q, .int (nI fc)] h (rI (m_bits (fun i => decide (m_exc (pa i) (pb i) (pc i) (pd i) x y z w < 0)) n ||| m_bits (fun i => decide (fs i = fc) && (m_lk (pa i) (pb i) (pc i) (pa fc) (pb fc) (pc fc) == false)) n) h) := by
  refine gh_ofW (by decide) (Nat.le_of_ble_eq_true rfl) ?_
  intro p e s m below meth c ls hctx hno hl hG hK hX
  obtain ⟨hx, hb, hr, hml, hown, hlk, hts, hnm⟩ := hctx
  have htb : ∀ w ∈ tB, w.before _ s = true := fun w hw => hts w (List.mem_cons_of_mem _ hw)
  replace hl : lv_has ls 3 [(0, .ref sp), (1, .ref q), (2, .int (nI fc))] := hl
  refine lv_aload_n hx hb d_Ps_cellWhereMore_0 rfl (lv_at hl 0 rfl) ?_
  refine lv_aload_n hx hb d_Ps_cellWhereMore_1 rfl (lv_at hl 1 rfl) ?_
  refine gh_cV (ci := 2) (As := [.ref q]) (rest := []) (xF_ok b0) hx hb hml hown hK hX hG rfl hsp (c_Ps_cellOf hsp hal hfi hga hgf hfs hpl hn hp) (q_Ps_cellOf htb ⟨by decide, by decide⟩) (htb _ k_2_161) (htb _ k_2_108) (htb _ k_2_109) rfl hl.1 rfl (Nat.le_of_ble_eq_true rfl) d_Ps_cellWhereMore_2 ⟨by decide, by decide⟩ (fun v9 h9 H l9 hp9 hG => ?_) (fun _ _ _ _ hp9 _ => by cases hp9.1)
  obtain ⟨hv9, hh9⟩ := hp9
  cases hv9
  rw [hh9] at hG
  refine W.eq (g2 := F0 m 5 ls [.int (m_bits (fun i => decide (m_exc (pa i) (pb i) (pc i) (pd i) x y z w < 0)) n)]) rfl ?_
  refine W.widen (k := 0) (n := 0) (by decide) (by decide) ?_
  refine lv_aload_n hx hb d_Ps_cellWhereMore_5 rfl (lv_at hl 0 rfl) ?_
  refine lv_iload_n hx hb d_Ps_cellWhereMore_6 rfl (lv_at hl 2 rfl) ?_
  refine lv_iconst (v := 0) hx hb d_Ps_cellWhereMore_7 (by decide) ?_
  refine gh_cV (ci := 2) (As := [.int (nI fc), .int 0]) (rest := [.int (m_bits (fun i => decide (m_exc (pa i) (pb i) (pc i) (pd i) x y z w < 0)) n)]) (xF_ok b0) hx hb hml hown hK hX hG rfl hsp (c_Ps_halfSpacesAlong (sm := false) hsp hal hfi hga hgf hfs hpl hn (by omega)) (q_Ps_halfSpacesAlong htb ⟨by decide, by decide⟩) (htb _ k_2_162) (htb _ k_2_164) (htb _ k_s_Ps_halfSpacesAlong) rfl hl.1 rfl (Nat.le_of_ble_eq_true rfl) d_Ps_cellWhereMore_8 ⟨by decide, by decide⟩ (fun v9 h9 H l9 hp9 hG => ?_) (fun _ _ _ _ hp9 _ => by cases hp9.1)
  obtain ⟨hv9, hh9⟩ := hp9
  cases hv9
  rw [hh9] at hG
  refine W.eq (g2 := F0 m 11 ls [.int (m_bits (fun i => decide (fs i = fc) && (m_lk (pa i) (pb i) (pc i) (pa fc) (pb fc) (pc fc) == false)) n), .int (m_bits (fun i => decide (m_exc (pa i) (pb i) (pc i) (pd i) x y z w < 0)) n)]) rfl ?_
  refine W.widen (k := 0) (n := 0) (by decide) (by decide) ?_
  refine lv_ior hx hb d_Ps_cellWhereMore_11 ?_
  exact gh_iret hx hb hr hlk rfl hG d_Ps_cellWhereMore_12 ⟨rfl, rfl⟩

set_option maxHeartbeats 4000000 in
set_option maxRecDepth 100000 in
/-- firstOneWith -/
theorem c_Ps_firstOneWith {sp al fi : Nat} {n : Nat} {ga : Nat → Option Nat} {gf : Nat → Int32} {pl fs : Nat → Nat} {pa pb pc pd : Nat → Int64} (hsp : h sp = some (.inr (2, [.ref al, .ref fi, .int (nI n)]))) (hal : h al = some (.inl (cP, 14, .inr (.inr (.inr (.inr ga)))))) (hfi : h fi = some (.inl (cI, 14, .inl gf))) (hga : ∀ i, i < n → ga i = some (pl i)) (hgf : ∀ i, i < n → gf i = nI (fs i)) (hfs : ∀ i, fs i < 14) (hpl : ∀ i, i < n → h (pl i) = some (.inr (1, [.long (pa i), .long (pb i), .long (pc i), .long (pd i)]))) (hn : n ≤ 14) {q : Nat} {qa qb qc qd : Int64} (hq : h q = some (.inr (1, [.long qa, .long qb, .long qc, .long qd]))) : gh_C l D vC (tZ cI cJ cP cS) (xF b0) b0 y_Ps_firstOneWith w_Ps_firstOneWith ({ frames := 1, cells := 0, slots := 0, locals := 21 }) [.ref sp, .ref q] h (rI (nI (m_fst (fun i => m_one (pa i) (pb i) (pc i) (pd i) qa qb qc qd) n)) h) := by
  refine gh_ofW (by decide) (Nat.le_of_ble_eq_true rfl) ?_
  intro p e s m below meth c ls hctx hno hl hG hK hX
  obtain ⟨hx, hb, hr, hml, hown, hlk, hts, hnm⟩ := hctx
  have htb : ∀ w ∈ tB, w.before _ s = true := fun w hw => hts w (List.mem_cons_of_mem _ hw)
  replace hl : lv_has ls 3 [(0, .ref sp), (1, .ref q)] := hl
  refine lv_iconst (v := 0) hx hb d_Ps_firstOneWith_0 (by decide) ?_
  refine lv_istore_n (lv' := [(2, .int 0), (0, .ref sp), (1, .ref q)]) hx hb d_Ps_firstOneWith_1 rfl hl (by decide) rfl (fun ls hl => ?_)
  refine gh_gen hG (fun H l9 hG => ?_)
  refine lp_upH (α := Unit) (G := fun ls H l9 => W p l e _ s m _ below meth c H l9 _ _ _ (F0 m 2 ls [])) n (fun k _u ls H l9 => (∀ i, i < k → (fun i => m_one (pa i) (pb i) (pc i) (pd i) qa qb qc qd) i = false) ∧ lv_has ls 3 [(0, .ref sp), (1, .ref q), (2, .int (nI k))] ∧ gh_P D vC b0 h s.heap H l9) ?_ 0 () ls H l9 (Nat.zero_le _) ⟨(fun i hi => absurd hi (Nat.not_lt_zero i)), (lv_sub hl [1, 2, 0] rfl), hG⟩
  intro k _u ls H l9 hk hI ih
  obtain ⟨hi1, hl, hG⟩ := hI
  refine lv_iload_n hx hb d_Ps_firstOneWith_2 rfl (lv_at hl 2 rfl) ?_
  refine lv_aload_n hx hb d_Ps_firstOneWith_3 rfl (lv_at hl 0 rfl) ?_
  refine gh_get (ci := 2) hx hb htb in_Ps hown hK hG hsp rfl 2 (by decide) (htb _ k_1_66) (fun _ h9 => h9) rfl d_Ps_firstOneWith_4 ?_
  refine lv_icmp_ge (tgt := 31) hx hb d_Ps_firstOneWith_7 (by decide) (fun hc7 => ?_) (fun hc7 => ?_)
  · skip
    replace hc7 : n ≤ k := (nc_le (a := n) (b := k) (by omega) (by omega) rfl rfl).mp hc7
    refine lv_aload_n hx hb d_Ps_firstOneWith_31 rfl (lv_at hl 0 rfl) ?_
    refine gh_get (ci := 2) hx hb htb in_Ps hown hK hG hsp rfl 2 (by decide) (htb _ k_1_66) (fun _ h9 => h9) rfl d_Ps_firstOneWith_32 ?_
    exact gh_iret hx hb hr hlk rfl hG d_Ps_firstOneWith_35 ⟨by rw [m_fst_no (fun i hi => hi1 i (by omega))], rfl⟩
  · skip
    replace hc7 : ¬ n ≤ k := fun q9 => hc7 ((nc_le (a := n) (b := k) (by omega) (by omega) rfl rfl).mpr q9)
    refine lv_aload_n hx hb d_Ps_firstOneWith_10 rfl (lv_at hl 0 rfl) ?_
    refine gh_get (ci := 2) hx hb htb in_Ps hown hK hG hsp rfl 0 (by decide) (htb _ k_1_64) (fun _ h9 => h9) rfl d_Ps_firstOneWith_11 ?_
    refine lv_iload_n hx hb d_Ps_firstOneWith_14 rfl (lv_at hl 2 rfl) ?_
    refine gh_aald (v := pl k) hx hb hK hG 2 hal rfl (vp_in_nI (by omega) (by decide)) (by rw [nI_clamp (by omega)]; exact hga _ (by omega)) d_Ps_firstOneWith_15 ?_
    refine lv_aload_n hx hb d_Ps_firstOneWith_16 rfl (lv_at hl 1 rfl) ?_
    refine gh_cV (ci := 1) (As := [.ref q]) (rest := []) (xF_ok b0) hx hb hml hown hK hX hG rfl (hpl k (by omega)) (c_Pl_isOneWith (hpl k (by omega)) hq) (q_Pl_isOneWith htb ⟨by decide, by decide⟩) (htb _ k_1_59) (htb _ k_1_60) (htb _ k_1_61) rfl hl.1 rfl (Nat.le_of_ble_eq_true rfl) d_Ps_firstOneWith_17 ⟨by decide, by decide⟩ (fun v9 h9 H l9 hp9 hG => ?_) (fun _ _ _ _ hp9 _ => by cases hp9.1)
    obtain ⟨hv9, hh9⟩ := hp9
    cases hv9
    rw [hh9] at hG
    refine W.eq (g2 := F0 m 20 ls [.int (m_b (m_one (pa k) (pb k) (pc k) (pd k) qa qb qc qd))]) rfl ?_
    refine W.widen (k := 0) (n := 0) (by decide) (by decide) ?_
    refine lv_if_eq (tgt := 25) hx hb d_Ps_firstOneWith_20 (by decide) (fun hc20 => ?_) (fun hc20 => ?_)
    · skip
      replace hc20 := mb_0.mp hc20
      refine lv_iinc (k := 2) (v := nI (k + 1)) (lv' := [(2, .int (nI (k + 1))), (0, .ref sp), (1, .ref q)]) hx hb d_Ps_firstOneWith_25 hl rfl (nI_1 k) (by decide) rfl (fun ls hl => ?_)
      refine lv_goto (tgt := 2) hx hb d_Ps_firstOneWith_28 (by decide) ?_
      exact ih () ls H l9 (by omega) ⟨lt_s hi1 hc20, (lv_sub hl [1, 2, 0] rfl), hG⟩
    · skip
      replace hc20 := mb_1.mp hc20
      refine lv_iload_n hx hb d_Ps_firstOneWith_23 rfl (lv_at hl 2 rfl) ?_
      exact gh_iret hx hb hr hlk rfl hG d_Ps_firstOneWith_24 ⟨by rw [m_fst_at hi1 (show k < n by omega) hc20], rfl⟩

end
