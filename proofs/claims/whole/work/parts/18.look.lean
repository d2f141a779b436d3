theorem k_math : Cond.code Lib.MathLoose.abs_long.x Lib.MathLoose.abs_long.code 2 (some .long) ∈ tB := mB2 211 rfl rfl
theorem nI_or (a b : Nat) : nI a ||| nI b = nI (a ||| b) := by
  apply Int32.toBitVec_inj.1
  show BitVec.ofNat 32 a ||| BitVec.ofNat 32 b = BitVec.ofNat 32 (a ||| b)
  apply BitVec.eq_of_getLsbD_eq
  intro i hi
  simp [hi]
theorem sh_1 : ∀ k, k < 14 → (1 : Int32) <<< (nI k &&& 31) = nI (2 ^ k) := by decide +kernel
theorem pb_test (f : Nat → Bool) (n i : Nat) : (pb_num f n).testBit i = (decide (i < n) && f i) := by
  induction n with
  | zero => simp [pb_num]
  | succ n ih =>
    simp only [pb_num]
    have hl := pb_lt f n
    by_cases hf : f n = true
    · rw [if_pos hf, Nat.add_comm]
      rcases Nat.lt_trichotomy i n with h | h | h
      · rw [Nat.testBit_two_pow_add_gt h, ih]
        have h2 : i < n + 1 := by omega
        simp [h, h2]
      · subst h
        rw [Nat.testBit_two_pow_add_eq, ih]
        simp [hf]
      · have h2 : ¬ i < n + 1 := by omega
        have h3 : 2 ^ n + pb_num f n < 2 ^ i := by
          have : 2 ^ (n + 1) ≤ 2 ^ i := Nat.pow_le_pow_right (by decide) (by omega)
          omega
        rw [Nat.testBit_lt_two_pow h3]
        simp [h2]
    · rw [if_neg hf, Nat.add_zero, ih]
      by_cases h : i < n
      · have h2 : i < n + 1 := by omega
        simp [h, h2]
      · by_cases h3 : i = n
        · subst h3
          simp at hf
          simp [hf]
        · have h2 : ¬ i < n + 1 := by omega
          simp [h, h2]
theorem pb_or (f g : Nat → Bool) (n : Nat) : pb_num f n ||| pb_num g n = pb_num (fun i => f i || g i) n := by
  apply Nat.eq_of_testBit_eq
  intro i
  rw [Nat.testBit_or, pb_test, pb_test, pb_test]
  cases decide (i < n) <;> simp
theorem m_bits_num (g : Nat → Bool) (n : Nat) (hn : n ≤ 14) : m_bits g n = nI (pb_num g n) := by
  induction n with
  | zero => rfl
  | succ n ih =>
    simp only [m_bits, pb_num]
    split
    · rename_i hg
      rw [ih (by omega), sh_1 n (by omega), nI_or]
      congr 1
      have hl := pb_lt g n
      rw [Nat.or_comm, Nat.add_comm]
      have := Nat.two_pow_add_eq_or_of_lt hl 1
      rw [Nat.mul_one] at this
      exact this.symm
    · rw [ih (by omega), Nat.add_zero]
theorem m_bits_or (f g : Nat → Bool) (n : Nat) (hn : n ≤ 14) : m_bits f n ||| m_bits g n = nI (pb_num (fun i => f i || g i) n) := by
  rw [m_bits_num f n hn, m_bits_num g n hn, nI_or, pb_or]
theorem pb_14 (f : Nat → Bool) {n : Nat} (hn : n ≤ 14) : pb_num f n < 16384 := Nat.lt_of_lt_of_le (pb_lt f n) (Nat.pow_le_pow_right (by decide) hn : 2 ^ n ≤ 2 ^ 14)
theorem m_only_some {on : Nat → Bool} {fs : Nat → Nat} {n : Nat} (h : ¬ m_only on fs n = -1) : ∃ k, k < n ∧ on k = true ∧ m_only on fs n = nI (fs k) := by
  unfold m_only at *
  induction n with
  | zero => exact absurd rfl h
  | succ n ih =>
    cases hf : m_fnd on fs n with
    | none => exact absurd (by rw [m_fnd_none hf (n + 1) (by omega)]; rfl) h
    | some v =>
      cases ho : on n with
      | false =>
        rw [m_fnd_s1 hf ho] at h ⊢
        rw [hf] at ih
        obtain ⟨k, h1, h2, h3⟩ := ih h
        exact ⟨k, by omega, h2, h3⟩
      | true =>
        by_cases h1 : v = -1
        · rw [m_fnd_s2 hf ho (Or.inl h1)] at h ⊢
          exact ⟨n, by omega, ho, rfl⟩
        · by_cases h2 : v = nI (fs n)
          · rw [m_fnd_s2 hf ho (Or.inr h2)] at h ⊢
            exact ⟨n, by omega, ho, rfl⟩
          · exact absurd (by rw [m_fnd_n hf ho h1 h2]; rfl) h
def m_look (L M : Bool) : Int32 := if L = M then 0 else if L = true then 1 else -1
def m_ox (ax : Int32) (al u v w : Int64) : Int64 := if ax = 0 then al else u * w
def m_oy (ax : Int32) (al u v w : Int64) : Int64 := if ax = 0 then u * w else if ax = 1 then al else v * w
def m_oz (ax : Int32) (al u v w : Int64) : Int64 := if ax = 0 then v * w else if ax = 1 then v * w else al
theorem m_onax_eq (ax : Int32) (al u v w : Int64) : m_onax ax al u v w = [.long (m_ox ax al u v w), .long (m_oy ax al u v w), .long (m_oz ax al u v w), .long w] := by
  unfold m_onax m_ox m_oy m_oz
  split
  · rfl
  · split <;> rfl
/-- the two cells beside a point on the face fc, as numbers -/
def m_cs (n : Nat) (fs : Nat → Nat) (pa pb pc pd : Nat → Int64) (fc : Nat) (sm : Bool) (x y z w : Int64) : Nat := pb_num (fun i => decide (m_exc (pa i) (pb i) (pc i) (pd i) x y z w < 0) || (decide (fs i = fc) && (m_lk (pa i) (pb i) (pc i) (pa fc) (pb fc) (pc fc) == sm))) n
def m_lkat (f : Nat → Int64) (n : Nat) (fs : Nat → Nat) (pa pb pc pd : Nat → Int64) (fc : Nat) (x y z w : Int64) : Int32 := m_look (m_top f (m_cs n fs pa pb pc pd fc true x y z w)) (m_top f (m_cs n fs pa pb pc pd fc false x y z w))
/-- where the line meets a plane -/
def e_mis (ax : Int32) (u v pa pb pc pd : Int64) : Int64 := -(m_exc pa pb pc pd (m_ox ax 0 u v 1) (m_oy ax 0 u v 1) (m_oz ax 0 u v 1) 1)
def e_al (ax : Int32) (u v pa pb pc pd : Int64) : Int64 := if m_fac ax pa pb pc < 0 then -(e_mis ax u v pa pb pc pd) else e_mis ax u v pa pb pc pd
def e_w (ax : Int32) (pa pb pc : Int64) : Int64 := if 0 < m_fac ax pa pb pc then m_fac ax pa pb pc else -(m_fac ax pa pb pc)
def e_x (ax : Int32) (u v pa pb pc pd : Int64) : Int64 := m_ox ax (e_al ax u v pa pb pc pd) u v (e_w ax pa pb pc)
def e_y (ax : Int32) (u v pa pb pc pd : Int64) : Int64 := m_oy ax (e_al ax u v pa pb pc pd) u v (e_w ax pa pb pc)
def e_z (ax : Int32) (u v pa pb pc pd : Int64) : Int64 := m_oz ax (e_al ax u v pa pb pc pd) u v (e_w ax pa pb pc)

section
variable {l : Launch} {D : va_G} {cI cJ cP cS : ClassId} {b0 : Nat} {h : gh_M}

set_option maxHeartbeats 4000000 in
set_option maxRecDepth 100000 in
/-- topHas -/
theorem c_X_topHas {sp al fi : Nat} {n : Nat} {ga : Nat → Option Nat} {gf : Nat → Int32} {pl fs : Nat → Nat} {pa pb pc pd : Nat → Int64} (hsp : h sp = some (.inr (2, [.ref al, .ref fi, .int (nI n)]))) (hal : h al = some (.inl (cP, 14, .inr (.inr (.inr (.inr ga)))))) (hfi : h fi = some (.inl (cI, 14, .inl gf))) (hga : ∀ i, i < n → ga i = some (pl i)) (hgf : ∀ i, i < n → gf i = nI (fs i)) (hfs : ∀ i, fs i < 14) (hpl : ∀ i, i < n → h (pl i) = some (.inr (1, [.long (pa i), .long (pb i), .long (pc i), .long (pd i)]))) (hn : n ≤ 14) (h6 : 6 ≤ n) {x sk po : Nat} {gs : Nat → Option Nat} {so wo : Nat → Nat} {wd : Nat → Nat → Int64} {ht : Nat} {px py pz pw : Int64} (hxx : h x = some (.inr (0, [.ref sp, .ref sk, .ref po, .int (nI ht)]))) (hsk : h sk = some (.inl (cS, 6, .inr (.inr (.inr (.inr gs)))))) (hgs : ∀ j, j < 6 → gs j = some (so j)) (hpo : h po = some (.inr (3, [.long px, .long py, .long pz, .long pw]))) (hso : ∀ j, j < 6 → h (so j) = some (.inr (4, [.ref (wo j)]))) (hwo : ∀ j, j < 6 → h (wo j) = some (.inl (cJ, 4, .inr (.inl (wd j))))) (hwi : ∀ i j, i < 6 → j < 6 → wo i = wo j → i = j) (hht : ht ≤ 6) (hs1 : 1 ≤ ht) {ce : Nat} (hce : ce < 16384) : gh_C l D vC (tZ cI cJ cP cS) (xF b0) b0 y_X_topHas w_X_topHas ({ frames := 1, cells := 0, slots := 0, locals := 24 }) [.ref x, .int (nI ce)] h (rI (m_b (m_top (wd (ht - 1)) ce)) h) := by
  refine gh_ofW (by decide) (Nat.le_of_ble_eq_true rfl) ?_
  intro p e s m below meth c ls hctx hno hl hG hK hX
  obtain ⟨hx, hb, hr, hml, hown, hlk, hts, hnm⟩ := hctx
  have htb : ∀ w ∈ tB, w.before _ s = true := fun w hw => hts w (List.mem_cons_of_mem _ hw)
  replace hl : lv_has ls 2 [(0, .ref x), (1, .int (nI ce))] := hl
  refine lv_iload_n hx hb d_X_topHas_0 rfl (lv_at hl 1 rfl) ?_
  refine gh_cS (As := [.int (nI ce)]) (rest := []) (xF_ok b0) hx hb hml hown hK hX hG c_Ps_isCellInBox (q_Ps_isCellInBox htb ⟨by decide, by decide⟩) (htb _ k_2_115) (htb _ k_2_116) rfl hl.1 rfl (Nat.le_of_ble_eq_true rfl) d_X_topHas_1 ⟨by decide, by decide⟩ (fun v9 h9 H l9 hp9 hG => ?_) (fun _ _ _ _ hp9 _ => by cases hp9.1)
  obtain ⟨hv9, hh9⟩ := hp9
  cases hv9
  rw [hh9] at hG
  refine W.eq (g2 := F0 m 4 ls [.int (m_b (decide ((nI ce) &&& 63 = 63)))]) rfl ?_
  refine W.widen (k := 0) (n := 0) (by decide) (by decide) ?_
  refine lv_if_eq (tgt := 32) hx hb d_X_topHas_4 (by decide) (fun hc4 => ?_) (fun hc4 => ?_)
  · skip
    replace hc4 := mb_0.mp hc4
    refine lv_iconst (v := 0) hx hb d_X_topHas_32 (by decide) ?_
    exact gh_iret hx hb hr hlk rfl hG d_X_topHas_33 ⟨by simp [m_top, m_b, hc4], rfl⟩
  · skip
    replace hc4 := mb_1.mp hc4
    refine lv_aload_n hx hb d_X_topHas_7 rfl (lv_at hl 0 rfl) ?_
    refine gh_get (ci := 0) hx hb htb in_X hown hK hG hxx rfl 1 (by decide) (htb _ k_1_110) (fun _ h9 => h9) rfl d_X_topHas_8 ?_
    refine lv_aload_n hx hb d_X_topHas_11 rfl (lv_at hl 0 rfl) ?_
    refine gh_get (ci := 0) hx hb htb in_X hown hK hG hxx rfl 3 (by decide) (htb _ k_1_112) (fun _ h9 => h9) rfl d_X_topHas_12 ?_
    refine lv_iconst (v := 1) hx hb d_X_topHas_15 (by decide) ?_
    refine lv_isub hx hb d_X_topHas_16 ?_
    rw [show nI ht - 1 = nI (ht - 1) from pk_sub (a := ht) (b := 1) (by omega)]
    refine gh_aald (v := so (ht - 1)) hx hb hK hG 3 hsk rfl (vp_in_nI (by omega) (by decide)) (by rw [nI_clamp (by omega)]; exact hgs _ (by omega)) d_X_topHas_17 ?_
    refine lv_iload_n hx hb d_X_topHas_18 rfl (lv_at hl 1 rfl) ?_
    refine gh_cS (As := [.int (nI ce)]) (rest := [.ref (so (ht - 1))]) (xF_ok b0) hx hb hml hown hK hX hG c_Ps_givenOfCell (q_Ps_givenOfCell htb ⟨by decide, by decide⟩) (htb _ k_2_118) (htb _ k_2_119) rfl hl.1 rfl (Nat.le_of_ble_eq_true rfl) d_X_topHas_19 ⟨by decide, by decide⟩ (fun v9 h9 H l9 hp9 hG => ?_) (fun _ _ _ _ hp9 _ => by cases hp9.1)
    obtain ⟨hv9, hh9⟩ := hp9
    cases hv9
    rw [hh9] at hG
    refine W.eq (g2 := F0 m 22 ls [.int (nI ce >>> ((6 : Int32) &&& 31)), .ref (so (ht - 1))]) rfl ?_
    refine W.widen (k := 0) (n := 0) (by decide) (by decide) ?_
    rw [show nI ce >>> ((6 : Int32) &&& 31) = nI (ce / 64) from pk_shrN (by omega) _ 6 (by decide)]
    refine gh_cV (ci := 4) (As := [.int (nI (ce / 64))]) (rest := []) (xF_ok b0) hx hb hml hown hK hX hG rfl (hso (ht - 1) (by omega)) (c_So_has (hso (ht - 1) (by omega)) (hwo (ht - 1) (by omega)) (by omega)) (q_So_has htb ⟨by decide, by decide⟩) (htb _ k_2_121) (htb _ k_2_122) (htb _ k_2_123) rfl hl.1 rfl (Nat.le_of_ble_eq_true rfl) d_X_topHas_22 ⟨by decide, by decide⟩ (fun v9 h9 H l9 hp9 hG => ?_) (fun _ _ _ _ hp9 _ => by cases hp9.1)
    obtain ⟨hv9, hh9⟩ := hp9
    cases hv9
    rw [hh9] at hG
    refine W.eq (g2 := F0 m 25 ls [.int (m_b (m_has (wd (ht - 1)) (ce / 64)))]) rfl ?_
    refine W.widen (k := 0) (n := 0) (by decide) (by decide) ?_
    refine lv_if_eq (tgt := 32) hx hb d_X_topHas_25 (by decide) (fun hc25 => ?_) (fun hc25 => ?_)
    · skip
      replace hc25 := mb_0.mp hc25
      refine lv_iconst (v := 0) hx hb d_X_topHas_32 (by decide) ?_
      exact gh_iret hx hb hr hlk rfl hG d_X_topHas_33 ⟨by simp [m_top, m_b, hc4, hc25], rfl⟩
    · skip
      replace hc25 := mb_1.mp hc25
      refine lv_iconst (v := 1) hx hb d_X_topHas_28 (by decide) ?_
      refine lv_goto (tgt := 33) hx hb d_X_topHas_29 (by decide) ?_
      exact gh_iret hx hb hr hlk rfl hG d_X_topHas_33 ⟨by simp [m_top, m_b, hc4, hc25], rfl⟩

set_option maxHeartbeats 4000000 in
set_option maxRecDepth 100000 in
/-- lookAtSpot -/
theorem c_X_lookAtSpot {sp al fi : Nat} {n : Nat} {ga : Nat → Option Nat} {gf : Nat → Int32} {pl fs : Nat → Nat} {pa pb pc pd : Nat → Int64} (hsp : h sp = some (.inr (2, [.ref al, .ref fi, .int (nI n)]))) (hal : h al = some (.inl (cP, 14, .inr (.inr (.inr (.inr ga)))))) (hfi : h fi = some (.inl (cI, 14, .inl gf))) (hga : ∀ i, i < n → ga i = some (pl i)) (hgf : ∀ i, i < n → gf i = nI (fs i)) (hfs : ∀ i, fs i < 14) (hpl : ∀ i, i < n → h (pl i) = some (.inr (1, [.long (pa i), .long (pb i), .long (pc i), .long (pd i)]))) (hn : n ≤ 14) (h6 : 6 ≤ n) {x sk po : Nat} {gs : Nat → Option Nat} {so wo : Nat → Nat} {wd : Nat → Nat → Int64} {ht : Nat} {px py pz pw : Int64} (hxx : h x = some (.inr (0, [.ref sp, .ref sk, .ref po, .int (nI ht)]))) (hsk : h sk = some (.inl (cS, 6, .inr (.inr (.inr (.inr gs)))))) (hgs : ∀ j, j < 6 → gs j = some (so j)) (hpo : h po = some (.inr (3, [.long px, .long py, .long pz, .long pw]))) (hso : ∀ j, j < 6 → h (so j) = some (.inr (4, [.ref (wo j)]))) (hwo : ∀ j, j < 6 → h (wo j) = some (.inl (cJ, 4, .inr (.inl (wd j))))) (hwi : ∀ i j, i < 6 → j < 6 → wo i = wo j → i = j) (hht : ht ≤ 6) (hs1 : 1 ≤ ht) {fc : Nat} (hfc : fc < n) : gh_C l D vC (tZ cI cJ cP cS) (xF b0) b0 y_X_lookAtSpot w_X_lookAtSpot ({ frames := 3, cells := 0, slots := 0, locals := 80 }) [.ref x, .int (nI fc)] h (rI (m_lkat (wd (ht - 1)) n fs pa pb pc pd fc px py pz pw) h) := by
  refine gh_ofW (by decide) (Nat.le_of_ble_eq_true rfl) ?_
  intro p e s m below meth c ls hctx hno hl hG hK hX
  obtain ⟨hx, hb, hr, hml, hown, hlk, hts, hnm⟩ := hctx
  have htb : ∀ w ∈ tB, w.before _ s = true := fun w hw => hts w (List.mem_cons_of_mem _ hw)
  replace hl : lv_has ls 4 [(0, .ref x), (1, .int (nI fc))] := hl
  refine lv_aload_n hx hb d_X_lookAtSpot_0 rfl (lv_at hl 0 rfl) ?_
  refine lv_aload_n hx hb d_X_lookAtSpot_1 rfl (lv_at hl 0 rfl) ?_
  refine gh_get (ci := 0) hx hb htb in_X hown hK hG hxx rfl 0 (by decide) (htb _ k_1_109) (fun _ h9 => h9) rfl d_X_lookAtSpot_2 ?_
  refine lv_aload_n hx hb d_X_lookAtSpot_5 rfl (lv_at hl 0 rfl) ?_
  refine gh_get (ci := 0) hx hb htb in_X hown hK hG hxx rfl 2 (by decide) (htb _ k_1_111) (fun _ h9 => h9) rfl d_X_lookAtSpot_6 ?_
  refine lv_iload_n hx hb d_X_lookAtSpot_9 rfl (lv_at hl 1 rfl) ?_
  refine gh_cV (ci := 2) (As := [.ref po, .int (nI fc)]) (rest := [.ref x]) (xF_ok b0) hx hb hml hown hK hX hG rfl hsp (c_Ps_cellWhereLess hsp hal hfi hga hgf hfs hpl hn hpo (by omega)) (q_Ps_cellWhereLess htb ⟨by decide, by decide⟩) (htb _ k_2_157) (htb _ k_2_158) (htb _ k_2_159) rfl hl.1 rfl (Nat.le_of_ble_eq_true rfl) d_X_lookAtSpot_10 ⟨by decide, by decide⟩ (fun v9 h9 H l9 hp9 hG => ?_) (fun _ _ _ _ hp9 _ => by cases hp9.1)
  obtain ⟨hv9, hh9⟩ := hp9
  cases hv9
  rw [hh9] at hG
  refine W.eq (g2 := F0 m 13 ls [.int (m_bits (fun i => decide (m_exc (pa i) (pb i) (pc i) (pd i) px py pz pw < 0)) n ||| m_bits (fun i => decide (fs i = fc) && (m_lk (pa i) (pb i) (pc i) (pa fc) (pb fc) (pc fc) == true)) n), .ref x]) rfl ?_
  refine W.widen (k := 0) (n := 0) (by decide) (by decide) ?_
  rw [m_bits_or _ _ _ hn]
  refine W.eq (g2 := F0 m 13 ls [.int (nI (m_cs n fs pa pb pc pd fc true px py pz pw)), .ref x]) rfl ?_
  refine gh_cV (ci := 0) (As := [.int (nI (m_cs n fs pa pb pc pd fc true px py pz pw))]) (rest := []) (xF_ok b0) hx hb hml hown hK hX hG rfl hxx (c_X_topHas hsp hal hfi hga hgf hfs hpl hn h6 hxx hsk hgs hpo hso hwo hwi hht hs1 (pb_14 _ hn)) (q_X_topHas htb ⟨by decide, by decide⟩) (htb _ k_2_111) (htb _ k_2_113) (htb _ k_s_X_topHas) rfl hl.1 rfl (Nat.le_of_ble_eq_true rfl) d_X_lookAtSpot_13 ⟨by decide, by decide⟩ (fun v9 h9 H l9 hp9 hG => ?_) (fun _ _ _ _ hp9 _ => by cases hp9.1)
  obtain ⟨hv9, hh9⟩ := hp9
  cases hv9
  rw [hh9] at hG
  refine W.eq (g2 := F0 m 16 ls [.int (m_b (m_top (wd (ht - 1)) (m_cs n fs pa pb pc pd fc true px py pz pw)))]) rfl ?_
  refine W.widen (k := 0) (n := 0) (by decide) (by decide) ?_
  refine lv_istore_n (lv' := [(2, .int (m_b (m_top (wd (ht - 1)) (m_cs n fs pa pb pc pd fc true px py pz pw)))), (0, .ref x), (1, .int (nI fc))]) hx hb d_X_lookAtSpot_16 rfl hl (by decide) rfl (fun ls hl => ?_)
  refine lv_aload_n hx hb d_X_lookAtSpot_17 rfl (lv_at hl 1 rfl) ?_
  refine lv_aload_n hx hb d_X_lookAtSpot_18 rfl (lv_at hl 1 rfl) ?_
  refine gh_get (ci := 0) hx hb htb in_X hown hK hG hxx rfl 0 (by decide) (htb _ k_1_109) (fun _ h9 => h9) rfl d_X_lookAtSpot_19 ?_
  refine lv_aload_n hx hb d_X_lookAtSpot_22 rfl (lv_at hl 1 rfl) ?_
  refine gh_get (ci := 0) hx hb htb in_X hown hK hG hxx rfl 2 (by decide) (htb _ k_1_111) (fun _ h9 => h9) rfl d_X_lookAtSpot_23 ?_
  refine lv_iload_n hx hb d_X_lookAtSpot_26 rfl (lv_at hl 2 rfl) ?_
  refine gh_cV (ci := 2) (As := [.ref po, .int (nI fc)]) (rest := [.ref x]) (xF_ok b0) hx hb hml hown hK hX hG rfl hsp (c_Ps_cellWhereMore hsp hal hfi hga hgf hfs hpl hn hpo (by omega)) (q_Ps_cellWhereMore htb ⟨by decide, by decide⟩) (htb _ k_2_170) (htb _ k_2_171) (htb _ k_2_172) rfl hl.1 rfl (Nat.le_of_ble_eq_true rfl) d_X_lookAtSpot_27 ⟨by decide, by decide⟩ (fun v9 h9 H l9 hp9 hG => ?_) (fun _ _ _ _ hp9 _ => by cases hp9.1)
  obtain ⟨hv9, hh9⟩ := hp9
  cases hv9
  rw [hh9] at hG
  refine W.eq (g2 := F0 m 30 ls [.int (m_bits (fun i => decide (m_exc (pa i) (pb i) (pc i) (pd i) px py pz pw < 0)) n ||| m_bits (fun i => decide (fs i = fc) && (m_lk (pa i) (pb i) (pc i) (pa fc) (pb fc) (pc fc) == false)) n), .ref x]) rfl ?_
  refine W.widen (k := 0) (n := 0) (by decide) (by decide) ?_
  rw [m_bits_or _ _ _ hn]
  refine W.eq (g2 := F0 m 30 ls [.int (nI (m_cs n fs pa pb pc pd fc false px py pz pw)), .ref x]) rfl ?_
  refine gh_cV (ci := 0) (As := [.int (nI (m_cs n fs pa pb pc pd fc false px py pz pw))]) (rest := []) (xF_ok b0) hx hb hml hown hK hX hG rfl hxx (c_X_topHas hsp hal hfi hga hgf hfs hpl hn h6 hxx hsk hgs hpo hso hwo hwi hht hs1 (pb_14 _ hn)) (q_X_topHas htb ⟨by decide, by decide⟩) (htb _ k_2_111) (htb _ k_2_113) (htb _ k_s_X_topHas) rfl hl.1 rfl (Nat.le_of_ble_eq_true rfl) d_X_lookAtSpot_30 ⟨by decide, by decide⟩ (fun v9 h9 H l9 hp9 hG => ?_) (fun _ _ _ _ hp9 _ => by cases hp9.1)
  obtain ⟨hv9, hh9⟩ := hp9
  cases hv9
  rw [hh9] at hG
  refine W.eq (g2 := F0 m 33 ls [.int (m_b (m_top (wd (ht - 1)) (m_cs n fs pa pb pc pd fc false px py pz pw)))]) rfl ?_
  refine W.widen (k := 0) (n := 0) (by decide) (by decide) ?_
  refine lv_istore_n (lv' := [(3, .int (m_b (m_top (wd (ht - 1)) (m_cs n fs pa pb pc pd fc false px py pz pw)))), (2, .int (m_b (m_top (wd (ht - 1)) (m_cs n fs pa pb pc pd fc true px py pz pw)))), (0, .ref x), (1, .int (nI fc))]) hx hb d_X_lookAtSpot_33 rfl hl (by decide) rfl (fun ls hl => ?_)
  refine lv_iload_n hx hb d_X_lookAtSpot_34 rfl (lv_at hl 1 rfl) ?_
  refine lv_iload_n hx hb d_X_lookAtSpot_35 rfl (lv_at hl 0 rfl) ?_
  refine lv_icmp_ne (tgt := 41) hx hb d_X_lookAtSpot_36 (by decide) (fun hc36 => ?_) (fun hc36 => ?_)
  · skip
    refine lv_iload_n hx hb d_X_lookAtSpot_41 rfl (lv_at hl 1 rfl) ?_
    refine lv_if_eq (tgt := 49) hx hb d_X_lookAtSpot_42 (by decide) (fun hc42 => ?_) (fun hc42 => ?_)
    · skip
      replace hc42 := mb_0.mp hc42
      refine lv_iconst (v := (-1)) hx hb d_X_lookAtSpot_49 (by decide) ?_
      exact gh_iret hx hb hr hlk rfl hG d_X_lookAtSpot_50 ⟨by unfold m_lkat m_look; rw [if_neg (fun k9 => hc36 (mb_eq.mpr k9)), if_neg (by rw [hc42]; decide)], rfl⟩
    · skip
      replace hc42 := mb_1.mp hc42
      refine lv_iconst (v := 1) hx hb d_X_lookAtSpot_45 (by decide) ?_
      refine lv_goto (tgt := 50) hx hb d_X_lookAtSpot_46 (by decide) ?_
      exact gh_iret hx hb hr hlk rfl hG d_X_lookAtSpot_50 ⟨by unfold m_lkat m_look; rw [if_neg (fun k9 => hc36 (mb_eq.mpr k9)), if_pos hc42], rfl⟩
  · skip
    refine lv_iconst (v := 0) hx hb d_X_lookAtSpot_39 (by decide) ?_
    exact gh_iret hx hb hr hlk rfl hG d_X_lookAtSpot_40 ⟨by unfold m_lkat m_look; rw [if_pos (mb_eq.mp hc36)], rfl⟩

set_option maxHeartbeats 4000000 in
set_option maxRecDepth 100000 in
/-- inside -/
theorem c_X_inside {sp al fi : Nat} {n : Nat} {ga : Nat → Option Nat} {gf : Nat → Int32} {pl fs : Nat → Nat} {pa pb pc pd : Nat → Int64} (hsp : h sp = some (.inr (2, [.ref al, .ref fi, .int (nI n)]))) (hal : h al = some (.inl (cP, 14, .inr (.inr (.inr (.inr ga)))))) (hfi : h fi = some (.inl (cI, 14, .inl gf))) (hga : ∀ i, i < n → ga i = some (pl i)) (hgf : ∀ i, i < n → gf i = nI (fs i)) (hfs : ∀ i, fs i < 14) (hpl : ∀ i, i < n → h (pl i) = some (.inr (1, [.long (pa i), .long (pb i), .long (pc i), .long (pd i)]))) (hn : n ≤ 14) (h6 : 6 ≤ n) {x sk po : Nat} {gs : Nat → Option Nat} {so wo : Nat → Nat} {wd : Nat → Nat → Int64} {ht : Nat} {px py pz pw : Int64} (hxx : h x = some (.inr (0, [.ref sp, .ref sk, .ref po, .int (nI ht)]))) (hsk : h sk = some (.inl (cS, 6, .inr (.inr (.inr (.inr gs)))))) (hgs : ∀ j, j < 6 → gs j = some (so j)) (hpo : h po = some (.inr (3, [.long px, .long py, .long pz, .long pw]))) (hso : ∀ j, j < 6 → h (so j) = some (.inr (4, [.ref (wo j)]))) (hwo : ∀ j, j < 6 → h (wo j) = some (.inl (cJ, 4, .inr (.inl (wd j))))) (hwi : ∀ i j, i < 6 → j < 6 → wo i = wo j → i = j) (hht : ht ≤ 6) {a1 b1 c1 d1 : Int32} (htr : xc_off l) : gh_C l D vC (tZ cI cJ cP cS) (xF b0) b0 y_X_inside w_X_inside ({ frames := 7, cells := 2, slots := 12, locals := 130 }) [.ref x, .int a1, .int b1, .int c1, .int d1] h (rB (m_badQ a1 b1 c1 d1) (rT 6 h) (rB (decide (ht = 0)) (rT 7 h) (fun oc h2 => oc = .returned (some (.int (if m_any (fun i => decide (m_exc (pa i) (pb i) (pc i) (pd i) (Int32.toInt64 a1) (Int32.toInt64 b1) (Int32.toInt64 c1) (Int32.toInt64 d1) = 0)) n = true then 2 else m_b (m_top (wd (ht - 1)) (pb_num (fun i => decide (m_exc (pa i) (pb i) (pc i) (pd i) (Int32.toInt64 a1) (Int32.toInt64 b1) (Int32.toInt64 c1) (Int32.toInt64 d1) < 0)) n))))) ∧ h2 = gh_up h po (.inr (3, [.long (Int32.toInt64 a1), .long (Int32.toInt64 b1), .long (Int32.toInt64 c1), .long (Int32.toInt64 d1)]))))) := by
  refine gh_ofW (by decide) (Nat.le_of_ble_eq_true rfl) ?_
  intro p e s m below meth c ls hctx hno hl hG hK hX
  obtain ⟨hx, hb, hr, hml, hown, hlk, hts, hnm⟩ := hctx
  have htb : ∀ w ∈ tB, w.before _ s = true := fun w hw => hts w (List.mem_cons_of_mem _ hw)
  replace hl : lv_has ls 5 [(0, .ref x), (1, .int a1), (2, .int b1), (3, .int c1), (4, .int d1)] := hl
  refine lv_iload_n hx hb d_X_inside_0 rfl (lv_at hl 1 rfl) ?_
  refine lv_iload_n hx hb d_X_inside_1 rfl (lv_at hl 2 rfl) ?_
  refine lv_iload_n hx hb d_X_inside_2 rfl (lv_at hl 3 rfl) ?_
  refine lv_iload hx hb d_X_inside_3 (lv_at hl 4 rfl) ?_
  refine gh_cS (As := [.int a1, .int b1, .int c1, .int d1]) (rest := []) (xF_ok b0) hx hb hml hown hK hX hG (c_X_requirePoint htr) (q_X_requirePoint htb ⟨by decide, by decide⟩) (htb _ k_2_90) (htb _ k_2_91) rfl hl.1 rfl (Nat.le_of_ble_eq_true rfl) d_X_inside_5 ⟨by decide, by decide⟩ (fun v9 h9 H l9 hp9 hG => ?_) (fun x9 h9 H l9 hp9 hG => gx_widenT (k := 2) (n := 12) (by decide) (by decide) (gh_pass hlk (fun z9 hz9 => hno z9 hz9 _) hG (rB_1 (rB_v hp9).1 (rB_v hp9).2)))
  obtain ⟨hbq, hv9, hh9⟩ := rB_r hp9
  cases hv9
  rw [hh9] at hG
  refine W.eq (g2 := F0 m 8 ls []) rfl ?_
  refine W.widen (k := 1) (n := 6) (by decide) (by decide) ?_
  refine lv_aload_n hx hb d_X_inside_8 rfl (lv_at hl 0 rfl) ?_
  refine gh_cV (ci := 0) (As := []) (rest := []) (xF_ok b0) hx hb hml hown hK hX hG rfl hxx (c_X_requireSolid hxx hht htr) (q_X_requireSolid htb ⟨by decide, by decide⟩) (htb _ k_2_39) (htb _ k_2_41) (htb _ k_s_X_requireSolid) rfl hl.1 rfl (Nat.le_of_ble_eq_true rfl) d_X_inside_9 ⟨by decide, by decide⟩ (fun v9 h9 H l9 hp9 hG => ?_) (fun x9 h9 H l9 hp9 hG => gx_widenT (k := 2) (n := 12) (by decide) (by decide) (gh_pass hlk (fun z9 hz9 => hno z9 hz9 _) hG (rB_0 hbq (rB_1 (rB_v hp9).1 (rB_v hp9).2))))
  obtain ⟨hb9, hv9, hh9⟩ := rB_r hp9
  cases hv9
  rw [hh9] at hG
  have hsol := of_decide_eq_false hb9
  refine W.eq (g2 := F0 m 12 ls []) rfl ?_
  refine W.widen (k := 2) (n := 12) (by decide) (by decide) ?_
  have hs1 : 1 ≤ ht := by omega
  refine lv_aload_n hx hb d_X_inside_12 rfl (lv_at hl 0 rfl) ?_
  refine gh_get (ci := 0) hx hb htb in_X hown hK hG hxx rfl 2 (by decide) (htb _ k_1_111) (fun _ h9 => h9) rfl d_X_inside_13 ?_
  refine lv_iload_n hx hb d_X_inside_16 rfl (lv_at hl 1 rfl) ?_
  refine lv_i2l (v := Int32.toInt64 a1) hx hb d_X_inside_17 rfl ?_
  refine lv_iload_n hx hb d_X_inside_18 rfl (lv_at hl 2 rfl) ?_
  refine lv_i2l (v := Int32.toInt64 b1) hx hb d_X_inside_19 rfl ?_
  refine lv_iload_n hx hb d_X_inside_20 rfl (lv_at hl 3 rfl) ?_
  refine lv_i2l (v := Int32.toInt64 c1) hx hb d_X_inside_21 rfl ?_
  refine lv_iload hx hb d_X_inside_22 (lv_at hl 4 rfl) ?_
  refine lv_i2l (v := Int32.toInt64 d1) hx hb d_X_inside_24 rfl ?_
  refine gh_cV (ci := 3) (As := [.long (Int32.toInt64 a1), .long (Int32.toInt64 b1), .long (Int32.toInt64 c1), .long (Int32.toInt64 d1)]) (rest := []) (xF_ok b0) hx hb hml hown hK hX hG rfl hpo (c_Pt_place hpo) (q_Pt_place htb ⟨by decide, by decide⟩) (htb _ k_2_95) (htb _ k_2_96) (htb _ k_2_97) rfl hl.1 rfl (Nat.le_of_ble_eq_true rfl) d_X_inside_25 ⟨by decide, by decide⟩ (fun v9 h9 H l9 hp9 hG => ?_) (fun _ _ _ _ hp9 _ => by cases hp9.1)
  obtain ⟨hv9, hh9⟩ := hp9
  cases hv9
  rw [hh9] at hG
  have hq1 : (gh_up h po (.inr (3, [.long (Int32.toInt64 a1), .long (Int32.toInt64 b1), .long (Int32.toInt64 c1), .long (Int32.toInt64 d1)]))) po = some (.inr (3, [.long (Int32.toInt64 a1), .long (Int32.toInt64 b1), .long (Int32.toInt64 c1), .long (Int32.toInt64 d1)])) := gh_self _ _ _
  replace hG : gh_P D vC b0 (gh_up h po (.inr (3, [.long (Int32.toInt64 a1), .long (Int32.toInt64 b1), .long (Int32.toInt64 c1), .long (Int32.toInt64 d1)]))) s.heap _ _ := hG
  have hsp_1 : (gh_up h po (.inr (3, [.long (Int32.toInt64 a1), .long (Int32.toInt64 b1), .long (Int32.toInt64 c1), .long (Int32.toInt64 d1)]))) sp = some (.inr (2, [.ref al, .ref fi, .int (nI n)])) := gh_keep hpo hsp (by simp)
  have hal_1 : (gh_up h po (.inr (3, [.long (Int32.toInt64 a1), .long (Int32.toInt64 b1), .long (Int32.toInt64 c1), .long (Int32.toInt64 d1)]))) al = some (.inl (cP, 14, .inr (.inr (.inr (.inr ga))))) := gh_keep hpo hal (by simp)
  have hfi_1 : (gh_up h po (.inr (3, [.long (Int32.toInt64 a1), .long (Int32.toInt64 b1), .long (Int32.toInt64 c1), .long (Int32.toInt64 d1)]))) fi = some (.inl (cI, 14, .inl gf)) := gh_keep hpo hfi (by simp)
  have hxx_1 : (gh_up h po (.inr (3, [.long (Int32.toInt64 a1), .long (Int32.toInt64 b1), .long (Int32.toInt64 c1), .long (Int32.toInt64 d1)]))) x = some (.inr (0, [.ref sp, .ref sk, .ref po, .int (nI ht)])) := gh_keep hpo hxx (by simp)
  have hsk_1 : (gh_up h po (.inr (3, [.long (Int32.toInt64 a1), .long (Int32.toInt64 b1), .long (Int32.toInt64 c1), .long (Int32.toInt64 d1)]))) sk = some (.inl (cS, 6, .inr (.inr (.inr (.inr gs))))) := gh_keep hpo hsk (by simp)
  replace hpl : ∀ i, i < n → (gh_up h po (.inr (3, [.long (Int32.toInt64 a1), .long (Int32.toInt64 b1), .long (Int32.toInt64 c1), .long (Int32.toInt64 d1)]))) (pl i) = some (.inr (1, [.long (pa i), .long (pb i), .long (pc i), .long (pd i)])) := fun i hi => gh_keep hpo (hpl i hi) (by simp)
  replace hso : ∀ j, j < 6 → (gh_up h po (.inr (3, [.long (Int32.toInt64 a1), .long (Int32.toInt64 b1), .long (Int32.toInt64 c1), .long (Int32.toInt64 d1)]))) (so j) = some (.inr (4, [.ref (wo j)])) := fun j hj => gh_keep hpo (hso j hj) (by simp)
  replace hwo : ∀ j, j < 6 → (gh_up h po (.inr (3, [.long (Int32.toInt64 a1), .long (Int32.toInt64 b1), .long (Int32.toInt64 c1), .long (Int32.toInt64 d1)]))) (wo j) = some (.inl (cJ, 4, .inr (.inl (wd j)))) := fun j hj => gh_keep hpo (hwo j hj) (by simp)
  refine W.eq (g2 := F0 m 28 ls []) rfl ?_
  refine W.widen (k := 2) (n := 12) (by decide) (by decide) ?_
  refine lv_aload_n hx hb d_X_inside_28 rfl (lv_at hl 0 rfl) ?_
  refine gh_get (ci := 0) hx hb htb in_X hown hK hG hxx_1 rfl 0 (by decide) (htb _ k_1_109) (fun _ h9 => h9) rfl d_X_inside_29 ?_
  refine lv_aload_n hx hb d_X_inside_32 rfl (lv_at hl 0 rfl) ?_
  refine gh_get (ci := 0) hx hb htb in_X hown hK hG hxx_1 rfl 2 (by decide) (htb _ k_1_111) (fun _ h9 => h9) rfl d_X_inside_33 ?_
  refine gh_cV (ci := 2) (As := [.ref po]) (rest := []) (xF_ok b0) hx hb hml hown hK hX hG rfl hsp_1 (c_Ps_isOnAny hsp_1 hal_1 hfi_1 hga hgf hfs hpl hn hq1) (q_Ps_isOnAny htb ⟨by decide, by decide⟩) (htb _ k_2_99) (htb _ k_2_100) (htb _ k_2_101) rfl hl.1 rfl (Nat.le_of_ble_eq_true rfl) d_X_inside_36 ⟨by decide, by decide⟩ (fun v9 h9 H l9 hp9 hG => ?_) (fun _ _ _ _ hp9 _ => by cases hp9.1)
  obtain ⟨hv9, hh9⟩ := hp9
  cases hv9
  rw [hh9] at hG
  refine W.eq (g2 := F0 m 39 ls [.int (m_b (m_any (fun i => decide (m_exc (pa i) (pb i) (pc i) (pd i) (Int32.toInt64 a1) (Int32.toInt64 b1) (Int32.toInt64 c1) (Int32.toInt64 d1) = 0)) n))]) rfl ?_
  refine W.widen (k := 2) (n := 12) (by decide) (by decide) ?_
  refine lv_if_eq (tgt := 44) hx hb d_X_inside_39 (by decide) (fun hc39 => ?_) (fun hc39 => ?_)
  · skip
    replace hc39 := mb_0.mp hc39
    refine lv_aload_n hx hb d_X_inside_44 rfl (lv_at hl 0 rfl) ?_
    refine lv_aload_n hx hb d_X_inside_45 rfl (lv_at hl 0 rfl) ?_
    refine gh_get (ci := 0) hx hb htb in_X hown hK hG hxx_1 rfl 0 (by decide) (htb _ k_1_109) (fun _ h9 => h9) rfl d_X_inside_46 ?_
    refine lv_aload_n hx hb d_X_inside_49 rfl (lv_at hl 0 rfl) ?_
    refine gh_get (ci := 0) hx hb htb in_X hown hK hG hxx_1 rfl 2 (by decide) (htb _ k_1_111) (fun _ h9 => h9) rfl d_X_inside_50 ?_
    refine gh_cV (ci := 2) (As := [.ref po]) (rest := [.ref x]) (xF_ok b0) hx hb hml hown hK hX hG rfl hsp_1 (c_Ps_cellOf hsp_1 hal_1 hfi_1 hga hgf hfs hpl hn hq1) (q_Ps_cellOf htb ⟨by decide, by decide⟩) (htb _ k_2_107) (htb _ k_2_108) (htb _ k_2_109) rfl hl.1 rfl (Nat.le_of_ble_eq_true rfl) d_X_inside_53 ⟨by decide, by decide⟩ (fun v9 h9 H l9 hp9 hG => ?_) (fun _ _ _ _ hp9 _ => by cases hp9.1)
    obtain ⟨hv9, hh9⟩ := hp9
    cases hv9
    rw [hh9] at hG
    refine W.eq (g2 := F0 m 56 ls [.int (m_bits (fun i => decide (m_exc (pa i) (pb i) (pc i) (pd i) (Int32.toInt64 a1) (Int32.toInt64 b1) (Int32.toInt64 c1) (Int32.toInt64 d1) < 0)) n), .ref x]) rfl ?_
    refine W.widen (k := 2) (n := 12) (by decide) (by decide) ?_
    rw [m_bits_num _ _ hn]
    refine gh_cV (ci := 0) (As := [.int (nI (pb_num (fun i => decide (m_exc (pa i) (pb i) (pc i) (pd i) (Int32.toInt64 a1) (Int32.toInt64 b1) (Int32.toInt64 c1) (Int32.toInt64 d1) < 0)) n))]) (rest := []) (xF_ok b0) hx hb hml hown hK hX hG rfl hxx_1 (c_X_topHas hsp_1 hal_1 hfi_1 hga hgf hfs hpl hn h6 hxx_1 hsk_1 hgs hq1 hso hwo hwi hht hs1 (pb_14 _ hn)) (q_X_topHas htb ⟨by decide, by decide⟩) (htb _ k_2_111) (htb _ k_2_113) (htb _ k_s_X_topHas) rfl hl.1 rfl (Nat.le_of_ble_eq_true rfl) d_X_inside_56 ⟨by decide, by decide⟩ (fun v9 h9 H l9 hp9 hG => ?_) (fun _ _ _ _ hp9 _ => by cases hp9.1)
    obtain ⟨hv9, hh9⟩ := hp9
    cases hv9
    rw [hh9] at hG
    refine W.eq (g2 := F0 m 59 ls [.int (m_b (m_top (wd (ht - 1)) (pb_num (fun i => decide (m_exc (pa i) (pb i) (pc i) (pd i) (Int32.toInt64 a1) (Int32.toInt64 b1) (Int32.toInt64 c1) (Int32.toInt64 d1) < 0)) n)))]) rfl ?_
    refine W.widen (k := 2) (n := 12) (by decide) (by decide) ?_
    refine lv_if_eq (tgt := 66) hx hb d_X_inside_59 (by decide) (fun hc59 => ?_) (fun hc59 => ?_)
    · skip
      replace hc59 := mb_0.mp hc59
      refine lv_iconst (v := 0) hx hb d_X_inside_66 (by decide) ?_
      exact gh_iret hx hb hr hlk rfl hG d_X_inside_67 (rB_0 hbq (rB_0 (decide_eq_false hsol) ⟨by rw [if_neg (by rw [hc39]; decide), hc59]; rfl, rfl⟩))
    · skip
      replace hc59 := mb_1.mp hc59
      refine lv_iconst (v := 1) hx hb d_X_inside_62 (by decide) ?_
      refine lv_goto (tgt := 67) hx hb d_X_inside_63 (by decide) ?_
      exact gh_iret hx hb hr hlk rfl hG d_X_inside_67 (rB_0 hbq (rB_0 (decide_eq_false hsol) ⟨by rw [if_neg (by rw [hc39]; decide), hc59]; rfl, rfl⟩))
  · skip
    replace hc39 := mb_1.mp hc39
    refine lv_iconst (v := 2) hx hb d_X_inside_42 (by decide) ?_
    exact gh_iret hx hb hr hlk rfl hG d_X_inside_43 (rB_0 hbq (rB_0 (decide_eq_false hsol) ⟨by rw [if_pos hc39], rfl⟩))

end
