def m_badE (ax u v : Int32) : Bool := decide (ax < 0) || (!decide (ax < 3) || (m_bey u 999 || m_bey v 999))
/-- at plane i: the line is found on two planes; it goes in -/
def e_thr (n : Nat) (fs : Nat → Nat) (pa pb pc pd : Nat → Int64) (ax u v : Int32) (i0 : Nat) : Bool := !decide (m_fac ax (pa i0) (pb i0) (pc i0) = 0) && (m_all (fun i => decide (m_exc (pa i) (pb i) (pc i) (pd i) (e_x ax (Int32.toInt64 u) (Int32.toInt64 v) (pa i0) (pb i0) (pc i0) (pd i0)) (e_y ax (Int32.toInt64 u) (Int32.toInt64 v) (pa i0) (pb i0) (pc i0) (pd i0)) (e_z ax (Int32.toInt64 u) (Int32.toInt64 v) (pa i0) (pb i0) (pc i0) (pd i0)) (e_w ax (pa i0) (pb i0) (pc i0)) ≤ 0)) 6 && decide (m_only (fun i => decide (m_exc (pa i) (pb i) (pc i) (pd i) (e_x ax (Int32.toInt64 u) (Int32.toInt64 v) (pa i0) (pb i0) (pc i0) (pd i0)) (e_y ax (Int32.toInt64 u) (Int32.toInt64 v) (pa i0) (pb i0) (pc i0) (pd i0)) (e_z ax (Int32.toInt64 u) (Int32.toInt64 v) (pa i0) (pb i0) (pc i0) (pd i0)) (e_w ax (pa i0) (pb i0) (pc i0)) = 0)) fs n = -1))
def e_ent (f : Nat → Int64) (n : Nat) (fs : Nat → Nat) (pa pb pc pd : Nat → Int64) (ax u v : Int32) (i0 : Nat) : Bool := !decide (m_fac ax (pa i0) (pb i0) (pc i0) = 0) && (m_all (fun i => decide (m_exc (pa i) (pb i) (pc i) (pd i) (e_x ax (Int32.toInt64 u) (Int32.toInt64 v) (pa i0) (pb i0) (pc i0) (pd i0)) (e_y ax (Int32.toInt64 u) (Int32.toInt64 v) (pa i0) (pb i0) (pc i0) (pd i0)) (e_z ax (Int32.toInt64 u) (Int32.toInt64 v) (pa i0) (pb i0) (pc i0) (pd i0)) (e_w ax (pa i0) (pb i0) (pc i0)) ≤ 0)) 6 && (!decide (m_only (fun i => decide (m_exc (pa i) (pb i) (pc i) (pd i) (e_x ax (Int32.toInt64 u) (Int32.toInt64 v) (pa i0) (pb i0) (pc i0) (pd i0)) (e_y ax (Int32.toInt64 u) (Int32.toInt64 v) (pa i0) (pb i0) (pc i0) (pd i0)) (e_z ax (Int32.toInt64 u) (Int32.toInt64 v) (pa i0) (pb i0) (pc i0) (pd i0)) (e_w ax (pa i0) (pb i0) (pc i0)) = 0)) fs n = -1) && (m_lkat f n fs pa pb pc pd i0 (e_x ax (Int32.toInt64 u) (Int32.toInt64 v) (pa i0) (pb i0) (pc i0) (pd i0)) (e_y ax (Int32.toInt64 u) (Int32.toInt64 v) (pa i0) (pb i0) (pc i0) (pd i0)) (e_z ax (Int32.toInt64 u) (Int32.toInt64 v) (pa i0) (pb i0) (pc i0) (pd i0)) (e_w ax (pa i0) (pb i0) (pc i0)) == (if m_fac ax (pa i0) (pb i0) (pc i0) < 0 then 1 else -1))))
theorem mc_nx {p : Nat → Bool} {k : Nat} (h : p k = true) : mc_cnt p (k + 1) = mc_cnt p k + 1 := by simp only [mc_cnt]; rw [if_pos h]
theorem mc_ny {p : Nat → Bool} {k : Nat} (h : p k = false) : mc_cnt p (k + 1) = mc_cnt p k := by simp only [mc_cnt]; rw [if_neg (by rw [h]; decide)]; rfl

def e_post (f : Nat → Int64) (n : Nat) (fs : Nat → Nat) (pa pb pc pd : Nat → Int64) (ax u v : Int32) (i0 : Nat) (h : gh_M) (po : Nat) : Outcome → gh_M → Prop := rB (decide (m_fac ax (pa i0) (pb i0) (pc i0) = 0)) (rI 0 h) (rB (!m_all (fun i => decide (m_exc (pa i) (pb i) (pc i) (pd i) (e_x ax (Int32.toInt64 u) (Int32.toInt64 v) (pa i0) (pb i0) (pc i0) (pd i0)) (e_y ax (Int32.toInt64 u) (Int32.toInt64 v) (pa i0) (pb i0) (pc i0) (pd i0)) (e_z ax (Int32.toInt64 u) (Int32.toInt64 v) (pa i0) (pb i0) (pc i0) (pd i0)) (e_w ax (pa i0) (pb i0) (pc i0)) ≤ 0)) 6) (rI 0 (gh_up h po (.inr (3, [.long (e_x ax (Int32.toInt64 u) (Int32.toInt64 v) (pa i0) (pb i0) (pc i0) (pd i0)), .long (e_y ax (Int32.toInt64 u) (Int32.toInt64 v) (pa i0) (pb i0) (pc i0) (pd i0)), .long (e_z ax (Int32.toInt64 u) (Int32.toInt64 v) (pa i0) (pb i0) (pc i0) (pd i0)), .long (e_w ax (pa i0) (pb i0) (pc i0))])))) (rB (decide (m_only (fun i => decide (m_exc (pa i) (pb i) (pc i) (pd i) (e_x ax (Int32.toInt64 u) (Int32.toInt64 v) (pa i0) (pb i0) (pc i0) (pd i0)) (e_y ax (Int32.toInt64 u) (Int32.toInt64 v) (pa i0) (pb i0) (pc i0) (pd i0)) (e_z ax (Int32.toInt64 u) (Int32.toInt64 v) (pa i0) (pb i0) (pc i0) (pd i0)) (e_w ax (pa i0) (pb i0) (pc i0)) = 0)) fs n = -1)) (rT 9 (gh_up h po (.inr (3, [.long (e_x ax (Int32.toInt64 u) (Int32.toInt64 v) (pa i0) (pb i0) (pc i0) (pd i0)), .long (e_y ax (Int32.toInt64 u) (Int32.toInt64 v) (pa i0) (pb i0) (pc i0) (pd i0)), .long (e_z ax (Int32.toInt64 u) (Int32.toInt64 v) (pa i0) (pb i0) (pc i0) (pd i0)), .long (e_w ax (pa i0) (pb i0) (pc i0))])))) (rI (m_b (m_lkat f n fs pa pb pc pd i0 (e_x ax (Int32.toInt64 u) (Int32.toInt64 v) (pa i0) (pb i0) (pc i0) (pd i0)) (e_y ax (Int32.toInt64 u) (Int32.toInt64 v) (pa i0) (pb i0) (pc i0) (pd i0)) (e_z ax (Int32.toInt64 u) (Int32.toInt64 v) (pa i0) (pb i0) (pc i0) (pd i0)) (e_w ax (pa i0) (pb i0) (pc i0)) == (if m_fac ax (pa i0) (pb i0) (pc i0) < 0 then 1 else -1))) (gh_up h po (.inr (3, [.long (e_x ax (Int32.toInt64 u) (Int32.toInt64 v) (pa i0) (pb i0) (pc i0) (pd i0)), .long (e_y ax (Int32.toInt64 u) (Int32.toInt64 v) (pa i0) (pb i0) (pc i0) (pd i0)), .long (e_z ax (Int32.toInt64 u) (Int32.toInt64 v) (pa i0) (pb i0) (pc i0) (pd i0)), .long (e_w ax (pa i0) (pb i0) (pc i0))]))))))
theorem en_r {f : Nat → Int64} {n po k : Nat} {fs : Nat → Nat} {pa pb pc pd : Nat → Int64} {ax u v : Int32} {h0 h2 : gh_M} {p9 : Int64 × Int64 × Int64 × Int64} {v9 : Option Value} (hp : e_post f n fs pa pb pc pd ax u v k (gh_up h0 po (.inr (3, [.long p9.1, .long p9.2.1, .long p9.2.2.1, .long p9.2.2.2]))) po (.returned v9) h2) :
    e_thr n fs pa pb pc pd ax u v k = false ∧ ∃ b : Bool, b = e_ent f n fs pa pb pc pd ax u v k ∧ (Outcome.returned v9 = .returned (some (.int (m_b b)))) ∧ ∃ p8 : Int64 × Int64 × Int64 × Int64, h2 = gh_up h0 po (.inr (3, [.long p8.1, .long p8.2.1, .long p8.2.2.1, .long p8.2.2.2])) := by
  rcases rB_c hp with ⟨h1, hv, hh⟩ | ⟨h1, hp⟩
  · exact ⟨by unfold e_thr; rw [h1]; rfl, false, by unfold e_ent; rw [h1]; rfl, hv, p9, hh⟩
  · rcases rB_c hp with ⟨h3, hv, hh⟩ | ⟨h3, hp⟩
    · rw [gh_uu] at hh
      have h4 := Bool.not_eq_true' .. ▸ h3
      exact ⟨by unfold e_thr; rw [h1, h4]; rfl, false, by unfold e_ent; rw [h1, h4]; rfl, hv, ⟨_, _, _, _⟩, hh⟩
    · obtain ⟨h5, hv, hh⟩ := rB_r hp
      rw [gh_uu] at hh
      have h4 := Bool.not_eq_false' .. ▸ h3
      exact ⟨by unfold e_thr; rw [h1, h4, h5]; rfl, _, by unfold e_ent; rw [h1, h4, h5]; rfl, hv, ⟨_, _, _, _⟩, hh⟩
theorem en_t {f : Nat → Int64} {n po k : Nat} {fs : Nat → Nat} {pa pb pc pd : Nat → Int64} {ax u v : Int32} {h0 h2 : gh_M} {p9 : Int64 × Int64 × Int64 × Int64} {q : Addr} (hk : k < n) (hf : decide (fs k = k) = true) (hp : e_post f n fs pa pb pc pd ax u v k (gh_up h0 po (.inr (3, [.long p9.1, .long p9.2.1, .long p9.2.2.1, .long p9.2.2.2]))) po (.threw q) h2) :
    m_any (fun i => decide (fs i = i) && e_thr n fs pa pb pc pd ax u v i) n = true ∧ ∃ p8 : Int64 × Int64 × Int64 × Int64, rT 9 (gh_up h0 po (.inr (3, [.long p8.1, .long p8.2.1, .long p8.2.2.1, .long p8.2.2.2]))) (.threw q) h2 := by
  rcases rB_c hp with ⟨h1, hv, hh⟩ | ⟨h1, hp⟩
  · cases hv
  · rcases rB_c hp with ⟨h3, hv, hh⟩ | ⟨h3, hp⟩
    · cases hv
    · rcases rB_c hp with ⟨h5, hp⟩ | ⟨h5, hv, hh⟩
      · have h4 := Bool.not_eq_false' .. ▸ h3
        refine ⟨m_any_t hk ?_, ⟨_, _, _, _⟩, by rw [gh_uu] at hp; exact hp⟩
        show (decide (fs k = k) && e_thr n fs pa pb pc pd ax u v k) = true
        rw [hf]
        unfold e_thr
        rw [h1, h4, h5]
        rfl
      · cases hv

section
variable {l : Launch} {D : va_G} {cI cJ cP cS : ClassId} {b0 : Nat} {h : gh_M}

set_option maxHeartbeats 4000000 in
set_option maxRecDepth 100000 in
/-- enters -/
theorem c_X_enters {sp al fi : Nat} {n : Nat} {ga : Nat → Option Nat} {gf : Nat → Int32} {pl fs : Nat → Nat} {pa pb pc pd : Nat → Int64} (hsp : h sp = some (.inr (2, [.ref al, .ref fi, .int (nI n)]))) (hal : h al = some (.inl (cP, 14, .inr (.inr (.inr (.inr ga)))))) (hfi : h fi = some (.inl (cI, 14, .inl gf))) (hga : ∀ i, i < n → ga i = some (pl i)) (hgf : ∀ i, i < n → gf i = nI (fs i)) (hfs : ∀ i, fs i < 14) (hpl : ∀ i, i < n → h (pl i) = some (.inr (1, [.long (pa i), .long (pb i), .long (pc i), .long (pd i)]))) (hn : n ≤ 14) (h6 : 6 ≤ n) {x sk po : Nat} {gs : Nat → Option Nat} {so wo : Nat → Nat} {wd : Nat → Nat → Int64} {ht : Nat} {px py pz pw : Int64} (hxx : h x = some (.inr (0, [.ref sp, .ref sk, .ref po, .int (nI ht)]))) (hsk : h sk = some (.inl (cS, 6, .inr (.inr (.inr (.inr gs)))))) (hgs : ∀ j, j < 6 → gs j = some (so j)) (hpo : h po = some (.inr (3, [.long px, .long py, .long pz, .long pw]))) (hso : ∀ j, j < 6 → h (so j) = some (.inr (4, [.ref (wo j)]))) (hwo : ∀ j, j < 6 → h (wo j) = some (.inl (cJ, 4, .inr (.inl (wd j))))) (hwi : ∀ i j, i < 6 → j < 6 → wo i = wo j → i = j) (hht : ht ≤ 6) (hfi2 : ∀ i, i < n → fs i ≤ i) {ax u v : Int32} (htr : xc_off l) : gh_C l D vC (tZ cI cJ cP cS) (xF b0) b0 y_X_enters w_X_enters ({ frames := 7, cells := 15, slots := 90, locals := 150 }) [.ref x, .int ax, .int u, .int v] h (rB (m_badE ax u v) (rT 6 h) (rB (decide (ht = 0)) (rT 7 h) (fun oc h2 => (m_any (fun i => decide (fs i = i) && e_thr n fs pa pb pc pd ax u v i) n = true ∧ ∃ p9 : Int64 × Int64 × Int64 × Int64, rT 9 (gh_up h po (.inr (3, [.long p9.1, .long p9.2.1, .long p9.2.2.1, .long p9.2.2.2]))) oc h2) ∨ (m_any (fun i => decide (fs i = i) && e_thr n fs pa pb pc pd ax u v i) n = false ∧ oc = .returned (some (.int (nI (mc_cnt (fun i => decide (fs i = i) && e_ent (wd (ht - 1)) n fs pa pb pc pd ax u v i) n)))) ∧ ∃ p9 : Int64 × Int64 × Int64 × Int64, h2 = gh_up h po (.inr (3, [.long p9.1, .long p9.2.1, .long p9.2.2.1, .long p9.2.2.2])))))) := by
  refine gh_ofW (by decide) (Nat.le_of_ble_eq_true rfl) ?_
  intro p e s m below meth c ls hctx hno hl hG hK hX
  obtain ⟨hx, hb, hr, hml, hown, hlk, hts, hnm⟩ := hctx
  have htb : ∀ w ∈ tB, w.before _ s = true := fun w hw => hts w (List.mem_cons_of_mem _ hw)
  replace hl : lv_has ls 6 [(0, .ref x), (1, .int ax), (2, .int u), (3, .int v)] := hl
  refine lv_iload_n hx hb d_X_enters_0 rfl (lv_at hl 1 rfl) ?_
  refine lv_if_lt (tgt := 9) hx hb d_X_enters_1 (by decide) (fun hc1 => ?_) (fun hc1 => ?_)
  · skip
    refine W.widen (k := 14) (n := 84) (by decide) (by decide) ?_
    exact gh_thr (bytes := Bundle.six) (index := 7) (is := 132) (E := R_IA) (ci := 6) hx hb htr hlk hno hml hl.1 hown htb hK hX hG rfl (by decide +kernel) k_1_143 k_1_10 k_1_144 (List.mem_of_getElem? (i := 13) rfl) (by decide +kernel) (by decide +kernel) (by decide +kernel) (by decide +kernel) at_IA d_X_enters_9 d_X_enters_12 d_X_enters_13 d_X_enters_15 d_X_enters_18 (by decide) (by decide) (by decide) (by decide) (fun q9 hq9 => rB_1 (by simp [m_badE, hc1]) ⟨q9, rfl, hq9, rfl⟩)
  · skip
    refine lv_iload_n hx hb d_X_enters_4 rfl (lv_at hl 1 rfl) ?_
    refine lv_iconst (v := 3) hx hb d_X_enters_5 (by decide) ?_
    refine lv_icmp_lt (tgt := 19) hx hb d_X_enters_6 (by decide) (fun hc6 => ?_) (fun hc6 => ?_)
    · skip
      refine lv_iload_n hx hb d_X_enters_19 rfl (lv_at hl 2 rfl) ?_
      refine lv_sipush (v := 999) hx hb d_X_enters_20 (by decide) ?_
      refine gh_cS (As := [.int u, .int 999]) (rest := []) (xF_ok b0) hx hb hml hown hK hX hG c_X_isBeyond (q_X_isBeyond htb ⟨by decide, by decide⟩) (htb _ k_1_213) (htb _ k_1_214) rfl hl.1 rfl (Nat.le_of_ble_eq_true rfl) d_X_enters_23 ⟨by decide, by decide⟩ (fun v9 h9 H l9 hp9 hG => ?_) (fun _ _ _ _ hp9 _ => by cases hp9.1)
      obtain ⟨hv9, hh9⟩ := hp9
      cases hv9
      rw [hh9] at hG
      refine W.eq (g2 := F0 m 26 ls [.int (m_b (m_bey u 999))]) rfl ?_
      refine W.widen (k := 0) (n := 0) (by decide) (by decide) ?_
      refine lv_if_ne (tgt := 39) hx hb d_X_enters_26 (by decide) (fun hc26 => ?_) (fun hc26 => ?_)
      · skip
        replace hc26 := mb_1.mp hc26
        refine W.widen (k := 14) (n := 84) (by decide) (by decide) ?_
        exact gh_thr (bytes := Bundle.six) (index := 7) (is := 134) (E := R_IA) (ci := 6) hx hb htr hlk hno hml hl.1 hown htb hK hX hG rfl (by decide +kernel) k_1_143 k_1_10 k_1_144 (List.mem_of_getElem? (i := 14) rfl) (by decide +kernel) (by decide +kernel) (by decide +kernel) (by decide +kernel) at_IA d_X_enters_39 d_X_enters_42 d_X_enters_43 d_X_enters_45 d_X_enters_48 (by decide) (by decide) (by decide) (by decide) (fun q9 hq9 => rB_1 (by simp [m_badE, hc1, hc6, hc26]) ⟨q9, rfl, hq9, rfl⟩)
      · skip
        replace hc26 := mb_0.mp hc26
        refine lv_iload_n hx hb d_X_enters_29 rfl (lv_at hl 3 rfl) ?_
        refine lv_sipush (v := 999) hx hb d_X_enters_30 (by decide) ?_
        refine gh_cS (As := [.int v, .int 999]) (rest := []) (xF_ok b0) hx hb hml hown hK hX hG c_X_isBeyond (q_X_isBeyond htb ⟨by decide, by decide⟩) (htb _ k_1_213) (htb _ k_1_214) rfl hl.1 rfl (Nat.le_of_ble_eq_true rfl) d_X_enters_33 ⟨by decide, by decide⟩ (fun v9 h9 H l9 hp9 hG => ?_) (fun _ _ _ _ hp9 _ => by cases hp9.1)
        obtain ⟨hv9, hh9⟩ := hp9
        cases hv9
        rw [hh9] at hG
        refine W.eq (g2 := F0 m 36 ls [.int (m_b (m_bey v 999))]) rfl ?_
        refine W.widen (k := 0) (n := 0) (by decide) (by decide) ?_
        refine lv_if_eq (tgt := 49) hx hb d_X_enters_36 (by decide) (fun hc36 => ?_) (fun hc36 => ?_)
        · skip
          replace hc36 := mb_0.mp hc36
          have hbE : m_badE ax u v = false := by simp [m_badE, hc1, hc6, hc26, hc36]
          refine lv_aload_n hx hb d_X_enters_49 rfl (lv_at hl 0 rfl) ?_
          refine gh_cV (ci := 0) (As := []) (rest := []) (xF_ok b0) hx hb hml hown hK hX hG rfl hxx (c_X_requireSolid hxx hht htr) (q_X_requireSolid htb ⟨by decide, by decide⟩) (htb _ k_2_39) (htb _ k_2_41) (htb _ k_s_X_requireSolid) rfl hl.1 rfl (Nat.le_of_ble_eq_true rfl) d_X_enters_50 ⟨by decide, by decide⟩ (fun v9 h9 H l9 hp9 hG => ?_) (fun x9 h9 H l9 hp9 hG => gx_widenT (k := 15) (n := 90) (by decide) (by decide) (gh_pass hlk (fun z9 hz9 => hno z9 hz9 _) hG (rB_0 hbE (rB_1 (rB_v hp9).1 (rB_v hp9).2))))
          obtain ⟨hb9, hv9, hh9⟩ := rB_r hp9
          cases hv9
          rw [hh9] at hG
          have hsol := of_decide_eq_false hb9
          refine W.eq (g2 := F0 m 53 ls []) rfl ?_
          refine W.widen (k := 1) (n := 6) (by decide) (by decide) ?_
          have hs1 : 1 ≤ ht := by omega
          refine lv_iconst (v := 0) hx hb d_X_enters_53 (by decide) ?_
          refine lv_istore (lv' := [(4, .int 0), (0, .ref x), (1, .int ax), (2, .int u), (3, .int v)]) hx hb d_X_enters_54 hl (by decide) rfl (fun ls hl => ?_)
          refine lv_iconst (v := 0) hx hb d_X_enters_56 (by decide) ?_
          refine lv_istore (lv' := [(5, .int 0), (4, .int 0), (0, .ref x), (1, .int ax), (2, .int u), (3, .int v)]) hx hb d_X_enters_57 hl (by decide) rfl (fun ls hl => ?_)
          refine gh_gen hG (fun H l9 hG => ?_)
          refine lp_upK (α := Int64 × Int64 × Int64 × Int64) (G := fun k ls H l9 => W p l e _ s m _ below meth c H l9 (1 + k) (6 + 6 * k) _ (F0 m 59 ls [])) n (fun k p9 ls H l9 => (∀ i, i < k → (fun i => decide (fs i = i) && e_thr n fs pa pb pc pd ax u v i) i = false) ∧ lv_has ls 6 [(0, .ref x), (1, .int ax), (2, .int u), (3, .int v), (4, .int (nI (mc_cnt (fun i => decide (fs i = i) && e_ent (wd (ht - 1)) n fs pa pb pc pd ax u v i) k))), (5, .int (nI k))] ∧ gh_P D vC b0 (gh_up h po (.inr (3, [.long p9.1, .long p9.2.1, .long p9.2.2.1, .long p9.2.2.2]))) s.heap H l9) ?_ 0 (px, py, pz, pw) ls H l9 (Nat.zero_le _) ⟨fun i hi => absurd hi (Nat.not_lt_zero i), (lv_sub hl [2, 3, 4, 5, 1, 0] rfl), by rw [gh_id hpo]; exact hG⟩
          intro k p9 ls H l9 hk hI ih
          obtain ⟨hi1, hl, hG⟩ := hI
          have hsp9 : (gh_up h po (.inr (3, [.long p9.1, .long p9.2.1, .long p9.2.2.1, .long p9.2.2.2]))) sp = some (.inr (2, [.ref al, .ref fi, .int (nI n)])) := gh_keep hpo hsp (by simp)
          have hal9 : (gh_up h po (.inr (3, [.long p9.1, .long p9.2.1, .long p9.2.2.1, .long p9.2.2.2]))) al = some (.inl (cP, 14, .inr (.inr (.inr (.inr ga))))) := gh_keep hpo hal (by simp)
          have hfi9 : (gh_up h po (.inr (3, [.long p9.1, .long p9.2.1, .long p9.2.2.1, .long p9.2.2.2]))) fi = some (.inl (cI, 14, .inl gf)) := gh_keep hpo hfi (by simp)
          have hxx9 : (gh_up h po (.inr (3, [.long p9.1, .long p9.2.1, .long p9.2.2.1, .long p9.2.2.2]))) x = some (.inr (0, [.ref sp, .ref sk, .ref po, .int (nI ht)])) := gh_keep hpo hxx (by simp)
          have hsk9 : (gh_up h po (.inr (3, [.long p9.1, .long p9.2.1, .long p9.2.2.1, .long p9.2.2.2]))) sk = some (.inl (cS, 6, .inr (.inr (.inr (.inr gs))))) := gh_keep hpo hsk (by simp)
          have hpo9 : (gh_up h po (.inr (3, [.long p9.1, .long p9.2.1, .long p9.2.2.1, .long p9.2.2.2]))) po = some (.inr (3, [.long p9.1, .long p9.2.1, .long p9.2.2.1, .long p9.2.2.2])) := gh_self _ _ _
          have hpl9 : ∀ i, i < n → (gh_up h po (.inr (3, [.long p9.1, .long p9.2.1, .long p9.2.2.1, .long p9.2.2.2]))) (pl i) = some (.inr (1, [.long (pa i), .long (pb i), .long (pc i), .long (pd i)])) := fun i hi => gh_keep hpo (hpl i hi) (by simp)
          have hso9 : ∀ j, j < 6 → (gh_up h po (.inr (3, [.long p9.1, .long p9.2.1, .long p9.2.2.1, .long p9.2.2.2]))) (so j) = some (.inr (4, [.ref (wo j)])) := fun j hj => gh_keep hpo (hso j hj) (by simp)
          have hwo9 : ∀ j, j < 6 → (gh_up h po (.inr (3, [.long p9.1, .long p9.2.1, .long p9.2.2.1, .long p9.2.2.2]))) (wo j) = some (.inl (cJ, 4, .inr (.inl (wd j)))) := fun j hj => gh_keep hpo (hwo j hj) (by simp)
          clear hpl hso hwo
          have hpl := hpl9
          have hso := hso9
          have hwo := hwo9
          refine lv_iload hx hb d_X_enters_59 (lv_at hl 5 rfl) ?_
          refine lv_aload_n hx hb d_X_enters_61 rfl (lv_at hl 0 rfl) ?_
          refine gh_get (ci := 0) hx hb htb in_X hown hK hG hxx9 rfl 0 (by decide) (htb _ k_1_109) (fun _ h9 => h9) rfl d_X_enters_62 ?_
          refine gh_cV (ci := 2) (As := []) (rest := [.int (nI k)]) (xF_ok b0) hx hb hml hown hK hX hG rfl hsp9 (c_Ps_count hsp9 hal9 hfi9 hga hgf hfs hpl hn) (q_Ps_count htb ⟨by decide, by decide⟩) (htb _ k_2_183) (htb _ k_2_184) (htb _ k_2_185) rfl hl.1 rfl (Nat.le_of_ble_eq_true rfl) d_X_enters_65 ⟨by show 1 + k + 0 ≤ 15; omega, by show 6 + 6 * k + 0 ≤ 90; omega⟩ (fun v9 h9 H l9 hp9 hG => ?_) (fun _ _ _ _ hp9 _ => by cases hp9.1)
          obtain ⟨hv9, hh9⟩ := hp9
          cases hv9
          rw [hh9] at hG
          refine W.eq (g2 := F0 m 68 ls [.int (nI n), .int (nI k)]) rfl ?_
          refine W.widen (k := 1 + k) (n := 6 + 6 * k) (by show 1 + k + 0 ≤ 1 + k; omega) (by show 6 + 6 * k + 0 ≤ 6 + 6 * k; omega) ?_
          refine lv_icmp_ge (tgt := 104) hx hb d_X_enters_68 (by decide) (fun hc68 => ?_) (fun hc68 => ?_)
          · skip
            replace hc68 : n ≤ k := (nc_le (a := n) (b := k) (by omega) (by omega) rfl rfl).mp hc68
            refine lv_iload hx hb d_X_enters_104 (lv_at hl 4 rfl) ?_
            refine W.widen (k := 15) (n := 90) (by omega) (by omega) ?_
            exact gh_iret hx hb hr hlk rfl hG d_X_enters_106 (rB_0 hbE (rB_0 (decide_eq_false hsol) (Or.inr ⟨m_any_f (fun i hi => hi1 i (by omega)), by rw [show k = n by omega], p9, rfl⟩)))
          · skip
            replace hc68 : ¬ n ≤ k := fun q9 => hc68 ((nc_le (a := n) (b := k) (by omega) (by omega) rfl rfl).mpr q9)
            refine lv_aload_n hx hb d_X_enters_71 rfl (lv_at hl 0 rfl) ?_
            refine gh_get (ci := 0) hx hb htb in_X hown hK hG hxx9 rfl 0 (by decide) (htb _ k_1_109) (fun _ h9 => h9) rfl d_X_enters_72 ?_
            refine lv_iload hx hb d_X_enters_75 (lv_at hl 5 rfl) ?_
            refine gh_cV (ci := 2) (As := [.int (nI k)]) (rest := []) (xF_ok b0) hx hb hml hown hK hX hG rfl hsp9 (c_Ps_isFirst hsp9 hal9 hfi9 hga hgf hfs hpl hn (by omega)) (q_Ps_isFirst htb ⟨by decide, by decide⟩) (htb _ k_2_187) (htb _ k_2_188) (htb _ k_2_189) rfl hl.1 rfl (Nat.le_of_ble_eq_true rfl) d_X_enters_77 ⟨by show 1 + k + 0 ≤ 15; omega, by show 6 + 6 * k + 0 ≤ 90; omega⟩ (fun v9 h9 H l9 hp9 hG => ?_) (fun _ _ _ _ hp9 _ => by cases hp9.1)
            obtain ⟨hv9, hh9⟩ := hp9
            cases hv9
            rw [hh9] at hG
            refine W.eq (g2 := F0 m 80 ls [.int (m_b (decide (fs k = k)))]) rfl ?_
            refine W.widen (k := 1 + k) (n := 6 + 6 * k) (by show 1 + k + 0 ≤ 1 + k; omega) (by show 6 + 6 * k + 0 ≤ 6 + 6 * k; omega) ?_
            refine lv_if_eq (tgt := 98) hx hb d_X_enters_80 (by decide) (fun hc80 => ?_) (fun hc80 => ?_)
            · skip
              replace hc80 := mb_0.mp hc80
              refine lv_iinc (k := 5) (v := nI (k + 1)) (lv' := [(5, .int (nI (k + 1))), (0, .ref x), (1, .int ax), (2, .int u), (3, .int v), (4, .int (nI (mc_cnt (fun i => decide (fs i = i) && e_ent (wd (ht - 1)) n fs pa pb pc pd ax u v i) k)))]) hx hb d_X_enters_98 hl rfl (nI_1 k) (by decide) rfl (fun ls hl => ?_)
              refine lv_goto (tgt := 59) hx hb d_X_enters_101 (by decide) ?_
              have hen9 := mc_ny (p := (fun i => decide (fs i = i) && e_ent (wd (ht - 1)) n fs pa pb pc pd ax u v i)) (k := k) (by show (decide (fs k = k) && _) = false; rw [hc80]; rfl)
              refine W.widen (k := 1 + (k + 1)) (n := 6 + 6 * (k + 1)) (by omega) (by omega) ?_
              rw [← hen9] at hl
              exact ih p9 ls H l9 (by omega) ⟨lt_s hi1 (by show (decide (fs k = k) && _) = false; rw [hc80]; rfl), lv_sub hl [1, 2, 3, 4, 5, 0] rfl, hG⟩
            · skip
              replace hc80 := mb_1.mp hc80
              refine lv_aload_n hx hb d_X_enters_83 rfl (lv_at hl 0 rfl) ?_
              refine lv_iload hx hb d_X_enters_84 (lv_at hl 5 rfl) ?_
              refine lv_iload_n hx hb d_X_enters_86 rfl (lv_at hl 1 rfl) ?_
              refine lv_iload_n hx hb d_X_enters_87 rfl (lv_at hl 2 rfl) ?_
              refine lv_iload_n hx hb d_X_enters_88 rfl (lv_at hl 3 rfl) ?_
              refine gh_cV (ci := 0) (As := [.int (nI k), .int ax, .int u, .int v]) (rest := []) (xF_ok b0) hx hb hml hown hK hX hG rfl hxx9 (c_X_isEntry hsp9 hal9 hfi9 hga hgf hfs hpl hn h6 hxx9 hsk9 hgs hpo9 hso hwo hwi hht hfi2 hs1 (i0 := k) (by omega) htr) (q_X_isEntry htb ⟨by decide, by decide⟩) (htb _ k_2_191) (htb _ k_2_193) (htb _ k_s_X_isEntry) rfl hl.1 rfl (Nat.le_of_ble_eq_true rfl) d_X_enters_89 ⟨by show 1 + k + 1 ≤ 15; omega, by show 6 + 6 * k + 6 ≤ 90; omega⟩ (fun v9 h9 H l9 hp9 hG => ?_) (fun x9 h9 H l9 hp9 hG => gx_widenT (k := 15) (n := 90) (by show 1 + k + 1 ≤ 15; omega) (by show 6 + 6 * k + 6 ≤ 90; omega) (gh_pass hlk (fun z9 hz9 => hno z9 hz9 _) hG (rB_0 hbE (rB_0 (decide_eq_false hsol) (Or.inl (en_t (by omega) hc80 hp9))))))
              obtain ⟨hth9, b9, hb9, hv9, p8, hh9⟩ := en_r hp9
              cases hv9
              rw [hh9] at hG
              refine W.eq (g2 := F0 m 92 ls [.int (m_b b9)]) rfl ?_
              refine W.widen (k := 1 + k + 1) (n := 6 + 6 * k + 6) (by show 1 + k + 1 ≤ 1 + k + 1; omega) (by show 6 + 6 * k + 6 ≤ 6 + 6 * k + 6; omega) ?_
              refine lv_if_eq (tgt := 98) hx hb d_X_enters_92 (by decide) (fun hc92 => ?_) (fun hc92 => ?_)
              · skip
                replace hc92 := mb_0.mp hc92
                refine lv_iinc (k := 5) (v := nI (k + 1)) (lv' := [(5, .int (nI (k + 1))), (0, .ref x), (1, .int ax), (2, .int u), (3, .int v), (4, .int (nI (mc_cnt (fun i => decide (fs i = i) && e_ent (wd (ht - 1)) n fs pa pb pc pd ax u v i) k)))]) hx hb d_X_enters_98 hl rfl (nI_1 k) (by decide) rfl (fun ls hl => ?_)
                refine lv_goto (tgt := 59) hx hb d_X_enters_101 (by decide) ?_
                have hen9 := mc_ny (p := (fun i => decide (fs i = i) && e_ent (wd (ht - 1)) n fs pa pb pc pd ax u v i)) (k := k) (by show (decide (fs k = k) && _) = false; rw [← hb9, hc92]; simp)
                refine W.widen (k := 1 + (k + 1)) (n := 6 + 6 * (k + 1)) (by omega) (by omega) ?_
                rw [← hen9] at hl
                exact ih p8 ls H l9 (by omega) ⟨lt_s hi1 (by show (decide (fs k = k) && _) = false; rw [hth9]; simp), lv_sub hl [1, 2, 3, 4, 5, 0] rfl, hG⟩
              · skip
                replace hc92 := mb_1.mp hc92
                refine lv_iinc (k := 4) (v := nI (mc_cnt (fun i => decide (fs i = i) && e_ent (wd (ht - 1)) n fs pa pb pc pd ax u v i) k + 1)) (lv' := [(4, .int (nI (mc_cnt (fun i => decide (fs i = i) && e_ent (wd (ht - 1)) n fs pa pb pc pd ax u v i) k + 1))), (0, .ref x), (1, .int ax), (2, .int u), (3, .int v), (5, .int (nI k))]) hx hb d_X_enters_95 hl rfl (nI_1 (mc_cnt (fun i => decide (fs i = i) && e_ent (wd (ht - 1)) n fs pa pb pc pd ax u v i) k)) (by decide) rfl (fun ls hl => ?_)
                refine lv_iinc (k := 5) (v := nI (k + 1)) (lv' := [(5, .int (nI (k + 1))), (4, .int (nI (mc_cnt (fun i => decide (fs i = i) && e_ent (wd (ht - 1)) n fs pa pb pc pd ax u v i) k + 1))), (0, .ref x), (1, .int ax), (2, .int u), (3, .int v)]) hx hb d_X_enters_98 hl rfl (nI_1 k) (by decide) rfl (fun ls hl => ?_)
                refine lv_goto (tgt := 59) hx hb d_X_enters_101 (by decide) ?_
                have hen9 := mc_nx (p := (fun i => decide (fs i = i) && e_ent (wd (ht - 1)) n fs pa pb pc pd ax u v i)) (k := k) (by show (decide (fs k = k) && _) = true; rw [hc80, ← hb9, hc92]; rfl)
                refine W.widen (k := 1 + (k + 1)) (n := 6 + 6 * (k + 1)) (by omega) (by omega) ?_
                rw [← hen9] at hl
                exact ih p8 ls H l9 (by omega) ⟨lt_s hi1 (by show (decide (fs k = k) && _) = false; rw [hth9]; simp), lv_sub hl [2, 3, 4, 5, 1, 0] rfl, hG⟩
        · skip
          replace hc36 := mb_1.mp hc36
          refine W.widen (k := 14) (n := 84) (by decide) (by decide) ?_
          exact gh_thr (bytes := Bundle.six) (index := 7) (is := 134) (E := R_IA) (ci := 6) hx hb htr hlk hno hml hl.1 hown htb hK hX hG rfl (by decide +kernel) k_1_143 k_1_10 k_1_144 (List.mem_of_getElem? (i := 14) rfl) (by decide +kernel) (by decide +kernel) (by decide +kernel) (by decide +kernel) at_IA d_X_enters_39 d_X_enters_42 d_X_enters_43 d_X_enters_45 d_X_enters_48 (by decide) (by decide) (by decide) (by decide) (fun q9 hq9 => rB_1 (by simp [m_badE, hc1, hc6, hc26, hc36]) ⟨q9, rfl, hq9, rfl⟩)
    · skip
      refine W.widen (k := 14) (n := 84) (by decide) (by decide) ?_
      exact gh_thr (bytes := Bundle.six) (index := 7) (is := 132) (E := R_IA) (ci := 6) hx hb htr hlk hno hml hl.1 hown htb hK hX hG rfl (by decide +kernel) k_1_143 k_1_10 k_1_144 (List.mem_of_getElem? (i := 13) rfl) (by decide +kernel) (by decide +kernel) (by decide +kernel) (by decide +kernel) at_IA d_X_enters_9 d_X_enters_12 d_X_enters_13 d_X_enters_15 d_X_enters_18 (by decide) (by decide) (by decide) (by decide) (fun q9 hq9 => rB_1 (by simp [m_badE, hc1, hc6]) ⟨q9, rfl, hq9, rfl⟩)

end
