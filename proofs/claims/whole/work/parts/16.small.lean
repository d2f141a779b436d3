/-- outcomes that may be a throw -/
def rT (ci : Nat) (h : gh_M) : Outcome → gh_M → Prop := fun oc h2 => ∃ q, oc = .threw q ∧ h q = none ∧ h2 = gh_up h q (.inr (ci, []))
def rB (b : Bool) (P Q : Outcome → gh_M → Prop) : Outcome → gh_M → Prop := fun oc h2 => if b = true then P oc h2 else Q oc h2
theorem rB_1 {b : Bool} {P Q : Outcome → gh_M → Prop} {oc : Outcome} {h2 : gh_M} (hb : b = true) (h : P oc h2) : rB b P Q oc h2 := by unfold rB; rw [if_pos hb]; exact h
theorem rB_0 {b : Bool} {P Q : Outcome → gh_M → Prop} {oc : Outcome} {h2 : gh_M} (hb : b = false) (h : Q oc h2) : rB b P Q oc h2 := by unfold rB; rw [if_neg (by rw [hb]; decide)]; exact h
theorem rB_c {b : Bool} {P Q : Outcome → gh_M → Prop} {oc : Outcome} {h2 : gh_M} (h : rB b P Q oc h2) : (b = true ∧ P oc h2) ∨ (b = false ∧ Q oc h2) := by
  unfold rB at h
  cases b
  · exact Or.inr ⟨rfl, by simpa using h⟩
  · exact Or.inl ⟨rfl, by simpa using h⟩
theorem rB_r {b : Bool} {ci : Nat} {h h2 : gh_M} {Q : Outcome → gh_M → Prop} {v : Option Value} (hp : rB b (rT ci h) Q (.returned v) h2) : b = false ∧ Q (.returned v) h2 := by
  rcases rB_c hp with ⟨-, q, hq, -⟩ | hr
  · cases hq
  · exact hr
theorem rB_v {b : Bool} {ci : Nat} {h h2 : gh_M} {q : Addr} (hp : rB b (rT ci h) (rV h) (.threw q) h2) : b = true ∧ rT ci h (.threw q) h2 := by
  rcases rB_c hp with hr | ⟨-, hq, -⟩
  · exact hr
  · cases hq
section
variable {p : Program} {l : Launch} {e : Env} {R : Room} {s : State} {m : MethodId} {args : Array Value} {below : List Frame} {meth : Method} {c : Code} {H : Heap} {locs : List Loc} {cells slots : Nat} {Q : State → Prop}
theorem gx_widenT {g : JFrame} {q : Addr} {k n : Nat} (h1 : cells ≤ k) (h2 : slots ≤ n) (kk : gx_WT p l e R s m args below meth c H locs k n Q g q) : gx_WT p l e R s m args below meth c H locs cells slots Q g q := fun T hT X => kk T hT (stand_widen X h1 h2)
end
def m_bey (v most : Int32) : Bool := decide (v < -most) || decide (most < v)
def m_badP (a b c d : Int32) : Bool := (decide (a = 0) && (decide (b = 0) && decide (c = 0))) || (m_bey a 1000000 || (m_bey b 1000000 || (m_bey c 1000000 || m_bey d 1000000000)))
def m_badQ (x y z w : Int32) : Bool := decide (w < 1) || (decide (1000 < w) || (m_bey x 1000000 || (m_bey y 1000000 || m_bey z 1000000)))
def m_badV (set : Int32) (g : Nat) : Bool := decide (set < 0) || !decide (set >>> (nI g &&& 31) = 0)
def m_badJ (how : Int32) : Bool := decide (how < 0) || !decide (how < 4)
def m_badC (k : Int32) (ht : Nat) : Bool := decide (k < 0) || !decide (k < nI ht)
def m_top (f : Nat → Int64) (ce : Nat) : Bool := decide (nI ce &&& 63 = 63) && m_has f (ce / 64)

section
variable {l : Launch} {D : va_G} {cI cJ cP cS : ClassId} {b0 : Nat} {h : gh_M}

set_option maxHeartbeats 4000000 in
set_option maxRecDepth 100000 in
/-- isBeyond -/
theorem c_X_isBeyond {v w : Int32} : gh_C l D vC (tZ cI cJ cP cS) (xF b0) b0 y_X_isBeyond w_X_isBeyond ({ frames := 0, cells := 0, slots := 0, locals := 0 }) [.int v, .int w] h (rI (m_b (m_bey v w)) h) := by
  refine gh_ofW (by decide) (Nat.le_of_ble_eq_true rfl) ?_
  intro p e s m below meth c ls hctx hno hl hG hK hX
  obtain ⟨hx, hb, hr, hml, hown, hlk, hts, hnm⟩ := hctx
  have htb : ∀ w ∈ tB, w.before _ s = true := fun w hw => hts w (List.mem_cons_of_mem _ hw)
  replace hl : lv_has ls 2 [(0, .int v), (1, .int w)] := hl
  refine lv_iload_n hx hb d_X_isBeyond_0 rfl (lv_at hl 0 rfl) ?_
  refine lv_iload_n hx hb d_X_isBeyond_1 rfl (lv_at hl 1 rfl) ?_
  refine lv_ineg hx hb d_X_isBeyond_2 ?_
  refine lv_icmp_lt (tgt := 11) hx hb d_X_isBeyond_3 (by decide) (fun hc3 => ?_) (fun hc3 => ?_)
  · skip
    refine lv_iconst (v := 1) hx hb d_X_isBeyond_11 (by decide) ?_
    refine lv_goto (tgt := 16) hx hb d_X_isBeyond_12 (by decide) ?_
    exact gh_iret hx hb hr hlk rfl hG d_X_isBeyond_16 ⟨by simp [m_bey, m_b, hc3], rfl⟩
  · skip
    refine lv_iload_n hx hb d_X_isBeyond_6 rfl (lv_at hl 0 rfl) ?_
    refine lv_iload_n hx hb d_X_isBeyond_7 rfl (lv_at hl 1 rfl) ?_
    refine lv_icmp_le (tgt := 15) hx hb d_X_isBeyond_8 (by decide) (fun hc8 => ?_) (fun hc8 => ?_)
    · skip
      refine lv_iconst (v := 0) hx hb d_X_isBeyond_15 (by decide) ?_
      exact gh_iret hx hb hr hlk rfl hG d_X_isBeyond_16 ⟨by simp [m_bey, m_b, hc3, hc8], rfl⟩
    · skip
      refine lv_iconst (v := 1) hx hb d_X_isBeyond_11 (by decide) ?_
      refine lv_goto (tgt := 16) hx hb d_X_isBeyond_12 (by decide) ?_
      exact gh_iret hx hb hr hlk rfl hG d_X_isBeyond_16 ⟨by simp [m_bey, m_b, hc3, hc8], rfl⟩

set_option maxHeartbeats 4000000 in
set_option maxRecDepth 100000 in
/-- requireRoom -/
theorem c_X_requireRoom {x : Nat} {f0 f1 f2 : Value} {ht : Nat} (hxx : h x = some (.inr (0, [f0, f1, f2, .int (nI ht)]))) (hht : ht ≤ 6) (htr : xc_off l) : gh_C l D vC (tZ cI cJ cP cS) (xF b0) b0 y_X_requireRoom w_X_requireRoom ({ frames := 6, cells := 1, slots := 6, locals := 90 }) [.ref x] h (rB (decide (6 ≤ ht)) (rT 7 h) (rV h)) := by
  refine gh_ofW (by decide) (Nat.le_of_ble_eq_true rfl) ?_
  intro p e s m below meth c ls hctx hno hl hG hK hX
  obtain ⟨hx, hb, hr, hml, hown, hlk, hts, hnm⟩ := hctx
  have htb : ∀ w ∈ tB, w.before _ s = true := fun w hw => hts w (List.mem_cons_of_mem _ hw)
  replace hl : lv_has ls 1 [(0, .ref x)] := hl
  refine lv_aload_n hx hb d_X_requireRoom_0 rfl (lv_at hl 0 rfl) ?_
  refine gh_get (ci := 0) hx hb htb in_X hown hK hG hxx rfl 3 (by decide) (htb _ k_1_112) (fun _ h9 => h9) rfl d_X_requireRoom_1 ?_
  refine lv_bipush (v := 6) hx hb d_X_requireRoom_4 (by decide) ?_
  refine lv_icmp_lt (tgt := 19) hx hb d_X_requireRoom_6 (by decide) (fun hc6 => ?_) (fun hc6 => ?_)
  · skip
    replace hc6 : ht < 6 := (nc_lt (a := ht) (b := 6) (by omega) (by omega) rfl rfl).mp hc6
    refine W.widen (k := 1) (n := 6) (by decide) (by decide) ?_
    exact gh_vret hx hb hr hlk hG d_X_requireRoom_19 (rB_0 (decide_eq_false (by omega)) ⟨rfl, rfl⟩)
  · skip
    replace hc6 : ¬ ht < 6 := fun q9 => hc6 ((nc_lt (a := ht) (b := 6) (by omega) (by omega) rfl rfl).mpr q9)
    refine W.widen (k := 0) (n := 0) (by decide) (by decide) ?_
    exact gh_thr (bytes := Bundle.six) (index := 7) (is := 189) (E := R_IS) (ci := 7) hx hb htr hlk hno hml hl.1 hown htb hK hX hG rfl (by decide +kernel) k_1_219 k_1_11 k_1_220 (List.mem_of_getElem? (i := 5) rfl) (by decide +kernel) (by decide +kernel) (by decide +kernel) (by decide +kernel) at_IS d_X_requireRoom_9 d_X_requireRoom_12 d_X_requireRoom_13 d_X_requireRoom_15 d_X_requireRoom_18 (by decide) (by decide) (by decide) (by decide) (fun q9 hq9 => rB_1 (decide_eq_true (by omega)) ⟨q9, rfl, hq9, rfl⟩)

set_option maxHeartbeats 4000000 in
set_option maxRecDepth 100000 in
/-- requireSolid -/
theorem c_X_requireSolid {x : Nat} {f0 f1 f2 : Value} {ht : Nat} (hxx : h x = some (.inr (0, [f0, f1, f2, .int (nI ht)]))) (hht : ht ≤ 6) (htr : xc_off l) : gh_C l D vC (tZ cI cJ cP cS) (xF b0) b0 y_X_requireSolid w_X_requireSolid ({ frames := 6, cells := 1, slots := 6, locals := 90 }) [.ref x] h (rB (decide (ht = 0)) (rT 7 h) (rV h)) := by
  refine gh_ofW (by decide) (Nat.le_of_ble_eq_true rfl) ?_
  intro p e s m below meth c ls hctx hno hl hG hK hX
  obtain ⟨hx, hb, hr, hml, hown, hlk, hts, hnm⟩ := hctx
  have htb : ∀ w ∈ tB, w.before _ s = true := fun w hw => hts w (List.mem_cons_of_mem _ hw)
  replace hl : lv_has ls 1 [(0, .ref x)] := hl
  refine lv_aload_n hx hb d_X_requireSolid_0 rfl (lv_at hl 0 rfl) ?_
  refine gh_get (ci := 0) hx hb htb in_X hown hK hG hxx rfl 3 (by decide) (htb _ k_1_112) (fun _ h9 => h9) rfl d_X_requireSolid_1 ?_
  refine lv_if_ne (tgt := 17) hx hb d_X_requireSolid_4 (by decide) (fun hc4 => ?_) (fun hc4 => ?_)
  · skip
    replace hc4 : ¬ ht = 0 := fun q9 => hc4 ((nc_eq (a := ht) (b := 0) (by omega) (by omega) rfl rfl).mpr q9)
    refine W.widen (k := 1) (n := 6) (by decide) (by decide) ?_
    exact gh_vret hx hb hr hlk hG d_X_requireSolid_17 (rB_0 (decide_eq_false (by omega)) ⟨rfl, rfl⟩)
  · skip
    replace hc4 : ht = 0 := (nc_eq (a := ht) (b := 0) (by omega) (by omega) rfl rfl).mp hc4
    refine W.widen (k := 0) (n := 0) (by decide) (by decide) ?_
    exact gh_thr (bytes := Bundle.six) (index := 7) (is := 191) (E := R_IS) (ci := 7) hx hb htr hlk hno hml hl.1 hown htb hK hX hG rfl (by decide +kernel) k_1_219 k_1_11 k_1_220 (List.mem_of_getElem? (i := 8) rfl) (by decide +kernel) (by decide +kernel) (by decide +kernel) (by decide +kernel) at_IS d_X_requireSolid_7 d_X_requireSolid_10 d_X_requireSolid_11 d_X_requireSolid_13 d_X_requireSolid_16 (by decide) (by decide) (by decide) (by decide) (fun q9 hq9 => rB_1 (decide_eq_true (by omega)) ⟨q9, rfl, hq9, rfl⟩)


set_option maxHeartbeats 4000000 in
set_option maxRecDepth 100000 in
/-- requirePoint -/
theorem c_X_requirePoint {a b c1 d : Int32} (htr : xc_off l) : gh_C l D vC (tZ cI cJ cP cS) (xF b0) b0 y_X_requirePoint w_X_requirePoint ({ frames := 6, cells := 1, slots := 6, locals := 90 }) [.int a, .int b, .int c1, .int d] h (rB (m_badQ a b c1 d) (rT 6 h) (rV h)) := by
  refine gh_ofW (by decide) (Nat.le_of_ble_eq_true rfl) ?_
  intro p e s m below meth c ls hctx hno hl hG hK hX
  obtain ⟨hx, hb, hr, hml, hown, hlk, hts, hnm⟩ := hctx
  have htb : ∀ w ∈ tB, w.before _ s = true := fun w hw => hts w (List.mem_cons_of_mem _ hw)
  replace hl : lv_has ls 4 [(0, .int a), (1, .int b), (2, .int c1), (3, .int d)] := hl
  refine lv_iload_n hx hb d_X_requirePoint_0 rfl (lv_at hl 3 rfl) ?_
  refine lv_iconst (v := 1) hx hb d_X_requirePoint_1 (by decide) ?_
  refine lv_icmp_lt (tgt := 12) hx hb d_X_requirePoint_2 (by decide) (fun hc2 => ?_) (fun hc2 => ?_)
  · skip
    refine W.widen (k := 0) (n := 0) (by decide) (by decide) ?_
    exact gh_thr (bytes := Bundle.six) (index := 7) (is := 193) (E := R_IA) (ci := 6) hx hb htr hlk hno hml hl.1 hown htb hK hX hG rfl (by decide +kernel) k_1_143 k_1_10 k_1_144 (List.mem_of_getElem? (i := 10) rfl) (by decide +kernel) (by decide +kernel) (by decide +kernel) (by decide +kernel) at_IA d_X_requirePoint_12 d_X_requirePoint_15 d_X_requirePoint_16 d_X_requirePoint_18 d_X_requirePoint_21 (by decide) (by decide) (by decide) (by decide) (fun q9 hq9 => rB_1 (by simp [m_badQ, hc2]) ⟨q9, rfl, hq9, rfl⟩)
  · skip
    refine lv_iload_n hx hb d_X_requirePoint_5 rfl (lv_at hl 3 rfl) ?_
    refine lv_sipush (v := 1000) hx hb d_X_requirePoint_6 (by decide) ?_
    refine lv_icmp_le (tgt := 22) hx hb d_X_requirePoint_9 (by decide) (fun hc9 => ?_) (fun hc9 => ?_)
    · skip
      refine lv_iload_n hx hb d_X_requirePoint_22 rfl (lv_at hl 0 rfl) ?_
      refine lv_ldc (v := 1000000) hx hb hown (htb _ k_1_212) d_X_requirePoint_23 ?_
      refine gh_cS (As := [.int a, .int 1000000]) (rest := []) (xF_ok b0) hx hb hml hown hK hX hG c_X_isBeyond (q_X_isBeyond htb ⟨by decide, by decide⟩) (htb _ k_1_213) (htb _ k_1_214) rfl hl.1 rfl (Nat.le_of_ble_eq_true rfl) d_X_requirePoint_25 ⟨by decide, by decide⟩ (fun v9 h9 H l9 hp9 hG => ?_) (fun _ _ _ _ hp9 _ => by cases hp9.1)
      obtain ⟨hv9, hh9⟩ := hp9
      cases hv9
      rw [hh9] at hG
      refine W.eq (g2 := F0 m 28 ls [.int (m_b (m_bey a 1000000))]) rfl ?_
      refine W.widen (k := 0) (n := 0) (by decide) (by decide) ?_
      refine lv_if_ne (tgt := 49) hx hb d_X_requirePoint_28 (by decide) (fun hc28 => ?_) (fun hc28 => ?_)
      · skip
        replace hc28 := mb_1.mp hc28
        refine W.widen (k := 0) (n := 0) (by decide) (by decide) ?_
        exact gh_thr (bytes := Bundle.six) (index := 7) (is := 195) (E := R_IA) (ci := 6) hx hb htr hlk hno hml hl.1 hown htb hK hX hG rfl (by decide +kernel) k_1_143 k_1_10 k_1_144 (List.mem_of_getElem? (i := 11) rfl) (by decide +kernel) (by decide +kernel) (by decide +kernel) (by decide +kernel) at_IA d_X_requirePoint_49 d_X_requirePoint_52 d_X_requirePoint_53 d_X_requirePoint_55 d_X_requirePoint_58 (by decide) (by decide) (by decide) (by decide) (fun q9 hq9 => rB_1 (by simp [m_badQ, hc2, Int32.not_lt.mpr hc9, hc28]) ⟨q9, rfl, hq9, rfl⟩)
      · skip
        replace hc28 := mb_0.mp hc28
        refine lv_iload_n hx hb d_X_requirePoint_31 rfl (lv_at hl 1 rfl) ?_
        refine lv_ldc (v := 1000000) hx hb hown (htb _ k_1_212) d_X_requirePoint_32 ?_
        refine gh_cS (As := [.int b, .int 1000000]) (rest := []) (xF_ok b0) hx hb hml hown hK hX hG c_X_isBeyond (q_X_isBeyond htb ⟨by decide, by decide⟩) (htb _ k_1_213) (htb _ k_1_214) rfl hl.1 rfl (Nat.le_of_ble_eq_true rfl) d_X_requirePoint_34 ⟨by decide, by decide⟩ (fun v9 h9 H l9 hp9 hG => ?_) (fun _ _ _ _ hp9 _ => by cases hp9.1)
        obtain ⟨hv9, hh9⟩ := hp9
        cases hv9
        rw [hh9] at hG
        refine W.eq (g2 := F0 m 37 ls [.int (m_b (m_bey b 1000000))]) rfl ?_
        refine W.widen (k := 0) (n := 0) (by decide) (by decide) ?_
        refine lv_if_ne (tgt := 49) hx hb d_X_requirePoint_37 (by decide) (fun hc37 => ?_) (fun hc37 => ?_)
        · skip
          replace hc37 := mb_1.mp hc37
          refine W.widen (k := 0) (n := 0) (by decide) (by decide) ?_
          exact gh_thr (bytes := Bundle.six) (index := 7) (is := 195) (E := R_IA) (ci := 6) hx hb htr hlk hno hml hl.1 hown htb hK hX hG rfl (by decide +kernel) k_1_143 k_1_10 k_1_144 (List.mem_of_getElem? (i := 11) rfl) (by decide +kernel) (by decide +kernel) (by decide +kernel) (by decide +kernel) at_IA d_X_requirePoint_49 d_X_requirePoint_52 d_X_requirePoint_53 d_X_requirePoint_55 d_X_requirePoint_58 (by decide) (by decide) (by decide) (by decide) (fun q9 hq9 => rB_1 (by simp [m_badQ, hc2, Int32.not_lt.mpr hc9, hc28, hc37]) ⟨q9, rfl, hq9, rfl⟩)
        · skip
          replace hc37 := mb_0.mp hc37
          refine lv_iload_n hx hb d_X_requirePoint_40 rfl (lv_at hl 2 rfl) ?_
          refine lv_ldc (v := 1000000) hx hb hown (htb _ k_1_212) d_X_requirePoint_41 ?_
          refine gh_cS (As := [.int c1, .int 1000000]) (rest := []) (xF_ok b0) hx hb hml hown hK hX hG c_X_isBeyond (q_X_isBeyond htb ⟨by decide, by decide⟩) (htb _ k_1_213) (htb _ k_1_214) rfl hl.1 rfl (Nat.le_of_ble_eq_true rfl) d_X_requirePoint_43 ⟨by decide, by decide⟩ (fun v9 h9 H l9 hp9 hG => ?_) (fun _ _ _ _ hp9 _ => by cases hp9.1)
          obtain ⟨hv9, hh9⟩ := hp9
          cases hv9
          rw [hh9] at hG
          refine W.eq (g2 := F0 m 46 ls [.int (m_b (m_bey c1 1000000))]) rfl ?_
          refine W.widen (k := 0) (n := 0) (by decide) (by decide) ?_
          refine lv_if_eq (tgt := 59) hx hb d_X_requirePoint_46 (by decide) (fun hc46 => ?_) (fun hc46 => ?_)
          · skip
            replace hc46 := mb_0.mp hc46
            refine W.widen (k := 1) (n := 6) (by decide) (by decide) ?_
            exact gh_vret hx hb hr hlk hG d_X_requirePoint_59 (rB_0 (by simp [m_badQ, hc2, Int32.not_lt.mpr hc9, hc28, hc37, hc46]) ⟨rfl, rfl⟩)
          · skip
            replace hc46 := mb_1.mp hc46
            refine W.widen (k := 0) (n := 0) (by decide) (by decide) ?_
            exact gh_thr (bytes := Bundle.six) (index := 7) (is := 195) (E := R_IA) (ci := 6) hx hb htr hlk hno hml hl.1 hown htb hK hX hG rfl (by decide +kernel) k_1_143 k_1_10 k_1_144 (List.mem_of_getElem? (i := 11) rfl) (by decide +kernel) (by decide +kernel) (by decide +kernel) (by decide +kernel) at_IA d_X_requirePoint_49 d_X_requirePoint_52 d_X_requirePoint_53 d_X_requirePoint_55 d_X_requirePoint_58 (by decide) (by decide) (by decide) (by decide) (fun q9 hq9 => rB_1 (by simp [m_badQ, hc2, Int32.not_lt.mpr hc9, hc28, hc37, hc46]) ⟨q9, rfl, hq9, rfl⟩)
    · skip
      refine W.widen (k := 0) (n := 0) (by decide) (by decide) ?_
      exact gh_thr (bytes := Bundle.six) (index := 7) (is := 193) (E := R_IA) (ci := 6) hx hb htr hlk hno hml hl.1 hown htb hK hX hG rfl (by decide +kernel) k_1_143 k_1_10 k_1_144 (List.mem_of_getElem? (i := 10) rfl) (by decide +kernel) (by decide +kernel) (by decide +kernel) (by decide +kernel) at_IA d_X_requirePoint_12 d_X_requirePoint_15 d_X_requirePoint_16 d_X_requirePoint_18 d_X_requirePoint_21 (by decide) (by decide) (by decide) (by decide) (fun q9 hq9 => rB_1 (by simp [m_badQ, hc2, Int32.not_le.mp hc9]) ⟨q9, rfl, hq9, rfl⟩)

set_option maxHeartbeats 4000000 in
set_option maxRecDepth 100000 in
/-- planes -/
theorem c_X_planes {sp al fi : Nat} {n : Nat} {ga : Nat → Option Nat} {gf : Nat → Int32} {pl fs : Nat → Nat} {pa pb pc pd : Nat → Int64} (hsp : h sp = some (.inr (2, [.ref al, .ref fi, .int (nI n)]))) (hal : h al = some (.inl (cP, 14, .inr (.inr (.inr (.inr ga)))))) (hfi : h fi = some (.inl (cI, 14, .inl gf))) (hga : ∀ i, i < n → ga i = some (pl i)) (hgf : ∀ i, i < n → gf i = nI (fs i)) (hfs : ∀ i, fs i < 14) (hpl : ∀ i, i < n → h (pl i) = some (.inr (1, [.long (pa i), .long (pb i), .long (pc i), .long (pd i)]))) (hn : n ≤ 14) (h6 : 6 ≤ n) {x sk po : Nat} {gs : Nat → Option Nat} {so wo : Nat → Nat} {wd : Nat → Nat → Int64} {ht : Nat} {px py pz pw : Int64} (hxx : h x = some (.inr (0, [.ref sp, .ref sk, .ref po, .int (nI ht)]))) (hsk : h sk = some (.inl (cS, 6, .inr (.inr (.inr (.inr gs)))))) (hgs : ∀ j, j < 6 → gs j = some (so j)) (hpo : h po = some (.inr (3, [.long px, .long py, .long pz, .long pw]))) (hso : ∀ j, j < 6 → h (so j) = some (.inr (4, [.ref (wo j)]))) (hwo : ∀ j, j < 6 → h (wo j) = some (.inl (cJ, 4, .inr (.inl (wd j))))) (hwi : ∀ i j, i < 6 → j < 6 → wo i = wo j → i = j) (hht : ht ≤ 6) : gh_C l D vC (tZ cI cJ cP cS) (xF b0) b0 y_X_planes w_X_planes ({ frames := 1, cells := 0, slots := 0, locals := 20 }) [.ref x] h (rI (nI (n - 6)) h) := by
  refine gh_ofW (by decide) (Nat.le_of_ble_eq_true rfl) ?_
  intro p e s m below meth c ls hctx hno hl hG hK hX
  obtain ⟨hx, hb, hr, hml, hown, hlk, hts, hnm⟩ := hctx
  have htb : ∀ w ∈ tB, w.before _ s = true := fun w hw => hts w (List.mem_cons_of_mem _ hw)
  replace hl : lv_has ls 1 [(0, .ref x)] := hl
  refine lv_aload_n hx hb d_X_planes_0 rfl (lv_at hl 0 rfl) ?_
  refine gh_get (ci := 0) hx hb htb in_X hown hK hG hxx rfl 0 (by decide) (htb _ k_1_109) (fun _ h9 => h9) rfl d_X_planes_1 ?_
  refine gh_cV (ci := 2) (As := []) (rest := []) (xF_ok b0) hx hb hml hown hK hX hG rfl hsp (c_Ps_given hsp hal hfi hga hgf hfs hpl hn h6) (q_Ps_given htb ⟨by decide, by decide⟩) (htb _ k_1_126) (htb _ k_1_127) (htb _ k_1_128) rfl hl.1 rfl (Nat.le_of_ble_eq_true rfl) d_X_planes_4 ⟨by decide, by decide⟩ (fun v9 h9 H l9 hp9 hG => ?_) (fun _ _ _ _ hp9 _ => by cases hp9.1)
  obtain ⟨hv9, hh9⟩ := hp9
  cases hv9
  rw [hh9] at hG
  refine W.eq (g2 := F0 m 7 ls [.int (nI (n - 6))]) rfl ?_
  refine W.widen (k := 0) (n := 0) (by decide) (by decide) ?_
  exact gh_iret hx hb hr hlk rfl hG d_X_planes_7 ⟨rfl, rfl⟩

set_option maxHeartbeats 4000000 in
set_option maxRecDepth 100000 in
/-- solids -/
theorem c_X_solids {sp al fi : Nat} {n : Nat} {ga : Nat → Option Nat} {gf : Nat → Int32} {pl fs : Nat → Nat} {pa pb pc pd : Nat → Int64} (hsp : h sp = some (.inr (2, [.ref al, .ref fi, .int (nI n)]))) (hal : h al = some (.inl (cP, 14, .inr (.inr (.inr (.inr ga)))))) (hfi : h fi = some (.inl (cI, 14, .inl gf))) (hga : ∀ i, i < n → ga i = some (pl i)) (hgf : ∀ i, i < n → gf i = nI (fs i)) (hfs : ∀ i, fs i < 14) (hpl : ∀ i, i < n → h (pl i) = some (.inr (1, [.long (pa i), .long (pb i), .long (pc i), .long (pd i)]))) (hn : n ≤ 14) (h6 : 6 ≤ n) {x sk po : Nat} {gs : Nat → Option Nat} {so wo : Nat → Nat} {wd : Nat → Nat → Int64} {ht : Nat} {px py pz pw : Int64} (hxx : h x = some (.inr (0, [.ref sp, .ref sk, .ref po, .int (nI ht)]))) (hsk : h sk = some (.inl (cS, 6, .inr (.inr (.inr (.inr gs)))))) (hgs : ∀ j, j < 6 → gs j = some (so j)) (hpo : h po = some (.inr (3, [.long px, .long py, .long pz, .long pw]))) (hso : ∀ j, j < 6 → h (so j) = some (.inr (4, [.ref (wo j)]))) (hwo : ∀ j, j < 6 → h (wo j) = some (.inl (cJ, 4, .inr (.inl (wd j))))) (hwi : ∀ i j, i < 6 → j < 6 → wo i = wo j → i = j) (hht : ht ≤ 6) : gh_C l D vC (tZ cI cJ cP cS) (xF b0) b0 y_X_solids w_X_solids ({ frames := 0, cells := 0, slots := 0, locals := 0 }) [.ref x] h (rI (nI ht) h) := by
  refine gh_ofW (by decide) (Nat.le_of_ble_eq_true rfl) ?_
  intro p e s m below meth c ls hctx hno hl hG hK hX
  obtain ⟨hx, hb, hr, hml, hown, hlk, hts, hnm⟩ := hctx
  have htb : ∀ w ∈ tB, w.before _ s = true := fun w hw => hts w (List.mem_cons_of_mem _ hw)
  replace hl : lv_has ls 1 [(0, .ref x)] := hl
  refine lv_aload_n hx hb d_X_solids_0 rfl (lv_at hl 0 rfl) ?_
  refine gh_get (ci := 0) hx hb htb in_X hown hK hG hxx rfl 3 (by decide) (htb _ k_1_112) (fun _ h9 => h9) rfl d_X_solids_1 ?_
  exact gh_iret hx hb hr hlk rfl hG d_X_solids_4 ⟨rfl, rfl⟩

end
