/-- the plane that the model finds at a point -/
def v_int : Option Nat → Int32
  | none => -1
  | some p => nI p
def v_co (x y z : Int32) (i : Nat) : Int32 := if i = 0 then x else if i = 1 then y else z
def v_pl (x y z w : Int32) : Nat → Option Nat
  | 0 => none
  | i + 1 => if v_lies (v_co x y z i) w = 0 then some (if v_co x y z i ≤ 0 then 13 + i else 10 + i) else v_pl x y z w i
def v_on (x y z w : Int32) (i : Nat) : Bool := decide (v_lies (v_co x y z i) w = 0)
def v_fd (nf : Nat → Int32) (vf : Nat → Int64) (o0 : Option Nat) : Nat → Option (Option Nat)
  | 0 => some o0
  | k + 1 => match v_fd nf vf o0 k with
    | none => none
    | some o => if vf k = 0 then (if v_alike nf (o.getD k) k = 0 then none else some (some (o.getD k))) else some o
theorem fd_0 {nf : Nat → Int32} {vf : Nat → Int64} {o0 o : Option Nat} {k : Nat} (h : v_fd nf vf o0 k = some o) (hv : ¬ vf k = 0) : v_fd nf vf o0 (k + 1) = some o := by simp only [v_fd]; rw [h]; simp only; rw [if_neg hv]
theorem fd_1 {nf : Nat → Int32} {vf : Nat → Int64} {o0 o : Option Nat} {k : Nat} (h : v_fd nf vf o0 k = some o) (hv : vf k = 0) (ha : ¬ v_alike nf (o.getD k) k = 0) : v_fd nf vf o0 (k + 1) = some (some (o.getD k)) := by simp only [v_fd]; rw [h]; simp only; rw [if_pos hv, if_neg ha]
theorem fd_n {nf : Nat → Int32} {vf : Nat → Int64} {o0 o : Option Nat} {k : Nat} (h : v_fd nf vf o0 k = some o) (hv : vf k = 0) (ha : v_alike nf (o.getD k) k = 0) : v_fd nf vf o0 (k + 1) = none := by simp only [v_fd]; rw [h]; simp only; rw [if_pos hv, if_pos ha]
theorem fd_nn {nf : Nat → Int32} {vf : Nat → Int64} {o0 : Option Nat} {k : Nat} (h : v_fd nf vf o0 k = none) : ∀ n, k ≤ n → v_fd nf vf o0 n = none := by
  intro n
  induction n with
  | zero => intro hk; rw [show k = 0 by omega] at h; exact h
  | succ n ih =>
    intro hk
    by_cases hkn : k = n + 1
    · rw [← hkn]; exact h
    · simp only [v_fd]; rw [ih (by omega)]
theorem fd_cg {nf : Nat → Int32} {vf uf : Nat → Int64} {o0 : Option Nat} : ∀ n, (∀ j, j < n → vf j = uf j) → v_fd nf vf o0 n = v_fd nf uf o0 n := by
  intro n
  induction n with
  | zero => intro _; rfl
  | succ n ih => intro h; simp only [v_fd]; rw [ih (fun j hj => h j (by omega)), h n (by omega)]
def v_vp (o : Option Nat) : Prop := ∀ p, o = some p → p < 8 ∨ (10 ≤ p ∧ p < 16)
theorem pl_ok (x y z w : Int32) : ∀ n, n ≤ 3 → v_vp (v_pl x y z w n) := by
  intro n
  induction n with
  | zero => intro _ p hp; cases hp
  | succ n ih =>
    intro hn p hp
    simp only [v_pl] at hp
    split at hp
    · cases hp
      split <;> omega
    · exact ih (by omega) p hp
theorem fd_ok {nf : Nat → Int32} {vf : Nat → Int64} {o0 : Option Nat} (h0 : v_vp o0) : ∀ n, n ≤ 8 → ∀ o, v_fd nf vf o0 n = some o → v_vp o := by
  intro n
  induction n with
  | zero => intro _ o ho; cases ho; exact h0
  | succ n ih =>
    intro hn o ho
    simp only [v_fd] at ho
    cases hf : v_fd nf vf o0 n with
    | none => rw [hf] at ho; cases ho
    | some o1 =>
      rw [hf] at ho
      simp only at ho
      have h1 := ih (by omega) o1 hf
      split at ho
      · split at ho
        · cases ho
        · cases ho
          intro p hp
          cases hp
          cases o1 with
          | none => exact Or.inl (by show n < 8; omega)
          | some q => exact h1 q rfl
      · cases ho; exact h1
def v_so (nf : Nat → Int32) (vf : Nat → Int64) (g : Nat) (x y z w : Int32) : Option Nat := if mc_cnt (v_on x y z w) 3 ≤ 1 then (v_fd nf vf (v_pl x y z w 3) g).getD none else none
theorem so_cg {nf : Nat → Int32} {vf uf : Nat → Int64} {g : Nat} {x y z w : Int32} (h : ∀ j, j < g → vf j = uf j) : v_so nf vf g x y z w = v_so nf uf g x y z w := by unfold v_so; rw [fd_cg g h]
theorem so_ok {nf : Nat → Int32} {vf : Nat → Int64} {g : Nat} {x y z w : Int32} (hg : g ≤ 8) : v_vp (v_so nf vf g x y z w) := by
  unfold v_so
  split
  · cases hf : v_fd nf vf (v_pl x y z w 3) g with
    | none => intro p hp; cases hp
    | some o => exact fd_ok (pl_ok x y z w 3 (by omega)) g hg o hf
  · intro p hp; cases hp
def v_side (nf ff : Nat → Int32) (hf : Nat → Int64) (g my : Nat) (x y z w : Int32) (p : Nat) : Int32 :=
  m_look (!decide (v_lies x w < 0) && (!decide (v_lies y w < 0) && (!decide (v_lies z w < 0) && v_top hf my (pb_num (v_at nf (v_val nf ff x y z w) p true) g))))
    (!decide (v_lies x w < 0) && (!decide (v_lies y w < 0) && (!decide (v_lies z w < 0) && (!decide (10 ≤ p) && v_top hf my (pb_num (v_at nf (v_val nf ff x y z w) p false) g)))))

section
variable {l : Launch} {D : va_G} {cI cJ cP cS : ClassId} {b0 : Nat} {h : gh_M}

set_option maxHeartbeats 4000000 in
set_option maxRecDepth 100000 in
/-- sideOf -/
theorem c_Mo_sideOf {mo nm fr hs va tp dn g my : Nat} {th : Int32} {nf ff : Nat → Int32} {hf vf tf df : Nat → Int64} (hW : wM cI cJ h mo nm fr hs va tp dn th g my nf ff hf vf tf df) {a1 b1 c1 d1 : Int32} : gh_C l D vC (tZ cI cJ cP cS) (xF b0) b0 y_Mo_sideOf w_Mo_sideOf ({ frames := 2, cells := 0, slots := 0, locals := 70 }) [.ref mo, .int a1, .int b1, .int c1, .int d1] h (rI (v_int (v_so nf vf g a1 b1 c1 d1)) h) := by
  refine gh_ofW (by decide) (Nat.le_of_ble_eq_true rfl) ?_
  intro p e s m below meth c ls hctx hno hl hG hK hX
  obtain ⟨hx, hb, hr, hml, hown, hlk, hts, hnm⟩ := hctx
  have htb : ∀ w ∈ tB, w.before _ s = true := fun w hw => hts w (List.mem_cons_of_mem _ hw)
  replace hl : lv_has ls 9 [(0, .ref mo), (1, .int a1), (2, .int b1), (3, .int c1), (4, .int d1)] := hl
  obtain ⟨zmo, znm, zfr, zhs, zva, ztp, zdn, zvt, zvd, ztd, zg, zy⟩ := hW
  have zf0 : frM h h := frM_rf h
  refine lv_iconst (v := (-1)) hx hb d_Mo_sideOf_0 (by decide) ?_
  refine lv_istore (lv' := [(5, .int (-1)), (0, .ref mo), (1, .int a1), (2, .int b1), (3, .int c1), (4, .int d1)]) hx hb d_Mo_sideOf_1 hl (by decide) rfl (fun ls hl => ?_)
  refine lv_iconst (v := 0) hx hb d_Mo_sideOf_3 (by decide) ?_
  refine lv_istore (lv' := [(6, .int 0), (5, .int (-1)), (0, .ref mo), (1, .int a1), (2, .int b1), (3, .int c1), (4, .int d1)]) hx hb d_Mo_sideOf_4 hl (by decide) rfl (fun ls hl => ?_)
  refine lv_iconst (v := 0) hx hb d_Mo_sideOf_6 (by decide) ?_
  refine lv_istore (lv' := [(7, .int 0), (6, .int 0), (5, .int (-1)), (0, .ref mo), (1, .int a1), (2, .int b1), (3, .int c1), (4, .int d1)]) hx hb d_Mo_sideOf_7 hl (by decide) rfl (fun ls hl => ?_)
  refine gh_gen hG (fun H l9 hG => ?_)
  refine lp_upH (α := Option Nat × Nat) (G := fun ls H l9 => W p l e _ s m _ below meth c H l9 _ _ _ (F0 m 9 ls [])) 3 (fun k1 acc ls H l9 => (acc.1 = v_pl a1 b1 c1 d1 k1 ∧ acc.2 = mc_cnt (v_on a1 b1 c1 d1) k1 ∧ acc.2 ≤ k1) ∧ lv_has ls 9 [(0, .ref mo), (1, .int a1), (2, .int b1), (3, .int c1), (4, .int d1), (5, .int (v_int acc.1)), (6, .int (nI acc.2)), (7, .int (nI k1))] ∧ gh_P D vC b0 h s.heap H l9) ?_ 0 (none, 0) ls H l9 (Nat.zero_le _) ⟨⟨rfl, rfl, Nat.le_refl 0⟩, (lv_sub hl [3, 4, 5, 6, 7, 2, 1, 0] rfl), hG⟩
  intro k1 acc ls H l9 hka hI iha
  obtain ⟨hi1a, hl, hG⟩ := hI
  obtain ⟨hA1, hA2, hA3⟩ := hi1a
  refine lv_iload hx hb d_Mo_sideOf_9 (lv_at hl 7 rfl) ?_
  refine lv_iconst (v := 3) hx hb d_Mo_sideOf_11 (by decide) ?_
  refine lv_icmp_ge (tgt := 76) hx hb d_Mo_sideOf_12 (by decide) (fun hc12 => ?_) (fun hc12 => ?_)
  · skip
    replace hc12 : 3 ≤ k1 := (nc_le (a := 3) (b := k1) (by omega) (by omega) rfl rfl).mp hc12
    refine lv_iload hx hb d_Mo_sideOf_76 (lv_at hl 6 rfl) ?_
    refine lv_iconst (v := 1) hx hb d_Mo_sideOf_78 (by decide) ?_
    refine lv_icmp_le (tgt := 84) hx hb d_Mo_sideOf_79 (by decide) (fun hc79 => ?_) (fun hc79 => ?_)
    · skip
      replace hc79 : acc.2 ≤ 1 := (nc_le (a := acc.2) (b := 1) (by omega) (by omega) rfl rfl).mp hc79
      have hk3 : k1 = 3 := by omega
      refine lv_iconst (v := 0) hx hb d_Mo_sideOf_84 (by decide) ?_
      refine lv_istore (lv' := [(7, .int 0), (0, .ref mo), (1, .int a1), (2, .int b1), (3, .int c1), (4, .int d1), (5, .int (v_int acc.1)), (6, .int (nI acc.2))]) hx hb d_Mo_sideOf_85 hl (by decide) rfl (fun ls hl => ?_)
      refine gh_gen hG (fun H l9 hG => ?_)
      refine lp_upH (α := Option Nat) (G := fun ls H l9 => W p l e _ s m _ below meth c H l9 _ _ _ (F0 m 87 ls [])) g (fun k o2 ls H l9 => (v_fd nf vf (v_pl a1 b1 c1 d1 3) k = some o2 ∧ v_vp o2) ∧ lv_has ls 9 [(0, .ref mo), (1, .int a1), (2, .int b1), (3, .int c1), (4, .int d1), (5, .int (v_int o2)), (7, .int (nI k))] ∧ gh_P D vC b0 h s.heap H l9) ?_ 0 acc.1 ls H l9 (Nat.zero_le _) ⟨⟨by show some _ = some _; rw [← hk3, ← hA1], by rw [hA1, hk3]; exact pl_ok _ _ _ _ 3 (by omega)⟩, (lv_sub hl [1, 2, 3, 4, 5, 6, 0] rfl), hG⟩
      intro k o2 ls H l9 hk hI ih
      obtain ⟨hi1, hl, hG⟩ := hI
      obtain ⟨hB1, hB2⟩ := hi1
      refine lv_iload hx hb d_Mo_sideOf_87 (lv_at hl 6 rfl) ?_
      refine lv_aload_n hx hb d_Mo_sideOf_89 rfl (lv_at hl 0 rfl) ?_
      refine gh_get (ci := 5) hx hb htb in_Mo hown hK hG zmo rfl 1 (by decide) (htb _ k_2_224) (fun _ h9 => h9) rfl d_Mo_sideOf_90 ?_
      refine lv_icmp_ge (tgt := 141) hx hb d_Mo_sideOf_93 (by decide) (fun hc93 => ?_) (fun hc93 => ?_)
      · skip
        replace hc93 : g ≤ k := (nc_le (a := g) (b := k) (by omega) (by omega) rfl rfl).mp hc93
        refine lv_iload hx hb d_Mo_sideOf_141 (lv_at hl 5 rfl) ?_
        exact gh_iret hx hb hr hlk rfl hG d_Mo_sideOf_143 (⟨by unfold v_so; rw [if_pos (by rw [← hk3, ← hA2]; omega), show g = k by omega, hB1]; rfl, rfl⟩)
      · skip
        replace hc93 : ¬ g ≤ k := fun q9 => hc93 ((nc_le (a := g) (b := k) (by omega) (by omega) rfl rfl).mpr q9)
        refine lv_aload_n hx hb d_Mo_sideOf_96 rfl (lv_at hl 0 rfl) ?_
        refine gh_get (ci := 5) hx hb htb in_Mo hown hK hG zmo rfl 6 (by decide) (htb _ k_2_229) (fun _ h9 => h9) rfl d_Mo_sideOf_97 ?_
        refine lv_iload hx hb d_Mo_sideOf_100 (lv_at hl 6 rfl) ?_
        refine gh_lald (v := vf k) hx hb hK hG 1 zva rfl (vp_in_nI (by omega) (by decide)) (by rw [nI_clamp (by omega)]) d_Mo_sideOf_102 ?_
        refine lv_lconst (v := 0) hx hb d_Mo_sideOf_103 (by decide) ?_
        refine W.lcmp hx hb d_Mo_sideOf_104 ?_
        refine lv_if_ne (tgt := 135) hx hb d_Mo_sideOf_105 (by decide) (fun hc105 => ?_) (fun hc105 => ?_)
        · skip
          rw [lg_cmp_eq] at hc105
          refine lv_iinc (k := 6) (v := nI (k + 1)) (lv' := [(7, .int (nI (k + 1))), (0, .ref mo), (1, .int a1), (2, .int b1), (3, .int c1), (4, .int d1), (5, .int (v_int o2))]) hx hb d_Mo_sideOf_135 hl rfl (nI_1 k) (by decide) rfl (fun ls hl => ?_)
          refine lv_goto (tgt := 87) hx hb d_Mo_sideOf_138 (by decide) ?_
          exact ih o2 ls H l9 (by omega) ⟨⟨fd_0 hB1 hc105, hB2⟩, (lv_sub hl [1, 2, 3, 4, 5, 6, 0] rfl), hG⟩
        · skip
          rw [lg_cmp_eq] at hc105
          rcases o2 with _ | p1
          · skip
            replace hl : lv_has ls 9 [(0, .ref mo), (1, .int a1), (2, .int b1), (3, .int c1), (4, .int d1), (5, .int (-1)), (7, .int (nI k))] := hl
            refine lv_iload hx hb d_Mo_sideOf_108 (lv_at hl 5 rfl) ?_
            refine lv_if_ge (tgt := 118) hx hb d_Mo_sideOf_110 (by decide) (fun hc110 => absurd hc110 (by decide)) (fun hc110 => ?_)
            refine lv_iload hx hb d_Mo_sideOf_113 (lv_at hl 6 rfl) ?_
            refine lv_goto (tgt := 120) hx hb d_Mo_sideOf_115 (by decide) ?_
            refine lv_istore (lv' := [(5, .int (nI k)), (0, .ref mo), (1, .int a1), (2, .int b1), (3, .int c1), (4, .int d1), (7, .int (nI k))]) hx hb d_Mo_sideOf_120 hl (by decide) rfl (fun ls hl => ?_)
            refine lv_aload_n hx hb d_Mo_sideOf_122 rfl (lv_at hl 1 rfl) ?_
            refine lv_iload hx hb d_Mo_sideOf_123 (lv_at hl 0 rfl) ?_
            refine lv_iload hx hb d_Mo_sideOf_125 (lv_at hl 6 rfl) ?_
            refine gh_cV (ci := 5) (As := [.int (nI k), .int (nI k)]) (rest := []) (xF_ok b0) hx hb hml hown hK hX hG rfl zmo (c_Mo_alike (wM_mk zmo znm zfr zhs zva ztp zdn zvt zvd ztd (by omega) (by omega)) (p1 := k) (q1 := k) (by omega) (by omega)) (q_Mo_alike htb ⟨by decide, by decide⟩) (htb _ k_3_87) (htb _ k_3_89) (htb _ k_s_Mo_alike) rfl hl.1 rfl (Nat.le_of_ble_eq_true rfl) d_Mo_sideOf_127 ⟨by decide, by decide⟩ (fun v9 h9 H l9 hp9 hG => ?_) (fun _ _ _ _ hp9 _ => by cases hp9.1)
            obtain ⟨hv9, hh9⟩ := hp9
            cases hv9
            rw [hh9] at hG
            refine W.eq (g2 := F0 m 130 ls [.int (v_alike nf k k)]) rfl ?_
            refine W.widen (k := 0) (n := 0) (by decide) (by decide) ?_
            refine lv_if_ne (tgt := 135) hx hb d_Mo_sideOf_130 (by decide) (fun hc130 => ?_) (fun hc130 => ?_)
            · skip
              refine lv_iinc (k := 6) (v := nI (k + 1)) (lv' := [(7, .int (nI (k + 1))), (5, .int (nI k)), (0, .ref mo), (1, .int a1), (2, .int b1), (3, .int c1), (4, .int d1)]) hx hb d_Mo_sideOf_135 hl rfl (nI_1 k) (by decide) rfl (fun ls hl => ?_)
              refine lv_goto (tgt := 87) hx hb d_Mo_sideOf_138 (by decide) ?_
              exact ih (some k) ls H l9 (by omega) ⟨⟨fd_1 hB1 hc105 hc130, fun p hp => by cases hp; omega⟩, (lv_sub hl [2, 3, 4, 5, 6, 1, 0] rfl), hG⟩
            · skip
              refine lv_iconst (v := (-1)) hx hb d_Mo_sideOf_133 (by decide) ?_
              exact gh_iret hx hb hr hlk rfl hG d_Mo_sideOf_134 (⟨by unfold v_so; rw [if_pos (by rw [← hk3, ← hA2]; omega), fd_nn (fd_n hB1 hc105 hc130) g (by omega)]; rfl, rfl⟩)
          · skip
            have hvp := hB2 p1 rfl
            replace hl : lv_has ls 9 [(0, .ref mo), (1, .int a1), (2, .int b1), (3, .int c1), (4, .int d1), (5, .int (nI p1)), (7, .int (nI k))] := hl
            refine lv_iload hx hb d_Mo_sideOf_108 (lv_at hl 5 rfl) ?_
            refine lv_if_ge (tgt := 118) hx hb d_Mo_sideOf_110 (by decide) (fun hc110 => ?_) (fun hc110 => absurd ((nc_le (a := 0) (b := p1) (by omega) (by omega) rfl rfl).mpr (Nat.zero_le _)) hc110)
            refine lv_iload hx hb d_Mo_sideOf_118 (lv_at hl 5 rfl) ?_
            refine lv_istore (lv' := [(5, .int (nI p1)), (0, .ref mo), (1, .int a1), (2, .int b1), (3, .int c1), (4, .int d1), (7, .int (nI k))]) hx hb d_Mo_sideOf_120 hl (by decide) rfl (fun ls hl => ?_)
            refine lv_aload_n hx hb d_Mo_sideOf_122 rfl (lv_at hl 1 rfl) ?_
            refine lv_iload hx hb d_Mo_sideOf_123 (lv_at hl 0 rfl) ?_
            refine lv_iload hx hb d_Mo_sideOf_125 (lv_at hl 6 rfl) ?_
            refine gh_cV (ci := 5) (As := [.int (nI p1), .int (nI k)]) (rest := []) (xF_ok b0) hx hb hml hown hK hX hG rfl zmo (c_Mo_alike (wM_mk zmo znm zfr zhs zva ztp zdn zvt zvd ztd (by omega) (by omega)) (p1 := p1) (q1 := k) (by omega) (by omega)) (q_Mo_alike htb ⟨by decide, by decide⟩) (htb _ k_3_87) (htb _ k_3_89) (htb _ k_s_Mo_alike) rfl hl.1 rfl (Nat.le_of_ble_eq_true rfl) d_Mo_sideOf_127 ⟨by decide, by decide⟩ (fun v9 h9 H l9 hp9 hG => ?_) (fun _ _ _ _ hp9 _ => by cases hp9.1)
            obtain ⟨hv9, hh9⟩ := hp9
            cases hv9
            rw [hh9] at hG
            refine W.eq (g2 := F0 m 130 ls [.int (v_alike nf p1 k)]) rfl ?_
            refine W.widen (k := 0) (n := 0) (by decide) (by decide) ?_
            refine lv_if_ne (tgt := 135) hx hb d_Mo_sideOf_130 (by decide) (fun hc130 => ?_) (fun hc130 => ?_)
            · skip
              refine lv_iinc (k := 6) (v := nI (k + 1)) (lv' := [(7, .int (nI (k + 1))), (5, .int (nI p1)), (0, .ref mo), (1, .int a1), (2, .int b1), (3, .int c1), (4, .int d1)]) hx hb d_Mo_sideOf_135 hl rfl (nI_1 k) (by decide) rfl (fun ls hl => ?_)
              refine lv_goto (tgt := 87) hx hb d_Mo_sideOf_138 (by decide) ?_
              exact ih (some p1) ls H l9 (by omega) ⟨⟨fd_1 hB1 hc105 hc130, fun p hp => by cases hp; omega⟩, (lv_sub hl [2, 3, 4, 5, 6, 1, 0] rfl), hG⟩
            · skip
              refine lv_iconst (v := (-1)) hx hb d_Mo_sideOf_133 (by decide) ?_
              exact gh_iret hx hb hr hlk rfl hG d_Mo_sideOf_134 (⟨by unfold v_so; rw [if_pos (by rw [← hk3, ← hA2]; omega), fd_nn (fd_n hB1 hc105 hc130) g (by omega)]; rfl, rfl⟩)
    · skip
      replace hc79 : ¬ acc.2 ≤ 1 := fun q9 => hc79 ((nc_le (a := acc.2) (b := 1) (by omega) (by omega) rfl rfl).mpr q9)
      refine lv_iconst (v := (-1)) hx hb d_Mo_sideOf_82 (by decide) ?_
      exact gh_iret hx hb hr hlk rfl hG d_Mo_sideOf_83 (⟨by unfold v_so; rw [if_neg (by rw [show (3 : Nat) = k1 by omega, ← hA2]; omega)]; rfl, rfl⟩)
  · skip
    replace hc12 : ¬ 3 ≤ k1 := fun q9 => hc12 ((nc_le (a := 3) (b := k1) (by omega) (by omega) rfl rfl).mpr q9)
    refine lv_iload hx hb d_Mo_sideOf_15 (lv_at hl 7 rfl) ?_
    refine lv_if_ne (tgt := 24) hx hb d_Mo_sideOf_17 (by decide) (fun hc17 => ?_) (fun hc17 => ?_)
    · skip
      replace hc17 : ¬ k1 = 0 := fun q9 => hc17 ((nc_eq (a := k1) (b := 0) (by omega) (by omega) rfl rfl).mpr q9)
      refine lv_iload hx hb d_Mo_sideOf_24 (lv_at hl 7 rfl) ?_
      refine lv_iconst (v := 1) hx hb d_Mo_sideOf_26 (by decide) ?_
      refine lv_icmp_ne (tgt := 34) hx hb d_Mo_sideOf_27 (by decide) (fun hc27 => ?_) (fun hc27 => ?_)
      · skip
        replace hc27 : ¬ k1 = 1 := fun q9 => hc27 ((nc_eq (a := k1) (b := 1) (by omega) (by omega) rfl rfl).mpr q9)
        refine lv_iload_n hx hb d_Mo_sideOf_34 rfl (lv_at hl 3 rfl) ?_
        refine lv_istore (lv' := [(8, .int c1), (0, .ref mo), (1, .int a1), (2, .int b1), (3, .int c1), (4, .int d1), (5, .int (v_int acc.1)), (6, .int (nI acc.2)), (7, .int (nI k1))]) hx hb d_Mo_sideOf_35 hl (by decide) rfl (fun ls hl => ?_)
        refine lv_iload hx hb d_Mo_sideOf_37 (lv_at hl 0 rfl) ?_
        refine lv_iload hx hb d_Mo_sideOf_39 (lv_at hl 5 rfl) ?_
        refine gh_cS (As := [.int c1, .int d1]) (rest := []) (xF_ok b0) hx hb hml hown hK hX hG c_Mo_lies (q_Mo_lies htb ⟨by decide, by decide⟩) (htb _ k_3_68) (htb _ k_3_69) rfl hl.1 rfl (Nat.le_of_ble_eq_true rfl) d_Mo_sideOf_41 ⟨by decide, by decide⟩ (fun v9 h9 H l9 hp9 hG => ?_) (fun _ _ _ _ hp9 _ => by cases hp9.1)
        obtain ⟨hv9, hh9⟩ := hp9
        cases hv9
        rw [hh9] at hG
        refine W.eq (g2 := F0 m 44 ls [.int (v_lies c1 d1)]) rfl ?_
        refine W.widen (k := 0) (n := 0) (by decide) (by decide) ?_
        refine lv_if_ne (tgt := 70) hx hb d_Mo_sideOf_44 (by decide) (fun hc44 => ?_) (fun hc44 => ?_)
        · skip
          refine lv_iinc (k := 8) (v := nI (k1 + 1)) (lv' := [(7, .int (nI (k1 + 1))), (8, .int c1), (0, .ref mo), (1, .int a1), (2, .int b1), (3, .int c1), (4, .int d1), (5, .int (v_int acc.1)), (6, .int (nI acc.2))]) hx hb d_Mo_sideOf_70 hl rfl (nI_1 k1) (by decide) rfl (fun ls hl => ?_)
          refine lv_goto (tgt := 9) hx hb d_Mo_sideOf_73 (by decide) ?_
          have hco : v_co a1 b1 c1 k1 = c1 := by unfold v_co; rw [if_neg hc17, if_neg hc27]
          exact iha (acc.1, acc.2) ls H l9 (by omega) ⟨⟨by show _ = (if _ then _ else _); rw [hco, if_neg hc44]; exact hA1, by show _ = mc_cnt (v_on a1 b1 c1 d1) k1 + _; rw [if_neg (by unfold v_on; rw [hco, decide_eq_false hc44]; decide), ← hA2]; rfl, by show acc.2 ≤ k1 + 1; omega⟩, (lv_sub hl [2, 3, 4, 5, 6, 7, 8, 0] rfl), hG⟩
        · skip
          refine lv_iload hx hb d_Mo_sideOf_47 (lv_at hl 0 rfl) ?_
          refine lv_if_le (tgt := 60) hx hb d_Mo_sideOf_49 (by decide) (fun hc49 => ?_) (fun hc49 => ?_)
          · skip
            refine lv_bipush (v := 13) hx hb d_Mo_sideOf_60 (by decide) ?_
            refine lv_iload hx hb d_Mo_sideOf_62 (lv_at hl 8 rfl) ?_
            refine lv_iadd hx hb d_Mo_sideOf_64 ?_
            rw [show 13 + (nI k1) = nI (13 + k1) from nI_add 13 k1]
            refine lv_istore (lv' := [(5, .int (nI (13 + k1))), (8, .int c1), (0, .ref mo), (1, .int a1), (2, .int b1), (3, .int c1), (4, .int d1), (6, .int (nI acc.2)), (7, .int (nI k1))]) hx hb d_Mo_sideOf_65 hl (by decide) rfl (fun ls hl => ?_)
            refine lv_iinc (k := 7) (v := nI (acc.2 + 1)) (lv' := [(6, .int (nI (acc.2 + 1))), (5, .int (nI (13 + k1))), (8, .int c1), (0, .ref mo), (1, .int a1), (2, .int b1), (3, .int c1), (4, .int d1), (7, .int (nI k1))]) hx hb d_Mo_sideOf_67 hl rfl (nI_1 acc.2) (by decide) rfl (fun ls hl => ?_)
            refine lv_iinc (k := 8) (v := nI (k1 + 1)) (lv' := [(7, .int (nI (k1 + 1))), (6, .int (nI (acc.2 + 1))), (5, .int (nI (13 + k1))), (8, .int c1), (0, .ref mo), (1, .int a1), (2, .int b1), (3, .int c1), (4, .int d1)]) hx hb d_Mo_sideOf_70 hl rfl (nI_1 k1) (by decide) rfl (fun ls hl => ?_)
            refine lv_goto (tgt := 9) hx hb d_Mo_sideOf_73 (by decide) ?_
            have hco : v_co a1 b1 c1 k1 = c1 := by unfold v_co; rw [if_neg hc17, if_neg hc27]
            exact iha (some (13 + k1), (acc.2 + 1)) ls H l9 (by omega) ⟨⟨by show _ = (if _ then _ else _); rw [hco, if_pos hc44, if_pos hc49], by show _ = mc_cnt (v_on a1 b1 c1 d1) k1 + _; rw [if_pos (by unfold v_on; rw [hco]; exact decide_eq_true hc44), ← hA2], by show acc.2 + 1 ≤ k1 + 1; omega⟩, (lv_sub hl [4, 5, 6, 7, 8, 2, 1, 0] rfl), hG⟩
          · skip
            refine lv_bipush (v := 10) hx hb d_Mo_sideOf_52 (by decide) ?_
            refine lv_iload hx hb d_Mo_sideOf_54 (lv_at hl 8 rfl) ?_
            refine lv_iadd hx hb d_Mo_sideOf_56 ?_
            rw [show 10 + (nI k1) = nI (10 + k1) from nI_add 10 k1]
            refine lv_goto (tgt := 65) hx hb d_Mo_sideOf_57 (by decide) ?_
            refine lv_istore (lv' := [(5, .int (nI (10 + k1))), (8, .int c1), (0, .ref mo), (1, .int a1), (2, .int b1), (3, .int c1), (4, .int d1), (6, .int (nI acc.2)), (7, .int (nI k1))]) hx hb d_Mo_sideOf_65 hl (by decide) rfl (fun ls hl => ?_)
            refine lv_iinc (k := 7) (v := nI (acc.2 + 1)) (lv' := [(6, .int (nI (acc.2 + 1))), (5, .int (nI (10 + k1))), (8, .int c1), (0, .ref mo), (1, .int a1), (2, .int b1), (3, .int c1), (4, .int d1), (7, .int (nI k1))]) hx hb d_Mo_sideOf_67 hl rfl (nI_1 acc.2) (by decide) rfl (fun ls hl => ?_)
            refine lv_iinc (k := 8) (v := nI (k1 + 1)) (lv' := [(7, .int (nI (k1 + 1))), (6, .int (nI (acc.2 + 1))), (5, .int (nI (10 + k1))), (8, .int c1), (0, .ref mo), (1, .int a1), (2, .int b1), (3, .int c1), (4, .int d1)]) hx hb d_Mo_sideOf_70 hl rfl (nI_1 k1) (by decide) rfl (fun ls hl => ?_)
            refine lv_goto (tgt := 9) hx hb d_Mo_sideOf_73 (by decide) ?_
            have hco : v_co a1 b1 c1 k1 = c1 := by unfold v_co; rw [if_neg hc17, if_neg hc27]
            exact iha (some (10 + k1), (acc.2 + 1)) ls H l9 (by omega) ⟨⟨by show _ = (if _ then _ else _); rw [hco, if_pos hc44, if_neg hc49], by show _ = mc_cnt (v_on a1 b1 c1 d1) k1 + _; rw [if_pos (by unfold v_on; rw [hco]; exact decide_eq_true hc44), ← hA2], by show acc.2 + 1 ≤ k1 + 1; omega⟩, (lv_sub hl [4, 5, 6, 7, 8, 2, 1, 0] rfl), hG⟩
      · skip
        replace hc27 : k1 = 1 := (nc_eq (a := k1) (b := 1) (by omega) (by omega) rfl rfl).mp hc27
        refine lv_iload_n hx hb d_Mo_sideOf_30 rfl (lv_at hl 2 rfl) ?_
        refine lv_goto (tgt := 35) hx hb d_Mo_sideOf_31 (by decide) ?_
        refine lv_istore (lv' := [(8, .int b1), (0, .ref mo), (1, .int a1), (2, .int b1), (3, .int c1), (4, .int d1), (5, .int (v_int acc.1)), (6, .int (nI acc.2)), (7, .int (nI k1))]) hx hb d_Mo_sideOf_35 hl (by decide) rfl (fun ls hl => ?_)
        refine lv_iload hx hb d_Mo_sideOf_37 (lv_at hl 0 rfl) ?_
        refine lv_iload hx hb d_Mo_sideOf_39 (lv_at hl 5 rfl) ?_
        refine gh_cS (As := [.int b1, .int d1]) (rest := []) (xF_ok b0) hx hb hml hown hK hX hG c_Mo_lies (q_Mo_lies htb ⟨by decide, by decide⟩) (htb _ k_3_68) (htb _ k_3_69) rfl hl.1 rfl (Nat.le_of_ble_eq_true rfl) d_Mo_sideOf_41 ⟨by decide, by decide⟩ (fun v9 h9 H l9 hp9 hG => ?_) (fun _ _ _ _ hp9 _ => by cases hp9.1)
        obtain ⟨hv9, hh9⟩ := hp9
        cases hv9
        rw [hh9] at hG
        refine W.eq (g2 := F0 m 44 ls [.int (v_lies b1 d1)]) rfl ?_
        refine W.widen (k := 0) (n := 0) (by decide) (by decide) ?_
        refine lv_if_ne (tgt := 70) hx hb d_Mo_sideOf_44 (by decide) (fun hc44 => ?_) (fun hc44 => ?_)
        · skip
          refine lv_iinc (k := 8) (v := nI (k1 + 1)) (lv' := [(7, .int (nI (k1 + 1))), (8, .int b1), (0, .ref mo), (1, .int a1), (2, .int b1), (3, .int c1), (4, .int d1), (5, .int (v_int acc.1)), (6, .int (nI acc.2))]) hx hb d_Mo_sideOf_70 hl rfl (nI_1 k1) (by decide) rfl (fun ls hl => ?_)
          refine lv_goto (tgt := 9) hx hb d_Mo_sideOf_73 (by decide) ?_
          have hco : v_co a1 b1 c1 k1 = b1 := by unfold v_co; rw [if_neg hc17, if_pos hc27]
          exact iha (acc.1, acc.2) ls H l9 (by omega) ⟨⟨by show _ = (if _ then _ else _); rw [hco, if_neg hc44]; exact hA1, by show _ = mc_cnt (v_on a1 b1 c1 d1) k1 + _; rw [if_neg (by unfold v_on; rw [hco, decide_eq_false hc44]; decide), ← hA2]; rfl, by show acc.2 ≤ k1 + 1; omega⟩, (lv_sub hl [2, 3, 4, 5, 6, 7, 8, 0] rfl), hG⟩
        · skip
          refine lv_iload hx hb d_Mo_sideOf_47 (lv_at hl 0 rfl) ?_
          refine lv_if_le (tgt := 60) hx hb d_Mo_sideOf_49 (by decide) (fun hc49 => ?_) (fun hc49 => ?_)
          · skip
            refine lv_bipush (v := 13) hx hb d_Mo_sideOf_60 (by decide) ?_
            refine lv_iload hx hb d_Mo_sideOf_62 (lv_at hl 8 rfl) ?_
            refine lv_iadd hx hb d_Mo_sideOf_64 ?_
            rw [show 13 + (nI k1) = nI (13 + k1) from nI_add 13 k1]
            refine lv_istore (lv' := [(5, .int (nI (13 + k1))), (8, .int b1), (0, .ref mo), (1, .int a1), (2, .int b1), (3, .int c1), (4, .int d1), (6, .int (nI acc.2)), (7, .int (nI k1))]) hx hb d_Mo_sideOf_65 hl (by decide) rfl (fun ls hl => ?_)
            refine lv_iinc (k := 7) (v := nI (acc.2 + 1)) (lv' := [(6, .int (nI (acc.2 + 1))), (5, .int (nI (13 + k1))), (8, .int b1), (0, .ref mo), (1, .int a1), (2, .int b1), (3, .int c1), (4, .int d1), (7, .int (nI k1))]) hx hb d_Mo_sideOf_67 hl rfl (nI_1 acc.2) (by decide) rfl (fun ls hl => ?_)
            refine lv_iinc (k := 8) (v := nI (k1 + 1)) (lv' := [(7, .int (nI (k1 + 1))), (6, .int (nI (acc.2 + 1))), (5, .int (nI (13 + k1))), (8, .int b1), (0, .ref mo), (1, .int a1), (2, .int b1), (3, .int c1), (4, .int d1)]) hx hb d_Mo_sideOf_70 hl rfl (nI_1 k1) (by decide) rfl (fun ls hl => ?_)
            refine lv_goto (tgt := 9) hx hb d_Mo_sideOf_73 (by decide) ?_
            have hco : v_co a1 b1 c1 k1 = b1 := by unfold v_co; rw [if_neg hc17, if_pos hc27]
            exact iha (some (13 + k1), (acc.2 + 1)) ls H l9 (by omega) ⟨⟨by show _ = (if _ then _ else _); rw [hco, if_pos hc44, if_pos hc49], by show _ = mc_cnt (v_on a1 b1 c1 d1) k1 + _; rw [if_pos (by unfold v_on; rw [hco]; exact decide_eq_true hc44), ← hA2], by show acc.2 + 1 ≤ k1 + 1; omega⟩, (lv_sub hl [4, 5, 6, 7, 8, 2, 1, 0] rfl), hG⟩
          · skip
            refine lv_bipush (v := 10) hx hb d_Mo_sideOf_52 (by decide) ?_
            refine lv_iload hx hb d_Mo_sideOf_54 (lv_at hl 8 rfl) ?_
            refine lv_iadd hx hb d_Mo_sideOf_56 ?_
            rw [show 10 + (nI k1) = nI (10 + k1) from nI_add 10 k1]
            refine lv_goto (tgt := 65) hx hb d_Mo_sideOf_57 (by decide) ?_
            refine lv_istore (lv' := [(5, .int (nI (10 + k1))), (8, .int b1), (0, .ref mo), (1, .int a1), (2, .int b1), (3, .int c1), (4, .int d1), (6, .int (nI acc.2)), (7, .int (nI k1))]) hx hb d_Mo_sideOf_65 hl (by decide) rfl (fun ls hl => ?_)
            refine lv_iinc (k := 7) (v := nI (acc.2 + 1)) (lv' := [(6, .int (nI (acc.2 + 1))), (5, .int (nI (10 + k1))), (8, .int b1), (0, .ref mo), (1, .int a1), (2, .int b1), (3, .int c1), (4, .int d1), (7, .int (nI k1))]) hx hb d_Mo_sideOf_67 hl rfl (nI_1 acc.2) (by decide) rfl (fun ls hl => ?_)
            refine lv_iinc (k := 8) (v := nI (k1 + 1)) (lv' := [(7, .int (nI (k1 + 1))), (6, .int (nI (acc.2 + 1))), (5, .int (nI (10 + k1))), (8, .int b1), (0, .ref mo), (1, .int a1), (2, .int b1), (3, .int c1), (4, .int d1)]) hx hb d_Mo_sideOf_70 hl rfl (nI_1 k1) (by decide) rfl (fun ls hl => ?_)
            refine lv_goto (tgt := 9) hx hb d_Mo_sideOf_73 (by decide) ?_
            have hco : v_co a1 b1 c1 k1 = b1 := by unfold v_co; rw [if_neg hc17, if_pos hc27]
            exact iha (some (10 + k1), (acc.2 + 1)) ls H l9 (by omega) ⟨⟨by show _ = (if _ then _ else _); rw [hco, if_pos hc44, if_neg hc49], by show _ = mc_cnt (v_on a1 b1 c1 d1) k1 + _; rw [if_pos (by unfold v_on; rw [hco]; exact decide_eq_true hc44), ← hA2], by show acc.2 + 1 ≤ k1 + 1; omega⟩, (lv_sub hl [4, 5, 6, 7, 8, 2, 1, 0] rfl), hG⟩
    · skip
      replace hc17 : k1 = 0 := (nc_eq (a := k1) (b := 0) (by omega) (by omega) rfl rfl).mp hc17
      refine lv_iload_n hx hb d_Mo_sideOf_20 rfl (lv_at hl 1 rfl) ?_
      refine lv_goto (tgt := 35) hx hb d_Mo_sideOf_21 (by decide) ?_
      refine lv_istore (lv' := [(8, .int a1), (0, .ref mo), (1, .int a1), (2, .int b1), (3, .int c1), (4, .int d1), (5, .int (v_int acc.1)), (6, .int (nI acc.2)), (7, .int (nI k1))]) hx hb d_Mo_sideOf_35 hl (by decide) rfl (fun ls hl => ?_)
      refine lv_iload hx hb d_Mo_sideOf_37 (lv_at hl 0 rfl) ?_
      refine lv_iload hx hb d_Mo_sideOf_39 (lv_at hl 5 rfl) ?_
      refine gh_cS (As := [.int a1, .int d1]) (rest := []) (xF_ok b0) hx hb hml hown hK hX hG c_Mo_lies (q_Mo_lies htb ⟨by decide, by decide⟩) (htb _ k_3_68) (htb _ k_3_69) rfl hl.1 rfl (Nat.le_of_ble_eq_true rfl) d_Mo_sideOf_41 ⟨by decide, by decide⟩ (fun v9 h9 H l9 hp9 hG => ?_) (fun _ _ _ _ hp9 _ => by cases hp9.1)
      obtain ⟨hv9, hh9⟩ := hp9
      cases hv9
      rw [hh9] at hG
      refine W.eq (g2 := F0 m 44 ls [.int (v_lies a1 d1)]) rfl ?_
      refine W.widen (k := 0) (n := 0) (by decide) (by decide) ?_
      refine lv_if_ne (tgt := 70) hx hb d_Mo_sideOf_44 (by decide) (fun hc44 => ?_) (fun hc44 => ?_)
      · skip
        refine lv_iinc (k := 8) (v := nI (k1 + 1)) (lv' := [(7, .int (nI (k1 + 1))), (8, .int a1), (0, .ref mo), (1, .int a1), (2, .int b1), (3, .int c1), (4, .int d1), (5, .int (v_int acc.1)), (6, .int (nI acc.2))]) hx hb d_Mo_sideOf_70 hl rfl (nI_1 k1) (by decide) rfl (fun ls hl => ?_)
        refine lv_goto (tgt := 9) hx hb d_Mo_sideOf_73 (by decide) ?_
        have hco : v_co a1 b1 c1 k1 = a1 := by unfold v_co; rw [if_pos hc17]
        exact iha (acc.1, acc.2) ls H l9 (by omega) ⟨⟨by show _ = (if _ then _ else _); rw [hco, if_neg hc44]; exact hA1, by show _ = mc_cnt (v_on a1 b1 c1 d1) k1 + _; rw [if_neg (by unfold v_on; rw [hco, decide_eq_false hc44]; decide), ← hA2]; rfl, by show acc.2 ≤ k1 + 1; omega⟩, (lv_sub hl [2, 3, 4, 5, 6, 7, 8, 0] rfl), hG⟩
      · skip
        refine lv_iload hx hb d_Mo_sideOf_47 (lv_at hl 0 rfl) ?_
        refine lv_if_le (tgt := 60) hx hb d_Mo_sideOf_49 (by decide) (fun hc49 => ?_) (fun hc49 => ?_)
        · skip
          refine lv_bipush (v := 13) hx hb d_Mo_sideOf_60 (by decide) ?_
          refine lv_iload hx hb d_Mo_sideOf_62 (lv_at hl 8 rfl) ?_
          refine lv_iadd hx hb d_Mo_sideOf_64 ?_
          rw [show 13 + (nI k1) = nI (13 + k1) from nI_add 13 k1]
          refine lv_istore (lv' := [(5, .int (nI (13 + k1))), (8, .int a1), (0, .ref mo), (1, .int a1), (2, .int b1), (3, .int c1), (4, .int d1), (6, .int (nI acc.2)), (7, .int (nI k1))]) hx hb d_Mo_sideOf_65 hl (by decide) rfl (fun ls hl => ?_)
          refine lv_iinc (k := 7) (v := nI (acc.2 + 1)) (lv' := [(6, .int (nI (acc.2 + 1))), (5, .int (nI (13 + k1))), (8, .int a1), (0, .ref mo), (1, .int a1), (2, .int b1), (3, .int c1), (4, .int d1), (7, .int (nI k1))]) hx hb d_Mo_sideOf_67 hl rfl (nI_1 acc.2) (by decide) rfl (fun ls hl => ?_)
          refine lv_iinc (k := 8) (v := nI (k1 + 1)) (lv' := [(7, .int (nI (k1 + 1))), (6, .int (nI (acc.2 + 1))), (5, .int (nI (13 + k1))), (8, .int a1), (0, .ref mo), (1, .int a1), (2, .int b1), (3, .int c1), (4, .int d1)]) hx hb d_Mo_sideOf_70 hl rfl (nI_1 k1) (by decide) rfl (fun ls hl => ?_)
          refine lv_goto (tgt := 9) hx hb d_Mo_sideOf_73 (by decide) ?_
          have hco : v_co a1 b1 c1 k1 = a1 := by unfold v_co; rw [if_pos hc17]
          exact iha (some (13 + k1), (acc.2 + 1)) ls H l9 (by omega) ⟨⟨by show _ = (if _ then _ else _); rw [hco, if_pos hc44, if_pos hc49], by show _ = mc_cnt (v_on a1 b1 c1 d1) k1 + _; rw [if_pos (by unfold v_on; rw [hco]; exact decide_eq_true hc44), ← hA2], by show acc.2 + 1 ≤ k1 + 1; omega⟩, (lv_sub hl [4, 5, 6, 7, 8, 2, 1, 0] rfl), hG⟩
        · skip
          refine lv_bipush (v := 10) hx hb d_Mo_sideOf_52 (by decide) ?_
          refine lv_iload hx hb d_Mo_sideOf_54 (lv_at hl 8 rfl) ?_
          refine lv_iadd hx hb d_Mo_sideOf_56 ?_
          rw [show 10 + (nI k1) = nI (10 + k1) from nI_add 10 k1]
          refine lv_goto (tgt := 65) hx hb d_Mo_sideOf_57 (by decide) ?_
          refine lv_istore (lv' := [(5, .int (nI (10 + k1))), (8, .int a1), (0, .ref mo), (1, .int a1), (2, .int b1), (3, .int c1), (4, .int d1), (6, .int (nI acc.2)), (7, .int (nI k1))]) hx hb d_Mo_sideOf_65 hl (by decide) rfl (fun ls hl => ?_)
          refine lv_iinc (k := 7) (v := nI (acc.2 + 1)) (lv' := [(6, .int (nI (acc.2 + 1))), (5, .int (nI (10 + k1))), (8, .int a1), (0, .ref mo), (1, .int a1), (2, .int b1), (3, .int c1), (4, .int d1), (7, .int (nI k1))]) hx hb d_Mo_sideOf_67 hl rfl (nI_1 acc.2) (by decide) rfl (fun ls hl => ?_)
          refine lv_iinc (k := 8) (v := nI (k1 + 1)) (lv' := [(7, .int (nI (k1 + 1))), (6, .int (nI (acc.2 + 1))), (5, .int (nI (10 + k1))), (8, .int a1), (0, .ref mo), (1, .int a1), (2, .int b1), (3, .int c1), (4, .int d1)]) hx hb d_Mo_sideOf_70 hl rfl (nI_1 k1) (by decide) rfl (fun ls hl => ?_)
          refine lv_goto (tgt := 9) hx hb d_Mo_sideOf_73 (by decide) ?_
          have hco : v_co a1 b1 c1 k1 = a1 := by unfold v_co; rw [if_pos hc17]
          exact iha (some (10 + k1), (acc.2 + 1)) ls H l9 (by omega) ⟨⟨by show _ = (if _ then _ else _); rw [hco, if_pos hc44, if_neg hc49], by show _ = mc_cnt (v_on a1 b1 c1 d1) k1 + _; rw [if_pos (by unfold v_on; rw [hco]; exact decide_eq_true hc44), ← hA2], by show acc.2 + 1 ≤ k1 + 1; omega⟩, (lv_sub hl [4, 5, 6, 7, 8, 2, 1, 0] rfl), hG⟩

set_option maxHeartbeats 4000000 in
set_option maxRecDepth 100000 in
/-- side -/
theorem c_Mo_side {mo nm fr hs va tp dn g my : Nat} {th : Int32} {nf ff : Nat → Int32} {hf vf tf df : Nat → Int64} (hW : wM cI cJ h mo nm fr hs va tp dn th g my nf ff hf vf tf df) {a1 b1 c1 d1 : Int32} : gh_C l D vC (tZ cI cJ cP cS) (xF b0) b0 y_Mo_side w_Mo_side ({ frames := 3, cells := 0, slots := 0, locals := 110 }) [.ref mo, .int a1, .int b1, .int c1, .int d1] h (rB (m_badQ a1 b1 c1 d1) (rW (some (.int 0)) (fun h2 => wM cI cJ h2 mo nm fr hs va tp dn 1 g my nf ff hf vf tf df ∧ frM h h2)) (rB (decide (my = 0)) (rW (some (.int 0)) (fun h2 => wM cI cJ h2 mo nm fr hs va tp dn 2 g my nf ff hf vf tf df ∧ frM h h2)) (fun oc h2 => (v_so nf (v_val nf ff a1 b1 c1 d1) g a1 b1 c1 d1 = none ∧ oc = .returned (some (.int 0)) ∧ ∃ f2 : Nat → Int64, wM cI cJ h2 mo nm fr hs va tp dn 3 g my nf ff hf f2 tf df ∧ frM h h2) ∨ (∃ p1, v_so nf (v_val nf ff a1 b1 c1 d1) g a1 b1 c1 d1 = some p1 ∧ oc = .returned (some (.int (v_side nf ff hf g my a1 b1 c1 d1 p1))) ∧ ∃ f2 : Nat → Int64, wM cI cJ h2 mo nm fr hs va tp dn 0 g my nf ff hf f2 tf df ∧ frM h h2)))) := by
  refine gh_ofW (by decide) (Nat.le_of_ble_eq_true rfl) ?_
  intro p e s m below meth c ls hctx hno hl hG hK hX
  obtain ⟨hx, hb, hr, hml, hown, hlk, hts, hnm⟩ := hctx
  have htb : ∀ w ∈ tB, w.before _ s = true := fun w hw => hts w (List.mem_cons_of_mem _ hw)
  replace hl : lv_has ls 9 [(0, .ref mo), (1, .int a1), (2, .int b1), (3, .int c1), (4, .int d1)] := hl
  obtain ⟨zmo, znm, zfr, zhs, zva, ztp, zdn, zvt, zvd, ztd, zg, zy⟩ := hW
  have zf0 : frM h h := frM_rf h
  refine lv_aload_n hx hb d_Mo_side_0 rfl (lv_at hl 0 rfl) ?_
  refine lv_iload_n hx hb d_Mo_side_1 rfl (lv_at hl 1 rfl) ?_
  refine lv_iload_n hx hb d_Mo_side_2 rfl (lv_at hl 2 rfl) ?_
  refine lv_iload_n hx hb d_Mo_side_3 rfl (lv_at hl 3 rfl) ?_
  refine lv_iload hx hb d_Mo_side_4 (lv_at hl 4 rfl) ?_
  refine gh_cS (As := [.int a1, .int b1, .int c1, .int d1]) (rest := [.ref mo]) (xF_ok b0) hx hb hml hown hK hX hG c_Mo_isPoint (q_Mo_isPoint htb ⟨by decide, by decide⟩) (htb _ k_3_57) (htb _ k_3_58) rfl hl.1 rfl (Nat.le_of_ble_eq_true rfl) d_Mo_side_6 ⟨by decide, by decide⟩ (fun v9 h9 H l9 hp9 hG => ?_) (fun _ _ _ _ hp9 _ => by cases hp9.1)
  obtain ⟨hv9, hh9⟩ := hp9
  cases hv9
  rw [hh9] at hG
  refine W.eq (g2 := F0 m 9 ls [.int (m_b (!m_badQ a1 b1 c1 d1)), .ref mo]) rfl ?_
  refine W.widen (k := 0) (n := 0) (by decide) (by decide) ?_
  refine lv_if_ne (tgt := 16) hx hb d_Mo_side_9 (by decide) (fun hc9 => ?_) (fun hc9 => ?_)
  · skip
    replace hc9 := mb_n1.mp hc9
    refine lv_aload_n hx hb d_Mo_side_16 rfl (lv_at hl 0 rfl) ?_
    refine gh_get (ci := 5) hx hb htb in_Mo hown hK hG zmo rfl 4 (by decide) (htb _ k_2_227) (fun _ h9 => h9) rfl d_Mo_side_17 ?_
    refine lv_if_ne (tgt := 27) hx hb d_Mo_side_20 (by decide) (fun hc20 => ?_) (fun hc20 => ?_)
    · skip
      replace hc20 : ¬ my = 0 := fun q9 => hc20 ((nc_eq (a := my) (b := 0) (by omega) (by omega) rfl rfl).mpr q9)
      refine lv_iconst (v := 0) hx hb d_Mo_side_27 (by decide) ?_
      refine gh_put (ci := 5) (ty := .int) hx hb htb in_Mo t_Mo ty_Mo nm_Mo hown hK hG zmo rfl 0 (by decide) (htb _ k_2_223) (fun _ h9 => h9) rfl (by decide +kernel) rfl rfl (Nat.le_of_ble_eq_true rfl) d_Mo_side_28 (fun H l9 hG => ?_)
      have hq1 : (gh_up h mo (.inr (5, [.int 0, .int (nI g), .ref nm, .ref fr, .int (nI my), .ref hs, .ref va, .ref tp, .ref dn]))) mo = some (.inr (5, [.int 0, .int (nI g), .ref nm, .ref fr, .int (nI my), .ref hs, .ref va, .ref tp, .ref dn])) := gh_self _ _ _
      replace hG : gh_P D vC b0 (gh_up h mo (.inr (5, [.int 0, .int (nI g), .ref nm, .ref fr, .int (nI my), .ref hs, .ref va, .ref tp, .ref dn]))) s.heap _ _ := hG
      have znm_1 : (gh_up h mo (.inr (5, [.int 0, .int (nI g), .ref nm, .ref fr, .int (nI my), .ref hs, .ref va, .ref tp, .ref dn]))) nm = some (.inl (cI, 24, .inl nf)) := gh_keep zmo znm (by simp)
      have zfr_1 : (gh_up h mo (.inr (5, [.int 0, .int (nI g), .ref nm, .ref fr, .int (nI my), .ref hs, .ref va, .ref tp, .ref dn]))) fr = some (.inl (cI, 8, .inl ff)) := gh_keep zmo zfr (by simp)
      have zhs_1 : (gh_up h mo (.inr (5, [.int 0, .int (nI g), .ref nm, .ref fr, .int (nI my), .ref hs, .ref va, .ref tp, .ref dn]))) hs = some (.inl (cJ, 24, .inr (.inl hf))) := gh_keep zmo zhs (by simp)
      have zva_1 : (gh_up h mo (.inr (5, [.int 0, .int (nI g), .ref nm, .ref fr, .int (nI my), .ref hs, .ref va, .ref tp, .ref dn]))) va = some (.inl (cJ, 8, .inr (.inl vf))) := gh_keep zmo zva (by simp)
      have ztp_1 : (gh_up h mo (.inr (5, [.int 0, .int (nI g), .ref nm, .ref fr, .int (nI my), .ref hs, .ref va, .ref tp, .ref dn]))) tp = some (.inl (cJ, 8, .inr (.inl tf))) := gh_keep zmo ztp (by simp)
      have zdn_1 : (gh_up h mo (.inr (5, [.int 0, .int (nI g), .ref nm, .ref fr, .int (nI my), .ref hs, .ref va, .ref tp, .ref dn]))) dn = some (.inl (cJ, 8, .inr (.inl df))) := gh_keep zmo zdn (by simp)
      refine lv_aload_n hx hb d_Mo_side_31 rfl (lv_at hl 0 rfl) ?_
      refine gh_get (ci := 5) hx hb htb in_Mo hown hK hG hq1 rfl 0 (by decide) (htb _ k_2_223) (fun _ h9 => h9) rfl d_Mo_side_32 ?_
      refine lv_if_le (tgt := 40) hx hb d_Mo_side_35 (by decide) (fun hc35 => ?_) (fun hc35 => absurd hc35 (by decide))
      refine lv_aload_n hx hb d_Mo_side_40 rfl (lv_at hl 0 rfl) ?_
      refine lv_iload_n hx hb d_Mo_side_41 rfl (lv_at hl 1 rfl) ?_
      refine lv_iload_n hx hb d_Mo_side_42 rfl (lv_at hl 2 rfl) ?_
      refine lv_iload_n hx hb d_Mo_side_43 rfl (lv_at hl 3 rfl) ?_
      refine lv_iload hx hb d_Mo_side_44 (lv_at hl 4 rfl) ?_
      refine gh_cV (ci := 5) (As := [.int a1, .int b1, .int c1, .int d1]) (rest := []) (xF_ok b0) hx hb hml hown hK hX hG rfl hq1 (c_Mo_look (wM_mk hq1 znm_1 zfr_1 zhs_1 zva_1 ztp_1 zdn_1 zvt zvd ztd (by omega) (by omega))) (q_Mo_look htb ⟨by decide, by decide⟩) (htb _ k_3_60) (htb _ k_3_62) (htb _ k_s_Mo_look) rfl hl.1 rfl (Nat.le_of_ble_eq_true rfl) d_Mo_side_46 ⟨by decide, by decide⟩ (fun v9 hL H l9 hp9 hG => ?_) (fun _ _ _ _ hp9 _ => by cases hp9.1)
      obtain ⟨hv9, f2, hf2, hw9, hf9⟩ := hp9
      cases hv9
      have zfr9 := frM_tr (frM_up zf0 zmo rfl) hf9
      obtain ⟨zmo, znm, zfr, zhs, zva, ztp, zdn, zvt, zvd, ztd, zg, zy⟩ := hw9
      refine W.eq (g2 := F0 m 49 ls []) rfl ?_
      refine W.widen (k := 0) (n := 0) (by decide) (by decide) ?_
      have hon : m_any (fun j => decide (f2 j = 0)) g = m_any (fun j => decide (v_val nf ff a1 b1 c1 d1 j = 0)) g := m_any_cg (fun j hj => by rw [hf2 j hj])
      have hch : pb_num (fun j => decide (f2 j < 0)) g = pb_num (fun j => decide (v_val nf ff a1 b1 c1 d1 j < 0)) g := pb_congr (fun j hj => by rw [hf2 j hj])
      refine lv_aload_n hx hb d_Mo_side_49 rfl (lv_at hl 0 rfl) ?_
      refine lv_iload_n hx hb d_Mo_side_50 rfl (lv_at hl 1 rfl) ?_
      refine lv_iload_n hx hb d_Mo_side_51 rfl (lv_at hl 2 rfl) ?_
      refine lv_iload_n hx hb d_Mo_side_52 rfl (lv_at hl 3 rfl) ?_
      refine lv_iload hx hb d_Mo_side_53 (lv_at hl 4 rfl) ?_
      have hos : v_so nf f2 g a1 b1 c1 d1 = v_so nf (v_val nf ff a1 b1 c1 d1) g a1 b1 c1 d1 := so_cg hf2
      refine gh_cV (ci := 5) (As := [.int a1, .int b1, .int c1, .int d1]) (rest := []) (xF_ok b0) hx hb hml hown hK hX hG rfl zmo (c_Mo_sideOf (wM_mk zmo znm zfr zhs zva ztp zdn zvt zvd ztd (by omega) (by omega))) (q_Mo_sideOf htb ⟨by decide, by decide⟩) (htb _ k_3_83) (htb _ k_3_85) (htb _ k_s_Mo_sideOf) rfl hl.1 rfl (Nat.le_of_ble_eq_true rfl) d_Mo_side_55 ⟨by decide, by decide⟩ (fun v9 h9 H l9 hp9 hG => ?_) (fun _ _ _ _ hp9 _ => by cases hp9.1)
      obtain ⟨hv9, hh9⟩ := hp9
      cases hv9
      rw [hh9] at hG
      refine W.eq (g2 := F0 m 58 ls [.int (v_int (v_so nf f2 g a1 b1 c1 d1))]) rfl ?_
      refine W.widen (k := 0) (n := 0) (by decide) (by decide) ?_
      rw [hos]
      refine lv_istore (lv' := [(5, .int (v_int (v_so nf (v_val nf ff a1 b1 c1 d1) g a1 b1 c1 d1))), (0, .ref mo), (1, .int a1), (2, .int b1), (3, .int c1), (4, .int d1)]) hx hb d_Mo_side_58 hl (by decide) rfl (fun ls hl => ?_)
      rcases hso : v_so nf (v_val nf ff a1 b1 c1 d1) g a1 b1 c1 d1 with _ | p1
      · skip
        rw [hso] at hl
        replace hl : lv_has ls 9 [(5, .int (-1)), (0, .ref mo), (1, .int a1), (2, .int b1), (3, .int c1), (4, .int d1)] := hl
        refine lv_iload hx hb d_Mo_side_60 (lv_at hl 0 rfl) ?_
        refine lv_if_ge (tgt := 72) hx hb d_Mo_side_62 (by decide) (fun hc62 => absurd hc62 (by decide)) (fun hc62 => ?_)
        refine lv_aload_n hx hb d_Mo_side_65 rfl (lv_at hl 1 rfl) ?_
        refine lv_iconst (v := 3) hx hb d_Mo_side_66 (by decide) ?_
        refine gh_put (ci := 5) (ty := .int) hx hb htb in_Mo t_Mo ty_Mo nm_Mo hown hK hG zmo rfl 0 (by decide) (htb _ k_2_223) (fun _ h9 => h9) rfl (by decide +kernel) rfl rfl (Nat.le_of_ble_eq_true rfl) d_Mo_side_67 (fun H l9 hG => ?_)
        have hq2 : (gh_up hL mo (.inr (5, [.int 3, .int (nI g), .ref nm, .ref fr, .int (nI my), .ref hs, .ref va, .ref tp, .ref dn]))) mo = some (.inr (5, [.int 3, .int (nI g), .ref nm, .ref fr, .int (nI my), .ref hs, .ref va, .ref tp, .ref dn])) := gh_self _ _ _
        replace hG : gh_P D vC b0 (gh_up hL mo (.inr (5, [.int 3, .int (nI g), .ref nm, .ref fr, .int (nI my), .ref hs, .ref va, .ref tp, .ref dn]))) s.heap _ _ := hG
        have znm_2 : (gh_up hL mo (.inr (5, [.int 3, .int (nI g), .ref nm, .ref fr, .int (nI my), .ref hs, .ref va, .ref tp, .ref dn]))) nm = some (.inl (cI, 24, .inl nf)) := gh_keep zmo znm (by simp)
        have zfr_2 : (gh_up hL mo (.inr (5, [.int 3, .int (nI g), .ref nm, .ref fr, .int (nI my), .ref hs, .ref va, .ref tp, .ref dn]))) fr = some (.inl (cI, 8, .inl ff)) := gh_keep zmo zfr (by simp)
        have zhs_2 : (gh_up hL mo (.inr (5, [.int 3, .int (nI g), .ref nm, .ref fr, .int (nI my), .ref hs, .ref va, .ref tp, .ref dn]))) hs = some (.inl (cJ, 24, .inr (.inl hf))) := gh_keep zmo zhs (by simp)
        have zva_2 : (gh_up hL mo (.inr (5, [.int 3, .int (nI g), .ref nm, .ref fr, .int (nI my), .ref hs, .ref va, .ref tp, .ref dn]))) va = some (.inl (cJ, 8, .inr (.inl f2))) := gh_keep zmo zva (by simp)
        have ztp_2 : (gh_up hL mo (.inr (5, [.int 3, .int (nI g), .ref nm, .ref fr, .int (nI my), .ref hs, .ref va, .ref tp, .ref dn]))) tp = some (.inl (cJ, 8, .inr (.inl tf))) := gh_keep zmo ztp (by simp)
        have zdn_2 : (gh_up hL mo (.inr (5, [.int 3, .int (nI g), .ref nm, .ref fr, .int (nI my), .ref hs, .ref va, .ref tp, .ref dn]))) dn = some (.inl (cJ, 8, .inr (.inl df))) := gh_keep zmo zdn (by simp)
        refine lv_iconst (v := 0) hx hb d_Mo_side_70 (by decide) ?_
        exact gh_iret hx hb hr hlk rfl hG d_Mo_side_71 (rB_0 hc9 (rB_0 (decide_eq_false hc20) (Or.inl ⟨rfl, rfl, f2, (wM_mk hq2 znm_2 zfr_2 zhs_2 zva_2 ztp_2 zdn_2 zvt zvd ztd (by omega) (by omega)), (frM_up zfr9 zmo rfl)⟩)))
      · skip
        rw [hso] at hl
        have hvp := so_ok zg p1 hso
        replace hl : lv_has ls 9 [(5, .int (nI p1)), (0, .ref mo), (1, .int a1), (2, .int b1), (3, .int c1), (4, .int d1)] := hl
        refine lv_iload hx hb d_Mo_side_60 (lv_at hl 0 rfl) ?_
        refine lv_if_ge (tgt := 72) hx hb d_Mo_side_62 (by decide) (fun hc62 => ?_) (fun hc62 => absurd ((nc_le (a := 0) (b := p1) (by omega) (by omega) rfl rfl).mpr (Nat.zero_le _)) hc62)
        refine lv_iload_n hx hb d_Mo_side_72 rfl (lv_at hl 2 rfl) ?_
        refine lv_iload hx hb d_Mo_side_73 (lv_at hl 5 rfl) ?_
        refine gh_cS (As := [.int a1, .int d1]) (rest := []) (xF_ok b0) hx hb hml hown hK hX hG c_Mo_lies (q_Mo_lies htb ⟨by decide, by decide⟩) (htb _ k_3_68) (htb _ k_3_69) rfl hl.1 rfl (Nat.le_of_ble_eq_true rfl) d_Mo_side_75 ⟨by decide, by decide⟩ (fun v9 h9 H l9 hp9 hG => ?_) (fun _ _ _ _ hp9 _ => by cases hp9.1)
        obtain ⟨hv9, hh9⟩ := hp9
        cases hv9
        rw [hh9] at hG
        refine W.eq (g2 := F0 m 78 ls [.int (v_lies a1 d1)]) rfl ?_
        refine W.widen (k := 0) (n := 0) (by decide) (by decide) ?_
        refine lv_if_lt (tgt := 103) hx hb d_Mo_side_78 (by decide) (fun hc78 => ?_) (fun hc78 => ?_)
        · skip
          refine lv_iconst (v := 0) hx hb d_Mo_side_103 (by decide) ?_
          refine lv_istore (lv' := [(6, .int 0), (5, .int (nI p1)), (0, .ref mo), (1, .int a1), (2, .int b1), (3, .int c1), (4, .int d1)]) hx hb d_Mo_side_104 hl (by decide) rfl (fun ls hl => ?_)
          refine lv_iload hx hb d_Mo_side_106 (lv_at hl 0 rfl) ?_
          refine lv_if_eq (tgt := 129) hx hb d_Mo_side_108 (by decide) (fun hc108 => ?_) (fun hc108 => absurd hc108 (by decide))
          refine lv_iconst (v := 0) hx hb d_Mo_side_129 (by decide) ?_
          refine lv_istore (lv' := [(7, .int 0), (6, .int 0), (5, .int (nI p1)), (0, .ref mo), (1, .int a1), (2, .int b1), (3, .int c1), (4, .int d1)]) hx hb d_Mo_side_130 hl (by decide) rfl (fun ls hl => ?_)
          refine lv_iload hx hb d_Mo_side_132 (lv_at hl 1 rfl) ?_
          refine lv_if_eq (tgt := 162) hx hb d_Mo_side_134 (by decide) (fun hc134 => ?_) (fun hc134 => absurd hc134 (by decide))
          refine lv_iconst (v := 0) hx hb d_Mo_side_162 (by decide) ?_
          refine lv_istore (lv' := [(8, .int 0), (7, .int 0), (6, .int 0), (5, .int (nI p1)), (0, .ref mo), (1, .int a1), (2, .int b1), (3, .int c1), (4, .int d1)]) hx hb d_Mo_side_163 hl (by decide) rfl (fun ls hl => ?_)
          refine lv_iload hx hb d_Mo_side_165 (lv_at hl 1 rfl) ?_
          refine lv_iload hx hb d_Mo_side_167 (lv_at hl 0 rfl) ?_
          refine lv_icmp_ne (tgt := 176) hx hb d_Mo_side_169 (by decide) (fun hc169 => absurd hc169 (by decide)) (fun hc169 => ?_)
          refine lv_iconst (v := 0) hx hb d_Mo_side_172 (by decide) ?_
          refine lv_goto (tgt := 186) hx hb d_Mo_side_173 (by decide) ?_
          exact gh_iret hx hb hr hlk rfl hG d_Mo_side_186 (rB_0 hc9 (rB_0 (decide_eq_false hc20) (Or.inr ⟨p1, rfl, by simp [v_side, m_look, hc78], f2, (wM_mk zmo znm zfr zhs zva ztp zdn zvt zvd ztd (by omega) (by omega)), zfr9⟩)))
        · skip
          refine lv_iload_n hx hb d_Mo_side_81 rfl (lv_at hl 3 rfl) ?_
          refine lv_iload hx hb d_Mo_side_82 (lv_at hl 5 rfl) ?_
          refine gh_cS (As := [.int b1, .int d1]) (rest := []) (xF_ok b0) hx hb hml hown hK hX hG c_Mo_lies (q_Mo_lies htb ⟨by decide, by decide⟩) (htb _ k_3_68) (htb _ k_3_69) rfl hl.1 rfl (Nat.le_of_ble_eq_true rfl) d_Mo_side_84 ⟨by decide, by decide⟩ (fun v9 h9 H l9 hp9 hG => ?_) (fun _ _ _ _ hp9 _ => by cases hp9.1)
          obtain ⟨hv9, hh9⟩ := hp9
          cases hv9
          rw [hh9] at hG
          refine W.eq (g2 := F0 m 87 ls [.int (v_lies b1 d1)]) rfl ?_
          refine W.widen (k := 0) (n := 0) (by decide) (by decide) ?_
          refine lv_if_lt (tgt := 103) hx hb d_Mo_side_87 (by decide) (fun hc87 => ?_) (fun hc87 => ?_)
          · skip
            refine lv_iconst (v := 0) hx hb d_Mo_side_103 (by decide) ?_
            refine lv_istore (lv' := [(6, .int 0), (5, .int (nI p1)), (0, .ref mo), (1, .int a1), (2, .int b1), (3, .int c1), (4, .int d1)]) hx hb d_Mo_side_104 hl (by decide) rfl (fun ls hl => ?_)
            refine lv_iload hx hb d_Mo_side_106 (lv_at hl 0 rfl) ?_
            refine lv_if_eq (tgt := 129) hx hb d_Mo_side_108 (by decide) (fun hc108 => ?_) (fun hc108 => absurd hc108 (by decide))
            refine lv_iconst (v := 0) hx hb d_Mo_side_129 (by decide) ?_
            refine lv_istore (lv' := [(7, .int 0), (6, .int 0), (5, .int (nI p1)), (0, .ref mo), (1, .int a1), (2, .int b1), (3, .int c1), (4, .int d1)]) hx hb d_Mo_side_130 hl (by decide) rfl (fun ls hl => ?_)
            refine lv_iload hx hb d_Mo_side_132 (lv_at hl 1 rfl) ?_
            refine lv_if_eq (tgt := 162) hx hb d_Mo_side_134 (by decide) (fun hc134 => ?_) (fun hc134 => absurd hc134 (by decide))
            refine lv_iconst (v := 0) hx hb d_Mo_side_162 (by decide) ?_
            refine lv_istore (lv' := [(8, .int 0), (7, .int 0), (6, .int 0), (5, .int (nI p1)), (0, .ref mo), (1, .int a1), (2, .int b1), (3, .int c1), (4, .int d1)]) hx hb d_Mo_side_163 hl (by decide) rfl (fun ls hl => ?_)
            refine lv_iload hx hb d_Mo_side_165 (lv_at hl 1 rfl) ?_
            refine lv_iload hx hb d_Mo_side_167 (lv_at hl 0 rfl) ?_
            refine lv_icmp_ne (tgt := 176) hx hb d_Mo_side_169 (by decide) (fun hc169 => absurd hc169 (by decide)) (fun hc169 => ?_)
            refine lv_iconst (v := 0) hx hb d_Mo_side_172 (by decide) ?_
            refine lv_goto (tgt := 186) hx hb d_Mo_side_173 (by decide) ?_
            exact gh_iret hx hb hr hlk rfl hG d_Mo_side_186 (rB_0 hc9 (rB_0 (decide_eq_false hc20) (Or.inr ⟨p1, rfl, by simp [v_side, m_look, hc78, hc87], f2, (wM_mk zmo znm zfr zhs zva ztp zdn zvt zvd ztd (by omega) (by omega)), zfr9⟩)))
          · skip
            refine lv_iload_n hx hb d_Mo_side_90 rfl (lv_at hl 4 rfl) ?_
            refine lv_iload hx hb d_Mo_side_91 (lv_at hl 5 rfl) ?_
            refine gh_cS (As := [.int c1, .int d1]) (rest := []) (xF_ok b0) hx hb hml hown hK hX hG c_Mo_lies (q_Mo_lies htb ⟨by decide, by decide⟩) (htb _ k_3_68) (htb _ k_3_69) rfl hl.1 rfl (Nat.le_of_ble_eq_true rfl) d_Mo_side_93 ⟨by decide, by decide⟩ (fun v9 h9 H l9 hp9 hG => ?_) (fun _ _ _ _ hp9 _ => by cases hp9.1)
            obtain ⟨hv9, hh9⟩ := hp9
            cases hv9
            rw [hh9] at hG
            refine W.eq (g2 := F0 m 96 ls [.int (v_lies c1 d1)]) rfl ?_
            refine W.widen (k := 0) (n := 0) (by decide) (by decide) ?_
            refine lv_if_lt (tgt := 103) hx hb d_Mo_side_96 (by decide) (fun hc96 => ?_) (fun hc96 => ?_)
            · skip
              refine lv_iconst (v := 0) hx hb d_Mo_side_103 (by decide) ?_
              refine lv_istore (lv' := [(6, .int 0), (5, .int (nI p1)), (0, .ref mo), (1, .int a1), (2, .int b1), (3, .int c1), (4, .int d1)]) hx hb d_Mo_side_104 hl (by decide) rfl (fun ls hl => ?_)
              refine lv_iload hx hb d_Mo_side_106 (lv_at hl 0 rfl) ?_
              refine lv_if_eq (tgt := 129) hx hb d_Mo_side_108 (by decide) (fun hc108 => ?_) (fun hc108 => absurd hc108 (by decide))
              refine lv_iconst (v := 0) hx hb d_Mo_side_129 (by decide) ?_
              refine lv_istore (lv' := [(7, .int 0), (6, .int 0), (5, .int (nI p1)), (0, .ref mo), (1, .int a1), (2, .int b1), (3, .int c1), (4, .int d1)]) hx hb d_Mo_side_130 hl (by decide) rfl (fun ls hl => ?_)
              refine lv_iload hx hb d_Mo_side_132 (lv_at hl 1 rfl) ?_
              refine lv_if_eq (tgt := 162) hx hb d_Mo_side_134 (by decide) (fun hc134 => ?_) (fun hc134 => absurd hc134 (by decide))
              refine lv_iconst (v := 0) hx hb d_Mo_side_162 (by decide) ?_
              refine lv_istore (lv' := [(8, .int 0), (7, .int 0), (6, .int 0), (5, .int (nI p1)), (0, .ref mo), (1, .int a1), (2, .int b1), (3, .int c1), (4, .int d1)]) hx hb d_Mo_side_163 hl (by decide) rfl (fun ls hl => ?_)
              refine lv_iload hx hb d_Mo_side_165 (lv_at hl 1 rfl) ?_
              refine lv_iload hx hb d_Mo_side_167 (lv_at hl 0 rfl) ?_
              refine lv_icmp_ne (tgt := 176) hx hb d_Mo_side_169 (by decide) (fun hc169 => absurd hc169 (by decide)) (fun hc169 => ?_)
              refine lv_iconst (v := 0) hx hb d_Mo_side_172 (by decide) ?_
              refine lv_goto (tgt := 186) hx hb d_Mo_side_173 (by decide) ?_
              exact gh_iret hx hb hr hlk rfl hG d_Mo_side_186 (rB_0 hc9 (rB_0 (decide_eq_false hc20) (Or.inr ⟨p1, rfl, by simp [v_side, m_look, hc78, hc87, hc96], f2, (wM_mk zmo znm zfr zhs zva ztp zdn zvt zvd ztd (by omega) (by omega)), zfr9⟩)))
            · skip
              refine lv_iconst (v := 1) hx hb d_Mo_side_99 (by decide) ?_
              refine lv_goto (tgt := 104) hx hb d_Mo_side_100 (by decide) ?_
              refine lv_istore (lv' := [(6, .int 1), (5, .int (nI p1)), (0, .ref mo), (1, .int a1), (2, .int b1), (3, .int c1), (4, .int d1)]) hx hb d_Mo_side_104 hl (by decide) rfl (fun ls hl => ?_)
              refine lv_iload hx hb d_Mo_side_106 (lv_at hl 0 rfl) ?_
              refine lv_if_eq (tgt := 129) hx hb d_Mo_side_108 (by decide) (fun hc108 => absurd hc108 (by decide)) (fun hc108 => ?_)
              refine lv_aload_n hx hb d_Mo_side_111 rfl (lv_at hl 2 rfl) ?_
              refine lv_aload_n hx hb d_Mo_side_112 rfl (lv_at hl 2 rfl) ?_
              refine lv_iload hx hb d_Mo_side_113 (lv_at hl 1 rfl) ?_
              refine lv_iconst (v := 1) hx hb d_Mo_side_115 (by decide) ?_
              refine gh_cV (ci := 5) (As := [.int (nI p1), .int 1]) (rest := [.ref mo]) (xF_ok b0) hx hb hml hown hK hX hG rfl zmo (c_Mo_choiceAt1 (wM_mk zmo znm zfr zhs zva ztp zdn zvt zvd ztd (by omega) (by omega)) (p1 := p1) (by omega)) (q_Mo_choiceAt htb ⟨by decide, by decide⟩) (htb _ k_3_95) (htb _ k_3_97) (htb _ k_s_Mo_choiceAt) rfl hl.1 rfl (Nat.le_of_ble_eq_true rfl) d_Mo_side_116 ⟨by decide, by decide⟩ (fun v9 h9 H l9 hp9 hG => ?_) (fun _ _ _ _ hp9 _ => by cases hp9.1)
              obtain ⟨hv9, hh9⟩ := hp9
              cases hv9
              rw [hh9] at hG
              refine W.eq (g2 := F0 m 119 ls [.int (nI (pb_num (v_at nf f2 p1 true) g)), .ref mo]) rfl ?_
              refine W.widen (k := 0) (n := 0) (by decide) (by decide) ?_
              rw [show pb_num (v_at nf f2 p1 true) g = pb_num (v_at nf (v_val nf ff a1 b1 c1 d1) p1 true) g from pb_congr (fun j hj => by unfold v_at; rw [hf2 j hj])]
              refine gh_cV (ci := 5) (As := [.int (nI (pb_num (v_at nf (v_val nf ff a1 b1 c1 d1) p1 true) g))]) (rest := []) (xF_ok b0) hx hb hml hown hK hX hG rfl zmo (c_Mo_topHas (wM_mk zmo znm zfr zhs zva ztp zdn zvt zvd ztd (by omega) (by omega)) (by omega) (ce := (pb_num (v_at nf (v_val nf ff a1 b1 c1 d1) p1 true) g)) (pb_8 _ zg)) (q_Mo_topHas htb ⟨by decide, by decide⟩) (htb _ k_3_75) (htb _ k_3_77) (htb _ k_s_Mo_topHas) rfl hl.1 rfl (Nat.le_of_ble_eq_true rfl) d_Mo_side_119 ⟨by decide, by decide⟩ (fun v9 h9 H l9 hp9 hG => ?_) (fun _ _ _ _ hp9 _ => by cases hp9.1)
              obtain ⟨hv9, hh9⟩ := hp9
              cases hv9
              rw [hh9] at hG
              refine W.eq (g2 := F0 m 122 ls [.int (m_b (v_top hf my (pb_num (v_at nf (v_val nf ff a1 b1 c1 d1) p1 true) g)))]) rfl ?_
              refine W.widen (k := 0) (n := 0) (by decide) (by decide) ?_
              refine lv_if_eq (tgt := 129) hx hb d_Mo_side_122 (by decide) (fun hc122 => ?_) (fun hc122 => ?_)
              · skip
                replace hc122 := mb_0.mp hc122
                refine lv_iconst (v := 0) hx hb d_Mo_side_129 (by decide) ?_
                refine lv_istore (lv' := [(7, .int 0), (6, .int 1), (5, .int (nI p1)), (0, .ref mo), (1, .int a1), (2, .int b1), (3, .int c1), (4, .int d1)]) hx hb d_Mo_side_130 hl (by decide) rfl (fun ls hl => ?_)
                refine lv_iload hx hb d_Mo_side_132 (lv_at hl 1 rfl) ?_
                refine lv_if_eq (tgt := 162) hx hb d_Mo_side_134 (by decide) (fun hc134 => absurd hc134 (by decide)) (fun hc134 => ?_)
                refine lv_iload hx hb d_Mo_side_137 (lv_at hl 2 rfl) ?_
                refine lv_bipush (v := 10) hx hb d_Mo_side_139 (by decide) ?_
                refine lv_icmp_ge (tgt := 162) hx hb d_Mo_side_141 (by decide) (fun hc141 => ?_) (fun hc141 => ?_)
                · skip
                  replace hc141 : 10 ≤ p1 := (nc_le (a := 10) (b := p1) (by omega) (by omega) rfl rfl).mp hc141
                  refine lv_iconst (v := 0) hx hb d_Mo_side_162 (by decide) ?_
                  refine lv_istore (lv' := [(8, .int 0), (7, .int 0), (6, .int 1), (5, .int (nI p1)), (0, .ref mo), (1, .int a1), (2, .int b1), (3, .int c1), (4, .int d1)]) hx hb d_Mo_side_163 hl (by decide) rfl (fun ls hl => ?_)
                  refine lv_iload hx hb d_Mo_side_165 (lv_at hl 1 rfl) ?_
                  refine lv_iload hx hb d_Mo_side_167 (lv_at hl 0 rfl) ?_
                  refine lv_icmp_ne (tgt := 176) hx hb d_Mo_side_169 (by decide) (fun hc169 => absurd hc169 (by decide)) (fun hc169 => ?_)
                  refine lv_iconst (v := 0) hx hb d_Mo_side_172 (by decide) ?_
                  refine lv_goto (tgt := 186) hx hb d_Mo_side_173 (by decide) ?_
                  exact gh_iret hx hb hr hlk rfl hG d_Mo_side_186 (rB_0 hc9 (rB_0 (decide_eq_false hc20) (Or.inr ⟨p1, rfl, by simp [v_side, m_look, hc78, hc87, hc96, hc122, hc141], f2, (wM_mk zmo znm zfr zhs zva ztp zdn zvt zvd ztd (by omega) (by omega)), zfr9⟩)))
                · skip
                  replace hc141 : ¬ 10 ≤ p1 := fun q9 => hc141 ((nc_le (a := 10) (b := p1) (by omega) (by omega) rfl rfl).mpr q9)
                  refine lv_aload_n hx hb d_Mo_side_144 rfl (lv_at hl 3 rfl) ?_
                  refine lv_aload_n hx hb d_Mo_side_145 rfl (lv_at hl 3 rfl) ?_
                  refine lv_iload hx hb d_Mo_side_146 (lv_at hl 2 rfl) ?_
                  refine lv_iconst (v := 0) hx hb d_Mo_side_148 (by decide) ?_
                  refine gh_cV (ci := 5) (As := [.int (nI p1), .int 0]) (rest := [.ref mo]) (xF_ok b0) hx hb hml hown hK hX hG rfl zmo (c_Mo_choiceAt0 (wM_mk zmo znm zfr zhs zva ztp zdn zvt zvd ztd (by omega) (by omega)) (p1 := p1) (by omega)) (q_Mo_choiceAt htb ⟨by decide, by decide⟩) (htb _ k_3_95) (htb _ k_3_97) (htb _ k_s_Mo_choiceAt) rfl hl.1 rfl (Nat.le_of_ble_eq_true rfl) d_Mo_side_149 ⟨by decide, by decide⟩ (fun v9 h9 H l9 hp9 hG => ?_) (fun _ _ _ _ hp9 _ => by cases hp9.1)
                  obtain ⟨hv9, hh9⟩ := hp9
                  cases hv9
                  rw [hh9] at hG
                  refine W.eq (g2 := F0 m 152 ls [.int (nI (pb_num (v_at nf f2 p1 false) g)), .ref mo]) rfl ?_
                  refine W.widen (k := 0) (n := 0) (by decide) (by decide) ?_
                  rw [show pb_num (v_at nf f2 p1 false) g = pb_num (v_at nf (v_val nf ff a1 b1 c1 d1) p1 false) g from pb_congr (fun j hj => by unfold v_at; rw [hf2 j hj])]
                  refine gh_cV (ci := 5) (As := [.int (nI (pb_num (v_at nf (v_val nf ff a1 b1 c1 d1) p1 false) g))]) (rest := []) (xF_ok b0) hx hb hml hown hK hX hG rfl zmo (c_Mo_topHas (wM_mk zmo znm zfr zhs zva ztp zdn zvt zvd ztd (by omega) (by omega)) (by omega) (ce := (pb_num (v_at nf (v_val nf ff a1 b1 c1 d1) p1 false) g)) (pb_8 _ zg)) (q_Mo_topHas htb ⟨by decide, by decide⟩) (htb _ k_3_75) (htb _ k_3_77) (htb _ k_s_Mo_topHas) rfl hl.1 rfl (Nat.le_of_ble_eq_true rfl) d_Mo_side_152 ⟨by decide, by decide⟩ (fun v9 h9 H l9 hp9 hG => ?_) (fun _ _ _ _ hp9 _ => by cases hp9.1)
                  obtain ⟨hv9, hh9⟩ := hp9
                  cases hv9
                  rw [hh9] at hG
                  refine W.eq (g2 := F0 m 155 ls [.int (m_b (v_top hf my (pb_num (v_at nf (v_val nf ff a1 b1 c1 d1) p1 false) g)))]) rfl ?_
                  refine W.widen (k := 0) (n := 0) (by decide) (by decide) ?_
                  refine lv_if_eq (tgt := 162) hx hb d_Mo_side_155 (by decide) (fun hc155 => ?_) (fun hc155 => ?_)
                  · skip
                    replace hc155 := mb_0.mp hc155
                    refine lv_iconst (v := 0) hx hb d_Mo_side_162 (by decide) ?_
                    refine lv_istore (lv' := [(8, .int 0), (7, .int 0), (6, .int 1), (5, .int (nI p1)), (0, .ref mo), (1, .int a1), (2, .int b1), (3, .int c1), (4, .int d1)]) hx hb d_Mo_side_163 hl (by decide) rfl (fun ls hl => ?_)
                    refine lv_iload hx hb d_Mo_side_165 (lv_at hl 1 rfl) ?_
                    refine lv_iload hx hb d_Mo_side_167 (lv_at hl 0 rfl) ?_
                    refine lv_icmp_ne (tgt := 176) hx hb d_Mo_side_169 (by decide) (fun hc169 => absurd hc169 (by decide)) (fun hc169 => ?_)
                    refine lv_iconst (v := 0) hx hb d_Mo_side_172 (by decide) ?_
                    refine lv_goto (tgt := 186) hx hb d_Mo_side_173 (by decide) ?_
                    exact gh_iret hx hb hr hlk rfl hG d_Mo_side_186 (rB_0 hc9 (rB_0 (decide_eq_false hc20) (Or.inr ⟨p1, rfl, by simp [v_side, m_look, hc78, hc87, hc96, hc122, hc141, hc155], f2, (wM_mk zmo znm zfr zhs zva ztp zdn zvt zvd ztd (by omega) (by omega)), zfr9⟩)))
                  · skip
                    replace hc155 := mb_1.mp hc155
                    refine lv_iconst (v := 1) hx hb d_Mo_side_158 (by decide) ?_
                    refine lv_goto (tgt := 163) hx hb d_Mo_side_159 (by decide) ?_
                    refine lv_istore (lv' := [(8, .int 1), (7, .int 0), (6, .int 1), (5, .int (nI p1)), (0, .ref mo), (1, .int a1), (2, .int b1), (3, .int c1), (4, .int d1)]) hx hb d_Mo_side_163 hl (by decide) rfl (fun ls hl => ?_)
                    refine lv_iload hx hb d_Mo_side_165 (lv_at hl 1 rfl) ?_
                    refine lv_iload hx hb d_Mo_side_167 (lv_at hl 0 rfl) ?_
                    refine lv_icmp_ne (tgt := 176) hx hb d_Mo_side_169 (by decide) (fun hc169 => ?_) (fun hc169 => absurd hc169 (by decide))
                    refine lv_iload hx hb d_Mo_side_176 (lv_at hl 1 rfl) ?_
                    refine lv_if_eq (tgt := 185) hx hb d_Mo_side_178 (by decide) (fun hc178 => ?_) (fun hc178 => absurd hc178 (by decide))
                    refine lv_iconst (v := (-1)) hx hb d_Mo_side_185 (by decide) ?_
                    exact gh_iret hx hb hr hlk rfl hG d_Mo_side_186 (rB_0 hc9 (rB_0 (decide_eq_false hc20) (Or.inr ⟨p1, rfl, by simp [v_side, m_look, hc78, hc87, hc96, hc122, hc141, hc155], f2, (wM_mk zmo znm zfr zhs zva ztp zdn zvt zvd ztd (by omega) (by omega)), zfr9⟩)))
              · skip
                replace hc122 := mb_1.mp hc122
                refine lv_iconst (v := 1) hx hb d_Mo_side_125 (by decide) ?_
                refine lv_goto (tgt := 130) hx hb d_Mo_side_126 (by decide) ?_
                refine lv_istore (lv' := [(7, .int 1), (6, .int 1), (5, .int (nI p1)), (0, .ref mo), (1, .int a1), (2, .int b1), (3, .int c1), (4, .int d1)]) hx hb d_Mo_side_130 hl (by decide) rfl (fun ls hl => ?_)
                refine lv_iload hx hb d_Mo_side_132 (lv_at hl 1 rfl) ?_
                refine lv_if_eq (tgt := 162) hx hb d_Mo_side_134 (by decide) (fun hc134 => absurd hc134 (by decide)) (fun hc134 => ?_)
                refine lv_iload hx hb d_Mo_side_137 (lv_at hl 2 rfl) ?_
                refine lv_bipush (v := 10) hx hb d_Mo_side_139 (by decide) ?_
                refine lv_icmp_ge (tgt := 162) hx hb d_Mo_side_141 (by decide) (fun hc141 => ?_) (fun hc141 => ?_)
                · skip
                  replace hc141 : 10 ≤ p1 := (nc_le (a := 10) (b := p1) (by omega) (by omega) rfl rfl).mp hc141
                  refine lv_iconst (v := 0) hx hb d_Mo_side_162 (by decide) ?_
                  refine lv_istore (lv' := [(8, .int 0), (7, .int 1), (6, .int 1), (5, .int (nI p1)), (0, .ref mo), (1, .int a1), (2, .int b1), (3, .int c1), (4, .int d1)]) hx hb d_Mo_side_163 hl (by decide) rfl (fun ls hl => ?_)
                  refine lv_iload hx hb d_Mo_side_165 (lv_at hl 1 rfl) ?_
                  refine lv_iload hx hb d_Mo_side_167 (lv_at hl 0 rfl) ?_
                  refine lv_icmp_ne (tgt := 176) hx hb d_Mo_side_169 (by decide) (fun hc169 => ?_) (fun hc169 => absurd hc169 (by decide))
                  refine lv_iload hx hb d_Mo_side_176 (lv_at hl 1 rfl) ?_
                  refine lv_if_eq (tgt := 185) hx hb d_Mo_side_178 (by decide) (fun hc178 => absurd hc178 (by decide)) (fun hc178 => ?_)
                  refine lv_iconst (v := 1) hx hb d_Mo_side_181 (by decide) ?_
                  refine lv_goto (tgt := 186) hx hb d_Mo_side_182 (by decide) ?_
                  exact gh_iret hx hb hr hlk rfl hG d_Mo_side_186 (rB_0 hc9 (rB_0 (decide_eq_false hc20) (Or.inr ⟨p1, rfl, by simp [v_side, m_look, hc78, hc87, hc96, hc122, hc141], f2, (wM_mk zmo znm zfr zhs zva ztp zdn zvt zvd ztd (by omega) (by omega)), zfr9⟩)))
                · skip
                  replace hc141 : ¬ 10 ≤ p1 := fun q9 => hc141 ((nc_le (a := 10) (b := p1) (by omega) (by omega) rfl rfl).mpr q9)
                  refine lv_aload_n hx hb d_Mo_side_144 rfl (lv_at hl 3 rfl) ?_
                  refine lv_aload_n hx hb d_Mo_side_145 rfl (lv_at hl 3 rfl) ?_
                  refine lv_iload hx hb d_Mo_side_146 (lv_at hl 2 rfl) ?_
                  refine lv_iconst (v := 0) hx hb d_Mo_side_148 (by decide) ?_
                  refine gh_cV (ci := 5) (As := [.int (nI p1), .int 0]) (rest := [.ref mo]) (xF_ok b0) hx hb hml hown hK hX hG rfl zmo (c_Mo_choiceAt0 (wM_mk zmo znm zfr zhs zva ztp zdn zvt zvd ztd (by omega) (by omega)) (p1 := p1) (by omega)) (q_Mo_choiceAt htb ⟨by decide, by decide⟩) (htb _ k_3_95) (htb _ k_3_97) (htb _ k_s_Mo_choiceAt) rfl hl.1 rfl (Nat.le_of_ble_eq_true rfl) d_Mo_side_149 ⟨by decide, by decide⟩ (fun v9 h9 H l9 hp9 hG => ?_) (fun _ _ _ _ hp9 _ => by cases hp9.1)
                  obtain ⟨hv9, hh9⟩ := hp9
                  cases hv9
                  rw [hh9] at hG
                  refine W.eq (g2 := F0 m 152 ls [.int (nI (pb_num (v_at nf f2 p1 false) g)), .ref mo]) rfl ?_
                  refine W.widen (k := 0) (n := 0) (by decide) (by decide) ?_
                  rw [show pb_num (v_at nf f2 p1 false) g = pb_num (v_at nf (v_val nf ff a1 b1 c1 d1) p1 false) g from pb_congr (fun j hj => by unfold v_at; rw [hf2 j hj])]
                  refine gh_cV (ci := 5) (As := [.int (nI (pb_num (v_at nf (v_val nf ff a1 b1 c1 d1) p1 false) g))]) (rest := []) (xF_ok b0) hx hb hml hown hK hX hG rfl zmo (c_Mo_topHas (wM_mk zmo znm zfr zhs zva ztp zdn zvt zvd ztd (by omega) (by omega)) (by omega) (ce := (pb_num (v_at nf (v_val nf ff a1 b1 c1 d1) p1 false) g)) (pb_8 _ zg)) (q_Mo_topHas htb ⟨by decide, by decide⟩) (htb _ k_3_75) (htb _ k_3_77) (htb _ k_s_Mo_topHas) rfl hl.1 rfl (Nat.le_of_ble_eq_true rfl) d_Mo_side_152 ⟨by decide, by decide⟩ (fun v9 h9 H l9 hp9 hG => ?_) (fun _ _ _ _ hp9 _ => by cases hp9.1)
                  obtain ⟨hv9, hh9⟩ := hp9
                  cases hv9
                  rw [hh9] at hG
                  refine W.eq (g2 := F0 m 155 ls [.int (m_b (v_top hf my (pb_num (v_at nf (v_val nf ff a1 b1 c1 d1) p1 false) g)))]) rfl ?_
                  refine W.widen (k := 0) (n := 0) (by decide) (by decide) ?_
                  refine lv_if_eq (tgt := 162) hx hb d_Mo_side_155 (by decide) (fun hc155 => ?_) (fun hc155 => ?_)
                  · skip
                    replace hc155 := mb_0.mp hc155
                    refine lv_iconst (v := 0) hx hb d_Mo_side_162 (by decide) ?_
                    refine lv_istore (lv' := [(8, .int 0), (7, .int 1), (6, .int 1), (5, .int (nI p1)), (0, .ref mo), (1, .int a1), (2, .int b1), (3, .int c1), (4, .int d1)]) hx hb d_Mo_side_163 hl (by decide) rfl (fun ls hl => ?_)
                    refine lv_iload hx hb d_Mo_side_165 (lv_at hl 1 rfl) ?_
                    refine lv_iload hx hb d_Mo_side_167 (lv_at hl 0 rfl) ?_
                    refine lv_icmp_ne (tgt := 176) hx hb d_Mo_side_169 (by decide) (fun hc169 => ?_) (fun hc169 => absurd hc169 (by decide))
                    refine lv_iload hx hb d_Mo_side_176 (lv_at hl 1 rfl) ?_
                    refine lv_if_eq (tgt := 185) hx hb d_Mo_side_178 (by decide) (fun hc178 => absurd hc178 (by decide)) (fun hc178 => ?_)
                    refine lv_iconst (v := 1) hx hb d_Mo_side_181 (by decide) ?_
                    refine lv_goto (tgt := 186) hx hb d_Mo_side_182 (by decide) ?_
                    exact gh_iret hx hb hr hlk rfl hG d_Mo_side_186 (rB_0 hc9 (rB_0 (decide_eq_false hc20) (Or.inr ⟨p1, rfl, by simp [v_side, m_look, hc78, hc87, hc96, hc122, hc141, hc155], f2, (wM_mk zmo znm zfr zhs zva ztp zdn zvt zvd ztd (by omega) (by omega)), zfr9⟩)))
                  · skip
                    replace hc155 := mb_1.mp hc155
                    refine lv_iconst (v := 1) hx hb d_Mo_side_158 (by decide) ?_
                    refine lv_goto (tgt := 163) hx hb d_Mo_side_159 (by decide) ?_
                    refine lv_istore (lv' := [(8, .int 1), (7, .int 1), (6, .int 1), (5, .int (nI p1)), (0, .ref mo), (1, .int a1), (2, .int b1), (3, .int c1), (4, .int d1)]) hx hb d_Mo_side_163 hl (by decide) rfl (fun ls hl => ?_)
                    refine lv_iload hx hb d_Mo_side_165 (lv_at hl 1 rfl) ?_
                    refine lv_iload hx hb d_Mo_side_167 (lv_at hl 0 rfl) ?_
                    refine lv_icmp_ne (tgt := 176) hx hb d_Mo_side_169 (by decide) (fun hc169 => absurd hc169 (by decide)) (fun hc169 => ?_)
                    refine lv_iconst (v := 0) hx hb d_Mo_side_172 (by decide) ?_
                    refine lv_goto (tgt := 186) hx hb d_Mo_side_173 (by decide) ?_
                    exact gh_iret hx hb hr hlk rfl hG d_Mo_side_186 (rB_0 hc9 (rB_0 (decide_eq_false hc20) (Or.inr ⟨p1, rfl, by simp [v_side, m_look, hc78, hc87, hc96, hc122, hc141, hc155], f2, (wM_mk zmo znm zfr zhs zva ztp zdn zvt zvd ztd (by omega) (by omega)), zfr9⟩)))
    · skip
      replace hc20 : my = 0 := (nc_eq (a := my) (b := 0) (by omega) (by omega) rfl rfl).mp hc20
      refine lv_iconst (v := 2) hx hb d_Mo_side_23 (by decide) ?_
      refine lv_goto (tgt := 28) hx hb d_Mo_side_24 (by decide) ?_
      refine gh_put (ci := 5) (ty := .int) hx hb htb in_Mo t_Mo ty_Mo nm_Mo hown hK hG zmo rfl 0 (by decide) (htb _ k_2_223) (fun _ h9 => h9) rfl (by decide +kernel) rfl rfl (Nat.le_of_ble_eq_true rfl) d_Mo_side_28 (fun H l9 hG => ?_)
      have hq3 : (gh_up h mo (.inr (5, [.int 2, .int (nI g), .ref nm, .ref fr, .int (nI my), .ref hs, .ref va, .ref tp, .ref dn]))) mo = some (.inr (5, [.int 2, .int (nI g), .ref nm, .ref fr, .int (nI my), .ref hs, .ref va, .ref tp, .ref dn])) := gh_self _ _ _
      replace hG : gh_P D vC b0 (gh_up h mo (.inr (5, [.int 2, .int (nI g), .ref nm, .ref fr, .int (nI my), .ref hs, .ref va, .ref tp, .ref dn]))) s.heap _ _ := hG
      have znm_3 : (gh_up h mo (.inr (5, [.int 2, .int (nI g), .ref nm, .ref fr, .int (nI my), .ref hs, .ref va, .ref tp, .ref dn]))) nm = some (.inl (cI, 24, .inl nf)) := gh_keep zmo znm (by simp)
      have zfr_3 : (gh_up h mo (.inr (5, [.int 2, .int (nI g), .ref nm, .ref fr, .int (nI my), .ref hs, .ref va, .ref tp, .ref dn]))) fr = some (.inl (cI, 8, .inl ff)) := gh_keep zmo zfr (by simp)
      have zhs_3 : (gh_up h mo (.inr (5, [.int 2, .int (nI g), .ref nm, .ref fr, .int (nI my), .ref hs, .ref va, .ref tp, .ref dn]))) hs = some (.inl (cJ, 24, .inr (.inl hf))) := gh_keep zmo zhs (by simp)
      have zva_3 : (gh_up h mo (.inr (5, [.int 2, .int (nI g), .ref nm, .ref fr, .int (nI my), .ref hs, .ref va, .ref tp, .ref dn]))) va = some (.inl (cJ, 8, .inr (.inl vf))) := gh_keep zmo zva (by simp)
      have ztp_3 : (gh_up h mo (.inr (5, [.int 2, .int (nI g), .ref nm, .ref fr, .int (nI my), .ref hs, .ref va, .ref tp, .ref dn]))) tp = some (.inl (cJ, 8, .inr (.inl tf))) := gh_keep zmo ztp (by simp)
      have zdn_3 : (gh_up h mo (.inr (5, [.int 2, .int (nI g), .ref nm, .ref fr, .int (nI my), .ref hs, .ref va, .ref tp, .ref dn]))) dn = some (.inl (cJ, 8, .inr (.inl df))) := gh_keep zmo zdn (by simp)
      refine lv_aload_n hx hb d_Mo_side_31 rfl (lv_at hl 0 rfl) ?_
      refine gh_get (ci := 5) hx hb htb in_Mo hown hK hG hq3 rfl 0 (by decide) (htb _ k_2_223) (fun _ h9 => h9) rfl d_Mo_side_32 ?_
      refine lv_if_le (tgt := 40) hx hb d_Mo_side_35 (by decide) (fun hc35 => absurd hc35 (by decide)) (fun hc35 => ?_)
      refine lv_iconst (v := 0) hx hb d_Mo_side_38 (by decide) ?_
      exact gh_iret hx hb hr hlk rfl hG d_Mo_side_39 (rB_0 hc9 (rB_1 (decide_eq_true hc20) ⟨rfl, (wM_mk hq3 znm_3 zfr_3 zhs_3 zva_3 ztp_3 zdn_3 zvt zvd ztd (by omega) (by omega)), (frM_up zf0 zmo rfl)⟩))
  · skip
    replace hc9 := mb_n0.mp hc9
    refine lv_iconst (v := 1) hx hb d_Mo_side_12 (by decide) ?_
    refine lv_goto (tgt := 28) hx hb d_Mo_side_13 (by decide) ?_
    refine gh_put (ci := 5) (ty := .int) hx hb htb in_Mo t_Mo ty_Mo nm_Mo hown hK hG zmo rfl 0 (by decide) (htb _ k_2_223) (fun _ h9 => h9) rfl (by decide +kernel) rfl rfl (Nat.le_of_ble_eq_true rfl) d_Mo_side_28 (fun H l9 hG => ?_)
    have hq4 : (gh_up h mo (.inr (5, [.int 1, .int (nI g), .ref nm, .ref fr, .int (nI my), .ref hs, .ref va, .ref tp, .ref dn]))) mo = some (.inr (5, [.int 1, .int (nI g), .ref nm, .ref fr, .int (nI my), .ref hs, .ref va, .ref tp, .ref dn])) := gh_self _ _ _
    replace hG : gh_P D vC b0 (gh_up h mo (.inr (5, [.int 1, .int (nI g), .ref nm, .ref fr, .int (nI my), .ref hs, .ref va, .ref tp, .ref dn]))) s.heap _ _ := hG
    have znm_4 : (gh_up h mo (.inr (5, [.int 1, .int (nI g), .ref nm, .ref fr, .int (nI my), .ref hs, .ref va, .ref tp, .ref dn]))) nm = some (.inl (cI, 24, .inl nf)) := gh_keep zmo znm (by simp)
    have zfr_4 : (gh_up h mo (.inr (5, [.int 1, .int (nI g), .ref nm, .ref fr, .int (nI my), .ref hs, .ref va, .ref tp, .ref dn]))) fr = some (.inl (cI, 8, .inl ff)) := gh_keep zmo zfr (by simp)
    have zhs_4 : (gh_up h mo (.inr (5, [.int 1, .int (nI g), .ref nm, .ref fr, .int (nI my), .ref hs, .ref va, .ref tp, .ref dn]))) hs = some (.inl (cJ, 24, .inr (.inl hf))) := gh_keep zmo zhs (by simp)
    have zva_4 : (gh_up h mo (.inr (5, [.int 1, .int (nI g), .ref nm, .ref fr, .int (nI my), .ref hs, .ref va, .ref tp, .ref dn]))) va = some (.inl (cJ, 8, .inr (.inl vf))) := gh_keep zmo zva (by simp)
    have ztp_4 : (gh_up h mo (.inr (5, [.int 1, .int (nI g), .ref nm, .ref fr, .int (nI my), .ref hs, .ref va, .ref tp, .ref dn]))) tp = some (.inl (cJ, 8, .inr (.inl tf))) := gh_keep zmo ztp (by simp)
    have zdn_4 : (gh_up h mo (.inr (5, [.int 1, .int (nI g), .ref nm, .ref fr, .int (nI my), .ref hs, .ref va, .ref tp, .ref dn]))) dn = some (.inl (cJ, 8, .inr (.inl df))) := gh_keep zmo zdn (by simp)
    refine lv_aload_n hx hb d_Mo_side_31 rfl (lv_at hl 0 rfl) ?_
    refine gh_get (ci := 5) hx hb htb in_Mo hown hK hG hq4 rfl 0 (by decide) (htb _ k_2_223) (fun _ h9 => h9) rfl d_Mo_side_32 ?_
    refine lv_if_le (tgt := 40) hx hb d_Mo_side_35 (by decide) (fun hc35 => absurd hc35 (by decide)) (fun hc35 => ?_)
    refine lv_iconst (v := 0) hx hb d_Mo_side_38 (by decide) ?_
    exact gh_iret hx hb hr hlk rfl hG d_Mo_side_39 (rB_1 hc9 ⟨rfl, (wM_mk hq4 znm_4 zfr_4 zhs_4 zva_4 ztp_4 zdn_4 zvt zvd ztd (by omega) (by omega)), (frM_up zf0 zmo rfl)⟩)

end
