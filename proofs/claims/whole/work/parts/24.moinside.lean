/-- what the model finds of a point -/
def v_val (nf ff : Nat → Int32) (x y z w : Int32) (j : Nat) : Int64 := m_exc (Int32.toInt64 (nf (3 * j))) (Int32.toInt64 (nf (3 * j + 1))) (Int32.toInt64 (nf (3 * j + 2))) (Int32.toInt64 (ff j)) (Int32.toInt64 x) (Int32.toInt64 y) (Int32.toInt64 z) (Int32.toInt64 w)
def v_ins (nf ff : Nat → Int32) (hf : Nat → Int64) (g my : Nat) (x y z w : Int32) : Int32 :=
  if (m_any (fun j => decide (v_val nf ff x y z w j = 0)) g || (decide (v_lies x w = 0) || (decide (v_lies y w = 0) || decide (v_lies z w = 0)))) = true then 2
  else m_b (!decide (v_lies x w ≤ 0) && (!decide (v_lies y w ≤ 0) && (!decide (v_lies z w ≤ 0) && v_top hf my (pb_num (fun j => decide (v_val nf ff x y z w j < 0)) g))))
theorem pb_nx {f : Nat → Bool} {k : Nat} (h : f k = true) : pb_num f k + 2 ^ k = pb_num f (k + 1) := by simp only [pb_num]; rw [if_pos h]
theorem pb_ny {f : Nat → Bool} {k : Nat} (h : f k = false) : pb_num f k + 0 = pb_num f (k + 1) := by simp only [pb_num]; rw [if_neg (by rw [h]; decide)]
theorem m_any_s (f : Nat → Bool) (k : Nat) : m_any f (k + 1) = (m_any f k || f k) := by
  unfold m_any
  rw [List.range_succ, List.any_append]
  simp
theorem m_any_cg {f g : Nat → Bool} {n : Nat} (h : ∀ j, j < n → f j = g j) : m_any f n = m_any g n := by
  induction n with
  | zero => rfl
  | succ n ih => rw [m_any_s, m_any_s, ih (fun j hj => h j (by omega)), h n (by omega)]
theorem pb_8 (f : Nat → Bool) {n : Nat} (hn : n ≤ 8) : pb_num f n < 256 := Nat.lt_of_lt_of_le (pb_lt f n) (Nat.pow_le_pow_right (by decide) hn : 2 ^ n ≤ 2 ^ 8)
def v_nx (k : Nat) : Nat := if k = 2 then 0 else k + 1
def v_a (nf : Nat → Int32) (p i : Nat) : Int64 := Int32.toInt64 (v_nor nf p i)
def v_same (nf : Nat → Int32) (p q : Nat) : Nat → Bool
  | 0 => true
  | k + 1 => v_same nf p q k && decide (v_a nf p k * v_a nf q (v_nx k) = v_a nf p (v_nx k) * v_a nf q k)
def v_sign (nf : Nat → Int32) (p q : Nat) : Nat → Int32
  | 0 => 0
  | k + 1 => if v_a nf p k * v_a nf q k ≤ 0 then (if 0 ≤ v_a nf p k * v_a nf q k then v_sign nf p q k else -1) else 1
def v_alike (nf : Nat → Int32) (p q : Nat) : Int32 := if v_same nf p q 3 = true then v_sign nf p q 3 else 0
def v_at (nf : Nat → Int32) (vf : Nat → Int64) (p : Nat) (lb : Bool) (k : Nat) : Bool := decide (vf k < 0) || (decide (vf k = 0) && ((!decide (v_alike nf p k ≤ 0)) == lb))

section
variable {l : Launch} {D : va_G} {cI cJ cP cS : ClassId} {b0 : Nat} {h : gh_M}

set_option maxHeartbeats 4000000 in
set_option maxRecDepth 100000 in
/-- look -/
theorem c_Mo_look {mo nm fr hs va tp dn g my : Nat} {th : Int32} {nf ff : Nat → Int32} {hf vf tf df : Nat → Int64} (hW : wM cI cJ h mo nm fr hs va tp dn th g my nf ff hf vf tf df) {a1 b1 c1 d1 : Int32} : gh_C l D vC (tZ cI cJ cP cS) (xF b0) b0 y_Mo_look w_Mo_look ({ frames := 0, cells := 0, slots := 0, locals := 0 }) [.ref mo, .int a1, .int b1, .int c1, .int d1] h (rW none (fun h2 => ∃ f2 : Nat → Int64, (∀ j, j < g → f2 j = v_val nf ff a1 b1 c1 d1 j) ∧ wM cI cJ h2 mo nm fr hs va tp dn th g my nf ff hf f2 tf df ∧ frM h h2)) := by
  refine gh_ofW (by decide) (Nat.le_of_ble_eq_true rfl) ?_
  intro p e s m below meth c ls hctx hno hl hG hK hX
  obtain ⟨hx, hb, hr, hml, hown, hlk, hts, hnm⟩ := hctx
  have htb : ∀ w ∈ tB, w.before _ s = true := fun w hw => hts w (List.mem_cons_of_mem _ hw)
  replace hl : lv_has ls 6 [(0, .ref mo), (1, .int a1), (2, .int b1), (3, .int c1), (4, .int d1)] := hl
  obtain ⟨zmo, znm, zfr, zhs, zva, ztp, zdn, zvt, zvd, ztd, zg, zy⟩ := hW
  have zf0 : frM h h := frM_rf h
  refine lv_iconst (v := 0) hx hb d_Mo_look_0 (by decide) ?_
  refine lv_istore (lv' := [(5, .int 0), (0, .ref mo), (1, .int a1), (2, .int b1), (3, .int c1), (4, .int d1)]) hx hb d_Mo_look_1 hl (by decide) rfl (fun ls hl => ?_)
  refine gh_gen hG (fun H l9 hG => ?_)
  refine lp_upH (α := gh_M × (Nat → Int64)) (G := fun ls H l9 => W p l e _ s m _ below meth c H l9 _ _ _ (F0 m 3 ls [])) g (fun k w1 ls H l9 => (wM cI cJ w1.1 mo nm fr hs va tp dn th g my nf ff hf w1.2 tf df ∧ frM h w1.1 ∧ (∀ j, j < k → w1.2 j = v_val nf ff a1 b1 c1 d1 j)) ∧ lv_has ls 6 [(0, .ref mo), (1, .int a1), (2, .int b1), (3, .int c1), (4, .int d1), (5, .int (nI k))] ∧ gh_P D vC b0 w1.1 s.heap H l9) ?_ 0 (h, vf) ls H l9 (Nat.zero_le _) ⟨⟨(wM_mk zmo znm zfr zhs zva ztp zdn zvt zvd ztd (by omega) (by omega)), zf0, (fun j hj => absurd hj (Nat.not_lt_zero j))⟩, (lv_sub hl [1, 2, 3, 4, 5, 0] rfl), hG⟩
  intro k w1 ls H l9 hk hI ih
  obtain ⟨hi1, hl, hG⟩ := hI
  obtain ⟨⟨zmo, znm, zfr, zhs, zva, ztp, zdn, zvt, zvd, ztd, zg, zy⟩, zf, zs⟩ := hi1
  refine lv_iload hx hb d_Mo_look_3 (lv_at hl 5 rfl) ?_
  refine lv_aload_n hx hb d_Mo_look_5 rfl (lv_at hl 0 rfl) ?_
  refine gh_get (ci := 5) hx hb htb in_Mo hown hK hG zmo rfl 1 (by decide) (htb _ k_2_224) (fun _ h9 => h9) rfl d_Mo_look_6 ?_
  refine lv_icmp_ge (tgt := 83) hx hb d_Mo_look_9 (by decide) (fun hc9 => ?_) (fun hc9 => ?_)
  · skip
    replace hc9 : g ≤ k := (nc_le (a := g) (b := k) (by omega) (by omega) rfl rfl).mp hc9
    exact gh_vret hx hb hr hlk hG d_Mo_look_83 (⟨rfl, w1.2, (fun j hj => zs j (by omega)), (wM_mk zmo znm zfr zhs zva ztp zdn zvt zvd ztd (by omega) (by omega)), zf⟩)
  · skip
    replace hc9 : ¬ g ≤ k := fun q9 => hc9 ((nc_le (a := g) (b := k) (by omega) (by omega) rfl rfl).mpr q9)
    refine lv_aload_n hx hb d_Mo_look_12 rfl (lv_at hl 0 rfl) ?_
    refine gh_get (ci := 5) hx hb htb in_Mo hown hK hG zmo rfl 6 (by decide) (htb _ k_2_229) (fun _ h9 => h9) rfl d_Mo_look_13 ?_
    refine lv_iload hx hb d_Mo_look_16 (lv_at hl 5 rfl) ?_
    refine lv_aload_n hx hb d_Mo_look_18 rfl (lv_at hl 0 rfl) ?_
    refine gh_get (ci := 5) hx hb htb in_Mo hown hK hG zmo rfl 2 (by decide) (htb _ k_2_225) (fun _ h9 => h9) rfl d_Mo_look_19 ?_
    refine lv_iconst (v := 3) hx hb d_Mo_look_22 (by decide) ?_
    refine lv_iload hx hb d_Mo_look_23 (lv_at hl 5 rfl) ?_
    refine lv_imul hx hb d_Mo_look_25 ?_
    rw [show 3 * (nI k) = nI (3 * k) from nm_mul 3 k]
    refine gh_iald (v := nf (3 * k)) hx hb hK hG 0 znm rfl (vp_in_nI (by omega) (by decide)) (by rw [nI_clamp (by omega)]) d_Mo_look_26 ?_
    refine lv_i2l (v := Int32.toInt64 (nf (3 * k))) hx hb d_Mo_look_27 rfl ?_
    refine lv_iload_n hx hb d_Mo_look_28 rfl (lv_at hl 1 rfl) ?_
    refine lv_i2l (v := Int32.toInt64 a1) hx hb d_Mo_look_29 rfl ?_
    refine lv_lmul hx hb d_Mo_look_30 ?_
    refine lv_aload_n hx hb d_Mo_look_31 rfl (lv_at hl 0 rfl) ?_
    refine gh_get (ci := 5) hx hb htb in_Mo hown hK hG zmo rfl 2 (by decide) (htb _ k_2_225) (fun _ h9 => h9) rfl d_Mo_look_32 ?_
    refine lv_iconst (v := 3) hx hb d_Mo_look_35 (by decide) ?_
    refine lv_iload hx hb d_Mo_look_36 (lv_at hl 5 rfl) ?_
    refine lv_imul hx hb d_Mo_look_38 ?_
    rw [show 3 * (nI k) = nI (3 * k) from nm_mul 3 k]
    refine lv_iconst (v := 1) hx hb d_Mo_look_39 (by decide) ?_
    refine lv_iadd hx hb d_Mo_look_40 ?_
    rw [show nI (3 * k) + 1 = nI ((3 * k) + 1) from nI_1 (3 * k)]
    refine gh_iald (v := nf ((3 * k) + 1)) hx hb hK hG 0 znm rfl (vp_in_nI (by omega) (by decide)) (by rw [nI_clamp (by omega)]) d_Mo_look_41 ?_
    refine lv_i2l (v := Int32.toInt64 (nf ((3 * k) + 1))) hx hb d_Mo_look_42 rfl ?_
    refine lv_iload_n hx hb d_Mo_look_43 rfl (lv_at hl 2 rfl) ?_
    refine lv_i2l (v := Int32.toInt64 b1) hx hb d_Mo_look_44 rfl ?_
    refine lv_lmul hx hb d_Mo_look_45 ?_
    refine lv_ladd hx hb d_Mo_look_46 ?_
    refine lv_aload_n hx hb d_Mo_look_47 rfl (lv_at hl 0 rfl) ?_
    refine gh_get (ci := 5) hx hb htb in_Mo hown hK hG zmo rfl 2 (by decide) (htb _ k_2_225) (fun _ h9 => h9) rfl d_Mo_look_48 ?_
    refine lv_iconst (v := 3) hx hb d_Mo_look_51 (by decide) ?_
    refine lv_iload hx hb d_Mo_look_52 (lv_at hl 5 rfl) ?_
    refine lv_imul hx hb d_Mo_look_54 ?_
    rw [show 3 * (nI k) = nI (3 * k) from nm_mul 3 k]
    refine lv_iconst (v := 2) hx hb d_Mo_look_55 (by decide) ?_
    refine lv_iadd hx hb d_Mo_look_56 ?_
    rw [show (nI (3 * k)) + 2 = nI ((3 * k) + 2) from nI_add (3 * k) 2]
    refine gh_iald (v := nf ((3 * k) + 2)) hx hb hK hG 0 znm rfl (vp_in_nI (by omega) (by decide)) (by rw [nI_clamp (by omega)]) d_Mo_look_57 ?_
    refine lv_i2l (v := Int32.toInt64 (nf ((3 * k) + 2))) hx hb d_Mo_look_58 rfl ?_
    refine lv_iload_n hx hb d_Mo_look_59 rfl (lv_at hl 3 rfl) ?_
    refine lv_i2l (v := Int32.toInt64 c1) hx hb d_Mo_look_60 rfl ?_
    refine lv_lmul hx hb d_Mo_look_61 ?_
    refine lv_ladd hx hb d_Mo_look_62 ?_
    refine lv_aload_n hx hb d_Mo_look_63 rfl (lv_at hl 0 rfl) ?_
    refine gh_get (ci := 5) hx hb htb in_Mo hown hK hG zmo rfl 3 (by decide) (htb _ k_2_226) (fun _ h9 => h9) rfl d_Mo_look_64 ?_
    refine lv_iload hx hb d_Mo_look_67 (lv_at hl 5 rfl) ?_
    refine gh_iald (v := ff k) hx hb hK hG 0 zfr rfl (vp_in_nI (by omega) (by decide)) (by rw [nI_clamp (by omega)]) d_Mo_look_69 ?_
    refine lv_i2l (v := Int32.toInt64 (ff k)) hx hb d_Mo_look_70 rfl ?_
    refine lv_iload hx hb d_Mo_look_71 (lv_at hl 4 rfl) ?_
    refine lv_i2l (v := Int32.toInt64 d1) hx hb d_Mo_look_73 rfl ?_
    refine lv_lmul hx hb d_Mo_look_74 ?_
    refine lv_lsub hx hb d_Mo_look_75 ?_
    refine gh_last hx hb hK hG 1 zva rfl (vp_in_nI (by omega) (by decide)) d_Mo_look_76 (fun H l9 hG => ?_)
    rw [nI_clamp (by omega)] at hG
    have hq1 : (gh_up w1.1 va (.inl (cJ, 8, .inr (.inl (vp_updL w1.2 k (((((Int32.toInt64 (nf (3 * k))) * (Int32.toInt64 a1)) + ((Int32.toInt64 (nf ((3 * k) + 1))) * (Int32.toInt64 b1))) + ((Int32.toInt64 (nf ((3 * k) + 2))) * (Int32.toInt64 c1))) - ((Int32.toInt64 (ff k)) * (Int32.toInt64 d1)))))))) va = some (.inl (cJ, 8, .inr (.inl (vp_updL w1.2 k (((((Int32.toInt64 (nf (3 * k))) * (Int32.toInt64 a1)) + ((Int32.toInt64 (nf ((3 * k) + 1))) * (Int32.toInt64 b1))) + ((Int32.toInt64 (nf ((3 * k) + 2))) * (Int32.toInt64 c1))) - ((Int32.toInt64 (ff k)) * (Int32.toInt64 d1))))))) := gh_self _ _ _
    replace hG : gh_P D vC b0 (gh_up w1.1 va (.inl (cJ, 8, .inr (.inl (vp_updL w1.2 k (((((Int32.toInt64 (nf (3 * k))) * (Int32.toInt64 a1)) + ((Int32.toInt64 (nf ((3 * k) + 1))) * (Int32.toInt64 b1))) + ((Int32.toInt64 (nf ((3 * k) + 2))) * (Int32.toInt64 c1))) - ((Int32.toInt64 (ff k)) * (Int32.toInt64 d1)))))))) s.heap _ _ := hG
    have zmo_1 : (gh_up w1.1 va (.inl (cJ, 8, .inr (.inl (vp_updL w1.2 k (((((Int32.toInt64 (nf (3 * k))) * (Int32.toInt64 a1)) + ((Int32.toInt64 (nf ((3 * k) + 1))) * (Int32.toInt64 b1))) + ((Int32.toInt64 (nf ((3 * k) + 2))) * (Int32.toInt64 c1))) - ((Int32.toInt64 (ff k)) * (Int32.toInt64 d1)))))))) mo = some (.inr (5, [.int th, .int (nI g), .ref nm, .ref fr, .int (nI my), .ref hs, .ref va, .ref tp, .ref dn])) := gh_keep zva zmo (by simp)
    have znm_1 : (gh_up w1.1 va (.inl (cJ, 8, .inr (.inl (vp_updL w1.2 k (((((Int32.toInt64 (nf (3 * k))) * (Int32.toInt64 a1)) + ((Int32.toInt64 (nf ((3 * k) + 1))) * (Int32.toInt64 b1))) + ((Int32.toInt64 (nf ((3 * k) + 2))) * (Int32.toInt64 c1))) - ((Int32.toInt64 (ff k)) * (Int32.toInt64 d1)))))))) nm = some (.inl (cI, 24, .inl nf)) := gh_keep zva znm (by simp)
    have zfr_1 : (gh_up w1.1 va (.inl (cJ, 8, .inr (.inl (vp_updL w1.2 k (((((Int32.toInt64 (nf (3 * k))) * (Int32.toInt64 a1)) + ((Int32.toInt64 (nf ((3 * k) + 1))) * (Int32.toInt64 b1))) + ((Int32.toInt64 (nf ((3 * k) + 2))) * (Int32.toInt64 c1))) - ((Int32.toInt64 (ff k)) * (Int32.toInt64 d1)))))))) fr = some (.inl (cI, 8, .inl ff)) := gh_keep zva zfr (by simp)
    have zhs_1 : (gh_up w1.1 va (.inl (cJ, 8, .inr (.inl (vp_updL w1.2 k (((((Int32.toInt64 (nf (3 * k))) * (Int32.toInt64 a1)) + ((Int32.toInt64 (nf ((3 * k) + 1))) * (Int32.toInt64 b1))) + ((Int32.toInt64 (nf ((3 * k) + 2))) * (Int32.toInt64 c1))) - ((Int32.toInt64 (ff k)) * (Int32.toInt64 d1)))))))) hs = some (.inl (cJ, 24, .inr (.inl hf))) := gh_keep zva zhs (by simp)
    have ztp_1 : (gh_up w1.1 va (.inl (cJ, 8, .inr (.inl (vp_updL w1.2 k (((((Int32.toInt64 (nf (3 * k))) * (Int32.toInt64 a1)) + ((Int32.toInt64 (nf ((3 * k) + 1))) * (Int32.toInt64 b1))) + ((Int32.toInt64 (nf ((3 * k) + 2))) * (Int32.toInt64 c1))) - ((Int32.toInt64 (ff k)) * (Int32.toInt64 d1)))))))) tp = some (.inl (cJ, 8, .inr (.inl tf))) := (gh_ne (Ne.symm zvt)).trans ztp
    have zdn_1 : (gh_up w1.1 va (.inl (cJ, 8, .inr (.inl (vp_updL w1.2 k (((((Int32.toInt64 (nf (3 * k))) * (Int32.toInt64 a1)) + ((Int32.toInt64 (nf ((3 * k) + 1))) * (Int32.toInt64 b1))) + ((Int32.toInt64 (nf ((3 * k) + 2))) * (Int32.toInt64 c1))) - ((Int32.toInt64 (ff k)) * (Int32.toInt64 d1)))))))) dn = some (.inl (cJ, 8, .inr (.inl df))) := (gh_ne (Ne.symm zvd)).trans zdn
    refine lv_iinc (k := 5) (v := nI (k + 1)) (lv' := [(5, .int (nI (k + 1))), (0, .ref mo), (1, .int a1), (2, .int b1), (3, .int c1), (4, .int d1)]) hx hb d_Mo_look_77 hl rfl (nI_1 k) (by decide) rfl (fun ls hl => ?_)
    refine lv_goto (tgt := 3) hx hb d_Mo_look_80 (by decide) ?_
    exact ih (gh_up w1.1 va (.inl (cJ, 8, .inr (.inl (vp_updL w1.2 k (((((Int32.toInt64 (nf (3 * k))) * (Int32.toInt64 a1)) + ((Int32.toInt64 (nf ((3 * k) + 1))) * (Int32.toInt64 b1))) + ((Int32.toInt64 (nf ((3 * k) + 2))) * (Int32.toInt64 c1))) - ((Int32.toInt64 (ff k)) * (Int32.toInt64 d1))))))), (vp_updL w1.2 k (((((Int32.toInt64 (nf (3 * k))) * (Int32.toInt64 a1)) + ((Int32.toInt64 (nf ((3 * k) + 1))) * (Int32.toInt64 b1))) + ((Int32.toInt64 (nf ((3 * k) + 2))) * (Int32.toInt64 c1))) - ((Int32.toInt64 (ff k)) * (Int32.toInt64 d1))))) ls H l9 (by omega) ⟨⟨(wM_mk zmo_1 znm_1 zfr_1 zhs_1 hq1 ztp_1 zdn_1 zvt zvd ztd (by omega) (by omega)), (frM_up zf zva rfl), up_in (g := fun j => v_val nf ff a1 b1 c1 d1 j) zs rfl⟩, (lv_sub hl [1, 2, 3, 4, 5, 0] rfl), hG⟩

set_option maxHeartbeats 4000000 in
set_option maxRecDepth 100000 in
/-- choice -/
theorem c_Mo_choice {mo nm fr hs va tp dn g my : Nat} {th : Int32} {nf ff : Nat → Int32} {hf vf tf df : Nat → Int64} (hW : wM cI cJ h mo nm fr hs va tp dn th g my nf ff hf vf tf df) : gh_C l D vC (tZ cI cJ cP cS) (xF b0) b0 y_Mo_choice w_Mo_choice ({ frames := 0, cells := 0, slots := 0, locals := 0 }) [.ref mo] h (rI (nI (pb_num (fun j => decide (vf j < 0)) g)) h) := by
  refine gh_ofW (by decide) (Nat.le_of_ble_eq_true rfl) ?_
  intro p e s m below meth c ls hctx hno hl hG hK hX
  obtain ⟨hx, hb, hr, hml, hown, hlk, hts, hnm⟩ := hctx
  have htb : ∀ w ∈ tB, w.before _ s = true := fun w hw => hts w (List.mem_cons_of_mem _ hw)
  replace hl : lv_has ls 3 [(0, .ref mo)] := hl
  obtain ⟨zmo, znm, zfr, zhs, zva, ztp, zdn, zvt, zvd, ztd, zg, zy⟩ := hW
  have zf0 : frM h h := frM_rf h
  refine lv_iconst (v := 0) hx hb d_Mo_choice_0 (by decide) ?_
  refine lv_istore_n (lv' := [(1, .int 0), (0, .ref mo)]) hx hb d_Mo_choice_1 rfl hl (by decide) rfl (fun ls hl => ?_)
  refine lv_iconst (v := 0) hx hb d_Mo_choice_2 (by decide) ?_
  refine lv_istore_n (lv' := [(2, .int 0), (1, .int 0), (0, .ref mo)]) hx hb d_Mo_choice_3 rfl hl (by decide) rfl (fun ls hl => ?_)
  refine gh_gen hG (fun H l9 hG => ?_)
  refine lp_upH (α := Nat) (G := fun ls H l9 => W p l e _ s m _ below meth c H l9 _ _ _ (F0 m 4 ls [])) g (fun k acc ls H l9 => (acc = pb_num (fun j => decide (vf j < 0)) k) ∧ lv_has ls 3 [(0, .ref mo), (1, .int (nI acc)), (2, .int (nI k))] ∧ gh_P D vC b0 h s.heap H l9) ?_ 0 0 ls H l9 (Nat.zero_le _) ⟨rfl, (lv_sub hl [2, 1, 0] rfl), hG⟩
  intro k acc ls H l9 hk hI ih
  obtain ⟨hi1, hl, hG⟩ := hI
  refine lv_iload_n hx hb d_Mo_choice_4 rfl (lv_at hl 2 rfl) ?_
  refine lv_aload_n hx hb d_Mo_choice_5 rfl (lv_at hl 0 rfl) ?_
  refine gh_get (ci := 5) hx hb htb in_Mo hown hK hG zmo rfl 1 (by decide) (htb _ k_2_224) (fun _ h9 => h9) rfl d_Mo_choice_6 ?_
  refine lv_icmp_ge (tgt := 39) hx hb d_Mo_choice_9 (by decide) (fun hc9 => ?_) (fun hc9 => ?_)
  · skip
    replace hc9 : g ≤ k := (nc_le (a := g) (b := k) (by omega) (by omega) rfl rfl).mp hc9
    refine lv_iload_n hx hb d_Mo_choice_39 rfl (lv_at hl 1 rfl) ?_
    exact gh_iret hx hb hr hlk rfl hG d_Mo_choice_40 (⟨by rw [hi1, show k = g by omega], rfl⟩)
  · skip
    replace hc9 : ¬ g ≤ k := fun q9 => hc9 ((nc_le (a := g) (b := k) (by omega) (by omega) rfl rfl).mpr q9)
    refine lv_iload_n hx hb d_Mo_choice_12 rfl (lv_at hl 1 rfl) ?_
    refine lv_aload_n hx hb d_Mo_choice_13 rfl (lv_at hl 0 rfl) ?_
    refine gh_get (ci := 5) hx hb htb in_Mo hown hK hG zmo rfl 6 (by decide) (htb _ k_2_229) (fun _ h9 => h9) rfl d_Mo_choice_14 ?_
    refine lv_iload_n hx hb d_Mo_choice_17 rfl (lv_at hl 2 rfl) ?_
    refine gh_lald (v := vf k) hx hb hK hG 1 zva rfl (vp_in_nI (by omega) (by decide)) (by rw [nI_clamp (by omega)]) d_Mo_choice_18 ?_
    refine lv_lconst (v := 0) hx hb d_Mo_choice_19 (by decide) ?_
    refine W.lcmp hx hb d_Mo_choice_20 ?_
    refine lv_if_ge (tgt := 30) hx hb d_Mo_choice_21 (by decide) (fun hc21 => ?_) (fun hc21 => ?_)
    · skip
      rw [lg_cmp_ge] at hc21
      refine lv_iconst (v := 0) hx hb d_Mo_choice_30 (by decide) ?_
      refine lv_iadd hx hb d_Mo_choice_31 ?_
      rw [show (nI acc) + 0 = nI (acc + 0) from nI_add acc 0]
      refine lv_istore_n (lv' := [(1, .int (nI (acc + 0))), (0, .ref mo), (2, .int (nI k))]) hx hb d_Mo_choice_32 rfl hl (by decide) rfl (fun ls hl => ?_)
      refine lv_iinc (k := 2) (v := nI (k + 1)) (lv' := [(2, .int (nI (k + 1))), (1, .int (nI (acc + 0))), (0, .ref mo)]) hx hb d_Mo_choice_33 hl rfl (nI_1 k) (by decide) rfl (fun ls hl => ?_)
      refine lv_goto (tgt := 4) hx hb d_Mo_choice_36 (by decide) ?_
      exact ih (acc + 0) ls H l9 (by omega) ⟨by rw [hi1]; exact pb_ny (decide_eq_false (Int64.not_lt.mpr hc21)), (lv_sub hl [2, 1, 0] rfl), hG⟩
    · skip
      rw [lg_cmp_ge] at hc21
      refine lv_iconst (v := 1) hx hb d_Mo_choice_24 (by decide) ?_
      refine lv_iload_n hx hb d_Mo_choice_25 rfl (lv_at hl 2 rfl) ?_
      refine lv_ishl hx hb d_Mo_choice_26 ?_
      rw [show (1 : Int32) <<< (nI k &&& 31) = nI (2 ^ k) from sh_1 k (by omega)]
      refine lv_goto (tgt := 31) hx hb d_Mo_choice_27 (by decide) ?_
      refine lv_iadd hx hb d_Mo_choice_31 ?_
      rw [show (nI acc) + (nI (2 ^ k)) = nI (acc + (2 ^ k)) from nI_add acc (2 ^ k)]
      refine lv_istore_n (lv' := [(1, .int (nI (acc + (2 ^ k)))), (0, .ref mo), (2, .int (nI k))]) hx hb d_Mo_choice_32 rfl hl (by decide) rfl (fun ls hl => ?_)
      refine lv_iinc (k := 2) (v := nI (k + 1)) (lv' := [(2, .int (nI (k + 1))), (1, .int (nI (acc + (2 ^ k)))), (0, .ref mo)]) hx hb d_Mo_choice_33 hl rfl (nI_1 k) (by decide) rfl (fun ls hl => ?_)
      refine lv_goto (tgt := 4) hx hb d_Mo_choice_36 (by decide) ?_
      exact ih (acc + (2 ^ k)) ls H l9 (by omega) ⟨by rw [hi1]; exact pb_nx (decide_eq_true (Int64.not_le.mp hc21)), (lv_sub hl [2, 1, 0] rfl), hG⟩

set_option maxHeartbeats 4000000 in
set_option maxRecDepth 100000 in
/-- isOnGiven -/
theorem c_Mo_isOnGiven {mo nm fr hs va tp dn g my : Nat} {th : Int32} {nf ff : Nat → Int32} {hf vf tf df : Nat → Int64} (hW : wM cI cJ h mo nm fr hs va tp dn th g my nf ff hf vf tf df) : gh_C l D vC (tZ cI cJ cP cS) (xF b0) b0 y_Mo_isOnGiven w_Mo_isOnGiven ({ frames := 0, cells := 0, slots := 0, locals := 0 }) [.ref mo] h (rI (m_b (m_any (fun j => decide (vf j = 0)) g)) h) := by
  refine gh_ofW (by decide) (Nat.le_of_ble_eq_true rfl) ?_
  intro p e s m below meth c ls hctx hno hl hG hK hX
  obtain ⟨hx, hb, hr, hml, hown, hlk, hts, hnm⟩ := hctx
  have htb : ∀ w ∈ tB, w.before _ s = true := fun w hw => hts w (List.mem_cons_of_mem _ hw)
  replace hl : lv_has ls 3 [(0, .ref mo)] := hl
  obtain ⟨zmo, znm, zfr, zhs, zva, ztp, zdn, zvt, zvd, ztd, zg, zy⟩ := hW
  have zf0 : frM h h := frM_rf h
  refine lv_iconst (v := 0) hx hb d_Mo_isOnGiven_0 (by decide) ?_
  refine lv_istore_n (lv' := [(1, .int 0), (0, .ref mo)]) hx hb d_Mo_isOnGiven_1 rfl hl (by decide) rfl (fun ls hl => ?_)
  refine lv_iconst (v := 0) hx hb d_Mo_isOnGiven_2 (by decide) ?_
  refine lv_istore_n (lv' := [(2, .int 0), (1, .int 0), (0, .ref mo)]) hx hb d_Mo_isOnGiven_3 rfl hl (by decide) rfl (fun ls hl => ?_)
  refine gh_gen hG (fun H l9 hG => ?_)
  refine lp_upH (α := Bool) (G := fun ls H l9 => W p l e _ s m _ below meth c H l9 _ _ _ (F0 m 4 ls [])) g (fun k acc ls H l9 => (acc = m_any (fun j => decide (vf j = 0)) k) ∧ lv_has ls 3 [(0, .ref mo), (1, .int (m_b acc)), (2, .int (nI k))] ∧ gh_P D vC b0 h s.heap H l9) ?_ 0 false ls H l9 (Nat.zero_le _) ⟨rfl, (lv_sub hl [2, 1, 0] rfl), hG⟩
  intro k acc ls H l9 hk hI ih
  obtain ⟨hi1, hl, hG⟩ := hI
  refine lv_iload_n hx hb d_Mo_isOnGiven_4 rfl (lv_at hl 2 rfl) ?_
  refine lv_aload_n hx hb d_Mo_isOnGiven_5 rfl (lv_at hl 0 rfl) ?_
  refine gh_get (ci := 5) hx hb htb in_Mo hown hK hG zmo rfl 1 (by decide) (htb _ k_2_224) (fun _ h9 => h9) rfl d_Mo_isOnGiven_6 ?_
  refine lv_icmp_ge (tgt := 39) hx hb d_Mo_isOnGiven_9 (by decide) (fun hc9 => ?_) (fun hc9 => ?_)
  · skip
    replace hc9 : g ≤ k := (nc_le (a := g) (b := k) (by omega) (by omega) rfl rfl).mp hc9
    refine lv_iload_n hx hb d_Mo_isOnGiven_39 rfl (lv_at hl 1 rfl) ?_
    exact gh_iret hx hb hr hlk (mb_nz _) hG d_Mo_isOnGiven_40 (⟨by rw [hi1, show k = g by omega], rfl⟩)
  · skip
    replace hc9 : ¬ g ≤ k := fun q9 => hc9 ((nc_le (a := g) (b := k) (by omega) (by omega) rfl rfl).mpr q9)
    refine lv_iload_n hx hb d_Mo_isOnGiven_12 rfl (lv_at hl 1 rfl) ?_
    refine lv_if_ne (tgt := 27) hx hb d_Mo_isOnGiven_13 (by decide) (fun hc13 => ?_) (fun hc13 => ?_)
    · skip
      replace hc13 := mb_1.mp hc13
      refine lv_iconst (v := 1) hx hb d_Mo_isOnGiven_27 (by decide) ?_
      refine lv_goto (tgt := 32) hx hb d_Mo_isOnGiven_28 (by decide) ?_
      refine lv_istore_n (lv' := [(1, .int 1), (0, .ref mo), (2, .int (nI k))]) hx hb d_Mo_isOnGiven_32 rfl hl (by decide) rfl (fun ls hl => ?_)
      refine lv_iinc (k := 2) (v := nI (k + 1)) (lv' := [(2, .int (nI (k + 1))), (1, .int 1), (0, .ref mo)]) hx hb d_Mo_isOnGiven_33 hl rfl (nI_1 k) (by decide) rfl (fun ls hl => ?_)
      refine lv_goto (tgt := 4) hx hb d_Mo_isOnGiven_36 (by decide) ?_
      exact ih true ls H l9 (by omega) ⟨by rw [m_any_s, ← hi1]; rw [hc13]; rfl, (lv_sub hl [2, 1, 0] rfl), hG⟩
    · skip
      replace hc13 := mb_0.mp hc13
      refine lv_aload_n hx hb d_Mo_isOnGiven_16 rfl (lv_at hl 0 rfl) ?_
      refine gh_get (ci := 5) hx hb htb in_Mo hown hK hG zmo rfl 6 (by decide) (htb _ k_2_229) (fun _ h9 => h9) rfl d_Mo_isOnGiven_17 ?_
      refine lv_iload_n hx hb d_Mo_isOnGiven_20 rfl (lv_at hl 2 rfl) ?_
      refine gh_lald (v := vf k) hx hb hK hG 1 zva rfl (vp_in_nI (by omega) (by decide)) (by rw [nI_clamp (by omega)]) d_Mo_isOnGiven_21 ?_
      refine lv_lconst (v := 0) hx hb d_Mo_isOnGiven_22 (by decide) ?_
      refine W.lcmp hx hb d_Mo_isOnGiven_23 ?_
      refine lv_if_ne (tgt := 31) hx hb d_Mo_isOnGiven_24 (by decide) (fun hc24 => ?_) (fun hc24 => ?_)
      · skip
        rw [lg_cmp_eq] at hc24
        refine lv_iconst (v := 0) hx hb d_Mo_isOnGiven_31 (by decide) ?_
        refine lv_istore_n (lv' := [(1, .int 0), (0, .ref mo), (2, .int (nI k))]) hx hb d_Mo_isOnGiven_32 rfl hl (by decide) rfl (fun ls hl => ?_)
        refine lv_iinc (k := 2) (v := nI (k + 1)) (lv' := [(2, .int (nI (k + 1))), (1, .int 0), (0, .ref mo)]) hx hb d_Mo_isOnGiven_33 hl rfl (nI_1 k) (by decide) rfl (fun ls hl => ?_)
        refine lv_goto (tgt := 4) hx hb d_Mo_isOnGiven_36 (by decide) ?_
        exact ih false ls H l9 (by omega) ⟨by rw [m_any_s, ← hi1]; rw [hc13]; exact (decide_eq_false hc24).symm, (lv_sub hl [2, 1, 0] rfl), hG⟩
      · skip
        rw [lg_cmp_eq] at hc24
        refine lv_iconst (v := 1) hx hb d_Mo_isOnGiven_27 (by decide) ?_
        refine lv_goto (tgt := 32) hx hb d_Mo_isOnGiven_28 (by decide) ?_
        refine lv_istore_n (lv' := [(1, .int 1), (0, .ref mo), (2, .int (nI k))]) hx hb d_Mo_isOnGiven_32 rfl hl (by decide) rfl (fun ls hl => ?_)
        refine lv_iinc (k := 2) (v := nI (k + 1)) (lv' := [(2, .int (nI (k + 1))), (1, .int 1), (0, .ref mo)]) hx hb d_Mo_isOnGiven_33 hl rfl (nI_1 k) (by decide) rfl (fun ls hl => ?_)
        refine lv_goto (tgt := 4) hx hb d_Mo_isOnGiven_36 (by decide) ?_
        exact ih true ls H l9 (by omega) ⟨by rw [m_any_s, ← hi1]; rw [hc13]; exact (decide_eq_true hc24).symm, (lv_sub hl [2, 1, 0] rfl), hG⟩

set_option maxHeartbeats 4000000 in
set_option maxRecDepth 100000 in
/-- inside -/
theorem c_Mo_inside {mo nm fr hs va tp dn g my : Nat} {th : Int32} {nf ff : Nat → Int32} {hf vf tf df : Nat → Int64} (hW : wM cI cJ h mo nm fr hs va tp dn th g my nf ff hf vf tf df) {a1 b1 c1 d1 : Int32} : gh_C l D vC (tZ cI cJ cP cS) (xF b0) b0 y_Mo_inside w_Mo_inside ({ frames := 2, cells := 0, slots := 0, locals := 60 }) [.ref mo, .int a1, .int b1, .int c1, .int d1] h (rB (m_badQ a1 b1 c1 d1) (rW (some (.int 0)) (fun h2 => wM cI cJ h2 mo nm fr hs va tp dn 1 g my nf ff hf vf tf df ∧ frM h h2)) (rB (decide (my = 0)) (rW (some (.int 0)) (fun h2 => wM cI cJ h2 mo nm fr hs va tp dn 2 g my nf ff hf vf tf df ∧ frM h h2)) (fun oc h2 => oc = .returned (some (.int (v_ins nf ff hf g my a1 b1 c1 d1))) ∧ ∃ f2 : Nat → Int64, wM cI cJ h2 mo nm fr hs va tp dn 0 g my nf ff hf f2 tf df ∧ frM h h2))) := by
  refine gh_ofW (by decide) (Nat.le_of_ble_eq_true rfl) ?_
  intro p e s m below meth c ls hctx hno hl hG hK hX
  obtain ⟨hx, hb, hr, hml, hown, hlk, hts, hnm⟩ := hctx
  have htb : ∀ w ∈ tB, w.before _ s = true := fun w hw => hts w (List.mem_cons_of_mem _ hw)
  replace hl : lv_has ls 6 [(0, .ref mo), (1, .int a1), (2, .int b1), (3, .int c1), (4, .int d1)] := hl
  obtain ⟨zmo, znm, zfr, zhs, zva, ztp, zdn, zvt, zvd, ztd, zg, zy⟩ := hW
  have zf0 : frM h h := frM_rf h
  refine lv_aload_n hx hb d_Mo_inside_0 rfl (lv_at hl 0 rfl) ?_
  refine lv_iload_n hx hb d_Mo_inside_1 rfl (lv_at hl 1 rfl) ?_
  refine lv_iload_n hx hb d_Mo_inside_2 rfl (lv_at hl 2 rfl) ?_
  refine lv_iload_n hx hb d_Mo_inside_3 rfl (lv_at hl 3 rfl) ?_
  refine lv_iload hx hb d_Mo_inside_4 (lv_at hl 4 rfl) ?_
  refine gh_cS (As := [.int a1, .int b1, .int c1, .int d1]) (rest := [.ref mo]) (xF_ok b0) hx hb hml hown hK hX hG c_Mo_isPoint (q_Mo_isPoint htb ⟨by decide, by decide⟩) (htb _ k_3_57) (htb _ k_3_58) rfl hl.1 rfl (Nat.le_of_ble_eq_true rfl) d_Mo_inside_6 ⟨by decide, by decide⟩ (fun v9 h9 H l9 hp9 hG => ?_) (fun _ _ _ _ hp9 _ => by cases hp9.1)
  obtain ⟨hv9, hh9⟩ := hp9
  cases hv9
  rw [hh9] at hG
  refine W.eq (g2 := F0 m 9 ls [.int (m_b (!m_badQ a1 b1 c1 d1)), .ref mo]) rfl ?_
  refine W.widen (k := 0) (n := 0) (by decide) (by decide) ?_
  refine lv_if_ne (tgt := 16) hx hb d_Mo_inside_9 (by decide) (fun hc9 => ?_) (fun hc9 => ?_)
  · skip
    replace hc9 := mb_n1.mp hc9
    refine lv_aload_n hx hb d_Mo_inside_16 rfl (lv_at hl 0 rfl) ?_
    refine gh_get (ci := 5) hx hb htb in_Mo hown hK hG zmo rfl 4 (by decide) (htb _ k_2_227) (fun _ h9 => h9) rfl d_Mo_inside_17 ?_
    refine lv_if_ne (tgt := 27) hx hb d_Mo_inside_20 (by decide) (fun hc20 => ?_) (fun hc20 => ?_)
    · skip
      replace hc20 : ¬ my = 0 := fun q9 => hc20 ((nc_eq (a := my) (b := 0) (by omega) (by omega) rfl rfl).mpr q9)
      refine lv_iconst (v := 0) hx hb d_Mo_inside_27 (by decide) ?_
      refine gh_put (ci := 5) (ty := .int) hx hb htb in_Mo t_Mo ty_Mo nm_Mo hown hK hG zmo rfl 0 (by decide) (htb _ k_2_223) (fun _ h9 => h9) rfl (by decide +kernel) rfl rfl (Nat.le_of_ble_eq_true rfl) d_Mo_inside_28 (fun H l9 hG => ?_)
      have hq1 : (gh_up h mo (.inr (5, [.int 0, .int (nI g), .ref nm, .ref fr, .int (nI my), .ref hs, .ref va, .ref tp, .ref dn]))) mo = some (.inr (5, [.int 0, .int (nI g), .ref nm, .ref fr, .int (nI my), .ref hs, .ref va, .ref tp, .ref dn])) := gh_self _ _ _
      replace hG : gh_P D vC b0 (gh_up h mo (.inr (5, [.int 0, .int (nI g), .ref nm, .ref fr, .int (nI my), .ref hs, .ref va, .ref tp, .ref dn]))) s.heap _ _ := hG
      have znm_1 : (gh_up h mo (.inr (5, [.int 0, .int (nI g), .ref nm, .ref fr, .int (nI my), .ref hs, .ref va, .ref tp, .ref dn]))) nm = some (.inl (cI, 24, .inl nf)) := gh_keep zmo znm (by simp)
      have zfr_1 : (gh_up h mo (.inr (5, [.int 0, .int (nI g), .ref nm, .ref fr, .int (nI my), .ref hs, .ref va, .ref tp, .ref dn]))) fr = some (.inl (cI, 8, .inl ff)) := gh_keep zmo zfr (by simp)
      have zhs_1 : (gh_up h mo (.inr (5, [.int 0, .int (nI g), .ref nm, .ref fr, .int (nI my), .ref hs, .ref va, .ref tp, .ref dn]))) hs = some (.inl (cJ, 24, .inr (.inl hf))) := gh_keep zmo zhs (by simp)
      have zva_1 : (gh_up h mo (.inr (5, [.int 0, .int (nI g), .ref nm, .ref fr, .int (nI my), .ref hs, .ref va, .ref tp, .ref dn]))) va = some (.inl (cJ, 8, .inr (.inl vf))) := gh_keep zmo zva (by simp)
      have ztp_1 : (gh_up h mo (.inr (5, [.int 0, .int (nI g), .ref nm, .ref fr, .int (nI my), .ref hs, .ref va, .ref tp, .ref dn]))) tp = some (.inl (cJ, 8, .inr (.inl tf))) := gh_keep zmo ztp (by simp)
      have zdn_1 : (gh_up h mo (.inr (5, [.int 0, .int (nI g), .ref nm, .ref fr, .int (nI my), .ref hs, .ref va, .ref tp, .ref dn]))) dn = some (.inl (cJ, 8, .inr (.inl df))) := gh_keep zmo zdn (by simp)
      refine lv_aload_n hx hb d_Mo_inside_31 rfl (lv_at hl 0 rfl) ?_
      refine gh_get (ci := 5) hx hb htb in_Mo hown hK hG hq1 rfl 0 (by decide) (htb _ k_2_223) (fun _ h9 => h9) rfl d_Mo_inside_32 ?_
      refine lv_if_le (tgt := 40) hx hb d_Mo_inside_35 (by decide) (fun hc35 => ?_) (fun hc35 => absurd hc35 (by decide))
      refine lv_aload_n hx hb d_Mo_inside_40 rfl (lv_at hl 0 rfl) ?_
      refine lv_iload_n hx hb d_Mo_inside_41 rfl (lv_at hl 1 rfl) ?_
      refine lv_iload_n hx hb d_Mo_inside_42 rfl (lv_at hl 2 rfl) ?_
      refine lv_iload_n hx hb d_Mo_inside_43 rfl (lv_at hl 3 rfl) ?_
      refine lv_iload hx hb d_Mo_inside_44 (lv_at hl 4 rfl) ?_
      refine gh_cV (ci := 5) (As := [.int a1, .int b1, .int c1, .int d1]) (rest := []) (xF_ok b0) hx hb hml hown hK hX hG rfl hq1 (c_Mo_look (wM_mk hq1 znm_1 zfr_1 zhs_1 zva_1 ztp_1 zdn_1 zvt zvd ztd (by omega) (by omega))) (q_Mo_look htb ⟨by decide, by decide⟩) (htb _ k_3_60) (htb _ k_3_62) (htb _ k_s_Mo_look) rfl hl.1 rfl (Nat.le_of_ble_eq_true rfl) d_Mo_inside_46 ⟨by decide, by decide⟩ (fun v9 hL H l9 hp9 hG => ?_) (fun _ _ _ _ hp9 _ => by cases hp9.1)
      obtain ⟨hv9, f2, hf2, hw9, hf9⟩ := hp9
      cases hv9
      have zfr9 := frM_tr (frM_up zf0 zmo rfl) hf9
      obtain ⟨zmo, znm, zfr, zhs, zva, ztp, zdn, zvt, zvd, ztd, zg, zy⟩ := hw9
      refine W.eq (g2 := F0 m 49 ls []) rfl ?_
      refine W.widen (k := 0) (n := 0) (by decide) (by decide) ?_
      have hon : m_any (fun j => decide (f2 j = 0)) g = m_any (fun j => decide (v_val nf ff a1 b1 c1 d1 j = 0)) g := m_any_cg (fun j hj => by rw [hf2 j hj])
      have hch : pb_num (fun j => decide (f2 j < 0)) g = pb_num (fun j => decide (v_val nf ff a1 b1 c1 d1 j < 0)) g := pb_congr (fun j hj => by rw [hf2 j hj])
      refine lv_aload_n hx hb d_Mo_inside_49 rfl (lv_at hl 0 rfl) ?_
      refine gh_cV (ci := 5) (As := []) (rest := []) (xF_ok b0) hx hb hml hown hK hX hG rfl zmo (c_Mo_isOnGiven (wM_mk zmo znm zfr zhs zva ztp zdn zvt zvd ztd (by omega) (by omega))) (q_Mo_isOnGiven htb ⟨by decide, by decide⟩) (htb _ k_3_64) (htb _ k_3_66) (htb _ k_s_Mo_isOnGiven) rfl hl.1 rfl (Nat.le_of_ble_eq_true rfl) d_Mo_inside_50 ⟨by decide, by decide⟩ (fun v9 h9 H l9 hp9 hG => ?_) (fun _ _ _ _ hp9 _ => by cases hp9.1)
      obtain ⟨hv9, hh9⟩ := hp9
      cases hv9
      rw [hh9] at hG
      refine W.eq (g2 := F0 m 53 ls [.int (m_b (m_any (fun j => decide (f2 j = 0)) g))]) rfl ?_
      refine W.widen (k := 0) (n := 0) (by decide) (by decide) ?_
      rw [hon]
      refine lv_if_ne (tgt := 83) hx hb d_Mo_inside_53 (by decide) (fun hc53 => ?_) (fun hc53 => ?_)
      · skip
        replace hc53 := mb_1.mp hc53
        refine lv_iconst (v := 2) hx hb d_Mo_inside_83 (by decide) ?_
        exact gh_iret hx hb hr hlk rfl hG d_Mo_inside_84 (rB_0 hc9 (rB_0 (decide_eq_false hc20) ⟨by simp [v_ins, m_b, hc53], f2, (wM_mk zmo znm zfr zhs zva ztp zdn zvt zvd ztd (by omega) (by omega)), zfr9⟩))
      · skip
        replace hc53 := mb_0.mp hc53
        refine lv_iload_n hx hb d_Mo_inside_56 rfl (lv_at hl 1 rfl) ?_
        refine lv_iload hx hb d_Mo_inside_57 (lv_at hl 4 rfl) ?_
        refine gh_cS (As := [.int a1, .int d1]) (rest := []) (xF_ok b0) hx hb hml hown hK hX hG c_Mo_lies (q_Mo_lies htb ⟨by decide, by decide⟩) (htb _ k_3_68) (htb _ k_3_69) rfl hl.1 rfl (Nat.le_of_ble_eq_true rfl) d_Mo_inside_59 ⟨by decide, by decide⟩ (fun v9 h9 H l9 hp9 hG => ?_) (fun _ _ _ _ hp9 _ => by cases hp9.1)
        obtain ⟨hv9, hh9⟩ := hp9
        cases hv9
        rw [hh9] at hG
        refine W.eq (g2 := F0 m 62 ls [.int (v_lies a1 d1)]) rfl ?_
        refine W.widen (k := 0) (n := 0) (by decide) (by decide) ?_
        refine lv_if_eq (tgt := 83) hx hb d_Mo_inside_62 (by decide) (fun hc62 => ?_) (fun hc62 => ?_)
        · skip
          refine lv_iconst (v := 2) hx hb d_Mo_inside_83 (by decide) ?_
          exact gh_iret hx hb hr hlk rfl hG d_Mo_inside_84 (rB_0 hc9 (rB_0 (decide_eq_false hc20) ⟨by simp [v_ins, m_b, hc53, hc62], f2, (wM_mk zmo znm zfr zhs zva ztp zdn zvt zvd ztd (by omega) (by omega)), zfr9⟩))
        · skip
          refine lv_iload_n hx hb d_Mo_inside_65 rfl (lv_at hl 2 rfl) ?_
          refine lv_iload hx hb d_Mo_inside_66 (lv_at hl 4 rfl) ?_
          refine gh_cS (As := [.int b1, .int d1]) (rest := []) (xF_ok b0) hx hb hml hown hK hX hG c_Mo_lies (q_Mo_lies htb ⟨by decide, by decide⟩) (htb _ k_3_68) (htb _ k_3_69) rfl hl.1 rfl (Nat.le_of_ble_eq_true rfl) d_Mo_inside_68 ⟨by decide, by decide⟩ (fun v9 h9 H l9 hp9 hG => ?_) (fun _ _ _ _ hp9 _ => by cases hp9.1)
          obtain ⟨hv9, hh9⟩ := hp9
          cases hv9
          rw [hh9] at hG
          refine W.eq (g2 := F0 m 71 ls [.int (v_lies b1 d1)]) rfl ?_
          refine W.widen (k := 0) (n := 0) (by decide) (by decide) ?_
          refine lv_if_eq (tgt := 83) hx hb d_Mo_inside_71 (by decide) (fun hc71 => ?_) (fun hc71 => ?_)
          · skip
            refine lv_iconst (v := 2) hx hb d_Mo_inside_83 (by decide) ?_
            exact gh_iret hx hb hr hlk rfl hG d_Mo_inside_84 (rB_0 hc9 (rB_0 (decide_eq_false hc20) ⟨by simp [v_ins, m_b, hc53, hc62, hc71], f2, (wM_mk zmo znm zfr zhs zva ztp zdn zvt zvd ztd (by omega) (by omega)), zfr9⟩))
          · skip
            refine lv_iload_n hx hb d_Mo_inside_74 rfl (lv_at hl 3 rfl) ?_
            refine lv_iload hx hb d_Mo_inside_75 (lv_at hl 4 rfl) ?_
            refine gh_cS (As := [.int c1, .int d1]) (rest := []) (xF_ok b0) hx hb hml hown hK hX hG c_Mo_lies (q_Mo_lies htb ⟨by decide, by decide⟩) (htb _ k_3_68) (htb _ k_3_69) rfl hl.1 rfl (Nat.le_of_ble_eq_true rfl) d_Mo_inside_77 ⟨by decide, by decide⟩ (fun v9 h9 H l9 hp9 hG => ?_) (fun _ _ _ _ hp9 _ => by cases hp9.1)
            obtain ⟨hv9, hh9⟩ := hp9
            cases hv9
            rw [hh9] at hG
            refine W.eq (g2 := F0 m 80 ls [.int (v_lies c1 d1)]) rfl ?_
            refine W.widen (k := 0) (n := 0) (by decide) (by decide) ?_
            refine lv_if_ne (tgt := 85) hx hb d_Mo_inside_80 (by decide) (fun hc80 => ?_) (fun hc80 => ?_)
            · skip
              refine lv_iload_n hx hb d_Mo_inside_85 rfl (lv_at hl 1 rfl) ?_
              refine lv_iload hx hb d_Mo_inside_86 (lv_at hl 4 rfl) ?_
              refine gh_cS (As := [.int a1, .int d1]) (rest := []) (xF_ok b0) hx hb hml hown hK hX hG c_Mo_lies (q_Mo_lies htb ⟨by decide, by decide⟩) (htb _ k_3_68) (htb _ k_3_69) rfl hl.1 rfl (Nat.le_of_ble_eq_true rfl) d_Mo_inside_88 ⟨by decide, by decide⟩ (fun v9 h9 H l9 hp9 hG => ?_) (fun _ _ _ _ hp9 _ => by cases hp9.1)
              obtain ⟨hv9, hh9⟩ := hp9
              cases hv9
              rw [hh9] at hG
              refine W.eq (g2 := F0 m 91 ls [.int (v_lies a1 d1)]) rfl ?_
              refine W.widen (k := 0) (n := 0) (by decide) (by decide) ?_
              refine lv_if_le (tgt := 116) hx hb d_Mo_inside_91 (by decide) (fun hc91 => ?_) (fun hc91 => ?_)
              · skip
                refine lv_iconst (v := 0) hx hb d_Mo_inside_116 (by decide) ?_
                refine lv_istore (lv' := [(5, .int 0), (0, .ref mo), (1, .int a1), (2, .int b1), (3, .int c1), (4, .int d1)]) hx hb d_Mo_inside_117 hl (by decide) rfl (fun ls hl => ?_)
                refine lv_iload hx hb d_Mo_inside_119 (lv_at hl 0 rfl) ?_
                refine lv_if_eq (tgt := 139) hx hb d_Mo_inside_121 (by decide) (fun hc121 => ?_) (fun hc121 => absurd hc121 (by decide))
                refine lv_iconst (v := 0) hx hb d_Mo_inside_139 (by decide) ?_
                exact gh_iret hx hb hr hlk rfl hG d_Mo_inside_140 (rB_0 hc9 (rB_0 (decide_eq_false hc20) ⟨by simp [v_ins, m_b, hc53, hc62, hc71, hc80, hc91], f2, (wM_mk zmo znm zfr zhs zva ztp zdn zvt zvd ztd (by omega) (by omega)), zfr9⟩))
              · skip
                refine lv_iload_n hx hb d_Mo_inside_94 rfl (lv_at hl 2 rfl) ?_
                refine lv_iload hx hb d_Mo_inside_95 (lv_at hl 4 rfl) ?_
                refine gh_cS (As := [.int b1, .int d1]) (rest := []) (xF_ok b0) hx hb hml hown hK hX hG c_Mo_lies (q_Mo_lies htb ⟨by decide, by decide⟩) (htb _ k_3_68) (htb _ k_3_69) rfl hl.1 rfl (Nat.le_of_ble_eq_true rfl) d_Mo_inside_97 ⟨by decide, by decide⟩ (fun v9 h9 H l9 hp9 hG => ?_) (fun _ _ _ _ hp9 _ => by cases hp9.1)
                obtain ⟨hv9, hh9⟩ := hp9
                cases hv9
                rw [hh9] at hG
                refine W.eq (g2 := F0 m 100 ls [.int (v_lies b1 d1)]) rfl ?_
                refine W.widen (k := 0) (n := 0) (by decide) (by decide) ?_
                refine lv_if_le (tgt := 116) hx hb d_Mo_inside_100 (by decide) (fun hc100 => ?_) (fun hc100 => ?_)
                · skip
                  refine lv_iconst (v := 0) hx hb d_Mo_inside_116 (by decide) ?_
                  refine lv_istore (lv' := [(5, .int 0), (0, .ref mo), (1, .int a1), (2, .int b1), (3, .int c1), (4, .int d1)]) hx hb d_Mo_inside_117 hl (by decide) rfl (fun ls hl => ?_)
                  refine lv_iload hx hb d_Mo_inside_119 (lv_at hl 0 rfl) ?_
                  refine lv_if_eq (tgt := 139) hx hb d_Mo_inside_121 (by decide) (fun hc121 => ?_) (fun hc121 => absurd hc121 (by decide))
                  refine lv_iconst (v := 0) hx hb d_Mo_inside_139 (by decide) ?_
                  exact gh_iret hx hb hr hlk rfl hG d_Mo_inside_140 (rB_0 hc9 (rB_0 (decide_eq_false hc20) ⟨by simp [v_ins, m_b, hc53, hc62, hc71, hc80, hc91, hc100], f2, (wM_mk zmo znm zfr zhs zva ztp zdn zvt zvd ztd (by omega) (by omega)), zfr9⟩))
                · skip
                  refine lv_iload_n hx hb d_Mo_inside_103 rfl (lv_at hl 3 rfl) ?_
                  refine lv_iload hx hb d_Mo_inside_104 (lv_at hl 4 rfl) ?_
                  refine gh_cS (As := [.int c1, .int d1]) (rest := []) (xF_ok b0) hx hb hml hown hK hX hG c_Mo_lies (q_Mo_lies htb ⟨by decide, by decide⟩) (htb _ k_3_68) (htb _ k_3_69) rfl hl.1 rfl (Nat.le_of_ble_eq_true rfl) d_Mo_inside_106 ⟨by decide, by decide⟩ (fun v9 h9 H l9 hp9 hG => ?_) (fun _ _ _ _ hp9 _ => by cases hp9.1)
                  obtain ⟨hv9, hh9⟩ := hp9
                  cases hv9
                  rw [hh9] at hG
                  refine W.eq (g2 := F0 m 109 ls [.int (v_lies c1 d1)]) rfl ?_
                  refine W.widen (k := 0) (n := 0) (by decide) (by decide) ?_
                  refine lv_if_le (tgt := 116) hx hb d_Mo_inside_109 (by decide) (fun hc109 => ?_) (fun hc109 => ?_)
                  · skip
                    refine lv_iconst (v := 0) hx hb d_Mo_inside_116 (by decide) ?_
                    refine lv_istore (lv' := [(5, .int 0), (0, .ref mo), (1, .int a1), (2, .int b1), (3, .int c1), (4, .int d1)]) hx hb d_Mo_inside_117 hl (by decide) rfl (fun ls hl => ?_)
                    refine lv_iload hx hb d_Mo_inside_119 (lv_at hl 0 rfl) ?_
                    refine lv_if_eq (tgt := 139) hx hb d_Mo_inside_121 (by decide) (fun hc121 => ?_) (fun hc121 => absurd hc121 (by decide))
                    refine lv_iconst (v := 0) hx hb d_Mo_inside_139 (by decide) ?_
                    exact gh_iret hx hb hr hlk rfl hG d_Mo_inside_140 (rB_0 hc9 (rB_0 (decide_eq_false hc20) ⟨by simp [v_ins, m_b, hc53, hc62, hc71, hc80, hc91, hc100, hc109], f2, (wM_mk zmo znm zfr zhs zva ztp zdn zvt zvd ztd (by omega) (by omega)), zfr9⟩))
                  · skip
                    refine lv_iconst (v := 1) hx hb d_Mo_inside_112 (by decide) ?_
                    refine lv_goto (tgt := 117) hx hb d_Mo_inside_113 (by decide) ?_
                    refine lv_istore (lv' := [(5, .int 1), (0, .ref mo), (1, .int a1), (2, .int b1), (3, .int c1), (4, .int d1)]) hx hb d_Mo_inside_117 hl (by decide) rfl (fun ls hl => ?_)
                    refine lv_iload hx hb d_Mo_inside_119 (lv_at hl 0 rfl) ?_
                    refine lv_if_eq (tgt := 139) hx hb d_Mo_inside_121 (by decide) (fun hc121 => absurd hc121 (by decide)) (fun hc121 => ?_)
                    refine lv_aload_n hx hb d_Mo_inside_124 rfl (lv_at hl 1 rfl) ?_
                    refine lv_aload_n hx hb d_Mo_inside_125 rfl (lv_at hl 1 rfl) ?_
                    refine gh_cV (ci := 5) (As := []) (rest := [.ref mo]) (xF_ok b0) hx hb hml hown hK hX hG rfl zmo (c_Mo_choice (wM_mk zmo znm zfr zhs zva ztp zdn zvt zvd ztd (by omega) (by omega))) (q_Mo_choice htb ⟨by decide, by decide⟩) (htb _ k_3_71) (htb _ k_3_73) (htb _ k_s_Mo_choice) rfl hl.1 rfl (Nat.le_of_ble_eq_true rfl) d_Mo_inside_126 ⟨by decide, by decide⟩ (fun v9 h9 H l9 hp9 hG => ?_) (fun _ _ _ _ hp9 _ => by cases hp9.1)
                    obtain ⟨hv9, hh9⟩ := hp9
                    cases hv9
                    rw [hh9] at hG
                    refine W.eq (g2 := F0 m 129 ls [.int (nI (pb_num (fun j => decide (f2 j < 0)) g)), .ref mo]) rfl ?_
                    refine W.widen (k := 0) (n := 0) (by decide) (by decide) ?_
                    rw [hch]
                    refine gh_cV (ci := 5) (As := [.int (nI (pb_num (fun j => decide (v_val nf ff a1 b1 c1 d1 j < 0)) g))]) (rest := []) (xF_ok b0) hx hb hml hown hK hX hG rfl zmo (c_Mo_topHas (wM_mk zmo znm zfr zhs zva ztp zdn zvt zvd ztd (by omega) (by omega)) (by omega) (ce := (pb_num (fun j => decide (v_val nf ff a1 b1 c1 d1 j < 0)) g)) (pb_8 _ zg)) (q_Mo_topHas htb ⟨by decide, by decide⟩) (htb _ k_3_75) (htb _ k_3_77) (htb _ k_s_Mo_topHas) rfl hl.1 rfl (Nat.le_of_ble_eq_true rfl) d_Mo_inside_129 ⟨by decide, by decide⟩ (fun v9 h9 H l9 hp9 hG => ?_) (fun _ _ _ _ hp9 _ => by cases hp9.1)
                    obtain ⟨hv9, hh9⟩ := hp9
                    cases hv9
                    rw [hh9] at hG
                    refine W.eq (g2 := F0 m 132 ls [.int (m_b (v_top hf my (pb_num (fun j => decide (v_val nf ff a1 b1 c1 d1 j < 0)) g)))]) rfl ?_
                    refine W.widen (k := 0) (n := 0) (by decide) (by decide) ?_
                    refine lv_if_eq (tgt := 139) hx hb d_Mo_inside_132 (by decide) (fun hc132 => ?_) (fun hc132 => ?_)
                    · skip
                      replace hc132 := mb_0.mp hc132
                      refine lv_iconst (v := 0) hx hb d_Mo_inside_139 (by decide) ?_
                      exact gh_iret hx hb hr hlk rfl hG d_Mo_inside_140 (rB_0 hc9 (rB_0 (decide_eq_false hc20) ⟨by simp [v_ins, m_b, hc53, hc62, hc71, hc80, hc91, hc100, hc109, hc132], f2, (wM_mk zmo znm zfr zhs zva ztp zdn zvt zvd ztd (by omega) (by omega)), zfr9⟩))
                    · skip
                      replace hc132 := mb_1.mp hc132
                      refine lv_iconst (v := 1) hx hb d_Mo_inside_135 (by decide) ?_
                      refine lv_goto (tgt := 140) hx hb d_Mo_inside_136 (by decide) ?_
                      exact gh_iret hx hb hr hlk rfl hG d_Mo_inside_140 (rB_0 hc9 (rB_0 (decide_eq_false hc20) ⟨by simp [v_ins, m_b, hc53, hc62, hc71, hc80, hc91, hc100, hc109, hc132], f2, (wM_mk zmo znm zfr zhs zva ztp zdn zvt zvd ztd (by omega) (by omega)), zfr9⟩))
            · skip
              refine lv_iconst (v := 2) hx hb d_Mo_inside_83 (by decide) ?_
              exact gh_iret hx hb hr hlk rfl hG d_Mo_inside_84 (rB_0 hc9 (rB_0 (decide_eq_false hc20) ⟨by simp [v_ins, m_b, hc53, hc62, hc71, hc80], f2, (wM_mk zmo znm zfr zhs zva ztp zdn zvt zvd ztd (by omega) (by omega)), zfr9⟩))
    · skip
      replace hc20 : my = 0 := (nc_eq (a := my) (b := 0) (by omega) (by omega) rfl rfl).mp hc20
      refine lv_iconst (v := 2) hx hb d_Mo_inside_23 (by decide) ?_
      refine lv_goto (tgt := 28) hx hb d_Mo_inside_24 (by decide) ?_
      refine gh_put (ci := 5) (ty := .int) hx hb htb in_Mo t_Mo ty_Mo nm_Mo hown hK hG zmo rfl 0 (by decide) (htb _ k_2_223) (fun _ h9 => h9) rfl (by decide +kernel) rfl rfl (Nat.le_of_ble_eq_true rfl) d_Mo_inside_28 (fun H l9 hG => ?_)
      have hq2 : (gh_up h mo (.inr (5, [.int 2, .int (nI g), .ref nm, .ref fr, .int (nI my), .ref hs, .ref va, .ref tp, .ref dn]))) mo = some (.inr (5, [.int 2, .int (nI g), .ref nm, .ref fr, .int (nI my), .ref hs, .ref va, .ref tp, .ref dn])) := gh_self _ _ _
      replace hG : gh_P D vC b0 (gh_up h mo (.inr (5, [.int 2, .int (nI g), .ref nm, .ref fr, .int (nI my), .ref hs, .ref va, .ref tp, .ref dn]))) s.heap _ _ := hG
      have znm_2 : (gh_up h mo (.inr (5, [.int 2, .int (nI g), .ref nm, .ref fr, .int (nI my), .ref hs, .ref va, .ref tp, .ref dn]))) nm = some (.inl (cI, 24, .inl nf)) := gh_keep zmo znm (by simp)
      have zfr_2 : (gh_up h mo (.inr (5, [.int 2, .int (nI g), .ref nm, .ref fr, .int (nI my), .ref hs, .ref va, .ref tp, .ref dn]))) fr = some (.inl (cI, 8, .inl ff)) := gh_keep zmo zfr (by simp)
      have zhs_2 : (gh_up h mo (.inr (5, [.int 2, .int (nI g), .ref nm, .ref fr, .int (nI my), .ref hs, .ref va, .ref tp, .ref dn]))) hs = some (.inl (cJ, 24, .inr (.inl hf))) := gh_keep zmo zhs (by simp)
      have zva_2 : (gh_up h mo (.inr (5, [.int 2, .int (nI g), .ref nm, .ref fr, .int (nI my), .ref hs, .ref va, .ref tp, .ref dn]))) va = some (.inl (cJ, 8, .inr (.inl vf))) := gh_keep zmo zva (by simp)
      have ztp_2 : (gh_up h mo (.inr (5, [.int 2, .int (nI g), .ref nm, .ref fr, .int (nI my), .ref hs, .ref va, .ref tp, .ref dn]))) tp = some (.inl (cJ, 8, .inr (.inl tf))) := gh_keep zmo ztp (by simp)
      have zdn_2 : (gh_up h mo (.inr (5, [.int 2, .int (nI g), .ref nm, .ref fr, .int (nI my), .ref hs, .ref va, .ref tp, .ref dn]))) dn = some (.inl (cJ, 8, .inr (.inl df))) := gh_keep zmo zdn (by simp)
      refine lv_aload_n hx hb d_Mo_inside_31 rfl (lv_at hl 0 rfl) ?_
      refine gh_get (ci := 5) hx hb htb in_Mo hown hK hG hq2 rfl 0 (by decide) (htb _ k_2_223) (fun _ h9 => h9) rfl d_Mo_inside_32 ?_
      refine lv_if_le (tgt := 40) hx hb d_Mo_inside_35 (by decide) (fun hc35 => absurd hc35 (by decide)) (fun hc35 => ?_)
      refine lv_iconst (v := 0) hx hb d_Mo_inside_38 (by decide) ?_
      exact gh_iret hx hb hr hlk rfl hG d_Mo_inside_39 (rB_0 hc9 (rB_1 (decide_eq_true hc20) ⟨rfl, (wM_mk hq2 znm_2 zfr_2 zhs_2 zva_2 ztp_2 zdn_2 zvt zvd ztd (by omega) (by omega)), (frM_up zf0 zmo rfl)⟩))
  · skip
    replace hc9 := mb_n0.mp hc9
    refine lv_iconst (v := 1) hx hb d_Mo_inside_12 (by decide) ?_
    refine lv_goto (tgt := 28) hx hb d_Mo_inside_13 (by decide) ?_
    refine gh_put (ci := 5) (ty := .int) hx hb htb in_Mo t_Mo ty_Mo nm_Mo hown hK hG zmo rfl 0 (by decide) (htb _ k_2_223) (fun _ h9 => h9) rfl (by decide +kernel) rfl rfl (Nat.le_of_ble_eq_true rfl) d_Mo_inside_28 (fun H l9 hG => ?_)
    have hq3 : (gh_up h mo (.inr (5, [.int 1, .int (nI g), .ref nm, .ref fr, .int (nI my), .ref hs, .ref va, .ref tp, .ref dn]))) mo = some (.inr (5, [.int 1, .int (nI g), .ref nm, .ref fr, .int (nI my), .ref hs, .ref va, .ref tp, .ref dn])) := gh_self _ _ _
    replace hG : gh_P D vC b0 (gh_up h mo (.inr (5, [.int 1, .int (nI g), .ref nm, .ref fr, .int (nI my), .ref hs, .ref va, .ref tp, .ref dn]))) s.heap _ _ := hG
    have znm_3 : (gh_up h mo (.inr (5, [.int 1, .int (nI g), .ref nm, .ref fr, .int (nI my), .ref hs, .ref va, .ref tp, .ref dn]))) nm = some (.inl (cI, 24, .inl nf)) := gh_keep zmo znm (by simp)
    have zfr_3 : (gh_up h mo (.inr (5, [.int 1, .int (nI g), .ref nm, .ref fr, .int (nI my), .ref hs, .ref va, .ref tp, .ref dn]))) fr = some (.inl (cI, 8, .inl ff)) := gh_keep zmo zfr (by simp)
    have zhs_3 : (gh_up h mo (.inr (5, [.int 1, .int (nI g), .ref nm, .ref fr, .int (nI my), .ref hs, .ref va, .ref tp, .ref dn]))) hs = some (.inl (cJ, 24, .inr (.inl hf))) := gh_keep zmo zhs (by simp)
    have zva_3 : (gh_up h mo (.inr (5, [.int 1, .int (nI g), .ref nm, .ref fr, .int (nI my), .ref hs, .ref va, .ref tp, .ref dn]))) va = some (.inl (cJ, 8, .inr (.inl vf))) := gh_keep zmo zva (by simp)
    have ztp_3 : (gh_up h mo (.inr (5, [.int 1, .int (nI g), .ref nm, .ref fr, .int (nI my), .ref hs, .ref va, .ref tp, .ref dn]))) tp = some (.inl (cJ, 8, .inr (.inl tf))) := gh_keep zmo ztp (by simp)
    have zdn_3 : (gh_up h mo (.inr (5, [.int 1, .int (nI g), .ref nm, .ref fr, .int (nI my), .ref hs, .ref va, .ref tp, .ref dn]))) dn = some (.inl (cJ, 8, .inr (.inl df))) := gh_keep zmo zdn (by simp)
    refine lv_aload_n hx hb d_Mo_inside_31 rfl (lv_at hl 0 rfl) ?_
    refine gh_get (ci := 5) hx hb htb in_Mo hown hK hG hq3 rfl 0 (by decide) (htb _ k_2_223) (fun _ h9 => h9) rfl d_Mo_inside_32 ?_
    refine lv_if_le (tgt := 40) hx hb d_Mo_inside_35 (by decide) (fun hc35 => absurd hc35 (by decide)) (fun hc35 => ?_)
    refine lv_iconst (v := 0) hx hb d_Mo_inside_38 (by decide) ?_
    exact gh_iret hx hb hr hlk rfl hG d_Mo_inside_39 (rB_1 hc9 ⟨rfl, (wM_mk hq3 znm_3 zfr_3 zhs_3 zva_3 ztp_3 zdn_3 zvt zvd ztd (by omega) (by omega)), (frM_up zf0 zmo rfl)⟩)

set_option maxHeartbeats 4000000 in
set_option maxRecDepth 100000 in
/-- alike -/
theorem c_Mo_alike {mo nm fr hs va tp dn g my : Nat} {th : Int32} {nf ff : Nat → Int32} {hf vf tf df : Nat → Int64} (hW : wM cI cJ h mo nm fr hs va tp dn th g my nf ff hf vf tf df) {p1 q1 : Nat} (hp : p1 < 8 ∨ (10 ≤ p1 ∧ p1 < 16)) (hq : q1 < 8 ∨ (10 ≤ q1 ∧ q1 < 16)) : gh_C l D vC (tZ cI cJ cP cS) (xF b0) b0 y_Mo_alike w_Mo_alike ({ frames := 1, cells := 0, slots := 0, locals := 24 }) [.ref mo, .int (nI p1), .int (nI q1)] h (rI (v_alike nf p1 q1) h) := by
  refine gh_ofW (by decide) (Nat.le_of_ble_eq_true rfl) ?_
  intro p e s m below meth c ls hctx hno hl hG hK hX
  obtain ⟨hx, hb, hr, hml, hown, hlk, hts, hnm⟩ := hctx
  have htb : ∀ w ∈ tB, w.before _ s = true := fun w hw => hts w (List.mem_cons_of_mem _ hw)
  replace hl : lv_has ls 9 [(0, .ref mo), (1, .int (nI p1)), (2, .int (nI q1))] := hl
  obtain ⟨zmo, znm, zfr, zhs, zva, ztp, zdn, zvt, zvd, ztd, zg, zy⟩ := hW
  have zf0 : frM h h := frM_rf h
  refine lv_iconst (v := 1) hx hb d_Mo_alike_0 (by decide) ?_
  refine lv_istore_n (lv' := [(3, .int 1), (0, .ref mo), (1, .int (nI p1)), (2, .int (nI q1))]) hx hb d_Mo_alike_1 rfl hl (by decide) rfl (fun ls hl => ?_)
  refine lv_iconst (v := 0) hx hb d_Mo_alike_2 (by decide) ?_
  refine lv_istore (lv' := [(4, .int 0), (3, .int 1), (0, .ref mo), (1, .int (nI p1)), (2, .int (nI q1))]) hx hb d_Mo_alike_3 hl (by decide) rfl (fun ls hl => ?_)
  refine lv_iconst (v := 0) hx hb d_Mo_alike_5 (by decide) ?_
  refine lv_istore (lv' := [(5, .int 0), (4, .int 0), (3, .int 1), (0, .ref mo), (1, .int (nI p1)), (2, .int (nI q1))]) hx hb d_Mo_alike_6 hl (by decide) rfl (fun ls hl => ?_)
  refine gh_gen hG (fun H l9 hG => ?_)
  refine lp_upH (α := Bool × Int32) (G := fun ls H l9 => W p l e _ s m _ below meth c H l9 _ _ _ (F0 m 8 ls [])) 3 (fun k acc ls H l9 => (acc.1 = v_same nf p1 q1 k ∧ acc.2 = v_sign nf p1 q1 k) ∧ lv_has ls 9 [(0, .ref mo), (1, .int (nI p1)), (2, .int (nI q1)), (3, .int (m_b acc.1)), (4, .int acc.2), (5, .int (nI k))] ∧ gh_P D vC b0 h s.heap H l9) ?_ 0 (true, 0) ls H l9 (Nat.zero_le _) ⟨⟨rfl, rfl⟩, (lv_sub hl [3, 4, 5, 2, 1, 0] rfl), hG⟩
  intro k acc ls H l9 hk hI ih
  obtain ⟨hi1, hl, hG⟩ := hI
  refine lv_iload hx hb d_Mo_alike_8 (lv_at hl 5 rfl) ?_
  refine lv_iconst (v := 3) hx hb d_Mo_alike_10 (by decide) ?_
  refine lv_icmp_ge (tgt := 129) hx hb d_Mo_alike_11 (by decide) (fun hc11 => ?_) (fun hc11 => ?_)
  · skip
    replace hc11 : 3 ≤ k := (nc_le (a := 3) (b := k) (by omega) (by omega) rfl rfl).mp hc11
    refine lv_iload_n hx hb d_Mo_alike_129 rfl (lv_at hl 3 rfl) ?_
    refine lv_if_eq (tgt := 138) hx hb d_Mo_alike_130 (by decide) (fun hc130 => ?_) (fun hc130 => ?_)
    · skip
      replace hc130 := mb_0.mp hc130
      refine lv_iconst (v := 0) hx hb d_Mo_alike_138 (by decide) ?_
      have hk3 : k = 3 := by omega
      subst hk3
      exact gh_iret hx hb hr hlk rfl hG d_Mo_alike_139 (⟨by unfold v_alike; rw [← hi1.1, ← hi1.2, hc130]; rfl, rfl⟩)
    · skip
      replace hc130 := mb_1.mp hc130
      refine lv_iload hx hb d_Mo_alike_133 (lv_at hl 4 rfl) ?_
      refine lv_goto (tgt := 139) hx hb d_Mo_alike_135 (by decide) ?_
      have hk3 : k = 3 := by omega
      subst hk3
      exact gh_iret hx hb hr hlk rfl hG d_Mo_alike_139 (⟨by unfold v_alike; rw [← hi1.1, ← hi1.2, hc130]; rfl, rfl⟩)
  · skip
    replace hc11 : ¬ 3 ≤ k := fun q9 => hc11 ((nc_le (a := 3) (b := k) (by omega) (by omega) rfl rfl).mpr q9)
    refine lv_iload hx hb d_Mo_alike_14 (lv_at hl 5 rfl) ?_
    refine lv_iconst (v := 2) hx hb d_Mo_alike_16 (by decide) ?_
    refine lv_icmp_ne (tgt := 24) hx hb d_Mo_alike_17 (by decide) (fun hc17 => ?_) (fun hc17 => ?_)
    · skip
      replace hc17 : ¬ k = 2 := fun q9 => hc17 ((nc_eq (a := k) (b := 2) (by omega) (by omega) rfl rfl).mpr q9)
      refine lv_iload hx hb d_Mo_alike_24 (lv_at hl 5 rfl) ?_
      refine lv_iconst (v := 1) hx hb d_Mo_alike_26 (by decide) ?_
      refine lv_iadd hx hb d_Mo_alike_27 ?_
      rw [show nI k + 1 = nI (k + 1) from nI_1 k]
      refine lv_istore (lv' := [(6, .int (nI (k + 1))), (0, .ref mo), (1, .int (nI p1)), (2, .int (nI q1)), (3, .int (m_b acc.1)), (4, .int acc.2), (5, .int (nI k))]) hx hb d_Mo_alike_28 hl (by decide) rfl (fun ls hl => ?_)
      refine lv_iload_n hx hb d_Mo_alike_30 rfl (lv_at hl 4 rfl) ?_
      refine lv_if_eq (tgt := 76) hx hb d_Mo_alike_31 (by decide) (fun hc31 => ?_) (fun hc31 => ?_)
      · skip
        replace hc31 := mb_0.mp hc31
        refine lv_iconst (v := 0) hx hb d_Mo_alike_76 (by decide) ?_
        refine lv_istore_n (lv' := [(3, .int 0), (6, .int (nI (k + 1))), (0, .ref mo), (1, .int (nI p1)), (2, .int (nI q1)), (4, .int acc.2), (5, .int (nI k))]) hx hb d_Mo_alike_77 rfl hl (by decide) rfl (fun ls hl => ?_)
        refine lv_aload_n hx hb d_Mo_alike_78 rfl (lv_at hl 2 rfl) ?_
        refine lv_iload_n hx hb d_Mo_alike_79 rfl (lv_at hl 3 rfl) ?_
        refine lv_iload hx hb d_Mo_alike_80 (lv_at hl 6 rfl) ?_
        refine gh_cV (ci := 5) (As := [.int (nI p1), .int (nI k)]) (rest := []) (xF_ok b0) hx hb hml hown hK hX hG rfl zmo (c_Mo_normal (wM_mk zmo znm zfr zhs zva ztp zdn zvt zvd ztd (by omega) (by omega)) (pl := p1) (i := k) (by omega) (by omega)) (q_Mo_normal htb ⟨by decide, by decide⟩) (htb _ k_3_91) (htb _ k_3_93) (htb _ k_s_Mo_normal) rfl hl.1 rfl (Nat.le_of_ble_eq_true rfl) d_Mo_alike_82 ⟨by decide, by decide⟩ (fun v9 h9 H l9 hp9 hG => ?_) (fun _ _ _ _ hp9 _ => by cases hp9.1)
        obtain ⟨hv9, hh9⟩ := hp9
        cases hv9
        rw [hh9] at hG
        refine W.eq (g2 := F0 m 85 ls [.int (v_nor nf p1 k)]) rfl ?_
        refine W.widen (k := 0) (n := 0) (by decide) (by decide) ?_
        refine lv_i2l (v := Int32.toInt64 (v_nor nf p1 k)) hx hb d_Mo_alike_85 rfl ?_
        refine lv_aload_n hx hb d_Mo_alike_86 rfl (lv_at hl 2 rfl) ?_
        refine lv_iload_n hx hb d_Mo_alike_87 rfl (lv_at hl 4 rfl) ?_
        refine lv_iload hx hb d_Mo_alike_88 (lv_at hl 6 rfl) ?_
        refine gh_cV (ci := 5) (As := [.int (nI q1), .int (nI k)]) (rest := [.long (Int32.toInt64 (v_nor nf p1 k))]) (xF_ok b0) hx hb hml hown hK hX hG rfl zmo (c_Mo_normal (wM_mk zmo znm zfr zhs zva ztp zdn zvt zvd ztd (by omega) (by omega)) (pl := q1) (i := k) (by omega) (by omega)) (q_Mo_normal htb ⟨by decide, by decide⟩) (htb _ k_3_91) (htb _ k_3_93) (htb _ k_s_Mo_normal) rfl hl.1 rfl (Nat.le_of_ble_eq_true rfl) d_Mo_alike_90 ⟨by decide, by decide⟩ (fun v9 h9 H l9 hp9 hG => ?_) (fun _ _ _ _ hp9 _ => by cases hp9.1)
        obtain ⟨hv9, hh9⟩ := hp9
        cases hv9
        rw [hh9] at hG
        refine W.eq (g2 := F0 m 93 ls [.int (v_nor nf q1 k), .long (Int32.toInt64 (v_nor nf p1 k))]) rfl ?_
        refine W.widen (k := 0) (n := 0) (by decide) (by decide) ?_
        refine lv_i2l (v := Int32.toInt64 (v_nor nf q1 k)) hx hb d_Mo_alike_93 rfl ?_
        refine lv_lmul hx hb d_Mo_alike_94 ?_
        refine lv_lstore (lv' := [(7, .long ((Int32.toInt64 (v_nor nf p1 k)) * (Int32.toInt64 (v_nor nf q1 k)))), (3, .int 0), (6, .int (nI (k + 1))), (0, .ref mo), (1, .int (nI p1)), (2, .int (nI q1)), (4, .int acc.2), (5, .int (nI k))]) hx hb d_Mo_alike_95 hl (by decide) rfl (fun ls hl => ?_)
        refine lv_lload hx hb d_Mo_alike_97 (lv_at hl 0 rfl) ?_
        refine lv_lconst (v := 0) hx hb d_Mo_alike_99 (by decide) ?_
        refine W.lcmp hx hb d_Mo_alike_100 ?_
        refine lv_if_le (tgt := 108) hx hb d_Mo_alike_101 (by decide) (fun hc101 => ?_) (fun hc101 => ?_)
        · skip
          rw [lg_cmp_le] at hc101
          refine lv_lload hx hb d_Mo_alike_108 (lv_at hl 0 rfl) ?_
          refine lv_lconst (v := 0) hx hb d_Mo_alike_110 (by decide) ?_
          refine W.lcmp hx hb d_Mo_alike_111 ?_
          refine lv_if_ge (tgt := 119) hx hb d_Mo_alike_112 (by decide) (fun hc112 => ?_) (fun hc112 => ?_)
          · skip
            rw [lg_cmp_ge] at hc112
            refine lv_iload hx hb d_Mo_alike_119 (lv_at hl 6 rfl) ?_
            refine lv_istore (lv' := [(4, .int acc.2), (7, .long ((Int32.toInt64 (v_nor nf p1 k)) * (Int32.toInt64 (v_nor nf q1 k)))), (3, .int 0), (6, .int (nI (k + 1))), (0, .ref mo), (1, .int (nI p1)), (2, .int (nI q1)), (5, .int (nI k))]) hx hb d_Mo_alike_121 hl (by decide) rfl (fun ls hl => ?_)
            refine lv_iinc (k := 7) (v := nI (k + 1)) (lv' := [(5, .int (nI (k + 1))), (4, .int acc.2), (7, .long ((Int32.toInt64 (v_nor nf p1 k)) * (Int32.toInt64 (v_nor nf q1 k)))), (3, .int 0), (6, .int (nI (k + 1))), (0, .ref mo), (1, .int (nI p1)), (2, .int (nI q1))]) hx hb d_Mo_alike_123 hl rfl (nI_1 k) (by decide) rfl (fun ls hl => ?_)
            refine lv_goto (tgt := 8) hx hb d_Mo_alike_126 (by decide) ?_
            have hnx : v_nx k = k + 1 := by unfold v_nx; rw [if_neg hc17]
            exact ih (false, acc.2) ls H l9 (by omega) ⟨⟨by show _ = (v_same nf p1 q1 k && _); rw [← hi1.1, hc31]; rfl, by show _ = (if _ then _ else _); rw [if_pos (show v_a nf p1 k * v_a nf q1 k ≤ 0 from hc101), if_pos (show 0 ≤ v_a nf p1 k * v_a nf q1 k from hc112)]; exact hi1.2⟩, (lv_sub hl [5, 6, 7, 3, 1, 0] rfl), hG⟩
          · skip
            rw [lg_cmp_ge] at hc112
            refine lv_iconst (v := (-1)) hx hb d_Mo_alike_115 (by decide) ?_
            refine lv_goto (tgt := 121) hx hb d_Mo_alike_116 (by decide) ?_
            refine lv_istore (lv' := [(4, .int (-1)), (7, .long ((Int32.toInt64 (v_nor nf p1 k)) * (Int32.toInt64 (v_nor nf q1 k)))), (3, .int 0), (6, .int (nI (k + 1))), (0, .ref mo), (1, .int (nI p1)), (2, .int (nI q1)), (5, .int (nI k))]) hx hb d_Mo_alike_121 hl (by decide) rfl (fun ls hl => ?_)
            refine lv_iinc (k := 7) (v := nI (k + 1)) (lv' := [(5, .int (nI (k + 1))), (4, .int (-1)), (7, .long ((Int32.toInt64 (v_nor nf p1 k)) * (Int32.toInt64 (v_nor nf q1 k)))), (3, .int 0), (6, .int (nI (k + 1))), (0, .ref mo), (1, .int (nI p1)), (2, .int (nI q1))]) hx hb d_Mo_alike_123 hl rfl (nI_1 k) (by decide) rfl (fun ls hl => ?_)
            refine lv_goto (tgt := 8) hx hb d_Mo_alike_126 (by decide) ?_
            have hnx : v_nx k = k + 1 := by unfold v_nx; rw [if_neg hc17]
            exact ih (false, (-1)) ls H l9 (by omega) ⟨⟨by show _ = (v_same nf p1 q1 k && _); rw [← hi1.1, hc31]; rfl, by show _ = (if _ then _ else _); rw [if_pos (show v_a nf p1 k * v_a nf q1 k ≤ 0 from hc101), if_neg (show ¬ 0 ≤ v_a nf p1 k * v_a nf q1 k from hc112)]⟩, (lv_sub hl [5, 6, 7, 3, 1, 0] rfl), hG⟩
        · skip
          rw [lg_cmp_le] at hc101
          refine lv_iconst (v := 1) hx hb d_Mo_alike_104 (by decide) ?_
          refine lv_goto (tgt := 121) hx hb d_Mo_alike_105 (by decide) ?_
          refine lv_istore (lv' := [(4, .int 1), (7, .long ((Int32.toInt64 (v_nor nf p1 k)) * (Int32.toInt64 (v_nor nf q1 k)))), (3, .int 0), (6, .int (nI (k + 1))), (0, .ref mo), (1, .int (nI p1)), (2, .int (nI q1)), (5, .int (nI k))]) hx hb d_Mo_alike_121 hl (by decide) rfl (fun ls hl => ?_)
          refine lv_iinc (k := 7) (v := nI (k + 1)) (lv' := [(5, .int (nI (k + 1))), (4, .int 1), (7, .long ((Int32.toInt64 (v_nor nf p1 k)) * (Int32.toInt64 (v_nor nf q1 k)))), (3, .int 0), (6, .int (nI (k + 1))), (0, .ref mo), (1, .int (nI p1)), (2, .int (nI q1))]) hx hb d_Mo_alike_123 hl rfl (nI_1 k) (by decide) rfl (fun ls hl => ?_)
          refine lv_goto (tgt := 8) hx hb d_Mo_alike_126 (by decide) ?_
          have hnx : v_nx k = k + 1 := by unfold v_nx; rw [if_neg hc17]
          exact ih (false, 1) ls H l9 (by omega) ⟨⟨by show _ = (v_same nf p1 q1 k && _); rw [← hi1.1, hc31]; rfl, by show _ = (if _ then _ else _); rw [if_neg (show ¬ v_a nf p1 k * v_a nf q1 k ≤ 0 from hc101)]⟩, (lv_sub hl [5, 6, 7, 3, 1, 0] rfl), hG⟩
      · skip
        replace hc31 := mb_1.mp hc31
        refine lv_aload_n hx hb d_Mo_alike_34 rfl (lv_at hl 1 rfl) ?_
        refine lv_iload_n hx hb d_Mo_alike_35 rfl (lv_at hl 2 rfl) ?_
        refine lv_iload hx hb d_Mo_alike_36 (lv_at hl 6 rfl) ?_
        refine gh_cV (ci := 5) (As := [.int (nI p1), .int (nI k)]) (rest := []) (xF_ok b0) hx hb hml hown hK hX hG rfl zmo (c_Mo_normal (wM_mk zmo znm zfr zhs zva ztp zdn zvt zvd ztd (by omega) (by omega)) (pl := p1) (i := k) (by omega) (by omega)) (q_Mo_normal htb ⟨by decide, by decide⟩) (htb _ k_3_91) (htb _ k_3_93) (htb _ k_s_Mo_normal) rfl hl.1 rfl (Nat.le_of_ble_eq_true rfl) d_Mo_alike_38 ⟨by decide, by decide⟩ (fun v9 h9 H l9 hp9 hG => ?_) (fun _ _ _ _ hp9 _ => by cases hp9.1)
        obtain ⟨hv9, hh9⟩ := hp9
        cases hv9
        rw [hh9] at hG
        refine W.eq (g2 := F0 m 41 ls [.int (v_nor nf p1 k)]) rfl ?_
        refine W.widen (k := 0) (n := 0) (by decide) (by decide) ?_
        refine lv_i2l (v := Int32.toInt64 (v_nor nf p1 k)) hx hb d_Mo_alike_41 rfl ?_
        refine lv_aload_n hx hb d_Mo_alike_42 rfl (lv_at hl 1 rfl) ?_
        refine lv_iload_n hx hb d_Mo_alike_43 rfl (lv_at hl 3 rfl) ?_
        refine lv_iload hx hb d_Mo_alike_44 (lv_at hl 0 rfl) ?_
        refine gh_cV (ci := 5) (As := [.int (nI q1), .int (nI (k + 1))]) (rest := [.long (Int32.toInt64 (v_nor nf p1 k))]) (xF_ok b0) hx hb hml hown hK hX hG rfl zmo (c_Mo_normal (wM_mk zmo znm zfr zhs zva ztp zdn zvt zvd ztd (by omega) (by omega)) (pl := q1) (i := (k + 1)) (by omega) (by omega)) (q_Mo_normal htb ⟨by decide, by decide⟩) (htb _ k_3_91) (htb _ k_3_93) (htb _ k_s_Mo_normal) rfl hl.1 rfl (Nat.le_of_ble_eq_true rfl) d_Mo_alike_46 ⟨by decide, by decide⟩ (fun v9 h9 H l9 hp9 hG => ?_) (fun _ _ _ _ hp9 _ => by cases hp9.1)
        obtain ⟨hv9, hh9⟩ := hp9
        cases hv9
        rw [hh9] at hG
        refine W.eq (g2 := F0 m 49 ls [.int (v_nor nf q1 (k + 1)), .long (Int32.toInt64 (v_nor nf p1 k))]) rfl ?_
        refine W.widen (k := 0) (n := 0) (by decide) (by decide) ?_
        refine lv_i2l (v := Int32.toInt64 (v_nor nf q1 (k + 1))) hx hb d_Mo_alike_49 rfl ?_
        refine lv_lmul hx hb d_Mo_alike_50 ?_
        refine lv_aload_n hx hb d_Mo_alike_51 rfl (lv_at hl 1 rfl) ?_
        refine lv_iload_n hx hb d_Mo_alike_52 rfl (lv_at hl 2 rfl) ?_
        refine lv_iload hx hb d_Mo_alike_53 (lv_at hl 0 rfl) ?_
        refine gh_cV (ci := 5) (As := [.int (nI p1), .int (nI (k + 1))]) (rest := [.long ((Int32.toInt64 (v_nor nf p1 k)) * (Int32.toInt64 (v_nor nf q1 (k + 1))))]) (xF_ok b0) hx hb hml hown hK hX hG rfl zmo (c_Mo_normal (wM_mk zmo znm zfr zhs zva ztp zdn zvt zvd ztd (by omega) (by omega)) (pl := p1) (i := (k + 1)) (by omega) (by omega)) (q_Mo_normal htb ⟨by decide, by decide⟩) (htb _ k_3_91) (htb _ k_3_93) (htb _ k_s_Mo_normal) rfl hl.1 rfl (Nat.le_of_ble_eq_true rfl) d_Mo_alike_55 ⟨by decide, by decide⟩ (fun v9 h9 H l9 hp9 hG => ?_) (fun _ _ _ _ hp9 _ => by cases hp9.1)
        obtain ⟨hv9, hh9⟩ := hp9
        cases hv9
        rw [hh9] at hG
        refine W.eq (g2 := F0 m 58 ls [.int (v_nor nf p1 (k + 1)), .long ((Int32.toInt64 (v_nor nf p1 k)) * (Int32.toInt64 (v_nor nf q1 (k + 1))))]) rfl ?_
        refine W.widen (k := 0) (n := 0) (by decide) (by decide) ?_
        refine lv_i2l (v := Int32.toInt64 (v_nor nf p1 (k + 1))) hx hb d_Mo_alike_58 rfl ?_
        refine lv_aload_n hx hb d_Mo_alike_59 rfl (lv_at hl 1 rfl) ?_
        refine lv_iload_n hx hb d_Mo_alike_60 rfl (lv_at hl 3 rfl) ?_
        refine lv_iload hx hb d_Mo_alike_61 (lv_at hl 6 rfl) ?_
        refine gh_cV (ci := 5) (As := [.int (nI q1), .int (nI k)]) (rest := [.long (Int32.toInt64 (v_nor nf p1 (k + 1))), .long ((Int32.toInt64 (v_nor nf p1 k)) * (Int32.toInt64 (v_nor nf q1 (k + 1))))]) (xF_ok b0) hx hb hml hown hK hX hG rfl zmo (c_Mo_normal (wM_mk zmo znm zfr zhs zva ztp zdn zvt zvd ztd (by omega) (by omega)) (pl := q1) (i := k) (by omega) (by omega)) (q_Mo_normal htb ⟨by decide, by decide⟩) (htb _ k_3_91) (htb _ k_3_93) (htb _ k_s_Mo_normal) rfl hl.1 rfl (Nat.le_of_ble_eq_true rfl) d_Mo_alike_63 ⟨by decide, by decide⟩ (fun v9 h9 H l9 hp9 hG => ?_) (fun _ _ _ _ hp9 _ => by cases hp9.1)
        obtain ⟨hv9, hh9⟩ := hp9
        cases hv9
        rw [hh9] at hG
        refine W.eq (g2 := F0 m 66 ls [.int (v_nor nf q1 k), .long (Int32.toInt64 (v_nor nf p1 (k + 1))), .long ((Int32.toInt64 (v_nor nf p1 k)) * (Int32.toInt64 (v_nor nf q1 (k + 1))))]) rfl ?_
        refine W.widen (k := 0) (n := 0) (by decide) (by decide) ?_
        refine lv_i2l (v := Int32.toInt64 (v_nor nf q1 k)) hx hb d_Mo_alike_66 rfl ?_
        refine lv_lmul hx hb d_Mo_alike_67 ?_
        refine W.lcmp hx hb d_Mo_alike_68 ?_
        refine lv_if_ne (tgt := 76) hx hb d_Mo_alike_69 (by decide) (fun hc69 => ?_) (fun hc69 => ?_)
        · skip
          rw [lg_cmp_eq] at hc69
          refine lv_iconst (v := 0) hx hb d_Mo_alike_76 (by decide) ?_
          refine lv_istore_n (lv' := [(3, .int 0), (6, .int (nI (k + 1))), (0, .ref mo), (1, .int (nI p1)), (2, .int (nI q1)), (4, .int acc.2), (5, .int (nI k))]) hx hb d_Mo_alike_77 rfl hl (by decide) rfl (fun ls hl => ?_)
          refine lv_aload_n hx hb d_Mo_alike_78 rfl (lv_at hl 2 rfl) ?_
          refine lv_iload_n hx hb d_Mo_alike_79 rfl (lv_at hl 3 rfl) ?_
          refine lv_iload hx hb d_Mo_alike_80 (lv_at hl 6 rfl) ?_
          refine gh_cV (ci := 5) (As := [.int (nI p1), .int (nI k)]) (rest := []) (xF_ok b0) hx hb hml hown hK hX hG rfl zmo (c_Mo_normal (wM_mk zmo znm zfr zhs zva ztp zdn zvt zvd ztd (by omega) (by omega)) (pl := p1) (i := k) (by omega) (by omega)) (q_Mo_normal htb ⟨by decide, by decide⟩) (htb _ k_3_91) (htb _ k_3_93) (htb _ k_s_Mo_normal) rfl hl.1 rfl (Nat.le_of_ble_eq_true rfl) d_Mo_alike_82 ⟨by decide, by decide⟩ (fun v9 h9 H l9 hp9 hG => ?_) (fun _ _ _ _ hp9 _ => by cases hp9.1)
          obtain ⟨hv9, hh9⟩ := hp9
          cases hv9
          rw [hh9] at hG
          refine W.eq (g2 := F0 m 85 ls [.int (v_nor nf p1 k)]) rfl ?_
          refine W.widen (k := 0) (n := 0) (by decide) (by decide) ?_
          refine lv_i2l (v := Int32.toInt64 (v_nor nf p1 k)) hx hb d_Mo_alike_85 rfl ?_
          refine lv_aload_n hx hb d_Mo_alike_86 rfl (lv_at hl 2 rfl) ?_
          refine lv_iload_n hx hb d_Mo_alike_87 rfl (lv_at hl 4 rfl) ?_
          refine lv_iload hx hb d_Mo_alike_88 (lv_at hl 6 rfl) ?_
          refine gh_cV (ci := 5) (As := [.int (nI q1), .int (nI k)]) (rest := [.long (Int32.toInt64 (v_nor nf p1 k))]) (xF_ok b0) hx hb hml hown hK hX hG rfl zmo (c_Mo_normal (wM_mk zmo znm zfr zhs zva ztp zdn zvt zvd ztd (by omega) (by omega)) (pl := q1) (i := k) (by omega) (by omega)) (q_Mo_normal htb ⟨by decide, by decide⟩) (htb _ k_3_91) (htb _ k_3_93) (htb _ k_s_Mo_normal) rfl hl.1 rfl (Nat.le_of_ble_eq_true rfl) d_Mo_alike_90 ⟨by decide, by decide⟩ (fun v9 h9 H l9 hp9 hG => ?_) (fun _ _ _ _ hp9 _ => by cases hp9.1)
          obtain ⟨hv9, hh9⟩ := hp9
          cases hv9
          rw [hh9] at hG
          refine W.eq (g2 := F0 m 93 ls [.int (v_nor nf q1 k), .long (Int32.toInt64 (v_nor nf p1 k))]) rfl ?_
          refine W.widen (k := 0) (n := 0) (by decide) (by decide) ?_
          refine lv_i2l (v := Int32.toInt64 (v_nor nf q1 k)) hx hb d_Mo_alike_93 rfl ?_
          refine lv_lmul hx hb d_Mo_alike_94 ?_
          refine lv_lstore (lv' := [(7, .long ((Int32.toInt64 (v_nor nf p1 k)) * (Int32.toInt64 (v_nor nf q1 k)))), (3, .int 0), (6, .int (nI (k + 1))), (0, .ref mo), (1, .int (nI p1)), (2, .int (nI q1)), (4, .int acc.2), (5, .int (nI k))]) hx hb d_Mo_alike_95 hl (by decide) rfl (fun ls hl => ?_)
          refine lv_lload hx hb d_Mo_alike_97 (lv_at hl 0 rfl) ?_
          refine lv_lconst (v := 0) hx hb d_Mo_alike_99 (by decide) ?_
          refine W.lcmp hx hb d_Mo_alike_100 ?_
          refine lv_if_le (tgt := 108) hx hb d_Mo_alike_101 (by decide) (fun hc101 => ?_) (fun hc101 => ?_)
          · skip
            rw [lg_cmp_le] at hc101
            refine lv_lload hx hb d_Mo_alike_108 (lv_at hl 0 rfl) ?_
            refine lv_lconst (v := 0) hx hb d_Mo_alike_110 (by decide) ?_
            refine W.lcmp hx hb d_Mo_alike_111 ?_
            refine lv_if_ge (tgt := 119) hx hb d_Mo_alike_112 (by decide) (fun hc112 => ?_) (fun hc112 => ?_)
            · skip
              rw [lg_cmp_ge] at hc112
              refine lv_iload hx hb d_Mo_alike_119 (lv_at hl 6 rfl) ?_
              refine lv_istore (lv' := [(4, .int acc.2), (7, .long ((Int32.toInt64 (v_nor nf p1 k)) * (Int32.toInt64 (v_nor nf q1 k)))), (3, .int 0), (6, .int (nI (k + 1))), (0, .ref mo), (1, .int (nI p1)), (2, .int (nI q1)), (5, .int (nI k))]) hx hb d_Mo_alike_121 hl (by decide) rfl (fun ls hl => ?_)
              refine lv_iinc (k := 7) (v := nI (k + 1)) (lv' := [(5, .int (nI (k + 1))), (4, .int acc.2), (7, .long ((Int32.toInt64 (v_nor nf p1 k)) * (Int32.toInt64 (v_nor nf q1 k)))), (3, .int 0), (6, .int (nI (k + 1))), (0, .ref mo), (1, .int (nI p1)), (2, .int (nI q1))]) hx hb d_Mo_alike_123 hl rfl (nI_1 k) (by decide) rfl (fun ls hl => ?_)
              refine lv_goto (tgt := 8) hx hb d_Mo_alike_126 (by decide) ?_
              have hnx : v_nx k = k + 1 := by unfold v_nx; rw [if_neg hc17]
              exact ih (false, acc.2) ls H l9 (by omega) ⟨⟨by show _ = (v_same nf p1 q1 k && _); rw [← hi1.1, hc31, hnx]; exact (decide_eq_false hc69).symm, by show _ = (if _ then _ else _); rw [if_pos (show v_a nf p1 k * v_a nf q1 k ≤ 0 from hc101), if_pos (show 0 ≤ v_a nf p1 k * v_a nf q1 k from hc112)]; exact hi1.2⟩, (lv_sub hl [5, 6, 7, 3, 1, 0] rfl), hG⟩
            · skip
              rw [lg_cmp_ge] at hc112
              refine lv_iconst (v := (-1)) hx hb d_Mo_alike_115 (by decide) ?_
              refine lv_goto (tgt := 121) hx hb d_Mo_alike_116 (by decide) ?_
              refine lv_istore (lv' := [(4, .int (-1)), (7, .long ((Int32.toInt64 (v_nor nf p1 k)) * (Int32.toInt64 (v_nor nf q1 k)))), (3, .int 0), (6, .int (nI (k + 1))), (0, .ref mo), (1, .int (nI p1)), (2, .int (nI q1)), (5, .int (nI k))]) hx hb d_Mo_alike_121 hl (by decide) rfl (fun ls hl => ?_)
              refine lv_iinc (k := 7) (v := nI (k + 1)) (lv' := [(5, .int (nI (k + 1))), (4, .int (-1)), (7, .long ((Int32.toInt64 (v_nor nf p1 k)) * (Int32.toInt64 (v_nor nf q1 k)))), (3, .int 0), (6, .int (nI (k + 1))), (0, .ref mo), (1, .int (nI p1)), (2, .int (nI q1))]) hx hb d_Mo_alike_123 hl rfl (nI_1 k) (by decide) rfl (fun ls hl => ?_)
              refine lv_goto (tgt := 8) hx hb d_Mo_alike_126 (by decide) ?_
              have hnx : v_nx k = k + 1 := by unfold v_nx; rw [if_neg hc17]
              exact ih (false, (-1)) ls H l9 (by omega) ⟨⟨by show _ = (v_same nf p1 q1 k && _); rw [← hi1.1, hc31, hnx]; exact (decide_eq_false hc69).symm, by show _ = (if _ then _ else _); rw [if_pos (show v_a nf p1 k * v_a nf q1 k ≤ 0 from hc101), if_neg (show ¬ 0 ≤ v_a nf p1 k * v_a nf q1 k from hc112)]⟩, (lv_sub hl [5, 6, 7, 3, 1, 0] rfl), hG⟩
          · skip
            rw [lg_cmp_le] at hc101
            refine lv_iconst (v := 1) hx hb d_Mo_alike_104 (by decide) ?_
            refine lv_goto (tgt := 121) hx hb d_Mo_alike_105 (by decide) ?_
            refine lv_istore (lv' := [(4, .int 1), (7, .long ((Int32.toInt64 (v_nor nf p1 k)) * (Int32.toInt64 (v_nor nf q1 k)))), (3, .int 0), (6, .int (nI (k + 1))), (0, .ref mo), (1, .int (nI p1)), (2, .int (nI q1)), (5, .int (nI k))]) hx hb d_Mo_alike_121 hl (by decide) rfl (fun ls hl => ?_)
            refine lv_iinc (k := 7) (v := nI (k + 1)) (lv' := [(5, .int (nI (k + 1))), (4, .int 1), (7, .long ((Int32.toInt64 (v_nor nf p1 k)) * (Int32.toInt64 (v_nor nf q1 k)))), (3, .int 0), (6, .int (nI (k + 1))), (0, .ref mo), (1, .int (nI p1)), (2, .int (nI q1))]) hx hb d_Mo_alike_123 hl rfl (nI_1 k) (by decide) rfl (fun ls hl => ?_)
            refine lv_goto (tgt := 8) hx hb d_Mo_alike_126 (by decide) ?_
            have hnx : v_nx k = k + 1 := by unfold v_nx; rw [if_neg hc17]
            exact ih (false, 1) ls H l9 (by omega) ⟨⟨by show _ = (v_same nf p1 q1 k && _); rw [← hi1.1, hc31, hnx]; exact (decide_eq_false hc69).symm, by show _ = (if _ then _ else _); rw [if_neg (show ¬ v_a nf p1 k * v_a nf q1 k ≤ 0 from hc101)]⟩, (lv_sub hl [5, 6, 7, 3, 1, 0] rfl), hG⟩
        · skip
          rw [lg_cmp_eq] at hc69
          refine lv_iconst (v := 1) hx hb d_Mo_alike_72 (by decide) ?_
          refine lv_goto (tgt := 77) hx hb d_Mo_alike_73 (by decide) ?_
          refine lv_istore_n (lv' := [(3, .int 1), (6, .int (nI (k + 1))), (0, .ref mo), (1, .int (nI p1)), (2, .int (nI q1)), (4, .int acc.2), (5, .int (nI k))]) hx hb d_Mo_alike_77 rfl hl (by decide) rfl (fun ls hl => ?_)
          refine lv_aload_n hx hb d_Mo_alike_78 rfl (lv_at hl 2 rfl) ?_
          refine lv_iload_n hx hb d_Mo_alike_79 rfl (lv_at hl 3 rfl) ?_
          refine lv_iload hx hb d_Mo_alike_80 (lv_at hl 6 rfl) ?_
          refine gh_cV (ci := 5) (As := [.int (nI p1), .int (nI k)]) (rest := []) (xF_ok b0) hx hb hml hown hK hX hG rfl zmo (c_Mo_normal (wM_mk zmo znm zfr zhs zva ztp zdn zvt zvd ztd (by omega) (by omega)) (pl := p1) (i := k) (by omega) (by omega)) (q_Mo_normal htb ⟨by decide, by decide⟩) (htb _ k_3_91) (htb _ k_3_93) (htb _ k_s_Mo_normal) rfl hl.1 rfl (Nat.le_of_ble_eq_true rfl) d_Mo_alike_82 ⟨by decide, by decide⟩ (fun v9 h9 H l9 hp9 hG => ?_) (fun _ _ _ _ hp9 _ => by cases hp9.1)
          obtain ⟨hv9, hh9⟩ := hp9
          cases hv9
          rw [hh9] at hG
          refine W.eq (g2 := F0 m 85 ls [.int (v_nor nf p1 k)]) rfl ?_
          refine W.widen (k := 0) (n := 0) (by decide) (by decide) ?_
          refine lv_i2l (v := Int32.toInt64 (v_nor nf p1 k)) hx hb d_Mo_alike_85 rfl ?_
          refine lv_aload_n hx hb d_Mo_alike_86 rfl (lv_at hl 2 rfl) ?_
          refine lv_iload_n hx hb d_Mo_alike_87 rfl (lv_at hl 4 rfl) ?_
          refine lv_iload hx hb d_Mo_alike_88 (lv_at hl 6 rfl) ?_
          refine gh_cV (ci := 5) (As := [.int (nI q1), .int (nI k)]) (rest := [.long (Int32.toInt64 (v_nor nf p1 k))]) (xF_ok b0) hx hb hml hown hK hX hG rfl zmo (c_Mo_normal (wM_mk zmo znm zfr zhs zva ztp zdn zvt zvd ztd (by omega) (by omega)) (pl := q1) (i := k) (by omega) (by omega)) (q_Mo_normal htb ⟨by decide, by decide⟩) (htb _ k_3_91) (htb _ k_3_93) (htb _ k_s_Mo_normal) rfl hl.1 rfl (Nat.le_of_ble_eq_true rfl) d_Mo_alike_90 ⟨by decide, by decide⟩ (fun v9 h9 H l9 hp9 hG => ?_) (fun _ _ _ _ hp9 _ => by cases hp9.1)
          obtain ⟨hv9, hh9⟩ := hp9
          cases hv9
          rw [hh9] at hG
          refine W.eq (g2 := F0 m 93 ls [.int (v_nor nf q1 k), .long (Int32.toInt64 (v_nor nf p1 k))]) rfl ?_
          refine W.widen (k := 0) (n := 0) (by decide) (by decide) ?_
          refine lv_i2l (v := Int32.toInt64 (v_nor nf q1 k)) hx hb d_Mo_alike_93 rfl ?_
          refine lv_lmul hx hb d_Mo_alike_94 ?_
          refine lv_lstore (lv' := [(7, .long ((Int32.toInt64 (v_nor nf p1 k)) * (Int32.toInt64 (v_nor nf q1 k)))), (3, .int 1), (6, .int (nI (k + 1))), (0, .ref mo), (1, .int (nI p1)), (2, .int (nI q1)), (4, .int acc.2), (5, .int (nI k))]) hx hb d_Mo_alike_95 hl (by decide) rfl (fun ls hl => ?_)
          refine lv_lload hx hb d_Mo_alike_97 (lv_at hl 0 rfl) ?_
          refine lv_lconst (v := 0) hx hb d_Mo_alike_99 (by decide) ?_
          refine W.lcmp hx hb d_Mo_alike_100 ?_
          refine lv_if_le (tgt := 108) hx hb d_Mo_alike_101 (by decide) (fun hc101 => ?_) (fun hc101 => ?_)
          · skip
            rw [lg_cmp_le] at hc101
            refine lv_lload hx hb d_Mo_alike_108 (lv_at hl 0 rfl) ?_
            refine lv_lconst (v := 0) hx hb d_Mo_alike_110 (by decide) ?_
            refine W.lcmp hx hb d_Mo_alike_111 ?_
            refine lv_if_ge (tgt := 119) hx hb d_Mo_alike_112 (by decide) (fun hc112 => ?_) (fun hc112 => ?_)
            · skip
              rw [lg_cmp_ge] at hc112
              refine lv_iload hx hb d_Mo_alike_119 (lv_at hl 6 rfl) ?_
              refine lv_istore (lv' := [(4, .int acc.2), (7, .long ((Int32.toInt64 (v_nor nf p1 k)) * (Int32.toInt64 (v_nor nf q1 k)))), (3, .int 1), (6, .int (nI (k + 1))), (0, .ref mo), (1, .int (nI p1)), (2, .int (nI q1)), (5, .int (nI k))]) hx hb d_Mo_alike_121 hl (by decide) rfl (fun ls hl => ?_)
              refine lv_iinc (k := 7) (v := nI (k + 1)) (lv' := [(5, .int (nI (k + 1))), (4, .int acc.2), (7, .long ((Int32.toInt64 (v_nor nf p1 k)) * (Int32.toInt64 (v_nor nf q1 k)))), (3, .int 1), (6, .int (nI (k + 1))), (0, .ref mo), (1, .int (nI p1)), (2, .int (nI q1))]) hx hb d_Mo_alike_123 hl rfl (nI_1 k) (by decide) rfl (fun ls hl => ?_)
              refine lv_goto (tgt := 8) hx hb d_Mo_alike_126 (by decide) ?_
              have hnx : v_nx k = k + 1 := by unfold v_nx; rw [if_neg hc17]
              exact ih (true, acc.2) ls H l9 (by omega) ⟨⟨by show _ = (v_same nf p1 q1 k && _); rw [← hi1.1, hc31, hnx]; exact (decide_eq_true hc69).symm, by show _ = (if _ then _ else _); rw [if_pos (show v_a nf p1 k * v_a nf q1 k ≤ 0 from hc101), if_pos (show 0 ≤ v_a nf p1 k * v_a nf q1 k from hc112)]; exact hi1.2⟩, (lv_sub hl [5, 6, 7, 3, 1, 0] rfl), hG⟩
            · skip
              rw [lg_cmp_ge] at hc112
              refine lv_iconst (v := (-1)) hx hb d_Mo_alike_115 (by decide) ?_
              refine lv_goto (tgt := 121) hx hb d_Mo_alike_116 (by decide) ?_
              refine lv_istore (lv' := [(4, .int (-1)), (7, .long ((Int32.toInt64 (v_nor nf p1 k)) * (Int32.toInt64 (v_nor nf q1 k)))), (3, .int 1), (6, .int (nI (k + 1))), (0, .ref mo), (1, .int (nI p1)), (2, .int (nI q1)), (5, .int (nI k))]) hx hb d_Mo_alike_121 hl (by decide) rfl (fun ls hl => ?_)
              refine lv_iinc (k := 7) (v := nI (k + 1)) (lv' := [(5, .int (nI (k + 1))), (4, .int (-1)), (7, .long ((Int32.toInt64 (v_nor nf p1 k)) * (Int32.toInt64 (v_nor nf q1 k)))), (3, .int 1), (6, .int (nI (k + 1))), (0, .ref mo), (1, .int (nI p1)), (2, .int (nI q1))]) hx hb d_Mo_alike_123 hl rfl (nI_1 k) (by decide) rfl (fun ls hl => ?_)
              refine lv_goto (tgt := 8) hx hb d_Mo_alike_126 (by decide) ?_
              have hnx : v_nx k = k + 1 := by unfold v_nx; rw [if_neg hc17]
              exact ih (true, (-1)) ls H l9 (by omega) ⟨⟨by show _ = (v_same nf p1 q1 k && _); rw [← hi1.1, hc31, hnx]; exact (decide_eq_true hc69).symm, by show _ = (if _ then _ else _); rw [if_pos (show v_a nf p1 k * v_a nf q1 k ≤ 0 from hc101), if_neg (show ¬ 0 ≤ v_a nf p1 k * v_a nf q1 k from hc112)]⟩, (lv_sub hl [5, 6, 7, 3, 1, 0] rfl), hG⟩
          · skip
            rw [lg_cmp_le] at hc101
            refine lv_iconst (v := 1) hx hb d_Mo_alike_104 (by decide) ?_
            refine lv_goto (tgt := 121) hx hb d_Mo_alike_105 (by decide) ?_
            refine lv_istore (lv' := [(4, .int 1), (7, .long ((Int32.toInt64 (v_nor nf p1 k)) * (Int32.toInt64 (v_nor nf q1 k)))), (3, .int 1), (6, .int (nI (k + 1))), (0, .ref mo), (1, .int (nI p1)), (2, .int (nI q1)), (5, .int (nI k))]) hx hb d_Mo_alike_121 hl (by decide) rfl (fun ls hl => ?_)
            refine lv_iinc (k := 7) (v := nI (k + 1)) (lv' := [(5, .int (nI (k + 1))), (4, .int 1), (7, .long ((Int32.toInt64 (v_nor nf p1 k)) * (Int32.toInt64 (v_nor nf q1 k)))), (3, .int 1), (6, .int (nI (k + 1))), (0, .ref mo), (1, .int (nI p1)), (2, .int (nI q1))]) hx hb d_Mo_alike_123 hl rfl (nI_1 k) (by decide) rfl (fun ls hl => ?_)
            refine lv_goto (tgt := 8) hx hb d_Mo_alike_126 (by decide) ?_
            have hnx : v_nx k = k + 1 := by unfold v_nx; rw [if_neg hc17]
            exact ih (true, 1) ls H l9 (by omega) ⟨⟨by show _ = (v_same nf p1 q1 k && _); rw [← hi1.1, hc31, hnx]; exact (decide_eq_true hc69).symm, by show _ = (if _ then _ else _); rw [if_neg (show ¬ v_a nf p1 k * v_a nf q1 k ≤ 0 from hc101)]⟩, (lv_sub hl [5, 6, 7, 3, 1, 0] rfl), hG⟩
    · skip
      replace hc17 : k = 2 := (nc_eq (a := k) (b := 2) (by omega) (by omega) rfl rfl).mp hc17
      refine lv_iconst (v := 0) hx hb d_Mo_alike_20 (by decide) ?_
      refine lv_goto (tgt := 28) hx hb d_Mo_alike_21 (by decide) ?_
      refine lv_istore (lv' := [(6, .int 0), (0, .ref mo), (1, .int (nI p1)), (2, .int (nI q1)), (3, .int (m_b acc.1)), (4, .int acc.2), (5, .int (nI k))]) hx hb d_Mo_alike_28 hl (by decide) rfl (fun ls hl => ?_)
      refine lv_iload_n hx hb d_Mo_alike_30 rfl (lv_at hl 4 rfl) ?_
      refine lv_if_eq (tgt := 76) hx hb d_Mo_alike_31 (by decide) (fun hc31 => ?_) (fun hc31 => ?_)
      · skip
        replace hc31 := mb_0.mp hc31
        refine lv_iconst (v := 0) hx hb d_Mo_alike_76 (by decide) ?_
        refine lv_istore_n (lv' := [(3, .int 0), (6, .int 0), (0, .ref mo), (1, .int (nI p1)), (2, .int (nI q1)), (4, .int acc.2), (5, .int (nI k))]) hx hb d_Mo_alike_77 rfl hl (by decide) rfl (fun ls hl => ?_)
        refine lv_aload_n hx hb d_Mo_alike_78 rfl (lv_at hl 2 rfl) ?_
        refine lv_iload_n hx hb d_Mo_alike_79 rfl (lv_at hl 3 rfl) ?_
        refine lv_iload hx hb d_Mo_alike_80 (lv_at hl 6 rfl) ?_
        refine gh_cV (ci := 5) (As := [.int (nI p1), .int (nI k)]) (rest := []) (xF_ok b0) hx hb hml hown hK hX hG rfl zmo (c_Mo_normal (wM_mk zmo znm zfr zhs zva ztp zdn zvt zvd ztd (by omega) (by omega)) (pl := p1) (i := k) (by omega) (by omega)) (q_Mo_normal htb ⟨by decide, by decide⟩) (htb _ k_3_91) (htb _ k_3_93) (htb _ k_s_Mo_normal) rfl hl.1 rfl (Nat.le_of_ble_eq_true rfl) d_Mo_alike_82 ⟨by decide, by decide⟩ (fun v9 h9 H l9 hp9 hG => ?_) (fun _ _ _ _ hp9 _ => by cases hp9.1)
        obtain ⟨hv9, hh9⟩ := hp9
        cases hv9
        rw [hh9] at hG
        refine W.eq (g2 := F0 m 85 ls [.int (v_nor nf p1 k)]) rfl ?_
        refine W.widen (k := 0) (n := 0) (by decide) (by decide) ?_
        refine lv_i2l (v := Int32.toInt64 (v_nor nf p1 k)) hx hb d_Mo_alike_85 rfl ?_
        refine lv_aload_n hx hb d_Mo_alike_86 rfl (lv_at hl 2 rfl) ?_
        refine lv_iload_n hx hb d_Mo_alike_87 rfl (lv_at hl 4 rfl) ?_
        refine lv_iload hx hb d_Mo_alike_88 (lv_at hl 6 rfl) ?_
        refine gh_cV (ci := 5) (As := [.int (nI q1), .int (nI k)]) (rest := [.long (Int32.toInt64 (v_nor nf p1 k))]) (xF_ok b0) hx hb hml hown hK hX hG rfl zmo (c_Mo_normal (wM_mk zmo znm zfr zhs zva ztp zdn zvt zvd ztd (by omega) (by omega)) (pl := q1) (i := k) (by omega) (by omega)) (q_Mo_normal htb ⟨by decide, by decide⟩) (htb _ k_3_91) (htb _ k_3_93) (htb _ k_s_Mo_normal) rfl hl.1 rfl (Nat.le_of_ble_eq_true rfl) d_Mo_alike_90 ⟨by decide, by decide⟩ (fun v9 h9 H l9 hp9 hG => ?_) (fun _ _ _ _ hp9 _ => by cases hp9.1)
        obtain ⟨hv9, hh9⟩ := hp9
        cases hv9
        rw [hh9] at hG
        refine W.eq (g2 := F0 m 93 ls [.int (v_nor nf q1 k), .long (Int32.toInt64 (v_nor nf p1 k))]) rfl ?_
        refine W.widen (k := 0) (n := 0) (by decide) (by decide) ?_
        refine lv_i2l (v := Int32.toInt64 (v_nor nf q1 k)) hx hb d_Mo_alike_93 rfl ?_
        refine lv_lmul hx hb d_Mo_alike_94 ?_
        refine lv_lstore (lv' := [(7, .long ((Int32.toInt64 (v_nor nf p1 k)) * (Int32.toInt64 (v_nor nf q1 k)))), (3, .int 0), (6, .int 0), (0, .ref mo), (1, .int (nI p1)), (2, .int (nI q1)), (4, .int acc.2), (5, .int (nI k))]) hx hb d_Mo_alike_95 hl (by decide) rfl (fun ls hl => ?_)
        refine lv_lload hx hb d_Mo_alike_97 (lv_at hl 0 rfl) ?_
        refine lv_lconst (v := 0) hx hb d_Mo_alike_99 (by decide) ?_
        refine W.lcmp hx hb d_Mo_alike_100 ?_
        refine lv_if_le (tgt := 108) hx hb d_Mo_alike_101 (by decide) (fun hc101 => ?_) (fun hc101 => ?_)
        · skip
          rw [lg_cmp_le] at hc101
          refine lv_lload hx hb d_Mo_alike_108 (lv_at hl 0 rfl) ?_
          refine lv_lconst (v := 0) hx hb d_Mo_alike_110 (by decide) ?_
          refine W.lcmp hx hb d_Mo_alike_111 ?_
          refine lv_if_ge (tgt := 119) hx hb d_Mo_alike_112 (by decide) (fun hc112 => ?_) (fun hc112 => ?_)
          · skip
            rw [lg_cmp_ge] at hc112
            refine lv_iload hx hb d_Mo_alike_119 (lv_at hl 6 rfl) ?_
            refine lv_istore (lv' := [(4, .int acc.2), (7, .long ((Int32.toInt64 (v_nor nf p1 k)) * (Int32.toInt64 (v_nor nf q1 k)))), (3, .int 0), (6, .int 0), (0, .ref mo), (1, .int (nI p1)), (2, .int (nI q1)), (5, .int (nI k))]) hx hb d_Mo_alike_121 hl (by decide) rfl (fun ls hl => ?_)
            refine lv_iinc (k := 7) (v := nI (k + 1)) (lv' := [(5, .int (nI (k + 1))), (4, .int acc.2), (7, .long ((Int32.toInt64 (v_nor nf p1 k)) * (Int32.toInt64 (v_nor nf q1 k)))), (3, .int 0), (6, .int 0), (0, .ref mo), (1, .int (nI p1)), (2, .int (nI q1))]) hx hb d_Mo_alike_123 hl rfl (nI_1 k) (by decide) rfl (fun ls hl => ?_)
            refine lv_goto (tgt := 8) hx hb d_Mo_alike_126 (by decide) ?_
            have hnx : v_nx k = 0 := by unfold v_nx; rw [if_pos hc17]
            exact ih (false, acc.2) ls H l9 (by omega) ⟨⟨by show _ = (v_same nf p1 q1 k && _); rw [← hi1.1, hc31]; rfl, by show _ = (if _ then _ else _); rw [if_pos (show v_a nf p1 k * v_a nf q1 k ≤ 0 from hc101), if_pos (show 0 ≤ v_a nf p1 k * v_a nf q1 k from hc112)]; exact hi1.2⟩, (lv_sub hl [5, 6, 7, 3, 1, 0] rfl), hG⟩
          · skip
            rw [lg_cmp_ge] at hc112
            refine lv_iconst (v := (-1)) hx hb d_Mo_alike_115 (by decide) ?_
            refine lv_goto (tgt := 121) hx hb d_Mo_alike_116 (by decide) ?_
            refine lv_istore (lv' := [(4, .int (-1)), (7, .long ((Int32.toInt64 (v_nor nf p1 k)) * (Int32.toInt64 (v_nor nf q1 k)))), (3, .int 0), (6, .int 0), (0, .ref mo), (1, .int (nI p1)), (2, .int (nI q1)), (5, .int (nI k))]) hx hb d_Mo_alike_121 hl (by decide) rfl (fun ls hl => ?_)
            refine lv_iinc (k := 7) (v := nI (k + 1)) (lv' := [(5, .int (nI (k + 1))), (4, .int (-1)), (7, .long ((Int32.toInt64 (v_nor nf p1 k)) * (Int32.toInt64 (v_nor nf q1 k)))), (3, .int 0), (6, .int 0), (0, .ref mo), (1, .int (nI p1)), (2, .int (nI q1))]) hx hb d_Mo_alike_123 hl rfl (nI_1 k) (by decide) rfl (fun ls hl => ?_)
            refine lv_goto (tgt := 8) hx hb d_Mo_alike_126 (by decide) ?_
            have hnx : v_nx k = 0 := by unfold v_nx; rw [if_pos hc17]
            exact ih (false, (-1)) ls H l9 (by omega) ⟨⟨by show _ = (v_same nf p1 q1 k && _); rw [← hi1.1, hc31]; rfl, by show _ = (if _ then _ else _); rw [if_pos (show v_a nf p1 k * v_a nf q1 k ≤ 0 from hc101), if_neg (show ¬ 0 ≤ v_a nf p1 k * v_a nf q1 k from hc112)]⟩, (lv_sub hl [5, 6, 7, 3, 1, 0] rfl), hG⟩
        · skip
          rw [lg_cmp_le] at hc101
          refine lv_iconst (v := 1) hx hb d_Mo_alike_104 (by decide) ?_
          refine lv_goto (tgt := 121) hx hb d_Mo_alike_105 (by decide) ?_
          refine lv_istore (lv' := [(4, .int 1), (7, .long ((Int32.toInt64 (v_nor nf p1 k)) * (Int32.toInt64 (v_nor nf q1 k)))), (3, .int 0), (6, .int 0), (0, .ref mo), (1, .int (nI p1)), (2, .int (nI q1)), (5, .int (nI k))]) hx hb d_Mo_alike_121 hl (by decide) rfl (fun ls hl => ?_)
          refine lv_iinc (k := 7) (v := nI (k + 1)) (lv' := [(5, .int (nI (k + 1))), (4, .int 1), (7, .long ((Int32.toInt64 (v_nor nf p1 k)) * (Int32.toInt64 (v_nor nf q1 k)))), (3, .int 0), (6, .int 0), (0, .ref mo), (1, .int (nI p1)), (2, .int (nI q1))]) hx hb d_Mo_alike_123 hl rfl (nI_1 k) (by decide) rfl (fun ls hl => ?_)
          refine lv_goto (tgt := 8) hx hb d_Mo_alike_126 (by decide) ?_
          have hnx : v_nx k = 0 := by unfold v_nx; rw [if_pos hc17]
          exact ih (false, 1) ls H l9 (by omega) ⟨⟨by show _ = (v_same nf p1 q1 k && _); rw [← hi1.1, hc31]; rfl, by show _ = (if _ then _ else _); rw [if_neg (show ¬ v_a nf p1 k * v_a nf q1 k ≤ 0 from hc101)]⟩, (lv_sub hl [5, 6, 7, 3, 1, 0] rfl), hG⟩
      · skip
        replace hc31 := mb_1.mp hc31
        refine lv_aload_n hx hb d_Mo_alike_34 rfl (lv_at hl 1 rfl) ?_
        refine lv_iload_n hx hb d_Mo_alike_35 rfl (lv_at hl 2 rfl) ?_
        refine lv_iload hx hb d_Mo_alike_36 (lv_at hl 6 rfl) ?_
        refine gh_cV (ci := 5) (As := [.int (nI p1), .int (nI k)]) (rest := []) (xF_ok b0) hx hb hml hown hK hX hG rfl zmo (c_Mo_normal (wM_mk zmo znm zfr zhs zva ztp zdn zvt zvd ztd (by omega) (by omega)) (pl := p1) (i := k) (by omega) (by omega)) (q_Mo_normal htb ⟨by decide, by decide⟩) (htb _ k_3_91) (htb _ k_3_93) (htb _ k_s_Mo_normal) rfl hl.1 rfl (Nat.le_of_ble_eq_true rfl) d_Mo_alike_38 ⟨by decide, by decide⟩ (fun v9 h9 H l9 hp9 hG => ?_) (fun _ _ _ _ hp9 _ => by cases hp9.1)
        obtain ⟨hv9, hh9⟩ := hp9
        cases hv9
        rw [hh9] at hG
        refine W.eq (g2 := F0 m 41 ls [.int (v_nor nf p1 k)]) rfl ?_
        refine W.widen (k := 0) (n := 0) (by decide) (by decide) ?_
        refine lv_i2l (v := Int32.toInt64 (v_nor nf p1 k)) hx hb d_Mo_alike_41 rfl ?_
        refine lv_aload_n hx hb d_Mo_alike_42 rfl (lv_at hl 1 rfl) ?_
        refine lv_iload_n hx hb d_Mo_alike_43 rfl (lv_at hl 3 rfl) ?_
        refine lv_iload hx hb d_Mo_alike_44 (lv_at hl 0 rfl) ?_
        refine gh_cV (ci := 5) (As := [.int (nI q1), .int 0]) (rest := [.long (Int32.toInt64 (v_nor nf p1 k))]) (xF_ok b0) hx hb hml hown hK hX hG rfl zmo (c_Mo_normal (wM_mk zmo znm zfr zhs zva ztp zdn zvt zvd ztd (by omega) (by omega)) (pl := q1) (i := 0) (by omega) (by omega)) (q_Mo_normal htb ⟨by decide, by decide⟩) (htb _ k_3_91) (htb _ k_3_93) (htb _ k_s_Mo_normal) rfl hl.1 rfl (Nat.le_of_ble_eq_true rfl) d_Mo_alike_46 ⟨by decide, by decide⟩ (fun v9 h9 H l9 hp9 hG => ?_) (fun _ _ _ _ hp9 _ => by cases hp9.1)
        obtain ⟨hv9, hh9⟩ := hp9
        cases hv9
        rw [hh9] at hG
        refine W.eq (g2 := F0 m 49 ls [.int (v_nor nf q1 0), .long (Int32.toInt64 (v_nor nf p1 k))]) rfl ?_
        refine W.widen (k := 0) (n := 0) (by decide) (by decide) ?_
        refine lv_i2l (v := Int32.toInt64 (v_nor nf q1 0)) hx hb d_Mo_alike_49 rfl ?_
        refine lv_lmul hx hb d_Mo_alike_50 ?_
        refine lv_aload_n hx hb d_Mo_alike_51 rfl (lv_at hl 1 rfl) ?_
        refine lv_iload_n hx hb d_Mo_alike_52 rfl (lv_at hl 2 rfl) ?_
        refine lv_iload hx hb d_Mo_alike_53 (lv_at hl 0 rfl) ?_
        refine gh_cV (ci := 5) (As := [.int (nI p1), .int 0]) (rest := [.long ((Int32.toInt64 (v_nor nf p1 k)) * (Int32.toInt64 (v_nor nf q1 0)))]) (xF_ok b0) hx hb hml hown hK hX hG rfl zmo (c_Mo_normal (wM_mk zmo znm zfr zhs zva ztp zdn zvt zvd ztd (by omega) (by omega)) (pl := p1) (i := 0) (by omega) (by omega)) (q_Mo_normal htb ⟨by decide, by decide⟩) (htb _ k_3_91) (htb _ k_3_93) (htb _ k_s_Mo_normal) rfl hl.1 rfl (Nat.le_of_ble_eq_true rfl) d_Mo_alike_55 ⟨by decide, by decide⟩ (fun v9 h9 H l9 hp9 hG => ?_) (fun _ _ _ _ hp9 _ => by cases hp9.1)
        obtain ⟨hv9, hh9⟩ := hp9
        cases hv9
        rw [hh9] at hG
        refine W.eq (g2 := F0 m 58 ls [.int (v_nor nf p1 0), .long ((Int32.toInt64 (v_nor nf p1 k)) * (Int32.toInt64 (v_nor nf q1 0)))]) rfl ?_
        refine W.widen (k := 0) (n := 0) (by decide) (by decide) ?_
        refine lv_i2l (v := Int32.toInt64 (v_nor nf p1 0)) hx hb d_Mo_alike_58 rfl ?_
        refine lv_aload_n hx hb d_Mo_alike_59 rfl (lv_at hl 1 rfl) ?_
        refine lv_iload_n hx hb d_Mo_alike_60 rfl (lv_at hl 3 rfl) ?_
        refine lv_iload hx hb d_Mo_alike_61 (lv_at hl 6 rfl) ?_
        refine gh_cV (ci := 5) (As := [.int (nI q1), .int (nI k)]) (rest := [.long (Int32.toInt64 (v_nor nf p1 0)), .long ((Int32.toInt64 (v_nor nf p1 k)) * (Int32.toInt64 (v_nor nf q1 0)))]) (xF_ok b0) hx hb hml hown hK hX hG rfl zmo (c_Mo_normal (wM_mk zmo znm zfr zhs zva ztp zdn zvt zvd ztd (by omega) (by omega)) (pl := q1) (i := k) (by omega) (by omega)) (q_Mo_normal htb ⟨by decide, by decide⟩) (htb _ k_3_91) (htb _ k_3_93) (htb _ k_s_Mo_normal) rfl hl.1 rfl (Nat.le_of_ble_eq_true rfl) d_Mo_alike_63 ⟨by decide, by decide⟩ (fun v9 h9 H l9 hp9 hG => ?_) (fun _ _ _ _ hp9 _ => by cases hp9.1)
        obtain ⟨hv9, hh9⟩ := hp9
        cases hv9
        rw [hh9] at hG
        refine W.eq (g2 := F0 m 66 ls [.int (v_nor nf q1 k), .long (Int32.toInt64 (v_nor nf p1 0)), .long ((Int32.toInt64 (v_nor nf p1 k)) * (Int32.toInt64 (v_nor nf q1 0)))]) rfl ?_
        refine W.widen (k := 0) (n := 0) (by decide) (by decide) ?_
        refine lv_i2l (v := Int32.toInt64 (v_nor nf q1 k)) hx hb d_Mo_alike_66 rfl ?_
        refine lv_lmul hx hb d_Mo_alike_67 ?_
        refine W.lcmp hx hb d_Mo_alike_68 ?_
        refine lv_if_ne (tgt := 76) hx hb d_Mo_alike_69 (by decide) (fun hc69 => ?_) (fun hc69 => ?_)
        · skip
          rw [lg_cmp_eq] at hc69
          refine lv_iconst (v := 0) hx hb d_Mo_alike_76 (by decide) ?_
          refine lv_istore_n (lv' := [(3, .int 0), (6, .int 0), (0, .ref mo), (1, .int (nI p1)), (2, .int (nI q1)), (4, .int acc.2), (5, .int (nI k))]) hx hb d_Mo_alike_77 rfl hl (by decide) rfl (fun ls hl => ?_)
          refine lv_aload_n hx hb d_Mo_alike_78 rfl (lv_at hl 2 rfl) ?_
          refine lv_iload_n hx hb d_Mo_alike_79 rfl (lv_at hl 3 rfl) ?_
          refine lv_iload hx hb d_Mo_alike_80 (lv_at hl 6 rfl) ?_
          refine gh_cV (ci := 5) (As := [.int (nI p1), .int (nI k)]) (rest := []) (xF_ok b0) hx hb hml hown hK hX hG rfl zmo (c_Mo_normal (wM_mk zmo znm zfr zhs zva ztp zdn zvt zvd ztd (by omega) (by omega)) (pl := p1) (i := k) (by omega) (by omega)) (q_Mo_normal htb ⟨by decide, by decide⟩) (htb _ k_3_91) (htb _ k_3_93) (htb _ k_s_Mo_normal) rfl hl.1 rfl (Nat.le_of_ble_eq_true rfl) d_Mo_alike_82 ⟨by decide, by decide⟩ (fun v9 h9 H l9 hp9 hG => ?_) (fun _ _ _ _ hp9 _ => by cases hp9.1)
          obtain ⟨hv9, hh9⟩ := hp9
          cases hv9
          rw [hh9] at hG
          refine W.eq (g2 := F0 m 85 ls [.int (v_nor nf p1 k)]) rfl ?_
          refine W.widen (k := 0) (n := 0) (by decide) (by decide) ?_
          refine lv_i2l (v := Int32.toInt64 (v_nor nf p1 k)) hx hb d_Mo_alike_85 rfl ?_
          refine lv_aload_n hx hb d_Mo_alike_86 rfl (lv_at hl 2 rfl) ?_
          refine lv_iload_n hx hb d_Mo_alike_87 rfl (lv_at hl 4 rfl) ?_
          refine lv_iload hx hb d_Mo_alike_88 (lv_at hl 6 rfl) ?_
          refine gh_cV (ci := 5) (As := [.int (nI q1), .int (nI k)]) (rest := [.long (Int32.toInt64 (v_nor nf p1 k))]) (xF_ok b0) hx hb hml hown hK hX hG rfl zmo (c_Mo_normal (wM_mk zmo znm zfr zhs zva ztp zdn zvt zvd ztd (by omega) (by omega)) (pl := q1) (i := k) (by omega) (by omega)) (q_Mo_normal htb ⟨by decide, by decide⟩) (htb _ k_3_91) (htb _ k_3_93) (htb _ k_s_Mo_normal) rfl hl.1 rfl (Nat.le_of_ble_eq_true rfl) d_Mo_alike_90 ⟨by decide, by decide⟩ (fun v9 h9 H l9 hp9 hG => ?_) (fun _ _ _ _ hp9 _ => by cases hp9.1)
          obtain ⟨hv9, hh9⟩ := hp9
          cases hv9
          rw [hh9] at hG
          refine W.eq (g2 := F0 m 93 ls [.int (v_nor nf q1 k), .long (Int32.toInt64 (v_nor nf p1 k))]) rfl ?_
          refine W.widen (k := 0) (n := 0) (by decide) (by decide) ?_
          refine lv_i2l (v := Int32.toInt64 (v_nor nf q1 k)) hx hb d_Mo_alike_93 rfl ?_
          refine lv_lmul hx hb d_Mo_alike_94 ?_
          refine lv_lstore (lv' := [(7, .long ((Int32.toInt64 (v_nor nf p1 k)) * (Int32.toInt64 (v_nor nf q1 k)))), (3, .int 0), (6, .int 0), (0, .ref mo), (1, .int (nI p1)), (2, .int (nI q1)), (4, .int acc.2), (5, .int (nI k))]) hx hb d_Mo_alike_95 hl (by decide) rfl (fun ls hl => ?_)
          refine lv_lload hx hb d_Mo_alike_97 (lv_at hl 0 rfl) ?_
          refine lv_lconst (v := 0) hx hb d_Mo_alike_99 (by decide) ?_
          refine W.lcmp hx hb d_Mo_alike_100 ?_
          refine lv_if_le (tgt := 108) hx hb d_Mo_alike_101 (by decide) (fun hc101 => ?_) (fun hc101 => ?_)
          · skip
            rw [lg_cmp_le] at hc101
            refine lv_lload hx hb d_Mo_alike_108 (lv_at hl 0 rfl) ?_
            refine lv_lconst (v := 0) hx hb d_Mo_alike_110 (by decide) ?_
            refine W.lcmp hx hb d_Mo_alike_111 ?_
            refine lv_if_ge (tgt := 119) hx hb d_Mo_alike_112 (by decide) (fun hc112 => ?_) (fun hc112 => ?_)
            · skip
              rw [lg_cmp_ge] at hc112
              refine lv_iload hx hb d_Mo_alike_119 (lv_at hl 6 rfl) ?_
              refine lv_istore (lv' := [(4, .int acc.2), (7, .long ((Int32.toInt64 (v_nor nf p1 k)) * (Int32.toInt64 (v_nor nf q1 k)))), (3, .int 0), (6, .int 0), (0, .ref mo), (1, .int (nI p1)), (2, .int (nI q1)), (5, .int (nI k))]) hx hb d_Mo_alike_121 hl (by decide) rfl (fun ls hl => ?_)
              refine lv_iinc (k := 7) (v := nI (k + 1)) (lv' := [(5, .int (nI (k + 1))), (4, .int acc.2), (7, .long ((Int32.toInt64 (v_nor nf p1 k)) * (Int32.toInt64 (v_nor nf q1 k)))), (3, .int 0), (6, .int 0), (0, .ref mo), (1, .int (nI p1)), (2, .int (nI q1))]) hx hb d_Mo_alike_123 hl rfl (nI_1 k) (by decide) rfl (fun ls hl => ?_)
              refine lv_goto (tgt := 8) hx hb d_Mo_alike_126 (by decide) ?_
              have hnx : v_nx k = 0 := by unfold v_nx; rw [if_pos hc17]
              exact ih (false, acc.2) ls H l9 (by omega) ⟨⟨by show _ = (v_same nf p1 q1 k && _); rw [← hi1.1, hc31, hnx]; exact (decide_eq_false hc69).symm, by show _ = (if _ then _ else _); rw [if_pos (show v_a nf p1 k * v_a nf q1 k ≤ 0 from hc101), if_pos (show 0 ≤ v_a nf p1 k * v_a nf q1 k from hc112)]; exact hi1.2⟩, (lv_sub hl [5, 6, 7, 3, 1, 0] rfl), hG⟩
            · skip
              rw [lg_cmp_ge] at hc112
              refine lv_iconst (v := (-1)) hx hb d_Mo_alike_115 (by decide) ?_
              refine lv_goto (tgt := 121) hx hb d_Mo_alike_116 (by decide) ?_
              refine lv_istore (lv' := [(4, .int (-1)), (7, .long ((Int32.toInt64 (v_nor nf p1 k)) * (Int32.toInt64 (v_nor nf q1 k)))), (3, .int 0), (6, .int 0), (0, .ref mo), (1, .int (nI p1)), (2, .int (nI q1)), (5, .int (nI k))]) hx hb d_Mo_alike_121 hl (by decide) rfl (fun ls hl => ?_)
              refine lv_iinc (k := 7) (v := nI (k + 1)) (lv' := [(5, .int (nI (k + 1))), (4, .int (-1)), (7, .long ((Int32.toInt64 (v_nor nf p1 k)) * (Int32.toInt64 (v_nor nf q1 k)))), (3, .int 0), (6, .int 0), (0, .ref mo), (1, .int (nI p1)), (2, .int (nI q1))]) hx hb d_Mo_alike_123 hl rfl (nI_1 k) (by decide) rfl (fun ls hl => ?_)
              refine lv_goto (tgt := 8) hx hb d_Mo_alike_126 (by decide) ?_
              have hnx : v_nx k = 0 := by unfold v_nx; rw [if_pos hc17]
              exact ih (false, (-1)) ls H l9 (by omega) ⟨⟨by show _ = (v_same nf p1 q1 k && _); rw [← hi1.1, hc31, hnx]; exact (decide_eq_false hc69).symm, by show _ = (if _ then _ else _); rw [if_pos (show v_a nf p1 k * v_a nf q1 k ≤ 0 from hc101), if_neg (show ¬ 0 ≤ v_a nf p1 k * v_a nf q1 k from hc112)]⟩, (lv_sub hl [5, 6, 7, 3, 1, 0] rfl), hG⟩
          · skip
            rw [lg_cmp_le] at hc101
            refine lv_iconst (v := 1) hx hb d_Mo_alike_104 (by decide) ?_
            refine lv_goto (tgt := 121) hx hb d_Mo_alike_105 (by decide) ?_
            refine lv_istore (lv' := [(4, .int 1), (7, .long ((Int32.toInt64 (v_nor nf p1 k)) * (Int32.toInt64 (v_nor nf q1 k)))), (3, .int 0), (6, .int 0), (0, .ref mo), (1, .int (nI p1)), (2, .int (nI q1)), (5, .int (nI k))]) hx hb d_Mo_alike_121 hl (by decide) rfl (fun ls hl => ?_)
            refine lv_iinc (k := 7) (v := nI (k + 1)) (lv' := [(5, .int (nI (k + 1))), (4, .int 1), (7, .long ((Int32.toInt64 (v_nor nf p1 k)) * (Int32.toInt64 (v_nor nf q1 k)))), (3, .int 0), (6, .int 0), (0, .ref mo), (1, .int (nI p1)), (2, .int (nI q1))]) hx hb d_Mo_alike_123 hl rfl (nI_1 k) (by decide) rfl (fun ls hl => ?_)
            refine lv_goto (tgt := 8) hx hb d_Mo_alike_126 (by decide) ?_
            have hnx : v_nx k = 0 := by unfold v_nx; rw [if_pos hc17]
            exact ih (false, 1) ls H l9 (by omega) ⟨⟨by show _ = (v_same nf p1 q1 k && _); rw [← hi1.1, hc31, hnx]; exact (decide_eq_false hc69).symm, by show _ = (if _ then _ else _); rw [if_neg (show ¬ v_a nf p1 k * v_a nf q1 k ≤ 0 from hc101)]⟩, (lv_sub hl [5, 6, 7, 3, 1, 0] rfl), hG⟩
        · skip
          rw [lg_cmp_eq] at hc69
          refine lv_iconst (v := 1) hx hb d_Mo_alike_72 (by decide) ?_
          refine lv_goto (tgt := 77) hx hb d_Mo_alike_73 (by decide) ?_
          refine lv_istore_n (lv' := [(3, .int 1), (6, .int 0), (0, .ref mo), (1, .int (nI p1)), (2, .int (nI q1)), (4, .int acc.2), (5, .int (nI k))]) hx hb d_Mo_alike_77 rfl hl (by decide) rfl (fun ls hl => ?_)
          refine lv_aload_n hx hb d_Mo_alike_78 rfl (lv_at hl 2 rfl) ?_
          refine lv_iload_n hx hb d_Mo_alike_79 rfl (lv_at hl 3 rfl) ?_
          refine lv_iload hx hb d_Mo_alike_80 (lv_at hl 6 rfl) ?_
          refine gh_cV (ci := 5) (As := [.int (nI p1), .int (nI k)]) (rest := []) (xF_ok b0) hx hb hml hown hK hX hG rfl zmo (c_Mo_normal (wM_mk zmo znm zfr zhs zva ztp zdn zvt zvd ztd (by omega) (by omega)) (pl := p1) (i := k) (by omega) (by omega)) (q_Mo_normal htb ⟨by decide, by decide⟩) (htb _ k_3_91) (htb _ k_3_93) (htb _ k_s_Mo_normal) rfl hl.1 rfl (Nat.le_of_ble_eq_true rfl) d_Mo_alike_82 ⟨by decide, by decide⟩ (fun v9 h9 H l9 hp9 hG => ?_) (fun _ _ _ _ hp9 _ => by cases hp9.1)
          obtain ⟨hv9, hh9⟩ := hp9
          cases hv9
          rw [hh9] at hG
          refine W.eq (g2 := F0 m 85 ls [.int (v_nor nf p1 k)]) rfl ?_
          refine W.widen (k := 0) (n := 0) (by decide) (by decide) ?_
          refine lv_i2l (v := Int32.toInt64 (v_nor nf p1 k)) hx hb d_Mo_alike_85 rfl ?_
          refine lv_aload_n hx hb d_Mo_alike_86 rfl (lv_at hl 2 rfl) ?_
          refine lv_iload_n hx hb d_Mo_alike_87 rfl (lv_at hl 4 rfl) ?_
          refine lv_iload hx hb d_Mo_alike_88 (lv_at hl 6 rfl) ?_
          refine gh_cV (ci := 5) (As := [.int (nI q1), .int (nI k)]) (rest := [.long (Int32.toInt64 (v_nor nf p1 k))]) (xF_ok b0) hx hb hml hown hK hX hG rfl zmo (c_Mo_normal (wM_mk zmo znm zfr zhs zva ztp zdn zvt zvd ztd (by omega) (by omega)) (pl := q1) (i := k) (by omega) (by omega)) (q_Mo_normal htb ⟨by decide, by decide⟩) (htb _ k_3_91) (htb _ k_3_93) (htb _ k_s_Mo_normal) rfl hl.1 rfl (Nat.le_of_ble_eq_true rfl) d_Mo_alike_90 ⟨by decide, by decide⟩ (fun v9 h9 H l9 hp9 hG => ?_) (fun _ _ _ _ hp9 _ => by cases hp9.1)
          obtain ⟨hv9, hh9⟩ := hp9
          cases hv9
          rw [hh9] at hG
          refine W.eq (g2 := F0 m 93 ls [.int (v_nor nf q1 k), .long (Int32.toInt64 (v_nor nf p1 k))]) rfl ?_
          refine W.widen (k := 0) (n := 0) (by decide) (by decide) ?_
          refine lv_i2l (v := Int32.toInt64 (v_nor nf q1 k)) hx hb d_Mo_alike_93 rfl ?_
          refine lv_lmul hx hb d_Mo_alike_94 ?_
          refine lv_lstore (lv' := [(7, .long ((Int32.toInt64 (v_nor nf p1 k)) * (Int32.toInt64 (v_nor nf q1 k)))), (3, .int 1), (6, .int 0), (0, .ref mo), (1, .int (nI p1)), (2, .int (nI q1)), (4, .int acc.2), (5, .int (nI k))]) hx hb d_Mo_alike_95 hl (by decide) rfl (fun ls hl => ?_)
          refine lv_lload hx hb d_Mo_alike_97 (lv_at hl 0 rfl) ?_
          refine lv_lconst (v := 0) hx hb d_Mo_alike_99 (by decide) ?_
          refine W.lcmp hx hb d_Mo_alike_100 ?_
          refine lv_if_le (tgt := 108) hx hb d_Mo_alike_101 (by decide) (fun hc101 => ?_) (fun hc101 => ?_)
          · skip
            rw [lg_cmp_le] at hc101
            refine lv_lload hx hb d_Mo_alike_108 (lv_at hl 0 rfl) ?_
            refine lv_lconst (v := 0) hx hb d_Mo_alike_110 (by decide) ?_
            refine W.lcmp hx hb d_Mo_alike_111 ?_
            refine lv_if_ge (tgt := 119) hx hb d_Mo_alike_112 (by decide) (fun hc112 => ?_) (fun hc112 => ?_)
            · skip
              rw [lg_cmp_ge] at hc112
              refine lv_iload hx hb d_Mo_alike_119 (lv_at hl 6 rfl) ?_
              refine lv_istore (lv' := [(4, .int acc.2), (7, .long ((Int32.toInt64 (v_nor nf p1 k)) * (Int32.toInt64 (v_nor nf q1 k)))), (3, .int 1), (6, .int 0), (0, .ref mo), (1, .int (nI p1)), (2, .int (nI q1)), (5, .int (nI k))]) hx hb d_Mo_alike_121 hl (by decide) rfl (fun ls hl => ?_)
              refine lv_iinc (k := 7) (v := nI (k + 1)) (lv' := [(5, .int (nI (k + 1))), (4, .int acc.2), (7, .long ((Int32.toInt64 (v_nor nf p1 k)) * (Int32.toInt64 (v_nor nf q1 k)))), (3, .int 1), (6, .int 0), (0, .ref mo), (1, .int (nI p1)), (2, .int (nI q1))]) hx hb d_Mo_alike_123 hl rfl (nI_1 k) (by decide) rfl (fun ls hl => ?_)
              refine lv_goto (tgt := 8) hx hb d_Mo_alike_126 (by decide) ?_
              have hnx : v_nx k = 0 := by unfold v_nx; rw [if_pos hc17]
              exact ih (true, acc.2) ls H l9 (by omega) ⟨⟨by show _ = (v_same nf p1 q1 k && _); rw [← hi1.1, hc31, hnx]; exact (decide_eq_true hc69).symm, by show _ = (if _ then _ else _); rw [if_pos (show v_a nf p1 k * v_a nf q1 k ≤ 0 from hc101), if_pos (show 0 ≤ v_a nf p1 k * v_a nf q1 k from hc112)]; exact hi1.2⟩, (lv_sub hl [5, 6, 7, 3, 1, 0] rfl), hG⟩
            · skip
              rw [lg_cmp_ge] at hc112
              refine lv_iconst (v := (-1)) hx hb d_Mo_alike_115 (by decide) ?_
              refine lv_goto (tgt := 121) hx hb d_Mo_alike_116 (by decide) ?_
              refine lv_istore (lv' := [(4, .int (-1)), (7, .long ((Int32.toInt64 (v_nor nf p1 k)) * (Int32.toInt64 (v_nor nf q1 k)))), (3, .int 1), (6, .int 0), (0, .ref mo), (1, .int (nI p1)), (2, .int (nI q1)), (5, .int (nI k))]) hx hb d_Mo_alike_121 hl (by decide) rfl (fun ls hl => ?_)
              refine lv_iinc (k := 7) (v := nI (k + 1)) (lv' := [(5, .int (nI (k + 1))), (4, .int (-1)), (7, .long ((Int32.toInt64 (v_nor nf p1 k)) * (Int32.toInt64 (v_nor nf q1 k)))), (3, .int 1), (6, .int 0), (0, .ref mo), (1, .int (nI p1)), (2, .int (nI q1))]) hx hb d_Mo_alike_123 hl rfl (nI_1 k) (by decide) rfl (fun ls hl => ?_)
              refine lv_goto (tgt := 8) hx hb d_Mo_alike_126 (by decide) ?_
              have hnx : v_nx k = 0 := by unfold v_nx; rw [if_pos hc17]
              exact ih (true, (-1)) ls H l9 (by omega) ⟨⟨by show _ = (v_same nf p1 q1 k && _); rw [← hi1.1, hc31, hnx]; exact (decide_eq_true hc69).symm, by show _ = (if _ then _ else _); rw [if_pos (show v_a nf p1 k * v_a nf q1 k ≤ 0 from hc101), if_neg (show ¬ 0 ≤ v_a nf p1 k * v_a nf q1 k from hc112)]⟩, (lv_sub hl [5, 6, 7, 3, 1, 0] rfl), hG⟩
          · skip
            rw [lg_cmp_le] at hc101
            refine lv_iconst (v := 1) hx hb d_Mo_alike_104 (by decide) ?_
            refine lv_goto (tgt := 121) hx hb d_Mo_alike_105 (by decide) ?_
            refine lv_istore (lv' := [(4, .int 1), (7, .long ((Int32.toInt64 (v_nor nf p1 k)) * (Int32.toInt64 (v_nor nf q1 k)))), (3, .int 1), (6, .int 0), (0, .ref mo), (1, .int (nI p1)), (2, .int (nI q1)), (5, .int (nI k))]) hx hb d_Mo_alike_121 hl (by decide) rfl (fun ls hl => ?_)
            refine lv_iinc (k := 7) (v := nI (k + 1)) (lv' := [(5, .int (nI (k + 1))), (4, .int 1), (7, .long ((Int32.toInt64 (v_nor nf p1 k)) * (Int32.toInt64 (v_nor nf q1 k)))), (3, .int 1), (6, .int 0), (0, .ref mo), (1, .int (nI p1)), (2, .int (nI q1))]) hx hb d_Mo_alike_123 hl rfl (nI_1 k) (by decide) rfl (fun ls hl => ?_)
            refine lv_goto (tgt := 8) hx hb d_Mo_alike_126 (by decide) ?_
            have hnx : v_nx k = 0 := by unfold v_nx; rw [if_pos hc17]
            exact ih (true, 1) ls H l9 (by omega) ⟨⟨by show _ = (v_same nf p1 q1 k && _); rw [← hi1.1, hc31, hnx]; exact (decide_eq_true hc69).symm, by show _ = (if _ then _ else _); rw [if_neg (show ¬ v_a nf p1 k * v_a nf q1 k ≤ 0 from hc101)]⟩, (lv_sub hl [5, 6, 7, 3, 1, 0] rfl), hG⟩

set_option maxHeartbeats 4000000 in
set_option maxRecDepth 100000 in
/-- choiceAt -/
theorem c_Mo_choiceAt1 {mo nm fr hs va tp dn g my : Nat} {th : Int32} {nf ff : Nat → Int32} {hf vf tf df : Nat → Int64} (hW : wM cI cJ h mo nm fr hs va tp dn th g my nf ff hf vf tf df) {p1 : Nat} (hp : p1 < 8 ∨ (10 ≤ p1 ∧ p1 < 16)) : gh_C l D vC (tZ cI cJ cP cS) (xF b0) b0 y_Mo_choiceAt w_Mo_choiceAt ({ frames := 2, cells := 0, slots := 0, locals := 60 }) [.ref mo, .int (nI p1), .int 1] h (rI (nI (pb_num (v_at nf vf p1 true) g)) h) := by
  refine gh_ofW (by decide) (Nat.le_of_ble_eq_true rfl) ?_
  intro p e s m below meth c ls hctx hno hl hG hK hX
  obtain ⟨hx, hb, hr, hml, hown, hlk, hts, hnm⟩ := hctx
  have htb : ∀ w ∈ tB, w.before _ s = true := fun w hw => hts w (List.mem_cons_of_mem _ hw)
  replace hl : lv_has ls 6 [(0, .ref mo), (1, .int (nI p1)), (2, .int 1)] := hl
  obtain ⟨zmo, znm, zfr, zhs, zva, ztp, zdn, zvt, zvd, ztd, zg, zy⟩ := hW
  have zf0 : frM h h := frM_rf h
  refine lv_iconst (v := 0) hx hb d_Mo_choiceAt_0 (by decide) ?_
  refine lv_istore_n (lv' := [(3, .int 0), (0, .ref mo), (1, .int (nI p1)), (2, .int 1)]) hx hb d_Mo_choiceAt_1 rfl hl (by decide) rfl (fun ls hl => ?_)
  refine lv_iconst (v := 0) hx hb d_Mo_choiceAt_2 (by decide) ?_
  refine lv_istore (lv' := [(4, .int 0), (3, .int 0), (0, .ref mo), (1, .int (nI p1)), (2, .int 1)]) hx hb d_Mo_choiceAt_3 hl (by decide) rfl (fun ls hl => ?_)
  refine gh_gen hG (fun H l9 hG => ?_)
  refine lp_upH (α := Nat) (G := fun ls H l9 => W p l e _ s m _ below meth c H l9 _ _ _ (F0 m 5 ls [])) g (fun k acc ls H l9 => (acc = pb_num (v_at nf vf p1 true) k) ∧ lv_has ls 6 [(0, .ref mo), (1, .int (nI p1)), (2, .int 1), (3, .int (nI acc)), (4, .int (nI k))] ∧ gh_P D vC b0 h s.heap H l9) ?_ 0 0 ls H l9 (Nat.zero_le _) ⟨rfl, (lv_sub hl [2, 3, 4, 1, 0] rfl), hG⟩
  intro k acc ls H l9 hk hI ih
  obtain ⟨hi1, hl, hG⟩ := hI
  refine lv_iload hx hb d_Mo_choiceAt_5 (lv_at hl 4 rfl) ?_
  refine lv_aload_n hx hb d_Mo_choiceAt_7 rfl (lv_at hl 0 rfl) ?_
  refine gh_get (ci := 5) hx hb htb in_Mo hown hK hG zmo rfl 1 (by decide) (htb _ k_2_224) (fun _ h9 => h9) rfl d_Mo_choiceAt_8 ?_
  refine lv_icmp_ge (tgt := 86) hx hb d_Mo_choiceAt_11 (by decide) (fun hc11 => ?_) (fun hc11 => ?_)
  · skip
    replace hc11 : g ≤ k := (nc_le (a := g) (b := k) (by omega) (by omega) rfl rfl).mp hc11
    refine lv_iload_n hx hb d_Mo_choiceAt_86 rfl (lv_at hl 3 rfl) ?_
    exact gh_iret hx hb hr hlk rfl hG d_Mo_choiceAt_87 (⟨by rw [hi1, show k = g by omega], rfl⟩)
  · skip
    replace hc11 : ¬ g ≤ k := fun q9 => hc11 ((nc_le (a := g) (b := k) (by omega) (by omega) rfl rfl).mpr q9)
    refine lv_aload_n hx hb d_Mo_choiceAt_14 rfl (lv_at hl 0 rfl) ?_
    refine gh_get (ci := 5) hx hb htb in_Mo hown hK hG zmo rfl 6 (by decide) (htb _ k_2_229) (fun _ h9 => h9) rfl d_Mo_choiceAt_15 ?_
    refine lv_iload hx hb d_Mo_choiceAt_18 (lv_at hl 4 rfl) ?_
    refine gh_lald (v := vf k) hx hb hK hG 1 zva rfl (vp_in_nI (by omega) (by decide)) (by rw [nI_clamp (by omega)]) d_Mo_choiceAt_20 ?_
    refine lv_lconst (v := 0) hx hb d_Mo_choiceAt_21 (by decide) ?_
    refine W.lcmp hx hb d_Mo_choiceAt_22 ?_
    refine lv_if_lt (tgt := 57) hx hb d_Mo_choiceAt_23 (by decide) (fun hc23 => ?_) (fun hc23 => ?_)
    · skip
      rw [lg_cmp_lt] at hc23
      refine lv_iconst (v := 1) hx hb d_Mo_choiceAt_57 (by decide) ?_
      refine lv_goto (tgt := 62) hx hb d_Mo_choiceAt_58 (by decide) ?_
      refine lv_istore (lv' := [(5, .int 1), (0, .ref mo), (1, .int (nI p1)), (2, .int 1), (3, .int (nI acc)), (4, .int (nI k))]) hx hb d_Mo_choiceAt_62 hl (by decide) rfl (fun ls hl => ?_)
      refine lv_iload_n hx hb d_Mo_choiceAt_64 rfl (lv_at hl 4 rfl) ?_
      refine lv_iload hx hb d_Mo_choiceAt_65 (lv_at hl 0 rfl) ?_
      refine lv_if_eq (tgt := 77) hx hb d_Mo_choiceAt_67 (by decide) (fun hc67 => absurd hc67 (by decide)) (fun hc67 => ?_)
      refine lv_iconst (v := 1) hx hb d_Mo_choiceAt_70 (by decide) ?_
      refine lv_iload hx hb d_Mo_choiceAt_71 (lv_at hl 5 rfl) ?_
      refine lv_ishl hx hb d_Mo_choiceAt_73 ?_
      rw [show (1 : Int32) <<< (nI k &&& 31) = nI (2 ^ k) from sh_1 k (by omega)]
      refine lv_goto (tgt := 78) hx hb d_Mo_choiceAt_74 (by decide) ?_
      refine lv_iadd hx hb d_Mo_choiceAt_78 ?_
      rw [show (nI acc) + (nI (2 ^ k)) = nI (acc + (2 ^ k)) from nI_add acc (2 ^ k)]
      refine lv_istore_n (lv' := [(3, .int (nI (acc + (2 ^ k)))), (5, .int 1), (0, .ref mo), (1, .int (nI p1)), (2, .int 1), (4, .int (nI k))]) hx hb d_Mo_choiceAt_79 rfl hl (by decide) rfl (fun ls hl => ?_)
      refine lv_iinc (k := 5) (v := nI (k + 1)) (lv' := [(4, .int (nI (k + 1))), (3, .int (nI (acc + (2 ^ k)))), (5, .int 1), (0, .ref mo), (1, .int (nI p1)), (2, .int 1)]) hx hb d_Mo_choiceAt_80 hl rfl (nI_1 k) (by decide) rfl (fun ls hl => ?_)
      refine lv_goto (tgt := 5) hx hb d_Mo_choiceAt_83 (by decide) ?_
      exact ih (acc + (2 ^ k)) ls H l9 (by omega) ⟨by rw [hi1]; exact pb_nx (by show (decide (vf k < 0) || _) = true; rw [decide_eq_true hc23]; rfl), (lv_sub hl [3, 4, 5, 1, 0] rfl), hG⟩
    · skip
      rw [lg_cmp_lt] at hc23
      refine lv_aload_n hx hb d_Mo_choiceAt_26 rfl (lv_at hl 0 rfl) ?_
      refine gh_get (ci := 5) hx hb htb in_Mo hown hK hG zmo rfl 6 (by decide) (htb _ k_2_229) (fun _ h9 => h9) rfl d_Mo_choiceAt_27 ?_
      refine lv_iload hx hb d_Mo_choiceAt_30 (lv_at hl 4 rfl) ?_
      refine gh_lald (v := vf k) hx hb hK hG 1 zva rfl (vp_in_nI (by omega) (by decide)) (by rw [nI_clamp (by omega)]) d_Mo_choiceAt_32 ?_
      refine lv_lconst (v := 0) hx hb d_Mo_choiceAt_33 (by decide) ?_
      refine W.lcmp hx hb d_Mo_choiceAt_34 ?_
      refine lv_if_ne (tgt := 61) hx hb d_Mo_choiceAt_35 (by decide) (fun hc35 => ?_) (fun hc35 => ?_)
      · skip
        rw [lg_cmp_eq] at hc35
        refine lv_iconst (v := 0) hx hb d_Mo_choiceAt_61 (by decide) ?_
        refine lv_istore (lv' := [(5, .int 0), (0, .ref mo), (1, .int (nI p1)), (2, .int 1), (3, .int (nI acc)), (4, .int (nI k))]) hx hb d_Mo_choiceAt_62 hl (by decide) rfl (fun ls hl => ?_)
        refine lv_iload_n hx hb d_Mo_choiceAt_64 rfl (lv_at hl 4 rfl) ?_
        refine lv_iload hx hb d_Mo_choiceAt_65 (lv_at hl 0 rfl) ?_
        refine lv_if_eq (tgt := 77) hx hb d_Mo_choiceAt_67 (by decide) (fun hc67 => ?_) (fun hc67 => absurd hc67 (by decide))
        refine lv_iconst (v := 0) hx hb d_Mo_choiceAt_77 (by decide) ?_
        refine lv_iadd hx hb d_Mo_choiceAt_78 ?_
        rw [show (nI acc) + 0 = nI (acc + 0) from nI_add acc 0]
        refine lv_istore_n (lv' := [(3, .int (nI (acc + 0))), (5, .int 0), (0, .ref mo), (1, .int (nI p1)), (2, .int 1), (4, .int (nI k))]) hx hb d_Mo_choiceAt_79 rfl hl (by decide) rfl (fun ls hl => ?_)
        refine lv_iinc (k := 5) (v := nI (k + 1)) (lv' := [(4, .int (nI (k + 1))), (3, .int (nI (acc + 0))), (5, .int 0), (0, .ref mo), (1, .int (nI p1)), (2, .int 1)]) hx hb d_Mo_choiceAt_80 hl rfl (nI_1 k) (by decide) rfl (fun ls hl => ?_)
        refine lv_goto (tgt := 5) hx hb d_Mo_choiceAt_83 (by decide) ?_
        exact ih (acc + 0) ls H l9 (by omega) ⟨by rw [hi1]; exact pb_ny (by show (decide (vf k < 0) || (decide (vf k = 0) && _)) = false; rw [decide_eq_false hc23, decide_eq_false hc35]; rfl), (lv_sub hl [3, 4, 5, 1, 0] rfl), hG⟩
      · skip
        rw [lg_cmp_eq] at hc35
        refine lv_aload_n hx hb d_Mo_choiceAt_38 rfl (lv_at hl 0 rfl) ?_
        refine lv_iload_n hx hb d_Mo_choiceAt_39 rfl (lv_at hl 1 rfl) ?_
        refine lv_iload hx hb d_Mo_choiceAt_40 (lv_at hl 4 rfl) ?_
        refine gh_cV (ci := 5) (As := [.int (nI p1), .int (nI k)]) (rest := []) (xF_ok b0) hx hb hml hown hK hX hG rfl zmo (c_Mo_alike (wM_mk zmo znm zfr zhs zva ztp zdn zvt zvd ztd (by omega) (by omega)) (p1 := p1) (q1 := k) (by omega) (by omega)) (q_Mo_alike htb ⟨by decide, by decide⟩) (htb _ k_3_87) (htb _ k_3_89) (htb _ k_s_Mo_alike) rfl hl.1 rfl (Nat.le_of_ble_eq_true rfl) d_Mo_choiceAt_42 ⟨by decide, by decide⟩ (fun v9 h9 H l9 hp9 hG => ?_) (fun _ _ _ _ hp9 _ => by cases hp9.1)
        obtain ⟨hv9, hh9⟩ := hp9
        cases hv9
        rw [hh9] at hG
        refine W.eq (g2 := F0 m 45 ls [.int (v_alike nf p1 k)]) rfl ?_
        refine W.widen (k := 0) (n := 0) (by decide) (by decide) ?_
        refine lv_if_le (tgt := 52) hx hb d_Mo_choiceAt_45 (by decide) (fun hc45 => ?_) (fun hc45 => ?_)
        · skip
          refine lv_iconst (v := 0) hx hb d_Mo_choiceAt_52 (by decide) ?_
          refine lv_iload_n hx hb d_Mo_choiceAt_53 rfl (lv_at hl 2 rfl) ?_
          refine lv_icmp_ne (tgt := 61) hx hb d_Mo_choiceAt_54 (by decide) (fun hc54 => ?_) (fun hc54 => absurd hc54 (by decide))
          refine lv_iconst (v := 0) hx hb d_Mo_choiceAt_61 (by decide) ?_
          refine lv_istore (lv' := [(5, .int 0), (0, .ref mo), (1, .int (nI p1)), (2, .int 1), (3, .int (nI acc)), (4, .int (nI k))]) hx hb d_Mo_choiceAt_62 hl (by decide) rfl (fun ls hl => ?_)
          refine lv_iload_n hx hb d_Mo_choiceAt_64 rfl (lv_at hl 4 rfl) ?_
          refine lv_iload hx hb d_Mo_choiceAt_65 (lv_at hl 0 rfl) ?_
          refine lv_if_eq (tgt := 77) hx hb d_Mo_choiceAt_67 (by decide) (fun hc67 => ?_) (fun hc67 => absurd hc67 (by decide))
          refine lv_iconst (v := 0) hx hb d_Mo_choiceAt_77 (by decide) ?_
          refine lv_iadd hx hb d_Mo_choiceAt_78 ?_
          rw [show (nI acc) + 0 = nI (acc + 0) from nI_add acc 0]
          refine lv_istore_n (lv' := [(3, .int (nI (acc + 0))), (5, .int 0), (0, .ref mo), (1, .int (nI p1)), (2, .int 1), (4, .int (nI k))]) hx hb d_Mo_choiceAt_79 rfl hl (by decide) rfl (fun ls hl => ?_)
          refine lv_iinc (k := 5) (v := nI (k + 1)) (lv' := [(4, .int (nI (k + 1))), (3, .int (nI (acc + 0))), (5, .int 0), (0, .ref mo), (1, .int (nI p1)), (2, .int 1)]) hx hb d_Mo_choiceAt_80 hl rfl (nI_1 k) (by decide) rfl (fun ls hl => ?_)
          refine lv_goto (tgt := 5) hx hb d_Mo_choiceAt_83 (by decide) ?_
          exact ih (acc + 0) ls H l9 (by omega) ⟨by rw [hi1]; exact pb_ny (by show (decide (vf k < 0) || (decide (vf k = 0) && ((!decide (v_alike nf p1 k ≤ 0)) == true))) = false; rw [decide_eq_false hc23, decide_eq_true hc35, decide_eq_true hc45]; rfl), (lv_sub hl [3, 4, 5, 1, 0] rfl), hG⟩
        · skip
          refine lv_iconst (v := 1) hx hb d_Mo_choiceAt_48 (by decide) ?_
          refine lv_goto (tgt := 53) hx hb d_Mo_choiceAt_49 (by decide) ?_
          refine lv_iload_n hx hb d_Mo_choiceAt_53 rfl (lv_at hl 2 rfl) ?_
          refine lv_icmp_ne (tgt := 61) hx hb d_Mo_choiceAt_54 (by decide) (fun hc54 => absurd hc54 (by decide)) (fun hc54 => ?_)
          refine lv_iconst (v := 1) hx hb d_Mo_choiceAt_57 (by decide) ?_
          refine lv_goto (tgt := 62) hx hb d_Mo_choiceAt_58 (by decide) ?_
          refine lv_istore (lv' := [(5, .int 1), (0, .ref mo), (1, .int (nI p1)), (2, .int 1), (3, .int (nI acc)), (4, .int (nI k))]) hx hb d_Mo_choiceAt_62 hl (by decide) rfl (fun ls hl => ?_)
          refine lv_iload_n hx hb d_Mo_choiceAt_64 rfl (lv_at hl 4 rfl) ?_
          refine lv_iload hx hb d_Mo_choiceAt_65 (lv_at hl 0 rfl) ?_
          refine lv_if_eq (tgt := 77) hx hb d_Mo_choiceAt_67 (by decide) (fun hc67 => absurd hc67 (by decide)) (fun hc67 => ?_)
          refine lv_iconst (v := 1) hx hb d_Mo_choiceAt_70 (by decide) ?_
          refine lv_iload hx hb d_Mo_choiceAt_71 (lv_at hl 5 rfl) ?_
          refine lv_ishl hx hb d_Mo_choiceAt_73 ?_
          rw [show (1 : Int32) <<< (nI k &&& 31) = nI (2 ^ k) from sh_1 k (by omega)]
          refine lv_goto (tgt := 78) hx hb d_Mo_choiceAt_74 (by decide) ?_
          refine lv_iadd hx hb d_Mo_choiceAt_78 ?_
          rw [show (nI acc) + (nI (2 ^ k)) = nI (acc + (2 ^ k)) from nI_add acc (2 ^ k)]
          refine lv_istore_n (lv' := [(3, .int (nI (acc + (2 ^ k)))), (5, .int 1), (0, .ref mo), (1, .int (nI p1)), (2, .int 1), (4, .int (nI k))]) hx hb d_Mo_choiceAt_79 rfl hl (by decide) rfl (fun ls hl => ?_)
          refine lv_iinc (k := 5) (v := nI (k + 1)) (lv' := [(4, .int (nI (k + 1))), (3, .int (nI (acc + (2 ^ k)))), (5, .int 1), (0, .ref mo), (1, .int (nI p1)), (2, .int 1)]) hx hb d_Mo_choiceAt_80 hl rfl (nI_1 k) (by decide) rfl (fun ls hl => ?_)
          refine lv_goto (tgt := 5) hx hb d_Mo_choiceAt_83 (by decide) ?_
          exact ih (acc + (2 ^ k)) ls H l9 (by omega) ⟨by rw [hi1]; exact pb_nx (by show (_ || (decide (vf k = 0) && ((!decide (v_alike nf p1 k ≤ 0)) == true))) = true; rw [decide_eq_true hc35, decide_eq_false hc45]; simp), (lv_sub hl [3, 4, 5, 1, 0] rfl), hG⟩

set_option maxHeartbeats 4000000 in
set_option maxRecDepth 100000 in
/-- choiceAt -/
theorem c_Mo_choiceAt0 {mo nm fr hs va tp dn g my : Nat} {th : Int32} {nf ff : Nat → Int32} {hf vf tf df : Nat → Int64} (hW : wM cI cJ h mo nm fr hs va tp dn th g my nf ff hf vf tf df) {p1 : Nat} (hp : p1 < 8 ∨ (10 ≤ p1 ∧ p1 < 16)) : gh_C l D vC (tZ cI cJ cP cS) (xF b0) b0 y_Mo_choiceAt w_Mo_choiceAt ({ frames := 2, cells := 0, slots := 0, locals := 60 }) [.ref mo, .int (nI p1), .int 0] h (rI (nI (pb_num (v_at nf vf p1 false) g)) h) := by
  refine gh_ofW (by decide) (Nat.le_of_ble_eq_true rfl) ?_
  intro p e s m below meth c ls hctx hno hl hG hK hX
  obtain ⟨hx, hb, hr, hml, hown, hlk, hts, hnm⟩ := hctx
  have htb : ∀ w ∈ tB, w.before _ s = true := fun w hw => hts w (List.mem_cons_of_mem _ hw)
  replace hl : lv_has ls 6 [(0, .ref mo), (1, .int (nI p1)), (2, .int 0)] := hl
  obtain ⟨zmo, znm, zfr, zhs, zva, ztp, zdn, zvt, zvd, ztd, zg, zy⟩ := hW
  have zf0 : frM h h := frM_rf h
  refine lv_iconst (v := 0) hx hb d_Mo_choiceAt_0 (by decide) ?_
  refine lv_istore_n (lv' := [(3, .int 0), (0, .ref mo), (1, .int (nI p1)), (2, .int 0)]) hx hb d_Mo_choiceAt_1 rfl hl (by decide) rfl (fun ls hl => ?_)
  refine lv_iconst (v := 0) hx hb d_Mo_choiceAt_2 (by decide) ?_
  refine lv_istore (lv' := [(4, .int 0), (3, .int 0), (0, .ref mo), (1, .int (nI p1)), (2, .int 0)]) hx hb d_Mo_choiceAt_3 hl (by decide) rfl (fun ls hl => ?_)
  refine gh_gen hG (fun H l9 hG => ?_)
  refine lp_upH (α := Nat) (G := fun ls H l9 => W p l e _ s m _ below meth c H l9 _ _ _ (F0 m 5 ls [])) g (fun k acc ls H l9 => (acc = pb_num (v_at nf vf p1 false) k) ∧ lv_has ls 6 [(0, .ref mo), (1, .int (nI p1)), (2, .int 0), (3, .int (nI acc)), (4, .int (nI k))] ∧ gh_P D vC b0 h s.heap H l9) ?_ 0 0 ls H l9 (Nat.zero_le _) ⟨rfl, (lv_sub hl [2, 3, 4, 1, 0] rfl), hG⟩
  intro k acc ls H l9 hk hI ih
  obtain ⟨hi1, hl, hG⟩ := hI
  refine lv_iload hx hb d_Mo_choiceAt_5 (lv_at hl 4 rfl) ?_
  refine lv_aload_n hx hb d_Mo_choiceAt_7 rfl (lv_at hl 0 rfl) ?_
  refine gh_get (ci := 5) hx hb htb in_Mo hown hK hG zmo rfl 1 (by decide) (htb _ k_2_224) (fun _ h9 => h9) rfl d_Mo_choiceAt_8 ?_
  refine lv_icmp_ge (tgt := 86) hx hb d_Mo_choiceAt_11 (by decide) (fun hc11 => ?_) (fun hc11 => ?_)
  · skip
    replace hc11 : g ≤ k := (nc_le (a := g) (b := k) (by omega) (by omega) rfl rfl).mp hc11
    refine lv_iload_n hx hb d_Mo_choiceAt_86 rfl (lv_at hl 3 rfl) ?_
    exact gh_iret hx hb hr hlk rfl hG d_Mo_choiceAt_87 (⟨by rw [hi1, show k = g by omega], rfl⟩)
  · skip
    replace hc11 : ¬ g ≤ k := fun q9 => hc11 ((nc_le (a := g) (b := k) (by omega) (by omega) rfl rfl).mpr q9)
    refine lv_aload_n hx hb d_Mo_choiceAt_14 rfl (lv_at hl 0 rfl) ?_
    refine gh_get (ci := 5) hx hb htb in_Mo hown hK hG zmo rfl 6 (by decide) (htb _ k_2_229) (fun _ h9 => h9) rfl d_Mo_choiceAt_15 ?_
    refine lv_iload hx hb d_Mo_choiceAt_18 (lv_at hl 4 rfl) ?_
    refine gh_lald (v := vf k) hx hb hK hG 1 zva rfl (vp_in_nI (by omega) (by decide)) (by rw [nI_clamp (by omega)]) d_Mo_choiceAt_20 ?_
    refine lv_lconst (v := 0) hx hb d_Mo_choiceAt_21 (by decide) ?_
    refine W.lcmp hx hb d_Mo_choiceAt_22 ?_
    refine lv_if_lt (tgt := 57) hx hb d_Mo_choiceAt_23 (by decide) (fun hc23 => ?_) (fun hc23 => ?_)
    · skip
      rw [lg_cmp_lt] at hc23
      refine lv_iconst (v := 1) hx hb d_Mo_choiceAt_57 (by decide) ?_
      refine lv_goto (tgt := 62) hx hb d_Mo_choiceAt_58 (by decide) ?_
      refine lv_istore (lv' := [(5, .int 1), (0, .ref mo), (1, .int (nI p1)), (2, .int 0), (3, .int (nI acc)), (4, .int (nI k))]) hx hb d_Mo_choiceAt_62 hl (by decide) rfl (fun ls hl => ?_)
      refine lv_iload_n hx hb d_Mo_choiceAt_64 rfl (lv_at hl 4 rfl) ?_
      refine lv_iload hx hb d_Mo_choiceAt_65 (lv_at hl 0 rfl) ?_
      refine lv_if_eq (tgt := 77) hx hb d_Mo_choiceAt_67 (by decide) (fun hc67 => absurd hc67 (by decide)) (fun hc67 => ?_)
      refine lv_iconst (v := 1) hx hb d_Mo_choiceAt_70 (by decide) ?_
      refine lv_iload hx hb d_Mo_choiceAt_71 (lv_at hl 5 rfl) ?_
      refine lv_ishl hx hb d_Mo_choiceAt_73 ?_
      rw [show (1 : Int32) <<< (nI k &&& 31) = nI (2 ^ k) from sh_1 k (by omega)]
      refine lv_goto (tgt := 78) hx hb d_Mo_choiceAt_74 (by decide) ?_
      refine lv_iadd hx hb d_Mo_choiceAt_78 ?_
      rw [show (nI acc) + (nI (2 ^ k)) = nI (acc + (2 ^ k)) from nI_add acc (2 ^ k)]
      refine lv_istore_n (lv' := [(3, .int (nI (acc + (2 ^ k)))), (5, .int 1), (0, .ref mo), (1, .int (nI p1)), (2, .int 0), (4, .int (nI k))]) hx hb d_Mo_choiceAt_79 rfl hl (by decide) rfl (fun ls hl => ?_)
      refine lv_iinc (k := 5) (v := nI (k + 1)) (lv' := [(4, .int (nI (k + 1))), (3, .int (nI (acc + (2 ^ k)))), (5, .int 1), (0, .ref mo), (1, .int (nI p1)), (2, .int 0)]) hx hb d_Mo_choiceAt_80 hl rfl (nI_1 k) (by decide) rfl (fun ls hl => ?_)
      refine lv_goto (tgt := 5) hx hb d_Mo_choiceAt_83 (by decide) ?_
      exact ih (acc + (2 ^ k)) ls H l9 (by omega) ⟨by rw [hi1]; exact pb_nx (by show (decide (vf k < 0) || _) = true; rw [decide_eq_true hc23]; rfl), (lv_sub hl [3, 4, 5, 1, 0] rfl), hG⟩
    · skip
      rw [lg_cmp_lt] at hc23
      refine lv_aload_n hx hb d_Mo_choiceAt_26 rfl (lv_at hl 0 rfl) ?_
      refine gh_get (ci := 5) hx hb htb in_Mo hown hK hG zmo rfl 6 (by decide) (htb _ k_2_229) (fun _ h9 => h9) rfl d_Mo_choiceAt_27 ?_
      refine lv_iload hx hb d_Mo_choiceAt_30 (lv_at hl 4 rfl) ?_
      refine gh_lald (v := vf k) hx hb hK hG 1 zva rfl (vp_in_nI (by omega) (by decide)) (by rw [nI_clamp (by omega)]) d_Mo_choiceAt_32 ?_
      refine lv_lconst (v := 0) hx hb d_Mo_choiceAt_33 (by decide) ?_
      refine W.lcmp hx hb d_Mo_choiceAt_34 ?_
      refine lv_if_ne (tgt := 61) hx hb d_Mo_choiceAt_35 (by decide) (fun hc35 => ?_) (fun hc35 => ?_)
      · skip
        rw [lg_cmp_eq] at hc35
        refine lv_iconst (v := 0) hx hb d_Mo_choiceAt_61 (by decide) ?_
        refine lv_istore (lv' := [(5, .int 0), (0, .ref mo), (1, .int (nI p1)), (2, .int 0), (3, .int (nI acc)), (4, .int (nI k))]) hx hb d_Mo_choiceAt_62 hl (by decide) rfl (fun ls hl => ?_)
        refine lv_iload_n hx hb d_Mo_choiceAt_64 rfl (lv_at hl 4 rfl) ?_
        refine lv_iload hx hb d_Mo_choiceAt_65 (lv_at hl 0 rfl) ?_
        refine lv_if_eq (tgt := 77) hx hb d_Mo_choiceAt_67 (by decide) (fun hc67 => ?_) (fun hc67 => absurd hc67 (by decide))
        refine lv_iconst (v := 0) hx hb d_Mo_choiceAt_77 (by decide) ?_
        refine lv_iadd hx hb d_Mo_choiceAt_78 ?_
        rw [show (nI acc) + 0 = nI (acc + 0) from nI_add acc 0]
        refine lv_istore_n (lv' := [(3, .int (nI (acc + 0))), (5, .int 0), (0, .ref mo), (1, .int (nI p1)), (2, .int 0), (4, .int (nI k))]) hx hb d_Mo_choiceAt_79 rfl hl (by decide) rfl (fun ls hl => ?_)
        refine lv_iinc (k := 5) (v := nI (k + 1)) (lv' := [(4, .int (nI (k + 1))), (3, .int (nI (acc + 0))), (5, .int 0), (0, .ref mo), (1, .int (nI p1)), (2, .int 0)]) hx hb d_Mo_choiceAt_80 hl rfl (nI_1 k) (by decide) rfl (fun ls hl => ?_)
        refine lv_goto (tgt := 5) hx hb d_Mo_choiceAt_83 (by decide) ?_
        exact ih (acc + 0) ls H l9 (by omega) ⟨by rw [hi1]; exact pb_ny (by show (decide (vf k < 0) || (decide (vf k = 0) && _)) = false; rw [decide_eq_false hc23, decide_eq_false hc35]; rfl), (lv_sub hl [3, 4, 5, 1, 0] rfl), hG⟩
      · skip
        rw [lg_cmp_eq] at hc35
        refine lv_aload_n hx hb d_Mo_choiceAt_38 rfl (lv_at hl 0 rfl) ?_
        refine lv_iload_n hx hb d_Mo_choiceAt_39 rfl (lv_at hl 1 rfl) ?_
        refine lv_iload hx hb d_Mo_choiceAt_40 (lv_at hl 4 rfl) ?_
        refine gh_cV (ci := 5) (As := [.int (nI p1), .int (nI k)]) (rest := []) (xF_ok b0) hx hb hml hown hK hX hG rfl zmo (c_Mo_alike (wM_mk zmo znm zfr zhs zva ztp zdn zvt zvd ztd (by omega) (by omega)) (p1 := p1) (q1 := k) (by omega) (by omega)) (q_Mo_alike htb ⟨by decide, by decide⟩) (htb _ k_3_87) (htb _ k_3_89) (htb _ k_s_Mo_alike) rfl hl.1 rfl (Nat.le_of_ble_eq_true rfl) d_Mo_choiceAt_42 ⟨by decide, by decide⟩ (fun v9 h9 H l9 hp9 hG => ?_) (fun _ _ _ _ hp9 _ => by cases hp9.1)
        obtain ⟨hv9, hh9⟩ := hp9
        cases hv9
        rw [hh9] at hG
        refine W.eq (g2 := F0 m 45 ls [.int (v_alike nf p1 k)]) rfl ?_
        refine W.widen (k := 0) (n := 0) (by decide) (by decide) ?_
        refine lv_if_le (tgt := 52) hx hb d_Mo_choiceAt_45 (by decide) (fun hc45 => ?_) (fun hc45 => ?_)
        · skip
          refine lv_iconst (v := 0) hx hb d_Mo_choiceAt_52 (by decide) ?_
          refine lv_iload_n hx hb d_Mo_choiceAt_53 rfl (lv_at hl 2 rfl) ?_
          refine lv_icmp_ne (tgt := 61) hx hb d_Mo_choiceAt_54 (by decide) (fun hc54 => absurd hc54 (by decide)) (fun hc54 => ?_)
          refine lv_iconst (v := 1) hx hb d_Mo_choiceAt_57 (by decide) ?_
          refine lv_goto (tgt := 62) hx hb d_Mo_choiceAt_58 (by decide) ?_
          refine lv_istore (lv' := [(5, .int 1), (0, .ref mo), (1, .int (nI p1)), (2, .int 0), (3, .int (nI acc)), (4, .int (nI k))]) hx hb d_Mo_choiceAt_62 hl (by decide) rfl (fun ls hl => ?_)
          refine lv_iload_n hx hb d_Mo_choiceAt_64 rfl (lv_at hl 4 rfl) ?_
          refine lv_iload hx hb d_Mo_choiceAt_65 (lv_at hl 0 rfl) ?_
          refine lv_if_eq (tgt := 77) hx hb d_Mo_choiceAt_67 (by decide) (fun hc67 => absurd hc67 (by decide)) (fun hc67 => ?_)
          refine lv_iconst (v := 1) hx hb d_Mo_choiceAt_70 (by decide) ?_
          refine lv_iload hx hb d_Mo_choiceAt_71 (lv_at hl 5 rfl) ?_
          refine lv_ishl hx hb d_Mo_choiceAt_73 ?_
          rw [show (1 : Int32) <<< (nI k &&& 31) = nI (2 ^ k) from sh_1 k (by omega)]
          refine lv_goto (tgt := 78) hx hb d_Mo_choiceAt_74 (by decide) ?_
          refine lv_iadd hx hb d_Mo_choiceAt_78 ?_
          rw [show (nI acc) + (nI (2 ^ k)) = nI (acc + (2 ^ k)) from nI_add acc (2 ^ k)]
          refine lv_istore_n (lv' := [(3, .int (nI (acc + (2 ^ k)))), (5, .int 1), (0, .ref mo), (1, .int (nI p1)), (2, .int 0), (4, .int (nI k))]) hx hb d_Mo_choiceAt_79 rfl hl (by decide) rfl (fun ls hl => ?_)
          refine lv_iinc (k := 5) (v := nI (k + 1)) (lv' := [(4, .int (nI (k + 1))), (3, .int (nI (acc + (2 ^ k)))), (5, .int 1), (0, .ref mo), (1, .int (nI p1)), (2, .int 0)]) hx hb d_Mo_choiceAt_80 hl rfl (nI_1 k) (by decide) rfl (fun ls hl => ?_)
          refine lv_goto (tgt := 5) hx hb d_Mo_choiceAt_83 (by decide) ?_
          exact ih (acc + (2 ^ k)) ls H l9 (by omega) ⟨by rw [hi1]; exact pb_nx (by show (_ || (decide (vf k = 0) && ((!decide (v_alike nf p1 k ≤ 0)) == false))) = true; rw [decide_eq_true hc35, decide_eq_true hc45]; simp), (lv_sub hl [3, 4, 5, 1, 0] rfl), hG⟩
        · skip
          refine lv_iconst (v := 1) hx hb d_Mo_choiceAt_48 (by decide) ?_
          refine lv_goto (tgt := 53) hx hb d_Mo_choiceAt_49 (by decide) ?_
          refine lv_iload_n hx hb d_Mo_choiceAt_53 rfl (lv_at hl 2 rfl) ?_
          refine lv_icmp_ne (tgt := 61) hx hb d_Mo_choiceAt_54 (by decide) (fun hc54 => ?_) (fun hc54 => absurd hc54 (by decide))
          refine lv_iconst (v := 0) hx hb d_Mo_choiceAt_61 (by decide) ?_
          refine lv_istore (lv' := [(5, .int 0), (0, .ref mo), (1, .int (nI p1)), (2, .int 0), (3, .int (nI acc)), (4, .int (nI k))]) hx hb d_Mo_choiceAt_62 hl (by decide) rfl (fun ls hl => ?_)
          refine lv_iload_n hx hb d_Mo_choiceAt_64 rfl (lv_at hl 4 rfl) ?_
          refine lv_iload hx hb d_Mo_choiceAt_65 (lv_at hl 0 rfl) ?_
          refine lv_if_eq (tgt := 77) hx hb d_Mo_choiceAt_67 (by decide) (fun hc67 => ?_) (fun hc67 => absurd hc67 (by decide))
          refine lv_iconst (v := 0) hx hb d_Mo_choiceAt_77 (by decide) ?_
          refine lv_iadd hx hb d_Mo_choiceAt_78 ?_
          rw [show (nI acc) + 0 = nI (acc + 0) from nI_add acc 0]
          refine lv_istore_n (lv' := [(3, .int (nI (acc + 0))), (5, .int 0), (0, .ref mo), (1, .int (nI p1)), (2, .int 0), (4, .int (nI k))]) hx hb d_Mo_choiceAt_79 rfl hl (by decide) rfl (fun ls hl => ?_)
          refine lv_iinc (k := 5) (v := nI (k + 1)) (lv' := [(4, .int (nI (k + 1))), (3, .int (nI (acc + 0))), (5, .int 0), (0, .ref mo), (1, .int (nI p1)), (2, .int 0)]) hx hb d_Mo_choiceAt_80 hl rfl (nI_1 k) (by decide) rfl (fun ls hl => ?_)
          refine lv_goto (tgt := 5) hx hb d_Mo_choiceAt_83 (by decide) ?_
          exact ih (acc + 0) ls H l9 (by omega) ⟨by rw [hi1]; exact pb_ny (by show (decide (vf k < 0) || (decide (vf k = 0) && ((!decide (v_alike nf p1 k ≤ 0)) == false))) = false; rw [decide_eq_false hc23, decide_eq_true hc35, decide_eq_false hc45]; rfl), (lv_sub hl [3, 4, 5, 1, 0] rfl), hG⟩

end
