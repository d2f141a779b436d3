/-! enters: the two counts. -/
section
variable {g n : Nat} {fs : Nat → Nat} {pa pb pc pd : Nat → Int64} {nf ff : Nat → Int32} {a : Nat} {u v : Int32}
theorem F_bit (h : tI g n fs pa pb pc pd nf ff) (ha : a < 3) (hu : -999 ≤ u.toInt ∧ u.toInt ≤ 999) (hv : -999 ≤ v.toInt ∧ v.toInt ≤ 999) (hf : Nat → Int64) (my : Nat) (X : Int) : v_F nf ff hf g my a u v (eKy (tP pa pb pc pd) a n) X = v_top hf my (pb_num (fun k => bitE (tP pa pb pc pd) a n u.toInt v.toInt X true (6 + k)) g) ∧ v_B nf ff hf g my a u v (eKy (tP pa pb pc pd) a n) X = v_top hf my (pb_num (fun k => bitE (tP pa pb pc pd) a n u.toInt v.toInt X false (6 + k)) g) := by
  unfold v_F v_B
  exact ⟨by rw [pb_congr (fun j hj => (bit_k h ha hu hv hj X).1)], by rw [pb_congr (fun j hj => (bit_k h ha hu hv hj X).2)]⟩
theorem ent_n (h : tI g n fs pa pb pc pd nf ff) (hfs : ∀ i, fs i < 14) (ha : a < 3) (hu : -999 ≤ u.toInt ∧ u.toInt ≤ 999) (hv : -999 ≤ v.toInt ∧ v.toInt ≤ 999) {f hf : Nat → Int64} {my : Nat} (hf4 : ∀ q, q < 4 → f q = hf (4 * my - 4 + q)) {i : Nat} (hi : i < n) (hfi : fs i = i)
    (hnt : evP (tP pa pb pc pd) a n u.toInt v.toInt i → ∀ j, j < n → onE (tP pa pb pc pd) a n u.toInt v.toInt i j → fs j = fs i) :
    e_ent f n fs pa pb pc pd (nI a) u v i = true ↔ evP (tP pa pb pc pd) a n u.toInt v.toInt i ∧ (eP (tP pa pb pc pd) a n u.toInt v.toInt i < 1000 * eM (tP pa pb pc pd) a n ∧ v_F nf ff hf g my a u v (eKy (tP pa pb pc pd) a n) (eP (tP pa pb pc pd) a n u.toInt v.toInt i) = true) ∧ ¬ (-(1000 * eM (tP pa pb pc pd) a n) < eP (tP pa pb pc pd) a n u.toInt v.toInt i ∧ v_B nf ff hf g my a u v (eKy (tP pa pb pc pd) a n) (eP (tP pa pb pc pd) a n u.toInt v.toInt i) = true) := by
  have hn := h.1
  have hg := h.2.1
  by_cases hev : evP (tP pa pb pc pd) a n u.toInt v.toInt i
  · have hA := hev.1
    have hnt1 := hnt hev
    unfold e_ent
    rw [decide_eq_false (fun z => hA ((IB_eq (fac_ib h ha hi) IB_0).mp z)), (box_n h ha hu hv hi hA).mpr hev.2, decide_eq_false (fun z => by
      obtain ⟨j, hj, h1, h2⟩ := (only_n h hfs ha hu hv hi hA).mp z
      exact h2 (hnt1 j hj h1))]
    have hfac := IB_lt (fac_ib h ha hi) IB_0
    have hcell : ∀ e : Bool, m_top f (m_cs n fs pa pb pc pd i (if e = true then decide (tP pa pb pc pd i a < 0) else !decide (tP pa pb pc pd i a < 0)) (e_x (nI a) (Int32.toInt64 u) (Int32.toInt64 v) (pa i) (pb i) (pc i) (pd i)) (e_y (nI a) (Int32.toInt64 u) (Int32.toInt64 v) (pa i) (pb i) (pc i) (pd i)) (e_z (nI a) (Int32.toInt64 u) (Int32.toInt64 v) (pa i) (pb i) (pc i) (pd i)) (e_w (nI a) (pa i) (pb i) (pc i))) = (m_all (bitE (tP pa pb pc pd) a n u.toInt v.toInt (eP (tP pa pb pc pd) a n u.toInt v.toInt i) e) 6 && v_top hf my (pb_num (fun k => bitE (tP pa pb pc pd) a n u.toInt v.toInt (eP (tP pa pb pc pd) a n u.toInt v.toInt i) e (6 + k)) g)) := by
      intro e
      unfold m_cs
      rw [pb_congr (fun j hj => cell_E h ha hu hv hi hj hA hfi hnt1 e)]
      subst hn
      exact top_eq hg hf4
    have hT := hcell true
    have hB := hcell false
    rw [(bit_box h ha hu hv hev.2.1 hev.2.2).1, ← (F_bit h ha hu hv hf my _).1, if_pos rfl] at hT
    rw [(bit_box h ha hu hv hev.2.1 hev.2.2).2, ← (F_bit h ha hu hv hf my _).2, if_neg (by decide)] at hB
    unfold m_lkat
    have hE : (if m_fac (nI a) (pa i) (pb i) (pc i) < 0 then (1 : Int32) else -1) = if decide (tP pa pb pc pd i a < 0) = true then 1 else -1 := by
      by_cases z : tP pa pb pc pd i a < 0
      · rw [if_pos (hfac.mpr z), if_pos (decide_eq_true z)]
      · rw [if_neg (fun q => z (hfac.mp q)), if_neg (by rw [decide_eq_false z]; decide)]
    rw [hE, look_in]
    have hcase : ∀ (L M : Bool) (sm : Bool) (G : Bool → Bool), L = G true → M = G false → ((if sm = true then L else M) && !(if sm = true then M else L)) = (G sm && !G (!sm)) := by
      intro L M sm G h1 h2
      subst h1
      subst h2
      cases sm <;> rfl
    rw [hcase _ _ (decide (tP pa pb pc pd i a < 0)) (fun sm => m_top f (m_cs n fs pa pb pc pd i sm (e_x (nI a) (Int32.toInt64 u) (Int32.toInt64 v) (pa i) (pb i) (pc i) (pd i)) (e_y (nI a) (Int32.toInt64 u) (Int32.toInt64 v) (pa i) (pb i) (pc i) (pd i)) (e_z (nI a) (Int32.toInt64 u) (Int32.toInt64 v) (pa i) (pb i) (pc i) (pd i)) (e_w (nI a) (pa i) (pb i) (pc i)))) rfl rfl]
    rw [hT, hB]
    simp only [Bool.not_false, Bool.true_and, Bool.and_eq_true, decide_eq_true_eq, Bool.not_eq_true', Bool.and_eq_false_iff, decide_eq_false_iff_not]
    constructor
    · rintro ⟨z1, z2⟩
      refine ⟨hev, z1, fun ⟨q1, q2⟩ => ?_⟩
      rcases z2 with z2 | z2
      · exact z2 q1
      · rw [q2] at z2; cases z2
    · rintro ⟨-, z1, z2⟩
      refine ⟨z1, ?_⟩
      by_cases q1 : -(1000 * eM (tP pa pb pc pd) a n) < eP (tP pa pb pc pd) a n u.toInt v.toInt i
      · right
        cases q2 : v_B nf ff hf g my a u v (eKy (tP pa pb pc pd) a n) (eP (tP pa pb pc pd) a n u.toInt v.toInt i) with
        | false => rfl
        | true => exact absurd ⟨q1, q2⟩ z2
      · exact Or.inl q1
  · refine ⟨fun z => ?_, fun z => absurd z.1 hev⟩
    exfalso
    unfold e_ent at z
    rw [Bool.and_eq_true, Bool.and_eq_true, Bool.not_eq_true', decide_eq_false_iff_not, IB_eq (fac_ib h ha hi) IB_0] at z
    exact hev ⟨z.1, (box_n h ha hu hv hi z.1).mp z.2.1⟩
/-- as often -/
theorem cnt_eq (h : tI g n fs pa pb pc pd nf ff) (hfs : ∀ i, fs i < 14) (ha : a < 3) (hu : -999 ≤ u.toInt ∧ u.toInt ≤ 999) (hv : -999 ≤ v.toInt ∧ v.toInt ≤ 999) {f hf : Nat → Int64} {my : Nat} (hf4 : ∀ q, q < 4 → f q = hf (4 * my - 4 + q))
    (hno : m_any (fun i => decide (fs i = i) && e_thr n fs pa pb pc pd (nI a) u v i) n = false) :
    mc_cnt (fun i => decide (fs i = i) && e_ent f n fs pa pb pc pd (nI a) u v i) n = v_run nf ff hf g my a u v (eKy (tP pa pb pc pd) a n) (g + 1) (eKy (tP pa pb pc pd) a n (-1000, 1)) false := by
  have hn := h.1
  have hMp := eM_pos (tP pa pb pc pd) a n
  obtain ⟨⟨b1, b2⟩, ⟨b3, b4⟩, b5⟩ := bxA h ha hu hv
  obtain ⟨kb1, kb2⟩ := bxK h ha hu hv
  obtain ⟨ke1, ke2⟩ := key_e (a := a) (n := n) (tP pa pb pc pd)
  have hnt : ∀ i, i < n → fs i = i → evP (tP pa pb pc pd) a n u.toInt v.toInt i → ∀ j, j < n → onE (tP pa pb pc pd) a n u.toInt v.toInt i j → fs j = fs i := by
    intro i hi hfi hev j hj hon
    apply Classical.byContradiction
    intro hne
    have : m_any (fun i => decide (fs i = i) && e_thr n fs pa pb pc pd (nI a) u v i) n = true := any_iff.mpr ⟨i, hi, by rw [Bool.and_eq_true, decide_eq_true_eq, thr_n h hfs ha hu hv hi]; exact ⟨hfi, hev, j, hj, hon, hne⟩⟩
    rw [this] at hno
    cases hno
  have hkey : ∀ k, k < g → v_key nf ff a u v (eKy (tP pa pb pc pd) a n) k = eP (tP pa pb pc pd) a n u.toInt v.toInt (6 + k) := fun k hk => key_k h ha hu hv hk
  have hact : ∀ k, k < g → (v_act nf a k = true ↔ tP pa pb pc pd (6 + k) a ≠ 0) := fun k hk => by
    unfold v_act
    rw [Bool.not_eq_true', decide_eq_false_iff_not, (dn_0 h ha hu hv hk).1]
  have hevb : ∀ i, (decide (fs i = i) && (!decide (tP pa pb pc pd i a = 0) && (decide (-(1000 * eM (tP pa pb pc pd) a n) ≤ eP (tP pa pb pc pd) a n u.toInt v.toInt i) && decide (eP (tP pa pb pc pd) a n u.toInt v.toInt i ≤ 1000 * eM (tP pa pb pc pd) a n)))) = true ↔ fs i = i ∧ evP (tP pa pb pc pd) a n u.toInt v.toInt i := fun i => by
    unfold evP
    simp only [Bool.and_eq_true, decide_eq_true_eq, Bool.not_eq_true', decide_eq_false_iff_not, ne_eq]
  have main := sw_main (F := v_F nf ff hf g my a u v (eKy (tP pa pb pc pd) a n)) (B := v_B nf ff hf g my a u v (eKy (tP pa pb pc pd) a n)) (act := v_act nf a)
    (ev := fun i => decide (fs i = i) && (!decide (tP pa pb pc pd i a = 0) && (decide (-(1000 * eM (tP pa pb pc pd) a n) ≤ eP (tP pa pb pc pd) a n u.toInt v.toInt i) && decide (eP (tP pa pb pc pd) a n u.toInt v.toInt i ≤ 1000 * eM (tP pa pb pc pd) a n))))
    (key := v_key nf ff a u v (eKy (tP pa pb pc pd) a n)) (ky := eP (tP pa pb pc pd) a n u.toInt v.toInt) (lo := -(1000 * eM (tP pa pb pc pd) a n)) (hb := 1000 * eM (tP pa pb pc pd) a n) (n := g) (m := n) (by omega)
    (fun i hi he => ((hevb i).mp he).2.2)
    (fun i j hi hj hei hej hK => by
      obtain ⟨f1, e1⟩ := (hevb i).mp hei
      obtain ⟨f2, e2⟩ := (hevb j).mp hej
      have := hnt i hi f1 e1 j hj (Or.inl ⟨e2.1, hK⟩)
      omega)
    ⟨2 * a + 1, by omega, (hevb _).mpr ⟨fs_bx h (by omega), by rw [b3]; decide, by rw [kb2]; omega, by rw [kb2]; omega⟩, kb2⟩
    (fun k hk hak h1 h2 => by
      rw [hkey k hk] at h1 h2 ⊢
      obtain ⟨f1, f2, f3, f4⟩ := E_first h ha (U := u.toInt) (V := v.toInt) (i := 6 + k) (by omega) ((hact k hk).mp hak)
      exact ⟨fs (6 + k), f1, (hevb _).mpr ⟨f2, f3, by rw [f4]; exact h1, by rw [f4]; exact h2⟩, f4⟩)
    (fun i hi hei h1 h2 => by
      obtain ⟨f1, e1⟩ := (hevb i).mp hei
      by_cases h6 : i < 6
      · exfalso
        by_cases z1 : i = 2 * a
        · rw [z1, kb1] at h2; omega
        · by_cases z2 : i = 2 * a + 1
          · rw [z2, kb2] at h1; omega
          · exact e1.1 (b5 i h6 z1 z2).1
      · obtain ⟨k, rfl⟩ : ∃ k, i = 6 + k := ⟨i - 6, by omega⟩
        exact ⟨k, by omega, (hact k (by omega)).mpr e1.1, hkey k (by omega)⟩)
    (fun x y h1 h2 h3 hnone => by
      rw [(F_bit h ha hu hv hf my y).1, (F_bit h ha hu hv hf my x).2]
      rw [pb_congr (fun k hk => ?_)]
      by_cases h0 : tP pa pb pc pd (6 + k) a = 0
      · unfold bitE; rw [if_pos h0, if_pos h0]
      · have hq := hnone k hk ((hact k hk).mpr h0)
        rw [hkey k hk] at hq
        unfold bitE
        rw [if_neg h0, if_neg h0]
        by_cases hp : 0 < tP pa pb pc pd (6 + k) a
        · rw [if_pos hp, if_pos hp, if_pos rfl, if_neg (by decide)]
          exact decide_eq_decide.mpr (by omega)
        · rw [if_neg hp, if_neg hp, if_pos rfl, if_neg (by decide)]
          exact decide_eq_decide.mpr (by omega))
    (g + 1) (-(1000 * eM (tP pa pb pc pd) a n)) false (fun _ => by have := mc_le (fun k => v_act nf a k && decide (-(1000 * eM (tP pa pb pc pd) a n) < v_key nf ff a u v (eKy (tP pa pb pc pd) a n) k) && decide (v_key nf ff a u v (eKy (tP pa pb pc pd) a n) k < 1000 * eM (tP pa pb pc pd) a n)) g; omega) (Int.le_refl _) (by omega)
    (fun _ => ⟨2 * a + 1, by omega, (hevb _).mpr ⟨fs_bx h (by omega), by rw [b3]; decide, by rw [kb2]; omega, by rw [kb2]; omega⟩, kb2⟩) (fun _ => by rw [if_pos rfl])
  unfold v_run
  rw [ke1, ke2, main]
  refine mc_congr (fun i hi => ?_)
  rw [Bool.eq_iff_iff]
  by_cases hfi : fs i = i
  · rw [Bool.and_eq_true, decide_eq_true_eq, ent_n h hfs ha hu hv hf4 hi hfi (fun hev => hnt i hi hfi hev), Bool.and_eq_true, Bool.and_eq_true, hevb i, Bool.and_eq_true, decide_eq_true_eq, decide_eq_true_eq, Bool.and_eq_true]
    constructor
    · rintro ⟨z1, z2, ⟨z3, z4⟩, z5⟩
      refine ⟨⟨⟨z1, z2⟩, z2.2.1, z3⟩, z4, ?_⟩
      by_cases q : eP (tP pa pb pc pd) a n u.toInt v.toInt i = -(1000 * eM (tP pa pb pc pd) a n)
      · rw [if_pos q]; rfl
      · rw [if_neg q]
        cases q2 : v_B nf ff hf g my a u v (eKy (tP pa pb pc pd) a n) (eP (tP pa pb pc pd) a n u.toInt v.toInt i) with
        | false => rfl
        | true => exact absurd ⟨by have := z2.2.1; omega, q2⟩ z5
    · rintro ⟨⟨⟨z1, z2⟩, z3, z4⟩, z5, z6⟩
      refine ⟨z1, z2, ⟨z4, z5⟩, fun ⟨q1, q2⟩ => ?_⟩
      rw [if_neg (by omega), q2] at z6
      cases z6
  · rw [decide_eq_false hfi]
    simp
end
