/-! enters: the class against the model. -/
section
variable {g n : Nat} {fs : Nat → Nat} {pa pb pc pd : Nat → Int64} {nf ff : Nat → Int32} {a : Nat} {u v : Int32}
theorem m_all_iff {f : Nat → Bool} {n : Nat} : m_all f n = true ↔ ∀ i, i < n → f i = true := by
  unfold m_all
  rw [List.all_eq_true]
  exact ⟨fun k i hi => k i (List.mem_range.mpr hi), fun k i hi => k i (List.mem_range.mp hi)⟩
theorem box_n (h : tI g n fs pa pb pc pd nf ff) (ha : a < 3) (hu : -999 ≤ u.toInt ∧ u.toInt ≤ 999) (hv : -999 ≤ v.toInt ∧ v.toInt ≤ 999) {i : Nat} (hi : i < n) (hA : tP pa pb pc pd i a ≠ 0) :
    m_all (fun j => decide (m_exc (pa j) (pb j) (pc j) (pd j) (e_x (nI a) (Int32.toInt64 u) (Int32.toInt64 v) (pa i) (pb i) (pc i) (pd i)) (e_y (nI a) (Int32.toInt64 u) (Int32.toInt64 v) (pa i) (pb i) (pc i) (pd i)) (e_z (nI a) (Int32.toInt64 u) (Int32.toInt64 v) (pa i) (pb i) (pc i) (pd i)) (e_w (nI a) (pa i) (pb i) (pc i)) ≤ 0)) 6 = true ↔ -(1000 * eM (tP pa pb pc pd) a n) ≤ eP (tP pa pb pc pd) a n u.toInt v.toInt i ∧ eP (tP pa pb pc pd) a n u.toInt v.toInt i ≤ 1000 * eM (tP pa pb pc pd) a n := by
  have hn := h.1
  obtain ⟨⟨b1, b2⟩, ⟨b3, b4⟩, b5⟩ := bxA h ha hu hv
  obtain ⟨k1, k2⟩ := bxK h ha hu hv
  have v1 := eV1 (P := tP pa pb pc pd) (a := a) (U := u.toInt) (V := v.toInt) (j := 2 * a) hi hA (by omega) (by rw [b1]; decide)
  have v2 := eV1 (P := tP pa pb pc pd) (a := a) (U := u.toInt) (V := v.toInt) (j := 2 * a + 1) hi hA (by omega) (by rw [b3]; decide)
  rw [k1, b1] at v1
  rw [k2, b3] at v2
  rw [m_all_iff]
  constructor
  · intro hall
    have a1 := of_decide_eq_true (hall (2 * a) (by omega))
    have a2 := of_decide_eq_true (hall (2 * a + 1) (by omega))
    rw [IB_le (exc_E h ha hu hv hi (by omega)) IB_0, b1] at a1
    rw [IB_le (exc_E h ha hu hv hi (by omega)) IB_0, b3] at a2
    omega
  · intro hK j hj
    apply decide_eq_true
    rw [IB_le (exc_E h ha hu hv hi (by omega)) IB_0]
    by_cases j1 : j = 2 * a
    · rw [j1, b1]; omega
    · by_cases j2 : j = 2 * a + 1
      · rw [j2, b3]; omega
      · obtain ⟨c1, c2⟩ := b5 j hj j1 j2
        have v3 := (eV0 (P := tP pa pb pc pd) (U := u.toInt) (V := v.toInt) hi hA c1).2.mpr c2
        omega
/-- the planes at the place of the plane i -/
theorem onE_n (h : tI g n fs pa pb pc pd nf ff) (ha : a < 3) (hu : -999 ≤ u.toInt ∧ u.toInt ≤ 999) (hv : -999 ≤ v.toInt ∧ v.toInt ≤ 999) {i j : Nat} (hi : i < n) (hj : j < n) (hA : tP pa pb pc pd i a ≠ 0) : m_exc (pa j) (pb j) (pc j) (pd j) (e_x (nI a) (Int32.toInt64 u) (Int32.toInt64 v) (pa i) (pb i) (pc i) (pd i)) (e_y (nI a) (Int32.toInt64 u) (Int32.toInt64 v) (pa i) (pb i) (pc i) (pd i)) (e_z (nI a) (Int32.toInt64 u) (Int32.toInt64 v) (pa i) (pb i) (pc i) (pd i)) (e_w (nI a) (pa i) (pb i) (pc i)) = 0 ↔ onE (tP pa pb pc pd) a n u.toInt v.toInt i j := by
  rw [IB_eq (exc_E h ha hu hv hi hj) IB_0]
  exact E_on h hi hj hA
theorem only_n (h : tI g n fs pa pb pc pd nf ff) (hfs : ∀ i, fs i < 14) (ha : a < 3) (hu : -999 ≤ u.toInt ∧ u.toInt ≤ 999) (hv : -999 ≤ v.toInt ∧ v.toInt ≤ 999) {i : Nat} (hi : i < n) (hA : tP pa pb pc pd i a ≠ 0) :
    m_only (fun j => decide (m_exc (pa j) (pb j) (pc j) (pd j) (e_x (nI a) (Int32.toInt64 u) (Int32.toInt64 v) (pa i) (pb i) (pc i) (pd i)) (e_y (nI a) (Int32.toInt64 u) (Int32.toInt64 v) (pa i) (pb i) (pc i) (pd i)) (e_z (nI a) (Int32.toInt64 u) (Int32.toInt64 v) (pa i) (pb i) (pc i) (pd i)) (e_w (nI a) (pa i) (pb i) (pc i)) = 0)) fs n = -1 ↔ ∃ j, j < n ∧ onE (tP pa pb pc pd) a n u.toInt v.toInt i j ∧ fs j ≠ fs i := by
  rw [none_iff hfs]
  constructor
  · rintro (k | ⟨j, k, hj, hk, h1, h2, h3⟩)
    · have := k i hi
      simp only [decide_eq_false_iff_not] at this
      exact absurd ((onE_n h ha hu hv hi hi hA).mpr (E_self hA)) this
    · have o1 := (onE_n h ha hu hv hi hj hA).mp (of_decide_eq_true h1)
      have o2 := (onE_n h ha hu hv hi hk hA).mp (of_decide_eq_true h2)
      by_cases hji : fs j = fs i
      · exact ⟨k, hk, o2, fun z => h3 (by rw [hji, z])⟩
      · exact ⟨j, hj, o1, hji⟩
  · rintro ⟨j, hj, h1, h2⟩
    exact Or.inr ⟨j, i, hj, hi, decide_eq_true ((onE_n h ha hu hv hi hj hA).mpr h1), decide_eq_true ((onE_n h ha hu hv hi hi hA).mpr (E_self hA)), h2⟩
theorem thr_n (h : tI g n fs pa pb pc pd nf ff) (hfs : ∀ i, fs i < 14) (ha : a < 3) (hu : -999 ≤ u.toInt ∧ u.toInt ≤ 999) (hv : -999 ≤ v.toInt ∧ v.toInt ≤ 999) {i : Nat} (hi : i < n) : e_thr n fs pa pb pc pd (nI a) u v i = true ↔ evP (tP pa pb pc pd) a n u.toInt v.toInt i ∧ ∃ j, j < n ∧ onE (tP pa pb pc pd) a n u.toInt v.toInt i j ∧ fs j ≠ fs i := by
  unfold e_thr evP
  rw [Bool.and_eq_true, Bool.and_eq_true, Bool.not_eq_true', decide_eq_false_iff_not, decide_eq_true_eq, IB_eq (fac_ib h ha hi) IB_0]
  by_cases hA : tP pa pb pc pd i a = 0
  · exact ⟨fun z => absurd hA z.1, fun z => absurd hA z.1.1⟩
  · rw [box_n h ha hu hv hi hA, only_n h hfs ha hu hv hi hA]
    exact ⟨fun ⟨z1, z2, z3⟩ => ⟨⟨z1, z2⟩, z3⟩, fun ⟨⟨z1, z2⟩, z3⟩ => ⟨z1, z2, z3⟩⟩
theorem par_ends (h : tI g n fs pa pb pc pd nf ff) (ha : a < 3) {q : Nat → Int} : pv_par (tP pa pb pc pd (2 * a + 1)) q ↔ pv_par (tP pa pb pc pd (2 * a)) q := by
  have key : ∀ x, x < 3 → tP pa pb pc pd (2 * a + 1) x = -(tP pa pb pc pd (2 * a) x) := by
    obtain ⟨b0, b1, b2, -⟩ := tI_b h (i := 2 * a) (by omega)
    obtain ⟨c0, c1, c2, -⟩ := tI_b h (i := 2 * a + 1) (by omega)
    intro x hx
    rcases (show x = 0 ∨ x = 1 ∨ x = 2 by omega) with rfl | rfl | rfl
    · rw [b0, c0]; rcases (show a = 0 ∨ a = 1 ∨ a = 2 by omega) with rfl | rfl | rfl <;> decide
    · rw [b1, c1]; rcases (show a = 0 ∨ a = 1 ∨ a = 2 by omega) with rfl | rfl | rfl <;> decide
    · rw [b2, c2]; rcases (show a = 0 ∨ a = 1 ∨ a = 2 by omega) with rfl | rfl | rfl <;> decide
  constructor
  · intro k x y hx hy
    have := k x y hx hy
    rw [key x hx, key y hy, Int.neg_mul, Int.neg_mul] at this
    omega
  · intro k x y hx hy
    have := k x y hx hy
    rw [key x hx, key y hy, Int.neg_mul, Int.neg_mul]
    omega
theorem not_par0 {p q : Nat → Int} (ha : a < 3) (hq : pv_nz q) (h1 : p a ≠ 0) (h2 : q a = 0) : ¬ pv_par p q := by
  intro k
  obtain ⟨m, hm, hne⟩ := hq
  have := k a m ha hm
  rw [h2, Int.mul_zero] at this
  rcases Int.mul_eq_zero.mp this with z | z
  · exact h1 z
  · exact hne z
/-- both throw, or none does -/
theorem thr_eq (h : tI g n fs pa pb pc pd nf ff) (hfs : ∀ i, fs i < 14) (ha : a < 3) (hu : -999 ≤ u.toInt ∧ u.toInt ≤ 999) (hv : -999 ≤ v.toInt ∧ v.toInt ≤ 999) :
    m_any (fun i => decide (fs i = i) && e_thr n fs pa pb pc pd (nI a) u v i) n = true ↔ m_any (v_lo nf ff a u v) g = true ∨ m_any (v_crs nf (v_tp nf ff a u v) (v_dn nf a) a) g = true := by
  have hn := h.1
  have hMp := eM_pos (tP pa pb pc pd) a n
  obtain ⟨⟨b1, b2⟩, ⟨b3, b4⟩, b5⟩ := bxA h ha hu hv
  obtain ⟨kb1, kb2⟩ := bxK h ha hu hv
  have lo_iff : m_any (v_lo nf ff a u v) g = true ↔ ∃ k, k < g ∧ tP pa pb pc pd (6 + k) a = 0 ∧ eT (tP pa pb pc pd) a u.toInt v.toInt (6 + k) = 0 := by
    rw [any_iff]
    exact ⟨fun ⟨k, hk, z⟩ => ⟨k, hk, (lo_n h ha hu hv hk).mp z⟩, fun ⟨k, hk, z⟩ => ⟨k, hk, (lo_n h ha hu hv hk).mpr z⟩⟩
  have hthr : m_any (fun i => decide (fs i = i) && e_thr n fs pa pb pc pd (nI a) u v i) n = true ↔ ∃ i, i < n ∧ fs i = i ∧ evP (tP pa pb pc pd) a n u.toInt v.toInt i ∧ ∃ j, j < n ∧ onE (tP pa pb pc pd) a n u.toInt v.toInt i j ∧ fs j ≠ fs i := by
    rw [any_iff]
    constructor
    · rintro ⟨i, hi, z⟩
      rw [Bool.and_eq_true, decide_eq_true_eq, thr_n h hfs ha hu hv hi] at z
      exact ⟨i, hi, z.1, z.2⟩
    · rintro ⟨i, hi, z1, z2⟩
      exact ⟨i, hi, by rw [Bool.and_eq_true, decide_eq_true_eq, thr_n h hfs ha hu hv hi]; exact ⟨z1, z2⟩⟩
  rw [hthr, lo_iff, any_iff]
  constructor
  · rintro ⟨i, hi, hfi, hev, j, hj, hon, hne⟩
    rcases hon with ⟨hAj, hK⟩ | ⟨hAj, hT⟩
    · right
      have hon : onE (tP pa pb pc pd) a n u.toInt v.toInt i j := Or.inl ⟨hAj, hK⟩
      have hnp : ¬ pv_par (tP pa pb pc pd i) (tP pa pb pc pd j) := fun z => hne ((E_fo h ha hi hi hj hev.1 (E_self hev.1) hon).mpr z).symm
      have hbox : ∀ i, i < 6 → tP pa pb pc pd i a ≠ 0 → i = 2 * a ∨ i = 2 * a + 1 := fun i hi hA => by
        by_cases z1 : i = 2 * a
        · exact Or.inl z1
        · by_cases z2 : i = 2 * a + 1
          · exact Or.inr z2
          · exact absurd (b5 i hi z1 z2).1 hA
      have hend : ∀ i, i < 6 → tP pa pb pc pd i a ≠ 0 → ∀ k, k < g → tP pa pb pc pd (6 + k) a ≠ 0 → eP (tP pa pb pc pd) a n u.toInt v.toInt i = eP (tP pa pb pc pd) a n u.toInt v.toInt (6 + k) → ¬ pv_par (tP pa pb pc pd i) (tP pa pb pc pd (6 + k)) → ∃ k, k < g ∧ v_crs nf (v_tp nf ff a u v) (v_dn nf a) a k = true := by
        intro i hi hA k hk hAk hKK hnp
        refine ⟨k, hk, (crs_n h ha hu hv hk).mpr ?_⟩
        rcases hbox i hi hA with rfl | rfl
        · rw [kb1] at hKK
          exact ⟨⟨hAk, by omega, by omega⟩, Or.inl ⟨by omega, hnp⟩⟩
        · rw [kb2] at hKK
          rw [par_ends h ha] at hnp
          exact ⟨⟨hAk, by omega, by omega⟩, Or.inl ⟨by omega, hnp⟩⟩
      have hsym : ∀ p q : Nat → Int, ¬ pv_par p q → ¬ pv_par q p := fun p q k z => k (pv_par_symm z)
      by_cases hi6 : i < 6
      · by_cases hj6 : j < 6
        · exfalso
          rcases hbox i hi6 hev.1 with z1 | z1 <;> rcases hbox j hj6 hAj with z2 | z2
          · rw [z1, z2] at hne; exact hne rfl
          · rw [z1, z2, kb1, kb2] at hK; omega
          · rw [z1, z2, kb1, kb2] at hK; omega
          · rw [z1, z2] at hne; exact hne rfl
        · obtain ⟨k, rfl⟩ : ∃ k, j = 6 + k := ⟨j - 6, by omega⟩
          exact hend i hi6 hev.1 k (by omega) hAj hK hnp
      · obtain ⟨k, rfl⟩ : ∃ k, i = 6 + k := ⟨i - 6, by omega⟩
        by_cases hj6 : j < 6
        · exact hend j hj6 hAj k (by omega) hev.1 hK.symm (hsym _ _ hnp)
        · obtain ⟨m, rfl⟩ : ∃ m, j = 6 + m := ⟨j - 6, by omega⟩
          rcases Nat.lt_trichotomy m k with z | z | z
          · exact ⟨k, by omega, (crs_n h ha hu hv (by omega)).mpr ⟨hev, Or.inr ⟨m, z, hAj, hK, hnp⟩⟩⟩
          · rw [z] at hne; exact absurd rfl hne
          · refine ⟨m, by omega, (crs_n h ha hu hv (by omega)).mpr ⟨⟨hAj, ?_, ?_⟩, Or.inr ⟨k, z, hev.1, hK.symm, hsym _ _ hnp⟩⟩⟩
            · rw [← hK]; exact hev.2.1
            · rw [← hK]; exact hev.2.2
    · left
      by_cases hj6 : j < 6
      · exfalso
        by_cases z1 : j = 2 * a
        · rw [z1, b1] at hAj; omega
        · by_cases z2 : j = 2 * a + 1
          · rw [z2, b3] at hAj; omega
          · have := (b5 j hj6 z1 z2).2; omega
      · obtain ⟨k, rfl⟩ : ∃ k, j = 6 + k := ⟨j - 6, by omega⟩
        exact ⟨k, by omega, hAj, hT⟩
  · have ev1 : evP (tP pa pb pc pd) a n u.toInt v.toInt (2 * a) := ⟨by rw [b1]; decide, by rw [kb1]; omega, by rw [kb1]; omega⟩
    have ev2 : evP (tP pa pb pc pd) a n u.toInt v.toInt (2 * a + 1) := ⟨by rw [b3]; decide, by rw [kb2]; omega, by rw [kb2]; omega⟩
    have mk : ∀ i j, i < n → j < n → fs i = i → evP (tP pa pb pc pd) a n u.toInt v.toInt i → onE (tP pa pb pc pd) a n u.toInt v.toInt i j → ¬ pv_par (tP pa pb pc pd i) (tP pa pb pc pd j) → ∃ i, i < n ∧ fs i = i ∧ evP (tP pa pb pc pd) a n u.toInt v.toInt i ∧ ∃ j, j < n ∧ onE (tP pa pb pc pd) a n u.toInt v.toInt i j ∧ fs j ≠ fs i := by
      intro i j hi hj hfi hev hon hnp
      exact ⟨i, hi, hfi, hev, j, hj, hon, fun z => hnp ((E_fo h ha hi hi hj hev.1 (E_self hev.1) hon).mp z.symm)⟩
    rintro (⟨k, hk, hA, hT⟩ | ⟨k, hk, hc⟩)
    · exact mk (2 * a) (6 + k) (by omega) (by omega) (fs_bx h (by omega)) ev1 (Or.inr ⟨hA, hT⟩) (not_par0 ha (tI_nz h (by omega)) ev1.1 hA)
    · rw [crs_n h ha hu hv hk] at hc
      obtain ⟨hev, hc⟩ := hc
      rcases hc with ⟨hK, hnp⟩ | ⟨m, hm, hAm, hK, hnp⟩
      · rcases hK with hK | hK
        · exact mk (2 * a + 1) (6 + k) (by omega) (by omega) (fs_bx h (by omega)) ev2 (Or.inl ⟨hev.1, by rw [kb2, hK]⟩) (by rw [par_ends h ha]; exact hnp)
        · exact mk (2 * a) (6 + k) (by omega) (by omega) (fs_bx h (by omega)) ev1 (Or.inl ⟨hev.1, by rw [kb1, hK]⟩) hnp
      · obtain ⟨f1, f2, f3, f4⟩ := E_first h ha (U := u.toInt) (V := v.toInt) (i := 6 + k) (by omega) hev.1
        refine ⟨fs (6 + k), f1, f2, ⟨f3, by rw [f4]; exact hev.2.1, by rw [f4]; exact hev.2.2⟩, 6 + m, by omega, Or.inl ⟨hAm, by rw [f4]; exact hK⟩, ?_⟩
        rw [f2]
        intro z
        exact hnp ((E_fo h ha (by omega) (by omega) (by omega) hev.1 (E_self hev.1) (Or.inl ⟨hAm, hK⟩)).mp z.symm)
end
