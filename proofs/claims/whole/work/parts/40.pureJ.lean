/-! enters: how often the line goes in. -/
theorem par_dot {p q : Nat → Int} {a : Nat} (ha : a < 3) (h : pv_par p q) (hp : p a ≠ 0) (hq : q a ≠ 0) : 0 < pv_dot p q ↔ 0 < p a * q a := by
  have s0 := pv_sq h a 0 ha (by omega)
  have s1 := pv_sq h a 1 ha (by omega)
  have s2 := pv_sq h a 2 ha (by omega)
  have hne : p a * q a ≠ 0 := fun z => by
    rcases Int.mul_eq_zero.mp z with z | z
    · exact hp z
    · exact hq z
  unfold pv_dot
  rcases Int.lt_or_gt_of_ne hne with k | k
  · have t0 := pv_sgn' s0 k
    have t1 := pv_sgn' s1 k
    have t2 := pv_sgn' s2 k
    constructor
    · intro; omega
    · intro; omega
  · have t0 := pv_sgn s0 k
    have t1 := pv_sgn s1 k
    have t2 := pv_sgn s2 k
    refine ⟨fun _ => k, fun _ => ?_⟩
    rcases (show a = 0 ∨ a = 1 ∨ a = 2 by omega) with rfl | rfl | rfl <;> omega
/-- just before a place -/
def v_B (nf ff : Nat → Int32) (hf : Nat → Int64) (g my a : Nat) (u v : Int32) (ky : Int64 × Int64 → Int) (x : Int) : Bool := v_top hf my (pb_num (fun k => if v_dn nf a k = 0 then !decide (0 ≤ -(v_mt nf ff a u v k)) else ((!decide (nf (3 * k + a) ≤ 0)) != (!decide (v_dn nf a k ≤ 0) && decide (v_key nf ff a u v ky k < x)))) g)
theorem look_in (L M b : Bool) : (m_look L M == (if b = true then 1 else -1)) = ((if b = true then L else M) && !(if b = true then M else L)) := by
  cases L <;> cases M <;> cases b <;> decide
/-- on which side of the place X a plane's half space lies: just after (e = true), just before -/
def bitE (P : Nat → Nat → Int) (a n : Nat) (U V : Int) (X : Int) (e : Bool) (j : Nat) : Bool :=
  if P j a = 0 then decide (0 < eT P a U V j) else if 0 < P j a then (if e = true then decide (X < eP P a n U V j) else decide (X ≤ eP P a n U V j)) else (if e = true then decide (eP P a n U V j ≤ X) else decide (eP P a n U V j < X))
section
variable {g n : Nat} {fs : Nat → Nat} {pa pb pc pd : Nat → Int64} {nf ff : Nat → Int32} {a : Nat} {u v : Int32}
theorem bit_k (h : tI g n fs pa pb pc pd nf ff) (ha : a < 3) (hu : -999 ≤ u.toInt ∧ u.toInt ≤ 999) (hv : -999 ≤ v.toInt ∧ v.toInt ≤ 999) {k : Nat} (hk : k < g) (X : Int) :
    (if v_dn nf a k = 0 then !decide (0 ≤ -(v_mt nf ff a u v k)) else ((!decide (nf (3 * k + a) ≤ 0)) != (!decide (v_dn nf a k ≤ 0) && decide (v_key nf ff a u v (eKy (tP pa pb pc pd) a n) k ≤ X)))) = bitE (tP pa pb pc pd) a n u.toInt v.toInt X true (6 + k) ∧
    (if v_dn nf a k = 0 then !decide (0 ≤ -(v_mt nf ff a u v k)) else ((!decide (nf (3 * k + a) ≤ 0)) != (!decide (v_dn nf a k ≤ 0) && decide (v_key nf ff a u v (eKy (tP pa pb pc pd) a n) k < X)))) = bitE (tP pa pb pc pd) a n u.toInt v.toInt X false (6 + k) := by
  obtain ⟨d1, d2⟩ := dn_0 h ha hu hv hk
  have hm := IB_le IB_0 (IB_neg (mt_ib h ha hu hv hk) (by decide))
  have hs := (sl_ib h ha hk).2
  have hz : nf (3 * k + a) ≤ 0 ↔ tP pa pb pc pd (6 + k) a ≤ 0 := by rw [le0, hs]
  unfold v_key
  rw [key_k h ha hu hv hk]
  unfold bitE
  by_cases h0 : tP pa pb pc pd (6 + k) a = 0
  · rw [if_pos (d2.mpr h0), if_pos h0, if_pos (d2.mpr h0), if_pos h0]
    have : (!decide (0 ≤ -(v_mt nf ff a u v k))) = decide (0 < eT (tP pa pb pc pd) a u.toInt v.toInt (6 + k)) := by
      rw [← decide_not]
      exact decide_eq_decide.mpr (by rw [hm]; omega)
    exact ⟨this, this⟩
  · rw [if_neg (fun z => h0 (d2.mp z)), if_neg h0, if_neg (fun z => h0 (d2.mp z)), if_neg h0, decide_eq_false (fun z => h0 (d1.mp z))]
    by_cases hp : 0 < tP pa pb pc pd (6 + k) a
    · rw [if_pos hp, if_pos hp, decide_eq_false (fun z => by rw [hz] at z; omega), if_pos rfl, if_neg (by decide)]
      generalize eP (tP pa pb pc pd) a n u.toInt v.toInt (6 + k) = K
      constructor
      · by_cases q : K ≤ X
        · rw [decide_eq_true q, decide_eq_false (by omega)]; rfl
        · rw [decide_eq_false q, decide_eq_true (by omega)]; rfl
      · by_cases q : K < X
        · rw [decide_eq_true q, decide_eq_false (by omega)]; rfl
        · rw [decide_eq_false q, decide_eq_true (by omega)]; rfl
    · rw [if_neg hp, if_neg hp, decide_eq_true (hz.mpr (by omega)), if_pos rfl, if_neg (by decide)]
      exact ⟨by simp, by simp⟩
theorem bit_box (h : tI g n fs pa pb pc pd nf ff) (ha : a < 3) (hu : -999 ≤ u.toInt ∧ u.toInt ≤ 999) (hv : -999 ≤ v.toInt ∧ v.toInt ≤ 999) {X : Int} (h1 : -(1000 * eM (tP pa pb pc pd) a n) ≤ X) (h2 : X ≤ 1000 * eM (tP pa pb pc pd) a n) :
    m_all (bitE (tP pa pb pc pd) a n u.toInt v.toInt X true) 6 = decide (X < 1000 * eM (tP pa pb pc pd) a n) ∧ m_all (bitE (tP pa pb pc pd) a n u.toInt v.toInt X false) 6 = decide (-(1000 * eM (tP pa pb pc pd) a n) < X) := by
  obtain ⟨⟨b1, b2⟩, ⟨b3, b4⟩, b5⟩ := bxA h ha hu hv
  obtain ⟨k1, k2⟩ := bxK h ha hu hv
  have e1 : ∀ e, bitE (tP pa pb pc pd) a n u.toInt v.toInt X e (2 * a) = if e = true then decide (X < 1000 * eM (tP pa pb pc pd) a n) else decide (X ≤ 1000 * eM (tP pa pb pc pd) a n) := fun e => by
    unfold bitE
    rw [if_neg (by rw [b1]; decide), if_pos (by rw [b1]; decide), k1]
  have e2 : ∀ e, bitE (tP pa pb pc pd) a n u.toInt v.toInt X e (2 * a + 1) = if e = true then decide (-(1000 * eM (tP pa pb pc pd) a n) ≤ X) else decide (-(1000 * eM (tP pa pb pc pd) a n) < X) := fun e => by
    unfold bitE
    rw [if_neg (by rw [b3]; decide), if_neg (by rw [b3]; decide), k2]
  have e3 : ∀ e i, i < 6 → i ≠ 2 * a → i ≠ 2 * a + 1 → bitE (tP pa pb pc pd) a n u.toInt v.toInt X e i = true := fun e i hi q1 q2 => by
    obtain ⟨c1, c2⟩ := b5 i hi q1 q2
    unfold bitE
    rw [if_pos c1]
    exact decide_eq_true c2
  constructor
  · rw [Bool.eq_iff_iff, m_all_iff, decide_eq_true_eq]
    constructor
    · intro k
      have := k (2 * a) (by omega)
      rw [e1, if_pos rfl] at this
      exact of_decide_eq_true this
    · intro k i hi
      by_cases q1 : i = 2 * a
      · rw [q1, e1, if_pos rfl]; exact decide_eq_true k
      · by_cases q2 : i = 2 * a + 1
        · rw [q2, e2, if_pos rfl]; exact decide_eq_true h1
        · exact e3 true i hi q1 q2
  · rw [Bool.eq_iff_iff, m_all_iff, decide_eq_true_eq]
    constructor
    · intro k
      have := k (2 * a + 1) (by omega)
      rw [e2, if_neg (by decide)] at this
      exact of_decide_eq_true this
    · intro k i hi
      by_cases q1 : i = 2 * a
      · rw [q1, e1, if_neg (by decide)]; exact decide_eq_true h2
      · by_cases q2 : i = 2 * a + 1
        · rw [q2, e2, if_neg (by decide)]; exact decide_eq_true k
        · exact e3 false i hi q1 q2
/-- the cells at the two sides of the plane i, where the line meets it -/
theorem cell_E (h : tI g n fs pa pb pc pd nf ff) (ha : a < 3) (hu : -999 ≤ u.toInt ∧ u.toInt ≤ 999) (hv : -999 ≤ v.toInt ∧ v.toInt ≤ 999) {i j : Nat} (hi : i < n) (hj : j < n) (hA : tP pa pb pc pd i a ≠ 0) (hfi : fs i = i) (hnt : ∀ j, j < n → onE (tP pa pb pc pd) a n u.toInt v.toInt i j → fs j = fs i) (e : Bool) :
    (decide (m_exc (pa j) (pb j) (pc j) (pd j) (e_x (nI a) (Int32.toInt64 u) (Int32.toInt64 v) (pa i) (pb i) (pc i) (pd i)) (e_y (nI a) (Int32.toInt64 u) (Int32.toInt64 v) (pa i) (pb i) (pc i) (pd i)) (e_z (nI a) (Int32.toInt64 u) (Int32.toInt64 v) (pa i) (pb i) (pc i) (pd i)) (e_w (nI a) (pa i) (pb i) (pc i)) < 0) || (decide (fs j = i) && (m_lk (pa j) (pb j) (pc j) (pa i) (pb i) (pc i) == (if e = true then decide (tP pa pb pc pd i a < 0) else !decide (tP pa pb pc pd i a < 0))))) = bitE (tP pa pb pc pd) a n u.toInt v.toInt (eP (tP pa pb pc pd) a n u.toInt v.toInt i) e j := by
  rw [show decide (m_exc (pa j) (pb j) (pc j) (pd j) (e_x (nI a) (Int32.toInt64 u) (Int32.toInt64 v) (pa i) (pb i) (pc i) (pd i)) (e_y (nI a) (Int32.toInt64 u) (Int32.toInt64 v) (pa i) (pb i) (pc i) (pd i)) (e_z (nI a) (Int32.toInt64 u) (Int32.toInt64 v) (pa i) (pb i) (pc i) (pd i)) (e_w (nI a) (pa i) (pb i) (pc i)) < 0) = decide (tP pa pb pc pd j a * eS (tP pa pb pc pd i a) (eT (tP pa pb pc pd) a u.toInt v.toInt i) - eT (tP pa pb pc pd) a u.toInt v.toInt j * eW (tP pa pb pc pd i a) < 0) from decide_eq_decide.mpr (IB_lt (exc_E h ha hu hv hi hj) IB_0)]
  have hback : fs j = i → onE (tP pa pb pc pd) a n u.toInt v.toInt i j := fun z => by
    have h1 := (fo_iff (fun i hi => tI_nz h hi) h.2.2.2.2.2 hj hi).mp (by rw [z, hfi])
    have h2 : pv_at (tP pa pb pc pd i) (eX a (eS (tP pa pb pc pd i a) (eT (tP pa pb pc pd) a u.toInt v.toInt i)) u.toInt v.toInt (eW (tP pa pb pc pd i a))) (eY a (eS (tP pa pb pc pd i a) (eT (tP pa pb pc pd) a u.toInt v.toInt i)) u.toInt v.toInt (eW (tP pa pb pc pd i a))) (eZ a (eS (tP pa pb pc pd i a) (eT (tP pa pb pc pd) a u.toInt v.toInt i)) u.toInt v.toInt (eW (tP pa pb pc pd i a))) (eW (tP pa pb pc pd i a)) = 0 := by
      rw [pv_line (tP pa pb pc pd) ha]
      exact (E_on h hi hi hA).mpr (E_self hA)
    have h3 := pv_one_at (tI_nz h hi) (pv_one_symm h1) h2
    rw [pv_line (tP pa pb pc pd) ha] at h3
    exact (E_on h hi hj hA).mp h3
  by_cases hon : onE (tP pa pb pc pd) a n u.toInt v.toInt i j
  · have hfj := hnt j hj hon
    have hpar := (E_fo h ha hi hj hi hA hon (E_self hA)).mp hfj
    have hAj : tP pa pb pc pd j a ≠ 0 := fun z => not_par0 ha (tI_nz h hj) hA z (pv_par_symm hpar)
    have hKK : eP (tP pa pb pc pd) a n u.toInt v.toInt i = eP (tP pa pb pc pd) a n u.toInt v.toInt j := by
      rcases hon with z | z
      · exact z.2
      · exact absurd z.1 hAj
    have hz := (E_on h hi hj hA).mpr hon
    rw [decide_eq_false (by omega), decide_eq_true (by rw [hfj, hfi] : fs j = i), lk_n h hj hi]
    have hd := par_dot ha hpar hAj hA
    unfold bitE
    rw [if_neg hAj, hKK]
    rcases Int.lt_or_gt_of_ne hAj with kj | kj <;> rcases Int.lt_or_gt_of_ne hA with ki | ki
    · have := Int.mul_pos_of_neg_of_neg kj ki
      rw [decide_eq_true (hd.mpr this), decide_eq_true ki, if_neg (by omega : ¬ 0 < tP pa pb pc pd j a)]
      cases e <;> simp
    · have := Int.mul_neg_of_neg_of_pos kj ki
      rw [decide_eq_false (fun z => by have := hd.mp z; omega), decide_eq_false (by omega : ¬ tP pa pb pc pd i a < 0), if_neg (by omega : ¬ 0 < tP pa pb pc pd j a)]
      cases e <;> simp
    · have := Int.mul_neg_of_pos_of_neg kj ki
      rw [decide_eq_false (fun z => by have := hd.mp z; omega), decide_eq_true ki, if_pos kj]
      cases e <;> simp
    · have := Int.mul_pos kj ki
      rw [decide_eq_true (hd.mpr this), decide_eq_false (by omega : ¬ tP pa pb pc pd i a < 0), if_pos kj]
      cases e <;> simp
  · have hfj : ¬ fs j = i := fun z => hon (hback z)
    rw [decide_eq_false hfj, Bool.false_and, Bool.or_false]
    unfold bitE
    by_cases hAj : tP pa pb pc pd j a = 0
    · rw [if_pos hAj]
      exact decide_eq_decide.mpr (eV0 (U := u.toInt) (V := v.toInt) hi hA hAj).2
    · have hne : ¬ eP (tP pa pb pc pd) a n u.toInt v.toInt i = eP (tP pa pb pc pd) a n u.toInt v.toInt j := fun z => hon (Or.inl ⟨hAj, z⟩)
      have hv1 := (eV1 (U := u.toInt) (V := v.toInt) hi hA hj hAj).2
      rw [if_neg hAj]
      by_cases kj : 0 < tP pa pb pc pd j a
      · rw [if_pos kj]
        cases e
        · rw [if_neg (by decide)]; exact decide_eq_decide.mpr (by rw [hv1]; omega)
        · rw [if_pos rfl]; exact decide_eq_decide.mpr (by rw [hv1]; omega)
      · rw [if_neg kj]
        cases e
        · rw [if_neg (by decide)]; exact decide_eq_decide.mpr (by rw [hv1]; omega)
        · rw [if_pos rfl]; exact decide_eq_decide.mpr (by rw [hv1]; omega)
end
