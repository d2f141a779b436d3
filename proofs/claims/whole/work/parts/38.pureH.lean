/-! enters: when it throws. -/
theorem i32_0 (x : Int32) : x = 0 ↔ ¬ x < 0 ∧ ¬ 0 < x := by
  rw [Int32.lt_iff_toInt_lt, Int32.lt_iff_toInt_lt, ← Int32.toInt_inj, show (0 : Int32).toInt = 0 by decide]
  omega
theorem none_iff {on : Nat → Bool} {fs : Nat → Nat} (hfs : ∀ i, fs i < 14) (n : Nat) : m_only on fs n = -1 ↔ fo_none on fs n := by
  rcases only_an hfs (on := on) n with ⟨k1, k2⟩ | ⟨f, k1, k2, k3⟩
  · exact ⟨fun _ => k2, fun _ => k1⟩
  · exact ⟨fun z => absurd z (by rw [k1]; exact nI_ne1 k2), fun z => absurd z (fun z => fo_not_both k3 z)⟩
/-- the plane j is at the place of the plane i -/
def onE (P : Nat → Nat → Int) (a n : Nat) (U V : Int) (i j : Nat) : Prop := (P j a ≠ 0 ∧ eP P a n U V i = eP P a n U V j) ∨ (P j a = 0 ∧ eT P a U V j = 0)
/-- the plane i meets the line within the box -/
def evP (P : Nat → Nat → Int) (a n : Nat) (U V : Int) (i : Nat) : Prop := P i a ≠ 0 ∧ -(1000 * eM P a n) ≤ eP P a n U V i ∧ eP P a n U V i ≤ 1000 * eM P a n
section
variable {g n : Nat} {fs : Nat → Nat} {pa pb pc pd : Nat → Int64} {nf ff : Nat → Int32} {a : Nat} {u v : Int32}
theorem bxA (h : tI g n fs pa pb pc pd nf ff) (ha : a < 3) {U V : Int} (hU : -999 ≤ U ∧ U ≤ 999) (hV : -999 ≤ V ∧ V ≤ 999) : (tP pa pb pc pd (2 * a) a = 1 ∧ eT (tP pa pb pc pd) a U V (2 * a) = 1000) ∧ (tP pa pb pc pd (2 * a + 1) a = -1 ∧ eT (tP pa pb pc pd) a U V (2 * a + 1) = 1000) ∧ ∀ i, i < 6 → i ≠ 2 * a → i ≠ 2 * a + 1 → tP pa pb pc pd i a = 0 ∧ 0 < eT (tP pa pb pc pd) a U V i := by
  have b0 := tI_b h (i := 0) (by omega)
  have b1 := tI_b h (i := 1) (by omega)
  have b2 := tI_b h (i := 2) (by omega)
  have b3 := tI_b h (i := 3) (by omega)
  have b4 := tI_b h (i := 4) (by omega)
  have b5 := tI_b h (i := 5) (by omega)
  rw [show (m_bx 0 0).toInt = 1 by decide, show (m_bx 1 0).toInt = 0 by decide, show (m_bx 2 0).toInt = 0 by decide] at b0
  rw [show (m_bx 0 1).toInt = -1 by decide, show (m_bx 1 1).toInt = 0 by decide, show (m_bx 2 1).toInt = 0 by decide] at b1
  rw [show (m_bx 0 2).toInt = 0 by decide, show (m_bx 1 2).toInt = 1 by decide, show (m_bx 2 2).toInt = 0 by decide] at b2
  rw [show (m_bx 0 3).toInt = 0 by decide, show (m_bx 1 3).toInt = -1 by decide, show (m_bx 2 3).toInt = 0 by decide] at b3
  rw [show (m_bx 0 4).toInt = 0 by decide, show (m_bx 1 4).toInt = 0 by decide, show (m_bx 2 4).toInt = 1 by decide] at b4
  rw [show (m_bx 0 5).toInt = 0 by decide, show (m_bx 1 5).toInt = 0 by decide, show (m_bx 2 5).toInt = -1 by decide] at b5
  have six : ∀ i, i < 6 → i = 0 ∨ i = 1 ∨ i = 2 ∨ i = 3 ∨ i = 4 ∨ i = 5 := fun i hi => by omega
  unfold eT
  rcases (show a = 0 ∨ a = 1 ∨ a = 2 by omega) with rfl | rfl | rfl
  · rw [show v_o 0 = 1 from rfl, show v_t 0 = 2 from rfl, show 2 * 0 = 0 from rfl, show 0 + 1 = 1 from rfl, b0.1, b0.2.1, b0.2.2.1, b0.2.2.2, b1.1, b1.2.1, b1.2.2.1, b1.2.2.2]
    refine ⟨⟨rfl, by omega⟩, ⟨rfl, by omega⟩, fun i hi k1 k2 => ?_⟩
    rcases six i hi with rfl | rfl | rfl | rfl | rfl | rfl
    · omega
    · omega
    · rw [b2.1, b2.2.1, b2.2.2.1, b2.2.2.2]; exact ⟨rfl, by omega⟩
    · rw [b3.1, b3.2.1, b3.2.2.1, b3.2.2.2]; exact ⟨rfl, by omega⟩
    · rw [b4.1, b4.2.1, b4.2.2.1, b4.2.2.2]; exact ⟨rfl, by omega⟩
    · rw [b5.1, b5.2.1, b5.2.2.1, b5.2.2.2]; exact ⟨rfl, by omega⟩
  · rw [show v_o 1 = 0 from rfl, show v_t 1 = 2 from rfl, show 2 * 1 = 2 from rfl, show 2 + 1 = 3 from rfl, b2.1, b2.2.1, b2.2.2.1, b2.2.2.2, b3.1, b3.2.1, b3.2.2.1, b3.2.2.2]
    refine ⟨⟨rfl, by omega⟩, ⟨rfl, by omega⟩, fun i hi k1 k2 => ?_⟩
    rcases six i hi with rfl | rfl | rfl | rfl | rfl | rfl
    · rw [b0.1, b0.2.1, b0.2.2.1, b0.2.2.2]; exact ⟨rfl, by omega⟩
    · rw [b1.1, b1.2.1, b1.2.2.1, b1.2.2.2]; exact ⟨rfl, by omega⟩
    · omega
    · omega
    · rw [b4.1, b4.2.1, b4.2.2.1, b4.2.2.2]; exact ⟨rfl, by omega⟩
    · rw [b5.1, b5.2.1, b5.2.2.1, b5.2.2.2]; exact ⟨rfl, by omega⟩
  · rw [show v_o 2 = 0 from rfl, show v_t 2 = 1 from rfl, show 2 * 2 = 4 from rfl, show 4 + 1 = 5 from rfl, b4.1, b4.2.1, b4.2.2.1, b4.2.2.2, b5.1, b5.2.1, b5.2.2.1, b5.2.2.2]
    refine ⟨⟨rfl, by omega⟩, ⟨rfl, by omega⟩, fun i hi k1 k2 => ?_⟩
    rcases six i hi with rfl | rfl | rfl | rfl | rfl | rfl
    · rw [b0.1, b0.2.1, b0.2.2.1, b0.2.2.2]; exact ⟨rfl, by omega⟩
    · rw [b1.1, b1.2.1, b1.2.2.1, b1.2.2.2]; exact ⟨rfl, by omega⟩
    · rw [b2.1, b2.2.1, b2.2.2.1, b2.2.2.2]; exact ⟨rfl, by omega⟩
    · rw [b3.1, b3.2.1, b3.2.2.1, b3.2.2.2]; exact ⟨rfl, by omega⟩
    · omega
    · omega
theorem bxK (h : tI g n fs pa pb pc pd nf ff) (ha : a < 3) {U V : Int} (hU : -999 ≤ U ∧ U ≤ 999) (hV : -999 ≤ V ∧ V ≤ 999) : eP (tP pa pb pc pd) a n U V (2 * a) = 1000 * eM (tP pa pb pc pd) a n ∧ eP (tP pa pb pc pd) a n U V (2 * a + 1) = -(1000 * eM (tP pa pb pc pd) a n) := by
  have hn := h.1
  obtain ⟨⟨b1, b2⟩, ⟨b3, b4⟩, -⟩ := bxA h ha hU hV
  have e1 := eP_mul (P := tP pa pb pc pd) (a := a) (n := n) (U := U) (V := V) (i := 2 * a) (by omega) (by rw [b1]; decide)
  have e2 := eP_mul (P := tP pa pb pc pd) (a := a) (n := n) (U := U) (V := V) (i := 2 * a + 1) (by omega) (by rw [b3]; decide)
  rw [b1, b2] at e1
  rw [b3, b4] at e2
  exact ⟨by omega, by omega⟩
theorem E_on (h : tI g n fs pa pb pc pd nf ff) {U V : Int} {i j : Nat} (hi : i < n) (hj : j < n) (hA : tP pa pb pc pd i a ≠ 0) : tP pa pb pc pd j a * eS (tP pa pb pc pd i a) (eT (tP pa pb pc pd) a U V i) - eT (tP pa pb pc pd) a U V j * eW (tP pa pb pc pd i a) = 0 ↔ onE (tP pa pb pc pd) a n U V i j := by
  unfold onE
  by_cases hj0 : tP pa pb pc pd j a = 0
  · rw [(eV0 (U := U) (V := V) hi hA hj0).1]
    exact ⟨fun k => Or.inr ⟨hj0, k⟩, fun k => by
      rcases k with k | k
      · exact absurd hj0 k.1
      · exact k.2⟩
  · rw [(eV1 (U := U) (V := V) hi hA hj hj0).1]
    exact ⟨fun k => Or.inl ⟨hj0, k⟩, fun k => by
      rcases k with k | k
      · exact k.2
      · exact absurd k.1 hj0⟩
/-- planes at one place of the line are one if and only if they are parallel -/
theorem E_fo (h : tI g n fs pa pb pc pd nf ff) (ha : a < 3) {U V : Int} {i j k : Nat} (hi : i < n) (hj : j < n) (hk : k < n) (hA : tP pa pb pc pd i a ≠ 0) (h1 : onE (tP pa pb pc pd) a n U V i j) (h2 : onE (tP pa pb pc pd) a n U V i k) : fs j = fs k ↔ pv_par (tP pa pb pc pd j) (tP pa pb pc pd k) := by
  have k1 := (E_on h hi hj hA).mpr h1
  have k2 := (E_on h hi hk hA).mpr h2
  rw [← pv_line (tP pa pb pc pd) ha] at k1 k2
  have hw := eW_pos hA
  exact fo_on (fun i hi => tI_nz h hi) h.2.2.2.2.2 hj hk (by omega) k1 k2
theorem E_self {P : Nat → Nat → Int} {U V : Int} {i : Nat} (hA : P i a ≠ 0) : onE P a n U V i i := Or.inl ⟨hA, rfl⟩
/-- the first plane that is one with a plane lies at the same place -/
theorem E_first (h : tI g n fs pa pb pc pd nf ff) (ha : a < 3) {U V : Int} {i : Nat} (hi : i < n) (hA : tP pa pb pc pd i a ≠ 0) : fs i < n ∧ fs (fs i) = fs i ∧ tP pa pb pc pd (fs i) a ≠ 0 ∧ eP (tP pa pb pc pd) a n U V (fs i) = eP (tP pa pb pc pd) a n U V i := by
  obtain ⟨q1, q2, q3⟩ := h.2.2.2.2.2 i hi
  have hl : fs i < n := by omega
  have hid := fo_idem (fun i hi => tI_nz h hi) h.2.2.2.2.2 hi
  have hne : tP pa pb pc pd (fs i) a ≠ 0 := by
    intro z
    obtain ⟨m, hm, hmz⟩ := tI_nz h hl
    have := q3 a m (by omega) (by omega)
    rw [z, Int.zero_mul] at this
    rcases Int.mul_eq_zero.mp this.symm with k | k
    · exact hmz k
    · exact hA k
  have hs : pv_at (tP pa pb pc pd i) (eX a (eS (tP pa pb pc pd i a) (eT (tP pa pb pc pd) a U V i)) U V (eW (tP pa pb pc pd i a))) (eY a (eS (tP pa pb pc pd i a) (eT (tP pa pb pc pd) a U V i)) U V (eW (tP pa pb pc pd i a))) (eZ a (eS (tP pa pb pc pd i a) (eT (tP pa pb pc pd) a U V i)) U V (eW (tP pa pb pc pd i a))) (eW (tP pa pb pc pd i a)) = 0 := by
    rw [pv_line (tP pa pb pc pd) ha]
    exact (E_on h hi hi hA).mpr (E_self hA)
  have hs2 := pv_one_at (tI_nz h hi) (pv_one_symm q3) hs
  rw [pv_line (tP pa pb pc pd) ha] at hs2
  rcases (E_on h hi hl hA).mp hs2 with k | k
  · exact ⟨hl, hid, hne, k.2.symm⟩
  · exact absurd k.1 hne
theorem dn_0 (h : tI g n fs pa pb pc pd nf ff) (ha : a < 3) (hu : -999 ≤ u.toInt ∧ u.toInt ≤ 999) (hv : -999 ≤ v.toInt ∧ v.toInt ≤ 999) {k : Nat} (hk : k < g) : (v_dn nf a k ≤ 0 ↔ tP pa pb pc pd (6 + k) a = 0) ∧ (v_dn nf a k = 0 ↔ tP pa pb pc pd (6 + k) a = 0) := by
  have h2 := (tp_ib h ha hu hv hk).2
  rw [IB_le h2 IB_0, IB_eq h2 IB_0]
  unfold eW
  split <;> omega
theorem key_k (h : tI g n fs pa pb pc pd nf ff) (ha : a < 3) (hu : -999 ≤ u.toInt ∧ u.toInt ≤ 999) (hv : -999 ≤ v.toInt ∧ v.toInt ≤ 999) {k : Nat} (hk : k < g) : eKy (tP pa pb pc pd) a n (v_tp nf ff a u v k, v_dn nf a k) = eP (tP pa pb pc pd) a n u.toInt v.toInt (6 + k) := by
  obtain ⟨h1, h2⟩ := tp_ib h ha hu hv hk
  unfold eKy eP
  rw [h1.1, h2.1]
theorem key_e (P : Nat → Nat → Int) : eKy P a n (-1000, 1) = -(1000 * eM P a n) ∧ eKy P a n (1000, 1) = 1000 * eM P a n := by
  unfold eKy eK
  rw [show ((-1000 : Int64), (1 : Int64)).1.toInt = -1000 by decide, show ((-1000 : Int64), (1 : Int64)).2.toInt = 1 by decide, show ((1000 : Int64), (1 : Int64)).1.toInt = 1000 by decide, Int.ediv_one]
  omega
/-- the line lies in a given plane -/
theorem lo_n (h : tI g n fs pa pb pc pd nf ff) (ha : a < 3) (hu : -999 ≤ u.toInt ∧ u.toInt ≤ 999) (hv : -999 ≤ v.toInt ∧ v.toInt ≤ 999) {k : Nat} (hk : k < g) : v_lo nf ff a u v k = true ↔ tP pa pb pc pd (6 + k) a = 0 ∧ eT (tP pa pb pc pd) a u.toInt v.toInt (6 + k) = 0 := by
  unfold v_lo
  rw [Bool.and_eq_true, decide_eq_true_eq, decide_eq_true_eq, IB_eq (sl_ib h ha hk).1 IB_0, IB_eq (mt_ib h ha hu hv hk) IB_0]
theorem any_iff {f : Nat → Bool} {n : Nat} : m_any f n = true ↔ ∃ k, k < n ∧ f k = true := by
  unfold m_any
  rw [List.any_eq_true]
  exact ⟨fun ⟨k, h1, h2⟩ => ⟨k, List.mem_range.mp h1, h2⟩, fun ⟨k, h1, h2⟩ => ⟨k, List.mem_range.mpr h1, h2⟩⟩
/-- two planes cross on the line, within the box -/
theorem crs_n (h : tI g n fs pa pb pc pd nf ff) (ha : a < 3) (hu : -999 ≤ u.toInt ∧ u.toInt ≤ 999) (hv : -999 ≤ v.toInt ∧ v.toInt ≤ 999) {k : Nat} (hk : k < g) : v_crs nf (v_tp nf ff a u v) (v_dn nf a) a k = true ↔ evP (tP pa pb pc pd) a n u.toInt v.toInt (6 + k) ∧ (((eP (tP pa pb pc pd) a n u.toInt v.toInt (6 + k) = -(1000 * eM (tP pa pb pc pd) a n) ∨ eP (tP pa pb pc pd) a n u.toInt v.toInt (6 + k) = 1000 * eM (tP pa pb pc pd) a n) ∧ ¬ pv_par (tP pa pb pc pd (2 * a)) (tP pa pb pc pd (6 + k))) ∨
    ∃ m, m < k ∧ tP pa pb pc pd (6 + m) a ≠ 0 ∧ eP (tP pa pb pc pd) a n u.toInt v.toInt (6 + k) = eP (tP pa pb pc pd) a n u.toInt v.toInt (6 + m) ∧ ¬ pv_par (tP pa pb pc pd (6 + k)) (tP pa pb pc pd (6 + m))) := by
  have hg := h.2.1
  have hK := keys_ok h ha hu hv
  obtain ⟨ke1, ke2⟩ := key_e (a := a) (n := n) (tP pa pb pc pd)
  have hdk := dn_0 h ha hu hv hk
  have kk := key_k h ha hu hv hk
  by_cases hz : tP pa pb pc pd (6 + k) a = 0
  · constructor
    · intro z
      unfold v_crs v_ib at z
      rw [decide_eq_true (hdk.1.mpr hz)] at z
      simp at z
    · rintro ⟨⟨z, -⟩, -⟩
      exact absurd hz z
  · have hS : v_S nf ff g a u v (v_tp nf ff a u v k, v_dn nf a k) := Or.inr (Or.inr ⟨k, hk, fun z => hz (hdk.1.mp z), rfl⟩)
    have c1 := hK _ _ hS (Or.inl rfl)
    have c2 := hK _ _ hS (Or.inr (Or.inl rfl))
    rw [kk, ke1] at c1
    rw [kk, ke2] at c2
    have hal := (alike_n h (p := 10 + a) (q := k) (Or.inr (by omega)) (Or.inl hk)).1
    rw [show v_c (10 + a) = 2 * a from by unfold v_c; rw [if_neg (by omega), if_pos (by omega)]; omega, c_k (k := k) (by omega)] at hal
    have hxm : m_any (v_xm nf (v_tp nf ff a u v) (v_dn nf a) k) k = true ↔ ∃ m, m < k ∧ tP pa pb pc pd (6 + m) a ≠ 0 ∧ eP (tP pa pb pc pd) a n u.toInt v.toInt (6 + k) = eP (tP pa pb pc pd) a n u.toInt v.toInt (6 + m) ∧ ¬ pv_par (tP pa pb pc pd (6 + k)) (tP pa pb pc pd (6 + m)) := by
      rw [any_iff]
      have each : ∀ m, m < k → (v_xm nf (v_tp nf ff a u v) (v_dn nf a) k m = true ↔ tP pa pb pc pd (6 + m) a ≠ 0 ∧ eP (tP pa pb pc pd) a n u.toInt v.toInt (6 + k) = eP (tP pa pb pc pd) a n u.toInt v.toInt (6 + m) ∧ ¬ pv_par (tP pa pb pc pd (6 + k)) (tP pa pb pc pd (6 + m))) := by
        intro m hm
        have hdm := dn_0 h ha hu hv (k := m) (by omega)
        unfold v_xm
        rw [Bool.and_eq_true, Bool.and_eq_true, Bool.not_eq_true', decide_eq_false_iff_not, decide_eq_true_eq, decide_eq_true_eq, hdm.1]
        have ham := (alike_n h (p := k) (q := m) (Or.inl hk) (Or.inl (by omega))).1
        rw [c_k (k := k) (by omega), c_k (k := m) (by omega)] at ham
        rw [ham]
        by_cases hzm : tP pa pb pc pd (6 + m) a = 0
        · exact ⟨fun z => absurd hzm z.1, fun z => absurd hzm z.1⟩
        · have c3 := hK _ _ hS (Or.inr (Or.inr ⟨m, by omega, fun z => hzm (hdm.1.mp z), rfl⟩))
          rw [kk, key_k h ha hu hv (k := m) (by omega)] at c3
          rw [i32_0]
          have c31 := c3.1
          have c32 := c3.2
          simp only at c31 c32
          rw [c31, c32]
          exact ⟨fun ⟨z1, z2, z3⟩ => ⟨z1, by omega, z3⟩, fun ⟨z1, z2, z3⟩ => ⟨z1, by omega, z3⟩⟩
      exact ⟨fun ⟨m, hm, k2⟩ => ⟨m, hm, (each m hm).mp k2⟩, fun ⟨m, hm, k2⟩ => ⟨m, hm, (each m hm).mpr k2⟩⟩
    have c11 := c1.1
    have c12 := c1.2
    have c21 := c2.1
    have c22 := c2.2
    simp only at c11 c12 c21 c22
    unfold v_crs v_ib v_end evP
    rw [Bool.and_eq_true, Bool.and_eq_true, Bool.and_eq_true, Bool.not_eq_true', Bool.not_eq_true', Bool.not_eq_true', decide_eq_false_iff_not, decide_eq_false_iff_not, decide_eq_false_iff_not, hdk.1, Bool.or_eq_true, Bool.and_eq_true, Bool.or_eq_true, decide_eq_true_eq, decide_eq_true_eq, decide_eq_true_eq, hal, hxm, i32_0 (v_cmp _ _ (-1000) 1), i32_0 (v_cmp _ _ 1000 1), c11, c12, c21, c22]
    constructor
    · rintro ⟨⟨z1, z2, z3⟩, z4⟩
      refine ⟨⟨z1, by omega, by omega⟩, ?_⟩
      rcases z4 with ⟨z4, z5⟩ | z4
      · exact Or.inl ⟨by omega, z5⟩
      · exact Or.inr z4
    · rintro ⟨⟨z1, z2, z3⟩, z4⟩
      refine ⟨⟨z1, by omega, by omega⟩, ?_⟩
      rcases z4 with ⟨z4, z5⟩ | z4
      · exact Or.inl ⟨by omega, z5⟩
      · exact Or.inr z4
end
