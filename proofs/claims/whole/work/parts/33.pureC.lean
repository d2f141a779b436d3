/-! side: the class against the model. -/
theorem nI_ne1 {f : Nat} (h : f < 14) : nI f ≠ -1 := by
  intro z
  have := congrArg Int32.toNatClampNeg z
  rw [nI_clamp (by omega)] at this
  have h2 : (-1 : Int32).toNatClampNeg = 0 := by decide
  rw [h2] at this
  subst this
  exact absurd z (by decide)
theorem fnd_an {on : Nat → Bool} {fs : Nat → Nat} (hfs : ∀ i, fs i < 14) : ∀ k, (m_fnd on fs k = none → ∃ i j, i < k ∧ j < k ∧ on i = true ∧ on j = true ∧ fs i ≠ fs j) ∧ ∀ v, m_fnd on fs k = some v → (v = -1 ∧ ∀ i, i < k → on i = false) ∨ ∃ f, v = nI f ∧ f < 14 ∧ fo_only on fs k f := by
  intro k
  induction k with
  | zero => exact ⟨(fun h => by cases h), fun v h => by cases h; exact Or.inl ⟨rfl, fun i hi => absurd hi (Nat.not_lt_zero i)⟩⟩
  | succ k ih =>
    obtain ⟨ih1, ih2⟩ := ih
    have h14 := hfs k
    cases hf : m_fnd on fs k with
    | none =>
      obtain ⟨i, j, hi, hj, h1, h2, h3⟩ := ih1 hf
      have hn := m_fnd_none hf (k + 1) (by omega)
      refine ⟨fun _ => ⟨i, j, by omega, by omega, h1, h2, h3⟩, fun v hv => ?_⟩
      rw [hn] at hv
      cases hv
    | some v =>
      cases ho : on k with
      | false =>
        have hs := m_fnd_s1 hf ho
        refine ⟨(fun h => by rw [hs] at h; cases h), fun w hw => ?_⟩
        rw [hs] at hw
        cases hw
        rcases ih2 v hf with ⟨h1, h2⟩ | ⟨f, h1, h2, ⟨i, hi, hi2⟩, h4⟩
        · refine Or.inl ⟨h1, fun i hi => ?_⟩
          by_cases hik : i = k
          · rw [hik]; exact ho
          · exact h2 i (by omega)
        · refine Or.inr ⟨f, h1, h2, ⟨i, by omega, hi2⟩, fun i hi hon => ?_⟩
          by_cases hik : i = k
          · rw [hik, ho] at hon; cases hon
          · exact h4 i (by omega) hon
      | true =>
        rcases ih2 v hf with ⟨h1, h2⟩ | ⟨f, h1, h2, ⟨i, hi, hi2⟩, h4⟩
        · have hs := m_fnd_s2 hf ho (Or.inl h1)
          refine ⟨(fun h => by rw [hs] at h; cases h), fun w hw => ?_⟩
          rw [hs] at hw
          cases hw
          refine Or.inr ⟨fs k, rfl, h14, ⟨k, by omega, ho⟩, fun i hi hon => ?_⟩
          by_cases hik : i = k
          · rw [hik]
          · rw [h2 i (by omega)] at hon; cases hon
        · by_cases hff : f = fs k
          · have hs := m_fnd_s2 hf ho (Or.inr (by rw [h1, hff]))
            refine ⟨(fun h => by rw [hs] at h; cases h), fun w hw => ?_⟩
            rw [hs] at hw
            cases hw
            refine Or.inr ⟨fs k, rfl, h14, ⟨k, by omega, ho⟩, fun i hi hon => ?_⟩
            by_cases hik : i = k
            · rw [hik]
            · rw [← hff]; exact h4 i (by omega) hon
          · have hs := m_fnd_n hf ho (by rw [h1]; exact nI_ne1 h2) (by rw [h1]; exact fun z => hff ((nI_eq (by omega) (by omega)).mp z))
            refine ⟨fun _ => ⟨i, k, by omega, by omega, hi2, ho, by rw [h4 i hi hi2]; exact hff⟩, fun w hw => ?_⟩
            rw [hs] at hw
            cases hw
theorem only_an {on : Nat → Bool} {fs : Nat → Nat} (hfs : ∀ i, fs i < 14) (n : Nat) : (m_only on fs n = -1 ∧ fo_none on fs n) ∨ ∃ f, m_only on fs n = nI f ∧ f < 14 ∧ fo_only on fs n f := by
  obtain ⟨h1, h2⟩ := fnd_an hfs (on := on) n
  unfold m_only
  cases hf : m_fnd on fs n with
  | none => exact Or.inl ⟨rfl, Or.inr (h1 hf)⟩
  | some v =>
    rcases h2 v hf with ⟨h3, h4⟩ | h3
    · exact Or.inl ⟨h3, Or.inl h4⟩
    · exact Or.inr h3
/-- a plane of the model among the class's -/
def v_c (p : Nat) : Nat := if p < 10 then 6 + p else if p < 13 then 2 * (p - 10) else 2 * (p - 13) + 1
section
variable {g n : Nat} {fs : Nat → Nat} {pa pb pc pd : Nat → Int64} {nf ff : Nat → Int32}
def v_ok (g p : Nat) : Prop := p < g ∨ (10 ≤ p ∧ p < 16)
theorem c_lt (h : tI g n fs pa pb pc pd nf ff) {p : Nat} (hp : v_ok g p) : v_c p < n := by
  have hn := h.1
  have hg := h.2.1
  unfold v_c
  unfold v_ok at hp
  split
  · omega
  · split <;> omega
theorem nor_ib (h : tI g n fs pa pb pc pd nf ff) {p i : Nat} (hp : v_ok g p) (hi : i < 3) : IB (v_a nf p i) (tP pa pb pc pd (v_c p) i) 1000000 := by
  have hg := h.2.1
  have hb := tI_ib h (c_lt h hp)
  have hib : IB (v_a nf p i) (v_nor nf p i).toInt 1000000 → (v_nor nf p i).toInt = tP pa pb pc pd (v_c p) i → IB (v_a nf p i) (tP pa pb pc pd (v_c p) i) 1000000 := fun k1 k2 => by rw [← k2]; exact k1
  have hb3 : -1000000 ≤ tP pa pb pc pd (v_c p) i ∧ tP pa pb pc pd (v_c p) i ≤ 1000000 := by
    obtain ⟨b0, b1, b2, -⟩ := hb
    rcases (show i = 0 ∨ i = 1 ∨ i = 2 by omega) with rfl | rfl | rfl
    · exact b0.2
    · exact b1.2
    · exact b2.2
  have he : (v_nor nf p i).toInt = tP pa pb pc pd (v_c p) i := by
    rcases hp with hp | hp
    · obtain ⟨h1, h2, h3, -⟩ := tI_k h hp
      have hc : v_c p = 6 + p := by unfold v_c; rw [if_pos (by omega)]
      rw [hc]
      unfold v_nor
      rw [if_neg (by omega)]
      rcases (show i = 0 ∨ i = 1 ∨ i = 2 by omega) with rfl | rfl | rfl
      · exact h1.symm
      · exact h2.symm
      · exact h3.symm
    · have hc6 : v_c p < 6 := by
        unfold v_c
        rw [if_neg (by omega)]
        split <;> omega
      obtain ⟨h1, h2, h3, -⟩ := tI_b h hc6
      rcases (show p = 10 ∨ p = 11 ∨ p = 12 ∨ p = 13 ∨ p = 14 ∨ p = 15 by omega) with rfl | rfl | rfl | rfl | rfl | rfl <;> rcases (show i = 0 ∨ i = 1 ∨ i = 2 by omega) with rfl | rfl | rfl <;> first | exact h1.symm | exact h2.symm | exact h3.symm
  refine hib ?_ he
  rw [← he] at hb3
  exact IB_32 hb3.1 hb3.2
theorem alike_n (h : tI g n fs pa pb pc pd nf ff) {p q : Nat} (hp : v_ok g p) (hq : v_ok g q) : (v_alike nf p q = 0 ↔ ¬ pv_par (tP pa pb pc pd (v_c p)) (tP pa pb pc pd (v_c q))) ∧ (pv_par (tP pa pb pc pd (v_c p)) (tP pa pb pc pd (v_c q)) → (v_alike nf p q ≤ 0 ↔ ¬ 0 < pv_dot (tP pa pb pc pd (v_c p)) (tP pa pb pc pd (v_c q)))) := by
  have a0 := nor_ib h hp (i := 0) (by omega)
  have a1 := nor_ib h hp (i := 1) (by omega)
  have a2 := nor_ib h hp (i := 2) (by omega)
  have b0 := nor_ib h hq (i := 0) (by omega)
  have b1 := nor_ib h hq (i := 1) (by omega)
  have b2 := nor_ib h hq (i := 2) (by omega)
  generalize hP : tP pa pb pc pd (v_c p) = P at *
  generalize hQ : tP pa pb pc pd (v_c q) = Q at *
  have np : pv_nz P := by rw [← hP]; exact tI_nz h (c_lt h hp)
  have nq : pv_nz Q := by rw [← hQ]; exact tI_nz h (c_lt h hq)
  have e01 : v_a nf p 0 * v_a nf q 1 = v_a nf p 1 * v_a nf q 0 ↔ P 0 * Q 1 = P 1 * Q 0 := IB_eq (IB_mul a0 b1 (by decide)) (IB_mul a1 b0 (by decide))
  have e12 : v_a nf p 1 * v_a nf q 2 = v_a nf p 2 * v_a nf q 1 ↔ P 1 * Q 2 = P 2 * Q 1 := IB_eq (IB_mul a1 b2 (by decide)) (IB_mul a2 b1 (by decide))
  have e20 : v_a nf p 2 * v_a nf q 0 = v_a nf p 0 * v_a nf q 2 ↔ P 2 * Q 0 = P 0 * Q 2 := IB_eq (IB_mul a2 b0 (by decide)) (IB_mul a0 b2 (by decide))
  have hs : v_same nf p q 3 = true ↔ pv_par P Q := by
    have hu : v_same nf p q 3 = (((true && decide (v_a nf p 0 * v_a nf q 1 = v_a nf p 1 * v_a nf q 0)) && decide (v_a nf p 1 * v_a nf q 2 = v_a nf p 2 * v_a nf q 1)) && decide (v_a nf p 2 * v_a nf q 0 = v_a nf p 0 * v_a nf q 2)) := rfl
    rw [hu]
    simp only [Bool.true_and, Bool.and_eq_true, decide_eq_true_eq, e01, e12, e20]
    constructor
    · rintro ⟨⟨k1, k2⟩, k3⟩ x y hx hy
      rcases (show x = 0 ∨ x = 1 ∨ x = 2 by omega) with rfl | rfl | rfl <;> rcases (show y = 0 ∨ y = 1 ∨ y = 2 by omega) with rfl | rfl | rfl <;> first | rfl | omega
    · intro k
      exact ⟨⟨k 0 1 (by omega) (by omega), k 1 2 (by omega) (by omega)⟩, k 2 0 (by omega) (by omega)⟩
  have m0 := IB_mul a0 b0 (by decide)
  have m1 := IB_mul a1 b1 (by decide)
  have m2 := IB_mul a2 b2 (by decide)
  have hg : (v_sign nf p q 3).toInt = pv_last (P 0 * Q 0) (P 1 * Q 1) (P 2 * Q 2) := by
    have hu : v_sign nf p q 3 = if v_a nf p 2 * v_a nf q 2 ≤ 0 then (if 0 ≤ v_a nf p 2 * v_a nf q 2 then (if v_a nf p 1 * v_a nf q 1 ≤ 0 then (if 0 ≤ v_a nf p 1 * v_a nf q 1 then (if v_a nf p 0 * v_a nf q 0 ≤ 0 then (if 0 ≤ v_a nf p 0 * v_a nf q 0 then 0 else -1) else 1) else -1) else 1) else -1) else 1 := rfl
    rw [hu]
    simp only [IB_le m0 IB_0, IB_le m1 IB_0, IB_le m2 IB_0, IB_le IB_0 m0, IB_le IB_0 m1, IB_le IB_0 m2]
    unfold pv_last
    generalize P 0 * Q 0 = A
    generalize P 1 * Q 1 = B
    generalize P 2 * Q 2 = C
    repeat' split
    all_goals first | omega | decide
  unfold v_alike
  constructor
  · by_cases hpar : pv_par P Q
    · rw [if_pos (hs.mpr hpar)]
      have h9 := (pv_last_dot np nq hpar).2
      constructor
      · intro z
        rw [z] at hg
        exact absurd hg.symm h9
      · intro z
        exact absurd hpar z
    · rw [if_neg (fun z => hpar (hs.mp z))]
      exact ⟨fun _ => hpar, fun _ => rfl⟩
  · intro hpar
    rw [if_pos (hs.mpr hpar), Int32.le_iff_toInt_le, hg]
    have h9 := (pv_last_dot np nq hpar).1
    have h0 : (0 : Int32).toInt = 0 := by decide
    rw [h0, ← h9]
    omega
theorem lk_n (h : tI g n fs pa pb pc pd nf ff) {i f : Nat} (hi : i < n) (hf : f < n) : m_lk (pa i) (pb i) (pc i) (pa f) (pb f) (pc f) = decide (0 < pv_dot (tP pa pb pc pd i) (tP pa pb pc pd f)) := by
  obtain ⟨a0, a1, a2, -⟩ := tI_ib h hi
  obtain ⟨b0, b1, b2, -⟩ := tI_ib h hf
  unfold m_lk
  exact decide_eq_decide.mpr (IB_lt IB_0 (IB_add (IB_add (IB_mul a0 b0 (by decide)) (IB_mul a1 b1 (by decide)) (by decide)) (IB_mul a2 b2 (by decide)) (by decide)))
theorem bx_one (h : tI g n fs pa pb pc pd nf ff) {i j : Nat} (hi : i < 6) (hj : j < 6) (ho : pv_one (tP pa pb pc pd i) (tP pa pb pc pd j)) : i = j := by
  obtain ⟨p0, p1, p2, p3⟩ := tI_b h hi
  obtain ⟨q0, q1, q2, q3⟩ := tI_b h hj
  have e0 := ho 0 3 (by omega) (by omega)
  have e1 := ho 1 3 (by omega) (by omega)
  have e2 := ho 2 3 (by omega) (by omega)
  rw [p0, q0, p3, q3] at e0
  rw [p1, q1, p3, q3] at e1
  rw [p2, q2, p3, q3] at e2
  have k0 : (m_bx 0 i).toInt = (m_bx 0 j).toInt := by omega
  have k1 : (m_bx 1 i).toInt = (m_bx 1 j).toInt := by omega
  have k2 : (m_bx 2 i).toInt = (m_bx 2 j).toInt := by omega
  have D : ∀ i, i < 6 → ∀ j, j < 6 → (m_bx 0 i).toInt = (m_bx 0 j).toInt → (m_bx 1 i).toInt = (m_bx 1 j).toInt → (m_bx 2 i).toInt = (m_bx 2 j).toInt → i = j := by decide +kernel
  exact D i hi j hj k0 k1 k2
theorem fs_bx (h : tI g n fs pa pb pc pd nf ff) {i : Nat} (hi : i < 6) : fs i = i := by
  have hn := h.1
  obtain ⟨h1, -, h3⟩ := h.2.2.2.2.2 i (by omega)
  exact bx_one h (by omega) hi h3
end
