/-! The first number of a plane, and the planes through a point. -/
/-- fs i is the least number of a plane that is one with the plane i -/
def fo_ok (P : Nat → Nat → Int) (fs : Nat → Nat) (m : Nat) : Prop := ∀ i, i < m → fs i ≤ i ∧ (∀ j, j < fs i → ¬ pv_one (P j) (P i)) ∧ pv_one (P (fs i)) (P i)
theorem fo_iff {P : Nat → Nat → Int} {fs : Nat → Nat} {m i j : Nat} (hn : ∀ i, i < m → pv_nz (P i)) (h : fo_ok P fs m) (hi : i < m) (hj : j < m) : fs i = fs j ↔ pv_one (P i) (P j) := by
  obtain ⟨a1, a2, a3⟩ := h i hi
  obtain ⟨b1, b2, b3⟩ := h j hj
  constructor
  · intro e
    rw [← e] at b3
    exact pv_one_trans (hn (fs i) (by omega)) (pv_one_symm a3) b3
  · intro e
    have c1 : pv_one (P (fs i)) (P j) := pv_one_trans (hn i hi) a3 e
    have c2 : pv_one (P (fs j)) (P i) := pv_one_trans (hn j hj) b3 (pv_one_symm e)
    have d1 : ¬ fs i < fs j := fun k => b2 _ k c1
    have d2 : ¬ fs j < fs i := fun k => a2 _ k c2
    omega
theorem fo_idem {P : Nat → Nat → Int} {fs : Nat → Nat} {m i : Nat} (hn : ∀ i, i < m → pv_nz (P i)) (h : fo_ok P fs m) (hi : i < m) : fs (fs i) = fs i := by
  obtain ⟨a1, a2, a3⟩ := h i hi
  exact (fo_iff hn h (by omega) hi).mpr a3
theorem fo_on {P : Nat → Nat → Int} {fs : Nat → Nat} {m i j : Nat} {x y z w : Int} (hn : ∀ i, i < m → pv_nz (P i)) (h : fo_ok P fs m) (hi : i < m) (hj : j < m) (hw : w ≠ 0) (h1 : pv_at (P i) x y z w = 0) (h2 : pv_at (P j) x y z w = 0) : fs i = fs j ↔ pv_par (P i) (P j) :=
  ⟨fun e => pv_one_par ((fo_iff hn h hi hj).mp e), fun e => (fo_iff hn h hi hj).mpr (pv_meet hw e h1 h2)⟩
/-- one more plane -/
theorem fo_add {P : Nat → Nat → Int} {fs : Nat → Nat} {m f : Nat} (h : fo_ok P fs m) (hf : f ≤ m) (h1 : ∀ j, j < f → ¬ pv_one (P j) (P m)) (h2 : f < m → pv_one (P f) (P m)) : fo_ok P (fun i => if i = m then f else fs i) (m + 1) := by
  intro i hi
  by_cases him : i = m
  · subst him
    simp only [if_true]
    refine ⟨hf, h1, ?_⟩
    by_cases hlt : f < i
    · exact h2 hlt
    · have : f = i := by omega
      rw [this]
      exact pv_one_refl _
  · simp only [him, if_false]
    exact h i (by omega)
/-- the only plane through a point, by its first number -/
def fo_only (on : Nat → Bool) (fs : Nat → Nat) (m f : Nat) : Prop := (∃ i, i < m ∧ on i = true) ∧ ∀ i, i < m → on i = true → fs i = f
def fo_none (on : Nat → Bool) (fs : Nat → Nat) (m : Nat) : Prop := (∀ i, i < m → on i = false) ∨ ∃ i j, i < m ∧ j < m ∧ on i = true ∧ on j = true ∧ fs i ≠ fs j
theorem fo_not_both {on : Nat → Bool} {fs : Nat → Nat} {m f : Nat} (h1 : fo_only on fs m f) (h2 : fo_none on fs m) : False := by
  obtain ⟨⟨i, hi, hon⟩, hall⟩ := h1
  rcases h2 with h | ⟨a, b, ha, hb, ha2, hb2, hne⟩
  · rw [h i hi] at hon
    cases hon
  · exact hne ((hall a ha ha2).trans (hall b hb hb2).symm)
