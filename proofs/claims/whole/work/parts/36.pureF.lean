/-! enters: places along the line, as whole numbers. -/
def eT (P : Nat → Nat → Int) (a : Nat) (U V : Int) (i : Nat) : Int := P i 3 - P i (v_o a) * U - P i (v_t a) * V
def eS (A T : Int) : Int := if A < 0 then -T else T
def eW (A : Int) : Int := if 0 < A then A else -A
/-- a multiple of all the slopes -/
def eM (P : Nat → Nat → Int) (a : Nat) : Nat → Int
  | 0 => 1
  | k + 1 => eM P a k * (if P k a = 0 then 1 else eW (P k a))
theorem eW_pos {A : Int} (h : A ≠ 0) : 0 < eW A := by unfold eW; split <;> omega
theorem eS_mul (A T : Int) (h : A ≠ 0) : eS A T * A = T * eW A := by
  unfold eS eW
  by_cases h1 : A < 0
  · rw [if_pos h1, if_neg (by omega), Int.neg_mul, Int.mul_neg]
  · rw [if_neg h1, if_pos (by omega)]
theorem eM_pos (P : Nat → Nat → Int) (a n : Nat) : 0 < eM P a n := by
  induction n with
  | zero => show (0 : Int) < 1; omega
  | succ n ih =>
    show 0 < eM P a n * _
    split
    · omega
    · rename_i h
      exact Int.mul_pos ih (eW_pos h)
theorem eM_dvd {P : Nat → Nat → Int} {a n i : Nat} (hi : i < n) (h : P i a ≠ 0) : eW (P i a) ∣ eM P a n := by
  induction n with
  | zero => omega
  | succ n ih =>
    show _ ∣ eM P a n * _
    by_cases hin : i = n
    · subst hin
      rw [if_neg h]
      exact Int.dvd_mul_left _ _
    · exact Int.dvd_trans (ih (by omega)) (Int.dvd_mul_right _ _)
/-- the place of a top over a down -/
def eK (M t d : Int) : Int := t * (M / d)
theorem eK_lt {M t d t2 d2 : Int} (hM : 0 < M) (hd : 0 < d) (hd2 : 0 < d2) (h : d ∣ M) (h2 : d2 ∣ M) : (t * d2 < t2 * d ↔ eK M t d < eK M t2 d2) := by
  obtain ⟨q, rfl⟩ := h
  obtain ⟨r, hr⟩ := h2
  have hq : 0 < q := by
    rcases Int.lt_trichotomy q 0 with k | k | k
    · have := Int.mul_neg_of_pos_of_neg hd k; omega
    · rw [k, Int.mul_zero] at hM; omega
    · exact k
  unfold eK
  rw [Int.mul_ediv_cancel_left q (by omega), hr, Int.mul_ediv_cancel_left r (by omega)]
  have e1 : (t * d2) * q * d = (t * q) * (d * d2) := by grind
  have e2 : (t2 * d) * q * d = (t2 * r) * (d * d2) := by
    have : (t2 * d) * q * d = t2 * d * (d * q) := by grind
    rw [this, hr]
    grind
  have hdd : 0 < d * d2 := Int.mul_pos hd hd2
  have hqd : 0 < q * d := Int.mul_pos hq hd
  constructor
  · intro k
    have k2 : (t * d2) * (q * d) < (t2 * d) * (q * d) := Int.mul_lt_mul_of_pos_right k hqd
    have k3 : (t * q) * (d * d2) < (t2 * r) * (d * d2) := by grind
    exact Int.lt_of_mul_lt_mul_right k3 (by omega)
  · intro k
    have k2 : (t * q) * (d * d2) < (t2 * r) * (d * d2) := Int.mul_lt_mul_of_pos_right k hdd
    have k3 : (t * d2) * (q * d) < (t2 * d) * (q * d) := by grind
    exact Int.lt_of_mul_lt_mul_right k3 (by omega)
section
variable {P : Nat → Nat → Int} {a n : Nat} {U V : Int}
/-- the place of a plane -/
def eP (P : Nat → Nat → Int) (a n : Nat) (U V : Int) (i : Nat) : Int := eK (eM P a n) (eS (P i a) (eT P a U V i)) (eW (P i a))
theorem eP_mul {i : Nat} (hi : i < n) (h : P i a ≠ 0) : P i a * eP P a n U V i = eT P a U V i * eM P a n := by
  obtain ⟨q, hq⟩ := eM_dvd (a := a) hi h
  have hw := eW_pos h
  unfold eP eK
  rw [hq, Int.mul_ediv_cancel_left q (by omega)]
  have := eS_mul (P i a) (eT P a U V i) h
  grind
/-- what the plane j says at the place of the plane i -/
theorem eV {i j : Nat} (hi : i < n) (h : P i a ≠ 0) : ∃ q : Int, 0 < q ∧ (P j a * eS (P i a) (eT P a U V i) - eT P a U V j * eW (P i a)) * q = P j a * eP P a n U V i - eT P a U V j * eM P a n := by
  obtain ⟨q, hq⟩ := eM_dvd (a := a) hi h
  have hw := eW_pos h
  have hM := eM_pos P a n
  refine ⟨q, ?_, ?_⟩
  · rw [hq] at hM
    rcases Int.lt_trichotomy q 0 with k | k | k
    · have := Int.mul_neg_of_pos_of_neg hw k; omega
    · rw [k, Int.mul_zero] at hM; omega
    · exact k
  · unfold eP eK
    rw [hq, Int.mul_ediv_cancel_left q (by omega)]
    grind
theorem sgn_q {x y q : Int} (hq : 0 < q) (h : x * q = y) : (x = 0 ↔ y = 0) ∧ (x < 0 ↔ y < 0) := by
  rcases Int.lt_trichotomy x 0 with k | k | k
  · have := Int.mul_neg_of_neg_of_pos k hq
    exact ⟨by omega, by omega⟩
  · subst k
    rw [Int.zero_mul] at h
    exact ⟨by omega, by omega⟩
  · have := Int.mul_pos k hq
    exact ⟨by omega, by omega⟩
/-- .. along the line -/
theorem eV0 {i j : Nat} (hi : i < n) (h : P i a ≠ 0) (hj : P j a = 0) : (P j a * eS (P i a) (eT P a U V i) - eT P a U V j * eW (P i a) = 0 ↔ eT P a U V j = 0) ∧ (P j a * eS (P i a) (eT P a U V i) - eT P a U V j * eW (P i a) < 0 ↔ 0 < eT P a U V j) := by
  have hw := eW_pos h
  rw [hj, Int.zero_mul, Int.zero_sub]
  rcases Int.lt_trichotomy (eT P a U V j) 0 with k | k | k
  · have := Int.mul_neg_of_neg_of_pos k hw
    exact ⟨by omega, by omega⟩
  · rw [k, Int.zero_mul]
    exact ⟨by omega, by omega⟩
  · have := Int.mul_pos k hw
    exact ⟨by omega, by omega⟩
theorem eV1 {i j : Nat} (hi : i < n) (h : P i a ≠ 0) (hjn : j < n) (hj : P j a ≠ 0) : (P j a * eS (P i a) (eT P a U V i) - eT P a U V j * eW (P i a) = 0 ↔ eP P a n U V i = eP P a n U V j) ∧ (P j a * eS (P i a) (eT P a U V i) - eT P a U V j * eW (P i a) < 0 ↔ (0 < P j a ∧ eP P a n U V i < eP P a n U V j) ∨ (P j a < 0 ∧ eP P a n U V j < eP P a n U V i)) := by
  obtain ⟨q, hq, he⟩ := eV (U := U) (V := V) (j := j) hi h
  obtain ⟨s1, s2⟩ := sgn_q hq he
  rw [s1, s2, ← eP_mul hjn hj, ← Int.mul_sub]
  generalize eP P a n U V i = X
  generalize eP P a n U V j = Y
  rcases Int.lt_or_gt_of_ne hj with k | k
  · rcases Int.lt_trichotomy (X - Y) 0 with k2 | k2 | k2
    · have := Int.mul_pos_of_neg_of_neg k k2
      exact ⟨by omega, by omega⟩
    · rw [k2, Int.mul_zero]
      exact ⟨by omega, by omega⟩
    · have := Int.mul_neg_of_neg_of_pos k k2
      exact ⟨by omega, by omega⟩
  · rcases Int.lt_trichotomy (X - Y) 0 with k2 | k2 | k2
    · have := Int.mul_neg_of_pos_of_neg k k2
      exact ⟨by omega, by omega⟩
    · rw [k2, Int.mul_zero]
      exact ⟨by omega, by omega⟩
    · have := Int.mul_pos k k2
      exact ⟨by omega, by omega⟩
end
