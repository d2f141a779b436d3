/-! Planes as vectors of whole numbers: when two are one, which way they look. -/
/-- the numbers of two planes stand in one proportion: 0, 1, 2 the normal, 3 the distance -/
def pv_one (p q : Nat → Int) : Prop := ∀ x y, x < 4 → y < 4 → p x * q y = p y * q x
/-- the normals alone -/
def pv_par (p q : Nat → Int) : Prop := ∀ x y, x < 3 → y < 3 → p x * q y = p y * q x
def pv_nz (p : Nat → Int) : Prop := ∃ x, x < 3 ∧ p x ≠ 0
def pv_dot (p q : Nat → Int) : Int := p 0 * q 0 + p 1 * q 1 + p 2 * q 2
/-- what a plane says at a point (x, y, z) / w -/
def pv_at (p : Nat → Int) (x y z w : Int) : Int := p 0 * x + p 1 * y + p 2 * z - p 3 * w
theorem pv_one_par {p q : Nat → Int} (h : pv_one p q) : pv_par p q := fun x y hx hy => h x y (by omega) (by omega)
theorem pv_one_symm {p q : Nat → Int} (h : pv_one p q) : pv_one q p := fun x y hx hy => by
  have := h y x hy hx
  rw [Int.mul_comm (q x), Int.mul_comm (q y)]
  exact this
theorem pv_par_symm {p q : Nat → Int} (h : pv_par p q) : pv_par q p := fun x y hx hy => by
  have := h y x hy hx
  rw [Int.mul_comm (q x), Int.mul_comm (q y)]
  exact this
theorem pv_one_refl (p : Nat → Int) : pv_one p p := fun x y _ _ => Int.mul_comm _ _
theorem pv_cancel {a b c : Int} (hc : c ≠ 0) (h : a * c = b * c) : a = b := Int.eq_of_mul_eq_mul_right hc h
theorem pv_one_trans {p q r : Nat → Int} (hq : pv_nz q) (h1 : pv_one p q) (h2 : pv_one q r) : pv_one p r := by
  obtain ⟨m, hm, hne⟩ := hq
  intro x y hx hy
  have e1 := h1 x m hx (by omega)
  have e2 := h1 y m hy (by omega)
  have e3 := h2 m y (by omega) hy
  have e4 := h2 m x (by omega) hx
  apply pv_cancel (c := q m * q m) (Int.mul_ne_zero hne hne)
  grind
theorem pv_par_trans {p q r : Nat → Int} (hq : pv_nz q) (h1 : pv_par p q) (h2 : pv_par q r) : pv_par p r := by
  obtain ⟨m, hm, hne⟩ := hq
  intro x y hx hy
  have e1 := h1 x m hx (by omega)
  have e2 := h1 y m hy (by omega)
  have e3 := h2 m y (by omega) hy
  have e4 := h2 m x (by omega) hx
  apply pv_cancel (c := q m * q m) (Int.mul_ne_zero hne hne)
  grind
/-- two planes with one direction through one point are one -/
theorem pv_meet {p q : Nat → Int} {x y z w : Int} (hw : w ≠ 0) (h : pv_par p q) (hp : pv_at p x y z w = 0) (hq : pv_at q x y z w = 0) : pv_one p q := by
  have h01 := h 0 1 (by omega) (by omega)
  have h02 := h 0 2 (by omega) (by omega)
  have h12 := h 1 2 (by omega) (by omega)
  simp only [pv_at] at hp hq
  have d0 : p 0 * q 3 = p 3 * q 0 := pv_cancel hw (by grind)
  have d1 : p 1 * q 3 = p 3 * q 1 := pv_cancel hw (by grind)
  have d2 : p 2 * q 3 = p 3 * q 2 := pv_cancel hw (by grind)
  intro a b ha hb
  rcases (by omega : a = 0 ∨ a = 1 ∨ a = 2 ∨ a = 3) with rfl | rfl | rfl | rfl <;> rcases (by omega : b = 0 ∨ b = 1 ∨ b = 2 ∨ b = 3) with rfl | rfl | rfl | rfl <;> grind
/-- planes that are one have their points together -/
theorem pv_one_at {p q : Nat → Int} {x y z w : Int} (hn : pv_nz p) (h : pv_one p q) (hp : pv_at p x y z w = 0) : pv_at q x y z w = 0 := by
  obtain ⟨m, hm, hne⟩ := hn
  have e0 := h m 0 (by omega) (by omega)
  have e1 := h m 1 (by omega) (by omega)
  have e2 := h m 2 (by omega) (by omega)
  have e3 := h m 3 (by omega) (by omega)
  simp only [pv_at] at hp ⊢
  apply pv_cancel hne
  have : (q 0 * x + q 1 * y + q 2 * z - q 3 * w) * p m = q m * (p 0 * x + p 1 * y + p 2 * z - p 3 * w) := by grind
  rw [this, hp]
  simp
theorem pv_self (a : Int) : 0 ≤ a * a := by
  by_cases h : 0 ≤ a
  · exact Int.mul_nonneg h h
  · have h2 : 0 ≤ (-a) * (-a) := Int.mul_nonneg (by omega) (by omega)
    rwa [Int.neg_mul_neg] at h2
theorem pv_sq {p q : Nat → Int} (h : pv_par p q) (i j : Nat) (hi : i < 3) (hj : j < 3) : 0 ≤ (p i * q i) * (p j * q j) := by
  have e := h i j hi hj
  have : (p i * q i) * (p j * q j) = (p i * q j) * (p i * q j) := by grind
  rw [this]
  exact pv_self _
theorem pv_sgn {a b : Int} (h : 0 ≤ a * b) (ha : 0 < a) : 0 ≤ b := by
  by_cases hb : 0 ≤ b
  · exact hb
  · exfalso
    have : a * b < 0 := Int.mul_neg_of_pos_of_neg ha (by omega)
    omega
theorem pv_sgn' {a b : Int} (h : 0 ≤ a * b) (ha : a < 0) : b ≤ 0 := by
  by_cases hb : b ≤ 0
  · exact hb
  · exfalso
    have : a * b < 0 := Int.mul_neg_of_neg_of_pos ha (by omega)
    omega
/-- with one direction, some product of the two normals is not 0 -/
theorem pv_par_ne {p q : Nat → Int} (hp : pv_nz p) (hq : pv_nz q) (h : pv_par p q) : p 0 * q 0 ≠ 0 ∨ p 1 * q 1 ≠ 0 ∨ p 2 * q 2 ≠ 0 := by
  obtain ⟨i, hi, hpi⟩ := hp
  obtain ⟨j, hj, hqj⟩ := hq
  have hij : p i * q j ≠ 0 := Int.mul_ne_zero hpi hqj
  have e := h i j hi hj
  have h2 : (p i * q i) * (p j * q j) = (p i * q j) * (p i * q j) := by grind
  have h3 : (p i * q i) * (p j * q j) ≠ 0 := by rw [h2]; exact Int.mul_ne_zero hij hij
  have h4 : p i * q i ≠ 0 := fun k => h3 (by rw [k]; simp)
  rcases (by omega : i = 0 ∨ i = 1 ∨ i = 2) with rfl | rfl | rfl
  · exact Or.inl h4
  · exact Or.inr (Or.inl h4)
  · exact Or.inr (Or.inr h4)
/-- the sign of the last product that is not 0 -/
def pv_last (a b c : Int) : Int := if c > 0 then 1 else if c < 0 then -1 else if b > 0 then 1 else if b < 0 then -1 else if a > 0 then 1 else if a < 0 then -1 else 0
theorem pv_last_dot {p q : Nat → Int} (hp : pv_nz p) (hq : pv_nz q) (h : pv_par p q) : (0 < pv_last (p 0 * q 0) (p 1 * q 1) (p 2 * q 2) ↔ 0 < pv_dot p q) ∧ pv_last (p 0 * q 0) (p 1 * q 1) (p 2 * q 2) ≠ 0 := by
  have hne := pv_par_ne hp hq h
  have s01 := pv_sq h 0 1 (by omega) (by omega)
  have s02 := pv_sq h 0 2 (by omega) (by omega)
  have s12 := pv_sq h 1 2 (by omega) (by omega)
  have s10 := pv_sq h 1 0 (by omega) (by omega)
  have s20 := pv_sq h 2 0 (by omega) (by omega)
  have s21 := pv_sq h 2 1 (by omega) (by omega)
  simp only [pv_dot]
  generalize p 0 * q 0 = a at *
  generalize p 1 * q 1 = b at *
  generalize p 2 * q 2 = c at *
  have f1 := @pv_sgn a b s01
  have f2 := @pv_sgn a c s02
  have f3 := @pv_sgn b c s12
  have f4 := @pv_sgn b a s10
  have f5 := @pv_sgn c a s20
  have f6 := @pv_sgn c b s21
  have g1 := @pv_sgn' a b s01
  have g2 := @pv_sgn' a c s02
  have g3 := @pv_sgn' b c s12
  have g4 := @pv_sgn' b a s10
  have g5 := @pv_sgn' c a s20
  have g6 := @pv_sgn' c b s21
  clear s01 s02 s12 s10 s20 s21
  unfold pv_last
  refine ⟨⟨fun k => ?_, fun k => ?_⟩, ?_⟩
  · split at k
    · omega
    · split at k
      · omega
      · split at k
        · omega
        · split at k
          · omega
          · split at k
            · omega
            · split at k <;> omega
  · repeat' split
    all_goals omega
  · repeat' split
    all_goals omega
/-- bits: the number whose bit i is f i, of the first n -/
def pb_num (f : Nat → Bool) : Nat → Nat
  | 0 => 0
  | n + 1 => pb_num f n + (if f n = true then 2 ^ n else 0)
theorem pb_lt (f : Nat → Bool) (n : Nat) : pb_num f n < 2 ^ n := by
  induction n with
  | zero => simp [pb_num]
  | succ n ih =>
    simp only [pb_num]
    split <;> omega
theorem pb_congr {f g : Nat → Bool} {n : Nat} (h : ∀ i, i < n → f i = g i) : pb_num f n = pb_num g n := by
  induction n with
  | zero => rfl
  | succ n ih =>
    simp only [pb_num]
    rw [ih (fun i hi => h i (by omega)), h n (by omega)]
theorem pb_shift (f : Nat → Bool) (k n : Nat) : pb_num f (k + n) = pb_num f k + 2 ^ k * pb_num (fun i => f (k + i)) n := by
  induction n with
  | zero => simp [pb_num]
  | succ n ih =>
    rw [show k + (n + 1) = (k + n) + 1 by omega]
    simp only [pb_num]
    rw [ih, Nat.mul_add, ← Nat.add_assoc]
    congr 1
    split
    · rw [Nat.pow_add]
    · simp
theorem pb_div (f : Nat → Bool) (k n : Nat) : pb_num f (k + n) / 2 ^ k = pb_num (fun i => f (k + i)) n := by
  rw [pb_shift, Nat.add_mul_div_left _ _ (Nat.two_pow_pos k), Nat.div_eq_of_lt (pb_lt f k)]
  simp
theorem pb_mod (f : Nat → Bool) (k n : Nat) : pb_num f (k + n) % 2 ^ k = pb_num f k := by
  rw [pb_shift, Nat.add_mul_mod_self_left, Nat.mod_eq_of_lt (pb_lt f k)]
theorem pb_all (f : Nat → Bool) (n : Nat) : pb_num f n = 2 ^ n - 1 ↔ ∀ i, i < n → f i = true := by
  induction n with
  | zero => simp [pb_num]
  | succ n ih =>
    simp only [pb_num]
    have hl := pb_lt f n
    have hp := Nat.two_pow_pos n
    constructor
    · intro h i hi
      cases hf : f n with
      | false =>
        rw [hf] at h
        simp at h
        omega
      | true =>
        rw [hf] at h
        simp at h
        by_cases hin : i = n
        · subst hin; exact hf
        · exact ih.mp (by omega) i (by omega)
    · intro h
      rw [ih.mpr (fun i hi => h i (by omega)), h n (by omega)]
      simp
      omega
