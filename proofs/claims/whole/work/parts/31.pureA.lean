/-! From machine numbers to whole numbers. -/
/-- the long a is the whole number x, of size at most B -/
def IB (a : Int64) (x B : Int) : Prop := a.toInt = x ∧ -B ≤ x ∧ x ≤ B
theorem ib_of {r : Int} (h1 : -9223372036854775808 ≤ r) (h2 : r ≤ 9223372036854775807) : r.bmod (2 ^ 64) = r := Int.bmod_eq_of_le (by omega) (by omega)
theorem ib_pm {x y A B : Int} (ha1 : -A ≤ x) (ha2 : x ≤ A) (hb1 : -B ≤ y) (hb2 : y ≤ B) : -(A * B) ≤ x * y ∧ x * y ≤ A * B := by
  have h1 : 0 ≤ (A - x) * (B + y) := Int.mul_nonneg (by omega) (by omega)
  have h2 : 0 ≤ (A + x) * (B - y) := Int.mul_nonneg (by omega) (by omega)
  have h3 : 0 ≤ (A - x) * (B - y) := Int.mul_nonneg (by omega) (by omega)
  have h4 : 0 ≤ (A + x) * (B + y) := Int.mul_nonneg (by omega) (by omega)
  have e1 : (A - x) * (B + y) = A * B + A * y - x * B - x * y := by grind
  have e2 : (A + x) * (B - y) = A * B - A * y + x * B - x * y := by grind
  have e3 : (A - x) * (B - y) = A * B - A * y - x * B + x * y := by grind
  have e4 : (A + x) * (B + y) = A * B + A * y + x * B + x * y := by grind
  omega
theorem IB_mul {a b : Int64} {x y A B : Int} (ha : IB a x A) (hb : IB b y B) (h : A * B ≤ 9223372036854775807) : IB (a * b) (x * y) (A * B) := by
  obtain ⟨h1, h2, h3⟩ := ha
  obtain ⟨k1, k2, k3⟩ := hb
  have h9 := ib_pm h2 h3 k2 k3
  refine ⟨?_, h9.1, h9.2⟩
  rw [Int64.toInt_mul, h1, k1]
  exact ib_of (by omega) (by omega)
theorem IB_add {a b : Int64} {x y A B : Int} (ha : IB a x A) (hb : IB b y B) (h : A + B ≤ 9223372036854775807) : IB (a + b) (x + y) (A + B) := by
  obtain ⟨h1, h2, h3⟩ := ha
  obtain ⟨k1, k2, k3⟩ := hb
  refine ⟨?_, by omega, by omega⟩
  rw [Int64.toInt_add, h1, k1]
  exact ib_of (by omega) (by omega)
theorem IB_sub {a b : Int64} {x y A B : Int} (ha : IB a x A) (hb : IB b y B) (h : A + B ≤ 9223372036854775807) : IB (a - b) (x - y) (A + B) := by
  obtain ⟨h1, h2, h3⟩ := ha
  obtain ⟨k1, k2, k3⟩ := hb
  refine ⟨?_, by omega, by omega⟩
  rw [Int64.toInt_sub, h1, k1]
  exact ib_of (by omega) (by omega)
theorem IB_neg {a : Int64} {x A : Int} (ha : IB a x A) (h : A ≤ 9223372036854775807) : IB (-a) (-x) A := by
  obtain ⟨h1, h2, h3⟩ := ha
  refine ⟨?_, by omega, by omega⟩
  rw [Int64.toInt_neg, h1]
  exact ib_of (by omega) (by omega)
theorem IB_w {a : Int64} {x A B : Int} (ha : IB a x A) (h : A ≤ B) : IB a x B := ⟨ha.1, by have := ha.2; omega, by have := ha.2; omega⟩
theorem IB_eq {a b : Int64} {x y A B : Int} (ha : IB a x A) (hb : IB b y B) : a = b ↔ x = y := by rw [← ha.1, ← hb.1]; exact Int64.toInt_inj.symm
theorem IB_lt {a b : Int64} {x y A B : Int} (ha : IB a x A) (hb : IB b y B) : a < b ↔ x < y := by rw [← ha.1, ← hb.1]; exact Int64.lt_iff_toInt_lt
theorem IB_le {a b : Int64} {x y A B : Int} (ha : IB a x A) (hb : IB b y B) : a ≤ b ↔ x ≤ y := by rw [← ha.1, ← hb.1]; exact Int64.le_iff_toInt_le
theorem IB_0 : IB 0 0 0 := ⟨by decide, by decide, by decide⟩
theorem IB_1 : IB 1 1 1 := ⟨by decide, by decide, by decide⟩
theorem IB_k : IB 1000 1000 1000 := ⟨by decide, by decide, by decide⟩
theorem IB_mk : IB (-1000) (-1000) 1000 := ⟨by decide, by decide, by decide⟩
theorem IB_32 {v : Int32} {B : Int} (h1 : -B ≤ v.toInt) (h2 : v.toInt ≤ B) : IB (Int32.toInt64 v) v.toInt B := ⟨by rw [Int32.toInt_toInt64], h1, h2⟩
theorem bey_f {v k : Int32} {B : Int} (hk : k.toInt = B) (hB : 0 ≤ B) (h : m_bey v k = false) : -B ≤ v.toInt ∧ v.toInt ≤ B := by
  unfold m_bey at h
  simp only [Bool.or_eq_false_iff, decide_eq_false_iff_not, Int32.not_lt] at h
  obtain ⟨h1, h2⟩ := h
  rw [Int32.le_iff_toInt_le] at h1 h2
  rw [Int32.toInt_neg, hk] at h1
  rw [hk] at h2
  have hkb := k.toInt_lt
  rw [hk] at hkb
  rw [Int.bmod_eq_of_le (by omega) (by omega)] at h1
  exact ⟨h1, h2⟩
/-- bits -/
theorem nI_and63 (a : Nat) : nI a &&& 63 = nI (a % 64) := by
  apply Int32.toBitVec_inj.1
  show BitVec.ofNat 32 a &&& 63#32 = BitVec.ofNat 32 (a % 64)
  apply BitVec.eq_of_toNat_eq
  rw [BitVec.toNat_and, BitVec.toNat_ofNat, BitVec.toNat_ofNat, BitVec.toNat_ofNat]
  rw [show (63 : Nat) % 2 ^ 32 = 2 ^ 6 - 1 by decide, Nat.and_two_pow_sub_one_eq_mod]
  omega
theorem and1 (y : Int64) : ¬ y &&& 1 = 0 ↔ y &&& 1 = 1 := by
  have h : y &&& 1 = 0 ∨ y &&& 1 = 1 := by
    rw [← Int64.toBitVec_inj, ← Int64.toBitVec_inj]
    show y.toBitVec &&& 1#64 = 0#64 ∨ y.toBitVec &&& 1#64 = 1#64
    rw [BitVec.and_one_eq_setWidth_ofBool_getLsbD]
    cases y.toBitVec.getLsbD 0
    · exact Or.inl (by decide)
    · exact Or.inr (by decide)
  constructor
  · intro h1
    rcases h with h | h
    · exact absurd h h1
    · exact h
  · intro h1 h2
    rw [h1] at h2
    exact absurd h2 (by decide)
theorem has_top {f hf : Nat → Int64} {my c : Nat} (hc : c < 256) (h : ∀ q, q < 4 → f q = hf (4 * my - 4 + q)) : m_has f c = v_top hf my c := by
  unfold m_has v_top
  rw [h (c / 64) (by omega), v_m64 c hc]
  exact decide_eq_decide.mpr (and1 _)
/-- a cell of the class: the box's six planes, and the given ones -/
theorem top_eq {f hf : Nat → Int64} {my g : Nat} {F : Nat → Bool} (hg : g ≤ 8) (h : ∀ q, q < 4 → f q = hf (4 * my - 4 + q)) : m_top f (pb_num F (6 + g)) = (m_all F 6 && v_top hf my (pb_num (fun j => F (6 + j)) g)) := by
  have h1 : pb_num F (6 + g) % 64 = pb_num F 6 := pb_mod F 6 g
  have h2 : pb_num F (6 + g) / 64 = pb_num (fun j => F (6 + j)) g := pb_div F 6 g
  unfold m_top
  rw [nI_and63, h1, h2, has_top (pb_8 _ hg) h]
  congr 1
  have h3 := pb_lt F 6
  have h4 := pb_all F 6
  cases ha : m_all F 6 with
  | true =>
    have : pb_num F 6 = 63 := h4.mpr (fun i hi => by
      unfold m_all at ha
      exact List.all_eq_true.mp ha i (List.mem_range.mpr hi))
    rw [this]
    decide
  | false =>
    apply decide_eq_false
    intro h5
    have h6 : pb_num F 6 = 63 := (nc_eq (a := pb_num F 6) (b := 63) (by omega) (by omega) rfl rfl).mp h5
    have h7 : m_all F 6 = true := by
      unfold m_all
      exact List.all_eq_true.mpr (fun i hi => h4.mp h6 i (List.mem_range.mp hi))
    rw [h7] at ha
    cases ha
theorem m_all_6 (F : Nat → Bool) : m_all F 6 = (F 0 && (F 1 && (F 2 && (F 3 && (F 4 && F 5))))) := by
  unfold m_all
  rw [show List.range 6 = [0, 1, 2, 3, 4, 5] by decide]
  simp
theorem m_any_6 (F : Nat → Bool) (g : Nat) : m_any F (6 + g) = ((F 0 || (F 1 || (F 2 || (F 3 || (F 4 || F 5))))) || m_any (fun j => F (6 + j)) g) := by
  induction g with
  | zero =>
    unfold m_any
    rw [show List.range (6 + 0) = [0, 1, 2, 3, 4, 5] by decide]
    simp
  | succ g ih =>
    rw [show 6 + (g + 1) = (6 + g) + 1 by omega, m_any_s, ih, m_any_s, Bool.or_assoc]
