/-! A plane more; the small conditions. -/
theorem fst_an (f : Nat → Bool) (n : Nat) : m_fst f n ≤ n ∧ (∀ j, j < m_fst f n → f j = false) ∧ (m_fst f n < n → f (m_fst f n) = true) := by
  induction n with
  | zero => exact ⟨Nat.le_refl 0, fun j hj => absurd hj (Nat.not_lt_zero j), fun h => absurd h (Nat.lt_irrefl 0)⟩
  | succ n ih =>
    obtain ⟨h1, h2, h3⟩ := ih
    simp only [m_fst]
    by_cases k : m_fst f n < n
    · rw [if_pos k]
      exact ⟨by omega, h2, fun _ => h3 k⟩
    · rw [if_neg k]
      have hn : m_fst f n = n := by omega
      rw [hn] at h2
      by_cases hf : f n = true
      · rw [if_pos hf]
        exact ⟨by omega, h2, fun _ => hf⟩
      · rw [if_neg hf]
        refine ⟨Nat.le_refl _, fun j hj => ?_, fun z => absurd z (Nat.lt_irrefl _)⟩
        by_cases hjn : j = n
        · rw [hjn]; simpa using hf
        · exact h2 j (by omega)
theorem one_n {p q : Nat → Int} {a b c d a' b' c' d' : Int64} (h0 : IB a (p 0) 1000000) (h1 : IB b (p 1) 1000000) (h2 : IB c (p 2) 1000000) (h3 : IB d (p 3) 1000000000) (k0 : IB a' (q 0) 1000000) (k1 : IB b' (q 1) 1000000) (k2 : IB c' (q 2) 1000000) (k3 : IB d' (q 3) 1000000000) : m_one a b c d a' b' c' d' = true ↔ pv_one p q := by
  unfold m_one
  simp only [Bool.and_eq_true, decide_eq_true_eq, IB_eq (IB_mul h0 k1 (by decide)) (IB_mul h1 k0 (by decide)), IB_eq (IB_mul h0 k2 (by decide)) (IB_mul h2 k0 (by decide)), IB_eq (IB_mul h1 k2 (by decide)) (IB_mul h2 k1 (by decide)), IB_eq (IB_mul h0 k3 (by decide)) (IB_mul h3 k0 (by decide)), IB_eq (IB_mul h1 k3 (by decide)) (IB_mul h3 k1 (by decide)), IB_eq (IB_mul h2 k3 (by decide)) (IB_mul h3 k2 (by decide))]
  constructor
  · rintro ⟨e1, e2, e3, e4, e5, e6⟩ x y hx hy
    rcases (show x = 0 ∨ x = 1 ∨ x = 2 ∨ x = 3 by omega) with rfl | rfl | rfl | rfl <;> rcases (show y = 0 ∨ y = 1 ∨ y = 2 ∨ y = 3 by omega) with rfl | rfl | rfl | rfl <;> first | rfl | omega
  · intro k
    exact ⟨k 0 1 (by omega) (by omega), k 0 2 (by omega) (by omega), k 1 2 (by omega) (by omega), k 0 3 (by omega) (by omega), k 1 3 (by omega) (by omega), k 2 3 (by omega) (by omega)⟩
theorem tP_up {pa pb pc pd : Nat → Int64} {n i : Nat} {qa qb qc qd : Int64} (hi : i ≠ n) : tP (va_up pa n qa) (va_up pb n qb) (va_up pc n qc) (va_up pd n qd) i = tP pa pb pc pd i := by
  unfold tP va_up
  simp only [if_neg hi]
theorem tI_add {g n : Nat} {fs : Nat → Nat} {pa pb pc pd : Nat → Int64} {nf ff : Nat → Int32} {a1 b1 c1 d1 : Int32} (h : tI g n fs pa pb pc pd nf ff) (hg8 : g < 8) (hb : m_badP a1 b1 c1 d1 = false) :
    tI (g + 1) (n + 1) (va_up fs n (m_fst (fun i => m_one (pa i) (pb i) (pc i) (pd i) (Int32.toInt64 a1) (Int32.toInt64 b1) (Int32.toInt64 c1) (Int32.toInt64 d1)) n)) (va_up pa n (Int32.toInt64 a1)) (va_up pb n (Int32.toInt64 b1)) (va_up pc n (Int32.toInt64 c1)) (va_up pd n (Int32.toInt64 d1)) (upd (upd (upd nf (3 * g) a1) (3 * g + 1) b1) (3 * g + 2) c1) (upd ff g d1) := by
  have hn := h.1
  have hib := fun i (hi : i < n) => tI_ib h hi
  obtain ⟨-, hg, hbx, hgv, hbp, hfo⟩ := h
  obtain ⟨-, q1, q2, q3, q4⟩ := badP_f hb
  obtain ⟨f1, f2, f3⟩ := fst_an (fun i => m_one (pa i) (pb i) (pc i) (pd i) (Int32.toInt64 a1) (Int32.toInt64 b1) (Int32.toInt64 c1) (Int32.toInt64 d1)) n
  generalize hr : m_fst (fun i => m_one (pa i) (pb i) (pc i) (pd i) (Int32.toInt64 a1) (Int32.toInt64 b1) (Int32.toInt64 c1) (Int32.toInt64 d1)) n = r at *
  have vs : ∀ {α : Type} (f : Nat → α) (y : α), va_up f n y n = y := fun f y => by unfold va_up; simp
  have vn : ∀ {α : Type} (f : Nat → α) (y : α) (i : Nat), i ≠ n → va_up f n y i = f i := fun f y i hi => by unfold va_up; simp [hi]
  have e0 : tP (va_up pa n (Int32.toInt64 a1)) (va_up pb n (Int32.toInt64 b1)) (va_up pc n (Int32.toInt64 c1)) (va_up pd n (Int32.toInt64 d1)) n 0 = a1.toInt := by show (va_up pa n _ n).toInt = _; rw [vs, Int32.toInt_toInt64]
  have e1 : tP (va_up pa n (Int32.toInt64 a1)) (va_up pb n (Int32.toInt64 b1)) (va_up pc n (Int32.toInt64 c1)) (va_up pd n (Int32.toInt64 d1)) n 1 = b1.toInt := by show (va_up pb n _ n).toInt = _; rw [vs, Int32.toInt_toInt64]
  have e2 : tP (va_up pa n (Int32.toInt64 a1)) (va_up pb n (Int32.toInt64 b1)) (va_up pc n (Int32.toInt64 c1)) (va_up pd n (Int32.toInt64 d1)) n 2 = c1.toInt := by show (va_up pc n _ n).toInt = _; rw [vs, Int32.toInt_toInt64]
  have e3 : tP (va_up pa n (Int32.toInt64 a1)) (va_up pb n (Int32.toInt64 b1)) (va_up pc n (Int32.toInt64 c1)) (va_up pd n (Int32.toInt64 d1)) n 3 = d1.toInt := by show (va_up pd n _ n).toInt = _; rw [vs, Int32.toInt_toInt64]
  have hone : ∀ j, j < n → (m_one (pa j) (pb j) (pc j) (pd j) (Int32.toInt64 a1) (Int32.toInt64 b1) (Int32.toInt64 c1) (Int32.toInt64 d1) = true ↔ pv_one (tP pa pb pc pd j) (tP (va_up pa n (Int32.toInt64 a1)) (va_up pb n (Int32.toInt64 b1)) (va_up pc n (Int32.toInt64 c1)) (va_up pd n (Int32.toInt64 d1)) n)) := fun j hj => by
    obtain ⟨i0, i1, i2, i3⟩ := hib j hj
    exact one_n i0 i1 i2 i3 (by rw [e0]; exact IB_32 q1.1 q1.2) (by rw [e1]; exact IB_32 q2.1 q2.2) (by rw [e2]; exact IB_32 q3.1 q3.2) (by rw [e3]; exact IB_32 q4.1 q4.2)
  have u0 : upd (upd (upd nf (3 * g) a1) (3 * g + 1) b1) (3 * g + 2) c1 (3 * g) = a1 := by rw [pk_un (by omega), pk_un (by omega), pk_us]
  have u1 : upd (upd (upd nf (3 * g) a1) (3 * g + 1) b1) (3 * g + 2) c1 (3 * g + 1) = b1 := by rw [pk_un (by omega), pk_us]
  have u2 : upd (upd (upd nf (3 * g) a1) (3 * g + 1) b1) (3 * g + 2) c1 (3 * g + 2) = c1 := pk_us
  have un : ∀ j, j < 3 * g → upd (upd (upd nf (3 * g) a1) (3 * g + 1) b1) (3 * g + 2) c1 j = nf j := fun j hj => by rw [pk_un (by omega), pk_un (by omega), pk_un (by omega)]
  generalize upd (upd (upd nf (3 * g) a1) (3 * g + 1) b1) (3 * g + 2) c1 = N at *
  refine ⟨by omega, by omega, fun i hi => ?_, fun k hk => ?_, fun k hk => ?_, ?_⟩
  · rw [vn _ _ i (by omega), vn _ _ i (by omega), vn _ _ i (by omega), vn _ _ i (by omega)]
    exact hbx i hi
  · by_cases hkg : k = g
    · rw [hkg, show 6 + g = n by omega, vs, vs, vs, vs, u0, u1, u2, pk_us]
      exact ⟨rfl, rfl, rfl, rfl⟩
    · rw [vn _ _ (6 + k) (by omega), vn _ _ (6 + k) (by omega), vn _ _ (6 + k) (by omega), vn _ _ (6 + k) (by omega), un _ (by omega), un _ (by omega), un _ (by omega), pk_un hkg]
      exact hgv k (by omega)
  · by_cases hkg : k = g
    · rw [hkg, u0, u1, u2, pk_us]
      exact hb
    · rw [un _ (by omega), un _ (by omega), un _ (by omega), pk_un hkg]
      exact hbp k (by omega)
  · have hfo2 : fo_ok (tP (va_up pa n (Int32.toInt64 a1)) (va_up pb n (Int32.toInt64 b1)) (va_up pc n (Int32.toInt64 c1)) (va_up pd n (Int32.toInt64 d1))) fs n := by
      intro i hi
      obtain ⟨z1, z2, z3⟩ := hfo i hi
      refine ⟨z1, fun j hj => ?_, ?_⟩
      · rw [tP_up (by omega), tP_up (by omega)]; exact z2 j hj
      · rw [tP_up (by omega), tP_up (by omega)]; exact z3
    have := fo_add (f := r) hfo2 f1 (fun j hj z => by
      rw [tP_up (by omega)] at z
      have h1 := (hone j (by omega)).mpr z
      rw [f2 j hj] at h1
      cases h1) (fun hrn => by
      rw [tP_up (by omega)]
      exact (hone r hrn).mp (f3 hrn))
    have hfun : (fun i => if i = n then r else fs i) = va_up fs n r := by funext i; unfold va_up; rfl
    rw [hfun] at this
    exact this
theorem badV_eq {set : Int32} {g : Nat} (hg : g ≤ 8) : m_badV set g = v_badV set g := by
  unfold m_badV v_badV
  by_cases h : set < 0
  · rw [decide_eq_true h]; rfl
  · rw [decide_eq_false h]
    obtain ⟨s, hs, rfl⟩ := nI_of h
    have hq : ∀ g, g ≤ 8 → ((nI g &&& 31).toBitVec.smod 32).toNat = g := by
      intro g hg
      rcases (show g = 0 ∨ g = 1 ∨ g = 2 ∨ g = 3 ∨ g = 4 ∨ g = 5 ∨ g = 6 ∨ g = 7 ∨ g = 8 by omega) with rfl | rfl | rfl | rfl | rfl | rfl | rfl | rfl | rfl <;> decide
    rw [pk_shrN hs _ g (hq g hg)]
    have hw : s / 2 ^ g < 2 ^ 31 := Nat.lt_of_le_of_lt (Nat.div_le_self _ _) hs
    have h1 : nI (s / 2 ^ g) = 0 ↔ s / 2 ^ g = 0 := nc_eq (a := s / 2 ^ g) (b := 0) hw (by omega) rfl rfl
    have h2 : nI (s / 2 ^ g) ≤ 0 ↔ s / 2 ^ g ≤ 0 := nc_le (a := s / 2 ^ g) (b := 0) hw (by omega) rfl rfl
    rw [show decide (nI (s / 2 ^ g) = 0) = decide (nI (s / 2 ^ g) ≤ 0) from decide_eq_decide.mpr (by rw [h1, h2]; exact Nat.le_zero.symm)]
theorem badJ_eq (how : Int32) : m_badJ how = v_badJ how := by
  unfold m_badJ v_badJ
  rw [show decide (how < 4) = decide (how ≤ 3) from decide_eq_decide.mpr (by rw [Int32.lt_iff_toInt_lt, Int32.le_iff_toInt_le, show (4 : Int32).toInt = 4 by decide, show (3 : Int32).toInt = 3 by decide]; omega)]
theorem badE_eq (ax u v : Int32) : m_badE ax u v = v_badE ax u v := by
  unfold m_badE v_badE
  rw [show (!decide (ax < 3)) = decide (2 < ax) from by
    rw [← decide_not]
    exact decide_eq_decide.mpr (by rw [Int32.lt_iff_toInt_lt, Int32.lt_iff_toInt_lt, show (3 : Int32).toInt = 3 by decide, show (2 : Int32).toInt = 2 by decide]; omega)]
theorem jn_eq {v : Nat} (hv : v < 4) (a b : Int64) : m_jn v a b = v_jn (nI v) a b := by
  rcases (show v = 0 ∨ v = 1 ∨ v = 2 ∨ v = 3 by omega) with rfl | rfl | rfl | rfl <;> rfl
