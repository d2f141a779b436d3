/-! side: what the two say. -/
theorem pv_dot_comm (p q : Nat → Int) : pv_dot p q = pv_dot q p := by
  unfold pv_dot
  rw [Int.mul_comm (p 0), Int.mul_comm (p 1), Int.mul_comm (p 2)]
theorem pv_dot_self {p : Nat → Int} (h : pv_nz p) : 0 < pv_dot p p := by
  unfold pv_dot
  have s0 := pv_self (p 0)
  have s1 := pv_self (p 1)
  have s2 := pv_self (p 2)
  obtain ⟨i, hi, hne⟩ := h
  have k : ∀ a : Int, a ≠ 0 → a * a ≠ 0 := fun a ha z => by
    rcases Int.mul_eq_zero.mp z with z | z <;> exact ha z
  rcases (show i = 0 ∨ i = 1 ∨ i = 2 by omega) with rfl | rfl | rfl
  · have := k _ hne; omega
  · have := k _ hne; omega
  · have := k _ hne; omega
theorem m_all_cg {f g : Nat → Bool} {n : Nat} (h : ∀ i, i < n → f i = g i) : m_all f n = m_all g n := by
  unfold m_all
  rw [Bool.eq_iff_iff, List.all_eq_true, List.all_eq_true]
  exact ⟨fun k i hi => by rw [← h i (List.mem_range.mp hi)]; exact k i hi, fun k i hi => by rw [h i (List.mem_range.mp hi)]; exact k i hi⟩
section
variable {g n : Nat} {fs : Nat → Nat} {pa pb pc pd : Nat → Int64} {nf ff : Nat → Int32} {x y z w : Int32}
/-- where no plane, or more than one, is at the point -/
theorem side_none (h : tI g n fs pa pb pc pd nf ff) (hfs : ∀ i, fs i < 14) (hq : m_badQ x y z w = false) {on : Nat → Bool} (hon : ∀ i, i < n → (on i = true ↔ pv_at (tP pa pb pc pd i) x.toInt y.toInt z.toInt w.toInt = 0)) (hV : ∀ j, j < g → (v_val nf ff x y z w j = 0 ↔ pv_at (tP pa pb pc pd (6 + j)) x.toInt y.toInt z.toInt w.toInt = 0)) :
    (m_only on fs n = -1 ↔ v_so nf (v_val nf ff x y z w) g x y z w = none) ∧ ∀ p, v_so nf (v_val nf ff x y z w) g x y z w = some p → m_only on fs n = nI (v_c p) := by
  obtain ⟨a1, a2⟩ := so_an h hq (O := fun i => pv_at (tP pa pb pc pd i) x.toInt y.toInt z.toInt w.toInt = 0) (fun i => Iff.rfl) hV
  have hsome : ∀ p, v_so nf (v_val nf ff x y z w) g x y z w = some p → m_only on fs n = nI (v_c p) := by
    intro p hp
    obtain ⟨p1, p2, p3, p4, -⟩ := a2 p hp
    have hcl := c_lt h p1
    have hon1 : fo_only on fs n (v_c p) := ⟨⟨v_c p, hcl, (hon _ hcl).mpr p2⟩, fun i hi ho => p4 i hi ((hon i hi).mp ho)⟩
    rcases only_an hfs (on := on) n with ⟨-, k2⟩ | ⟨f, k1, k2, k3⟩
    · exact absurd k2 (fun z => fo_not_both hon1 z)
    · obtain ⟨⟨i, hi, hoi⟩, k4⟩ := k3
      rw [k1, ← k4 i hi hoi, hon1.2 i hi hoi]
  refine ⟨⟨fun hm => ?_, fun hv => ?_⟩, hsome⟩
  · cases hv : v_so nf (v_val nf ff x y z w) g x y z w with
    | none => rfl
    | some p =>
      obtain ⟨p1, p2, p3, p4, -⟩ := a2 p hv
      have h14 := hfs (v_c p)
      rw [hsome p hv] at hm
      rw [p3] at h14
      exact absurd hm (nI_ne1 h14)
  · have hno : fo_none on fs n := by
      rcases a1 hv with k | ⟨i, j, hi, hj, k1, k2, k3⟩
      · refine Or.inl (fun i hi => ?_)
        cases ho : on i with
        | false => rfl
        | true => exact absurd ((hon i hi).mp ho) (k i hi)
      · exact Or.inr ⟨i, j, hi, hj, (hon i hi).mpr k1, (hon j hj).mpr k2, k3⟩
    rcases only_an hfs (on := on) n with ⟨k1, -⟩ | ⟨f, k1, k2, k3⟩
    · exact k1
    · exact absurd hno (fun z => fo_not_both k3 z)
/-- at a point where one plane lies: what is at its two sides -/
theorem side_eq (h : tI g n fs pa pb pc pd nf ff) (hq : m_badQ x y z w = false) {f hf : Nat → Int64} {my : Nat} (hf4 : ∀ q, q < 4 → f q = hf (4 * my - 4 + q)) {p : Nat} (hp : v_so nf (v_val nf ff x y z w) g x y z w = some p) :
    m_lkat f n fs pa pb pc pd (v_c p) (Int32.toInt64 x) (Int32.toInt64 y) (Int32.toInt64 z) (Int32.toInt64 w) = v_side nf ff hf g my x y z w p := by
  obtain ⟨bx, by', bz, bw⟩ := badQ_f hq
  have hn := h.1
  have hg := h.2.1
  have he : ∀ i, i < n → IB (m_exc (pa i) (pb i) (pc i) (pd i) (Int32.toInt64 x) (Int32.toInt64 y) (Int32.toInt64 z) (Int32.toInt64 w)) (pv_at (tP pa pb pc pd i) x.toInt y.toInt z.toInt w.toInt) 13000000000000000 := fun i hi => tI_at h hi (IB_32 (by omega) (by omega)) (IB_32 (by omega) (by omega)) (IB_32 (by omega) (by omega)) (IB_32 (by omega) (by omega))
  have hV : ∀ j, j < g → (v_val nf ff x y z w j = 0 ↔ pv_at (tP pa pb pc pd (6 + j)) x.toInt y.toInt z.toInt w.toInt = 0) := fun j hj => by rw [← val_k h hj]; exact IB_eq (he (6 + j) (by omega)) IB_0
  have hV2 : ∀ j, j < g → (v_val nf ff x y z w j < 0 ↔ pv_at (tP pa pb pc pd (6 + j)) x.toInt y.toInt z.toInt w.toInt < 0) := fun j hj => by rw [← val_k h hj]; exact IB_lt (he (6 + j) (by omega)) IB_0
  obtain ⟨p1, p2, p3, p4, p5⟩ := (so_an h hq (O := fun i => pv_at (tP pa pb pc pd i) x.toInt y.toInt z.toInt w.toInt = 0) (fun i => Iff.rfl) hV).2 p hp
  have hcl := c_lt h p1
  -- a plane of the same face is at the point
  have hback : ∀ i, i < n → fs i = v_c p → pv_at (tP pa pb pc pd i) x.toInt y.toInt z.toInt w.toInt = 0 := fun i hi hfi => by
    have h1 := (fo_iff (fun i hi => tI_nz h hi) h.2.2.2.2.2 hi hcl).mp (by rw [hfi, p3])
    exact pv_one_at (tI_nz h hcl) (pv_one_symm h1) p2
  have hcell : ∀ sm : Bool, m_top f (m_cs n fs pa pb pc pd (v_c p) sm (Int32.toInt64 x) (Int32.toInt64 y) (Int32.toInt64 z) (Int32.toInt64 w)) = (m_all (fun i => if sm = true then decide (pv_at (tP pa pb pc pd i) x.toInt y.toInt z.toInt w.toInt ≤ 0) else decide (pv_at (tP pa pb pc pd i) x.toInt y.toInt z.toInt w.toInt < 0)) 6 && v_top hf my (pb_num (v_at nf (v_val nf ff x y z w) p sm) g)) := by
    intro sm
    unfold m_cs
    subst hn
    rw [top_eq hg hf4]
    have hgiv : pb_num (fun j => decide (m_exc (pa (6 + j)) (pb (6 + j)) (pc (6 + j)) (pd (6 + j)) (Int32.toInt64 x) (Int32.toInt64 y) (Int32.toInt64 z) (Int32.toInt64 w) < 0) || (decide (fs (6 + j) = v_c p) && (m_lk (pa (6 + j)) (pb (6 + j)) (pc (6 + j)) (pa (v_c p)) (pb (v_c p)) (pc (v_c p)) == sm))) g = pb_num (v_at nf (v_val nf ff x y z w) p sm) g := by
      refine pb_congr (fun j hj => ?_)
      unfold v_at
      rw [val_k h hj]
      congr 1
      by_cases h0 : v_val nf ff x y z w j = 0
      · have h1 := (hV j hj).mp h0
        have h2 := p4 (6 + j) (by omega) h1
        rw [decide_eq_true h0, decide_eq_true h2, lk_n h (by omega) hcl]
        have h3 := (fo_on (fun i hi => tI_nz h hi) h.2.2.2.2.2 (i := v_c p) (j := 6 + j) hcl (by omega) (by omega : w.toInt ≠ 0) p2 h1).mp (by rw [p3, h2])
        have h4 := (alike_n h (p := p) (q := j) p1 (Or.inl hj)).2
        rw [c_k (k := j) (by omega)] at h4
        have h5 := h4 h3
        rw [pv_dot_comm]
        rw [← decide_not]
        rw [show decide (¬ v_alike nf p j ≤ 0) = decide (0 < pv_dot (tP pa pb pc pd (v_c p)) (tP pa pb pc pd (6 + j))) from decide_eq_decide.mpr (by rw [h5]; exact Classical.not_not)]
      · have h2 : ¬ fs (6 + j) = v_c p := fun z => h0 ((hV j hj).mpr (hback (6 + j) (by omega) z))
        rw [decide_eq_false h0, decide_eq_false h2]
        rfl
    rw [hgiv]
    congr 1
    refine m_all_cg (fun i hi6 => ?_)
    have hE := he i (by omega)
    rw [show decide (m_exc (pa i) (pb i) (pc i) (pd i) (Int32.toInt64 x) (Int32.toInt64 y) (Int32.toInt64 z) (Int32.toInt64 w) < 0) = decide (pv_at (tP pa pb pc pd i) x.toInt y.toInt z.toInt w.toInt < 0) from decide_eq_decide.mpr (IB_lt hE IB_0)]
    by_cases h0 : pv_at (tP pa pb pc pd i) x.toInt y.toInt z.toInt w.toInt = 0
    · have h2 := p4 i (by omega) h0
      have h3 : i = v_c p := by rw [← h2]; exact (fs_bx h hi6).symm
      rw [decide_eq_true h2, lk_n h (by omega) hcl, ← h3, decide_eq_true (pv_dot_self (tI_nz h (by omega)))]
      cases sm
      · rw [if_neg (by decide)]; simp
      · rw [if_pos rfl, decide_eq_true (show pv_at (tP pa pb pc pd i) x.toInt y.toInt z.toInt w.toInt ≤ 0 by omega)]; simp
    · have h2 : ¬ fs i = v_c p := fun z => h0 (hback i (by omega) z)
      rw [decide_eq_false h2]
      cases sm
      · rw [if_neg (by decide)]; simp
      · rw [if_pos rfl]
        simp only [Bool.false_and, Bool.or_false]
        exact decide_eq_decide.mpr (by omega)
  unfold m_lkat v_side
  rw [hcell true, hcell false]
  obtain ⟨c0, c1, c2, c3, c4, c5⟩ := bx_at h x.toInt y.toInt z.toInt w.toInt
  obtain ⟨lx0, -, lx1⟩ := lies_n bx bw
  obtain ⟨ly0, -, ly1⟩ := lies_n by' bw
  obtain ⟨lz0, -, lz1⟩ := lies_n bz bw
  have q1 : ∀ a b : Int, (decide (a - 1000 * b ≤ 0) && decide (-a - 1000 * b ≤ 0)) = !decide (¬ (a ≤ 1000 * b ∧ -a ≤ 1000 * b)) := fun a b => by
    rw [← Bool.decide_and, ← decide_not]; exact decide_eq_decide.mpr (by omega)
  have hL : m_all (fun i => if true = true then decide (pv_at (tP pa pb pc pd i) x.toInt y.toInt z.toInt w.toInt ≤ 0) else decide (pv_at (tP pa pb pc pd i) x.toInt y.toInt z.toInt w.toInt < 0)) 6 = (!decide (v_lies x w < 0) && (!decide (v_lies y w < 0) && !decide (v_lies z w < 0))) := by
    rw [m_all_6]
    simp only [if_true, c0, c1, c2, c3, c4, c5]
    rw [show ∀ a b c d e f : Bool, (a && (b && (c && (d && (e && f))))) = ((a && b) && ((c && d) && (e && f))) from by decide, q1, q1, q1, decide_eq_decide.mpr lx1, decide_eq_decide.mpr ly1, decide_eq_decide.mpr lz1]
  have hM : m_all (fun i => if false = true then decide (pv_at (tP pa pb pc pd i) x.toInt y.toInt z.toInt w.toInt ≤ 0) else decide (pv_at (tP pa pb pc pd i) x.toInt y.toInt z.toInt w.toInt < 0)) 6 = ((!decide (v_lies x w < 0) && (!decide (v_lies y w < 0) && !decide (v_lies z w < 0))) && !decide (10 ≤ p)) := by
    rw [← hL, m_all_6, m_all_6]
    simp only [if_true, Bool.false_eq_true, if_false, c0, c1, c2, c3, c4, c5]
    by_cases h10 : 10 ≤ p
    · obtain ⟨i, hi, hoi⟩ := p5.mp h10
      rw [decide_eq_true h10]
      simp only [Bool.not_true, Bool.and_false]
      rw [← Bool.decide_and, ← Bool.decide_and, ← Bool.decide_and, ← Bool.decide_and, ← Bool.decide_and]
      apply decide_eq_false
      rcases (show i = 0 ∨ i = 1 ∨ i = 2 ∨ i = 3 ∨ i = 4 ∨ i = 5 by omega) with rfl | rfl | rfl | rfl | rfl | rfl
      · rw [c0] at hoi; omega
      · rw [c1] at hoi; omega
      · rw [c2] at hoi; omega
      · rw [c3] at hoi; omega
      · rw [c4] at hoi; omega
      · rw [c5] at hoi; omega
    · have k : ∀ i, i < 6 → ¬ pv_at (tP pa pb pc pd i) x.toInt y.toInt z.toInt w.toInt = 0 := fun i hi z => h10 (p5.mpr ⟨i, hi, z⟩)
      have k0 := k 0 (by omega)
      have k1 := k 1 (by omega)
      have k2 := k 2 (by omega)
      have k3 := k 3 (by omega)
      have k4 := k 4 (by omega)
      have k5 := k 5 (by omega)
      rw [c0] at k0
      rw [c1] at k1
      rw [c2] at k2
      rw [c3] at k3
      rw [c4] at k4
      rw [c5] at k5
      rw [decide_eq_false h10]
      simp only [Bool.not_false, Bool.and_true]
      rw [← Bool.decide_and, ← Bool.decide_and, ← Bool.decide_and, ← Bool.decide_and, ← Bool.decide_and, ← Bool.decide_and, ← Bool.decide_and, ← Bool.decide_and, ← Bool.decide_and, ← Bool.decide_and]
      exact decide_eq_decide.mpr (by omega)
  rw [hL, hM]
  simp only [Bool.and_assoc]
end
