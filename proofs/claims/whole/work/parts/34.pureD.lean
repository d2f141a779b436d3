/-! side: the plane that the model finds. -/
section
variable {g n : Nat} {fs : Nat → Nat} {pa pb pc pd : Nat → Int64} {nf ff : Nat → Int32} {x y z w : Int32}
theorem le0 (v : Int32) : v ≤ 0 ↔ v.toInt ≤ 0 := by rw [Int32.le_iff_toInt_le]; exact Iff.rfl
theorem pl_an (h : tI g n fs pa pb pc pd nf ff) (hq : m_badQ x y z w = false) {O : Nat → Prop} (hO : ∀ i, O i ↔ pv_at (tP pa pb pc pd i) x.toInt y.toInt z.toInt w.toInt = 0) :
    (mc_cnt (v_on x y z w) 3 ≤ 1 → (v_pl x y z w 3 = none → ∀ i, i < 6 → ¬ O i) ∧ ∀ p, v_pl x y z w 3 = some p → (10 ≤ p ∧ p < 16) ∧ O (v_c p) ∧ ∀ i, i < 6 → O i → i = v_c p) ∧ (¬ mc_cnt (v_on x y z w) 3 ≤ 1 → ∃ i j, i < 6 ∧ j < 6 ∧ O i ∧ O j ∧ i ≠ j) := by
  obtain ⟨bx, by', bz, bw⟩ := badQ_f hq
  obtain ⟨c0, c1, c2, c3, c4, c5⟩ := bx_at h x.toInt y.toInt z.toInt w.toInt
  obtain ⟨lx0, -, -⟩ := lies_n bx bw
  obtain ⟨ly0, -, -⟩ := lies_n by' bw
  obtain ⟨lz0, -, -⟩ := lies_n bz bw
  have o0 := hO 0
  have o1 := hO 1
  have o2 := hO 2
  have o3 := hO 3
  have o4 := hO 4
  have o5 := hO 5
  rw [c0] at o0
  rw [c1] at o1
  rw [c2] at o2
  rw [c3] at o3
  rw [c4] at o4
  rw [c5] at o5
  have hc : mc_cnt (v_on x y z w) 3 = ((0 + (if decide (v_lies x w = 0) = true then 1 else 0)) + (if decide (v_lies y w = 0) = true then 1 else 0)) + (if decide (v_lies z w = 0) = true then 1 else 0) := rfl
  have hp : v_pl x y z w 3 = if v_lies z w = 0 then some (if z ≤ 0 then 13 + 2 else 10 + 2) else if v_lies y w = 0 then some (if y ≤ 0 then 13 + 1 else 10 + 1) else if v_lies x w = 0 then some (if x ≤ 0 then 13 + 0 else 10 + 0) else none := rfl
  simp only [decide_eq_true_eq, lx0, ly0, lz0] at hc
  simp only [lx0, ly0, lz0, le0] at hp
  have six : ∀ i, i < 6 → i = 0 ∨ i = 1 ∨ i = 2 ∨ i = 3 ∨ i = 4 ∨ i = 5 := fun i hi => by omega
  constructor
  · intro h1
    rw [hc] at h1
    constructor
    · intro h2 i hi
      rw [hp] at h2
      split at h2
      · cases h2
      · split at h2
        · cases h2
        · split at h2
          · cases h2
          · rcases six i hi with rfl | rfl | rfl | rfl | rfl | rfl
            · rw [o0]; omega
            · rw [o1]; omega
            · rw [o2]; omega
            · rw [o3]; omega
            · rw [o4]; omega
            · rw [o5]; omega
    · intro p h2
      rw [hp] at h2
      have fin : ∀ q r, r < 6 → O r → (∀ i, i < 6 → O i → i = r) → v_c q = r → O (v_c q) ∧ ∀ i, i < 6 → O i → i = v_c q := fun q r _ k1 k2 k3 => by rw [k3]; exact ⟨k1, k2⟩
      split at h2
      · rename_i hz
        have hy : ¬ (y.toInt = 1000 * w.toInt ∨ -y.toInt = 1000 * w.toInt) := fun k => by rw [if_pos k, if_pos hz] at h1; omega
        have hx : ¬ (x.toInt = 1000 * w.toInt ∨ -x.toInt = 1000 * w.toInt) := fun k => by rw [if_pos k, if_pos hz] at h1; omega
        cases h2
        split
        · refine ⟨by omega, fin _ 5 (by omega) (o5.mpr (by omega)) (fun i hi hoi => ?_) rfl⟩
          rcases six i hi with rfl | rfl | rfl | rfl | rfl | rfl
          · have := o0.mp hoi; omega
          · have := o1.mp hoi; omega
          · have := o2.mp hoi; omega
          · have := o3.mp hoi; omega
          · have := o4.mp hoi; omega
          · rfl
        · refine ⟨by omega, fin _ 4 (by omega) (o4.mpr (by omega)) (fun i hi hoi => ?_) rfl⟩
          rcases six i hi with rfl | rfl | rfl | rfl | rfl | rfl
          · have := o0.mp hoi; omega
          · have := o1.mp hoi; omega
          · have := o2.mp hoi; omega
          · have := o3.mp hoi; omega
          · rfl
          · have := o5.mp hoi; omega
      · rename_i hz
        split at h2
        · rename_i hy
          have hx : ¬ (x.toInt = 1000 * w.toInt ∨ -x.toInt = 1000 * w.toInt) := fun k => by rw [if_pos k, if_pos hy] at h1; omega
          cases h2
          split
          · refine ⟨by omega, fin _ 3 (by omega) (o3.mpr (by omega)) (fun i hi hoi => ?_) rfl⟩
            rcases six i hi with rfl | rfl | rfl | rfl | rfl | rfl
            · have := o0.mp hoi; omega
            · have := o1.mp hoi; omega
            · have := o2.mp hoi; omega
            · rfl
            · have := o4.mp hoi; omega
            · have := o5.mp hoi; omega
          · refine ⟨by omega, fin _ 2 (by omega) (o2.mpr (by omega)) (fun i hi hoi => ?_) rfl⟩
            rcases six i hi with rfl | rfl | rfl | rfl | rfl | rfl
            · have := o0.mp hoi; omega
            · have := o1.mp hoi; omega
            · rfl
            · have := o3.mp hoi; omega
            · have := o4.mp hoi; omega
            · have := o5.mp hoi; omega
        · rename_i hy
          split at h2
          · rename_i hx
            cases h2
            split
            · refine ⟨by omega, fin _ 1 (by omega) (o1.mpr (by omega)) (fun i hi hoi => ?_) rfl⟩
              rcases six i hi with rfl | rfl | rfl | rfl | rfl | rfl
              · have := o0.mp hoi; omega
              · rfl
              · have := o2.mp hoi; omega
              · have := o3.mp hoi; omega
              · have := o4.mp hoi; omega
              · have := o5.mp hoi; omega
            · refine ⟨by omega, fin _ 0 (by omega) (o0.mpr (by omega)) (fun i hi hoi => ?_) rfl⟩
              rcases six i hi with rfl | rfl | rfl | rfl | rfl | rfl
              · rfl
              · have := o1.mp hoi; omega
              · have := o2.mp hoi; omega
              · have := o3.mp hoi; omega
              · have := o4.mp hoi; omega
              · have := o5.mp hoi; omega
          · cases h2
  · intro h1
    rw [hc] at h1
    have kx : (x.toInt = 1000 * w.toInt ∨ -x.toInt = 1000 * w.toInt) → ∃ i, i < 2 ∧ O i := fun k => by
      rcases k with k | k
      · exact ⟨0, by omega, o0.mpr (by omega)⟩
      · exact ⟨1, by omega, o1.mpr (by omega)⟩
    have ky : (y.toInt = 1000 * w.toInt ∨ -y.toInt = 1000 * w.toInt) → ∃ i, (2 ≤ i ∧ i < 4) ∧ O i := fun k => by
      rcases k with k | k
      · exact ⟨2, by omega, o2.mpr (by omega)⟩
      · exact ⟨3, by omega, o3.mpr (by omega)⟩
    have kz : (z.toInt = 1000 * w.toInt ∨ -z.toInt = 1000 * w.toInt) → ∃ i, (4 ≤ i ∧ i < 6) ∧ O i := fun k => by
      rcases k with k | k
      · exact ⟨4, by omega, o4.mpr (by omega)⟩
      · exact ⟨5, by omega, o5.mpr (by omega)⟩
    by_cases hx : (x.toInt = 1000 * w.toInt ∨ -x.toInt = 1000 * w.toInt)
    · obtain ⟨i, hi, hoi⟩ := kx hx
      by_cases hy : (y.toInt = 1000 * w.toInt ∨ -y.toInt = 1000 * w.toInt)
      · obtain ⟨j, hj, hoj⟩ := ky hy
        exact ⟨i, j, by omega, by omega, hoi, hoj, by omega⟩
      · by_cases hz : (z.toInt = 1000 * w.toInt ∨ -z.toInt = 1000 * w.toInt)
        · obtain ⟨j, hj, hoj⟩ := kz hz
          exact ⟨i, j, by omega, by omega, hoi, hoj, by omega⟩
        · rw [if_pos hx, if_neg hy, if_neg hz] at h1; omega
    · by_cases hy : (y.toInt = 1000 * w.toInt ∨ -y.toInt = 1000 * w.toInt)
      · obtain ⟨i, hi, hoi⟩ := ky hy
        by_cases hz : (z.toInt = 1000 * w.toInt ∨ -z.toInt = 1000 * w.toInt)
        · obtain ⟨j, hj, hoj⟩ := kz hz
          exact ⟨i, j, by omega, by omega, hoi, hoj, by omega⟩
        · rw [if_neg hx, if_pos hy, if_neg hz] at h1; omega
      · by_cases hz : (z.toInt = 1000 * w.toInt ∨ -z.toInt = 1000 * w.toInt)
        · rw [if_neg hx, if_neg hy, if_pos hz] at h1; omega
        · rw [if_neg hx, if_neg hy, if_neg hz] at h1; omega
theorem c_k {k : Nat} (hk : k < 10) : v_c k = 6 + k := by unfold v_c; rw [if_pos hk]
theorem pv_par_refl (p : Nat → Int) : pv_par p p := fun x y _ _ => Int.mul_comm _ _
theorem fd_an (h : tI g n fs pa pb pc pd nf ff) {O : Nat → Prop} {V : Nat → Int64} {o0 : Option Nat} (hV : ∀ j, j < g → (V j = 0 ↔ O (6 + j))) (h0 : ∀ p, o0 = some p → (10 ≤ p ∧ p < 16) ∧ O (v_c p)) : ∀ k, k ≤ g →
    (v_fd nf V o0 k = none → ∃ i j, i < n ∧ j < n ∧ O i ∧ O j ∧ ¬ pv_par (tP pa pb pc pd i) (tP pa pb pc pd j)) ∧
    ∀ o, v_fd nf V o0 k = some o → (o = none → o0 = none ∧ ∀ j, j < k → ¬ O (6 + j)) ∧ ∀ p, o = some p → v_ok g p ∧ O (v_c p) ∧ (∀ j, j < k → O (6 + j) → pv_par (tP pa pb pc pd (v_c p)) (tP pa pb pc pd (6 + j))) ∧ ((o0 = some p ∧ 10 ≤ p) ∨ (o0 = none ∧ p < k ∧ ∀ j, j < p → ¬ O (6 + j))) := by
  have hn := h.1
  have hg := h.2.1
  intro k
  induction k with
  | zero =>
    intro _
    refine ⟨(fun k => by cases k), fun o ho => ?_⟩
    cases ho
    refine ⟨fun k => ⟨k, fun j hj => absurd hj (Nat.not_lt_zero j)⟩, fun p hp => ?_⟩
    obtain ⟨k1, k2⟩ := h0 p hp
    exact ⟨Or.inr k1, k2, fun j hj => absurd hj (Nat.not_lt_zero j), Or.inl ⟨hp, k1.1⟩⟩
  | succ k ih =>
    intro hk
    obtain ⟨ih1, ih2⟩ := ih (by omega)
    cases hf : v_fd nf V o0 k with
    | none =>
      have hnn := fd_nn hf (k + 1) (by omega)
      refine ⟨fun _ => ih1 hf, fun o ho => ?_⟩
      rw [hnn] at ho
      cases ho
    | some o =>
      obtain ⟨hn1, hs1⟩ := ih2 o hf
      have hVk := hV k (by omega)
      by_cases hv : V k = 0
      · have hOk := hVk.mp hv
        cases o with
        | none =>
          obtain ⟨z1, z2⟩ := hn1 rfl
          have ha : ¬ v_alike nf ((none : Option Nat).getD k) k = 0 := fun z => ((alike_n h (p := k) (q := k) (Or.inl (by omega)) (Or.inl (by omega))).1.mp z) (pv_par_refl _)
          have hs := fd_1 hf hv ha
          refine ⟨(fun z => by rw [hs] at z; cases z), fun o ho => ?_⟩
          rw [hs] at ho
          cases ho
          refine ⟨(fun z => by cases z), fun p hp => ?_⟩
          cases hp
          show v_ok g k ∧ O (v_c k) ∧ _
          rw [c_k (by omega)]
          refine ⟨Or.inl (by omega), hOk, fun j hj hoj => ?_, Or.inr ⟨z1, by show k < k + 1; omega, z2⟩⟩
          by_cases hjk : j = k
          · rw [hjk, show v_c ((none : Option Nat).getD k) = 6 + k from c_k (k := k) (by omega)]; exact pv_par_refl _
          · exact absurd hoj (z2 j (by omega))
        | some p =>
          obtain ⟨z1, z2, z3, z4⟩ := hs1 p rfl
          have hal := (alike_n h (p := p) (q := k) z1 (Or.inl (by omega))).1
          rw [c_k (k := k) (by omega)] at hal
          by_cases ha : v_alike nf ((some p).getD k) k = 0
          · have hs := fd_n hf hv ha
            refine ⟨fun _ => ⟨v_c p, 6 + k, c_lt h z1, by omega, z2, hOk, hal.mp ha⟩, fun o ho => ?_⟩
            rw [hs] at ho
            cases ho
          · have hs := fd_1 hf hv ha
            refine ⟨(fun z => by rw [hs] at z; cases z), fun o ho => ?_⟩
            rw [hs] at ho
            cases ho
            refine ⟨(fun z => by cases z), fun p' hp' => ?_⟩
            have hpp : p = p' := Option.some.inj hp'
            subst hpp
            refine ⟨z1, z2, fun j hj hoj => ?_, ?_⟩
            · by_cases hjk : j = k
              · rw [hjk]
                exact Classical.byContradiction (fun q => ha (hal.mpr q))
              · exact z3 j (by omega) hoj
            · rcases z4 with z4 | ⟨y1, y2, y3⟩
              · exact Or.inl z4
              · exact Or.inr ⟨y1, by omega, y3⟩
      · have hs := fd_0 hf hv
        have hnO : ¬ O (6 + k) := fun z => hv (hVk.mpr z)
        refine ⟨(fun z => by rw [hs] at z; cases z), fun o' ho => ?_⟩
        rw [hs] at ho
        cases ho
        refine ⟨fun z => ?_, fun p hp => ?_⟩
        · obtain ⟨z1, z2⟩ := hn1 z
          refine ⟨z1, fun j hj => ?_⟩
          by_cases hjk : j = k
          · rw [hjk]; exact hnO
          · exact z2 j (by omega)
        · obtain ⟨z1, z2, z3, z4⟩ := hs1 p hp
          refine ⟨z1, z2, fun j hj hoj => ?_, ?_⟩
          · by_cases hjk : j = k
            · rw [hjk] at hoj; exact absurd hoj hnO
            · exact z3 j (by omega) hoj
          · rcases z4 with z4 | ⟨y1, y2, y3⟩
            · exact Or.inl z4
            · exact Or.inr ⟨y1, by omega, y3⟩
/-- the plane that the model finds at a point is the class's -/
theorem so_an (h : tI g n fs pa pb pc pd nf ff) (hq : m_badQ x y z w = false) {O : Nat → Prop} (hO : ∀ i, O i ↔ pv_at (tP pa pb pc pd i) x.toInt y.toInt z.toInt w.toInt = 0) (hV : ∀ j, j < g → (v_val nf ff x y z w j = 0 ↔ O (6 + j))) :
    (v_so nf (v_val nf ff x y z w) g x y z w = none → (∀ i, i < n → ¬ O i) ∨ ∃ i j, i < n ∧ j < n ∧ O i ∧ O j ∧ fs i ≠ fs j) ∧
    ∀ p, v_so nf (v_val nf ff x y z w) g x y z w = some p → v_ok g p ∧ O (v_c p) ∧ fs (v_c p) = v_c p ∧ (∀ i, i < n → O i → fs i = v_c p) ∧ (10 ≤ p ↔ ∃ i, i < 6 ∧ O i) := by
  have hn := h.1
  have hg := h.2.1
  have hw0 : w.toInt ≠ 0 := by have := (badQ_f hq).2.2.2; omega
  obtain ⟨b1, b2⟩ := pl_an h hq hO
  have hfo : ∀ i j, i < n → j < n → O i → O j → (fs i = fs j ↔ pv_par (tP pa pb pc pd i) (tP pa pb pc pd j)) := fun i j hi hj h1 h2 => fo_on (fun i hi => tI_nz h hi) h.2.2.2.2.2 hi hj hw0 ((hO i).mp h1) ((hO j).mp h2)
  unfold v_so
  by_cases he : mc_cnt (v_on x y z w) 3 ≤ 1
  · rw [if_pos he]
    obtain ⟨b3, b4⟩ := b1 he
    obtain ⟨f1, f2⟩ := fd_an h (O := O) (V := v_val nf ff x y z w) (o0 := v_pl x y z w 3) hV (fun p hp => ⟨(b4 p hp).1, (b4 p hp).2.1⟩) g (Nat.le_refl g)
    cases hf : v_fd nf (v_val nf ff x y z w) (v_pl x y z w 3) g with
    | none =>
      obtain ⟨i, j, hi, hj, h1, h2, h3⟩ := f1 hf
      exact ⟨fun _ => Or.inr ⟨i, j, hi, hj, h1, h2, fun z => h3 ((hfo i j hi hj h1 h2).mp z)⟩, fun p hp => by cases hp⟩
    | some o =>
      obtain ⟨g1, g2⟩ := f2 o hf
      constructor
      · intro z
        obtain ⟨z1, z2⟩ := g1 z
        refine Or.inl (fun i hi hoi => ?_)
        by_cases h6 : i < 6
        · exact b3 z1 i h6 hoi
        · obtain ⟨j, rfl⟩ : ∃ j, i = 6 + j := ⟨i - 6, by omega⟩
          exact z2 j (by omega) hoi
      · intro p hp
        obtain ⟨z1, z2, z3, z4⟩ := g2 p hp
        have hcl := c_lt h z1
        have hbox : ∀ i, i < 6 → O i → i = v_c p := by
          rcases z4 with ⟨y1, -⟩ | ⟨y1, -⟩
          · exact (b4 p y1).2.2
          · exact fun i hi hoi => absurd hoi (b3 y1 i hi)
        have hall : ∀ i, i < n → O i → fs i = fs (v_c p) := by
          intro i hi hoi
          by_cases h6 : i < 6
          · rw [hbox i h6 hoi]
          · obtain ⟨j, rfl⟩ : ∃ j, i = 6 + j := ⟨i - 6, by omega⟩
            exact ((hfo (v_c p) (6 + j) hcl hi z2 hoi).mpr (z3 j (by omega) hoi)).symm
        obtain ⟨q1, q2, q3⟩ := h.2.2.2.2.2 (v_c p) hcl
        have hof : O (fs (v_c p)) := (hO _).mpr (pv_one_at (tI_nz h hcl) (pv_one_symm q3) ((hO _).mp z2))
        have hfix : fs (v_c p) = v_c p := by
          by_cases h6 : fs (v_c p) < 6
          · exact hbox _ h6 hof
          · rcases z4 with ⟨y1, y2⟩ | ⟨y1, y2, y3⟩
            · have : v_c p < 6 := by
                have hp16 := (b4 p y1).1
                unfold v_c
                rw [if_neg (by omega)]
                split <;> omega
              omega
            · have hcp : v_c p = 6 + p := c_k (by omega)
              obtain ⟨j, hj⟩ : ∃ j, fs (v_c p) = 6 + j := ⟨fs (v_c p) - 6, by omega⟩
              by_cases hjp : j < p
              · rw [hj] at hof
                exact absurd hof (y3 j hjp)
              · omega
        refine ⟨z1, z2, hfix, fun i hi hoi => by rw [hall i hi hoi, hfix], ?_⟩
        constructor
        · intro h10
          have hc6 : v_c p < 6 := by
            have : p < 16 := by
              rcases z1 with z1 | z1
              · omega
              · omega
            unfold v_c
            rw [if_neg (by omega)]
            split <;> omega
          exact ⟨v_c p, hc6, z2⟩
        · rintro ⟨i, hi, hoi⟩
          rcases z4 with ⟨y1, y2⟩ | ⟨y1, -⟩
          · exact y2
          · exact absurd hoi (b3 y1 i hi)
  · rw [if_neg he]
    obtain ⟨i, j, hi, hj, h1, h2, h3⟩ := b2 he
    exact ⟨fun _ => Or.inr ⟨i, j, by omega, by omega, h1, h2, by rw [fs_bx h hi, fs_bx h hj]; exact h3⟩, fun p hp => by cases hp⟩
end
