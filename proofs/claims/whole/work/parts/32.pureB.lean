/-! The class's planes and the model's, as whole numbers. -/
def tP (pa pb pc pd : Nat → Int64) (i : Nat) : Nat → Int := fun x => if x = 0 then (pa i).toInt else if x = 1 then (pb i).toInt else if x = 2 then (pc i).toInt else (pd i).toInt
/-- the class's planes are the box's and the model's -/
def tI (g n : Nat) (fs : Nat → Nat) (pa pb pc pd : Nat → Int64) (nf ff : Nat → Int32) : Prop :=
  n = 6 + g ∧ g ≤ 8 ∧ (∀ i, i < 6 → pa i = m_bx 0 i ∧ pb i = m_bx 1 i ∧ pc i = m_bx 2 i ∧ pd i = 1000) ∧
  (∀ k, k < g → pa (6 + k) = Int32.toInt64 (nf (3 * k)) ∧ pb (6 + k) = Int32.toInt64 (nf (3 * k + 1)) ∧ pc (6 + k) = Int32.toInt64 (nf (3 * k + 2)) ∧ pd (6 + k) = Int32.toInt64 (ff k)) ∧
  (∀ k, k < g → m_badP (nf (3 * k)) (nf (3 * k + 1)) (nf (3 * k + 2)) (ff k) = false) ∧ fo_ok (tP pa pb pc pd) fs n
theorem badP_f {a b c d : Int32} (h : m_badP a b c d = false) : ¬ (a = 0 ∧ b = 0 ∧ c = 0) ∧ (-1000000 ≤ a.toInt ∧ a.toInt ≤ 1000000) ∧ (-1000000 ≤ b.toInt ∧ b.toInt ≤ 1000000) ∧ (-1000000 ≤ c.toInt ∧ c.toInt ≤ 1000000) ∧ (-1000000000 ≤ d.toInt ∧ d.toInt ≤ 1000000000) := by
  unfold m_badP at h
  simp only [Bool.or_eq_false_iff, Bool.and_eq_false_iff, decide_eq_false_iff_not] at h
  obtain ⟨h0, h1, h2, h3, h4⟩ := h
  refine ⟨?_, bey_f (by decide) (by decide) h1, bey_f (by decide) (by decide) h2, bey_f (by decide) (by decide) h3, bey_f (by decide) (by decide) h4⟩
  rintro ⟨k1, k2, k3⟩
  rcases h0 with h0 | h0 | h0
  · exact h0 k1
  · exact h0 k2
  · exact h0 k3
theorem bx_b (c i : Nat) : -1 ≤ (m_bx c i).toInt ∧ (m_bx c i).toInt ≤ 1 := by
  unfold m_bx
  split
  · decide
  · split <;> decide
section
variable {g n : Nat} {fs : Nat → Nat} {pa pb pc pd : Nat → Int64} {nf ff : Nat → Int32}
theorem tI_ib (h : tI g n fs pa pb pc pd nf ff) {i : Nat} (hi : i < n) : IB (pa i) (tP pa pb pc pd i 0) 1000000 ∧ IB (pb i) (tP pa pb pc pd i 1) 1000000 ∧ IB (pc i) (tP pa pb pc pd i 2) 1000000 ∧ IB (pd i) (tP pa pb pc pd i 3) 1000000000 := by
  obtain ⟨hn, hg, hb, hk, hp, -⟩ := h
  by_cases h6 : i < 6
  · obtain ⟨h1, h2, h3, h4⟩ := hb i h6
    have b0 := bx_b 0 i
    have b1 := bx_b 1 i
    have b2 := bx_b 2 i
    rw [← h1] at b0
    rw [← h2] at b1
    rw [← h3] at b2
    have b3 : (pd i).toInt = 1000 := by rw [h4]; decide
    refine ⟨⟨rfl, ?_, ?_⟩, ⟨rfl, ?_, ?_⟩, ⟨rfl, ?_, ?_⟩, ⟨rfl, ?_, ?_⟩⟩
    · show _ ≤ (pa i).toInt; omega
    · show (pa i).toInt ≤ _; omega
    · show _ ≤ (pb i).toInt; omega
    · show (pb i).toInt ≤ _; omega
    · show _ ≤ (pc i).toInt; omega
    · show (pc i).toInt ≤ _; omega
    · show _ ≤ (pd i).toInt; omega
    · show (pd i).toInt ≤ _; omega
  · obtain ⟨k, rfl⟩ : ∃ k, i = 6 + k := ⟨i - 6, by omega⟩
    obtain ⟨h1, h2, h3, h4⟩ := hk k (by omega)
    obtain ⟨-, q1, q2, q3, q4⟩ := badP_f (hp k (by omega))
    have e1 : (pa (6 + k)).toInt = (nf (3 * k)).toInt := by rw [h1, Int32.toInt_toInt64]
    have e2 : (pb (6 + k)).toInt = (nf (3 * k + 1)).toInt := by rw [h2, Int32.toInt_toInt64]
    have e3 : (pc (6 + k)).toInt = (nf (3 * k + 2)).toInt := by rw [h3, Int32.toInt_toInt64]
    have e4 : (pd (6 + k)).toInt = (ff k).toInt := by rw [h4, Int32.toInt_toInt64]
    refine ⟨⟨rfl, ?_, ?_⟩, ⟨rfl, ?_, ?_⟩, ⟨rfl, ?_, ?_⟩, ⟨rfl, ?_, ?_⟩⟩
    · show _ ≤ (pa (6 + k)).toInt; omega
    · show (pa (6 + k)).toInt ≤ _; omega
    · show _ ≤ (pb (6 + k)).toInt; omega
    · show (pb (6 + k)).toInt ≤ _; omega
    · show _ ≤ (pc (6 + k)).toInt; omega
    · show (pc (6 + k)).toInt ≤ _; omega
    · show _ ≤ (pd (6 + k)).toInt; omega
    · show (pd (6 + k)).toInt ≤ _; omega
/-- the given plane k, as whole numbers -/
theorem tI_k (h : tI g n fs pa pb pc pd nf ff) {k : Nat} (hk : k < g) : tP pa pb pc pd (6 + k) 0 = (nf (3 * k)).toInt ∧ tP pa pb pc pd (6 + k) 1 = (nf (3 * k + 1)).toInt ∧ tP pa pb pc pd (6 + k) 2 = (nf (3 * k + 2)).toInt ∧ tP pa pb pc pd (6 + k) 3 = (ff k).toInt := by
  obtain ⟨h1, h2, h3, h4⟩ := h.2.2.2.1 k hk
  refine ⟨?_, ?_, ?_, ?_⟩
  · show (pa (6 + k)).toInt = _; rw [h1, Int32.toInt_toInt64]
  · show (pb (6 + k)).toInt = _; rw [h2, Int32.toInt_toInt64]
  · show (pc (6 + k)).toInt = _; rw [h3, Int32.toInt_toInt64]
  · show (pd (6 + k)).toInt = _; rw [h4, Int32.toInt_toInt64]
theorem tI_b (h : tI g n fs pa pb pc pd nf ff) {i : Nat} (hi : i < 6) : tP pa pb pc pd i 0 = (m_bx 0 i).toInt ∧ tP pa pb pc pd i 1 = (m_bx 1 i).toInt ∧ tP pa pb pc pd i 2 = (m_bx 2 i).toInt ∧ tP pa pb pc pd i 3 = 1000 := by
  obtain ⟨h1, h2, h3, h4⟩ := h.2.2.1 i hi
  refine ⟨?_, ?_, ?_, ?_⟩
  · show (pa i).toInt = _; rw [h1]
  · show (pb i).toInt = _; rw [h2]
  · show (pc i).toInt = _; rw [h3]
  · show (pd i).toInt = _; rw [h4]; decide
theorem tI_nz (h : tI g n fs pa pb pc pd nf ff) {i : Nat} (hi : i < n) : pv_nz (tP pa pb pc pd i) := by
  by_cases h6 : i < 6
  · obtain ⟨h1, h2, h3, -⟩ := tI_b h h6
    rcases (show i = 0 ∨ i = 1 ∨ i = 2 ∨ i = 3 ∨ i = 4 ∨ i = 5 by omega) with rfl | rfl | rfl | rfl | rfl | rfl
    · exact ⟨0, by omega, by rw [h1]; decide⟩
    · exact ⟨0, by omega, by rw [h1]; decide⟩
    · exact ⟨1, by omega, by rw [h2]; decide⟩
    · exact ⟨1, by omega, by rw [h2]; decide⟩
    · exact ⟨2, by omega, by rw [h3]; decide⟩
    · exact ⟨2, by omega, by rw [h3]; decide⟩
  · have hn := h.1
    obtain ⟨k, rfl⟩ : ∃ k, i = 6 + k := ⟨i - 6, by omega⟩
    obtain ⟨h1, h2, h3, -⟩ := tI_k h (k := k) (by omega)
    obtain ⟨q0, -⟩ := badP_f (h.2.2.2.2.1 k (by omega))
    have z : ∀ v : Int32, v.toInt = 0 → v = 0 := fun v hv => Int32.toInt_inj.mp (by rw [hv]; decide)
    by_cases z1 : (nf (3 * k)).toInt = 0
    · by_cases z2 : (nf (3 * k + 1)).toInt = 0
      · by_cases z3 : (nf (3 * k + 2)).toInt = 0
        · exact absurd ⟨z _ z1, z _ z2, z _ z3⟩ q0
        · exact ⟨2, by omega, by rw [h3]; exact z3⟩
      · exact ⟨1, by omega, by rw [h2]; exact z2⟩
    · exact ⟨0, by omega, by rw [h1]; exact z1⟩
/-- what a plane says at a place -/
theorem tI_at (h : tI g n fs pa pb pc pd nf ff) {i : Nat} (hi : i < n) {x y z w : Int64} {X Y Z W : Int} (hx : IB x X 4000000000) (hy : IB y Y 4000000000) (hz : IB z Z 4000000000) (hw : IB w W 1000000) : IB (m_exc (pa i) (pb i) (pc i) (pd i) x y z w) (pv_at (tP pa pb pc pd i) X Y Z W) 13000000000000000 := by
  obtain ⟨h1, h2, h3, h4⟩ := tI_ib h hi
  exact IB_sub (IB_add (IB_add (IB_mul h1 hx (by decide)) (IB_mul h2 hy (by decide)) (by decide)) (IB_mul h3 hz (by decide)) (by decide)) (IB_mul h4 hw (by decide)) (by decide)
theorem bx_at (h : tI g n fs pa pb pc pd nf ff) (x y z w : Int) : pv_at (tP pa pb pc pd 0) x y z w = x - 1000 * w ∧ pv_at (tP pa pb pc pd 1) x y z w = -x - 1000 * w ∧ pv_at (tP pa pb pc pd 2) x y z w = y - 1000 * w ∧ pv_at (tP pa pb pc pd 3) x y z w = -y - 1000 * w ∧ pv_at (tP pa pb pc pd 4) x y z w = z - 1000 * w ∧ pv_at (tP pa pb pc pd 5) x y z w = -z - 1000 * w := by
  have k : ∀ i, i < 6 → pv_at (tP pa pb pc pd i) x y z w = (m_bx 0 i).toInt * x + (m_bx 1 i).toInt * y + (m_bx 2 i).toInt * z - 1000 * w := by
    intro i hi
    obtain ⟨h1, h2, h3, h4⟩ := tI_b h hi
    unfold pv_at
    rw [h1, h2, h3, h4]
  refine ⟨?_, ?_, ?_, ?_, ?_, ?_⟩
  · rw [k 0 (by omega), show (m_bx 0 0).toInt = 1 by decide, show (m_bx 1 0).toInt = 0 by decide, show (m_bx 2 0).toInt = 0 by decide]; omega
  · rw [k 1 (by omega), show (m_bx 0 1).toInt = -1 by decide, show (m_bx 1 1).toInt = 0 by decide, show (m_bx 2 1).toInt = 0 by decide]; omega
  · rw [k 2 (by omega), show (m_bx 0 2).toInt = 0 by decide, show (m_bx 1 2).toInt = 1 by decide, show (m_bx 2 2).toInt = 0 by decide]; omega
  · rw [k 3 (by omega), show (m_bx 0 3).toInt = 0 by decide, show (m_bx 1 3).toInt = -1 by decide, show (m_bx 2 3).toInt = 0 by decide]; omega
  · rw [k 4 (by omega), show (m_bx 0 4).toInt = 0 by decide, show (m_bx 1 4).toInt = 0 by decide, show (m_bx 2 4).toInt = 1 by decide]; omega
  · rw [k 5 (by omega), show (m_bx 0 5).toInt = 0 by decide, show (m_bx 1 5).toInt = 0 by decide, show (m_bx 2 5).toInt = -1 by decide]; omega
theorem lies_n {x w : Int32} (hx : -1000000 ≤ x.toInt ∧ x.toInt ≤ 1000000) (hw : 1 ≤ w.toInt ∧ w.toInt ≤ 1000) :
    (v_lies x w = 0 ↔ x.toInt = 1000 * w.toInt ∨ -x.toInt = 1000 * w.toInt) ∧ (v_lies x w ≤ 0 ↔ ¬ (x.toInt < 1000 * w.toInt ∧ -x.toInt < 1000 * w.toInt)) ∧ (v_lies x w < 0 ↔ ¬ (x.toInt ≤ 1000 * w.toInt ∧ -x.toInt ≤ 1000 * w.toInt)) := by
  have hm : ((1000 : Int32) * w).toInt = 1000 * w.toInt := by
    rw [Int32.toInt_mul, show (1000 : Int32).toInt = 1000 by decide]
    exact Int.bmod_eq_of_le (by omega) (by omega)
  have hn : (-x).toInt = -x.toInt := by
    rw [Int32.toInt_neg]
    exact Int.bmod_eq_of_le (by omega) (by omega)
  have h0 : (0 : Int32) ≤ x ↔ 0 ≤ x.toInt := by rw [Int32.le_iff_toInt_le]; exact Iff.rfl
  have ha : (if 0 ≤ x then x else -x).toInt = if 0 ≤ x.toInt then x.toInt else -x.toInt := by
    by_cases h : 0 ≤ x.toInt
    · rw [if_pos (h0.mpr h), if_pos h]
    · rw [if_neg (fun z => h (h0.mp z)), if_neg h, hn]
  unfold v_lies
  have h1 : (1000 * w ≤ if 0 ≤ x then x else -x) ↔ 1000 * w.toInt ≤ (if 0 ≤ x.toInt then x.toInt else -x.toInt) := by rw [Int32.le_iff_toInt_le, hm, ha]
  have h2 : ((if 0 ≤ x then x else -x) = 1000 * w) ↔ (if 0 ≤ x.toInt then x.toInt else -x.toInt) = 1000 * w.toInt := by rw [← Int32.toInt_inj, hm, ha]
  generalize hA : (if 0 ≤ x then x else -x) = A at h1 h2 ⊢
  by_cases k1 : 1000 * w.toInt ≤ (if 0 ≤ x.toInt then x.toInt else -x.toInt)
  · rw [if_pos (h1.mpr k1)]
    by_cases k2 : (if 0 ≤ x.toInt then x.toInt else -x.toInt) = 1000 * w.toInt
    · rw [if_pos (h2.mpr k2)]
      refine ⟨⟨fun _ => by split at k2 <;> omega, fun _ => rfl⟩, ⟨fun _ => by split at k2 <;> omega, fun _ => by decide⟩, ⟨fun z => absurd z (by decide), fun z => absurd z (by split at k2 <;> omega)⟩⟩
    · rw [if_neg (fun z => k2 (h2.mp z))]
      refine ⟨⟨fun z => absurd z (by decide), fun _ => by exfalso; split at k1 <;> split at k2 <;> omega⟩, ⟨fun _ => by split at k1 <;> omega, fun _ => by decide⟩, ⟨fun _ => by split at k1 <;> split at k2 <;> omega, fun _ => by decide⟩⟩
  · rw [if_neg (fun z => k1 (h1.mp z))]
    refine ⟨⟨fun z => absurd z (by decide), fun _ => by exfalso; split at k1 <;> omega⟩, ⟨fun z => absurd z (by decide), fun z => absurd z (by split at k1 <;> omega)⟩, ⟨fun z => absurd z (by decide), fun z => absurd z (by split at k1 <;> omega)⟩⟩
theorem badQ_f {x y z w : Int32} (h : m_badQ x y z w = false) : (-1000000 ≤ x.toInt ∧ x.toInt ≤ 1000000) ∧ (-1000000 ≤ y.toInt ∧ y.toInt ≤ 1000000) ∧ (-1000000 ≤ z.toInt ∧ z.toInt ≤ 1000000) ∧ 1 ≤ w.toInt ∧ w.toInt ≤ 1000 := by
  unfold m_badQ at h
  simp only [Bool.or_eq_false_iff, decide_eq_false_iff_not, Int32.not_lt] at h
  obtain ⟨h1, h2, h3, h4, h5⟩ := h
  rw [Int32.le_iff_toInt_le] at h1 h2
  exact ⟨bey_f (by decide) (by decide) h3, bey_f (by decide) (by decide) h4, bey_f (by decide) (by decide) h5, h1, h2⟩
theorem val_k (h : tI g n fs pa pb pc pd nf ff) {x y z w : Int32} {j : Nat} (hj : j < g) : m_exc (pa (6 + j)) (pb (6 + j)) (pc (6 + j)) (pd (6 + j)) (Int32.toInt64 x) (Int32.toInt64 y) (Int32.toInt64 z) (Int32.toInt64 w) = v_val nf ff x y z w j := by
  obtain ⟨h1, h2, h3, h4⟩ := h.2.2.2.1 j hj
  unfold v_val
  rw [h1, h2, h3, h4]
/-- inside -/
theorem ins_eq (h : tI g n fs pa pb pc pd nf ff) {f hf : Nat → Int64} {my : Nat} {x y z w : Int32} (hq : m_badQ x y z w = false) (hf4 : ∀ q, q < 4 → f q = hf (4 * my - 4 + q)) :
    (if m_any (fun i => decide (m_exc (pa i) (pb i) (pc i) (pd i) (Int32.toInt64 x) (Int32.toInt64 y) (Int32.toInt64 z) (Int32.toInt64 w) = 0)) n = true then 2 else m_b (m_top f (pb_num (fun i => decide (m_exc (pa i) (pb i) (pc i) (pd i) (Int32.toInt64 x) (Int32.toInt64 y) (Int32.toInt64 z) (Int32.toInt64 w) < 0)) n))) = v_ins nf ff hf g my x y z w := by
  obtain ⟨bx, by', bz, bw⟩ := badQ_f hq
  have hn := h.1
  have hg := h.2.1
  have he : ∀ i, i < n → IB (m_exc (pa i) (pb i) (pc i) (pd i) (Int32.toInt64 x) (Int32.toInt64 y) (Int32.toInt64 z) (Int32.toInt64 w)) (pv_at (tP pa pb pc pd i) x.toInt y.toInt z.toInt w.toInt) 13000000000000000 := fun i hi => tI_at h hi (IB_32 (by omega) (by omega)) (IB_32 (by omega) (by omega)) (IB_32 (by omega) (by omega)) (IB_32 (by omega) (by omega))
  obtain ⟨c0, c1, c2, c3, c4, c5⟩ := bx_at h x.toInt y.toInt z.toInt w.toInt
  obtain ⟨lx0, lx1, -⟩ := lies_n bx bw
  obtain ⟨ly0, ly1, -⟩ := lies_n by' bw
  obtain ⟨lz0, lz1, -⟩ := lies_n bz bw
  have E0 := he 0 (by omega)
  have E1 := he 1 (by omega)
  have E2 := he 2 (by omega)
  have E3 := he 3 (by omega)
  have E4 := he 4 (by omega)
  have E5 := he 5 (by omega)
  rw [c0] at E0
  rw [c1] at E1
  rw [c2] at E2
  rw [c3] at E3
  rw [c4] at E4
  rw [c5] at E5
  subst hn
  rw [m_any_6, top_eq hg hf4, m_all_6]
  rw [m_any_cg (g := fun j => decide (v_val nf ff x y z w j = 0)) (fun j hj => by rw [val_k h hj]), pb_congr (g := fun j => decide (v_val nf ff x y z w j < 0)) (fun j hj => by rw [val_k h hj])]
  unfold v_ins
  simp only [decide_eq_decide.mpr (IB_eq E0 IB_0), decide_eq_decide.mpr (IB_eq E1 IB_0), decide_eq_decide.mpr (IB_eq E2 IB_0), decide_eq_decide.mpr (IB_eq E3 IB_0), decide_eq_decide.mpr (IB_eq E4 IB_0), decide_eq_decide.mpr (IB_eq E5 IB_0),
    decide_eq_decide.mpr (IB_lt E0 IB_0), decide_eq_decide.mpr (IB_lt E1 IB_0), decide_eq_decide.mpr (IB_lt E2 IB_0), decide_eq_decide.mpr (IB_lt E3 IB_0), decide_eq_decide.mpr (IB_lt E4 IB_0), decide_eq_decide.mpr (IB_lt E5 IB_0),
    decide_eq_decide.mpr lx0, decide_eq_decide.mpr ly0, decide_eq_decide.mpr lz0, decide_eq_decide.mpr lx1, decide_eq_decide.mpr ly1, decide_eq_decide.mpr lz1]
  generalize m_any (fun j => decide (v_val nf ff x y z w j = 0)) g = A
  generalize v_top hf my (pb_num (fun j => decide (v_val nf ff x y z w j < 0)) g) = B
  have q1 : ∀ a b : Int, (decide (a - 1000 * b = 0) || decide (-a - 1000 * b = 0)) = decide (a = 1000 * b ∨ -a = 1000 * b) := fun a b => by
    rw [← Bool.decide_or]; exact decide_eq_decide.mpr (by omega)
  have q2 : ∀ a b : Int, (decide (a - 1000 * b < 0) && decide (-a - 1000 * b < 0)) = !decide (¬ (a < 1000 * b ∧ -a < 1000 * b)) := fun a b => by
    rw [← Bool.decide_and, ← decide_not]; exact decide_eq_decide.mpr (by omega)
  rw [show ∀ a b c d e f : Bool, (a || (b || (c || (d || (e || f))))) = ((a || b) || ((c || d) || (e || f))) from by decide, show ∀ a b c d e f : Bool, (a && (b && (c && (d && (e && f))))) = ((a && b) && ((c && d) && (e && f))) from by decide, q1, q1, q1, q2, q2, q2]
  generalize decide (x.toInt = 1000 * w.toInt ∨ -x.toInt = 1000 * w.toInt) = k1
  generalize decide (y.toInt = 1000 * w.toInt ∨ -y.toInt = 1000 * w.toInt) = k2
  generalize decide (z.toInt = 1000 * w.toInt ∨ -z.toInt = 1000 * w.toInt) = k3
  rw [Bool.or_comm]
  simp only [Bool.and_assoc]
end
