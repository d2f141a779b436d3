/-! enters: the class's and the model's numbers. -/
theorem IB_c {b : Int64} {x y A B : Int} (h : IB b x A) (hx : x = y) (hA : A ≤ B) : IB b y B := by subst hx; exact IB_w h hA
theorem ox0 (al u v w : Int64) : m_ox (nI 0) al u v w = al ∧ m_oy (nI 0) al u v w = u * w ∧ m_oz (nI 0) al u v w = v * w := ⟨if_pos rfl, if_pos rfl, if_pos rfl⟩
theorem ox1 (al u v w : Int64) : m_ox (nI 1) al u v w = u * w ∧ m_oy (nI 1) al u v w = al ∧ m_oz (nI 1) al u v w = v * w := ⟨if_neg (by decide), (if_neg (by decide)).trans (if_pos rfl), (if_neg (by decide)).trans (if_pos rfl)⟩
theorem ox2 (al u v w : Int64) : m_ox (nI 2) al u v w = u * w ∧ m_oy (nI 2) al u v w = v * w ∧ m_oz (nI 2) al u v w = al := ⟨if_neg (by decide), (if_neg (by decide)).trans (if_neg (by decide)), (if_neg (by decide)).trans (if_neg (by decide))⟩
section
variable {g n : Nat} {fs : Nat → Nat} {pa pb pc pd : Nat → Int64} {nf ff : Nat → Int32} {a : Nat} {u v : Int32}
theorem fac_ib (h : tI g n fs pa pb pc pd nf ff) (ha : a < 3) {i : Nat} (hi : i < n) : IB (m_fac (nI a) (pa i) (pb i) (pc i)) (tP pa pb pc pd i a) 1000000 := by
  obtain ⟨h0, h1, h2, -⟩ := tI_ib h hi
  rcases (show a = 0 ∨ a = 1 ∨ a = 2 by omega) with rfl | rfl | rfl
  · rw [show m_fac (nI 0) (pa i) (pb i) (pc i) = pa i from if_pos rfl]; exact h0
  · rw [show m_fac (nI 1) (pa i) (pb i) (pc i) = pb i from (if_neg (by decide)).trans (if_pos rfl)]; exact h1
  · rw [show m_fac (nI 2) (pa i) (pb i) (pc i) = pc i from (if_neg (by decide)).trans (if_neg (by decide))]; exact h2
theorem mis_ib (h : tI g n fs pa pb pc pd nf ff) (ha : a < 3) (hu : -999 ≤ u.toInt ∧ u.toInt ≤ 999) (hv : -999 ≤ v.toInt ∧ v.toInt ≤ 999) {i : Nat} (hi : i < n) : IB (e_mis (nI a) (Int32.toInt64 u) (Int32.toInt64 v) (pa i) (pb i) (pc i) (pd i)) (eT (tP pa pb pc pd) a u.toInt v.toInt i) 3000000000 := by
  obtain ⟨h0, h1, h2, h3⟩ := tI_ib h hi
  have iu := IB_32 hu.1 hu.2
  have iv := IB_32 hv.1 hv.2
  have iu1 := IB_mul iu IB_1 (by decide)
  have iv1 := IB_mul iv IB_1 (by decide)
  unfold e_mis m_exc eT
  rcases (show a = 0 ∨ a = 1 ∨ a = 2 by omega) with rfl | rfl | rfl
  · obtain ⟨e1, e2, e3⟩ := ox0 0 (Int32.toInt64 u) (Int32.toInt64 v) 1
    rw [e1, e2, e3, show v_o 0 = 1 from rfl, show v_t 0 = 2 from rfl]
    exact IB_c (IB_neg (IB_sub (IB_add (IB_add (IB_mul h0 IB_0 (by decide)) (IB_mul h1 iu1 (by decide)) (by decide)) (IB_mul h2 iv1 (by decide)) (by decide)) (IB_mul h3 IB_1 (by decide)) (by decide)) (by decide)) (by rw [Int.mul_one, Int.mul_one, Int.mul_one]; omega) (by decide)
  · obtain ⟨e1, e2, e3⟩ := ox1 0 (Int32.toInt64 u) (Int32.toInt64 v) 1
    rw [e1, e2, e3, show v_o 1 = 0 from rfl, show v_t 1 = 2 from rfl]
    exact IB_c (IB_neg (IB_sub (IB_add (IB_add (IB_mul h0 iu1 (by decide)) (IB_mul h1 IB_0 (by decide)) (by decide)) (IB_mul h2 iv1 (by decide)) (by decide)) (IB_mul h3 IB_1 (by decide)) (by decide)) (by decide)) (by rw [Int.mul_one, Int.mul_one, Int.mul_one]; omega) (by decide)
  · obtain ⟨e1, e2, e3⟩ := ox2 0 (Int32.toInt64 u) (Int32.toInt64 v) 1
    rw [e1, e2, e3, show v_o 2 = 0 from rfl, show v_t 2 = 1 from rfl]
    exact IB_c (IB_neg (IB_sub (IB_add (IB_add (IB_mul h0 iu1 (by decide)) (IB_mul h1 iv1 (by decide)) (by decide)) (IB_mul h2 IB_0 (by decide)) (by decide)) (IB_mul h3 IB_1 (by decide)) (by decide)) (by decide)) (by rw [Int.mul_one, Int.mul_one, Int.mul_one]; omega) (by decide)
theorem al_ib (h : tI g n fs pa pb pc pd nf ff) (ha : a < 3) (hu : -999 ≤ u.toInt ∧ u.toInt ≤ 999) (hv : -999 ≤ v.toInt ∧ v.toInt ≤ 999) {i : Nat} (hi : i < n) : IB (e_al (nI a) (Int32.toInt64 u) (Int32.toInt64 v) (pa i) (pb i) (pc i) (pd i)) (eS (tP pa pb pc pd i a) (eT (tP pa pb pc pd) a u.toInt v.toInt i)) 3000000000 := by
  have hf := IB_lt (fac_ib h ha hi) IB_0
  have hm := mis_ib h ha hu hv hi
  unfold e_al eS
  by_cases hc : tP pa pb pc pd i a < 0
  · rw [if_pos (hf.mpr hc), if_pos hc]
    exact IB_neg hm (by decide)
  · rw [if_neg (fun z => hc (hf.mp z)), if_neg hc]
    exact hm
theorem w_ib (h : tI g n fs pa pb pc pd nf ff) (ha : a < 3) {i : Nat} (hi : i < n) : IB (e_w (nI a) (pa i) (pb i) (pc i)) (eW (tP pa pb pc pd i a)) 1000000 := by
  have hf := fac_ib h ha hi
  have hl := IB_lt IB_0 hf
  unfold e_w eW
  by_cases hc : 0 < tP pa pb pc pd i a
  · rw [if_pos (hl.mpr hc), if_pos hc]
    exact hf
  · rw [if_neg (fun z => hc (hl.mp z)), if_neg hc]
    exact IB_neg hf (by decide)
/-- a point on the line: its coordinates -/
def eX (a : Nat) (S U V W : Int) : Int := if a = 0 then S else U * W
def eY (a : Nat) (S U V W : Int) : Int := if a = 0 then U * W else if a = 1 then S else V * W
def eZ (a : Nat) (S U V W : Int) : Int := if a = 2 then S else V * W
theorem pv_line (P : Nat → Nat → Int) (ha : a < 3) (j : Nat) (S U V W : Int) : pv_at (P j) (eX a S U V W) (eY a S U V W) (eZ a S U V W) W = P j a * S - eT P a U V j * W := by
  unfold pv_at eT
  rcases (show a = 0 ∨ a = 1 ∨ a = 2 by omega) with rfl | rfl | rfl
  · rw [show eX 0 S U V W = S from rfl, show eY 0 S U V W = U * W from rfl, show eZ 0 S U V W = V * W from rfl, show v_o 0 = 1 from rfl, show v_t 0 = 2 from rfl]; grind
  · rw [show eX 1 S U V W = U * W from rfl, show eY 1 S U V W = S from rfl, show eZ 1 S U V W = V * W from rfl, show v_o 1 = 0 from rfl, show v_t 1 = 2 from rfl]; grind
  · rw [show eX 2 S U V W = U * W from rfl, show eY 2 S U V W = V * W from rfl, show eZ 2 S U V W = S from rfl, show v_o 2 = 0 from rfl, show v_t 2 = 1 from rfl]; grind
theorem pt_ib (h : tI g n fs pa pb pc pd nf ff) (ha : a < 3) (hu : -999 ≤ u.toInt ∧ u.toInt ≤ 999) (hv : -999 ≤ v.toInt ∧ v.toInt ≤ 999) {i : Nat} (hi : i < n) :
    IB (e_x (nI a) (Int32.toInt64 u) (Int32.toInt64 v) (pa i) (pb i) (pc i) (pd i)) (eX a (eS (tP pa pb pc pd i a) (eT (tP pa pb pc pd) a u.toInt v.toInt i)) u.toInt v.toInt (eW (tP pa pb pc pd i a))) 4000000000 ∧
    IB (e_y (nI a) (Int32.toInt64 u) (Int32.toInt64 v) (pa i) (pb i) (pc i) (pd i)) (eY a (eS (tP pa pb pc pd i a) (eT (tP pa pb pc pd) a u.toInt v.toInt i)) u.toInt v.toInt (eW (tP pa pb pc pd i a))) 4000000000 ∧
    IB (e_z (nI a) (Int32.toInt64 u) (Int32.toInt64 v) (pa i) (pb i) (pc i) (pd i)) (eZ a (eS (tP pa pb pc pd i a) (eT (tP pa pb pc pd) a u.toInt v.toInt i)) u.toInt v.toInt (eW (tP pa pb pc pd i a))) 4000000000 := by
  have hal := IB_w (B := 4000000000) (al_ib h ha hu hv hi) (by decide)
  have hw := w_ib h ha hi
  have iu := IB_w (B := 4000000000) (IB_mul (IB_32 hu.1 hu.2) hw (by decide)) (by decide)
  have iv := IB_w (B := 4000000000) (IB_mul (IB_32 hv.1 hv.2) hw (by decide)) (by decide)
  unfold e_x e_y e_z
  generalize hS : eS (tP pa pb pc pd i a) (eT (tP pa pb pc pd) a u.toInt v.toInt i) = S at *
  generalize hA : e_al (nI a) (Int32.toInt64 u) (Int32.toInt64 v) (pa i) (pb i) (pc i) (pd i) = A at *
  rcases (show a = 0 ∨ a = 1 ∨ a = 2 by omega) with rfl | rfl | rfl
  · obtain ⟨e1, e2, e3⟩ := ox0 A (Int32.toInt64 u) (Int32.toInt64 v) (e_w (nI 0) (pa i) (pb i) (pc i))
    rw [e1, e2, e3]
    exact ⟨hal, iu, iv⟩
  · obtain ⟨e1, e2, e3⟩ := ox1 A (Int32.toInt64 u) (Int32.toInt64 v) (e_w (nI 1) (pa i) (pb i) (pc i))
    rw [e1, e2, e3]
    exact ⟨iu, hal, iv⟩
  · obtain ⟨e1, e2, e3⟩ := ox2 A (Int32.toInt64 u) (Int32.toInt64 v) (e_w (nI 2) (pa i) (pb i) (pc i))
    rw [e1, e2, e3]
    exact ⟨iu, iv, hal⟩
/-- what the plane j says where the line meets the plane i -/
theorem exc_E (h : tI g n fs pa pb pc pd nf ff) (ha : a < 3) (hu : -999 ≤ u.toInt ∧ u.toInt ≤ 999) (hv : -999 ≤ v.toInt ∧ v.toInt ≤ 999) {i j : Nat} (hi : i < n) (hj : j < n) :
    IB (m_exc (pa j) (pb j) (pc j) (pd j) (e_x (nI a) (Int32.toInt64 u) (Int32.toInt64 v) (pa i) (pb i) (pc i) (pd i)) (e_y (nI a) (Int32.toInt64 u) (Int32.toInt64 v) (pa i) (pb i) (pc i) (pd i)) (e_z (nI a) (Int32.toInt64 u) (Int32.toInt64 v) (pa i) (pb i) (pc i) (pd i)) (e_w (nI a) (pa i) (pb i) (pc i)))
      (tP pa pb pc pd j a * eS (tP pa pb pc pd i a) (eT (tP pa pb pc pd) a u.toInt v.toInt i) - eT (tP pa pb pc pd) a u.toInt v.toInt j * eW (tP pa pb pc pd i a)) 13000000000000000 := by
  obtain ⟨h1, h2, h3⟩ := pt_ib h ha hu hv hi
  exact IB_c (tI_at h hj h1 h2 h3 (w_ib h ha hi)) (pv_line (tP pa pb pc pd) ha j _ _ _ _) (Int.le_refl _)
/-- the model's -/
theorem sl_ib (h : tI g n fs pa pb pc pd nf ff) (ha : a < 3) {k : Nat} (hk : k < g) : IB (v_sl nf a k) (tP pa pb pc pd (6 + k) a) 1000000 ∧ (nf (3 * k + a)).toInt = tP pa pb pc pd (6 + k) a := by
  have hn := h.1
  obtain ⟨h0, h1, h2, -⟩ := tI_ib h (i := 6 + k) (by omega)
  obtain ⟨e0, e1, e2, -⟩ := h.2.2.2.1 k hk
  obtain ⟨f0, f1, f2, -⟩ := tI_k h hk
  unfold v_sl
  rcases (show a = 0 ∨ a = 1 ∨ a = 2 by omega) with rfl | rfl | rfl
  · rw [e0] at h0; exact ⟨h0, f0.symm⟩
  · rw [e1] at h1; exact ⟨h1, f1.symm⟩
  · rw [e2] at h2; exact ⟨h2, f2.symm⟩
theorem mt_ib (h : tI g n fs pa pb pc pd nf ff) (ha : a < 3) (hu : -999 ≤ u.toInt ∧ u.toInt ≤ 999) (hv : -999 ≤ v.toInt ∧ v.toInt ≤ 999) {k : Nat} (hk : k < g) : IB (v_mt nf ff a u v k) (eT (tP pa pb pc pd) a u.toInt v.toInt (6 + k)) 3000000000 := by
  have hn := h.1
  have ho : v_o a < 3 := by unfold v_o; split <;> omega
  have ht : v_t a < 3 := by unfold v_t; split <;> omega
  obtain ⟨-, -, -, h3⟩ := tI_ib h (i := 6 + k) (by omega)
  obtain ⟨-, -, -, e3⟩ := h.2.2.2.1 k hk
  rw [e3] at h3
  have io := (sl_ib h ho hk).1
  have it := (sl_ib h ht hk).1
  exact IB_c (IB_sub (IB_sub h3 (IB_mul io (IB_32 hu.1 hu.2) (by decide)) (by decide)) (IB_mul it (IB_32 hv.1 hv.2) (by decide)) (by decide)) rfl (by decide)
theorem tp_ib (h : tI g n fs pa pb pc pd nf ff) (ha : a < 3) (hu : -999 ≤ u.toInt ∧ u.toInt ≤ 999) (hv : -999 ≤ v.toInt ∧ v.toInt ≤ 999) {k : Nat} (hk : k < g) : IB (v_tp nf ff a u v k) (eS (tP pa pb pc pd (6 + k) a) (eT (tP pa pb pc pd) a u.toInt v.toInt (6 + k))) 3000000000 ∧ IB (v_dn nf a k) (eW (tP pa pb pc pd (6 + k) a)) 1000000 := by
  have hs := (sl_ib h ha hk).1
  have hm := mt_ib h ha hu hv hk
  have hl := IB_le IB_0 hs
  unfold v_tp v_dn eS eW
  by_cases hc : 0 ≤ tP pa pb pc pd (6 + k) a
  · rw [if_pos (hl.mpr hc), if_pos (hl.mpr hc), if_neg (by omega)]
    refine ⟨hm, ?_⟩
    by_cases h0 : 0 < tP pa pb pc pd (6 + k) a
    · rw [if_pos h0]; exact hs
    · rw [if_neg h0]; exact IB_c hs (by omega) (Int.le_refl _)
  · rw [if_neg (fun z => hc (hl.mp z)), if_neg (fun z => hc (hl.mp z)), if_pos (by omega), if_neg (by omega)]
    exact ⟨IB_neg hm (by decide), IB_neg hs (by decide)⟩
/-- the places, by the model's pairs -/
def eKy (P : Nat → Nat → Int) (a n : Nat) (x : Int64 × Int64) : Int := eK (eM P a n) x.1.toInt x.2.toInt
theorem cmp_ib {t d t2 d2 : Int64} {x y x2 y2 : Int} (h1 : IB t x 3000000000) (h2 : IB d y 1000000) (h3 : IB t2 x2 3000000000) (h4 : IB d2 y2 1000000) : (v_cmp t d t2 d2 < 0 ↔ x * y2 < x2 * y) ∧ (0 < v_cmp t d t2 d2 ↔ x2 * y < x * y2) := by
  have m1 := IB_mul h1 h4 (by decide)
  have m2 := IB_mul h3 h2 (by decide)
  have l1 := IB_le m2 m1
  have l2 := IB_le m1 m2
  unfold v_cmp
  by_cases k1 : x2 * y ≤ x * y2
  · rw [if_pos (l1.mpr k1)]
    by_cases k2 : x * y2 ≤ x2 * y
    · rw [if_pos (l2.mpr k2)]
      exact ⟨⟨fun z => absurd z (by decide), fun z => by omega⟩, ⟨fun z => absurd z (by decide), fun z => by omega⟩⟩
    · rw [if_neg (fun z => k2 (l2.mp z))]
      exact ⟨⟨fun z => absurd z (by decide), fun z => by omega⟩, ⟨fun z => by omega, fun z => by decide⟩⟩
  · rw [if_neg (fun z => k1 (l1.mp z))]
    exact ⟨⟨fun z => by omega, fun z => by decide⟩, ⟨fun z => absurd z (by decide), fun z => by omega⟩⟩
theorem keys_ok (h : tI g n fs pa pb pc pd nf ff) (ha : a < 3) (hu : -999 ≤ u.toInt ∧ u.toInt ≤ 999) (hv : -999 ≤ v.toInt ∧ v.toInt ≤ 999) : v_K nf ff g a u v (eKy (tP pa pb pc pd) a n) := by
  have hn := h.1
  have hM := eM_pos (tP pa pb pc pd) a n
  have key : ∀ x, v_S nf ff g a u v x → ∃ t d : Int, IB x.1 t 3000000000 ∧ IB x.2 d 1000000 ∧ 0 < d ∧ d ∣ eM (tP pa pb pc pd) a n := by
    intro x hx
    rcases hx with rfl | rfl | ⟨k, hk, hd, rfl⟩
    · exact ⟨-1000, 1, IB_w IB_mk (by decide), IB_w IB_1 (by decide), by decide, Int.one_dvd _⟩
    · exact ⟨1000, 1, IB_w IB_k (by decide), IB_w IB_1 (by decide), by decide, Int.one_dvd _⟩
    · obtain ⟨h1, h2⟩ := tp_ib h ha hu hv hk
      have h3 : 0 < eW (tP pa pb pc pd (6 + k) a) := by
        have := IB_le h2 IB_0
        exact Int.not_le.mp (fun z => hd (this.mpr z))
      have h4 : tP pa pb pc pd (6 + k) a ≠ 0 := fun z => by rw [z] at h3; exact absurd h3 (by decide)
      exact ⟨_, _, h1, h2, h3, eM_dvd (by omega) h4⟩
  intro x y hx hy
  obtain ⟨t, d, h1, h2, h3, h4⟩ := key x hx
  obtain ⟨t2, d2, k1, k2, k3, k4⟩ := key y hy
  obtain ⟨c1, c2⟩ := cmp_ib h1 h2 k1 k2
  unfold eKy
  rw [h1.1, h2.1, k1.1, k2.1, c1, c2]
  exact ⟨eK_lt hM h3 k3 h4 k4, eK_lt hM k3 h3 k4 h4⟩
end
