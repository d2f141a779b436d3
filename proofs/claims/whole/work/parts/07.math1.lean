/-! Counting, and the sweep along a line: how often a line goes in, by planes and by places. -/
/-- how many of the first m numbers p holds of -/
def mc_cnt (p : Nat → Bool) : Nat → Nat
  | 0 => 0
  | m + 1 => mc_cnt p m + (if p m = true then 1 else 0)
theorem mc_congr {p q : Nat → Bool} {m : Nat} (h : ∀ i, i < m → p i = q i) : mc_cnt p m = mc_cnt q m := by
  induction m with
  | zero => rfl
  | succ m ih =>
    simp only [mc_cnt]
    rw [ih (fun i hi => h i (by omega)), h m (by omega)]
theorem mc_zero {p : Nat → Bool} {m : Nat} (h : ∀ i, i < m → p i = false) : mc_cnt p m = 0 := by
  induction m with
  | zero => rfl
  | succ m ih =>
    simp only [mc_cnt]
    rw [ih (fun i hi => h i (by omega)), h m (by omega)]
    rfl
theorem mc_add {p q r : Nat → Bool} {m : Nat} (h : ∀ i, i < m → (p i = true ↔ (q i = true ∨ r i = true))) (hd : ∀ i, i < m → ¬ (q i = true ∧ r i = true)) : mc_cnt p m = mc_cnt q m + mc_cnt r m := by
  induction m with
  | zero => rfl
  | succ m ih =>
    simp only [mc_cnt]
    rw [ih (fun i hi => h i (by omega)) (fun i hi => hd i (by omega))]
    have h1 := h m (by omega)
    have h2 := hd m (by omega)
    cases hp : p m <;> cases hq : q m <;> cases hr : r m <;> simp_all <;> omega
theorem mc_one {p : Nat → Bool} {m j : Nat} (hj : j < m) (h : ∀ i, i < m → p i = true → i = j) : mc_cnt p m = if p j = true then 1 else 0 := by
  induction m with
  | zero => omega
  | succ m ih =>
    simp only [mc_cnt]
    by_cases hm : j = m
    · subst hm
      rw [mc_zero (fun i hi => ?_)]
      · simp
      · cases hp : p i with
        | false => rfl
        | true => exact absurd (h i (by omega) hp) (by omega)
    · rw [ih (by omega) (fun i hi hp => h i (by omega) hp)]
      have : p m = false := by
        cases hp : p m with
        | false => rfl
        | true => exact absurd (h m (by omega) hp) (fun q => hm q.symm)
      rw [this]
      simp
theorem mc_lt {p q : Nat → Bool} {m j : Nat} (h : ∀ i, i < m → p i = true → q i = true) (hj : j < m) (hp : p j = false) (hq : q j = true) : mc_cnt p m < mc_cnt q m := by
  induction m with
  | zero => omega
  | succ m ih =>
    simp only [mc_cnt]
    by_cases hm : j = m
    · subst hm
      have hle : mc_cnt p j ≤ mc_cnt q j := by
        clear ih hj hp hq
        induction j with
        | zero => exact Nat.le_refl _
        | succ k ih2 =>
          simp only [mc_cnt]
          have h1 := ih2 (fun i hi => h i (by omega))
          have h2 := h k (by omega)
          cases hp : p k <;> cases hq : q k <;> simp_all <;> omega
      rw [hp, hq]
      simp
      omega
    · have h1 := ih (fun i hi => h i (by omega)) (by omega)
      have h2 := h m (by omega)
      cases hp : p m <;> cases hq : q m <;> simp_all <;> omega
theorem mc_le (p : Nat → Bool) (m : Nat) : mc_cnt p m ≤ m := by
  induction m with
  | zero => exact Nat.le_refl _
  | succ m ih =>
    simp only [mc_cnt]
    split <;> omega
/-- the next place behind x: the least key above x, and below hi -/
def sw_nx (act : Nat → Bool) (key : Nat → Int) (x hi : Int) : Nat → Int
  | 0 => hi
  | k + 1 => if act k = true ∧ x < key k ∧ key k < sw_nx act key x hi k then key k else sw_nx act key x hi k
theorem sw_nx_le (act : Nat → Bool) (key : Nat → Int) (x hi : Int) (n : Nat) : sw_nx act key x hi n ≤ hi := by
  induction n with
  | zero => exact Int.le_refl _
  | succ k ih =>
    simp only [sw_nx]
    split <;> omega
theorem sw_nx_gt {act : Nat → Bool} {key : Nat → Int} {x hi : Int} (hx : x < hi) (n : Nat) : x < sw_nx act key x hi n := by
  induction n with
  | zero => exact hx
  | succ k ih =>
    simp only [sw_nx]
    split
    · omega
    · exact ih
theorem sw_nx_least {act : Nat → Bool} {key : Nat → Int} {x hi : Int} {n k : Nat} (hk : k < n) (ha : act k = true) (hx : x < key k) : sw_nx act key x hi n ≤ key k := by
  induction n with
  | zero => omega
  | succ j ih =>
    simp only [sw_nx]
    by_cases hj : k = j
    · subst hj
      split
      · omega
      · rename_i hn
        have := hn
        simp only [ha, hx, true_and] at this
        omega
    · have := ih (by omega)
      split <;> omega
theorem sw_nx_in {act : Nat → Bool} {key : Nat → Int} {x hi : Int} (n : Nat) : sw_nx act key x hi n = hi ∨ ∃ k, k < n ∧ act k = true ∧ x < key k ∧ key k < hi ∧ key k = sw_nx act key x hi n := by
  induction n with
  | zero => exact Or.inl rfl
  | succ j ih =>
    simp only [sw_nx]
    split
    · rename_i hc
      have := sw_nx_le act key x hi j
      exact Or.inr ⟨j, by omega, hc.1, hc.2.1, by omega, rfl⟩
    · rcases ih with h | ⟨k, h1, h2, h3, h4, h5⟩
      · exact Or.inl h
      · exact Or.inr ⟨k, by omega, h2, h3, h4, h5⟩
/-- the sweep from x on, what lay before it being 'inn' -/
def sw_run (F : Int → Bool) (act : Nat → Bool) (key : Nat → Int) (hi : Int) (n : Nat) : Nat → Int → Bool → Nat
  | 0, _, _ => 0
  | f + 1, x, inn => if x < hi then (if F x = true ∧ inn = false then 1 else 0) + sw_run F act key hi n f (sw_nx act key x hi n) (F x) else 0
/-- what the two ways to count have in common: ev i: the plane i has a place on the line within lo .. hb, at ky i -/
theorem sw_main {F B : Int → Bool} {act ev : Nat → Bool} {key ky : Nat → Int} {lo hb : Int} {n m : Nat} (hlh : lo < hb)
    (hbox : ∀ i, i < m → ev i = true → lo ≤ ky i ∧ ky i ≤ hb)
    (hinj : ∀ i j, i < m → j < m → ev i = true → ev j = true → ky i = ky j → i = j)
    (hlo : ∃ i, i < m ∧ ev i = true ∧ ky i = lo)
    (hto : ∀ k, k < n → act k = true → lo ≤ key k → key k ≤ hb → ∃ i, i < m ∧ ev i = true ∧ ky i = key k)
    (hof : ∀ i, i < m → ev i = true → lo < ky i → ky i < hb → ∃ k, k < n ∧ act k = true ∧ key k = ky i)
    (hB : ∀ x y, lo ≤ y → y < x → x < hb → (∀ k, k < n → act k = true → ¬ (y < key k ∧ key k < x)) → B x = F y) :
    ∀ (f : Nat) (x : Int) (inn : Bool), (x < hb → mc_cnt (fun k => act k && decide (x < key k) && decide (key k < hb)) n < f) → lo ≤ x → x ≤ hb → (x < hb → ∃ i, i < m ∧ ev i = true ∧ ky i = x) → (x < hb → inn = if x = lo then false else B x) →
      sw_run F act key hb n f x inn = mc_cnt (fun i => ev i && (decide (x ≤ ky i) && decide (ky i < hb)) && (F (ky i) && !(if ky i = lo then false else B (ky i)))) m := by
  have hend : ∀ x, ¬ x < hb → mc_cnt (fun i => ev i && (decide (x ≤ ky i) && decide (ky i < hb)) && (F (ky i) && !(if ky i = lo then false else B (ky i)))) m = 0 := by
    intro x hx
    refine mc_zero (fun i hi => ?_)
    cases he : ev i with
    | false => simp
    | true =>
      have h1 := hbox i hi he
      have h2 : (decide (x ≤ ky i) && decide (ky i < hb)) = false := by
        by_cases h3 : x ≤ ky i
        · have h4 : ¬ ky i < hb := by omega
          simp [h4]
        · simp [h3]
      rw [h2]
      rfl
  intro f
  induction f with
  | zero =>
    intro x inn hf hx1 hx2 hev hin
    simp only [sw_run]
    exact (hend x (fun h => by have := hf h; omega)).symm
  | succ f ih =>
    intro x inn hf hx1 hx2 hev hin
    simp only [sw_run]
    by_cases hxh : x < hb
    · rw [if_pos hxh]
      have hg := sw_nx_gt (act := act) (key := key) hxh n
      have hl := sw_nx_le act key x hb n
      obtain ⟨i0, hi0, he0, hk0⟩ := hev hxh
      have hrec := ih (sw_nx act key x hb n) (F x) ?_ (by omega) hl ?_ ?_
      · rw [hrec]
        have hone := mc_one (p := fun i => ev i && decide (ky i = x) && (F (ky i) && !(if ky i = lo then false else B (ky i)))) (m := m) (j := i0) hi0 (fun i hi hp => by
          simp only [Bool.and_eq_true, decide_eq_true_eq] at hp
          exact hinj i i0 hi hi0 hp.1.1 he0 (by rw [hp.1.2, hk0]))
        rw [mc_add (p := fun i => ev i && (decide (x ≤ ky i) && decide (ky i < hb)) && (F (ky i) && !(if ky i = lo then false else B (ky i)))) (q := fun i => ev i && decide (ky i = x) && (F (ky i) && !(if ky i = lo then false else B (ky i)))) (r := fun i => ev i && (decide (sw_nx act key x hb n ≤ ky i) && decide (ky i < hb)) && (F (ky i) && !(if ky i = lo then false else B (ky i)))) ?_ ?_, hone]
        · congr 1
          simp only [he0, hk0, decide_true, Bool.true_and, hin hxh]
          cases F x <;> cases (if x = lo then false else B x) <;> simp
        · intro i hi
          simp only [Bool.and_eq_true, decide_eq_true_eq]
          constructor
          · rintro ⟨⟨h1, h2, h3⟩, h4⟩
            by_cases hq : ky i = x
            · exact Or.inl ⟨⟨h1, hq⟩, h4⟩
            · refine Or.inr ⟨⟨h1, ?_, h3⟩, h4⟩
              obtain ⟨k, g1, g2, g3⟩ := hof i hi h1 (by omega) h3
              have := sw_nx_least (key := key) (hi := hb) g1 g2 (x := x) (by omega)
              omega
          · rintro (⟨⟨h1, h2⟩, h4⟩ | ⟨⟨h1, h2, h3⟩, h4⟩)
            · exact ⟨⟨h1, by omega, by omega⟩, h4⟩
            · exact ⟨⟨h1, by omega, h3⟩, h4⟩
        · intro i hi
          simp only [Bool.and_eq_true, decide_eq_true_eq]
          rintro ⟨⟨⟨h1, h2⟩, h4⟩, ⟨⟨h5, h6, h7⟩, h8⟩⟩
          omega
      · intro hlt
        have hf2 := hf hxh
        rcases sw_nx_in (act := act) (key := key) (x := x) (hi := hb) n with hq | ⟨k, h1, h2, h3, h4, h5⟩
        · omega
        · have := mc_lt (p := fun k => act k && decide (sw_nx act key x hb n < key k) && decide (key k < hb)) (q := fun k => act k && decide (x < key k) && decide (key k < hb)) (m := n) (j := k) (fun i hi hp => by
            simp only [Bool.and_eq_true, decide_eq_true_eq] at hp ⊢
            exact ⟨⟨hp.1.1, by omega⟩, hp.2⟩) h1 (by simp [h2, h5]) (by simp [h2, h3, h4])
          omega
      · intro hlt
        rcases sw_nx_in (act := act) (key := key) (x := x) (hi := hb) n with hq | ⟨k, h1, h2, h3, h4, h5⟩
        · omega
        · obtain ⟨i, g1, g2, g3⟩ := hto k h1 h2 (by omega) (by omega)
          exact ⟨i, g1, g2, by omega⟩
      · intro hlt
        rw [if_neg (by omega)]
        exact (hB _ x hx1 hg hlt (fun k hk ha hq => by
          have := sw_nx_least (hi := hb) hk ha (x := x) hq.1
          omega)).symm
    · rw [if_neg hxh]
      exact (hend x hxh).symm
