/-! Loops; what the methods compute, as functions. -/
/-- a loop that counts up to n and writes nothing -/
theorem lp_up {α : Type} {G : Array Slot → Prop} (n : Nat) (I : Nat → α → Array Slot → Prop) (step : ∀ k a ls, k ≤ n → I k a ls → (∀ a' ls', k < n → I (k + 1) a' ls' → G ls') → G ls) : ∀ k a ls, k ≤ n → I k a ls → G ls := by
  have H : ∀ d k a ls, n - k < d → k ≤ n → I k a ls → G ls := by
    intro d
    induction d with
    | zero => intro k a ls hd; omega
    | succ d ih =>
      intro k a ls hd hk hI
      exact step k a ls hk hI (fun a' ls' hlt hI' => ih (k + 1) a' ls' (by omega) (by omega) hI')
  exact fun k a ls hk hI => H (n - k + 1) k a ls (by omega) hk hI
/-- .. and may write -/
theorem lp_upH {α : Type} {G : Array Slot → Heap → List Loc → Prop} (n : Nat) (I : Nat → α → Array Slot → Heap → List Loc → Prop) (step : ∀ k a ls H l9, k ≤ n → I k a ls H l9 → (∀ a' ls' H' l', k < n → I (k + 1) a' ls' H' l' → G ls' H' l') → G ls H l9) : ∀ k a ls H l9, k ≤ n → I k a ls H l9 → G ls H l9 := by
  have K : ∀ d k a ls H l9, n - k < d → k ≤ n → I k a ls H l9 → G ls H l9 := by
    intro d
    induction d with
    | zero => intro k a ls H l9 hd; omega
    | succ d ih =>
      intro k a ls H l9 hd hk hI
      exact step k a ls H l9 hk hI (fun a' ls' H' l' hlt hI' => ih (k + 1) a' ls' H' l' (by omega) (by omega) hI')
  exact fun k a ls H l9 hk hI => K (n - k + 1) k a ls H l9 (by omega) hk hI
/-- .. by a measure -/
theorem lp_mu {α : Type} {G : Array Slot → Prop} (I : α → Array Slot → Prop) (μ : α → Nat) (step : ∀ a ls, I a ls → (∀ a' ls', μ a' < μ a → I a' ls' → G ls') → G ls) : ∀ a ls, I a ls → G ls := by
  have H : ∀ d a ls, μ a < d → I a ls → G ls := by
    intro d
    induction d with
    | zero => intro a ls hd; omega
    | succ d ih =>
      intro a ls hd hI
      exact step a ls hI (fun a' ls' hlt hI' => ih a' ls' (by omega) hI')
  exact fun a ls hI => H (μ a + 1) a ls (by omega) hI
theorem gh_gen {p : Program} {l : Launch} {e : Env} {R : Room} {s : State} {m : MethodId} {args : Array Value} {below : List Frame} {meth : Method} {c : Code} {H H0 : Heap} {locs : List Loc} {cells slots : Nat} {Q : State → Prop} {D : va_G} {cl : List vw_C} {b0 : Nat} {h : gh_M} {g : JFrame}
    (hG : gh_P D cl b0 h H0 H locs) (k : ∀ (H : Heap) (l9 : List Loc), gh_P D cl b0 h H0 H l9 → W p l e R s m args below meth c H l9 cells slots Q g) : W p l e R s m args below meth c H locs cells slots Q g := k H locs hG
theorem nc_le {a b : Nat} (ha : a < 2 ^ 31) (hb : b < 2 ^ 31) {x y : Int32} (hx : x = nI a) (hy : y = nI b) : x ≤ y ↔ a ≤ b := by subst hx; subst hy; exact nI_leI ha hb
theorem nc_lt {a b : Nat} (ha : a < 2 ^ 31) (hb : b < 2 ^ 31) {x y : Int32} (hx : x = nI a) (hy : y = nI b) : x < y ↔ a < b := by subst hx; subst hy; exact nI_ltI ha hb
theorem nc_eq {a b : Nat} (ha : a < 2 ^ 31) (hb : b < 2 ^ 31) {x y : Int32} (hx : x = nI a) (hy : y = nI b) : x = y ↔ a = b := by subst hx; subst hy; exact nI_eq ha hb
def m_b (b : Bool) : Int32 := if b = true then 1 else 0
theorem mb_0 {b : Bool} : m_b b = 0 ↔ b = false := by cases b <;> simp [m_b]
theorem mb_1 {b : Bool} : ¬ m_b b = 0 ↔ b = true := by cases b <;> simp [m_b]
theorem mb_nz (b : Bool) : narrow .boolean (.int (m_b b)) = .int (m_b b) := by cases b <;> rfl
theorem mb_eq {a b : Bool} : m_b a = m_b b ↔ a = b := by cases a <;> cases b <;> simp [m_b]
def m_fac (ax : Int32) (pa pb pc : Int64) : Int64 := if ax = 0 then pa else if ax = 1 then pb else pc
def m_exc (pa pb pc pd x y z w : Int64) : Int64 := pa * x + pb * y + pc * z - pd * w
def m_one (pa pb pc pd qa qb qc qd : Int64) : Bool := decide (pa * qb = pb * qa) && (decide (pa * qc = pc * qa) && (decide (pb * qc = pc * qb) && (decide (pa * qd = pd * qa) && (decide (pb * qd = pd * qb) && decide (pc * qd = pd * qc)))))
def m_lk (pa pb pc qa qb qc : Int64) : Bool := decide (0 < pa * qa + pb * qb + pc * qc)
/-- bits set where g holds -/
def m_bits (g : Nat → Bool) : Nat → Int32
  | 0 => 0
  | k + 1 => if g k = true then m_bits g k ||| ((1 : Int32) <<< (nI k &&& 31)) else m_bits g k
def m_any (g : Nat → Bool) (n : Nat) : Bool := (List.range n).any g
def m_all (g : Nat → Bool) (n : Nat) : Bool := (List.range n).all g
theorem m_any_t {g : Nat → Bool} {n k : Nat} (hk : k < n) (h : g k = true) : m_any g n = true := List.any_eq_true.mpr ⟨k, List.mem_range.mpr hk, h⟩
theorem m_any_f {g : Nat → Bool} {n : Nat} (h : ∀ i, i < n → g i = false) : m_any g n = false := by
  cases hh : m_any g n with
  | false => rfl
  | true =>
    obtain ⟨k, hk, hg⟩ := List.any_eq_true.mp hh
    rw [h k (List.mem_range.mp hk)] at hg
    cases hg
theorem m_all_f {g : Nat → Bool} {n k : Nat} (hk : k < n) (h : g k = false) : m_all g n = false := by
  cases hh : m_all g n with
  | false => rfl
  | true =>
    have := List.all_eq_true.mp hh k (List.mem_range.mpr hk)
    rw [h] at this
    cases this
theorem m_all_t {g : Nat → Bool} {n : Nat} (h : ∀ i, i < n → g i = true) : m_all g n = true := List.all_eq_true.mpr (fun i hi => h i (List.mem_range.mp hi))
/-- the least number that g holds of, or n -/
def m_fst (g : Nat → Bool) : Nat → Nat
  | 0 => 0
  | n + 1 => if m_fst g n < n then m_fst g n else if g n = true then n else n + 1
theorem m_fst_no {g : Nat → Bool} {n : Nat} (h : ∀ j, j < n → g j = false) : m_fst g n = n := by
  induction n with
  | zero => rfl
  | succ n ih =>
    simp only [m_fst]
    rw [ih (fun j hj => h j (by omega)), h n (by omega)]
    simp
theorem m_fst_at {g : Nat → Bool} {n k : Nat} (h : ∀ j, j < k → g j = false) (hk : k < n) (hg : g k = true) : m_fst g n = k := by
  induction n with
  | zero => omega
  | succ n ih =>
    simp only [m_fst]
    by_cases hkn : k = n
    · subst hkn
      rw [m_fst_no h]
      simp [hg]
    · rw [ih (by omega)]
      simp
      omega
/-- the only first number among those that on holds of, so far; none: there are two -/
def m_fnd (on : Nat → Bool) (fs : Nat → Nat) : Nat → Option Int32
  | 0 => some (-1)
  | k + 1 => match m_fnd on fs k with
    | none => none
    | some v => if on k = true then (if v ≠ -1 ∧ v ≠ nI (fs k) then none else some (nI (fs k))) else some v
def m_only (on : Nat → Bool) (fs : Nat → Nat) (n : Nat) : Int32 := (m_fnd on fs n).getD (-1)
theorem m_fnd_none {on : Nat → Bool} {fs : Nat → Nat} {k : Nat} (h : m_fnd on fs k = none) : ∀ n, k ≤ n → m_fnd on fs n = none := by
  intro n
  induction n with
  | zero => intro hk; rw [show k = 0 by omega] at h; exact h
  | succ n ih =>
    intro hk
    by_cases hkn : k = n + 1
    · subst hkn; exact h
    · simp only [m_fnd]
      rw [ih (by omega)]
theorem m_bits_t {g : Nat → Bool} {k : Nat} (h : g k = true) : m_bits g (k + 1) = m_bits g k ||| ((1 : Int32) <<< (nI k &&& 31)) := by simp only [m_bits]; rw [if_pos h]
theorem m_bits_f {g : Nat → Bool} {k : Nat} (h : g k = false) : m_bits g (k + 1) = m_bits g k := by simp only [m_bits]; rw [if_neg (by rw [h]; decide)]
theorem m_fnd_s1 {on : Nat → Bool} {fs : Nat → Nat} {k : Nat} {v : Int32} (h : m_fnd on fs k = some v) (ho : on k = false) : m_fnd on fs (k + 1) = some v := by
  simp only [m_fnd]
  rw [h]
  simp [ho]
theorem m_fnd_s2 {on : Nat → Bool} {fs : Nat → Nat} {k : Nat} {v : Int32} (h : m_fnd on fs k = some v) (ho : on k = true) (hv : v = -1 ∨ v = nI (fs k)) : m_fnd on fs (k + 1) = some (nI (fs k)) := by
  simp only [m_fnd]
  rw [h]
  rcases hv with hv | hv <;> simp [ho, hv]
theorem m_fnd_n {on : Nat → Bool} {fs : Nat → Nat} {k : Nat} {v : Int32} (h : m_fnd on fs k = some v) (ho : on k = true) (h1 : ¬ v = -1) (h2 : ¬ v = nI (fs k)) : m_fnd on fs (k + 1) = none := by
  simp only [m_fnd]
  rw [h]
  simp [ho, h1, h2]
