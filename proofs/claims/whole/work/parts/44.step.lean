/-! One call of the law: the class's answer, the model's, and the two worlds behind them. -/
/-- the two worlds, side by side; the model's thrown is k, and if it is 0, the law's cell holds b -/
def lwR (cI cJ cP cS : ClassId) (h : gh_M) (x mo ou : Nat) (k b : Int32) : Prop :=
  ∃ (sp al fi n : Nat) (ga : Nat → Option Nat) (gf : Nat → Int32) (pl fs : Nat → Nat) (pa pb pc pd : Nat → Int64) (sk po : Nat) (gs : Nat → Option Nat) (so wo : Nat → Nat) (wd : Nat → Nat → Int64) (ht : Nat) (px py pz pw : Int64) (nm fr hs va tp dn g : Nat) (nf ff : Nat → Int32) (hf vf tf df : Nat → Int64) (fo : Nat → Int64),
    wX cI cJ cP cS h x sp al fi n ga gf pl fs pa pb pc pd sk po gs so wo wd ht px py pz pw ∧ wM cI cJ h mo nm fr hs va tp dn k g ht nf ff hf vf tf df ∧ h ou = some (.inl (cJ, 1, .inr (.inl fo))) ∧ tI g n fs pa pb pc pd nf ff ∧ (∀ j, j < ht → ∀ q, q < 4 → wd j q = hf (4 * j + q)) ∧ (k = 0 → fo 0 = Int32.toInt64 b)
theorem rT_2 {b1 b2 : Bool} {c1 c2 : Nat} {h h1 : gh_M} {OK : Outcome → gh_M → Prop} {oc : Outcome} (hp : rB b1 (rT c1 h) (rB b2 (rT c2 h) OK) oc h1) :
    (b1 = true ∧ ∃ q, oc = .threw q ∧ h q = none ∧ h1 = gh_up h q (.inr (c1, []))) ∨ (b1 = false ∧ b2 = true ∧ ∃ q, oc = .threw q ∧ h q = none ∧ h1 = gh_up h q (.inr (c2, []))) ∨ (b1 = false ∧ b2 = false ∧ OK oc h1) := by
  rcases rB_c hp with ⟨k1, k2⟩ | ⟨k1, k2⟩
  · exact Or.inl ⟨k1, k2⟩
  · rcases rB_c k2 with ⟨k3, k4⟩ | ⟨k3, k4⟩
    · exact Or.inr (Or.inl ⟨k1, k3, k4⟩)
    · exact Or.inr (Or.inr ⟨k1, k3, k4⟩)
/-- two ways to throw -/
theorem lw_2 {b1 b2 : Bool} {c1 c2 : Nat} {h h1 : gh_M} {OK : Outcome → gh_M → Prop} {oc : Outcome} {ou : Nat} {cJ : ClassId} {fo : Nat → Int64} (hne : c1 ≠ c2) (hok : ∀ q z, ¬ OK (.threw q) z) (hp : lwP (rB b1 (rT c1 h) (rB b2 (rT c2 h) OK)) ou cJ fo [(c1, 1), (c2, 2)] oc h1) :
    (b1 = true ∧ oc = .returned (some (.int 1)) ∧ ∃ q, h q = none ∧ h1 = gh_up h q (.inr (c1, []))) ∨ (b1 = false ∧ b2 = true ∧ oc = .returned (some (.int 2)) ∧ ∃ q, h q = none ∧ h1 = gh_up h q (.inr (c2, []))) ∨
    (b1 = false ∧ b2 = false ∧ oc = .returned (some (.int 0)) ∧ ∃ r h0, OK (.returned (some (.int r))) h0 ∧ h1 = gh_up h0 ou (.inl (cJ, 1, .inr (.inl (vp_updL fo 0 (Int32.toInt64 r)))))) := by
  rcases hp with ⟨r, h0, hp, hoc, hh⟩ | ⟨q, k, hp, hk, hq, hoc⟩
  · rcases rT_2 hp with ⟨-, q, z, -⟩ | ⟨-, -, q, z, -⟩ | ⟨z1, z2, z3⟩
    · cases z
    · cases z
    · exact Or.inr (Or.inr ⟨z1, z2, hoc, r, h0, z3, hh⟩)
  · have hk2 : k = (c1, 1) ∨ k = (c2, 2) := by simpa using hk
    rcases rT_2 hp with ⟨z1, q2, z, z3, z4⟩ | ⟨z0, z1, q2, z, z3, z4⟩ | ⟨-, -, z⟩
    · cases z
      rw [z4, gh_self] at hq
      have hc : c1 = k.1 := congrArg Prod.fst (Sum.inr.inj (Option.some.inj hq))
      rcases hk2 with rfl | rfl
      · exact Or.inl ⟨z1, hoc, q, z3, z4⟩
      · exact absurd hc hne
    · cases z
      rw [z4, gh_self] at hq
      have hc : c2 = k.1 := congrArg Prod.fst (Sum.inr.inj (Option.some.inj hq))
      rcases hk2 with rfl | rfl
      · exact absurd hc.symm hne
      · exact Or.inr (Or.inl ⟨z0, z1, hoc, q, z3, z4⟩)
    · exact absurd z (hok q h1)
section
variable {cI cJ cP cS : ClassId} {h h1 h2 : gh_M} {x sp al fi n : Nat} {ga : Nat → Option Nat} {gf : Nat → Int32} {pl fs : Nat → Nat} {pa pb pc pd : Nat → Int64} {sk po : Nat} {gs : Nat → Option Nat} {so wo : Nat → Nat} {wd : Nat → Nat → Int64} {ht : Nat} {px py pz pw : Int64}
  {mo nm fr hs va tp dn : Nat} {th : Int32} {g : Nat} {nf ff : Nat → Int32} {hf vf tf df : Nat → Int64} {ou : Nat} {fo : Nat → Int64} {oc oc2 : Outcome} {p0 p1 p2 p3 : Int32}
theorem r_2 {b1 b2 : Bool} {c1 c2 : Nat} {OK : Outcome → gh_M → Prop} (hok : ∀ v z, OK (.returned v) z → ∃ r, v = some (.int r) ∧ z ou = some (.inl (cJ, 1, .inr (.inl fo)))) : ∀ v z, rB b1 (rT c1 h) (rB b2 (rT c2 h) OK) (.returned v) z → ∃ r, v = some (.int r) ∧ z ou = some (.inl (cJ, 1, .inr (.inl fo))) := by
  intro v z hp
  rcases rT_2 hp with ⟨-, q, k, -⟩ | ⟨-, -, q, k, -⟩ | ⟨-, -, k⟩
  · cases k
  · cases k
  · exact hok v z k
theorem t_2 {b1 b2 : Bool} {c1 c2 : Nat} {OK : Outcome → gh_M → Prop} (hok : ∀ q z, ¬ OK (.threw q) z) : ∀ q z, rB b1 (rT c1 h) (rB b2 (rT c2 h) OK) (.threw q) z → z q = some (.inr (c1, [])) ∨ z q = some (.inr (c2, [])) := by
  intro q z hp
  rcases rT_2 hp with ⟨-, q2, k, -, k2⟩ | ⟨-, -, q2, k, -, k2⟩ | ⟨-, -, k⟩
  · cases k; exact Or.inl (by rw [k2, gh_self])
  · cases k; exact Or.inr (by rw [k2, gh_self])
  · exact absurd k (hok q z)
/-- a throw leaves both worlds as they were -/
theorem th_2 {k : Nat} {q : Nat} (hX : wX cI cJ cP cS h x sp al fi n ga gf pl fs pa pb pc pd sk po gs so wo wd ht px py pz pw) (hM : wM cI cJ h mo nm fr hs va tp dn th g ht nf ff hf vf tf df) (hou : h ou = some (.inl (cJ, 1, .inr (.inl fo)))) (hq : h q = none) :
    wX cI cJ cP cS (gh_up h q (.inr (k, []))) x sp al fi n ga gf pl fs pa pb pc pd sk po gs so wo wd ht px py pz pw ∧ wM cI cJ (gh_up h q (.inr (k, []))) mo nm fr hs va tp dn th g ht nf ff hf vf tf df ∧ (gh_up h q (.inr (k, []))) ou = some (.inl (cJ, 1, .inr (.inl fo))) :=
  ⟨wX_new hq hX, wM_keep (fun _ _ k _ => gh_keepN hq k) hM, gh_keepN hq hou⟩
end
