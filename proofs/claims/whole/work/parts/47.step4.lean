section
variable {cI cJ cP cS : ClassId} {h h1 h2 : gh_M} {x sp al fi n : Nat} {ga : Nat → Option Nat} {gf : Nat → Int32} {pl fs : Nat → Nat} {pa pb pc pd : Nat → Int64} {sk po : Nat} {gs : Nat → Option Nat} {so wo : Nat → Nat} {wd : Nat → Nat → Int64} {ht : Nat} {px py pz pw : Int64}
  {mo nm fr hs va tp dn : Nat} {th : Int32} {g : Nat} {nf ff : Nat → Int32} {hf vf tf df : Nat → Int64} {ou : Nat} {fo : Nat → Int64} {oc oc2 : Outcome} {p0 p1 p2 p3 k b : Int32}

theorem o_plane (hX : wX cI cJ cP cS h x sp al fi n ga gf pl fs pa pb pc pd sk po gs so wo wd ht px py pz pw) (hM : wM cI cJ h mo nm fr hs va tp dn th g ht nf ff hf vf tf df) (hou : h ou = some (.inl (cJ, 1, .inr (.inl fo)))) (hT : tI g n fs pa pb pc pd nf ff) (hwd : ∀ j, j < ht → ∀ q, q < 4 → wd j q = hf (4 * j + q)) : (∀ v z, (rB (m_badP p0 p1 p2 p3) (rT 6 h) (rB (decide (14 ≤ n)) (rT 7 h) (fun oc h2 => oc = .returned (some (.int (nI (n - 6)))) ∧ ∃ q, h q = none ∧ h2 = m_addH cI cP (gh_up h q (.inr (1, [.long (Int32.toInt64 p0), .long (Int32.toInt64 p1), .long (Int32.toInt64 p2), .long (Int32.toInt64 p3)]))) sp al fi n ga gf q (m_fst (fun i => m_one (pa i) (pb i) (pc i) (pd i) (Int32.toInt64 p0) (Int32.toInt64 p1) (Int32.toInt64 p2) (Int32.toInt64 p3)) n)))) (.returned v) z → ∃ r, v = some (.int r) ∧ z ou = some (.inl (cJ, 1, .inr (.inl fo)))) ∧ (∀ q z, (rB (m_badP p0 p1 p2 p3) (rT 6 h) (rB (decide (14 ≤ n)) (rT 7 h) (fun oc h2 => oc = .returned (some (.int (nI (n - 6)))) ∧ ∃ q, h q = none ∧ h2 = m_addH cI cP (gh_up h q (.inr (1, [.long (Int32.toInt64 p0), .long (Int32.toInt64 p1), .long (Int32.toInt64 p2), .long (Int32.toInt64 p3)]))) sp al fi n ga gf q (m_fst (fun i => m_one (pa i) (pb i) (pc i) (pd i) (Int32.toInt64 p0) (Int32.toInt64 p1) (Int32.toInt64 p2) (Int32.toInt64 p3)) n)))) (.threw q) z → z q = some (.inr (6, [])) ∨ z q = some (.inr (7, []))) := by
  have hn := hT.1
  have hht : ht ≤ 6 := hM.2.2.2.2.2.2.2.2.2.2.2
  refine ⟨fun v z hp => ?_, t_2 (fun q z k9 => by cases k9.1)⟩
  rcases rT_2 hp with ⟨-, q, k, -⟩ | ⟨-, -, q, k, -⟩ | ⟨z1, z2, hr, q, hq, hh⟩
  · cases k
  · cases k
  · have z3 := of_decide_eq_false z2
    cases hr
    subst hh
    have r14 := (fst_an (fun i => m_one (pa i) (pb i) (pc i) (pd i) (Int32.toInt64 p0) (Int32.toInt64 p1) (Int32.toInt64 p2) (Int32.toInt64 p3)) n).1
    obtain ⟨X0, F0'⟩ := wX_pl (qa := Int32.toInt64 p0) (qb := Int32.toInt64 p1) (qc := Int32.toInt64 p2) (qd := Int32.toInt64 p3) (r := m_fst (fun i => m_one (pa i) (pb i) (pc i) (pd i) (Int32.toInt64 p0) (Int32.toInt64 p1) (Int32.toInt64 p2) (Int32.toInt64 p3)) n) (by omega) (by omega) hq hX
    exact ⟨_, rfl, F0' ou _ hou rfl⟩

theorem o_convex (hX : wX cI cJ cP cS h x sp al fi n ga gf pl fs pa pb pc pd sk po gs so wo wd ht px py pz pw) (hM : wM cI cJ h mo nm fr hs va tp dn th g ht nf ff hf vf tf df) (hou : h ou = some (.inl (cJ, 1, .inr (.inl fo)))) (hT : tI g n fs pa pb pc pd nf ff) (hwd : ∀ j, j < ht → ∀ q, q < 4 → wd j q = hf (4 * j + q)) : (∀ v z, (rB (m_badV p0 (n - 6)) (rT 6 h) (rB (decide (6 ≤ ht)) (rT 7 h) (fun oc h2 => oc = .returned (some (.int (nI (ht + 1)))) ∧ ∃ f2 : Nat → Int64, (∀ j, j < 4 → f2 j = m_cvx p0 256 j) ∧ h2 = gh_up (gh_up h (wo ht) (.inl (cJ, 4, .inr (.inl f2)))) x (.inr (0, [.ref sp, .ref sk, .ref po, .int (nI (ht + 1))]))))) (.returned v) z → ∃ r, v = some (.int r) ∧ z ou = some (.inl (cJ, 1, .inr (.inl fo)))) ∧ (∀ q z, (rB (m_badV p0 (n - 6)) (rT 6 h) (rB (decide (6 ≤ ht)) (rT 7 h) (fun oc h2 => oc = .returned (some (.int (nI (ht + 1)))) ∧ ∃ f2 : Nat → Int64, (∀ j, j < 4 → f2 j = m_cvx p0 256 j) ∧ h2 = gh_up (gh_up h (wo ht) (.inl (cJ, 4, .inr (.inl f2)))) x (.inr (0, [.ref sp, .ref sk, .ref po, .int (nI (ht + 1))]))))) (.threw q) z → z q = some (.inr (6, [])) ∨ z q = some (.inr (7, []))) := by
  have hn := hT.1
  have hht : ht ≤ 6 := hM.2.2.2.2.2.2.2.2.2.2.2
  refine ⟨fun v z hp => ?_, t_2 (fun q z k9 => by cases k9.1)⟩
  rcases rT_2 hp with ⟨-, q, k, -⟩ | ⟨-, -, q, k, -⟩ | ⟨z1, z2, hr, f2, hf2, hh⟩
  · cases k
  · cases k
  · have z3 := of_decide_eq_false z2
    cases hr
    subst hh
    obtain ⟨Xa, Fa⟩ := wX_wd (r := ht) (f2 := f2) (by omega) hX
    obtain ⟨X0, Fb⟩ := wX_ht (t := ht + 1) (by omega) Xa
    have F0' := frX_tr Fa Fb
    exact ⟨_, rfl, F0' ou _ hou rfl⟩

theorem o_join (hX : wX cI cJ cP cS h x sp al fi n ga gf pl fs pa pb pc pd sk po gs so wo wd ht px py pz pw) (hM : wM cI cJ h mo nm fr hs va tp dn th g ht nf ff hf vf tf df) (hou : h ou = some (.inl (cJ, 1, .inr (.inl fo)))) (hT : tI g n fs pa pb pc pd nf ff) (hwd : ∀ j, j < ht → ∀ q, q < 4 → wd j q = hf (4 * j + q)) : (∀ v z, (rB (m_badJ p0) (rT 6 h) (rB (decide (ht < 2)) (rT 7 h) (fun oc h2 => oc = .returned (some (.int (nI (ht - 1)))) ∧ ∃ (v : Nat) (f2 : Nat → Int64), p0 = nI v ∧ v < 4 ∧ (∀ j, j < 4 → f2 j = m_jn v (wd (ht - 2) j) (wd (ht - 1) j)) ∧ h2 = gh_up (gh_up h (wo (ht - 2)) (.inl (cJ, 4, .inr (.inl f2)))) x (.inr (0, [.ref sp, .ref sk, .ref po, .int (nI (ht - 1))]))))) (.returned v) z → ∃ r, v = some (.int r) ∧ z ou = some (.inl (cJ, 1, .inr (.inl fo)))) ∧ (∀ q z, (rB (m_badJ p0) (rT 6 h) (rB (decide (ht < 2)) (rT 7 h) (fun oc h2 => oc = .returned (some (.int (nI (ht - 1)))) ∧ ∃ (v : Nat) (f2 : Nat → Int64), p0 = nI v ∧ v < 4 ∧ (∀ j, j < 4 → f2 j = m_jn v (wd (ht - 2) j) (wd (ht - 1) j)) ∧ h2 = gh_up (gh_up h (wo (ht - 2)) (.inl (cJ, 4, .inr (.inl f2)))) x (.inr (0, [.ref sp, .ref sk, .ref po, .int (nI (ht - 1))]))))) (.threw q) z → z q = some (.inr (6, [])) ∨ z q = some (.inr (7, []))) := by
  have hn := hT.1
  have hht : ht ≤ 6 := hM.2.2.2.2.2.2.2.2.2.2.2
  refine ⟨fun v z hp => ?_, t_2 (fun q z k9 => by cases k9.1)⟩
  rcases rT_2 hp with ⟨-, q, k, -⟩ | ⟨-, -, q, k, -⟩ | ⟨z1, z2, hr, v, f2, hv, hv4, hf2, hh⟩
  · cases k
  · cases k
  · have z3 := of_decide_eq_false z2
    cases hr
    subst hh
    obtain ⟨Xa, Fa⟩ := wX_wd (r := ht - 2) (f2 := f2) (by omega) hX
    obtain ⟨X0, Fb⟩ := wX_ht (t := ht - 1) (by omega) Xa
    have F0' := frX_tr Fa Fb
    exact ⟨_, rfl, F0' ou _ hou rfl⟩

theorem o_copy (hX : wX cI cJ cP cS h x sp al fi n ga gf pl fs pa pb pc pd sk po gs so wo wd ht px py pz pw) (hM : wM cI cJ h mo nm fr hs va tp dn th g ht nf ff hf vf tf df) (hou : h ou = some (.inl (cJ, 1, .inr (.inl fo)))) (hT : tI g n fs pa pb pc pd nf ff) (hwd : ∀ j, j < ht → ∀ q, q < 4 → wd j q = hf (4 * j + q)) : (∀ v z, (rB (m_badC p0 ht) (rT 8 h) (rB (decide (6 ≤ ht)) (rT 7 h) (fun oc h2 => oc = .returned (some (.int (nI (ht + 1)))) ∧ ∃ (v : Nat) (f2 : Nat → Int64), p0 = nI v ∧ v < ht ∧ (∀ j, j < 4 → f2 j = wd (ht - 1 - v) j) ∧ h2 = gh_up (gh_up h (wo ht) (.inl (cJ, 4, .inr (.inl f2)))) x (.inr (0, [.ref sp, .ref sk, .ref po, .int (nI (ht + 1))]))))) (.returned v) z → ∃ r, v = some (.int r) ∧ z ou = some (.inl (cJ, 1, .inr (.inl fo)))) ∧ (∀ q z, (rB (m_badC p0 ht) (rT 8 h) (rB (decide (6 ≤ ht)) (rT 7 h) (fun oc h2 => oc = .returned (some (.int (nI (ht + 1)))) ∧ ∃ (v : Nat) (f2 : Nat → Int64), p0 = nI v ∧ v < ht ∧ (∀ j, j < 4 → f2 j = wd (ht - 1 - v) j) ∧ h2 = gh_up (gh_up h (wo ht) (.inl (cJ, 4, .inr (.inl f2)))) x (.inr (0, [.ref sp, .ref sk, .ref po, .int (nI (ht + 1))]))))) (.threw q) z → z q = some (.inr (8, [])) ∨ z q = some (.inr (7, []))) := by
  have hn := hT.1
  have hht : ht ≤ 6 := hM.2.2.2.2.2.2.2.2.2.2.2
  refine ⟨fun v z hp => ?_, t_2 (fun q z k9 => by cases k9.1)⟩
  rcases rT_2 hp with ⟨-, q, k, -⟩ | ⟨-, -, q, k, -⟩ | ⟨z1, z2, hr, v, f2, hv, hv4, hf2, hh⟩
  · cases k
  · cases k
  · have z3 := of_decide_eq_false z2
    cases hr
    subst hh
    obtain ⟨Xa, Fa⟩ := wX_wd (r := ht) (f2 := f2) (by omega) hX
    obtain ⟨X0, Fb⟩ := wX_ht (t := ht + 1) (by omega) Xa
    have F0' := frX_tr Fa Fb
    exact ⟨_, rfl, F0' ou _ hou rfl⟩

theorem o_inside (hX : wX cI cJ cP cS h x sp al fi n ga gf pl fs pa pb pc pd sk po gs so wo wd ht px py pz pw) (hM : wM cI cJ h mo nm fr hs va tp dn th g ht nf ff hf vf tf df) (hou : h ou = some (.inl (cJ, 1, .inr (.inl fo)))) (hT : tI g n fs pa pb pc pd nf ff) (hwd : ∀ j, j < ht → ∀ q, q < 4 → wd j q = hf (4 * j + q)) : (∀ v z, (rB (m_badQ p0 p1 p2 p3) (rT 6 h) (rB (decide (ht = 0)) (rT 7 h) (fun oc h2 => oc = .returned (some (.int (if m_any (fun i => decide (m_exc (pa i) (pb i) (pc i) (pd i) (Int32.toInt64 p0) (Int32.toInt64 p1) (Int32.toInt64 p2) (Int32.toInt64 p3) = 0)) n = true then 2 else m_b (m_top (wd (ht - 1)) (pb_num (fun i => decide (m_exc (pa i) (pb i) (pc i) (pd i) (Int32.toInt64 p0) (Int32.toInt64 p1) (Int32.toInt64 p2) (Int32.toInt64 p3) < 0)) n))))) ∧ h2 = gh_up h po (.inr (3, [.long (Int32.toInt64 p0), .long (Int32.toInt64 p1), .long (Int32.toInt64 p2), .long (Int32.toInt64 p3)]))))) (.returned v) z → ∃ r, v = some (.int r) ∧ z ou = some (.inl (cJ, 1, .inr (.inl fo)))) ∧ (∀ q z, (rB (m_badQ p0 p1 p2 p3) (rT 6 h) (rB (decide (ht = 0)) (rT 7 h) (fun oc h2 => oc = .returned (some (.int (if m_any (fun i => decide (m_exc (pa i) (pb i) (pc i) (pd i) (Int32.toInt64 p0) (Int32.toInt64 p1) (Int32.toInt64 p2) (Int32.toInt64 p3) = 0)) n = true then 2 else m_b (m_top (wd (ht - 1)) (pb_num (fun i => decide (m_exc (pa i) (pb i) (pc i) (pd i) (Int32.toInt64 p0) (Int32.toInt64 p1) (Int32.toInt64 p2) (Int32.toInt64 p3) < 0)) n))))) ∧ h2 = gh_up h po (.inr (3, [.long (Int32.toInt64 p0), .long (Int32.toInt64 p1), .long (Int32.toInt64 p2), .long (Int32.toInt64 p3)]))))) (.threw q) z → z q = some (.inr (6, [])) ∨ z q = some (.inr (7, []))) := by
  have hn := hT.1
  have hht : ht ≤ 6 := hM.2.2.2.2.2.2.2.2.2.2.2
  refine ⟨fun v z hp => ?_, t_2 (fun q z k9 => by cases k9.1)⟩
  rcases rT_2 hp with ⟨-, q, k, -⟩ | ⟨-, -, q, k, -⟩ | ⟨z1, z2, hr, hh⟩
  · cases k
  · cases k
  · have z3 := of_decide_eq_false z2
    cases hr
    subst hh
    obtain ⟨X0, F0'⟩ := wX_po (ax := Int32.toInt64 p0) (ay := Int32.toInt64 p1) (az := Int32.toInt64 p2) (aw := Int32.toInt64 p3) hX
    exact ⟨_, rfl, F0' ou _ hou rfl⟩

theorem o_drop (hX : wX cI cJ cP cS h x sp al fi n ga gf pl fs pa pb pc pd sk po gs so wo wd ht px py pz pw) (hM : wM cI cJ h mo nm fr hs va tp dn th g ht nf ff hf vf tf df) (hou : h ou = some (.inl (cJ, 1, .inr (.inl fo)))) (hT : tI g n fs pa pb pc pd nf ff) (hwd : ∀ j, j < ht → ∀ q, q < 4 → wd j q = hf (4 * j + q)) : (∀ v z, (rB (decide (ht = 0)) (rT 7 h) (fun oc h2 => oc = .returned (some (.int (nI (ht - 1)))) ∧ h2 = gh_up h x (.inr (0, [.ref sp, .ref sk, .ref po, .int (nI (ht - 1))])))) (.returned v) z → ∃ r, v = some (.int r) ∧ z ou = some (.inl (cJ, 1, .inr (.inl fo)))) ∧ (∀ q z, (rB (decide (ht = 0)) (rT 7 h) (fun oc h2 => oc = .returned (some (.int (nI (ht - 1)))) ∧ h2 = gh_up h x (.inr (0, [.ref sp, .ref sk, .ref po, .int (nI (ht - 1))])))) (.threw q) z → z q = some (.inr (7, []))) := by
  have hht : ht ≤ 6 := hM.2.2.2.2.2.2.2.2.2.2.2
  refine ⟨fun v z hp => ?_, fun q z hp => ?_⟩
  · rcases rB_c hp with ⟨-, q, k, -⟩ | ⟨z1, hr, hh⟩
    · cases k
    · cases hr
      subst hh
      exact ⟨_, rfl, (wX_ht (t := ht - 1) (by omega) hX).2 ou _ hou rfl⟩
  · rcases rB_c hp with ⟨-, q2, k, -, k2⟩ | ⟨z1, hr, hh⟩
    · cases k; rw [k2, gh_self]
    · cases hr
theorem o_turn (hX : wX cI cJ cP cS h x sp al fi n ga gf pl fs pa pb pc pd sk po gs so wo wd ht px py pz pw) (hM : wM cI cJ h mo nm fr hs va tp dn th g ht nf ff hf vf tf df) (hou : h ou = some (.inl (cJ, 1, .inr (.inl fo)))) (hT : tI g n fs pa pb pc pd nf ff) (hwd : ∀ j, j < ht → ∀ q, q < 4 → wd j q = hf (4 * j + q)) : (∀ v z, (rB (decide (ht = 0)) (rT 7 h) (fun oc h2 => oc = .returned none ∧ ∃ f2 : Nat → Int64, (∀ j, j < 4 → f2 j = wd (ht - 1) j ^^^ (-1)) ∧ h2 = gh_up h (wo (ht - 1)) (.inl (cJ, 4, .inr (.inl f2))))) (.returned v) z → v = none) ∧ (∀ q z, (rB (decide (ht = 0)) (rT 7 h) (fun oc h2 => oc = .returned none ∧ ∃ f2 : Nat → Int64, (∀ j, j < 4 → f2 j = wd (ht - 1) j ^^^ (-1)) ∧ h2 = gh_up h (wo (ht - 1)) (.inl (cJ, 4, .inr (.inl f2))))) (.threw q) z → z q = some (.inr (7, []))) := by
  refine ⟨fun v z hp => ?_, fun q z hp => ?_⟩
  · rcases rB_c hp with ⟨-, q, k, -⟩ | ⟨z1, hr, -⟩
    · cases k
    · cases hr; rfl
  · rcases rB_c hp with ⟨-, q2, k, -, k2⟩ | ⟨z1, hr, hh⟩
    · cases k; rw [k2, gh_self]
    · cases hr
theorem o_side (hX : wX cI cJ cP cS h x sp al fi n ga gf pl fs pa pb pc pd sk po gs so wo wd ht px py pz pw) (hM : wM cI cJ h mo nm fr hs va tp dn th g ht nf ff hf vf tf df) (hou : h ou = some (.inl (cJ, 1, .inr (.inl fo)))) (hT : tI g n fs pa pb pc pd nf ff) (hwd : ∀ j, j < ht → ∀ q, q < 4 → wd j q = hf (4 * j + q)) : (∀ v z, (rB (m_badQ p0 p1 p2 p3) (rT 6 h) (rB (decide (ht = 0)) (rT 7 h) (rB (decide (m_only (fun i => decide (m_exc (pa i) (pb i) (pc i) (pd i) (Int32.toInt64 p0) (Int32.toInt64 p1) (Int32.toInt64 p2) (Int32.toInt64 p3) = 0)) fs n = -1)) (rT 9 (gh_up h po (.inr (3, [.long (Int32.toInt64 p0), .long (Int32.toInt64 p1), .long (Int32.toInt64 p2), .long (Int32.toInt64 p3)])))) (fun oc h2 => oc = .returned (some (.int (m_lkat (wd (ht - 1)) n fs pa pb pc pd ((m_only (fun i => decide (m_exc (pa i) (pb i) (pc i) (pd i) (Int32.toInt64 p0) (Int32.toInt64 p1) (Int32.toInt64 p2) (Int32.toInt64 p3) = 0)) fs n).toNatClampNeg) (Int32.toInt64 p0) (Int32.toInt64 p1) (Int32.toInt64 p2) (Int32.toInt64 p3)))) ∧ h2 = gh_up h po (.inr (3, [.long (Int32.toInt64 p0), .long (Int32.toInt64 p1), .long (Int32.toInt64 p2), .long (Int32.toInt64 p3)])))))) (.returned v) z → ∃ r, v = some (.int r) ∧ z ou = some (.inl (cJ, 1, .inr (.inl fo)))) ∧ (∀ q z, (rB (m_badQ p0 p1 p2 p3) (rT 6 h) (rB (decide (ht = 0)) (rT 7 h) (rB (decide (m_only (fun i => decide (m_exc (pa i) (pb i) (pc i) (pd i) (Int32.toInt64 p0) (Int32.toInt64 p1) (Int32.toInt64 p2) (Int32.toInt64 p3) = 0)) fs n = -1)) (rT 9 (gh_up h po (.inr (3, [.long (Int32.toInt64 p0), .long (Int32.toInt64 p1), .long (Int32.toInt64 p2), .long (Int32.toInt64 p3)])))) (fun oc h2 => oc = .returned (some (.int (m_lkat (wd (ht - 1)) n fs pa pb pc pd ((m_only (fun i => decide (m_exc (pa i) (pb i) (pc i) (pd i) (Int32.toInt64 p0) (Int32.toInt64 p1) (Int32.toInt64 p2) (Int32.toInt64 p3) = 0)) fs n).toNatClampNeg) (Int32.toInt64 p0) (Int32.toInt64 p1) (Int32.toInt64 p2) (Int32.toInt64 p3)))) ∧ h2 = gh_up h po (.inr (3, [.long (Int32.toInt64 p0), .long (Int32.toInt64 p1), .long (Int32.toInt64 p2), .long (Int32.toInt64 p3)])))))) (.threw q) z → z q = some (.inr (6, [])) ∨ z q = some (.inr (7, [])) ∨ z q = some (.inr (9, []))) := by
  obtain ⟨X0, F0'⟩ := wX_po (ax := Int32.toInt64 p0) (ay := Int32.toInt64 p1) (az := Int32.toInt64 p2) (aw := Int32.toInt64 p3) hX
  refine ⟨fun v z hp => ?_, fun q z hp => ?_⟩
  · rcases rT_2 hp with ⟨-, q, k, -⟩ | ⟨-, -, q, k, -⟩ | ⟨z1, z2, hp⟩
    · cases k
    · cases k
    · rcases rB_c hp with ⟨-, q, k, -⟩ | ⟨-, hr, hh⟩
      · cases k
      · cases hr
        subst hh
        exact ⟨_, rfl, F0' ou _ hou rfl⟩
  · rcases rT_2 hp with ⟨-, q2, k, -, k2⟩ | ⟨-, -, q2, k, -, k2⟩ | ⟨z1, z2, hp⟩
    · cases k; exact Or.inl (by rw [k2, gh_self])
    · cases k; exact Or.inr (Or.inl (by rw [k2, gh_self]))
    · rcases rB_c hp with ⟨-, q2, k, -, k2⟩ | ⟨-, hr, -⟩
      · cases k; exact Or.inr (Or.inr (by rw [k2, gh_self]))
      · cases hr

theorem o_enters (hX : wX cI cJ cP cS h x sp al fi n ga gf pl fs pa pb pc pd sk po gs so wo wd ht px py pz pw) (hM : wM cI cJ h mo nm fr hs va tp dn th g ht nf ff hf vf tf df) (hou : h ou = some (.inl (cJ, 1, .inr (.inl fo)))) (hT : tI g n fs pa pb pc pd nf ff) (hwd : ∀ j, j < ht → ∀ q, q < 4 → wd j q = hf (4 * j + q)) : (∀ v z, (rB (m_badE p0 p1 p2) (rT 6 h) (rB (decide (ht = 0)) (rT 7 h) (fun oc h2 => (m_any (fun i => decide (fs i = i) && e_thr n fs pa pb pc pd p0 p1 p2 i) n = true ∧ ∃ p9 : Int64 × Int64 × Int64 × Int64, rT 9 (gh_up h po (.inr (3, [.long p9.1, .long p9.2.1, .long p9.2.2.1, .long p9.2.2.2]))) oc h2) ∨ (m_any (fun i => decide (fs i = i) && e_thr n fs pa pb pc pd p0 p1 p2 i) n = false ∧ oc = .returned (some (.int (nI (mc_cnt (fun i => decide (fs i = i) && e_ent (wd (ht - 1)) n fs pa pb pc pd p0 p1 p2 i) n)))) ∧ ∃ p9 : Int64 × Int64 × Int64 × Int64, h2 = gh_up h po (.inr (3, [.long p9.1, .long p9.2.1, .long p9.2.2.1, .long p9.2.2.2])))))) (.returned v) z → ∃ r, v = some (.int r) ∧ z ou = some (.inl (cJ, 1, .inr (.inl fo)))) ∧ (∀ q z, (rB (m_badE p0 p1 p2) (rT 6 h) (rB (decide (ht = 0)) (rT 7 h) (fun oc h2 => (m_any (fun i => decide (fs i = i) && e_thr n fs pa pb pc pd p0 p1 p2 i) n = true ∧ ∃ p9 : Int64 × Int64 × Int64 × Int64, rT 9 (gh_up h po (.inr (3, [.long p9.1, .long p9.2.1, .long p9.2.2.1, .long p9.2.2.2]))) oc h2) ∨ (m_any (fun i => decide (fs i = i) && e_thr n fs pa pb pc pd p0 p1 p2 i) n = false ∧ oc = .returned (some (.int (nI (mc_cnt (fun i => decide (fs i = i) && e_ent (wd (ht - 1)) n fs pa pb pc pd p0 p1 p2 i) n)))) ∧ ∃ p9 : Int64 × Int64 × Int64 × Int64, h2 = gh_up h po (.inr (3, [.long p9.1, .long p9.2.1, .long p9.2.2.1, .long p9.2.2.2])))))) (.threw q) z → z q = some (.inr (6, [])) ∨ z q = some (.inr (7, [])) ∨ z q = some (.inr (9, []))) := by
  refine ⟨fun v z hp => ?_, fun q z hp => ?_⟩
  · rcases rT_2 hp with ⟨-, q, k, -⟩ | ⟨-, -, q, k, -⟩ | ⟨z1, z2, hp⟩
    · cases k
    · cases k
    · rcases hp with ⟨-, p9, q, k, -⟩ | ⟨-, hr, p9, hh⟩
      · cases k
      · cases hr
        subst hh
        exact ⟨_, rfl, (wX_po (ax := p9.1) (ay := p9.2.1) (az := p9.2.2.1) (aw := p9.2.2.2) hX).2 ou _ hou rfl⟩
  · rcases rT_2 hp with ⟨-, q2, k, -, k2⟩ | ⟨-, -, q2, k, -, k2⟩ | ⟨z1, z2, hp⟩
    · cases k; exact Or.inl (by rw [k2, gh_self])
    · cases k; exact Or.inr (Or.inl (by rw [k2, gh_self]))
    · rcases hp with ⟨-, p9, q2, k, -, k2⟩ | ⟨-, hr, -⟩
      · cases k; exact Or.inr (Or.inr (by rw [k2, gh_self]))
      · cases hr
theorem x_and15 (v : Int32) : ∃ j, j < 16 ∧ v &&& 15 = nI j := by
  refine ⟨(v.toBitVec &&& 15#32).toNat, ?_, ?_⟩
  · rw [BitVec.toNat_and]
    exact Nat.lt_of_le_of_lt Nat.and_le_right (by decide)
  · apply Int32.toBitVec_inj.1
    show v.toBitVec &&& 15#32 = BitVec.ofNat 32 (v.toBitVec &&& 15#32).toNat
    rw [BitVec.ofNat_toNat, BitVec.setWidth_eq]
end
