def lwI (cI cJ cP cS : ClassId) (h : gh_M) (x mo ou : Nat) (k : Int32) : Prop :=
  ∃ (sp al fi n : Nat) (ga : Nat → Option Nat) (gf : Nat → Int32) (pl fs : Nat → Nat) (pa pb pc pd : Nat → Int64) (sk po : Nat) (gs : Nat → Option Nat) (so wo : Nat → Nat) (wd : Nat → Nat → Int64) (ht : Nat) (px py pz pw : Int64) (nm fr hs va tp dn g : Nat) (nf ff : Nat → Int32) (hf vf tf df : Nat → Int64) (fo : Nat → Int64),
    wX cI cJ cP cS h x sp al fi n ga gf pl fs pa pb pc pd sk po gs so wo wd ht px py pz pw ∧ wM cI cJ h mo nm fr hs va tp dn k g ht nf ff hf vf tf df ∧ h ou = some (.inl (cJ, 1, .inr (.inl fo))) ∧ tI g n fs pa pb pc pd nf ff ∧ (∀ j, j < ht → ∀ q, q < 4 → wd j q = hf (4 * j + q))
theorem lwR_I {cI cJ cP cS : ClassId} {h : gh_M} {x mo ou : Nat} {k b : Int32} (hr : lwR cI cJ cP cS h x mo ou k b) : lwI cI cJ cP cS h x mo ou k := by
  obtain ⟨y0, y1, y2, y3, y4, y5, y6, y7, y8, y9, y10, y11, y12, y13, y14, y15, y16, y17, y18, y19, y20, y21, y22, y23, y24, y25, y26, y27, y28, y29, y30, y31, y32, y33, y34, y35, y36, a1, a2, a3, a4, a5, -⟩ := hr
  exact ⟨y0, y1, y2, y3, y4, y5, y6, y7, y8, y9, y10, y11, y12, y13, y14, y15, y16, y17, y18, y19, y20, y21, y22, y23, y24, y25, y26, y27, y28, y29, y30, y31, y32, y33, y34, y35, y36, a1, a2, a3, a4, a5⟩

theorem lw_1 {b1 : Bool} {c1 : Nat} {h h1 : gh_M} {OK : Outcome → gh_M → Prop} {oc : Outcome} {ou : Nat} {cJ : ClassId} {fo : Nat → Int64} (hok : ∀ q z, ¬ OK (.threw q) z) (hp : lwP (rB b1 (rT c1 h) OK) ou cJ fo [(c1, 1)] oc h1) :
    (b1 = true ∧ oc = .returned (some (.int 1)) ∧ ∃ q, h q = none ∧ h1 = gh_up h q (.inr (c1, []))) ∨ (b1 = false ∧ oc = .returned (some (.int 0)) ∧ ∃ r h0, OK (.returned (some (.int r))) h0 ∧ h1 = gh_up h0 ou (.inl (cJ, 1, .inr (.inl (vp_updL fo 0 (Int32.toInt64 r)))))) := by
  rcases hp with ⟨r, h0, hp, hoc, hh⟩ | ⟨q, k, hp, hk, hq, hoc⟩
  · rcases rB_c hp with ⟨-, q, z, -⟩ | ⟨z1, z3⟩
    · cases z
    · exact Or.inr ⟨z1, hoc, r, h0, z3, hh⟩
  · have hk2 : k = (c1, 1) := by simpa using hk
    subst hk2
    rcases rB_c hp with ⟨z1, q2, z, z3, z4⟩ | ⟨-, z⟩
    · cases z
      exact Or.inl ⟨z1, hoc, q, z3, z4⟩
    · exact absurd z (hok q h1)
theorem lwT_1 {b1 : Bool} {c1 : Nat} {h h1 : gh_M} {OK : Outcome → gh_M → Prop} {oc : Outcome} (hok : ∀ q z, ¬ OK (.threw q) z) (hp : lwT (rB b1 (rT c1 h) OK) [(c1, 1)] oc h1) :
    (b1 = true ∧ oc = .returned (some (.int 1)) ∧ ∃ q, h q = none ∧ h1 = gh_up h q (.inr (c1, []))) ∨ (b1 = false ∧ oc = .returned (some (.int 0)) ∧ OK (.returned none) h1) := by
  rcases hp with ⟨hp, hoc⟩ | ⟨q, k, hp, hk, hq, hoc⟩
  · rcases rB_c hp with ⟨-, q, z, -⟩ | ⟨z1, z3⟩
    · cases z
    · exact Or.inr ⟨z1, hoc, z3⟩
  · have hk2 : k = (c1, 1) := by simpa using hk
    subst hk2
    rcases rB_c hp with ⟨z1, q2, z, z3, z4⟩ | ⟨-, z⟩
    · cases z
      exact Or.inl ⟨z1, hoc, q, z3, z4⟩
    · exact absurd z (hok q h1)
theorem lw_3 {b1 b2 : Bool} {h h1 : gh_M} {Q : Outcome → gh_M → Prop} {oc : Outcome} {ou : Nat} {cJ : ClassId} {fo : Nat → Int64} (hQ : ∀ q z, Q (.threw q) z → z q = some (.inr (9, []))) (hp : lwP (rB b1 (rT 6 h) (rB b2 (rT 7 h) Q)) ou cJ fo [(6, 1), (7, 2), (9, 3)] oc h1) :
    (b1 = true ∧ oc = .returned (some (.int 1)) ∧ ∃ q, h q = none ∧ h1 = gh_up h q (.inr (6, []))) ∨ (b1 = false ∧ b2 = true ∧ oc = .returned (some (.int 2)) ∧ ∃ q, h q = none ∧ h1 = gh_up h q (.inr (7, []))) ∨
    (b1 = false ∧ b2 = false ∧ ((oc = .returned (some (.int 0)) ∧ ∃ r h0, Q (.returned (some (.int r))) h0 ∧ h1 = gh_up h0 ou (.inl (cJ, 1, .inr (.inl (vp_updL fo 0 (Int32.toInt64 r)))))) ∨ (oc = .returned (some (.int 3)) ∧ ∃ q, Q (.threw q) h1))) := by
  rcases hp with ⟨r, h0, hp, hoc, hh⟩ | ⟨q, k, hp, hk, hq, hoc⟩
  · rcases rT_2 hp with ⟨-, q, z, -⟩ | ⟨-, -, q, z, -⟩ | ⟨z1, z2, z3⟩
    · cases z
    · cases z
    · exact Or.inr (Or.inr ⟨z1, z2, Or.inl ⟨hoc, r, h0, z3, hh⟩⟩)
  · have hk2 : k = (6, 1) ∨ k = (7, 2) ∨ k = (9, 3) := by simpa using hk
    rcases rT_2 hp with ⟨z1, q2, z, z3, z4⟩ | ⟨z0, z1, q2, z, z3, z4⟩ | ⟨z1, z2, z⟩
    · cases z
      rw [z4, gh_self] at hq
      have hc : 6 = k.1 := congrArg Prod.fst (Sum.inr.inj (Option.some.inj hq))
      rcases hk2 with rfl | rfl | rfl
      · exact Or.inl ⟨z1, hoc, q, z3, z4⟩
      · exact absurd hc (by decide)
      · exact absurd hc (by decide)
    · cases z
      rw [z4, gh_self] at hq
      have hc : 7 = k.1 := congrArg Prod.fst (Sum.inr.inj (Option.some.inj hq))
      rcases hk2 with rfl | rfl | rfl
      · exact absurd hc (by decide)
      · exact Or.inr (Or.inl ⟨z0, z1, hoc, q, z3, z4⟩)
      · exact absurd hc (by decide)
    · have h9 := hQ q h1 z
      rw [h9] at hq
      have hc : 9 = k.1 := congrArg Prod.fst (Sum.inr.inj (Option.some.inj hq))
      rcases hk2 with rfl | rfl | rfl
      · exact absurd hc (by decide)
      · exact absurd hc (by decide)
      · exact Or.inr (Or.inr ⟨z1, z2, Or.inr ⟨hoc, q, z⟩⟩)

section
variable {cI cJ cP cS : ClassId} {h h1 h2 : gh_M} {x sp al fi n : Nat} {ga : Nat → Option Nat} {gf : Nat → Int32} {pl fs : Nat → Nat} {pa pb pc pd : Nat → Int64} {sk po : Nat} {gs : Nat → Option Nat} {so wo : Nat → Nat} {wd : Nat → Nat → Int64} {ht : Nat} {px py pz pw : Int64}
  {mo nm fr hs va tp dn : Nat} {th : Int32} {g : Nat} {nf ff : Nat → Int32} {hf vf tf df : Nat → Int64} {ou : Nat} {fo : Nat → Int64} {oc oc2 : Outcome} {p0 p1 p2 p3 k b : Int32}

theorem s_drop (hX : wX cI cJ cP cS h x sp al fi n ga gf pl fs pa pb pc pd sk po gs so wo wd ht px py pz pw) (hM : wM cI cJ h mo nm fr hs va tp dn th g ht nf ff hf vf tf df) (hou : h ou = some (.inl (cJ, 1, .inr (.inl fo)))) (hT : tI g n fs pa pb pc pd nf ff) (hwd : ∀ j, j < ht → ∀ q, q < 4 → wd j q = hf (4 * j + q)) (hp : lwP (rB (decide (ht = 0)) (rT 7 h) (fun oc h2 => oc = .returned (some (.int (nI (ht - 1)))) ∧ h2 = gh_up h x (.inr (0, [.ref sp, .ref sk, .ref po, .int (nI (ht - 1))])))) ou cJ fo [(7, 1)] oc h1) : ∃ k, oc = .returned (some (.int k)) ∧ wM cI cJ h1 mo nm fr hs va tp dn th g ht nf ff hf vf tf df ∧ ∀ oc2 h2, ((rB (decide (ht = 0)) (rW (some (.int 0)) (fun h2 => wM cI cJ h2 mo nm fr hs va tp dn 1 g ht nf ff hf vf tf df ∧ frM h1 h2)) (rW (some (.int (nI (ht - 1)))) (fun h2 => wM cI cJ h2 mo nm fr hs va tp dn 0 g (ht - 1) nf ff hf vf tf df ∧ frM h1 h2))) : Outcome → gh_M → Prop) oc2 h2 → ∃ b, oc2 = .returned (some (.int b)) ∧ lwR cI cJ cP cS h2 x mo ou k b := by
  have hn := hT.1
  have hg := hT.2.1
  have hht : ht ≤ 6 := hM.2.2.2.2.2.2.2.2.2.2.2
  rcases lw_1 (fun q z k9 => by cases k9.1) hp with ⟨z1, rfl, q, hq, rfl⟩ | ⟨z1, rfl, r, h0, ⟨hr, hh⟩, rfl⟩
  · obtain ⟨X1, M1, O1⟩ := th_2 (k := 7) hX hM hou hq
    refine ⟨1, rfl, M1, fun oc2 h2 hm => ?_⟩
    rcases rB_c hm with ⟨-, e, w, f⟩ | ⟨y1, -⟩
    · exact ⟨0, e, th_fin X1 O1 hT hwd w f (by decide)⟩
    · rw [z1] at y1
      cases y1
  · cases hr
    subst hh
    obtain ⟨X0, F0'⟩ := wX_ht (t := ht - 1) (by omega) hX
    have O0 := F0' ou _ hou rfl
    have M1 := wM_ou (e := .inl (cJ, 1, .inr (.inl (vp_updL fo 0 (Int32.toInt64 (nI (ht - 1))))))) O0 (wM_frX F0' hM)
    have X1 := wX_ou (e := .inl (cJ, 1, .inr (.inl (vp_updL fo 0 (Int32.toInt64 (nI (ht - 1))))))) O0 X0
    refine ⟨0, rfl, M1, fun oc2 h2 hm => ?_⟩
    rcases rB_c hm with ⟨y1, -⟩ | ⟨y1, e, w, f⟩
    · rw [z1] at y1
      cases y1
    · exact ⟨nI (ht - 1), e, lwR_mk (wX_frM f X1) w (f ou _ (gh_self _ _ _) rfl) hT (fun j hj q hq => hwd j (by omega) q hq) (fun _ => by rw [pk_uLs])⟩

theorem s_turn (hX : wX cI cJ cP cS h x sp al fi n ga gf pl fs pa pb pc pd sk po gs so wo wd ht px py pz pw) (hM : wM cI cJ h mo nm fr hs va tp dn th g ht nf ff hf vf tf df) (hou : h ou = some (.inl (cJ, 1, .inr (.inl fo)))) (hT : tI g n fs pa pb pc pd nf ff) (hwd : ∀ j, j < ht → ∀ q, q < 4 → wd j q = hf (4 * j + q)) (hp : lwT (rB (decide (ht = 0)) (rT 7 h) (fun oc h2 => oc = .returned none ∧ ∃ f2 : Nat → Int64, (∀ j, j < 4 → f2 j = wd (ht - 1) j ^^^ (-1)) ∧ h2 = gh_up h (wo (ht - 1)) (.inl (cJ, 4, .inr (.inl f2))))) [(7, 1)] oc h1) : ∃ k, oc = .returned (some (.int k)) ∧ wM cI cJ h1 mo nm fr hs va tp dn th g ht nf ff hf vf tf df ∧ ∀ oc2 h2, ((rB (decide (ht = 0)) (rW none (fun h2 => wM cI cJ h2 mo nm fr hs va tp dn 1 g ht nf ff hf vf tf df ∧ frM h1 h2)) (rW none (fun h2 => ∃ f2 : Nat → Int64, (∀ j, j < 4 → f2 (4 * ht - 4 + j) = hf (4 * ht - 4 + j) ^^^ (-1)) ∧ (∀ j, j < 4 * ht - 4 → f2 j = hf j) ∧ wM cI cJ h2 mo nm fr hs va tp dn 0 g ht nf ff f2 vf tf df ∧ frM h1 h2))) : Outcome → gh_M → Prop) oc2 h2 → oc2 = .returned none ∧ lwI cI cJ cP cS h2 x mo ou k := by
  have hn := hT.1
  have hg := hT.2.1
  have hht : ht ≤ 6 := hM.2.2.2.2.2.2.2.2.2.2.2
  rcases lwT_1 (fun q z k9 => by cases k9.1) hp with ⟨z1, rfl, q, hq, rfl⟩ | ⟨z1, rfl, hr, f2, hf2, hh⟩
  · obtain ⟨X1, M1, O1⟩ := th_2 (k := 7) hX hM hou hq
    refine ⟨1, rfl, M1, fun oc2 h2 hm => ?_⟩
    rcases rB_c hm with ⟨-, e, w, f⟩ | ⟨y1, -⟩
    · exact ⟨e, lwR_I (b := 0) (th_fin X1 O1 hT hwd w f (by decide))⟩
    · rw [z1] at y1
      cases y1
  · have z3 := of_decide_eq_false z1
    subst hh
    obtain ⟨X1, F0'⟩ := wX_wd (r := ht - 1) (f2 := f2) (by omega) hX
    have O1 := F0' ou _ hou rfl
    refine ⟨0, rfl, wM_frX F0' hM, fun oc2 h2 hm => ?_⟩
    rcases rB_c hm with ⟨y1, -⟩ | ⟨y1, e, f3, k1, k2, w, f⟩
    · rw [z1] at y1
      cases y1
    · refine ⟨e, _, _, _, _, _, _, _, _, _, _, _, _, _, _, _, _, _, _, _, _, _, _, _, _, _, _, _, _, _, _, _, _, _, _, _, _, _, wX_frM f X1, w, f ou _ O1 rfl, hT, fun j hj q hq => ?_⟩
      by_cases hjt : j = ht - 1
      · have k3 := k1 q hq
        rw [if_pos hjt, hjt, hf2 q hq, hwd (ht - 1) (by omega) q hq, show 4 * (ht - 1) + q = 4 * ht - 4 + q by omega]
        exact k3.symm
      · rw [if_neg hjt, k2 _ (by omega)]; exact hwd j (by omega) q hq

theorem side_all (hT : tI g n fs pa pb pc pd nf ff) (hfs : ∀ i, fs i < 14) (hq : m_badQ p0 p1 p2 p3 = false) : (m_only (fun i => decide (m_exc (pa i) (pb i) (pc i) (pd i) (Int32.toInt64 p0) (Int32.toInt64 p1) (Int32.toInt64 p2) (Int32.toInt64 p3) = 0)) fs n = -1 ↔ v_so nf (v_val nf ff p0 p1 p2 p3) g p0 p1 p2 p3 = none) ∧ ∀ p, v_so nf (v_val nf ff p0 p1 p2 p3) g p0 p1 p2 p3 = some p → m_only (fun i => decide (m_exc (pa i) (pb i) (pc i) (pd i) (Int32.toInt64 p0) (Int32.toInt64 p1) (Int32.toInt64 p2) (Int32.toInt64 p3) = 0)) fs n = nI (v_c p) := by
  obtain ⟨b0, b1, b2, b3⟩ := badQ_f hq
  have hn := hT.1
  have he : ∀ i, i < n → IB (m_exc (pa i) (pb i) (pc i) (pd i) (Int32.toInt64 p0) (Int32.toInt64 p1) (Int32.toInt64 p2) (Int32.toInt64 p3)) (pv_at (tP pa pb pc pd i) p0.toInt p1.toInt p2.toInt p3.toInt) 13000000000000000 := fun i hi => tI_at hT hi (IB_32 (by omega) (by omega)) (IB_32 (by omega) (by omega)) (IB_32 (by omega) (by omega)) (IB_32 (by omega) (by omega))
  exact side_none hT hfs hq (fun i hi => by rw [decide_eq_true_eq]; exact IB_eq (he i hi) IB_0) (fun j hj => by rw [← val_k hT hj]; exact IB_eq (he (6 + j) (by omega)) IB_0)

theorem s_side (hX : wX cI cJ cP cS h x sp al fi n ga gf pl fs pa pb pc pd sk po gs so wo wd ht px py pz pw) (hM : wM cI cJ h mo nm fr hs va tp dn th g ht nf ff hf vf tf df) (hou : h ou = some (.inl (cJ, 1, .inr (.inl fo)))) (hT : tI g n fs pa pb pc pd nf ff) (hwd : ∀ j, j < ht → ∀ q, q < 4 → wd j q = hf (4 * j + q)) (hp : lwP (rB (m_badQ p0 p1 p2 p3) (rT 6 h) (rB (decide (ht = 0)) (rT 7 h) (rB (decide (m_only (fun i => decide (m_exc (pa i) (pb i) (pc i) (pd i) (Int32.toInt64 p0) (Int32.toInt64 p1) (Int32.toInt64 p2) (Int32.toInt64 p3) = 0)) fs n = -1)) (rT 9 (gh_up h po (.inr (3, [.long (Int32.toInt64 p0), .long (Int32.toInt64 p1), .long (Int32.toInt64 p2), .long (Int32.toInt64 p3)])))) (fun oc h2 => oc = .returned (some (.int (m_lkat (wd (ht - 1)) n fs pa pb pc pd ((m_only (fun i => decide (m_exc (pa i) (pb i) (pc i) (pd i) (Int32.toInt64 p0) (Int32.toInt64 p1) (Int32.toInt64 p2) (Int32.toInt64 p3) = 0)) fs n).toNatClampNeg) (Int32.toInt64 p0) (Int32.toInt64 p1) (Int32.toInt64 p2) (Int32.toInt64 p3)))) ∧ h2 = gh_up h po (.inr (3, [.long (Int32.toInt64 p0), .long (Int32.toInt64 p1), .long (Int32.toInt64 p2), .long (Int32.toInt64 p3)])))))) ou cJ fo [(6, 1), (7, 2), (9, 3)] oc h1) : ∃ k, oc = .returned (some (.int k)) ∧ wM cI cJ h1 mo nm fr hs va tp dn th g ht nf ff hf vf tf df ∧ ∀ oc2 h2, ((rB (m_badQ p0 p1 p2 p3) (rW (some (.int 0)) (fun h2 => wM cI cJ h2 mo nm fr hs va tp dn 1 g ht nf ff hf vf tf df ∧ frM h1 h2)) (rB (decide (ht = 0)) (rW (some (.int 0)) (fun h2 => wM cI cJ h2 mo nm fr hs va tp dn 2 g ht nf ff hf vf tf df ∧ frM h1 h2)) (fun oc h2 => (v_so nf (v_val nf ff p0 p1 p2 p3) g p0 p1 p2 p3 = none ∧ oc = .returned (some (.int 0)) ∧ ∃ f2 : Nat → Int64, wM cI cJ h2 mo nm fr hs va tp dn 3 g ht nf ff hf f2 tf df ∧ frM h1 h2) ∨ (∃ pp, v_so nf (v_val nf ff p0 p1 p2 p3) g p0 p1 p2 p3 = some pp ∧ oc = .returned (some (.int (v_side nf ff hf g ht p0 p1 p2 p3 pp))) ∧ ∃ f2 : Nat → Int64, wM cI cJ h2 mo nm fr hs va tp dn 0 g ht nf ff hf f2 tf df ∧ frM h1 h2)))) : Outcome → gh_M → Prop) oc2 h2 → ∃ b, oc2 = .returned (some (.int b)) ∧ lwR cI cJ cP cS h2 x mo ou k b := by
  have hn := hT.1
  have hg := hT.2.1
  have hht : ht ≤ 6 := hM.2.2.2.2.2.2.2.2.2.2.2
  have hfs : ∀ i, fs i < 14 := hX.1.2.2.2.2.2.1
  rcases lw_3 (fun q z k9 => by
    rcases rB_c k9 with ⟨-, q2, k1, k2, k3⟩ | ⟨-, k1, -⟩
    · cases k1; rw [k3, gh_self]
    · cases k1) hp with ⟨z1, rfl, q, hq, rfl⟩ | ⟨z1, z2, rfl, q, hq, rfl⟩ | ⟨z1, z2, hQ⟩
  · obtain ⟨X1, M1, O1⟩ := th_2 (k := 6) hX hM hou hq
    skip
    refine ⟨1, rfl, M1, fun oc2 h2 hm => ?_⟩
    rcases rB_c hm with ⟨-, e, w, f⟩ | ⟨y1, -⟩
    · exact ⟨0, e, th_fin X1 O1 hT hwd w f (by decide)⟩
    · rw [z1] at y1
      cases y1
  · obtain ⟨X1, M1, O1⟩ := th_2 (k := 7) hX hM hou hq
    skip
    refine ⟨2, rfl, M1, fun oc2 h2 hm => ?_⟩
    rcases rB_c hm with ⟨y1, -⟩ | ⟨y1, hm⟩
    · rw [z1] at y1
      cases y1
    · rcases rB_c hm with ⟨-, e, w, f⟩ | ⟨y2, -⟩
      · exact ⟨0, e, th_fin X1 O1 hT hwd w f (by decide)⟩
      · exfalso
        have z3 := of_decide_eq_true z2
        have y3 := of_decide_eq_false y2
        omega
  · have z3 := of_decide_eq_false z2
    have hf4 : ∀ q, q < 4 → wd (ht - 1) q = hf (4 * ht - 4 + q) := fun q hq => by rw [hwd (ht - 1) (by omega) q hq, show 4 * (ht - 1) + q = 4 * ht - 4 + q by omega]
    obtain ⟨sa1, sa2⟩ := side_all hT hfs z1
    obtain ⟨X0, F0'⟩ := wX_po (ax := Int32.toInt64 p0) (ay := Int32.toInt64 p1) (az := Int32.toInt64 p2) (aw := Int32.toInt64 p3) hX
    have O0 := F0' ou _ hou rfl
    rcases hQ with ⟨rfl, r, h0, hQ, rfl⟩ | ⟨rfl, q, hQ⟩
    · rcases rB_c hQ with ⟨-, q, k, -⟩ | ⟨k1, hr, hh⟩
      · cases k
      · have k2 := of_decide_eq_false k1
        subst hh
        have M1 := wM_ou (e := .inl (cJ, 1, .inr (.inl (vp_updL fo 0 (Int32.toInt64 r))))) O0 (wM_frX F0' hM)
        have X1 := wX_ou (e := .inl (cJ, 1, .inr (.inl (vp_updL fo 0 (Int32.toInt64 r))))) O0 X0
        refine ⟨0, rfl, M1, fun oc2 h2 hm => ?_⟩
        rcases rB_c hm with ⟨y1, -⟩ | ⟨y1, hm⟩
        · rw [z1] at y1
          cases y1
        · rcases rB_c hm with ⟨y2, -⟩ | ⟨y2, hm⟩
          · exfalso
            have y3 := of_decide_eq_true y2
            omega
          · rcases hm with ⟨k3, -⟩ | ⟨p, k3, e, f3, w, f⟩
            · exact absurd (sa1.mpr k3) k2
            · have k4 := sa2 p k3
              have hpc := (so_ok hg p k3)
              have hcp : v_c p < 14 := by unfold v_c; split <;> (try split) <;> omega
              rw [k4, nI_clamp (by omega), side_eq hT z1 hf4 k3] at hr
              cases hr
              exact ⟨_, e, lwR_mk (wX_frM f X1) w (f ou _ (gh_self _ _ _) rfl) hT hwd (fun _ => by rw [pk_uLs])⟩
    · rcases rB_c hQ with ⟨k1, q2, k2, k3, k4⟩ | ⟨-, k1, -⟩
      · have k5 := sa1.mp (of_decide_eq_true k1)
        subst k4
        obtain ⟨X1, M1, O1⟩ := th_2 (k := 9) X0 (wM_frX F0' hM) O0 k3
        refine ⟨3, rfl, M1, fun oc2 h2 hm => ?_⟩
        rcases rB_c hm with ⟨y1, -⟩ | ⟨y1, hm⟩
        · rw [z1] at y1
          cases y1
        · rcases rB_c hm with ⟨y2, -⟩ | ⟨y2, hm⟩
          · exfalso
            have y3 := of_decide_eq_true y2
            omega
          · rcases hm with ⟨-, e, f3, w, f⟩ | ⟨p, k6, -⟩
            · exact ⟨0, e, th_fin X1 O1 hT hwd w f (by decide)⟩
            · rw [k5] at k6
              cases k6
      · cases k1

theorem badE_f (hq : v_badE p0 p1 p2 = false) : (-999 ≤ p1.toInt ∧ p1.toInt ≤ 999) ∧ (-999 ≤ p2.toInt ∧ p2.toInt ≤ 999) := by
  unfold v_badE at hq
  simp only [Bool.or_eq_false_iff] at hq
  exact ⟨bey_f (by decide) (by decide) hq.2.2.1, bey_f (by decide) (by decide) hq.2.2.2⟩

theorem s_enters (hX : wX cI cJ cP cS h x sp al fi n ga gf pl fs pa pb pc pd sk po gs so wo wd ht px py pz pw) (hM : wM cI cJ h mo nm fr hs va tp dn th g ht nf ff hf vf tf df) (hou : h ou = some (.inl (cJ, 1, .inr (.inl fo)))) (hT : tI g n fs pa pb pc pd nf ff) (hwd : ∀ j, j < ht → ∀ q, q < 4 → wd j q = hf (4 * j + q)) (hp : lwP (rB (m_badE p0 p1 p2) (rT 6 h) (rB (decide (ht = 0)) (rT 7 h) (fun oc h2 => (m_any (fun i => decide (fs i = i) && e_thr n fs pa pb pc pd p0 p1 p2 i) n = true ∧ ∃ p9 : Int64 × Int64 × Int64 × Int64, rT 9 (gh_up h po (.inr (3, [.long p9.1, .long p9.2.1, .long p9.2.2.1, .long p9.2.2.2]))) oc h2) ∨ (m_any (fun i => decide (fs i = i) && e_thr n fs pa pb pc pd p0 p1 p2 i) n = false ∧ oc = .returned (some (.int (nI (mc_cnt (fun i => decide (fs i = i) && e_ent (wd (ht - 1)) n fs pa pb pc pd p0 p1 p2 i) n)))) ∧ ∃ p9 : Int64 × Int64 × Int64 × Int64, h2 = gh_up h po (.inr (3, [.long p9.1, .long p9.2.1, .long p9.2.2.1, .long p9.2.2.2])))))) ou cJ fo [(6, 1), (7, 2), (9, 3)] oc h1) : ∃ k, oc = .returned (some (.int k)) ∧ wM cI cJ h1 mo nm fr hs va tp dn th g ht nf ff hf vf tf df ∧ ∀ oc2 h2, ((rB (v_badE p0 p1 p2) (rW (some (.int 0)) (fun h2 => wM cI cJ h2 mo nm fr hs va tp dn 1 g ht nf ff hf vf tf df ∧ frM h1 h2)) (rB (decide (ht = 0)) (rW (some (.int 0)) (fun h2 => wM cI cJ h2 mo nm fr hs va tp dn 2 g ht nf ff hf vf tf df ∧ frM h1 h2)) (fun oc h2 => ∃ (a : Nat) (v1 t1 d1 : Nat → Int64), a < 3 ∧ p0 = nI a ∧ (((m_any (v_lo nf ff a p1 p2) g = true ∨ m_any (v_crs nf (v_tp nf ff a p1 p2) (v_dn nf a) a) g = true) ∧ oc = .returned (some (.int 0)) ∧ wM cI cJ h2 mo nm fr hs va tp dn 3 g ht nf ff hf v1 t1 d1 ∧ frM h1 h2) ∨ (m_any (v_lo nf ff a p1 p2) g = false ∧ m_any (v_crs nf (v_tp nf ff a p1 p2) (v_dn nf a) a) g = false ∧ oc = .returned (some (.int (nI (v_run nf ff hf g ht a p1 p2 ((fun a => eKy (tP pa pb pc pd) a n) a) (g + 1) ((fun a => eKy (tP pa pb pc pd) a n) a (-1000, 1)) false)))) ∧ wM cI cJ h2 mo nm fr hs va tp dn 0 g ht nf ff hf v1 t1 d1 ∧ frM h1 h2))))) : Outcome → gh_M → Prop) oc2 h2 → ∃ b, oc2 = .returned (some (.int b)) ∧ lwR cI cJ cP cS h2 x mo ou k b := by
  have hn := hT.1
  have hg := hT.2.1
  have hht : ht ≤ 6 := hM.2.2.2.2.2.2.2.2.2.2.2
  have hfs : ∀ i, fs i < 14 := hX.1.2.2.2.2.2.1
  rcases lw_3 (fun q z k9 => by
    rcases k9 with ⟨-, p9, q2, k1, k2, k3⟩ | ⟨-, k1, -⟩
    · cases k1; rw [k3, gh_self]
    · cases k1) hp with ⟨z1, rfl, q, hq, rfl⟩ | ⟨z1, z2, rfl, q, hq, rfl⟩ | ⟨z1, z2, hQ⟩
  · obtain ⟨X1, M1, O1⟩ := th_2 (k := 6) hX hM hou hq
    rw [badE_eq] at z1
    refine ⟨1, rfl, M1, fun oc2 h2 hm => ?_⟩
    rcases rB_c hm with ⟨-, e, w, f⟩ | ⟨y1, -⟩
    · exact ⟨0, e, th_fin X1 O1 hT hwd w f (by decide)⟩
    · rw [z1] at y1
      cases y1
  · obtain ⟨X1, M1, O1⟩ := th_2 (k := 7) hX hM hou hq
    rw [badE_eq] at z1
    refine ⟨2, rfl, M1, fun oc2 h2 hm => ?_⟩
    rcases rB_c hm with ⟨y1, -⟩ | ⟨y1, hm⟩
    · rw [z1] at y1
      cases y1
    · rcases rB_c hm with ⟨-, e, w, f⟩ | ⟨y2, -⟩
      · exact ⟨0, e, th_fin X1 O1 hT hwd w f (by decide)⟩
      · exfalso
        have z3 := of_decide_eq_true z2
        have y3 := of_decide_eq_false y2
        omega
  · have z3 := of_decide_eq_false z2
    rw [badE_eq] at z1
    obtain ⟨hu, hv⟩ := badE_f z1
    have hf4 : ∀ q, q < 4 → wd (ht - 1) q = hf (4 * ht - 4 + q) := fun q hq => by rw [hwd (ht - 1) (by omega) q hq, show 4 * (ht - 1) + q = 4 * ht - 4 + q by omega]
    rcases hQ with ⟨rfl, r, h0, hQ, rfl⟩ | ⟨rfl, q, hQ⟩
    · rcases hQ with ⟨-, p9, q2, k1, -⟩ | ⟨k1, hr, p9, hh⟩
      · cases k1
      · subst hh
        obtain ⟨X0, F0'⟩ := wX_po (ax := p9.1) (ay := p9.2.1) (az := p9.2.2.1) (aw := p9.2.2.2) hX
        have O0 := F0' ou _ hou rfl
        have M1 := wM_ou (e := .inl (cJ, 1, .inr (.inl (vp_updL fo 0 (Int32.toInt64 r))))) O0 (wM_frX F0' hM)
        have X1 := wX_ou (e := .inl (cJ, 1, .inr (.inl (vp_updL fo 0 (Int32.toInt64 r))))) O0 X0
        refine ⟨0, rfl, M1, fun oc2 h2 hm => ?_⟩
        rcases rB_c hm with ⟨y1, -⟩ | ⟨y1, hm⟩
        · rw [z1] at y1
          cases y1
        · rcases rB_c hm with ⟨y2, -⟩ | ⟨y2, hm⟩
          · exfalso
            have y3 := of_decide_eq_true y2
            omega
          · obtain ⟨a, v1, t1, d1, ha, rfl, hm3⟩ := hm
            rcases hm3 with ⟨k3, -⟩ | ⟨-, -, e, w, f⟩
            · rw [(thr_eq hT hfs ha hu hv).mpr k3] at k1
              cases k1
            · rw [cnt_eq hT hfs ha hu hv hf4 k1] at hr
              cases hr
              exact ⟨_, e, lwR_mk (wX_frM f X1) w (f ou _ (gh_self _ _ _) rfl) hT hwd (fun _ => by rw [pk_uLs])⟩
    · rcases hQ with ⟨k1, p9, q2, k2, k3, k4⟩ | ⟨-, k1, -⟩
      · obtain ⟨X0, F0'⟩ := wX_po (ax := p9.1) (ay := p9.2.1) (az := p9.2.2.1) (aw := p9.2.2.2) hX
        have O0 := F0' ou _ hou rfl
        subst k4
        obtain ⟨X1, M1, O1⟩ := th_2 (k := 9) X0 (wM_frX F0' hM) O0 k3
        refine ⟨3, rfl, M1, fun oc2 h2 hm => ?_⟩
        rcases rB_c hm with ⟨y1, -⟩ | ⟨y1, hm⟩
        · rw [z1] at y1
          cases y1
        · rcases rB_c hm with ⟨y2, -⟩ | ⟨y2, hm⟩
          · exfalso
            have y3 := of_decide_eq_true y2
            omega
          · obtain ⟨a, v1, t1, d1, ha, rfl, hm3⟩ := hm
            rcases hm3 with ⟨-, e, w, f⟩ | ⟨k5, k6, -⟩
            · exact ⟨0, e, th_fin X1 O1 hT hwd w f (by decide)⟩
            · rcases (thr_eq hT hfs ha hu hv).mp k1 with k7 | k7
              · rw [k5] at k7; cases k7
              · rw [k6] at k7; cases k7
      · cases k1

end
