section
variable {cI cJ cP cS : ClassId} {h h1 h2 : gh_M} {x sp al fi n : Nat} {ga : Nat → Option Nat} {gf : Nat → Int32} {pl fs : Nat → Nat} {pa pb pc pd : Nat → Int64} {sk po : Nat} {gs : Nat → Option Nat} {so wo : Nat → Nat} {wd : Nat → Nat → Int64} {ht : Nat} {px py pz pw : Int64}
  {mo nm fr hs va tp dn : Nat} {th : Int32} {g : Nat} {nf ff : Nat → Int32} {hf vf tf df : Nat → Int64} {ou : Nat} {fo : Nat → Int64} {oc oc2 : Outcome} {p0 p1 p2 p3 k b : Int32}
theorem lwR_mk (hX : wX cI cJ cP cS h x sp al fi n ga gf pl fs pa pb pc pd sk po gs so wo wd ht px py pz pw) (hM : wM cI cJ h mo nm fr hs va tp dn k g ht nf ff hf vf tf df) (hou : h ou = some (.inl (cJ, 1, .inr (.inl fo)))) (hT : tI g n fs pa pb pc pd nf ff) (hwd : ∀ j, j < ht → ∀ q, q < 4 → wd j q = hf (4 * j + q)) (hb : k = 0 → fo 0 = Int32.toInt64 b) : lwR cI cJ cP cS h x mo ou k b :=
  ⟨_, _, _, _, _, _, _, _, _, _, _, _, _, _, _, _, _, _, _, _, _, _, _, _, _, _, _, _, _, _, _, _, _, _, _, _, _, hX, hM, hou, hT, hwd, hb⟩
theorem th_fin (hX : wX cI cJ cP cS h1 x sp al fi n ga gf pl fs pa pb pc pd sk po gs so wo wd ht px py pz pw) (hou : h1 ou = some (.inl (cJ, 1, .inr (.inl fo)))) (hT : tI g n fs pa pb pc pd nf ff) (hwd : ∀ j, j < ht → ∀ q, q < 4 → wd j q = hf (4 * j + q)) (hM : wM cI cJ h2 mo nm fr hs va tp dn k g ht nf ff hf vf tf df) (hf1 : frM h1 h2) (hk : k ≠ 0) : lwR cI cJ cP cS h2 x mo ou k b :=
  lwR_mk (wX_frM hf1 hX) hM (hf1 ou _ hou rfl) hT hwd (fun z => absurd z hk)

theorem s_plane (hX : wX cI cJ cP cS h x sp al fi n ga gf pl fs pa pb pc pd sk po gs so wo wd ht px py pz pw) (hM : wM cI cJ h mo nm fr hs va tp dn th g ht nf ff hf vf tf df) (hou : h ou = some (.inl (cJ, 1, .inr (.inl fo)))) (hT : tI g n fs pa pb pc pd nf ff) (hwd : ∀ j, j < ht → ∀ q, q < 4 → wd j q = hf (4 * j + q)) (hp : lwP (rB (m_badP p0 p1 p2 p3) (rT 6 h) (rB (decide (14 ≤ n)) (rT 7 h) (fun oc h2 => oc = .returned (some (.int (nI (n - 6)))) ∧ ∃ q, h q = none ∧ h2 = m_addH cI cP (gh_up h q (.inr (1, [.long (Int32.toInt64 p0), .long (Int32.toInt64 p1), .long (Int32.toInt64 p2), .long (Int32.toInt64 p3)]))) sp al fi n ga gf q (m_fst (fun i => m_one (pa i) (pb i) (pc i) (pd i) (Int32.toInt64 p0) (Int32.toInt64 p1) (Int32.toInt64 p2) (Int32.toInt64 p3)) n)))) ou cJ fo [(6, 1), (7, 2)] oc h1) : ∃ k, oc = .returned (some (.int k)) ∧ wM cI cJ h1 mo nm fr hs va tp dn th g ht nf ff hf vf tf df ∧ ∀ oc2 h2, ((rB (m_badP p0 p1 p2 p3) (rW (some (.int 0)) (fun h2 => wM cI cJ h2 mo nm fr hs va tp dn 1 g ht nf ff hf vf tf df ∧ frM h1 h2)) (rB (decide (g = 8)) (rW (some (.int 0)) (fun h2 => wM cI cJ h2 mo nm fr hs va tp dn 2 g ht nf ff hf vf tf df ∧ frM h1 h2)) (rW (some (.int (nI g))) (fun h2 => wM cI cJ h2 mo nm fr hs va tp dn 0 (g + 1) ht (upd (upd (upd nf (3 * g) p0) (3 * g + 1) p1) (3 * g + 2) p2) (upd ff g p3) hf vf tf df ∧ frM h1 h2)))) : Outcome → gh_M → Prop) oc2 h2 → ∃ b, oc2 = .returned (some (.int b)) ∧ lwR cI cJ cP cS h2 x mo ou k b := by
  have hn := hT.1
  have hg := hT.2.1
  have hht : ht ≤ 6 := hM.2.2.2.2.2.2.2.2.2.2.2
  rcases lw_2 (by decide) (fun q z k9 => by cases k9.1) hp with ⟨z1, rfl, q, hq, rfl⟩ | ⟨z1, z2, rfl, q, hq, rfl⟩ | ⟨z1, z2, rfl, r, h0, ⟨hr, q, hq, hh⟩, rfl⟩
  · obtain ⟨X1, M1, O1⟩ := th_2 (k := 6) hX hM hou hq
    refine ⟨1, rfl, M1, fun oc2 h2 hm => ?_⟩
    rcases rB_c hm with ⟨-, e, w, f⟩ | ⟨y1, -⟩
    · exact ⟨0, e, th_fin X1 O1 hT hwd w f (by decide)⟩
    · replace z1 :=  z1
      rw [z1] at y1
      cases y1
  · obtain ⟨X1, M1, O1⟩ := th_2 (k := 7) hX hM hou hq
    replace z1 :=  z1
    refine ⟨2, rfl, M1, fun oc2 h2 hm => ?_⟩
    rcases rB_c hm with ⟨y1, -⟩ | ⟨y1, hm⟩
    · rw [z1] at y1
      cases y1
    · rcases rB_c hm with ⟨-, e, w, f⟩ | ⟨y2, -⟩
      · exact ⟨0, e, th_fin X1 O1 hT hwd w f (by decide)⟩
      · exfalso
        have z3 := of_decide_eq_true z2
        have y3 := of_decide_eq_false y2
        omega
  · replace z1 :=  z1
    have z3 := of_decide_eq_false z2
    cases hr
    subst hh
    have r14 := (fst_an (fun i => m_one (pa i) (pb i) (pc i) (pd i) (Int32.toInt64 p0) (Int32.toInt64 p1) (Int32.toInt64 p2) (Int32.toInt64 p3)) n).1
    obtain ⟨X0, F0'⟩ := wX_pl (qa := Int32.toInt64 p0) (qb := Int32.toInt64 p1) (qc := Int32.toInt64 p2) (qd := Int32.toInt64 p3) (r := m_fst (fun i => m_one (pa i) (pb i) (pc i) (pd i) (Int32.toInt64 p0) (Int32.toInt64 p1) (Int32.toInt64 p2) (Int32.toInt64 p3)) n) (by omega) (by omega) hq hX
    have O0 := F0' ou _ hou rfl
    have M1 := wM_ou (e := .inl (cJ, 1, .inr (.inl (vp_updL fo 0 (Int32.toInt64 (nI (n - 6))))))) O0 (wM_frX F0' hM)
    have X1 := wX_ou (e := .inl (cJ, 1, .inr (.inl (vp_updL fo 0 (Int32.toInt64 (nI (n - 6))))))) O0 X0
    refine ⟨0, rfl, M1, fun oc2 h2 hm => ?_⟩
    rcases rB_c hm with ⟨y1, -⟩ | ⟨y1, hm⟩
    · rw [z1] at y1
      cases y1
    · rcases rB_c hm with ⟨y2, -⟩ | ⟨y2, e, w, f⟩
      · exfalso
        have y3 := of_decide_eq_true y2
        omega
      · exact ⟨nI g, e, lwR_mk (wX_frM f X1) w (f ou _ (gh_self _ _ _) rfl) (tI_add hT (by omega) z1) hwd (fun _ => by rw [pk_uLs, show n - 6 = g by omega])⟩

theorem s_convex (hX : wX cI cJ cP cS h x sp al fi n ga gf pl fs pa pb pc pd sk po gs so wo wd ht px py pz pw) (hM : wM cI cJ h mo nm fr hs va tp dn th g ht nf ff hf vf tf df) (hou : h ou = some (.inl (cJ, 1, .inr (.inl fo)))) (hT : tI g n fs pa pb pc pd nf ff) (hwd : ∀ j, j < ht → ∀ q, q < 4 → wd j q = hf (4 * j + q)) (hp : lwP (rB (m_badV p0 (n - 6)) (rT 6 h) (rB (decide (6 ≤ ht)) (rT 7 h) (fun oc h2 => oc = .returned (some (.int (nI (ht + 1)))) ∧ ∃ f2 : Nat → Int64, (∀ j, j < 4 → f2 j = m_cvx p0 256 j) ∧ h2 = gh_up (gh_up h (wo ht) (.inl (cJ, 4, .inr (.inl f2)))) x (.inr (0, [.ref sp, .ref sk, .ref po, .int (nI (ht + 1))]))))) ou cJ fo [(6, 1), (7, 2)] oc h1) : ∃ k, oc = .returned (some (.int k)) ∧ wM cI cJ h1 mo nm fr hs va tp dn th g ht nf ff hf vf tf df ∧ ∀ oc2 h2, ((rB (v_badV p0 g) (rW (some (.int 0)) (fun h2 => wM cI cJ h2 mo nm fr hs va tp dn 1 g ht nf ff hf vf tf df ∧ frM h1 h2)) (rB (decide (ht = 6)) (rW (some (.int 0)) (fun h2 => wM cI cJ h2 mo nm fr hs va tp dn 2 g ht nf ff hf vf tf df ∧ frM h1 h2)) (rW (some (.int (nI (ht + 1)))) (fun h2 => ∃ f2 : Nat → Int64, (∀ j, j < 4 → f2 (4 * ht + j) = m_cvx p0 256 j) ∧ (∀ j, j < 4 * ht → f2 j = hf j) ∧ wM cI cJ h2 mo nm fr hs va tp dn 0 g (ht + 1) nf ff f2 vf tf df ∧ frM h1 h2)))) : Outcome → gh_M → Prop) oc2 h2 → ∃ b, oc2 = .returned (some (.int b)) ∧ lwR cI cJ cP cS h2 x mo ou k b := by
  have hn := hT.1
  have hg := hT.2.1
  have hht : ht ≤ 6 := hM.2.2.2.2.2.2.2.2.2.2.2
  rcases lw_2 (by decide) (fun q z k9 => by cases k9.1) hp with ⟨z1, rfl, q, hq, rfl⟩ | ⟨z1, z2, rfl, q, hq, rfl⟩ | ⟨z1, z2, rfl, r, h0, ⟨hr, f2, hf2, hh⟩, rfl⟩
  · obtain ⟨X1, M1, O1⟩ := th_2 (k := 6) hX hM hou hq
    refine ⟨1, rfl, M1, fun oc2 h2 hm => ?_⟩
    rcases rB_c hm with ⟨-, e, w, f⟩ | ⟨y1, -⟩
    · exact ⟨0, e, th_fin X1 O1 hT hwd w f (by decide)⟩
    · rw [show n - 6 = g by omega, badV_eq hg] at z1
      rw [z1] at y1
      cases y1
  · obtain ⟨X1, M1, O1⟩ := th_2 (k := 7) hX hM hou hq
    rw [show n - 6 = g by omega, badV_eq hg] at z1
    refine ⟨2, rfl, M1, fun oc2 h2 hm => ?_⟩
    rcases rB_c hm with ⟨y1, -⟩ | ⟨y1, hm⟩
    · rw [z1] at y1
      cases y1
    · rcases rB_c hm with ⟨-, e, w, f⟩ | ⟨y2, -⟩
      · exact ⟨0, e, th_fin X1 O1 hT hwd w f (by decide)⟩
      · exfalso
        have z3 := of_decide_eq_true z2
        have y3 := of_decide_eq_false y2
        omega
  · rw [show n - 6 = g by omega, badV_eq hg] at z1
    have z3 := of_decide_eq_false z2
    cases hr
    subst hh
    obtain ⟨Xa, Fa⟩ := wX_wd (r := ht) (f2 := f2) (by omega) hX
    obtain ⟨X0, Fb⟩ := wX_ht (t := ht + 1) (by omega) Xa
    have F0' := frX_tr Fa Fb
    have O0 := F0' ou _ hou rfl
    have M1 := wM_ou (e := .inl (cJ, 1, .inr (.inl (vp_updL fo 0 (Int32.toInt64 (nI (ht + 1))))))) O0 (wM_frX F0' hM)
    have X1 := wX_ou (e := .inl (cJ, 1, .inr (.inl (vp_updL fo 0 (Int32.toInt64 (nI (ht + 1))))))) O0 X0
    refine ⟨0, rfl, M1, fun oc2 h2 hm => ?_⟩
    rcases rB_c hm with ⟨y1, -⟩ | ⟨y1, hm⟩
    · rw [z1] at y1
      cases y1
    · rcases rB_c hm with ⟨y2, -⟩ | ⟨y2, e, f3, k1, k2, w, f⟩
      · exfalso
        have y3 := of_decide_eq_true y2
        omega
      · refine ⟨nI (ht + 1), e, lwR_mk (wX_frM f X1) w (f ou _ (gh_self _ _ _) rfl) hT (fun j hj q hq => ?_) (fun _ => by rw [pk_uLs])⟩
        by_cases hjt : j = ht
        · rw [if_pos hjt, hjt, k1 q hq, hf2 q hq]
        · rw [if_neg hjt, k2 _ (by omega)]; exact hwd j (by omega) q hq

theorem s_join (hX : wX cI cJ cP cS h x sp al fi n ga gf pl fs pa pb pc pd sk po gs so wo wd ht px py pz pw) (hM : wM cI cJ h mo nm fr hs va tp dn th g ht nf ff hf vf tf df) (hou : h ou = some (.inl (cJ, 1, .inr (.inl fo)))) (hT : tI g n fs pa pb pc pd nf ff) (hwd : ∀ j, j < ht → ∀ q, q < 4 → wd j q = hf (4 * j + q)) (hp : lwP (rB (m_badJ p0) (rT 6 h) (rB (decide (ht < 2)) (rT 7 h) (fun oc h2 => oc = .returned (some (.int (nI (ht - 1)))) ∧ ∃ (v : Nat) (f2 : Nat → Int64), p0 = nI v ∧ v < 4 ∧ (∀ j, j < 4 → f2 j = m_jn v (wd (ht - 2) j) (wd (ht - 1) j)) ∧ h2 = gh_up (gh_up h (wo (ht - 2)) (.inl (cJ, 4, .inr (.inl f2)))) x (.inr (0, [.ref sp, .ref sk, .ref po, .int (nI (ht - 1))]))))) ou cJ fo [(6, 1), (7, 2)] oc h1) : ∃ k, oc = .returned (some (.int k)) ∧ wM cI cJ h1 mo nm fr hs va tp dn th g ht nf ff hf vf tf df ∧ ∀ oc2 h2, ((rB (v_badJ p0) (rW (some (.int 0)) (fun h2 => wM cI cJ h2 mo nm fr hs va tp dn 1 g ht nf ff hf vf tf df ∧ frM h1 h2)) (rB (decide (ht < 2)) (rW (some (.int 0)) (fun h2 => wM cI cJ h2 mo nm fr hs va tp dn 2 g ht nf ff hf vf tf df ∧ frM h1 h2)) (rW (some (.int (nI (ht - 1)))) (fun h2 => ∃ f2 : Nat → Int64, (∀ j, j < 4 → f2 (4 * (ht - 1) - 4 + j) = v_jn p0 (hf (4 * (ht - 1) - 4 + j)) (hf (4 * (ht - 1) + j))) ∧ (∀ j, j < 4 * (ht - 1) - 4 → f2 j = hf j) ∧ wM cI cJ h2 mo nm fr hs va tp dn 0 g (ht - 1) nf ff f2 vf tf df ∧ frM h1 h2)))) : Outcome → gh_M → Prop) oc2 h2 → ∃ b, oc2 = .returned (some (.int b)) ∧ lwR cI cJ cP cS h2 x mo ou k b := by
  have hn := hT.1
  have hg := hT.2.1
  have hht : ht ≤ 6 := hM.2.2.2.2.2.2.2.2.2.2.2
  rcases lw_2 (by decide) (fun q z k9 => by cases k9.1) hp with ⟨z1, rfl, q, hq, rfl⟩ | ⟨z1, z2, rfl, q, hq, rfl⟩ | ⟨z1, z2, rfl, r, h0, ⟨hr, v, f2, hv, hv4, hf2, hh⟩, rfl⟩
  · obtain ⟨X1, M1, O1⟩ := th_2 (k := 6) hX hM hou hq
    refine ⟨1, rfl, M1, fun oc2 h2 hm => ?_⟩
    rcases rB_c hm with ⟨-, e, w, f⟩ | ⟨y1, -⟩
    · exact ⟨0, e, th_fin X1 O1 hT hwd w f (by decide)⟩
    · rw [badJ_eq] at z1
      rw [z1] at y1
      cases y1
  · obtain ⟨X1, M1, O1⟩ := th_2 (k := 7) hX hM hou hq
    rw [badJ_eq] at z1
    refine ⟨2, rfl, M1, fun oc2 h2 hm => ?_⟩
    rcases rB_c hm with ⟨y1, -⟩ | ⟨y1, hm⟩
    · rw [z1] at y1
      cases y1
    · rcases rB_c hm with ⟨-, e, w, f⟩ | ⟨y2, -⟩
      · exact ⟨0, e, th_fin X1 O1 hT hwd w f (by decide)⟩
      · exfalso
        have z3 := of_decide_eq_true z2
        have y3 := of_decide_eq_false y2
        omega
  · rw [badJ_eq] at z1
    have z3 := of_decide_eq_false z2
    cases hr
    subst hh
    obtain ⟨Xa, Fa⟩ := wX_wd (r := ht - 2) (f2 := f2) (by omega) hX
    obtain ⟨X0, Fb⟩ := wX_ht (t := ht - 1) (by omega) Xa
    have F0' := frX_tr Fa Fb
    have O0 := F0' ou _ hou rfl
    have M1 := wM_ou (e := .inl (cJ, 1, .inr (.inl (vp_updL fo 0 (Int32.toInt64 (nI (ht - 1))))))) O0 (wM_frX F0' hM)
    have X1 := wX_ou (e := .inl (cJ, 1, .inr (.inl (vp_updL fo 0 (Int32.toInt64 (nI (ht - 1))))))) O0 X0
    refine ⟨0, rfl, M1, fun oc2 h2 hm => ?_⟩
    rcases rB_c hm with ⟨y1, -⟩ | ⟨y1, hm⟩
    · rw [z1] at y1
      cases y1
    · rcases rB_c hm with ⟨y2, -⟩ | ⟨y2, e, f3, k1, k2, w, f⟩
      · exfalso
        have y3 := of_decide_eq_true y2
        omega
      · refine ⟨nI (ht - 1), e, lwR_mk (wX_frM f X1) w (f ou _ (gh_self _ _ _) rfl) hT (fun j hj q hq => ?_) (fun _ => by rw [pk_uLs])⟩
        by_cases hjt : j = ht - 2
        · have k3 := k1 q hq
          rw [if_pos hjt, hjt, hf2 q hq, jn_eq hv4, ← hv, hwd (ht - 2) (by omega) q hq, hwd (ht - 1) (by omega) q hq, show 4 * (ht - 2) + q = 4 * (ht - 1) - 4 + q by omega]
          exact k3.symm
        · rw [if_neg hjt, k2 _ (by omega)]; exact hwd j (by omega) q hq

theorem s_copy (hX : wX cI cJ cP cS h x sp al fi n ga gf pl fs pa pb pc pd sk po gs so wo wd ht px py pz pw) (hM : wM cI cJ h mo nm fr hs va tp dn th g ht nf ff hf vf tf df) (hou : h ou = some (.inl (cJ, 1, .inr (.inl fo)))) (hT : tI g n fs pa pb pc pd nf ff) (hwd : ∀ j, j < ht → ∀ q, q < 4 → wd j q = hf (4 * j + q)) (hp : lwP (rB (m_badC p0 ht) (rT 8 h) (rB (decide (6 ≤ ht)) (rT 7 h) (fun oc h2 => oc = .returned (some (.int (nI (ht + 1)))) ∧ ∃ (v : Nat) (f2 : Nat → Int64), p0 = nI v ∧ v < ht ∧ (∀ j, j < 4 → f2 j = wd (ht - 1 - v) j) ∧ h2 = gh_up (gh_up h (wo ht) (.inl (cJ, 4, .inr (.inl f2)))) x (.inr (0, [.ref sp, .ref sk, .ref po, .int (nI (ht + 1))]))))) ou cJ fo [(8, 1), (7, 2)] oc h1) : ∃ k, oc = .returned (some (.int k)) ∧ wM cI cJ h1 mo nm fr hs va tp dn th g ht nf ff hf vf tf df ∧ ∀ oc2 h2, ((rB (m_badC p0 ht) (rW (some (.int 0)) (fun h2 => wM cI cJ h2 mo nm fr hs va tp dn 1 g ht nf ff hf vf tf df ∧ frM h1 h2)) (rB (decide (ht = 6)) (rW (some (.int 0)) (fun h2 => wM cI cJ h2 mo nm fr hs va tp dn 2 g ht nf ff hf vf tf df ∧ frM h1 h2)) (rW (some (.int (nI (ht + 1)))) (fun h2 => ∃ (v : Nat) (f2 : Nat → Int64), p0 = nI v ∧ v < ht ∧ (∀ j, j < 4 → f2 (4 * ht + j) = hf (4 * (ht - 1 - v) + j)) ∧ (∀ j, j < 4 * ht → f2 j = hf j) ∧ wM cI cJ h2 mo nm fr hs va tp dn 0 g (ht + 1) nf ff f2 vf tf df ∧ frM h1 h2)))) : Outcome → gh_M → Prop) oc2 h2 → ∃ b, oc2 = .returned (some (.int b)) ∧ lwR cI cJ cP cS h2 x mo ou k b := by
  have hn := hT.1
  have hg := hT.2.1
  have hht : ht ≤ 6 := hM.2.2.2.2.2.2.2.2.2.2.2
  rcases lw_2 (by decide) (fun q z k9 => by cases k9.1) hp with ⟨z1, rfl, q, hq, rfl⟩ | ⟨z1, z2, rfl, q, hq, rfl⟩ | ⟨z1, z2, rfl, r, h0, ⟨hr, v, f2, hv, hv4, hf2, hh⟩, rfl⟩
  · obtain ⟨X1, M1, O1⟩ := th_2 (k := 8) hX hM hou hq
    refine ⟨1, rfl, M1, fun oc2 h2 hm => ?_⟩
    rcases rB_c hm with ⟨-, e, w, f⟩ | ⟨y1, -⟩
    · exact ⟨0, e, th_fin X1 O1 hT hwd w f (by decide)⟩
    · replace z1 :=  z1
      rw [z1] at y1
      cases y1
  · obtain ⟨X1, M1, O1⟩ := th_2 (k := 7) hX hM hou hq
    replace z1 :=  z1
    refine ⟨2, rfl, M1, fun oc2 h2 hm => ?_⟩
    rcases rB_c hm with ⟨y1, -⟩ | ⟨y1, hm⟩
    · rw [z1] at y1
      cases y1
    · rcases rB_c hm with ⟨-, e, w, f⟩ | ⟨y2, -⟩
      · exact ⟨0, e, th_fin X1 O1 hT hwd w f (by decide)⟩
      · exfalso
        have z3 := of_decide_eq_true z2
        have y3 := of_decide_eq_false y2
        omega
  · replace z1 :=  z1
    have z3 := of_decide_eq_false z2
    cases hr
    subst hh
    obtain ⟨Xa, Fa⟩ := wX_wd (r := ht) (f2 := f2) (by omega) hX
    obtain ⟨X0, Fb⟩ := wX_ht (t := ht + 1) (by omega) Xa
    have F0' := frX_tr Fa Fb
    have O0 := F0' ou _ hou rfl
    have M1 := wM_ou (e := .inl (cJ, 1, .inr (.inl (vp_updL fo 0 (Int32.toInt64 (nI (ht + 1))))))) O0 (wM_frX F0' hM)
    have X1 := wX_ou (e := .inl (cJ, 1, .inr (.inl (vp_updL fo 0 (Int32.toInt64 (nI (ht + 1))))))) O0 X0
    refine ⟨0, rfl, M1, fun oc2 h2 hm => ?_⟩
    rcases rB_c hm with ⟨y1, -⟩ | ⟨y1, hm⟩
    · rw [z1] at y1
      cases y1
    · rcases rB_c hm with ⟨y2, -⟩ | ⟨y2, e, v2, f3, hv2, hv3, k1, k2, w, f⟩
      · exfalso
        have y3 := of_decide_eq_true y2
        omega
      · refine ⟨nI (ht + 1), e, lwR_mk (wX_frM f X1) w (f ou _ (gh_self _ _ _) rfl) hT (fun j hj q hq => ?_) (fun _ => by rw [pk_uLs])⟩
        have hvv : v = v2 := (nI_eq (by omega) (by omega)).mp (by rw [← hv, hv2])
        by_cases hjt : j = ht
        · rw [if_pos hjt, hjt, k1 q hq, hf2 q hq, ← hvv]; exact hwd (ht - 1 - v) (by omega) q hq
        · rw [if_neg hjt, k2 _ (by omega)]; exact hwd j (by omega) q hq

theorem s_inside (hX : wX cI cJ cP cS h x sp al fi n ga gf pl fs pa pb pc pd sk po gs so wo wd ht px py pz pw) (hM : wM cI cJ h mo nm fr hs va tp dn th g ht nf ff hf vf tf df) (hou : h ou = some (.inl (cJ, 1, .inr (.inl fo)))) (hT : tI g n fs pa pb pc pd nf ff) (hwd : ∀ j, j < ht → ∀ q, q < 4 → wd j q = hf (4 * j + q)) (hp : lwP (rB (m_badQ p0 p1 p2 p3) (rT 6 h) (rB (decide (ht = 0)) (rT 7 h) (fun oc h2 => oc = .returned (some (.int (if m_any (fun i => decide (m_exc (pa i) (pb i) (pc i) (pd i) (Int32.toInt64 p0) (Int32.toInt64 p1) (Int32.toInt64 p2) (Int32.toInt64 p3) = 0)) n = true then 2 else m_b (m_top (wd (ht - 1)) (pb_num (fun i => decide (m_exc (pa i) (pb i) (pc i) (pd i) (Int32.toInt64 p0) (Int32.toInt64 p1) (Int32.toInt64 p2) (Int32.toInt64 p3) < 0)) n))))) ∧ h2 = gh_up h po (.inr (3, [.long (Int32.toInt64 p0), .long (Int32.toInt64 p1), .long (Int32.toInt64 p2), .long (Int32.toInt64 p3)]))))) ou cJ fo [(6, 1), (7, 2)] oc h1) : ∃ k, oc = .returned (some (.int k)) ∧ wM cI cJ h1 mo nm fr hs va tp dn th g ht nf ff hf vf tf df ∧ ∀ oc2 h2, ((rB (m_badQ p0 p1 p2 p3) (rW (some (.int 0)) (fun h2 => wM cI cJ h2 mo nm fr hs va tp dn 1 g ht nf ff hf vf tf df ∧ frM h1 h2)) (rB (decide (ht = 0)) (rW (some (.int 0)) (fun h2 => wM cI cJ h2 mo nm fr hs va tp dn 2 g ht nf ff hf vf tf df ∧ frM h1 h2)) (fun oc h2 => oc = .returned (some (.int (v_ins nf ff hf g ht p0 p1 p2 p3))) ∧ ∃ f2 : Nat → Int64, wM cI cJ h2 mo nm fr hs va tp dn 0 g ht nf ff hf f2 tf df ∧ frM h1 h2))) : Outcome → gh_M → Prop) oc2 h2 → ∃ b, oc2 = .returned (some (.int b)) ∧ lwR cI cJ cP cS h2 x mo ou k b := by
  have hn := hT.1
  have hg := hT.2.1
  have hht : ht ≤ 6 := hM.2.2.2.2.2.2.2.2.2.2.2
  rcases lw_2 (by decide) (fun q z k9 => by cases k9.1) hp with ⟨z1, rfl, q, hq, rfl⟩ | ⟨z1, z2, rfl, q, hq, rfl⟩ | ⟨z1, z2, rfl, r, h0, ⟨hr, hh⟩, rfl⟩
  · obtain ⟨X1, M1, O1⟩ := th_2 (k := 6) hX hM hou hq
    refine ⟨1, rfl, M1, fun oc2 h2 hm => ?_⟩
    rcases rB_c hm with ⟨-, e, w, f⟩ | ⟨y1, -⟩
    · exact ⟨0, e, th_fin X1 O1 hT hwd w f (by decide)⟩
    · replace z1 :=  z1
      rw [z1] at y1
      cases y1
  · obtain ⟨X1, M1, O1⟩ := th_2 (k := 7) hX hM hou hq
    replace z1 :=  z1
    refine ⟨2, rfl, M1, fun oc2 h2 hm => ?_⟩
    rcases rB_c hm with ⟨y1, -⟩ | ⟨y1, hm⟩
    · rw [z1] at y1
      cases y1
    · rcases rB_c hm with ⟨-, e, w, f⟩ | ⟨y2, -⟩
      · exact ⟨0, e, th_fin X1 O1 hT hwd w f (by decide)⟩
      · exfalso
        have z3 := of_decide_eq_true z2
        have y3 := of_decide_eq_false y2
        omega
  · replace z1 :=  z1
    have z3 := of_decide_eq_false z2
    cases hr
    subst hh
    obtain ⟨X0, F0'⟩ := wX_po (ax := Int32.toInt64 p0) (ay := Int32.toInt64 p1) (az := Int32.toInt64 p2) (aw := Int32.toInt64 p3) hX
    have O0 := F0' ou _ hou rfl
    have hI := ins_eq hT (f := wd (ht - 1)) (hf := hf) (my := ht) z1 (fun q hq => by rw [hwd (ht - 1) (by omega) q hq, show 4 * (ht - 1) + q = 4 * ht - 4 + q by omega])
    rw [hI]
    have M1 := wM_ou (e := .inl (cJ, 1, .inr (.inl (vp_updL fo 0 (Int32.toInt64 (v_ins nf ff hf g ht p0 p1 p2 p3)))))) O0 (wM_frX F0' hM)
    have X1 := wX_ou (e := .inl (cJ, 1, .inr (.inl (vp_updL fo 0 (Int32.toInt64 (v_ins nf ff hf g ht p0 p1 p2 p3)))))) O0 X0
    refine ⟨0, rfl, M1, fun oc2 h2 hm => ?_⟩
    rcases rB_c hm with ⟨y1, -⟩ | ⟨y1, hm⟩
    · rw [z1] at y1
      cases y1
    · rcases rB_c hm with ⟨y2, -⟩ | ⟨y2, e, f3, w, f⟩
      · exfalso
        have y3 := of_decide_eq_true y2
        omega
      · exact ⟨_, e, lwR_mk (wX_frM f X1) w (f ou _ (gh_self _ _ _) rfl) hT hwd (fun _ => by rw [pk_uLs])⟩

end
