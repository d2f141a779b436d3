/-! The worlds of the class and of the model, side by side. -/
theorem own_M {e : va_E} (h : ownM e = true) : own e = false := by
  rcases e with ⟨c, n, f⟩ | ⟨c, f⟩
  · simp only [ownM, Bool.or_eq_true, beq_iff_eq] at h
    simp only [own, Bool.or_eq_false_iff, beq_eq_false_iff_ne]
    omega
  · simp only [ownM, beq_iff_eq] at h
    simp only [own, decide_eq_false_iff_not]
    omega
theorem own_X {e : va_E} (h : own e = true) : ownM e = false := by
  cases hm : ownM e with
  | false => rfl
  | true => rw [own_M hm] at h; cases h
section
variable {cI cJ cP cS : ClassId} {h h2 : gh_M} {x sp al fi n : Nat} {ga : Nat → Option Nat} {gf : Nat → Int32} {pl fs : Nat → Nat} {pa pb pc pd : Nat → Int64} {sk po : Nat} {gs : Nat → Option Nat} {so wo : Nat → Nat} {wd : Nat → Nat → Int64} {ht : Nat} {px py pz pw : Int64}
  {mo nm fr hs va tp dn : Nat} {th : Int32} {g my : Nat} {nf ff : Nat → Int32} {hf vf tf df : Nat → Int64} {q : Nat} {e0 e : va_E}
theorem wX_keep (hk : ∀ q e, h q = some e → own e = true → h2 q = some e) (hw : wX cI cJ cP cS h x sp al fi n ga gf pl fs pa pb pc pd sk po gs so wo wd ht px py pz pw) : wX cI cJ cP cS h2 x sp al fi n ga gf pl fs pa pb pc pd sk po gs so wo wd ht px py pz pw := by
  obtain ⟨⟨g1, g2, g3, g4, g5, g6, g7, g8⟩, h1, h3, h4, h5, h6, h7, h8, h9, h10⟩ := hw
  exact ⟨⟨hk _ _ g1 rfl, hk _ _ g2 rfl, hk _ _ g3 rfl, g4, g5, g6, fun i hi => hk _ _ (g7 i hi) rfl, g8⟩, h1, hk _ _ h3 rfl, hk _ _ h4 rfl, h5, hk _ _ h6 rfl, fun j hj => hk _ _ (h7 j hj) rfl, fun j hj => hk _ _ (h8 j hj) rfl, h9, h10⟩
theorem wM_keep (hk : ∀ q e, h q = some e → ownM e = true → h2 q = some e) (hw : wM cI cJ h mo nm fr hs va tp dn th g my nf ff hf vf tf df) : wM cI cJ h2 mo nm fr hs va tp dn th g my nf ff hf vf tf df := by
  obtain ⟨h1, h3, h4, h5, h6, h7, h8, h9⟩ := hw
  exact ⟨hk _ _ h1 rfl, hk _ _ h3 rfl, hk _ _ h4 rfl, hk _ _ h5 rfl, hk _ _ h6 rfl, hk _ _ h7 rfl, hk _ _ h8 rfl, h9⟩
/-- what is not of the class's own kinds stays -/
def frX (h h2 : gh_M) : Prop := ∀ q e, h q = some e → own e = false → h2 q = some e
theorem frX_rf (h : gh_M) : frX h h := fun _ _ k _ => k
theorem frX_tr {h1 : gh_M} (a : frX h h1) (b : frX h1 h2) : frX h h2 := fun q e k o => b q e (a q e k o) o
theorem frX_up (h0 : h q = some e0) (ho : own e0 = true) : frX h (gh_up h q e) := by
  intro z y hz hy
  rw [gh_ne (fun k => ?_)]
  · exact hz
  · rw [k, h0] at hz
    cases hz
    rw [ho] at hy
    cases hy
theorem frX_new (h0 : h q = none) : frX h (gh_up h q e) := fun z y hz _ => gh_keepN h0 hz
theorem wM_frX (hf1 : frX h h2) (hw : wM cI cJ h mo nm fr hs va tp dn th g my nf ff hf vf tf df) : wM cI cJ h2 mo nm fr hs va tp dn th g my nf ff hf vf tf df := wM_keep (fun q e k o => hf1 q e k (own_M o)) hw
theorem wX_frM (hf1 : frM h h2) (hw : wX cI cJ cP cS h x sp al fi n ga gf pl fs pa pb pc pd sk po gs so wo wd ht px py pz pw) : wX cI cJ cP cS h2 x sp al fi n ga gf pl fs pa pb pc pd sk po gs so wo wd ht px py pz pw := wX_keep (fun q e k o => hf1 q e k (own_X o)) hw
theorem wX_new (h0 : h q = none) (hw : wX cI cJ cP cS h x sp al fi n ga gf pl fs pa pb pc pd sk po gs so wo wd ht px py pz pw) : wX cI cJ cP cS (gh_up h q e) x sp al fi n ga gf pl fs pa pb pc pd sk po gs so wo wd ht px py pz pw := wX_keep (fun _ _ k _ => gh_keepN h0 k) hw
/-- a write to the law's own cell -/
theorem wX_ou {ou : Nat} {fo : Nat → Int64} (h0 : h ou = some (.inl (cJ, 1, .inr (.inl fo)))) (hw : wX cI cJ cP cS h x sp al fi n ga gf pl fs pa pb pc pd sk po gs so wo wd ht px py pz pw) : wX cI cJ cP cS (gh_up h ou e) x sp al fi n ga gf pl fs pa pb pc pd sk po gs so wo wd ht px py pz pw :=
  wX_keep (fun q y k o => by rw [gh_ne (fun z => by rw [z, h0] at k; cases k; cases o)]; exact k) hw
theorem wM_ou {ou : Nat} {fo : Nat → Int64} (h0 : h ou = some (.inl (cJ, 1, .inr (.inl fo)))) (hw : wM cI cJ h mo nm fr hs va tp dn th g my nf ff hf vf tf df) : wM cI cJ (gh_up h ou e) mo nm fr hs va tp dn th g my nf ff hf vf tf df :=
  wM_keep (fun q y k o => by rw [gh_ne (fun z => by rw [z, h0] at k; cases k; cases o)]; exact k) hw
/-- the spot is moved -/
theorem wX_po {ax ay az aw : Int64} (hw : wX cI cJ cP cS h x sp al fi n ga gf pl fs pa pb pc pd sk po gs so wo wd ht px py pz pw) : wX cI cJ cP cS (gh_up h po (.inr (3, [.long ax, .long ay, .long az, .long aw]))) x sp al fi n ga gf pl fs pa pb pc pd sk po gs so wo wd ht ax ay az aw ∧ frX h (gh_up h po (.inr (3, [.long ax, .long ay, .long az, .long aw]))) := by
  obtain ⟨⟨g1, g2, g3, g4, g5, g6, g7, g8⟩, h1, h3, h4, h5, h6, h7, h8, h9, h10⟩ := hw
  exact ⟨⟨⟨gh_keep h6 g1 (by simp), gh_keep h6 g2 (by simp), gh_keep h6 g3 (by simp), g4, g5, g6, fun i hi => gh_keep h6 (g7 i hi) (by simp), g8⟩, h1, gh_keep h6 h3 (by simp), gh_keep h6 h4 (by simp), h5, gh_self _ _ _, fun j hj => gh_keep h6 (h7 j hj) (by simp), fun j hj => gh_keep h6 (h8 j hj) (by simp), h9, h10⟩, frX_up h6 rfl⟩
/-- the height changes -/
theorem wX_ht {t : Nat} (ht6 : t ≤ 6) (hw : wX cI cJ cP cS h x sp al fi n ga gf pl fs pa pb pc pd sk po gs so wo wd ht px py pz pw) : wX cI cJ cP cS (gh_up h x (.inr (0, [.ref sp, .ref sk, .ref po, .int (nI t)]))) x sp al fi n ga gf pl fs pa pb pc pd sk po gs so wo wd t px py pz pw ∧ frX h (gh_up h x (.inr (0, [.ref sp, .ref sk, .ref po, .int (nI t)]))) := by
  obtain ⟨⟨g1, g2, g3, g4, g5, g6, g7, g8⟩, h1, h3, h4, h5, h6, h7, h8, h9, h10⟩ := hw
  exact ⟨⟨⟨gh_keep h3 g1 (by simp), gh_keep h3 g2 (by simp), gh_keep h3 g3 (by simp), g4, g5, g6, fun i hi => gh_keep h3 (g7 i hi) (by simp), g8⟩, h1, gh_self _ _ _, gh_keep h3 h4 (by simp), h5, gh_keep h3 h6 (by simp), fun j hj => gh_keep h3 (h7 j hj) (by simp), fun j hj => gh_keep h3 (h8 j hj) (by simp), h9, ht6⟩, frX_up h3 rfl⟩
/-- the words of a solid change -/
theorem wX_wd {r : Nat} {f2 : Nat → Int64} (hr : r < 6) (hw : wX cI cJ cP cS h x sp al fi n ga gf pl fs pa pb pc pd sk po gs so wo wd ht px py pz pw) : wX cI cJ cP cS (gh_up h (wo r) (.inl (cJ, 4, .inr (.inl f2)))) x sp al fi n ga gf pl fs pa pb pc pd sk po gs so wo (fun j => if j = r then f2 else wd j) ht px py pz pw ∧ frX h (gh_up h (wo r) (.inl (cJ, 4, .inr (.inl f2)))) := by
  obtain ⟨⟨g1, g2, g3, g4, g5, g6, g7, g8⟩, h1, h3, h4, h5, h6, h7, h8, h9, h10⟩ := hw
  have hz := h8 r hr
  refine ⟨⟨⟨gh_keep hz g1 (by simp), gh_keep hz g2 (by simp), gh_keep hz g3 (by simp), g4, g5, g6, fun i hi => gh_keep hz (g7 i hi) (by simp), g8⟩, h1, gh_keep hz h3 (by simp), gh_keep hz h4 (by simp), h5, gh_keep hz h6 (by simp), fun j hj => gh_keep hz (h7 j hj) (by simp), fun j hj => ?_, h9, h10⟩, frX_up hz rfl⟩
  by_cases hjr : j = r
  · subst hjr; simp only [if_true]; exact gh_self _ _ _
  · simp only [if_neg hjr]
    rw [gh_ne (fun z => hjr (h9 j r hj hr z))]
    exact h8 j hj
/-- one plane more -/
theorem wX_pl {p1 r : Nat} {qa qb qc qd : Int64} (hn : n < 14) (hr : r < 14) (h0 : h p1 = none) (hw : wX cI cJ cP cS h x sp al fi n ga gf pl fs pa pb pc pd sk po gs so wo wd ht px py pz pw) :
    wX cI cJ cP cS (m_addH cI cP (gh_up h p1 (.inr (1, [.long qa, .long qb, .long qc, .long qd]))) sp al fi n ga gf p1 r) x sp al fi (n + 1) (va_up ga n (some p1)) (upd gf n (nI r)) (va_up pl n p1) (va_up fs n r) (va_up pa n qa) (va_up pb n qb) (va_up pc n qc) (va_up pd n qd) sk po gs so wo wd ht px py pz pw ∧ frX h (m_addH cI cP (gh_up h p1 (.inr (1, [.long qa, .long qb, .long qc, .long qd]))) sp al fi n ga gf p1 r) := by
  obtain ⟨hp, h1, h3, h4, h5, h6, h7, h8, h9, h10⟩ := hw
  have hp2 := wPs_add (wPs_pl hp h0) hn hr (gh_self _ _ _) (qa := qa) (qb := qb) (qc := qc) (qd := qd) (q := p1)
  obtain ⟨g1, g2, g3, -⟩ := hp
  have keep : ∀ q e, h q = some e → (∀ ws, e ≠ .inr (2, ws)) → (∀ c f, e ≠ .inl (c, 14, f)) → m_addH cI cP (gh_up h p1 (.inr (1, [.long qa, .long qb, .long qc, .long qd]))) sp al fi n ga gf p1 r q = some e := by
    intro q e hq k1 k2
    rw [m_addH_ne (fun z => by rw [z, g1] at hq; cases hq; exact k1 _ rfl) (fun z => by rw [z, g2] at hq; cases hq; exact k2 _ _ rfl) (fun z => by rw [z, g3] at hq; cases hq; exact k2 _ _ rfl)]
    exact gh_keepN h0 hq
  refine ⟨⟨hp2, by omega, keep _ _ h3 (by simp) (by simp), keep _ _ h4 (by simp) (by simp), h5, keep _ _ h6 (by simp) (by simp), fun j hj => keep _ _ (h7 j hj) (by simp) (by simp), fun j hj => keep _ _ (h8 j hj) (by simp) (by simp), h9, h10⟩, fun q e hq ho => keep q e hq (fun ws z => by rw [z] at ho; cases ho) (fun c f z => by rw [z] at ho; cases ho)⟩
end
