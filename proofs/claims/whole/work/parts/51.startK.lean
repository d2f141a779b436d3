/-- what the tables say of the classes and of the arrays -/
theorem start_K {A : Array Value} {s : State} (htb : ∀ w ∈ tB, w.before A s = true) (hP : va_AO R_Pl s) (hS : va_AO R_So s) : ∃ (D : va_G) (cI cJ cP cS : ClassId), va_K D vC (tZ cI cJ cP cS) s := by
  obtain ⟨c0, i0, h0⟩ := u_known (ws := tB) (C := R_X) (T := T_X) (N := 4) htb in_X (htb _ k_1_16)
  obtain ⟨c1, i1, h1⟩ := u_known (ws := tB) (C := R_Pl) (T := T_Pl) (N := 4) htb in_Pl (htb _ k_1_31)
  obtain ⟨c2, i2, h2⟩ := u_known (ws := tB) (C := R_Ps) (T := T_Ps) (N := 3) htb in_Ps (htb _ k_1_24)
  obtain ⟨c3, i3, h3⟩ := u_known (ws := tB) (C := R_Pt) (T := T_Pt) (N := 4) htb in_Pt (htb _ k_1_87)
  obtain ⟨c4, i4, h4⟩ := u_known (ws := tB) (C := R_So) (T := T_So) (N := 1) htb in_So (htb _ k_1_76)
  obtain ⟨c5, i5, h5⟩ := u_known (ws := tB) (C := R_Mo) (T := T_Mo) (N := 9) htb in_Mo (htb _ k_2_218)
  obtain ⟨c6, i6, h6⟩ := u_known (ws := tB) (C := R_IA) (T := T_0) (N := 0) htb (fun w hw => by cases hw) (htb _ k_1_144)
  obtain ⟨c7, i7, h7⟩ := u_known (ws := tB) (C := R_IS) (T := T_0) (N := 0) htb (fun w hw => by cases hw) (htb _ k_1_220)
  obtain ⟨c8, i8, h8⟩ := u_known (ws := tB) (C := R_IO) (T := T_0) (N := 0) htb (fun w hw => by cases hw) (htb _ k_2_57)
  obtain ⟨c9, i9, h9⟩ := u_known (ws := tB) (C := R_NS) (T := T_0) (N := 0) htb (fun w hw => by cases hw) (htb _ k_2_138)
  obtain ⟨cI, kI, pI, aI1, aI2, aI3⟩ := Cond.arrayClass_spec (htb _ k_1_50)
  obtain ⟨cJ, kJ, pJ, aJ1, aJ2, aJ3⟩ := Cond.arrayClass_spec (htb _ k_1_85)
  obtain ⟨pP, cP, kP, aP0, -, aP2, aP3, aP1⟩ := Cond.arrayOver_spec (hP : (Cond.arrayOver (.object R_Pl)).before #[] s = true)
  obtain ⟨pS, cS, kS, aS0, -, aS2, aS3, aS1⟩ := Cond.arrayOver_spec (hS : (Cond.arrayOver (.object R_So)).before #[] s = true)
  refine ⟨(fun c => [c0, c1, c2, c3, c4, c5, c6, c7, c8, c9].getD c c0, fun c => [i0, i1, i2, i3, i4, i5, i6, i7, i8, i9].getD c i0), cI, cJ, cP, cS, fun c q hq => ?_, fun k q hk => ?_⟩
  · rcases (show c = 0 ∨ c = 1 ∨ c = 2 ∨ c = 3 ∨ c = 4 ∨ c = 5 ∨ c = 6 ∨ c = 7 ∨ c = 8 ∨ c = 9 ∨ 10 ≤ c by omega) with rfl | rfl | rfl | rfl | rfl | rfl | rfl | rfl | rfl | rfl | hc
    · cases hq; exact h0
    · cases hq; exact h1
    · cases hq; exact h2
    · cases hq; exact h3
    · cases hq; exact h4
    · cases hq; exact h5
    · cases hq; exact h6
    · cases hq; exact h7
    · cases hq; exact h8
    · cases hq; exact h9
    · rw [List.getElem?_eq_none (by show 10 ≤ c; exact hc)] at hq; cases hq
  · rcases (show k = 0 ∨ k = 1 ∨ k = 2 ∨ k = 3 ∨ 4 ≤ k by omega) with rfl | rfl | rfl | rfl | hc
    · cases hk; exact ⟨fun n z => ⟨(fun k h => by cases h), kI, aI2, pI, aI3⟩, aI1⟩
    · cases hk; exact ⟨fun n z => ⟨(fun k h => by cases h), kJ, aJ2, pJ, aJ3⟩, aJ1⟩
    · cases hk; exact ⟨fun n z => ⟨(fun k h => by cases h), kP, aP2, pP, aP3⟩, ⟨kP, pP, aP2, aP3, aP0, aP1⟩⟩
    · cases hk; exact ⟨fun n z => ⟨(fun k h => by cases h), kS, aS2, pS, aS3⟩, ⟨kS, pS, aS2, aS3, aS0, aS1⟩⟩
    · rw [List.getElem?_eq_none (by show 4 ≤ k; exact hc)] at hk; cases hk

