/-! What a call needs of the tables; what a state has beside its world. -/
theorem gx_co {R : Room} {s : State} {args : Array Value} {y : MethodName} {bytes : ByteArray} {maxL : Nat} {ret : Option FieldType} {rm : Room} (n : Nat) (hts : ∀ w ∈ tB, w.before args s = true) (hc : Cond.code y bytes maxL ret ∈ tB) (hi : Cond.initialized y.cls ∈ tB)
    (hd : y.cls ≠ "java/lang/invoke/MethodHandle" ∧ y.cls ≠ "java/lang/invoke/VarHandle" ∧ (parseMethodDescriptor y.desc).map (fun d => d.parameters.length) = some n) (hR : rm.frames + 1 ≤ R.frames ∧ 8 + (maxL + 11) + rm.locals ≤ R.locals) :
    gx_Call R s args y maxL (Cond.code y bytes maxL ret :: tB) rm rm.cells rm.slots n := by
  have hG : ∀ w ∈ Cond.code y bytes maxL ret :: tB, w ∈ tB ∧ ((w.onTables && w.keeps) = true ∨ ∃ ty, w = .arrayClass ty) := by
    intro w hw
    rcases List.mem_cons.mp hw with rfl | hw
    · exact ⟨hc, good_tB _ hc⟩
    · exact ⟨hw, good_tB w hw⟩
  obtain ⟨mk, hnamed⟩ := Cond.code_named (hts _ hc)
  obtain ⟨methM, cM, hmethM, hcM, -, hlM, -, -, -, hsigM⟩ := Cond.code_spec hnamed (hts _ hc)
  refine ⟨rfl, rfl, hR.1, hR.2, pay_in hts hG, ⟨mk, methM, cM, hnamed, hmethM, hcM, hlM, hsigM⟩, hts _ hi, ⟨hd.1, hd.2.1⟩, fun sig h => ?_⟩
  have h2 := hd.2.2
  rw [h] at h2
  exact (Option.some.inj h2).symm
theorem gx_coW {R : Room} {s : State} {args : Array Value} {y : MethodName} {bytes : ByteArray} {maxL : Nat} {ret : Option FieldType} {hs : List (Nat × Nat × Nat × Nat)} {rm : Room} (n : Nat) (hts : ∀ w ∈ tB, w.before args s = true) (hc : Cond.codeWith y bytes maxL ret hs ∈ tB) (hi : Cond.initialized y.cls ∈ tB)
    (hd : y.cls ≠ "java/lang/invoke/MethodHandle" ∧ y.cls ≠ "java/lang/invoke/VarHandle" ∧ (parseMethodDescriptor y.desc).map (fun d => d.parameters.length) = some n) (hR : rm.frames + 1 ≤ R.frames ∧ 8 + (maxL + 11) + rm.locals ≤ R.locals) :
    gx_Call R s args y maxL (Cond.codeWith y bytes maxL ret hs :: tB) rm rm.cells rm.slots n := by
  have hG : ∀ w ∈ Cond.codeWith y bytes maxL ret hs :: tB, w ∈ tB ∧ ((w.onTables && w.keeps) = true ∨ ∃ ty, w = .arrayClass ty) := by
    intro w hw
    rcases List.mem_cons.mp hw with rfl | hw
    · exact ⟨hc, good_tB _ hc⟩
    · exact ⟨hw, good_tB w hw⟩
  obtain ⟨mk, methM, cM, hnamed, hmethM, hcM, -, hlM, -, -, -, hsigM⟩ := Cond.codeWith_spec (hts _ hc)
  refine ⟨rfl, rfl, hR.1, hR.2, pay_in hts hG, ⟨mk, methM, cM, hnamed, hmethM, hcM, hlM, hsigM⟩, hts _ hi, ⟨hd.1, hd.2.1⟩, fun sig h => ?_⟩
  have h2 := hd.2.2
  rw [h] at h2
  exact (Option.some.inj h2).symm
abbrev w_X_init : List Cond := Cond.code y_X_init b_X_init 2 none :: tB
theorem q_X_init {R : Room} {s : State} {args : Array Value} {rm : Room} (hts : ∀ w ∈ tB, w.before args s = true) (hR : rm.frames + 1 ≤ R.frames ∧ 8 + (2 + 11) + rm.locals ≤ R.locals) : gx_Call R s args y_X_init 2 w_X_init rm rm.cells rm.slots 0 := gx_co 0 hts k_1_19 k_1_1 (by decide +kernel) hR
abbrev w_X_plane : List Cond := Cond.code y_X_plane b_X_plane 6 (some .int) :: tB
theorem q_X_plane {R : Room} {s : State} {args : Array Value} {rm : Room} (hts : ∀ w ∈ tB, w.before args s = true) (hR : rm.frames + 1 ≤ R.frames ∧ 8 + (6 + 11) + rm.locals ≤ R.locals) : gx_Call R s args y_X_plane 6 w_X_plane rm rm.cells rm.slots 4 := gx_co 4 hts k_1_142 k_1_1 (by decide +kernel) hR
abbrev w_X_planes : List Cond := Cond.code y_X_planes b_X_planes 1 (some .int) :: tB
theorem q_X_planes {R : Room} {s : State} {args : Array Value} {rm : Room} (hts : ∀ w ∈ tB, w.before args s = true) (hR : rm.frames + 1 ≤ R.frames ∧ 8 + (1 + 11) + rm.locals ≤ R.locals) : gx_Call R s args y_X_planes 1 w_X_planes rm rm.cells rm.slots 0 := gx_co 0 hts k_1_125 k_1_1 (by decide +kernel) hR
abbrev w_X_convex : List Cond := Cond.code y_X_convex b_X_convex 2 (some .int) :: tB
theorem q_X_convex {R : Room} {s : State} {args : Array Value} {rm : Room} (hts : ∀ w ∈ tB, w.before args s = true) (hR : rm.frames + 1 ≤ R.frames ∧ 8 + (2 + 11) + rm.locals ≤ R.locals) : gx_Call R s args y_X_convex 2 w_X_convex rm rm.cells rm.slots 1 := gx_co 1 hts k_2_4 k_1_1 (by decide +kernel) hR
abbrev w_X_join : List Cond := Cond.code y_X_join b_X_join 2 (some .int) :: tB
theorem q_X_join {R : Room} {s : State} {args : Array Value} {rm : Room} (hts : ∀ w ∈ tB, w.before args s = true) (hR : rm.frames + 1 ≤ R.frames ∧ 8 + (2 + 11) + rm.locals ≤ R.locals) : gx_Call R s args y_X_join 2 w_X_join rm rm.cells rm.slots 1 := gx_co 1 hts k_2_21 k_1_1 (by decide +kernel) hR
abbrev w_X_turn : List Cond := Cond.code y_X_turn b_X_turn 1 none :: tB
theorem q_X_turn {R : Room} {s : State} {args : Array Value} {rm : Room} (hts : ∀ w ∈ tB, w.before args s = true) (hR : rm.frames + 1 ≤ R.frames ∧ 8 + (1 + 11) + rm.locals ≤ R.locals) : gx_Call R s args y_X_turn 1 w_X_turn rm rm.cells rm.slots 0 := gx_co 0 hts k_2_38 k_1_1 (by decide +kernel) hR
abbrev w_X_copy : List Cond := Cond.code y_X_copy b_X_copy 2 (some .int) :: tB
theorem q_X_copy {R : Room} {s : State} {args : Array Value} {rm : Room} (hts : ∀ w ∈ tB, w.before args s = true) (hR : rm.frames + 1 ≤ R.frames ∧ 8 + (2 + 11) + rm.locals ≤ R.locals) : gx_Call R s args y_X_copy 2 w_X_copy rm rm.cells rm.slots 1 := gx_co 1 hts k_2_55 k_1_1 (by decide +kernel) hR
abbrev w_X_drop : List Cond := Cond.code y_X_drop b_X_drop 1 (some .int) :: tB
theorem q_X_drop {R : Room} {s : State} {args : Array Value} {rm : Room} (hts : ∀ w ∈ tB, w.before args s = true) (hR : rm.frames + 1 ≤ R.frames ∧ 8 + (1 + 11) + rm.locals ≤ R.locals) : gx_Call R s args y_X_drop 1 w_X_drop rm rm.cells rm.slots 0 := gx_co 0 hts k_2_82 k_1_1 (by decide +kernel) hR
abbrev w_X_solids : List Cond := Cond.code y_X_solids b_X_solids 1 (some .int) :: tB
theorem q_X_solids {R : Room} {s : State} {args : Array Value} {rm : Room} (hts : ∀ w ∈ tB, w.before args s = true) (hR : rm.frames + 1 ≤ R.frames ∧ 8 + (1 + 11) + rm.locals ≤ R.locals) : gx_Call R s args y_X_solids 1 w_X_solids rm rm.cells rm.slots 0 := gx_co 0 hts k_1_133 k_1_1 (by decide +kernel) hR
abbrev w_X_inside : List Cond := Cond.code y_X_inside b_X_inside 5 (some .int) :: tB
theorem q_X_inside {R : Room} {s : State} {args : Array Value} {rm : Room} (hts : ∀ w ∈ tB, w.before args s = true) (hR : rm.frames + 1 ≤ R.frames ∧ 8 + (5 + 11) + rm.locals ≤ R.locals) : gx_Call R s args y_X_inside 5 w_X_inside rm rm.cells rm.slots 4 := gx_co 4 hts k_2_89 k_1_1 (by decide +kernel) hR
abbrev w_X_side : List Cond := Cond.code y_X_side b_X_side 6 (some .int) :: tB
theorem q_X_side {R : Room} {s : State} {args : Array Value} {rm : Room} (hts : ∀ w ∈ tB, w.before args s = true) (hR : rm.frames + 1 ≤ R.frames ∧ 8 + (6 + 11) + rm.locals ≤ R.locals) : gx_Call R s args y_X_side 6 w_X_side rm rm.cells rm.slots 4 := gx_co 4 hts k_2_132 k_1_1 (by decide +kernel) hR
abbrev w_X_enters : List Cond := Cond.code y_X_enters b_X_enters 6 (some .int) :: tB
theorem q_X_enters {R : Room} {s : State} {args : Array Value} {rm : Room} (hts : ∀ w ∈ tB, w.before args s = true) (hR : rm.frames + 1 ≤ R.frames ∧ 8 + (6 + 11) + rm.locals ≤ R.locals) : gx_Call R s args y_X_enters 6 w_X_enters rm rm.cells rm.slots 3 := gx_co 3 hts k_2_180 k_1_1 (by decide +kernel) hR
abbrev w_X_isEntry : List Cond := Cond.code y_X_isEntry b_X_isEntry 10 (some .boolean) :: tB
theorem q_X_isEntry {R : Room} {s : State} {args : Array Value} {rm : Room} (hts : ∀ w ∈ tB, w.before args s = true) (hR : rm.frames + 1 ≤ R.frames ∧ 8 + (10 + 11) + rm.locals ≤ R.locals) : gx_Call R s args y_X_isEntry 10 w_X_isEntry rm rm.cells rm.slots 4 := gx_co 4 hts k_2_194 k_1_1 (by decide +kernel) hR
abbrev w_X_lookAtSpot : List Cond := Cond.code y_X_lookAtSpot b_X_lookAtSpot 4 (some .int) :: tB
theorem q_X_lookAtSpot {R : Room} {s : State} {args : Array Value} {rm : Room} (hts : ∀ w ∈ tB, w.before args s = true) (hR : rm.frames + 1 ≤ R.frames ∧ 8 + (4 + 11) + rm.locals ≤ R.locals) : gx_Call R s args y_X_lookAtSpot 4 w_X_lookAtSpot rm rm.cells rm.slots 1 := gx_co 1 hts k_2_156 k_1_1 (by decide +kernel) hR
abbrev w_X_topHas : List Cond := Cond.code y_X_topHas b_X_topHas 2 (some .boolean) :: tB
theorem q_X_topHas {R : Room} {s : State} {args : Array Value} {rm : Room} (hts : ∀ w ∈ tB, w.before args s = true) (hR : rm.frames + 1 ≤ R.frames ∧ 8 + (2 + 11) + rm.locals ≤ R.locals) : gx_Call R s args y_X_topHas 2 w_X_topHas rm rm.cells rm.slots 1 := gx_co 1 hts k_2_114 k_1_1 (by decide +kernel) hR
abbrev w_X_requireRoom : List Cond := Cond.code y_X_requireRoom b_X_requireRoom 1 none :: tB
theorem q_X_requireRoom {R : Room} {s : State} {args : Array Value} {rm : Room} (hts : ∀ w ∈ tB, w.before args s = true) (hR : rm.frames + 1 ≤ R.frames ∧ 8 + (1 + 11) + rm.locals ≤ R.locals) : gx_Call R s args y_X_requireRoom 1 w_X_requireRoom rm rm.cells rm.slots 0 := gx_co 0 hts k_2_9 k_1_1 (by decide +kernel) hR
abbrev w_X_requireSolid : List Cond := Cond.code y_X_requireSolid b_X_requireSolid 1 none :: tB
theorem q_X_requireSolid {R : Room} {s : State} {args : Array Value} {rm : Room} (hts : ∀ w ∈ tB, w.before args s = true) (hR : rm.frames + 1 ≤ R.frames ∧ 8 + (1 + 11) + rm.locals ≤ R.locals) : gx_Call R s args y_X_requireSolid 1 w_X_requireSolid rm rm.cells rm.slots 0 := gx_co 0 hts k_2_42 k_1_1 (by decide +kernel) hR
abbrev w_X_requirePoint : List Cond := Cond.code y_X_requirePoint b_X_requirePoint 4 none :: tB
theorem q_X_requirePoint {R : Room} {s : State} {args : Array Value} {rm : Room} (hts : ∀ w ∈ tB, w.before args s = true) (hR : rm.frames + 1 ≤ R.frames ∧ 8 + (4 + 11) + rm.locals ≤ R.locals) : gx_Call R s args y_X_requirePoint 4 w_X_requirePoint rm rm.cells rm.slots 4 := gx_co 4 hts k_2_92 k_1_1 (by decide +kernel) hR
abbrev w_X_isBeyond : List Cond := Cond.code y_X_isBeyond b_X_isBeyond 2 (some .boolean) :: tB
theorem q_X_isBeyond {R : Room} {s : State} {args : Array Value} {rm : Room} (hts : ∀ w ∈ tB, w.before args s = true) (hR : rm.frames + 1 ≤ R.frames ∧ 8 + (2 + 11) + rm.locals ≤ R.locals) : gx_Call R s args y_X_isBeyond 2 w_X_isBeyond rm rm.cells rm.slots 2 := gx_co 2 hts k_1_215 k_1_1 (by decide +kernel) hR
abbrev w_Mo_init : List Cond := Cond.code y_Mo_init b_Mo_init 1 none :: tB
theorem q_Mo_init {R : Room} {s : State} {args : Array Value} {rm : Room} (hts : ∀ w ∈ tB, w.before args s = true) (hR : rm.frames + 1 ≤ R.frames ∧ 8 + (1 + 11) + rm.locals ≤ R.locals) : gx_Call R s args y_Mo_init 1 w_Mo_init rm rm.cells rm.slots 0 := gx_co 0 hts k_2_221 k_1_6 (by decide +kernel) hR
abbrev w_Mo_thrown : List Cond := Cond.code y_Mo_thrown b_Mo_thrown 1 (some .int) :: tB
theorem q_Mo_thrown {R : Room} {s : State} {args : Array Value} {rm : Room} (hts : ∀ w ∈ tB, w.before args s = true) (hR : rm.frames + 1 ≤ R.frames ∧ 8 + (1 + 11) + rm.locals ≤ R.locals) : gx_Call R s args y_Mo_thrown 1 w_Mo_thrown rm rm.cells rm.slots 0 := gx_co 0 hts k_3_14 k_1_6 (by decide +kernel) hR
abbrev w_Mo_within : List Cond := Cond.code y_Mo_within b_Mo_within 2 (some .boolean) :: tB
theorem q_Mo_within {R : Room} {s : State} {args : Array Value} {rm : Room} (hts : ∀ w ∈ tB, w.before args s = true) (hR : rm.frames + 1 ≤ R.frames ∧ 8 + (2 + 11) + rm.locals ≤ R.locals) : gx_Call R s args y_Mo_within 2 w_Mo_within rm rm.cells rm.slots 2 := gx_co 2 hts k_3_22 k_1_6 (by decide +kernel) hR
abbrev w_Mo_plane : List Cond := Cond.code y_Mo_plane b_Mo_plane 6 (some .int) :: tB
theorem q_Mo_plane {R : Room} {s : State} {args : Array Value} {rm : Room} (hts : ∀ w ∈ tB, w.before args s = true) (hR : rm.frames + 1 ≤ R.frames ∧ 8 + (6 + 11) + rm.locals ≤ R.locals) : gx_Call R s args y_Mo_plane 6 w_Mo_plane rm rm.cells rm.slots 4 := gx_co 4 hts k_3_18 k_1_6 (by decide +kernel) hR
abbrev w_Mo_planes : List Cond := Cond.code y_Mo_planes b_Mo_planes 1 (some .int) :: tB
theorem q_Mo_planes {R : Room} {s : State} {args : Array Value} {rm : Room} (hts : ∀ w ∈ tB, w.before args s = true) (hR : rm.frames + 1 ≤ R.frames ∧ 8 + (1 + 11) + rm.locals ≤ R.locals) : gx_Call R s args y_Mo_planes 1 w_Mo_planes rm rm.cells rm.slots 0 := gx_co 0 hts k_3_27 k_1_6 (by decide +kernel) hR
abbrev w_Mo_convex : List Cond := Cond.code y_Mo_convex b_Mo_convex 3 (some .int) :: tB
theorem q_Mo_convex {R : Room} {s : State} {args : Array Value} {rm : Room} (hts : ∀ w ∈ tB, w.before args s = true) (hR : rm.frames + 1 ≤ R.frames ∧ 8 + (3 + 11) + rm.locals ≤ R.locals) : gx_Call R s args y_Mo_convex 3 w_Mo_convex rm rm.cells rm.slots 1 := gx_co 1 hts k_3_31 k_1_6 (by decide +kernel) hR
abbrev w_Mo_join : List Cond := Cond.code y_Mo_join b_Mo_join 7 (some .int) :: tB
theorem q_Mo_join {R : Room} {s : State} {args : Array Value} {rm : Room} (hts : ∀ w ∈ tB, w.before args s = true) (hR : rm.frames + 1 ≤ R.frames ∧ 8 + (7 + 11) + rm.locals ≤ R.locals) : gx_Call R s args y_Mo_join 7 w_Mo_join rm rm.cells rm.slots 1 := gx_co 1 hts k_3_35 k_1_6 (by decide +kernel) hR
abbrev w_Mo_turn : List Cond := Cond.code y_Mo_turn b_Mo_turn 2 none :: tB
theorem q_Mo_turn {R : Room} {s : State} {args : Array Value} {rm : Room} (hts : ∀ w ∈ tB, w.before args s = true) (hR : rm.frames + 1 ≤ R.frames ∧ 8 + (2 + 11) + rm.locals ≤ R.locals) : gx_Call R s args y_Mo_turn 2 w_Mo_turn rm rm.cells rm.slots 0 := gx_co 0 hts k_3_40 k_1_6 (by decide +kernel) hR
abbrev w_Mo_copy : List Cond := Cond.code y_Mo_copy b_Mo_copy 3 (some .int) :: tB
theorem q_Mo_copy {R : Room} {s : State} {args : Array Value} {rm : Room} (hts : ∀ w ∈ tB, w.before args s = true) (hR : rm.frames + 1 ≤ R.frames ∧ 8 + (3 + 11) + rm.locals ≤ R.locals) : gx_Call R s args y_Mo_copy 3 w_Mo_copy rm rm.cells rm.slots 1 := gx_co 1 hts k_3_44 k_1_6 (by decide +kernel) hR
abbrev w_Mo_drop : List Cond := Cond.code y_Mo_drop b_Mo_drop 1 (some .int) :: tB
theorem q_Mo_drop {R : Room} {s : State} {args : Array Value} {rm : Room} (hts : ∀ w ∈ tB, w.before args s = true) (hR : rm.frames + 1 ≤ R.frames ∧ 8 + (1 + 11) + rm.locals ≤ R.locals) : gx_Call R s args y_Mo_drop 1 w_Mo_drop rm rm.cells rm.slots 0 := gx_co 0 hts k_3_48 k_1_6 (by decide +kernel) hR
abbrev w_Mo_solids : List Cond := Cond.code y_Mo_solids b_Mo_solids 1 (some .int) :: tB
theorem q_Mo_solids {R : Room} {s : State} {args : Array Value} {rm : Room} (hts : ∀ w ∈ tB, w.before args s = true) (hR : rm.frames + 1 ≤ R.frames ∧ 8 + (1 + 11) + rm.locals ≤ R.locals) : gx_Call R s args y_Mo_solids 1 w_Mo_solids rm rm.cells rm.slots 0 := gx_co 0 hts k_3_52 k_1_6 (by decide +kernel) hR
abbrev w_Mo_topHas : List Cond := Cond.code y_Mo_topHas b_Mo_topHas 2 (some .boolean) :: tB
theorem q_Mo_topHas {R : Room} {s : State} {args : Array Value} {rm : Room} (hts : ∀ w ∈ tB, w.before args s = true) (hR : rm.frames + 1 ≤ R.frames ∧ 8 + (2 + 11) + rm.locals ≤ R.locals) : gx_Call R s args y_Mo_topHas 2 w_Mo_topHas rm rm.cells rm.slots 1 := gx_co 1 hts k_3_78 k_1_6 (by decide +kernel) hR
abbrev w_Mo_isPoint : List Cond := Cond.code y_Mo_isPoint b_Mo_isPoint 4 (some .boolean) :: tB
theorem q_Mo_isPoint {R : Room} {s : State} {args : Array Value} {rm : Room} (hts : ∀ w ∈ tB, w.before args s = true) (hR : rm.frames + 1 ≤ R.frames ∧ 8 + (4 + 11) + rm.locals ≤ R.locals) : gx_Call R s args y_Mo_isPoint 4 w_Mo_isPoint rm rm.cells rm.slots 4 := gx_co 4 hts k_3_59 k_1_6 (by decide +kernel) hR
abbrev w_Mo_look : List Cond := Cond.code y_Mo_look b_Mo_look 6 none :: tB
theorem q_Mo_look {R : Room} {s : State} {args : Array Value} {rm : Room} (hts : ∀ w ∈ tB, w.before args s = true) (hR : rm.frames + 1 ≤ R.frames ∧ 8 + (6 + 11) + rm.locals ≤ R.locals) : gx_Call R s args y_Mo_look 6 w_Mo_look rm rm.cells rm.slots 4 := gx_co 4 hts k_3_63 k_1_6 (by decide +kernel) hR
abbrev w_Mo_lies : List Cond := Cond.code y_Mo_lies b_Mo_lies 3 (some .int) :: tB
theorem q_Mo_lies {R : Room} {s : State} {args : Array Value} {rm : Room} (hts : ∀ w ∈ tB, w.before args s = true) (hR : rm.frames + 1 ≤ R.frames ∧ 8 + (3 + 11) + rm.locals ≤ R.locals) : gx_Call R s args y_Mo_lies 3 w_Mo_lies rm rm.cells rm.slots 2 := gx_co 2 hts k_3_70 k_1_6 (by decide +kernel) hR
abbrev w_Mo_choice : List Cond := Cond.code y_Mo_choice b_Mo_choice 3 (some .int) :: tB
theorem q_Mo_choice {R : Room} {s : State} {args : Array Value} {rm : Room} (hts : ∀ w ∈ tB, w.before args s = true) (hR : rm.frames + 1 ≤ R.frames ∧ 8 + (3 + 11) + rm.locals ≤ R.locals) : gx_Call R s args y_Mo_choice 3 w_Mo_choice rm rm.cells rm.slots 0 := gx_co 0 hts k_3_74 k_1_6 (by decide +kernel) hR
abbrev w_Mo_isOnGiven : List Cond := Cond.code y_Mo_isOnGiven b_Mo_isOnGiven 3 (some .boolean) :: tB
theorem q_Mo_isOnGiven {R : Room} {s : State} {args : Array Value} {rm : Room} (hts : ∀ w ∈ tB, w.before args s = true) (hR : rm.frames + 1 ≤ R.frames ∧ 8 + (3 + 11) + rm.locals ≤ R.locals) : gx_Call R s args y_Mo_isOnGiven 3 w_Mo_isOnGiven rm rm.cells rm.slots 0 := gx_co 0 hts k_3_67 k_1_6 (by decide +kernel) hR
abbrev w_Mo_inside : List Cond := Cond.code y_Mo_inside b_Mo_inside 6 (some .int) :: tB
theorem q_Mo_inside {R : Room} {s : State} {args : Array Value} {rm : Room} (hts : ∀ w ∈ tB, w.before args s = true) (hR : rm.frames + 1 ≤ R.frames ∧ 8 + (6 + 11) + rm.locals ≤ R.locals) : gx_Call R s args y_Mo_inside 6 w_Mo_inside rm rm.cells rm.slots 4 := gx_co 4 hts k_3_56 k_1_6 (by decide +kernel) hR
abbrev w_Mo_normal : List Cond := Cond.code y_Mo_normal b_Mo_normal 3 (some .int) :: tB
theorem q_Mo_normal {R : Room} {s : State} {args : Array Value} {rm : Room} (hts : ∀ w ∈ tB, w.before args s = true) (hR : rm.frames + 1 ≤ R.frames ∧ 8 + (3 + 11) + rm.locals ≤ R.locals) : gx_Call R s args y_Mo_normal 3 w_Mo_normal rm rm.cells rm.slots 2 := gx_co 2 hts k_3_94 k_1_6 (by decide +kernel) hR
abbrev w_Mo_alike : List Cond := Cond.code y_Mo_alike b_Mo_alike 9 (some .int) :: tB
theorem q_Mo_alike {R : Room} {s : State} {args : Array Value} {rm : Room} (hts : ∀ w ∈ tB, w.before args s = true) (hR : rm.frames + 1 ≤ R.frames ∧ 8 + (9 + 11) + rm.locals ≤ R.locals) : gx_Call R s args y_Mo_alike 9 w_Mo_alike rm rm.cells rm.slots 2 := gx_co 2 hts k_3_90 k_1_6 (by decide +kernel) hR
abbrev w_Mo_choiceAt : List Cond := Cond.code y_Mo_choiceAt b_Mo_choiceAt 6 (some .int) :: tB
theorem q_Mo_choiceAt {R : Room} {s : State} {args : Array Value} {rm : Room} (hts : ∀ w ∈ tB, w.before args s = true) (hR : rm.frames + 1 ≤ R.frames ∧ 8 + (6 + 11) + rm.locals ≤ R.locals) : gx_Call R s args y_Mo_choiceAt 6 w_Mo_choiceAt rm rm.cells rm.slots 2 := gx_co 2 hts k_3_98 k_1_6 (by decide +kernel) hR
abbrev w_Mo_sideOf : List Cond := Cond.code y_Mo_sideOf b_Mo_sideOf 9 (some .int) :: tB
theorem q_Mo_sideOf {R : Room} {s : State} {args : Array Value} {rm : Room} (hts : ∀ w ∈ tB, w.before args s = true) (hR : rm.frames + 1 ≤ R.frames ∧ 8 + (9 + 11) + rm.locals ≤ R.locals) : gx_Call R s args y_Mo_sideOf 9 w_Mo_sideOf rm rm.cells rm.slots 4 := gx_co 4 hts k_3_86 k_1_6 (by decide +kernel) hR
abbrev w_Mo_side : List Cond := Cond.code y_Mo_side b_Mo_side 9 (some .int) :: tB
theorem q_Mo_side {R : Room} {s : State} {args : Array Value} {rm : Room} (hts : ∀ w ∈ tB, w.before args s = true) (hR : rm.frames + 1 ≤ R.frames ∧ 8 + (9 + 11) + rm.locals ≤ R.locals) : gx_Call R s args y_Mo_side 9 w_Mo_side rm rm.cells rm.slots 4 := gx_co 4 hts k_3_82 k_1_6 (by decide +kernel) hR
abbrev w_Mo_compare : List Cond := Cond.code y_Mo_compare b_Mo_compare 12 (some .int) :: tB
theorem q_Mo_compare {R : Room} {s : State} {args : Array Value} {rm : Room} (hts : ∀ w ∈ tB, w.before args s = true) (hR : rm.frames + 1 ≤ R.frames ∧ 8 + (12 + 11) + rm.locals ≤ R.locals) : gx_Call R s args y_Mo_compare 12 w_Mo_compare rm rm.cells rm.slots 4 := gx_co 4 hts k_3_118 k_1_6 (by decide +kernel) hR
abbrev w_Mo_meet : List Cond := Cond.code y_Mo_meet b_Mo_meet 11 (some .boolean) :: tB
theorem q_Mo_meet {R : Room} {s : State} {args : Array Value} {rm : Room} (hts : ∀ w ∈ tB, w.before args s = true) (hR : rm.frames + 1 ≤ R.frames ∧ 8 + (11 + 11) + rm.locals ≤ R.locals) : gx_Call R s args y_Mo_meet 11 w_Mo_meet rm rm.cells rm.slots 3 := gx_co 3 hts k_3_106 k_1_6 (by decide +kernel) hR
abbrev w_Mo_isInBox : List Cond := Cond.code y_Mo_isInBox b_Mo_isInBox 2 (some .boolean) :: tB
theorem q_Mo_isInBox {R : Room} {s : State} {args : Array Value} {rm : Room} (hts : ∀ w ∈ tB, w.before args s = true) (hR : rm.frames + 1 ≤ R.frames ∧ 8 + (2 + 11) + rm.locals ≤ R.locals) : gx_Call R s args y_Mo_isInBox 2 w_Mo_isInBox rm rm.cells rm.slots 1 := gx_co 1 hts k_3_114 k_1_6 (by decide +kernel) hR
abbrev w_Mo_isCrossed : List Cond := Cond.code y_Mo_isCrossed b_Mo_isCrossed 6 (some .boolean) :: tB
theorem q_Mo_isCrossed {R : Room} {s : State} {args : Array Value} {rm : Room} (hts : ∀ w ∈ tB, w.before args s = true) (hR : rm.frames + 1 ≤ R.frames ∧ 8 + (6 + 11) + rm.locals ≤ R.locals) : gx_Call R s args y_Mo_isCrossed 6 w_Mo_isCrossed rm rm.cells rm.slots 1 := gx_co 1 hts k_3_110 k_1_6 (by decide +kernel) hR
abbrev w_Mo_choiceBehind : List Cond := Cond.code y_Mo_choiceBehind b_Mo_choiceBehind 10 (some .int) :: tB
theorem q_Mo_choiceBehind {R : Room} {s : State} {args : Array Value} {rm : Room} (hts : ∀ w ∈ tB, w.before args s = true) (hR : rm.frames + 1 ≤ R.frames ∧ 8 + (10 + 11) + rm.locals ≤ R.locals) : gx_Call R s args y_Mo_choiceBehind 10 w_Mo_choiceBehind rm rm.cells rm.slots 3 := gx_co 3 hts k_3_123 k_1_6 (by decide +kernel) hR
abbrev w_Mo_enters : List Cond := Cond.code y_Mo_enters b_Mo_enters 16 (some .int) :: tB
theorem q_Mo_enters {R : Room} {s : State} {args : Array Value} {rm : Room} (hts : ∀ w ∈ tB, w.before args s = true) (hR : rm.frames + 1 ≤ R.frames ∧ 8 + (16 + 11) + rm.locals ≤ R.locals) : gx_Call R s args y_Mo_enters 16 w_Mo_enters rm rm.cells rm.slots 3 := gx_co 3 hts k_3_102 k_1_6 (by decide +kernel) hR
abbrev w_Pl_init : List Cond := Cond.code y_Pl_init b_Pl_init 9 none :: tB
theorem q_Pl_init {R : Room} {s : State} {args : Array Value} {rm : Room} (hts : ∀ w ∈ tB, w.before args s = true) (hR : rm.frames + 1 ≤ R.frames ∧ 8 + (9 + 11) + rm.locals ≤ R.locals) : gx_Call R s args y_Pl_init 9 w_Pl_init rm rm.cells rm.slots 4 := gx_co 4 hts k_1_35 k_1_3 (by decide +kernel) hR
abbrev w_Pl_factor : List Cond := Cond.code y_Pl_factor b_Pl_factor 2 (some .long) :: tB
theorem q_Pl_factor {R : Room} {s : State} {args : Array Value} {rm : Room} (hts : ∀ w ∈ tB, w.before args s = true) (hR : rm.frames + 1 ≤ R.frames ∧ 8 + (2 + 11) + rm.locals ≤ R.locals) : gx_Call R s args y_Pl_factor 2 w_Pl_factor rm rm.cells rm.slots 1 := gx_co 1 hts k_2_202 k_1_3 (by decide +kernel) hR
abbrev w_Pl_excess : List Cond := Cond.code y_Pl_excess b_Pl_excess 2 (some .long) :: tB
theorem q_Pl_excess {R : Room} {s : State} {args : Array Value} {rm : Room} (hts : ∀ w ∈ tB, w.before args s = true) (hR : rm.frames + 1 ≤ R.frames ∧ 8 + (2 + 11) + rm.locals ≤ R.locals) : gx_Call R s args y_Pl_excess 2 w_Pl_excess rm rm.cells rm.slots 1 := gx_co 1 hts k_2_106 k_1_3 (by decide +kernel) hR
abbrev w_Pl_isOneWith : List Cond := Cond.code y_Pl_isOneWith b_Pl_isOneWith 2 (some .boolean) :: tB
theorem q_Pl_isOneWith {R : Room} {s : State} {args : Array Value} {rm : Room} (hts : ∀ w ∈ tB, w.before args s = true) (hR : rm.frames + 1 ≤ R.frames ∧ 8 + (2 + 11) + rm.locals ≤ R.locals) : gx_Call R s args y_Pl_isOneWith 2 w_Pl_isOneWith rm rm.cells rm.slots 1 := gx_co 1 hts k_1_62 k_1_3 (by decide +kernel) hR
abbrev w_Pl_looksLike : List Cond := Cond.code y_Pl_looksLike b_Pl_looksLike 2 (some .boolean) :: tB
theorem q_Pl_looksLike {R : Room} {s : State} {args : Array Value} {rm : Room} (hts : ∀ w ∈ tB, w.before args s = true) (hR : rm.frames + 1 ≤ R.frames ∧ 8 + (2 + 11) + rm.locals ≤ R.locals) : gx_Call R s args y_Pl_looksLike 2 w_Pl_looksLike rm rm.cells rm.slots 1 := gx_co 1 hts k_2_169 k_1_3 (by decide +kernel) hR
abbrev w_Ps_init : List Cond := Cond.code y_Ps_init b_Ps_init 1 none :: tB
theorem q_Ps_init {R : Room} {s : State} {args : Array Value} {rm : Room} (hts : ∀ w ∈ tB, w.before args s = true) (hR : rm.frames + 1 ≤ R.frames ∧ 8 + (1 + 11) + rm.locals ≤ R.locals) : gx_Call R s args y_Ps_init 1 w_Ps_init rm rm.cells rm.slots 0 := gx_co 0 hts k_1_27 k_1_2 (by decide +kernel) hR
abbrev w_Ps_isCellInBox : List Cond := Cond.code y_Ps_isCellInBox b_Ps_isCellInBox 1 (some .boolean) :: tB
theorem q_Ps_isCellInBox {R : Room} {s : State} {args : Array Value} {rm : Room} (hts : ∀ w ∈ tB, w.before args s = true) (hR : rm.frames + 1 ≤ R.frames ∧ 8 + (1 + 11) + rm.locals ≤ R.locals) : gx_Call R s args y_Ps_isCellInBox 1 w_Ps_isCellInBox rm rm.cells rm.slots 1 := gx_co 1 hts k_2_117 k_1_2 (by decide +kernel) hR
abbrev w_Ps_givenOfCell : List Cond := Cond.code y_Ps_givenOfCell b_Ps_givenOfCell 1 (some .int) :: tB
theorem q_Ps_givenOfCell {R : Room} {s : State} {args : Array Value} {rm : Room} (hts : ∀ w ∈ tB, w.before args s = true) (hR : rm.frames + 1 ≤ R.frames ∧ 8 + (1 + 11) + rm.locals ≤ R.locals) : gx_Call R s args y_Ps_givenOfCell 1 w_Ps_givenOfCell rm rm.cells rm.slots 1 := gx_co 1 hts k_2_120 k_1_2 (by decide +kernel) hR
abbrev w_Ps_add : List Cond := Cond.code y_Ps_add b_Ps_add 2 none :: tB
theorem q_Ps_add {R : Room} {s : State} {args : Array Value} {rm : Room} (hts : ∀ w ∈ tB, w.before args s = true) (hR : rm.frames + 1 ≤ R.frames ∧ 8 + (2 + 11) + rm.locals ≤ R.locals) : gx_Call R s args y_Ps_add 2 w_Ps_add rm rm.cells rm.slots 1 := gx_co 1 hts k_1_54 k_1_2 (by decide +kernel) hR
abbrev w_Ps_firstOneWith : List Cond := Cond.code y_Ps_firstOneWith b_Ps_firstOneWith 3 (some .int) :: tB
theorem q_Ps_firstOneWith {R : Room} {s : State} {args : Array Value} {rm : Room} (hts : ∀ w ∈ tB, w.before args s = true) (hR : rm.frames + 1 ≤ R.frames ∧ 8 + (3 + 11) + rm.locals ≤ R.locals) : gx_Call R s args y_Ps_firstOneWith 3 w_Ps_firstOneWith rm rm.cells rm.slots 1 := gx_co 1 hts k_1_58 k_1_2 (by decide +kernel) hR
abbrev w_Ps_count : List Cond := Cond.code y_Ps_count b_Ps_count 1 (some .int) :: tB
theorem q_Ps_count {R : Room} {s : State} {args : Array Value} {rm : Room} (hts : ∀ w ∈ tB, w.before args s = true) (hR : rm.frames + 1 ≤ R.frames ∧ 8 + (1 + 11) + rm.locals ≤ R.locals) : gx_Call R s args y_Ps_count 1 w_Ps_count rm rm.cells rm.slots 0 := gx_co 0 hts k_2_186 k_1_2 (by decide +kernel) hR
abbrev w_Ps_given : List Cond := Cond.code y_Ps_given b_Ps_given 1 (some .int) :: tB
theorem q_Ps_given {R : Room} {s : State} {args : Array Value} {rm : Room} (hts : ∀ w ∈ tB, w.before args s = true) (hR : rm.frames + 1 ≤ R.frames ∧ 8 + (1 + 11) + rm.locals ≤ R.locals) : gx_Call R s args y_Ps_given 1 w_Ps_given rm rm.cells rm.slots 0 := gx_co 0 hts k_1_129 k_1_2 (by decide +kernel) hR
abbrev w_Ps_get : List Cond := Cond.code y_Ps_get b_Ps_get 2 (some (.object "CarvedSolids$Plane")) :: tB
theorem q_Ps_get {R : Room} {s : State} {args : Array Value} {rm : Room} (hts : ∀ w ∈ tB, w.before args s = true) (hR : rm.frames + 1 ≤ R.frames ∧ 8 + (2 + 11) + rm.locals ≤ R.locals) : gx_Call R s args y_Ps_get 2 w_Ps_get rm rm.cells rm.slots 1 := gx_co 1 hts k_2_198 k_1_2 (by decide +kernel) hR
abbrev w_Ps_isFirst : List Cond := Cond.code y_Ps_isFirst b_Ps_isFirst 2 (some .boolean) :: tB
theorem q_Ps_isFirst {R : Room} {s : State} {args : Array Value} {rm : Room} (hts : ∀ w ∈ tB, w.before args s = true) (hR : rm.frames + 1 ≤ R.frames ∧ 8 + (2 + 11) + rm.locals ≤ R.locals) : gx_Call R s args y_Ps_isFirst 2 w_Ps_isFirst rm rm.cells rm.slots 1 := gx_co 1 hts k_2_190 k_1_2 (by decide +kernel) hR
abbrev w_Ps_isInBox : List Cond := Cond.code y_Ps_isInBox b_Ps_isInBox 3 (some .boolean) :: tB
theorem q_Ps_isInBox {R : Room} {s : State} {args : Array Value} {rm : Room} (hts : ∀ w ∈ tB, w.before args s = true) (hR : rm.frames + 1 ≤ R.frames ∧ 8 + (3 + 11) + rm.locals ≤ R.locals) : gx_Call R s args y_Ps_isInBox 3 w_Ps_isInBox rm rm.cells rm.slots 1 := gx_co 1 hts k_2_215 k_1_2 (by decide +kernel) hR
abbrev w_Ps_isOnAny : List Cond := Cond.code y_Ps_isOnAny b_Ps_isOnAny 3 (some .boolean) :: tB
theorem q_Ps_isOnAny {R : Room} {s : State} {args : Array Value} {rm : Room} (hts : ∀ w ∈ tB, w.before args s = true) (hR : rm.frames + 1 ≤ R.frames ∧ 8 + (3 + 11) + rm.locals ≤ R.locals) : gx_Call R s args y_Ps_isOnAny 3 w_Ps_isOnAny rm rm.cells rm.slots 1 := gx_co 1 hts k_2_102 k_1_2 (by decide +kernel) hR
abbrev w_Ps_onlyOneAt : List Cond := Cond.code y_Ps_onlyOneAt b_Ps_onlyOneAt 4 (some .int) :: tB
theorem q_Ps_onlyOneAt {R : Room} {s : State} {args : Array Value} {rm : Room} (hts : ∀ w ∈ tB, w.before args s = true) (hR : rm.frames + 1 ≤ R.frames ∧ 8 + (4 + 11) + rm.locals ≤ R.locals) : gx_Call R s args y_Ps_onlyOneAt 4 w_Ps_onlyOneAt rm rm.cells rm.slots 1 := gx_co 1 hts k_2_136 k_1_2 (by decide +kernel) hR
abbrev w_Ps_cellOf : List Cond := Cond.code y_Ps_cellOf b_Ps_cellOf 4 (some .int) :: tB
theorem q_Ps_cellOf {R : Room} {s : State} {args : Array Value} {rm : Room} (hts : ∀ w ∈ tB, w.before args s = true) (hR : rm.frames + 1 ≤ R.frames ∧ 8 + (4 + 11) + rm.locals ≤ R.locals) : gx_Call R s args y_Ps_cellOf 4 w_Ps_cellOf rm rm.cells rm.slots 1 := gx_co 1 hts k_2_110 k_1_2 (by decide +kernel) hR
abbrev w_Ps_cellWhereLess : List Cond := Cond.code y_Ps_cellWhereLess b_Ps_cellWhereLess 3 (some .int) :: tB
theorem q_Ps_cellWhereLess {R : Room} {s : State} {args : Array Value} {rm : Room} (hts : ∀ w ∈ tB, w.before args s = true) (hR : rm.frames + 1 ≤ R.frames ∧ 8 + (3 + 11) + rm.locals ≤ R.locals) : gx_Call R s args y_Ps_cellWhereLess 3 w_Ps_cellWhereLess rm rm.cells rm.slots 2 := gx_co 2 hts k_2_160 k_1_2 (by decide +kernel) hR
abbrev w_Ps_cellWhereMore : List Cond := Cond.code y_Ps_cellWhereMore b_Ps_cellWhereMore 3 (some .int) :: tB
theorem q_Ps_cellWhereMore {R : Room} {s : State} {args : Array Value} {rm : Room} (hts : ∀ w ∈ tB, w.before args s = true) (hR : rm.frames + 1 ≤ R.frames ∧ 8 + (3 + 11) + rm.locals ≤ R.locals) : gx_Call R s args y_Ps_cellWhereMore 3 w_Ps_cellWhereMore rm rm.cells rm.slots 2 := gx_co 2 hts k_2_173 k_1_2 (by decide +kernel) hR
abbrev w_Ps_halfSpacesAlong : List Cond := Cond.code y_Ps_halfSpacesAlong b_Ps_halfSpacesAlong 5 (some .int) :: tB
theorem q_Ps_halfSpacesAlong {R : Room} {s : State} {args : Array Value} {rm : Room} (hts : ∀ w ∈ tB, w.before args s = true) (hR : rm.frames + 1 ≤ R.frames ∧ 8 + (5 + 11) + rm.locals ≤ R.locals) : gx_Call R s args y_Ps_halfSpacesAlong 5 w_Ps_halfSpacesAlong rm rm.cells rm.slots 2 := gx_co 2 hts k_2_165 k_1_2 (by decide +kernel) hR
abbrev w_Pt_init : List Cond := Cond.code y_Pt_init b_Pt_init 1 none :: tB
theorem q_Pt_init {R : Room} {s : State} {args : Array Value} {rm : Room} (hts : ∀ w ∈ tB, w.before args s = true) (hR : rm.frames + 1 ≤ R.frames ∧ 8 + (1 + 11) + rm.locals ≤ R.locals) : gx_Call R s args y_Pt_init 1 w_Pt_init rm rm.cells rm.slots 0 := gx_co 0 hts k_1_90 k_1_5 (by decide +kernel) hR
abbrev w_Pt_place : List Cond := Cond.code y_Pt_place b_Pt_place 9 none :: tB
theorem q_Pt_place {R : Room} {s : State} {args : Array Value} {rm : Room} (hts : ∀ w ∈ tB, w.before args s = true) (hR : rm.frames + 1 ≤ R.frames ∧ 8 + (9 + 11) + rm.locals ≤ R.locals) : gx_Call R s args y_Pt_place 9 w_Pt_place rm rm.cells rm.slots 4 := gx_co 4 hts k_2_98 k_1_5 (by decide +kernel) hR
abbrev w_Pt_placeOnAxis : List Cond := Cond.code y_Pt_placeOnAxis b_Pt_placeOnAxis 14 none :: tB
theorem q_Pt_placeOnAxis {R : Room} {s : State} {args : Array Value} {rm : Room} (hts : ∀ w ∈ tB, w.before args s = true) (hR : rm.frames + 1 ≤ R.frames ∧ 8 + (14 + 11) + rm.locals ≤ R.locals) : gx_Call R s args y_Pt_placeOnAxis 14 w_Pt_placeOnAxis rm rm.cells rm.slots 5 := gx_co 5 hts k_2_206 k_1_5 (by decide +kernel) hR
abbrev w_So_init : List Cond := Cond.code y_So_init b_So_init 1 none :: tB
theorem q_So_init {R : Room} {s : State} {args : Array Value} {rm : Room} (hts : ∀ w ∈ tB, w.before args s = true) (hR : rm.frames + 1 ≤ R.frames ∧ 8 + (1 + 11) + rm.locals ≤ R.locals) : gx_Call R s args y_So_init 1 w_So_init rm rm.cells rm.slots 0 := gx_co 0 hts k_1_79 k_1_4 (by decide +kernel) hR
abbrev w_So_has : List Cond := Cond.code y_So_has b_So_has 2 (some .boolean) :: tB
theorem q_So_has {R : Room} {s : State} {args : Array Value} {rm : Room} (hts : ∀ w ∈ tB, w.before args s = true) (hR : rm.frames + 1 ≤ R.frames ∧ 8 + (2 + 11) + rm.locals ≤ R.locals) : gx_Call R s args y_So_has 2 w_So_has rm rm.cells rm.slots 1 := gx_co 1 hts k_2_124 k_1_4 (by decide +kernel) hR
abbrev w_So_becomeConvex : List Cond := Cond.code y_So_becomeConvex b_So_becomeConvex 3 none :: tB
theorem q_So_becomeConvex {R : Room} {s : State} {args : Array Value} {rm : Room} (hts : ∀ w ∈ tB, w.before args s = true) (hR : rm.frames + 1 ≤ R.frames ∧ 8 + (3 + 11) + rm.locals ≤ R.locals) : gx_Call R s args y_So_becomeConvex 3 w_So_becomeConvex rm rm.cells rm.slots 1 := gx_co 1 hts k_2_14 k_1_4 (by decide +kernel) hR
abbrev w_So_becomeLike : List Cond := Cond.code y_So_becomeLike b_So_becomeLike 3 none :: tB
theorem q_So_becomeLike {R : Room} {s : State} {args : Array Value} {rm : Room} (hts : ∀ w ∈ tB, w.before args s = true) (hR : rm.frames + 1 ≤ R.frames ∧ 8 + (3 + 11) + rm.locals ≤ R.locals) : gx_Call R s args y_So_becomeLike 3 w_So_becomeLike rm rm.cells rm.slots 1 := gx_co 1 hts k_2_75 k_1_4 (by decide +kernel) hR
abbrev w_So_becomeItsRest : List Cond := Cond.code y_So_becomeItsRest b_So_becomeItsRest 2 none :: tB
theorem q_So_becomeItsRest {R : Room} {s : State} {args : Array Value} {rm : Room} (hts : ∀ w ∈ tB, w.before args s = true) (hR : rm.frames + 1 ≤ R.frames ∧ 8 + (2 + 11) + rm.locals ≤ R.locals) : gx_Call R s args y_So_becomeItsRest 2 w_So_becomeItsRest rm rm.cells rm.slots 0 := gx_co 0 hts k_2_47 k_1_4 (by decide +kernel) hR
abbrev w_So_joinWith : List Cond := Cond.code y_So_joinWith b_So_joinWith 4 none :: tB
theorem q_So_joinWith {R : Room} {s : State} {args : Array Value} {rm : Room} (hts : ∀ w ∈ tB, w.before args s = true) (hR : rm.frames + 1 ≤ R.frames ∧ 8 + (4 + 11) + rm.locals ≤ R.locals) : gx_Call R s args y_So_joinWith 4 w_So_joinWith rm rm.cells rm.slots 2 := gx_co 2 hts k_2_27 k_1_4 (by decide +kernel) hR
abbrev w_So_joined : List Cond := Cond.code y_So_joined b_So_joined 5 (some .long) :: tB
theorem q_So_joined {R : Room} {s : State} {args : Array Value} {rm : Room} (hts : ∀ w ∈ tB, w.before args s = true) (hR : rm.frames + 1 ≤ R.frames ∧ 8 + (5 + 11) + rm.locals ≤ R.locals) : gx_Call R s args y_So_joined 5 w_So_joined rm rm.cells rm.slots 3 := gx_co 3 hts k_2_30 k_1_4 (by decide +kernel) hR
abbrev w_La_plane : List Cond := Cond.codeWith y_La_plane b_La_plane 7 (some .int) [(0, 14, 17, 13), (0, 14, 21, 15)] :: tB
theorem q_La_plane {R : Room} {s : State} {args : Array Value} {rm : Room} (hts : ∀ w ∈ tB, w.before args s = true) (hR : rm.frames + 1 ≤ R.frames ∧ 8 + (7 + 11) + rm.locals ≤ R.locals) : gx_Call R s args y_La_plane 7 w_La_plane rm rm.cells rm.slots 6 := gx_coW 6 hts k_1_136 k_1_0 (by decide +kernel) hR
abbrev w_La_convex : List Cond := Cond.codeWith y_La_convex b_La_convex 4 (some .int) [(0, 9, 12, 13), (0, 9, 15, 15)] :: tB
theorem q_La_convex {R : Room} {s : State} {args : Array Value} {rm : Room} (hts : ∀ w ∈ tB, w.before args s = true) (hR : rm.frames + 1 ≤ R.frames ∧ 8 + (4 + 11) + rm.locals ≤ R.locals) : gx_Call R s args y_La_convex 4 w_La_convex rm rm.cells rm.slots 3 := gx_coW 3 hts k_2_0 k_1_0 (by decide +kernel) hR
abbrev w_La_join : List Cond := Cond.codeWith y_La_join b_La_join 4 (some .int) [(0, 9, 12, 13), (0, 9, 15, 15)] :: tB
theorem q_La_join {R : Room} {s : State} {args : Array Value} {rm : Room} (hts : ∀ w ∈ tB, w.before args s = true) (hR : rm.frames + 1 ≤ R.frames ∧ 8 + (4 + 11) + rm.locals ≤ R.locals) : gx_Call R s args y_La_join 4 w_La_join rm rm.cells rm.slots 3 := gx_coW 3 hts k_2_17 k_1_0 (by decide +kernel) hR
abbrev w_La_turn : List Cond := Cond.codeWith y_La_turn b_La_turn 2 (some .int) [(0, 4, 7, 15)] :: tB
theorem q_La_turn {R : Room} {s : State} {args : Array Value} {rm : Room} (hts : ∀ w ∈ tB, w.before args s = true) (hR : rm.frames + 1 ≤ R.frames ∧ 8 + (2 + 11) + rm.locals ≤ R.locals) : gx_Call R s args y_La_turn 2 w_La_turn rm rm.cells rm.slots 1 := gx_coW 1 hts k_2_34 k_1_0 (by decide +kernel) hR
abbrev w_La_copy : List Cond := Cond.codeWith y_La_copy b_La_copy 4 (some .int) [(0, 9, 12, 30), (0, 9, 15, 15)] :: tB
theorem q_La_copy {R : Room} {s : State} {args : Array Value} {rm : Room} (hts : ∀ w ∈ tB, w.before args s = true) (hR : rm.frames + 1 ≤ R.frames ∧ 8 + (4 + 11) + rm.locals ≤ R.locals) : gx_Call R s args y_La_copy 4 w_La_copy rm rm.cells rm.slots 3 := gx_coW 3 hts k_2_50 k_1_0 (by decide +kernel) hR
abbrev w_La_drop : List Cond := Cond.codeWith y_La_drop b_La_drop 3 (some .int) [(0, 8, 11, 15)] :: tB
theorem q_La_drop {R : Room} {s : State} {args : Array Value} {rm : Room} (hts : ∀ w ∈ tB, w.before args s = true) (hR : rm.frames + 1 ≤ R.frames ∧ 8 + (3 + 11) + rm.locals ≤ R.locals) : gx_Call R s args y_La_drop 3 w_La_drop rm rm.cells rm.slots 2 := gx_coW 2 hts k_2_78 k_1_0 (by decide +kernel) hR
abbrev w_La_inside : List Cond := Cond.codeWith y_La_inside b_La_inside 7 (some .int) [(0, 14, 17, 13), (0, 14, 21, 15)] :: tB
theorem q_La_inside {R : Room} {s : State} {args : Array Value} {rm : Room} (hts : ∀ w ∈ tB, w.before args s = true) (hR : rm.frames + 1 ≤ R.frames ∧ 8 + (7 + 11) + rm.locals ≤ R.locals) : gx_Call R s args y_La_inside 7 w_La_inside rm rm.cells rm.slots 6 := gx_coW 6 hts k_2_85 k_1_0 (by decide +kernel) hR
abbrev w_La_side : List Cond := Cond.codeWith y_La_side b_La_side 7 (some .int) [(0, 14, 17, 13), (0, 14, 21, 15), (0, 14, 25, 42)] :: tB
theorem q_La_side {R : Room} {s : State} {args : Array Value} {rm : Room} (hts : ∀ w ∈ tB, w.before args s = true) (hR : rm.frames + 1 ≤ R.frames ∧ 8 + (7 + 11) + rm.locals ≤ R.locals) : gx_Call R s args y_La_side 7 w_La_side rm rm.cells rm.slots 6 := gx_coW 6 hts k_2_127 k_1_0 (by decide +kernel) hR
abbrev w_La_enters : List Cond := Cond.codeWith y_La_enters b_La_enters 6 (some .int) [(0, 12, 15, 13), (0, 12, 19, 15), (0, 12, 23, 42)] :: tB
theorem q_La_enters {R : Room} {s : State} {args : Array Value} {rm : Room} (hts : ∀ w ∈ tB, w.before args s = true) (hR : rm.frames + 1 ≤ R.frames ∧ 8 + (6 + 11) + rm.locals ≤ R.locals) : gx_Call R s args y_La_enters 6 w_La_enters rm rm.cells rm.slots 5 := gx_coW 5 hts k_2_176 k_1_0 (by decide +kernel) hR
abbrev xS : List (Nat × String) := [(36, "a, b and c are all 0"), (46, "a, b and c go from -1000000 to 1000000"), (49, "d goes from -1000000000 to 1000000000"), (57, "eight planes are given"), (69, "the set has a plane that is not given"), (189, "there are six solids"), (78, "solids are joined in the ways 0 to 3"), (80, "there are not two solids"), (191, "there is no solid"), (94, "there is no such solid"), (193, "w goes from 1 to 1000"), (195, "x, y and z go from -1000000 to 1000000"), (125, "the point is not on a side"), (132, "the axes are 0, 1 and 2"), (134, "u and v go from -999 to 999"), (171, "the line has a point of the box on two planes")]
abbrev xE : List String := [R_IA, R_IS, R_IO, R_NS]
abbrev xD : List MethodName := [⟨"java/lang/Exception", "<init>", "()V"⟩, ⟨"java/lang/Exception", "<init>", "(Ljava/lang/String;)V"⟩, ⟨"java/lang/RuntimeException", "<init>", "()V"⟩, ⟨"java/lang/RuntimeException", "<init>", "(Ljava/lang/String;)V"⟩, ⟨"java/lang/Throwable", "<init>", "()V"⟩, ⟨"java/lang/Throwable", "<init>", "(Ljava/lang/String;)V"⟩]
/-- what a state has beside its world: links between nest mates, the exceptions' classes, two statics, the messages -/
def xF (b0 : Nat) (U : State) : Prop :=
  (∀ q ∈ [(22, "x"), (27, "y"), (30, "z"), (33, "w")], va_Nw (.fieldLinkNest R_Pl q.1 R_Pt q.2 "J" R_X) U) ∧ va_Nw (.methodLinkNest R_X 25 y_Pt_init R_X) U ∧ (va_AO R_Pl U ∧ va_AO R_So U) ∧
  (∀ E ∈ xE, va_Nw (.castable E E) U) ∧ (∀ E ∈ xE, ∀ F ∈ xE, E ≠ F → va_Nc E F U) ∧ (∀ y ∈ xD, va_Nw (.declares y) U) ∧
  (vx_Zq Bundle.tN "UNASSIGNED_STACK" Bundle.steD (fun q => b0 ≤ q) U U.heap ∧ vx_Zq Bundle.tN "SUPPRESSED_SENTINEL" Bundle.listD (fun q => b0 ≤ q) U U.heap) ∧ ∀ q ∈ xS, ∃ a, vk_R R_X q.1 q.2 a U
theorem xF_ok (b0 : Nat) : gh_X b0 (xF b0) := by
  intro U V hW hb hq h
  obtain ⟨h1, h2, ⟨h3, h4⟩, h5, h6, h7, ⟨h8, h9⟩, h10⟩ := h
  have hk : ∀ a : Nat, a < U.heap.size → ¬ b0 ≤ a → V.heap[a]? = U.heap[a]? := fun a _ ha => hq a (by omega)
  refine ⟨fun q hq => va_Nw.warmF hW (h1 q hq), va_Nw.warmM hW h2, ⟨va_AO.moved hW.alike h3, va_AO.moved hW.alike h4⟩, fun E hE => va_Nw.warmC hW (h5 E hE), fun E hE F hF hn => va_Nc.moved hW.alike (h6 E hE F hF hn), fun y hy => va_Nw.warmD hW (h7 y hy), ⟨vx_Zq.moved hW.alike (h8.kept hk), vx_Zq.moved hW.alike (h9.kept hk)⟩, fun q hq => ?_⟩
  obtain ⟨a, ha⟩ := h10 q hq
  exact ⟨a, vk_R.warm hW ha⟩
abbrev tZ (cI cJ cP cS : ClassId) : List (ClassId × FieldType) := [(cI, .int), (cJ, .long), (cP, .object R_Pl), (cS, .object R_So)]
