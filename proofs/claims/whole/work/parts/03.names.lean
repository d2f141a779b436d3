/-! The names: by program out of the listing. -/
def R_X : String := "CarvedSolids"
def T_X : u_T := fun k => match k with
  | 0 => ("CarvedSolids", "space", "LCarvedSolids$Planes;", true)
  | 1 => ("CarvedSolids", "stack", "[LCarvedSolids$Solid;", true)
  | 2 => ("CarvedSolids", "spot", "LCarvedSolids$Point;", true)
  | _ => ("CarvedSolids", "height", "I", false)
def t_X : Nat → FieldType := fun k => match k with
  | 0 => .object "CarvedSolids$Planes"
  | 1 => .array (.object "CarvedSolids$Solid")
  | 2 => .object "CarvedSolids$Point"
  | _ => .int
theorem nm_X : ∀ a, a < 4 → ∀ b, b < 4 → a ≠ b → (T_X a).2.1 ≠ (T_X b).2.1 := by decide +kernel
theorem ty_X : ∀ k, k < 4 → parseFieldDescriptor (T_X k).2.2.1 = some (t_X k) := by decide +kernel
def R_Pl : String := "CarvedSolids$Plane"
def T_Pl : u_T := fun k => match k with
  | 0 => ("CarvedSolids$Plane", "a", "J", true)
  | 1 => ("CarvedSolids$Plane", "b", "J", true)
  | 2 => ("CarvedSolids$Plane", "c", "J", true)
  | _ => ("CarvedSolids$Plane", "d", "J", true)
def t_Pl : Nat → FieldType := fun k => match k with
  | 0 => .long
  | 1 => .long
  | 2 => .long
  | _ => .long
theorem nm_Pl : ∀ a, a < 4 → ∀ b, b < 4 → a ≠ b → (T_Pl a).2.1 ≠ (T_Pl b).2.1 := by decide +kernel
theorem ty_Pl : ∀ k, k < 4 → parseFieldDescriptor (T_Pl k).2.2.1 = some (t_Pl k) := by decide +kernel
def R_Ps : String := "CarvedSolids$Planes"
def T_Ps : u_T := fun k => match k with
  | 0 => ("CarvedSolids$Planes", "all", "[LCarvedSolids$Plane;", true)
  | 1 => ("CarvedSolids$Planes", "first", "[I", true)
  | _ => ("CarvedSolids$Planes", "count", "I", false)
def t_Ps : Nat → FieldType := fun k => match k with
  | 0 => .array (.object "CarvedSolids$Plane")
  | 1 => .array (.int)
  | _ => .int
theorem nm_Ps : ∀ a, a < 3 → ∀ b, b < 3 → a ≠ b → (T_Ps a).2.1 ≠ (T_Ps b).2.1 := by decide +kernel
theorem ty_Ps : ∀ k, k < 3 → parseFieldDescriptor (T_Ps k).2.2.1 = some (t_Ps k) := by decide +kernel
def R_Pt : String := "CarvedSolids$Point"
def T_Pt : u_T := fun k => match k with
  | 0 => ("CarvedSolids$Point", "x", "J", false)
  | 1 => ("CarvedSolids$Point", "y", "J", false)
  | 2 => ("CarvedSolids$Point", "z", "J", false)
  | _ => ("CarvedSolids$Point", "w", "J", false)
def t_Pt : Nat → FieldType := fun k => match k with
  | 0 => .long
  | 1 => .long
  | 2 => .long
  | _ => .long
theorem nm_Pt : ∀ a, a < 4 → ∀ b, b < 4 → a ≠ b → (T_Pt a).2.1 ≠ (T_Pt b).2.1 := by decide +kernel
theorem ty_Pt : ∀ k, k < 4 → parseFieldDescriptor (T_Pt k).2.2.1 = some (t_Pt k) := by decide +kernel
def R_So : String := "CarvedSolids$Solid"
def T_So : u_T := fun k => match k with
  | _ => ("CarvedSolids$Solid", "words", "[J", true)
def t_So : Nat → FieldType := fun k => match k with
  | _ => .array (.long)
theorem nm_So : ∀ a, a < 1 → ∀ b, b < 1 → a ≠ b → (T_So a).2.1 ≠ (T_So b).2.1 := by decide +kernel
theorem ty_So : ∀ k, k < 1 → parseFieldDescriptor (T_So k).2.2.1 = some (t_So k) := by decide +kernel
def R_Mo : String := "CarvedSolidsModel"
def T_Mo : u_T := fun k => match k with
  | 0 => ("CarvedSolidsModel", "thrown", "I", false)
  | 1 => ("CarvedSolidsModel", "given", "I", false)
  | 2 => ("CarvedSolidsModel", "normals", "[I", true)
  | 3 => ("CarvedSolidsModel", "far", "[I", true)
  | 4 => ("CarvedSolidsModel", "many", "I", false)
  | 5 => ("CarvedSolidsModel", "has", "[J", true)
  | 6 => ("CarvedSolidsModel", "values", "[J", true)
  | 7 => ("CarvedSolidsModel", "tops", "[J", true)
  | _ => ("CarvedSolidsModel", "downs", "[J", true)
def t_Mo : Nat → FieldType := fun k => match k with
  | 0 => .int
  | 1 => .int
  | 2 => .array (.int)
  | 3 => .array (.int)
  | 4 => .int
  | 5 => .array (.long)
  | 6 => .array (.long)
  | 7 => .array (.long)
  | _ => .array (.long)
theorem nm_Mo : ∀ a, a < 9 → ∀ b, b < 9 → a ≠ b → (T_Mo a).2.1 ≠ (T_Mo b).2.1 := by decide +kernel
theorem ty_Mo : ∀ k, k < 9 → parseFieldDescriptor (T_Mo k).2.2.1 = some (t_Mo k) := by decide +kernel
def T_0 : u_T := fun _ => ("", "", "", false)
def R_IA : String := "java/lang/IllegalArgumentException"
def R_IS : String := "java/lang/IllegalStateException"
def R_IO : String := "java/lang/IndexOutOfBoundsException"
def R_NS : String := "java/util/NoSuchElementException"
def R_La : String := "CarvedSolidsLaw"
/-- the classes whose objects the worlds hold -/
abbrev vC : List vw_C := [(R_X, T_X, 4), (R_Pl, T_Pl, 4), (R_Ps, T_Ps, 3), (R_Pt, T_Pt, 4), (R_So, T_So, 1), (R_Mo, T_Mo, 9), (R_IA, T_0, 0), (R_IS, T_0, 0), (R_IO, T_0, 0), (R_NS, T_0, 0)]
abbrev b_X_init : ByteArray := prog_1_method_1_code
def y_X_init : MethodName := ⟨R_X, "<init>", "()V"⟩
abbrev b_X_plane : ByteArray := prog_1_method_2_code
def y_X_plane : MethodName := ⟨R_X, "plane", "(IIII)I"⟩
abbrev b_X_planes : ByteArray := prog_1_method_3_code
def y_X_planes : MethodName := ⟨R_X, "planes", "()I"⟩
abbrev b_X_convex : ByteArray := prog_1_method_4_code
def y_X_convex : MethodName := ⟨R_X, "convex", "(I)I"⟩
abbrev b_X_join : ByteArray := prog_1_method_5_code
def y_X_join : MethodName := ⟨R_X, "join", "(I)I"⟩
abbrev b_X_turn : ByteArray := prog_1_method_6_code
def y_X_turn : MethodName := ⟨R_X, "turn", "()V"⟩
abbrev b_X_copy : ByteArray := prog_1_method_7_code
def y_X_copy : MethodName := ⟨R_X, "copy", "(I)I"⟩
abbrev b_X_drop : ByteArray := prog_1_method_8_code
def y_X_drop : MethodName := ⟨R_X, "drop", "()I"⟩
abbrev b_X_solids : ByteArray := prog_1_method_9_code
def y_X_solids : MethodName := ⟨R_X, "solids", "()I"⟩
abbrev b_X_inside : ByteArray := prog_1_method_10_code
def y_X_inside : MethodName := ⟨R_X, "inside", "(IIII)I"⟩
abbrev b_X_side : ByteArray := prog_1_method_11_code
def y_X_side : MethodName := ⟨R_X, "side", "(IIII)I"⟩
abbrev b_X_enters : ByteArray := prog_1_method_12_code
def y_X_enters : MethodName := ⟨R_X, "enters", "(III)I"⟩
abbrev b_X_isEntry : ByteArray := prog_1_method_13_code
def y_X_isEntry : MethodName := ⟨R_X, "isEntry", "(IIII)Z"⟩
abbrev b_X_lookAtSpot : ByteArray := prog_1_method_14_code
def y_X_lookAtSpot : MethodName := ⟨R_X, "lookAtSpot", "(I)I"⟩
abbrev b_X_topHas : ByteArray := prog_1_method_15_code
def y_X_topHas : MethodName := ⟨R_X, "topHas", "(I)Z"⟩
abbrev b_X_requireRoom : ByteArray := prog_1_method_16_code
def y_X_requireRoom : MethodName := ⟨R_X, "requireRoom", "()V"⟩
abbrev b_X_requireSolid : ByteArray := prog_1_method_17_code
def y_X_requireSolid : MethodName := ⟨R_X, "requireSolid", "()V"⟩
abbrev b_X_requirePoint : ByteArray := prog_1_method_18_code
def y_X_requirePoint : MethodName := ⟨R_X, "requirePoint", "(IIII)V"⟩
abbrev b_X_isBeyond : ByteArray := prog_1_method_19_code
def y_X_isBeyond : MethodName := ⟨R_X, "isBeyond", "(II)Z"⟩
abbrev b_Mo_init : ByteArray := prog_7_method_1_code
def y_Mo_init : MethodName := ⟨R_Mo, "<init>", "()V"⟩
abbrev b_Mo_thrown : ByteArray := prog_7_method_2_code
def y_Mo_thrown : MethodName := ⟨R_Mo, "thrown", "()I"⟩
abbrev b_Mo_within : ByteArray := prog_7_method_3_code
def y_Mo_within : MethodName := ⟨R_Mo, "within", "(II)Z"⟩
abbrev b_Mo_plane : ByteArray := prog_7_method_4_code
def y_Mo_plane : MethodName := ⟨R_Mo, "plane", "(IIII)I"⟩
abbrev b_Mo_planes : ByteArray := prog_7_method_5_code
def y_Mo_planes : MethodName := ⟨R_Mo, "planes", "()I"⟩
abbrev b_Mo_convex : ByteArray := prog_7_method_6_code
def y_Mo_convex : MethodName := ⟨R_Mo, "convex", "(I)I"⟩
abbrev b_Mo_join : ByteArray := prog_7_method_7_code
def y_Mo_join : MethodName := ⟨R_Mo, "join", "(I)I"⟩
abbrev b_Mo_turn : ByteArray := prog_7_method_8_code
def y_Mo_turn : MethodName := ⟨R_Mo, "turn", "()V"⟩
abbrev b_Mo_copy : ByteArray := prog_7_method_9_code
def y_Mo_copy : MethodName := ⟨R_Mo, "copy", "(I)I"⟩
abbrev b_Mo_drop : ByteArray := prog_7_method_10_code
def y_Mo_drop : MethodName := ⟨R_Mo, "drop", "()I"⟩
abbrev b_Mo_solids : ByteArray := prog_7_method_11_code
def y_Mo_solids : MethodName := ⟨R_Mo, "solids", "()I"⟩
abbrev b_Mo_topHas : ByteArray := prog_7_method_12_code
def y_Mo_topHas : MethodName := ⟨R_Mo, "topHas", "(I)Z"⟩
abbrev b_Mo_isPoint : ByteArray := prog_7_method_13_code
def y_Mo_isPoint : MethodName := ⟨R_Mo, "isPoint", "(IIII)Z"⟩
abbrev b_Mo_look : ByteArray := prog_7_method_14_code
def y_Mo_look : MethodName := ⟨R_Mo, "look", "(IIII)V"⟩
abbrev b_Mo_lies : ByteArray := prog_7_method_15_code
def y_Mo_lies : MethodName := ⟨R_Mo, "lies", "(II)I"⟩
abbrev b_Mo_choice : ByteArray := prog_7_method_16_code
def y_Mo_choice : MethodName := ⟨R_Mo, "choice", "()I"⟩
abbrev b_Mo_isOnGiven : ByteArray := prog_7_method_17_code
def y_Mo_isOnGiven : MethodName := ⟨R_Mo, "isOnGiven", "()Z"⟩
abbrev b_Mo_inside : ByteArray := prog_7_method_18_code
def y_Mo_inside : MethodName := ⟨R_Mo, "inside", "(IIII)I"⟩
abbrev b_Mo_normal : ByteArray := prog_7_method_19_code
def y_Mo_normal : MethodName := ⟨R_Mo, "normal", "(II)I"⟩
abbrev b_Mo_alike : ByteArray := prog_7_method_20_code
def y_Mo_alike : MethodName := ⟨R_Mo, "alike", "(II)I"⟩
abbrev b_Mo_choiceAt : ByteArray := prog_7_method_21_code
def y_Mo_choiceAt : MethodName := ⟨R_Mo, "choiceAt", "(IZ)I"⟩
abbrev b_Mo_sideOf : ByteArray := prog_7_method_22_code
def y_Mo_sideOf : MethodName := ⟨R_Mo, "sideOf", "(IIII)I"⟩
abbrev b_Mo_side : ByteArray := prog_7_method_23_code
def y_Mo_side : MethodName := ⟨R_Mo, "side", "(IIII)I"⟩
abbrev b_Mo_compare : ByteArray := prog_7_method_24_code
def y_Mo_compare : MethodName := ⟨R_Mo, "compare", "(JJJJ)I"⟩
abbrev b_Mo_meet : ByteArray := prog_7_method_25_code
def y_Mo_meet : MethodName := ⟨R_Mo, "meet", "(III)Z"⟩
abbrev b_Mo_isInBox : ByteArray := prog_7_method_26_code
def y_Mo_isInBox : MethodName := ⟨R_Mo, "isInBox", "(I)Z"⟩
abbrev b_Mo_isCrossed : ByteArray := prog_7_method_27_code
def y_Mo_isCrossed : MethodName := ⟨R_Mo, "isCrossed", "(I)Z"⟩
abbrev b_Mo_choiceBehind : ByteArray := prog_7_method_28_code
def y_Mo_choiceBehind : MethodName := ⟨R_Mo, "choiceBehind", "(IJJ)I"⟩
abbrev b_Mo_enters : ByteArray := prog_7_method_29_code
def y_Mo_enters : MethodName := ⟨R_Mo, "enters", "(III)I"⟩
abbrev b_Pl_init : ByteArray := prog_2_method_1_code
def y_Pl_init : MethodName := ⟨R_Pl, "<init>", "(JJJJ)V"⟩
abbrev b_Pl_factor : ByteArray := prog_2_method_2_code
def y_Pl_factor : MethodName := ⟨R_Pl, "factor", "(I)J"⟩
abbrev b_Pl_excess : ByteArray := prog_2_method_3_code
def y_Pl_excess : MethodName := ⟨R_Pl, "excess", "(LCarvedSolids$Point;)J"⟩
abbrev b_Pl_isOneWith : ByteArray := prog_2_method_4_code
def y_Pl_isOneWith : MethodName := ⟨R_Pl, "isOneWith", "(LCarvedSolids$Plane;)Z"⟩
abbrev b_Pl_looksLike : ByteArray := prog_2_method_5_code
def y_Pl_looksLike : MethodName := ⟨R_Pl, "looksLike", "(LCarvedSolids$Plane;)Z"⟩
abbrev b_Ps_init : ByteArray := prog_3_method_1_code
def y_Ps_init : MethodName := ⟨R_Ps, "<init>", "()V"⟩
abbrev b_Ps_isCellInBox : ByteArray := prog_3_method_2_code
def y_Ps_isCellInBox : MethodName := ⟨R_Ps, "isCellInBox", "(I)Z"⟩
abbrev b_Ps_givenOfCell : ByteArray := prog_3_method_3_code
def y_Ps_givenOfCell : MethodName := ⟨R_Ps, "givenOfCell", "(I)I"⟩
abbrev b_Ps_add : ByteArray := prog_3_method_4_code
def y_Ps_add : MethodName := ⟨R_Ps, "add", "(LCarvedSolids$Plane;)V"⟩
abbrev b_Ps_firstOneWith : ByteArray := prog_3_method_5_code
def y_Ps_firstOneWith : MethodName := ⟨R_Ps, "firstOneWith", "(LCarvedSolids$Plane;)I"⟩
abbrev b_Ps_count : ByteArray := prog_3_method_6_code
def y_Ps_count : MethodName := ⟨R_Ps, "count", "()I"⟩
abbrev b_Ps_given : ByteArray := prog_3_method_7_code
def y_Ps_given : MethodName := ⟨R_Ps, "given", "()I"⟩
abbrev b_Ps_get : ByteArray := prog_3_method_8_code
def y_Ps_get : MethodName := ⟨R_Ps, "get", "(I)LCarvedSolids$Plane;"⟩
abbrev b_Ps_isFirst : ByteArray := prog_3_method_9_code
def y_Ps_isFirst : MethodName := ⟨R_Ps, "isFirst", "(I)Z"⟩
abbrev b_Ps_isInBox : ByteArray := prog_3_method_10_code
def y_Ps_isInBox : MethodName := ⟨R_Ps, "isInBox", "(LCarvedSolids$Point;)Z"⟩
abbrev b_Ps_isOnAny : ByteArray := prog_3_method_11_code
def y_Ps_isOnAny : MethodName := ⟨R_Ps, "isOnAny", "(LCarvedSolids$Point;)Z"⟩
abbrev b_Ps_onlyOneAt : ByteArray := prog_3_method_12_code
def y_Ps_onlyOneAt : MethodName := ⟨R_Ps, "onlyOneAt", "(LCarvedSolids$Point;)I"⟩
abbrev b_Ps_cellOf : ByteArray := prog_3_method_13_code
def y_Ps_cellOf : MethodName := ⟨R_Ps, "cellOf", "(LCarvedSolids$Point;)I"⟩
abbrev b_Ps_cellWhereLess : ByteArray := prog_3_method_14_code
def y_Ps_cellWhereLess : MethodName := ⟨R_Ps, "cellWhereLess", "(LCarvedSolids$Point;I)I"⟩
abbrev b_Ps_cellWhereMore : ByteArray := prog_3_method_15_code
def y_Ps_cellWhereMore : MethodName := ⟨R_Ps, "cellWhereMore", "(LCarvedSolids$Point;I)I"⟩
abbrev b_Ps_halfSpacesAlong : ByteArray := prog_3_method_16_code
def y_Ps_halfSpacesAlong : MethodName := ⟨R_Ps, "halfSpacesAlong", "(IZ)I"⟩
abbrev b_Pt_init : ByteArray := prog_4_method_1_code
def y_Pt_init : MethodName := ⟨R_Pt, "<init>", "()V"⟩
abbrev b_Pt_place : ByteArray := prog_4_method_2_code
def y_Pt_place : MethodName := ⟨R_Pt, "place", "(JJJJ)V"⟩
abbrev b_Pt_placeOnAxis : ByteArray := prog_4_method_3_code
def y_Pt_placeOnAxis : MethodName := ⟨R_Pt, "placeOnAxis", "(IJJJJ)V"⟩
abbrev b_So_init : ByteArray := prog_5_method_1_code
def y_So_init : MethodName := ⟨R_So, "<init>", "()V"⟩
abbrev b_So_has : ByteArray := prog_5_method_2_code
def y_So_has : MethodName := ⟨R_So, "has", "(I)Z"⟩
abbrev b_So_becomeConvex : ByteArray := prog_5_method_3_code
def y_So_becomeConvex : MethodName := ⟨R_So, "becomeConvex", "(I)V"⟩
abbrev b_So_becomeLike : ByteArray := prog_5_method_4_code
def y_So_becomeLike : MethodName := ⟨R_So, "becomeLike", "(LCarvedSolids$Solid;)V"⟩
abbrev b_So_becomeItsRest : ByteArray := prog_5_method_5_code
def y_So_becomeItsRest : MethodName := ⟨R_So, "becomeItsRest", "()V"⟩
abbrev b_So_joinWith : ByteArray := prog_5_method_6_code
def y_So_joinWith : MethodName := ⟨R_So, "joinWith", "(LCarvedSolids$Solid;I)V"⟩
abbrev b_So_joined : ByteArray := prog_5_method_7_code
def y_So_joined : MethodName := ⟨R_So, "joined", "(JJI)J"⟩
abbrev b_La_plane : ByteArray := method_3_code
def y_La_plane : MethodName := ⟨R_La, "plane", "(LCarvedSolids;IIII[J)I"⟩
abbrev b_La_convex : ByteArray := method_4_code
def y_La_convex : MethodName := ⟨R_La, "convex", "(LCarvedSolids;I[J)I"⟩
abbrev b_La_join : ByteArray := method_5_code
def y_La_join : MethodName := ⟨R_La, "join", "(LCarvedSolids;I[J)I"⟩
abbrev b_La_turn : ByteArray := method_6_code
def y_La_turn : MethodName := ⟨R_La, "turn", "(LCarvedSolids;)I"⟩
abbrev b_La_copy : ByteArray := method_7_code
def y_La_copy : MethodName := ⟨R_La, "copy", "(LCarvedSolids;I[J)I"⟩
abbrev b_La_drop : ByteArray := method_8_code
def y_La_drop : MethodName := ⟨R_La, "drop", "(LCarvedSolids;[J)I"⟩
abbrev b_La_inside : ByteArray := method_9_code
def y_La_inside : MethodName := ⟨R_La, "inside", "(LCarvedSolids;IIII[J)I"⟩
abbrev b_La_side : ByteArray := method_10_code
def y_La_side : MethodName := ⟨R_La, "side", "(LCarvedSolids;IIII[J)I"⟩
abbrev b_La_enters : ByteArray := method_11_code
def y_La_enters : MethodName := ⟨R_La, "enters", "(LCarvedSolids;III[J)I"⟩
abbrev b_La_law : ByteArray := code
def y_La_law : MethodName := ⟨R_La, "law", "([I)Z"⟩
/-- the words of the tables that stay good -/
def tB : List Cond := lw_tbl.filter goodWord
theorem mB {w : Cond} (h : w ∈ lw_tbl) (g : goodWord w = true) : w ∈ tB := List.mem_filter.mpr ⟨h, g⟩
theorem mB1 (i : Nat) {w : Cond} (h : tables_1_1[i]? = some w) (g : goodWord w = true) : w ∈ tB := mB (List.mem_append_right _ (List.mem_append_left _ (List.mem_of_getElem? h))) g
theorem mB2 (i : Nat) {w : Cond} (h : tables_1_2[i]? = some w) (g : goodWord w = true) : w ∈ tB := mB (List.mem_append_right _ (List.mem_append_right _ (List.mem_append_left _ (List.mem_of_getElem? h)))) g
theorem mB3 (i : Nat) {w : Cond} (h : tables_1_3[i]? = some w) (g : goodWord w = true) : w ∈ tB := mB (List.mem_append_right _ (List.mem_append_right _ (List.mem_append_right _ (List.mem_of_getElem? h)))) g
theorem mBs (i : Nat) {y : MethodName} {n : Nat} (h : lw_privs[i]? = some (y, n)) : Cond.selects y.cls y y ∈ tB := mB (List.mem_append_left _ (List.mem_map.mpr ⟨(y, n), List.mem_of_getElem? h, rfl⟩)) rfl
theorem good_tB : ∀ w ∈ tB, (w.onTables && w.keeps) = true ∨ ∃ ty, w = .arrayClass ty := fun w h => good_of_word (List.mem_filter.mp h).2
