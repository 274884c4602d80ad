/-! Names: classes, fields, methods, words. -/
def RX0 : String := "RefinedSpline$Chords"
def TX0 : u_T := fun k => match k with
  | 0 => ("RefinedSpline$Chords", "size", "I", false)
  | 1 => ("RefinedSpline$Chords", "how", "I", false)
  | 2 => ("RefinedSpline$Chords", "tolerance", "I", false)
  | 3 => ("RefinedSpline$Chords", "vertices", "[I", true)
  | 4 => ("RefinedSpline$Chords", "across", "[I", true)
  | _ => ("RefinedSpline$Chords", "up", "[I", true)
def tyX0 : Nat → FieldType := fun k => match k with
  | 0 => .int
  | 1 => .int
  | 2 => .int
  | 3 => .array .int
  | 4 => .array .int
  | _ => .array .int
theorem nmX0 : ∀ a, a < 6 → ∀ b, b < 6 → a ≠ b → (TX0 a).2.1 ≠ (TX0 b).2.1 := by decide +kernel
theorem tyX0_ok : ∀ k, k < 6 → parseFieldDescriptor (TX0 k).2.2.1 = some (tyX0 k) := by decide +kernel
def RX1 : String := "RefinedSpline$Curve"
def TX1 : u_T := fun k => match k with
  | 0 => ("RefinedSpline$Curve", "degree", "I", false)
  | 1 => ("RefinedSpline$Curve", "count", "I", false)
  | 2 => ("RefinedSpline$Curve", "knots", "[I", true)
  | 3 => ("RefinedSpline$Curve", "rows", "[[J", true)
  | 4 => ("RefinedSpline$Curve", "across", "I", false)
  | 5 => ("RefinedSpline$Curve", "up", "I", false)
  | 6 => ("RefinedSpline$Curve", "arguments", "[I", true)
  | _ => ("RefinedSpline$Curve", "work", "[J", true)
def tyX1 : Nat → FieldType := fun k => match k with
  | 0 => .int
  | 1 => .int
  | 2 => .array .int
  | 3 => .array (.array .long)
  | 4 => .int
  | 5 => .int
  | 6 => .array .int
  | _ => .array .long
theorem nmX1 : ∀ a, a < 8 → ∀ b, b < 8 → a ≠ b → (TX1 a).2.1 ≠ (TX1 b).2.1 := by decide +kernel
theorem tyX1_ok : ∀ k, k < 8 → parseFieldDescriptor (TX1 k).2.2.1 = some (tyX1 k) := by decide +kernel
def RX2 : String := "RefinedSpline$Draft"
def TX2 : u_T := fun k => match k with
  | 0 => ("RefinedSpline$Draft", "degree", "I", false)
  | 1 => ("RefinedSpline$Draft", "count", "I", false)
  | 2 => ("RefinedSpline$Draft", "innerCount", "I", false)
  | 3 => ("RefinedSpline$Draft", "xs", "[I", true)
  | 4 => ("RefinedSpline$Draft", "ys", "[I", true)
  | 5 => ("RefinedSpline$Draft", "weights", "[I", true)
  | _ => ("RefinedSpline$Draft", "inner", "[I", true)
def tyX2 : Nat → FieldType := fun k => match k with
  | 0 => .int
  | 1 => .int
  | 2 => .int
  | 3 => .array .int
  | 4 => .array .int
  | 5 => .array .int
  | _ => .array .int
theorem nmX2 : ∀ a, a < 7 → ∀ b, b < 7 → a ≠ b → (TX2 a).2.1 ≠ (TX2 b).2.1 := by decide +kernel
theorem tyX2_ok : ∀ k, k < 7 → parseFieldDescriptor (TX2 k).2.2.1 = some (tyX2 k) := by decide +kernel
def RX3 : String := "RefinedSpline"
def TX3 : u_T := fun k => match k with
  | 0 => ("RefinedSpline", "draft", "LRefinedSpline$Draft;", true)
  | 1 => ("RefinedSpline", "chords", "LRefinedSpline$Chords;", true)
  | 2 => ("RefinedSpline", "curve", "LRefinedSpline$Curve;", false)
  | _ => ("RefinedSpline", "spare", "LRefinedSpline$Curve;", false)
def tyX3 : Nat → FieldType := fun k => match k with
  | 0 => .object "RefinedSpline$Draft"
  | 1 => .object "RefinedSpline$Chords"
  | 2 => .object "RefinedSpline$Curve"
  | _ => .object "RefinedSpline$Curve"
theorem nmX3 : ∀ a, a < 4 → ∀ b, b < 4 → a ≠ b → (TX3 a).2.1 ≠ (TX3 b).2.1 := by decide +kernel
theorem tyX3_ok : ∀ k, k < 4 → parseFieldDescriptor (TX3 k).2.2.1 = some (tyX3 k) := by decide +kernel
def RX4 : String := "RefinedSplineModel"
def TX4 : u_T := fun k => match k with
  | 0 => ("RefinedSplineModel", "draftDegree", "I", false)
  | 1 => ("RefinedSplineModel", "draftPoints", "I", false)
  | 2 => ("RefinedSplineModel", "draftKnots", "I", false)
  | 3 => ("RefinedSplineModel", "draftX", "[I", false)
  | 4 => ("RefinedSplineModel", "draftY", "[I", false)
  | 5 => ("RefinedSplineModel", "draftW", "[I", false)
  | 6 => ("RefinedSplineModel", "draftKnot", "[I", false)
  | 7 => ("RefinedSplineModel", "p", "I", false)
  | 8 => ("RefinedSplineModel", "times", "[I", false)
  | 9 => ("RefinedSplineModel", "piece", "[J", false)
  | 10 => ("RefinedSplineModel", "t", "[I", false)
  | 11 => ("RefinedSplineModel", "n", "I", false)
  | 12 => ("RefinedSplineModel", "vertices", "I", false)
  | 13 => ("RefinedSplineModel", "vertexAt", "[I", false)
  | 14 => ("RefinedSplineModel", "poly", "[J", false)
  | 15 => ("RefinedSplineModel", "value", "[J", false)
  | 16 => ("RefinedSplineModel", "endAt", "[I", false)
  | _ => ("RefinedSplineModel", "leftAt", "[I", false)
def tyX4 : Nat → FieldType := fun k => match k with
  | 0 => .int
  | 1 => .int
  | 2 => .int
  | 3 => .array .int
  | 4 => .array .int
  | 5 => .array .int
  | 6 => .array .int
  | 7 => .int
  | 8 => .array .int
  | 9 => .array .long
  | 10 => .array .int
  | 11 => .int
  | 12 => .int
  | 13 => .array .int
  | 14 => .array .long
  | 15 => .array .long
  | 16 => .array .int
  | _ => .array .int
theorem nmX4 : ∀ a, a < 18 → ∀ b, b < 18 → a ≠ b → (TX4 a).2.1 ≠ (TX4 b).2.1 := by decide +kernel
theorem tyX4_ok : ∀ k, k < 18 → parseFieldDescriptor (TX4 k).2.2.1 = some (tyX4 k) := by decide +kernel
def RL : String := "RefinedSplineLaw"
def RJ : String := "java/lang/Math"
abbrev vwCl : List vw_C := [(RX0, TX0, 6), (RX1, TX1, 8), (RX2, TX2, 7), (RX3, TX3, 4), (RX4, TX4, 18)]
abbrev cX3_init : ByteArray := prog_1_method_1_code
def yX3_init : MethodName := ⟨RX3, "<init>", "()V"⟩
abbrev cX2_init : ByteArray := prog_4_method_1_code
def yX2_init : MethodName := ⟨RX2, "<init>", "()V"⟩
abbrev cX0_init : ByteArray := prog_2_method_1_code
def yX0_init : MethodName := ⟨RX0, "<init>", "()V"⟩
abbrev cX1_init : ByteArray := prog_3_method_1_code
def yX1_init : MethodName := ⟨RX1, "<init>", "()V"⟩
abbrev cX3_begin : ByteArray := prog_1_method_2_code
def yX3_begin : MethodName := ⟨RX3, "begin", "(I)Z"⟩
abbrev cX2_open : ByteArray := prog_4_method_2_code
def yX2_open : MethodName := ⟨RX2, "open", "(I)V"⟩
abbrev cX3_point : ByteArray := prog_1_method_3_code
def yX3_point : MethodName := ⟨RX3, "point", "(III)Z"⟩
abbrev cX2_addPoint : ByteArray := prog_4_method_4_code
def yX2_addPoint : MethodName := ⟨RX2, "addPoint", "(III)Z"⟩
abbrev cX2_isCoordinate : ByteArray := prog_4_method_8_code
def yX2_isCoordinate : MethodName := ⟨RX2, "isCoordinate", "(I)Z"⟩
abbrev cX3_knot : ByteArray := prog_1_method_4_code
def yX3_knot : MethodName := ⟨RX3, "knot", "(I)Z"⟩
abbrev cX2_addKnot : ByteArray := prog_4_method_5_code
def yX2_addKnot : MethodName := ⟨RX2, "addKnot", "(I)Z"⟩
abbrev cX3_isInner : ByteArray := prog_1_method_21_code
def yX3_isInner : MethodName := ⟨RX3, "isInner", "(I)Z"⟩
abbrev cX3_finish : ByteArray := prog_1_method_5_code
def yX3_finish : MethodName := ⟨RX3, "finish", "()I"⟩
abbrev cX2_fault : ByteArray := prog_4_method_6_code
def yX2_fault : MethodName := ⟨RX2, "fault", "()I"⟩
abbrev cX2_copyTo : ByteArray := prog_4_method_7_code
def yX2_copyTo : MethodName := ⟨RX2, "copyTo", "(LRefinedSpline$Curve;)V"⟩
abbrev cX2_close : ByteArray := prog_4_method_3_code
def yX2_close : MethodName := ⟨RX2, "close", "()V"⟩
abbrev cX0_forget : ByteArray := prog_2_method_2_code
def yX0_forget : MethodName := ⟨RX0, "forget", "()V"⟩
abbrev cX3_insert : ByteArray := prog_1_method_6_code
def yX3_insert : MethodName := ⟨RX3, "insert", "(I)I"⟩
abbrev cX1_timesOf : ByteArray := prog_3_method_4_code
def yX1_timesOf : MethodName := ⟨RX1, "timesOf", "(I)I"⟩
abbrev cX1_exists : ByteArray := prog_3_method_2_code
def yX1_exists : MethodName := ⟨RX1, "exists", "()Z"⟩
abbrev cX3_putIn : ByteArray := prog_1_method_23_code
def yX3_putIn : MethodName := ⟨RX3, "putIn", "(I)V"⟩
abbrev cX1_refineInto : ByteArray := prog_3_method_11_code
def yX1_refineInto : MethodName := ⟨RX1, "refineInto", "(LRefinedSpline$Curve;I)V"⟩
abbrev cX1_spanOf : ByteArray := prog_3_method_5_code
def yX1_spanOf : MethodName := ⟨RX1, "spanOf", "(I)I"⟩
abbrev cX1_knotCount : ByteArray := prog_3_method_3_code
def yX1_knotCount : MethodName := ⟨RX1, "knotCount", "()I"⟩
abbrev cX1_shareOfSame : ByteArray := prog_3_method_8_code
def yX1_shareOfSame : MethodName := ⟨RX1, "shareOfSame", "(II)I"⟩
abbrev cX1_shareOfPrevious : ByteArray := prog_3_method_9_code
def yX1_shareOfPrevious : MethodName := ⟨RX1, "shareOfPrevious", "(II)I"⟩
abbrev cX1_blended : ByteArray := prog_3_method_10_code
def yX1_blended : MethodName := ⟨RX1, "blended", "(III)J"⟩
abbrev cX1_number : ByteArray := prog_3_method_6_code
def yX1_number : MethodName := ⟨RX1, "number", "(II)J"⟩
abbrev cX1_quotient : ByteArray := prog_3_method_23_code
def yX1_quotient : MethodName := ⟨RX1, "quotient", "(JJ)J"⟩
abbrev cX3_takeSpare : ByteArray := prog_1_method_25_code
def yX3_takeSpare : MethodName := ⟨RX3, "takeSpare", "()V"⟩
abbrev cX3_remove : ByteArray := prog_1_method_7_code
def yX3_remove : MethodName := ⟨RX3, "remove", "(I)Z"⟩
abbrev cX3_takeOut : ByteArray := prog_1_method_24_code
def yX3_takeOut : MethodName := ⟨RX3, "takeOut", "(I)Z"⟩
abbrev cX1_coarsenInto : ByteArray := prog_3_method_13_code
def yX1_coarsenInto : MethodName := ⟨RX1, "coarsenInto", "(LRefinedSpline$Curve;I)V"⟩
abbrev cX1_unblended : ByteArray := prog_3_method_14_code
def yX1_unblended : MethodName := ⟨RX1, "unblended", "(LRefinedSpline$Curve;III)J"⟩
abbrev cX1_weightsArePositive : ByteArray := prog_3_method_7_code
def yX1_weightsArePositive : MethodName := ⟨RX1, "weightsArePositive", "()Z"⟩
abbrev cX1_refinesTo : ByteArray := prog_3_method_12_code
def yX1_refinesTo : MethodName := ⟨RX1, "refinesTo", "(LRefinedSpline$Curve;I)Z"⟩
abbrev cX3_decompose : ByteArray := prog_1_method_8_code
def yX3_decompose : MethodName := ⟨RX3, "decompose", "()I"⟩
abbrev cX3_thin : ByteArray := prog_1_method_9_code
def yX3_thin : MethodName := ⟨RX3, "thin", "()I"⟩
abbrev cX3_elevate : ByteArray := prog_1_method_10_code
def yX3_elevate : MethodName := ⟨RX3, "elevate", "()Z"⟩
abbrev cX1_raiseInto : ByteArray := prog_3_method_15_code
def yX1_raiseInto : MethodName := ⟨RX1, "raiseInto", "(LRefinedSpline$Curve;)V"⟩
abbrev cX1_raised : ByteArray := prog_3_method_16_code
def yX1_raised : MethodName := ⟨RX1, "raised", "(LRefinedSpline$Curve;II)J"⟩
abbrev cX1_blossom : ByteArray := prog_3_method_22_code
def yX1_blossom : MethodName := ⟨RX1, "blossom", "(II)J"⟩
abbrev cX3_reverse : ByteArray := prog_1_method_11_code
def yX3_reverse : MethodName := ⟨RX3, "reverse", "()Z"⟩
abbrev cX1_turnInto : ByteArray := prog_3_method_17_code
def yX1_turnInto : MethodName := ⟨RX1, "turnInto", "(LRefinedSpline$Curve;)V"⟩
abbrev cX3_degree : ByteArray := prog_1_method_12_code
def yX3_degree : MethodName := ⟨RX3, "degree", "()I"⟩
abbrev cX3_points : ByteArray := prog_1_method_13_code
def yX3_points : MethodName := ⟨RX3, "points", "()I"⟩
abbrev cX3_knotAt : ByteArray := prog_1_method_14_code
def yX3_knotAt : MethodName := ⟨RX3, "knotAt", "(I)I"⟩
abbrev cX3_control : ByteArray := prog_1_method_15_code
def yX3_control : MethodName := ⟨RX3, "control", "(II)J"⟩
abbrev cX3_span : ByteArray := prog_1_method_16_code
def yX3_span : MethodName := ⟨RX3, "span", "(I)I"⟩
abbrev cX3_isParameter : ByteArray := prog_1_method_22_code
def yX3_isParameter : MethodName := ⟨RX3, "isParameter", "(I)Z"⟩
abbrev cX3_basis : ByteArray := prog_1_method_17_code
def yX3_basis : MethodName := ⟨RX3, "basis", "(II)J"⟩
abbrev cX1_basisOf : ByteArray := prog_3_method_18_code
def yX1_basisOf : MethodName := ⟨RX1, "basisOf", "(II)J"⟩
abbrev cX1_factor : ByteArray := prog_3_method_19_code
def yX1_factor : MethodName := ⟨RX1, "factor", "(II)J"⟩
abbrev cX3_locate : ByteArray := prog_1_method_18_code
def yX3_locate : MethodName := ⟨RX3, "locate", "(II)I"⟩
abbrev cX1_goTo : ByteArray := prog_3_method_20_code
def yX1_goTo : MethodName := ⟨RX1, "goTo", "(I)V"⟩
abbrev cX1_thousandths : ByteArray := prog_3_method_21_code
def yX1_thousandths : MethodName := ⟨RX1, "thousandths", "(JJ)I"⟩
abbrev cX3_tessellate : ByteArray := prog_1_method_19_code
def yX3_tessellate : MethodName := ⟨RX3, "tessellate", "(III)I"⟩
abbrev cX0_cutAll : ByteArray := prog_2_method_3_code
def yX0_cutAll : MethodName := ⟨RX0, "cutAll", "(LRefinedSpline$Curve;III)I"⟩
abbrev cX0_addVertex : ByteArray := prog_2_method_7_code
def yX0_addVertex : MethodName := ⟨RX0, "addVertex", "(I)V"⟩
abbrev cX0_look : ByteArray := prog_2_method_6_code
def yX0_look : MethodName := ⟨RX0, "look", "(LRefinedSpline$Curve;I)V"⟩
abbrev cX0_cut : ByteArray := prog_2_method_4_code
def yX0_cut : MethodName := ⟨RX0, "cut", "(LRefinedSpline$Curve;III)V"⟩
abbrev cX0_isStraight : ByteArray := prog_2_method_5_code
def yX0_isStraight : MethodName := ⟨RX0, "isStraight", "(III)Z"⟩
abbrev cX3_vertex : ByteArray := prog_1_method_20_code
def yX3_vertex : MethodName := ⟨RX3, "vertex", "(I)I"⟩
abbrev cX4_init : ByteArray := prog_6_method_1_code
def yX4_init : MethodName := ⟨RX4, "<init>", "()V"⟩
abbrev cX4_begin : ByteArray := prog_6_method_2_code
def yX4_begin : MethodName := ⟨RX4, "begin", "(I)Z"⟩
abbrev cX4_point : ByteArray := prog_6_method_3_code
def yX4_point : MethodName := ⟨RX4, "point", "(III)Z"⟩
abbrev cX4_knot : ByteArray := prog_6_method_4_code
def yX4_knot : MethodName := ⟨RX4, "knot", "(I)Z"⟩
abbrev cX4_finish : ByteArray := prog_6_method_5_code
def yX4_finish : MethodName := ⟨RX4, "finish", "()I"⟩
abbrev cX4_layKnots : ByteArray := prog_6_method_6_code
def yX4_layKnots : MethodName := ⟨RX4, "layKnots", "()V"⟩
abbrev cX4_makePiece : ByteArray := prog_6_method_9_code
def yX4_makePiece : MethodName := ⟨RX4, "makePiece", "(I)V"⟩
abbrev cX4_spanOf : ByteArray := prog_6_method_7_code
def yX4_spanOf : MethodName := ⟨RX4, "spanOf", "(I)I"⟩
abbrev cX4_mix : ByteArray := prog_6_method_10_code
def yX4_mix : MethodName := ⟨RX4, "mix", "(III)V"⟩
abbrev cX4_drafted : ByteArray := prog_6_method_8_code
def yX4_drafted : MethodName := ⟨RX4, "drafted", "(II)J"⟩
abbrev cX4_insert : ByteArray := prog_6_method_15_code
def yX4_insert : MethodName := ⟨RX4, "insert", "(I)I"⟩
abbrev cX4_remove : ByteArray := prog_6_method_16_code
def yX4_remove : MethodName := ⟨RX4, "remove", "(I)Z"⟩
abbrev cX4_smooth : ByteArray := prog_6_method_13_code
def yX4_smooth : MethodName := ⟨RX4, "smooth", "(II)Z"⟩
abbrev cX4_choose : ByteArray := prog_6_method_12_code
def yX4_choose : MethodName := ⟨RX4, "choose", "(II)J"⟩
abbrev cX4_weighty : ByteArray := prog_6_method_14_code
def yX4_weighty : MethodName := ⟨RX4, "weighty", "()Z"⟩
abbrev cX4_controlOf : ByteArray := prog_6_method_11_code
def yX4_controlOf : MethodName := ⟨RX4, "controlOf", "(II)J"⟩
abbrev cX4_decompose : ByteArray := prog_6_method_17_code
def yX4_decompose : MethodName := ⟨RX4, "decompose", "()I"⟩
abbrev cX4_thin : ByteArray := prog_6_method_18_code
def yX4_thin : MethodName := ⟨RX4, "thin", "()I"⟩
abbrev cX4_elevate : ByteArray := prog_6_method_19_code
def yX4_elevate : MethodName := ⟨RX4, "elevate", "()Z"⟩
abbrev cX4_reverse : ByteArray := prog_6_method_20_code
def yX4_reverse : MethodName := ⟨RX4, "reverse", "()Z"⟩
abbrev cX4_degree : ByteArray := prog_6_method_21_code
def yX4_degree : MethodName := ⟨RX4, "degree", "()I"⟩
abbrev cX4_points : ByteArray := prog_6_method_22_code
def yX4_points : MethodName := ⟨RX4, "points", "()I"⟩
abbrev cX4_knotAt : ByteArray := prog_6_method_23_code
def yX4_knotAt : MethodName := ⟨RX4, "knotAt", "(I)I"⟩
abbrev cX4_control : ByteArray := prog_6_method_24_code
def yX4_control : MethodName := ⟨RX4, "control", "(II)J"⟩
abbrev cX4_span : ByteArray := prog_6_method_25_code
def yX4_span : MethodName := ⟨RX4, "span", "(I)I"⟩
abbrev cX4_basis : ByteArray := prog_6_method_26_code
def yX4_basis : MethodName := ⟨RX4, "basis", "(II)J"⟩
abbrev cX4_locate : ByteArray := prog_6_method_28_code
def yX4_locate : MethodName := ⟨RX4, "locate", "(II)I"⟩
abbrev cX4_at : ByteArray := prog_6_method_27_code
def yX4_at : MethodName := ⟨RX4, "at", "(III)J"⟩
abbrev cX4_tessellate : ByteArray := prog_6_method_31_code
def yX4_tessellate : MethodName := ⟨RX4, "tessellate", "(III)I"⟩
abbrev cX4_cutUp : ByteArray := prog_6_method_30_code
def yX4_cutUp : MethodName := ⟨RX4, "cutUp", "(IIIII)V"⟩
abbrev cX4_straight : ByteArray := prog_6_method_29_code
def yX4_straight : MethodName := ⟨RX4, "straight", "(IIII)Z"⟩
abbrev cX4_vertex : ByteArray := prog_6_method_32_code
def yX4_vertex : MethodName := ⟨RX4, "vertex", "(I)I"⟩
abbrev cJ_floorDiv : ByteArray := prog_7_method_49_code
def yJ_floorDiv : MethodName := ⟨RJ, "floorDiv", "(JJ)J"⟩
/-- every word of the tables that stays true -/
def rsW : List Cond := lw_tbl.filter goodWord
theorem rsW_good : rsW.all goodWord = true := by
  rw [List.all_eq_true]
  intro w hw
  exact (List.mem_filter.mp hw).2
theorem rsW_in {w : Cond} (h : w ∈ rsW) : w ∈ lw_tbl := (List.mem_filter.mp h).1
theorem rsW_t {i : Nat} {w : Cond} (h : tables_1[i]? = some w) (g : goodWord w = true) : w ∈ rsW := List.mem_filter.mpr ⟨List.mem_append_right _ (List.mem_of_getElem? h), g⟩
theorem rsW_s {i : Nat} {w : Cond} (h : (k2_sels lw_privs)[i]? = some w) (g : goodWord w = true) : w ∈ rsW := List.mem_filter.mpr ⟨List.mem_append_left _ (List.mem_of_getElem? h), g⟩
theorem rw_0 : Cond.initialized "RefinedSplineLaw" ∈ rsW := rsW_t (i := 0) (by decide +kernel) (by decide)
theorem rw_1 : Cond.initialized RX3 ∈ rsW := rsW_t (i := 1) (by decide +kernel) (by decide)
theorem rw_2 : Cond.initialized RX2 ∈ rsW := rsW_t (i := 2) (by decide +kernel) (by decide)
theorem rw_3 : Cond.initialized RX0 ∈ rsW := rsW_t (i := 3) (by decide +kernel) (by decide)
theorem rw_4 : Cond.initialized RX1 ∈ rsW := rsW_t (i := 4) (by decide +kernel) (by decide)
theorem rw_5 : Cond.initialized RX4 ∈ rsW := rsW_t (i := 5) (by decide +kernel) (by decide)
theorem rw_6 : Cond.initialized "java/lang/System" ∈ rsW := rsW_t (i := 6) (by decide +kernel) (by decide)
theorem rw_7 : Cond.initialized "java/lang/Math" ∈ rsW := rsW_t (i := 7) (by decide +kernel) (by decide)
theorem rw_8 : Cond.classLink RL 7 RX3 ∈ rsW := rsW_t (i := 8) (by decide +kernel) (by decide)
theorem rw_9 : Cond.instantiable RX3 4 ∈ rsW := rsW_t (i := 9) (by decide +kernel) (by decide)
theorem rw_10 : Cond.methodLink RL 9 yX3_init ∈ rsW := rsW_t (i := 10) (by decide +kernel) (by decide)
theorem rw_11 : Cond.instanceMethod yX3_init ∈ rsW := rsW_t (i := 11) (by decide +kernel) (by decide)
theorem rw_12 : Cond.code yX3_init prog_1_method_1_code 1 none ∈ rsW := rsW_t (i := 12) (by decide +kernel) (by decide)
theorem rw_13 : Cond.methodLink RX3 3 ⟨"java/lang/Object", "<init>", "()V"⟩ ∈ rsW := rsW_t (i := 13) (by decide +kernel) (by decide)
theorem rw_14 : Cond.instanceMethod ⟨"java/lang/Object", "<init>", "()V"⟩ ∈ rsW := rsW_t (i := 14) (by decide +kernel) (by decide)
theorem rw_15 : Cond.code ⟨"java/lang/Object", "<init>", "()V"⟩ object_method_1_code 1 none ∈ rsW := rsW_t (i := 15) (by decide +kernel) (by decide)
theorem rw_16 : Cond.classLink RX3 9 RX2 ∈ rsW := rsW_t (i := 16) (by decide +kernel) (by decide)
theorem rw_17 : Cond.instantiable RX2 7 ∈ rsW := rsW_t (i := 17) (by decide +kernel) (by decide)
theorem rw_19 : Cond.instanceMethod yX2_init ∈ rsW := rsW_t (i := 19) (by decide +kernel) (by decide)
theorem rw_20 : Cond.code yX2_init prog_4_method_1_code 1 none ∈ rsW := rsW_t (i := 20) (by decide +kernel) (by decide)
theorem rw_21 : Cond.methodLink RX2 3 ⟨"java/lang/Object", "<init>", "()V"⟩ ∈ rsW := rsW_t (i := 21) (by decide +kernel) (by decide)
theorem rw_22 : Cond.fieldLink RX2 24 "RefinedSpline$Draft" "degree" "I" ∈ rsW := rsW_t (i := 22) (by decide +kernel) (by decide)
theorem rw_23 : Cond.fieldLink RX2 28 "RefinedSpline$Draft" "count" "I" ∈ rsW := rsW_t (i := 23) (by decide +kernel) (by decide)
theorem rw_24 : Cond.fieldLink RX2 31 "RefinedSpline$Draft" "innerCount" "I" ∈ rsW := rsW_t (i := 24) (by decide +kernel) (by decide)
theorem rw_25 : Cond.fieldLink RX2 9 "RefinedSpline$Draft" "xs" "[I" ∈ rsW := rsW_t (i := 25) (by decide +kernel) (by decide)
theorem rw_26 : Cond.fieldLink RX2 15 "RefinedSpline$Draft" "ys" "[I" ∈ rsW := rsW_t (i := 26) (by decide +kernel) (by decide)
theorem rw_27 : Cond.fieldLink RX2 18 "RefinedSpline$Draft" "weights" "[I" ∈ rsW := rsW_t (i := 27) (by decide +kernel) (by decide)
theorem rw_28 : Cond.fieldLink RX2 21 "RefinedSpline$Draft" "inner" "[I" ∈ rsW := rsW_t (i := 28) (by decide +kernel) (by decide)
theorem rw_44 : Cond.arrayClass .int ∈ rsW := rsW_t (i := 44) (by decide +kernel) (by decide)
theorem rw_45 : Cond.classLink RX3 16 RX0 ∈ rsW := rsW_t (i := 45) (by decide +kernel) (by decide)
theorem rw_46 : Cond.instantiable RX0 6 ∈ rsW := rsW_t (i := 46) (by decide +kernel) (by decide)
theorem rw_48 : Cond.instanceMethod yX0_init ∈ rsW := rsW_t (i := 48) (by decide +kernel) (by decide)
theorem rw_49 : Cond.code yX0_init prog_2_method_1_code 1 none ∈ rsW := rsW_t (i := 49) (by decide +kernel) (by decide)
theorem rw_50 : Cond.methodLink RX0 3 ⟨"java/lang/Object", "<init>", "()V"⟩ ∈ rsW := rsW_t (i := 50) (by decide +kernel) (by decide)
theorem rw_51 : Cond.fieldLink RX0 21 "RefinedSpline$Chords" "size" "I" ∈ rsW := rsW_t (i := 51) (by decide +kernel) (by decide)
theorem rw_53 : Cond.fieldLink RX0 25 "RefinedSpline$Chords" "how" "I" ∈ rsW := rsW_t (i := 53) (by decide +kernel) (by decide)
theorem rw_54 : Cond.fieldLink RX0 28 "RefinedSpline$Chords" "tolerance" "I" ∈ rsW := rsW_t (i := 54) (by decide +kernel) (by decide)
theorem rw_55 : Cond.fieldLink RX0 9 "RefinedSpline$Chords" "vertices" "[I" ∈ rsW := rsW_t (i := 55) (by decide +kernel) (by decide)
theorem rw_57 : Cond.fieldLink RX0 15 "RefinedSpline$Chords" "across" "[I" ∈ rsW := rsW_t (i := 57) (by decide +kernel) (by decide)
theorem rw_58 : Cond.fieldLink RX0 18 "RefinedSpline$Chords" "up" "[I" ∈ rsW := rsW_t (i := 58) (by decide +kernel) (by decide)
theorem rw_72 : Cond.classLink RX3 23 RX1 ∈ rsW := rsW_t (i := 72) (by decide +kernel) (by decide)
theorem rw_73 : Cond.instantiable RX1 8 ∈ rsW := rsW_t (i := 73) (by decide +kernel) (by decide)
theorem rw_75 : Cond.instanceMethod yX1_init ∈ rsW := rsW_t (i := 75) (by decide +kernel) (by decide)
theorem rw_76 : Cond.code yX1_init prog_3_method_1_code 1 none ∈ rsW := rsW_t (i := 76) (by decide +kernel) (by decide)
theorem rw_77 : Cond.methodLink RX1 3 ⟨"java/lang/Object", "<init>", "()V"⟩ ∈ rsW := rsW_t (i := 77) (by decide +kernel) (by decide)
theorem rw_78 : Cond.classLink RX1 15 "[[J" ∈ rsW := rsW_t (i := 78) (by decide +kernel) (by decide)
theorem rw_80 : Cond.fieldLink RX1 27 "RefinedSpline$Curve" "degree" "I" ∈ rsW := rsW_t (i := 80) (by decide +kernel) (by decide)
theorem rw_84 : Cond.fieldLink RX1 31 "RefinedSpline$Curve" "count" "I" ∈ rsW := rsW_t (i := 84) (by decide +kernel) (by decide)
theorem rw_88 : Cond.fieldLink RX1 9 "RefinedSpline$Curve" "knots" "[I" ∈ rsW := rsW_t (i := 88) (by decide +kernel) (by decide)
theorem rw_92 : Cond.fieldLink RX1 17 "RefinedSpline$Curve" "rows" "[[J" ∈ rsW := rsW_t (i := 92) (by decide +kernel) (by decide)
theorem rw_96 : Cond.fieldLink RX1 92 "RefinedSpline$Curve" "across" "I" ∈ rsW := rsW_t (i := 96) (by decide +kernel) (by decide)
theorem rw_99 : Cond.fieldLink RX1 95 "RefinedSpline$Curve" "up" "I" ∈ rsW := rsW_t (i := 99) (by decide +kernel) (by decide)
theorem rw_100 : Cond.fieldLink RX1 20 "RefinedSpline$Curve" "arguments" "[I" ∈ rsW := rsW_t (i := 100) (by decide +kernel) (by decide)
theorem rw_101 : Cond.fieldLink RX1 23 "RefinedSpline$Curve" "work" "[J" ∈ rsW := rsW_t (i := 101) (by decide +kernel) (by decide)
theorem rw_119 : Cond.arrayClass .long ∈ rsW := rsW_t (i := 119) (by decide +kernel) (by decide)
theorem rw_120 : Cond.fieldLink RX3 12 "RefinedSpline" "draft" "LRefinedSpline$Draft;" ∈ rsW := rsW_t (i := 120) (by decide +kernel) (by decide)
theorem rw_121 : Cond.fieldLink RX3 19 "RefinedSpline" "chords" "LRefinedSpline$Chords;" ∈ rsW := rsW_t (i := 121) (by decide +kernel) (by decide)
theorem rw_122 : Cond.fieldLink RX3 26 "RefinedSpline" "curve" "LRefinedSpline$Curve;" ∈ rsW := rsW_t (i := 122) (by decide +kernel) (by decide)
theorem rw_123 : Cond.fieldLink RX3 30 "RefinedSpline" "spare" "LRefinedSpline$Curve;" ∈ rsW := rsW_t (i := 123) (by decide +kernel) (by decide)
theorem rw_133 : Cond.methodLink RL 13 yX3_begin ∈ rsW := rsW_t (i := 133) (by decide +kernel) (by decide)
theorem rw_134 : Cond.instanceMethod yX3_begin ∈ rsW := rsW_t (i := 134) (by decide +kernel) (by decide)
theorem rw_135 : Cond.selects RX3 yX3_begin yX3_begin ∈ rsW := rsW_t (i := 135) (by decide +kernel) (by decide)
theorem rw_136 : Cond.code yX3_begin prog_1_method_2_code 2 (Option.some .boolean) ∈ rsW := rsW_t (i := 136) (by decide +kernel) (by decide)
theorem rw_137 : Cond.methodLink RX3 33 yX2_open ∈ rsW := rsW_t (i := 137) (by decide +kernel) (by decide)
theorem rw_138 : Cond.instanceMethod yX2_open ∈ rsW := rsW_t (i := 138) (by decide +kernel) (by decide)
theorem rw_139 : Cond.selects RX2 yX2_open yX2_open ∈ rsW := rsW_t (i := 139) (by decide +kernel) (by decide)
theorem rw_140 : Cond.code yX2_open prog_4_method_2_code 2 none ∈ rsW := rsW_t (i := 140) (by decide +kernel) (by decide)
theorem rw_141 : Cond.methodLink RL 18 yX3_point ∈ rsW := rsW_t (i := 141) (by decide +kernel) (by decide)
theorem rw_142 : Cond.instanceMethod yX3_point ∈ rsW := rsW_t (i := 142) (by decide +kernel) (by decide)
theorem rw_143 : Cond.selects RX3 yX3_point yX3_point ∈ rsW := rsW_t (i := 143) (by decide +kernel) (by decide)
theorem rw_144 : Cond.code yX3_point prog_1_method_3_code 4 (Option.some .boolean) ∈ rsW := rsW_t (i := 144) (by decide +kernel) (by decide)
theorem rw_145 : Cond.methodLink RX3 37 yX2_addPoint ∈ rsW := rsW_t (i := 145) (by decide +kernel) (by decide)
theorem rw_146 : Cond.instanceMethod yX2_addPoint ∈ rsW := rsW_t (i := 146) (by decide +kernel) (by decide)
theorem rw_147 : Cond.selects RX2 yX2_addPoint yX2_addPoint ∈ rsW := rsW_t (i := 147) (by decide +kernel) (by decide)
theorem rw_148 : Cond.code yX2_addPoint prog_4_method_4_code 4 (Option.some .boolean) ∈ rsW := rsW_t (i := 148) (by decide +kernel) (by decide)
theorem rw_149 : Cond.methodLink RX2 34 yX2_isCoordinate ∈ rsW := rsW_t (i := 149) (by decide +kernel) (by decide)
theorem rw_150 : Cond.static yX2_isCoordinate ∈ rsW := rsW_t (i := 150) (by decide +kernel) (by decide)
theorem rw_151 : Cond.code yX2_isCoordinate prog_4_method_8_code 1 (Option.some .boolean) ∈ rsW := rsW_t (i := 151) (by decide +kernel) (by decide)
theorem rw_152 : Cond.methodLink RL 23 yX3_knot ∈ rsW := rsW_t (i := 152) (by decide +kernel) (by decide)
theorem rw_153 : Cond.instanceMethod yX3_knot ∈ rsW := rsW_t (i := 153) (by decide +kernel) (by decide)
theorem rw_154 : Cond.selects RX3 yX3_knot yX3_knot ∈ rsW := rsW_t (i := 154) (by decide +kernel) (by decide)
theorem rw_155 : Cond.code yX3_knot prog_1_method_4_code 2 (Option.some .boolean) ∈ rsW := rsW_t (i := 155) (by decide +kernel) (by decide)
theorem rw_156 : Cond.methodLink RX3 41 yX2_addKnot ∈ rsW := rsW_t (i := 156) (by decide +kernel) (by decide)
theorem rw_157 : Cond.instanceMethod yX2_addKnot ∈ rsW := rsW_t (i := 157) (by decide +kernel) (by decide)
theorem rw_158 : Cond.selects RX2 yX2_addKnot yX2_addKnot ∈ rsW := rsW_t (i := 158) (by decide +kernel) (by decide)
theorem rw_159 : Cond.code yX2_addKnot prog_4_method_5_code 2 (Option.some .boolean) ∈ rsW := rsW_t (i := 159) (by decide +kernel) (by decide)
theorem rw_161 : Cond.static yX3_isInner ∈ rsW := rsW_t (i := 161) (by decide +kernel) (by decide)
theorem rw_162 : Cond.code yX3_isInner prog_1_method_21_code 1 (Option.some .boolean) ∈ rsW := rsW_t (i := 162) (by decide +kernel) (by decide)
theorem rw_163 : Cond.methodLink RL 27 yX3_finish ∈ rsW := rsW_t (i := 163) (by decide +kernel) (by decide)
theorem rw_164 : Cond.instanceMethod yX3_finish ∈ rsW := rsW_t (i := 164) (by decide +kernel) (by decide)
theorem rw_165 : Cond.selects RX3 yX3_finish yX3_finish ∈ rsW := rsW_t (i := 165) (by decide +kernel) (by decide)
theorem rw_166 : Cond.code yX3_finish prog_1_method_5_code 2 (Option.some .int) ∈ rsW := rsW_t (i := 166) (by decide +kernel) (by decide)
theorem rw_167 : Cond.methodLink RX3 45 yX2_fault ∈ rsW := rsW_t (i := 167) (by decide +kernel) (by decide)
theorem rw_168 : Cond.instanceMethod yX2_fault ∈ rsW := rsW_t (i := 168) (by decide +kernel) (by decide)
theorem rw_169 : Cond.selects RX2 yX2_fault yX2_fault ∈ rsW := rsW_t (i := 169) (by decide +kernel) (by decide)
theorem rw_170 : Cond.code yX2_fault prog_4_method_6_code 1 (Option.some .int) ∈ rsW := rsW_t (i := 170) (by decide +kernel) (by decide)
theorem rw_171 : Cond.methodLink RX3 49 yX2_copyTo ∈ rsW := rsW_t (i := 171) (by decide +kernel) (by decide)
theorem rw_172 : Cond.instanceMethod yX2_copyTo ∈ rsW := rsW_t (i := 172) (by decide +kernel) (by decide)
theorem rw_173 : Cond.selects RX2 yX2_copyTo yX2_copyTo ∈ rsW := rsW_t (i := 173) (by decide +kernel) (by decide)
theorem rw_174 : Cond.code yX2_copyTo prog_4_method_7_code 5 none ∈ rsW := rsW_t (i := 174) (by decide +kernel) (by decide)
theorem rw_175 : Cond.constantLong RX2 48 216000 ∈ rsW := rsW_t (i := 175) (by decide +kernel) (by decide)
theorem rw_176 : Cond.methodLink RX3 53 yX2_close ∈ rsW := rsW_t (i := 176) (by decide +kernel) (by decide)
theorem rw_177 : Cond.instanceMethod yX2_close ∈ rsW := rsW_t (i := 177) (by decide +kernel) (by decide)
theorem rw_178 : Cond.selects RX2 yX2_close yX2_close ∈ rsW := rsW_t (i := 178) (by decide +kernel) (by decide)
theorem rw_179 : Cond.code yX2_close prog_4_method_3_code 1 none ∈ rsW := rsW_t (i := 179) (by decide +kernel) (by decide)
theorem rw_180 : Cond.methodLink RX3 56 yX0_forget ∈ rsW := rsW_t (i := 180) (by decide +kernel) (by decide)
theorem rw_181 : Cond.instanceMethod yX0_forget ∈ rsW := rsW_t (i := 181) (by decide +kernel) (by decide)
theorem rw_182 : Cond.selects RX0 yX0_forget yX0_forget ∈ rsW := rsW_t (i := 182) (by decide +kernel) (by decide)
theorem rw_183 : Cond.code yX0_forget prog_2_method_2_code 1 none ∈ rsW := rsW_t (i := 183) (by decide +kernel) (by decide)
theorem rw_184 : Cond.methodLink RL 32 yX3_insert ∈ rsW := rsW_t (i := 184) (by decide +kernel) (by decide)
theorem rw_185 : Cond.instanceMethod yX3_insert ∈ rsW := rsW_t (i := 185) (by decide +kernel) (by decide)
theorem rw_186 : Cond.selects RX3 yX3_insert yX3_insert ∈ rsW := rsW_t (i := 186) (by decide +kernel) (by decide)
theorem rw_187 : Cond.code yX3_insert prog_1_method_6_code 3 (Option.some .int) ∈ rsW := rsW_t (i := 187) (by decide +kernel) (by decide)
theorem rw_188 : Cond.methodLink RX3 59 yX1_timesOf ∈ rsW := rsW_t (i := 188) (by decide +kernel) (by decide)
theorem rw_189 : Cond.instanceMethod yX1_timesOf ∈ rsW := rsW_t (i := 189) (by decide +kernel) (by decide)
theorem rw_190 : Cond.selects RX1 yX1_timesOf yX1_timesOf ∈ rsW := rsW_t (i := 190) (by decide +kernel) (by decide)
theorem rw_191 : Cond.code yX1_timesOf prog_3_method_4_code 4 (Option.some .int) ∈ rsW := rsW_t (i := 191) (by decide +kernel) (by decide)
theorem rw_192 : Cond.methodLink RX3 63 yX1_exists ∈ rsW := rsW_t (i := 192) (by decide +kernel) (by decide)
theorem rw_193 : Cond.instanceMethod yX1_exists ∈ rsW := rsW_t (i := 193) (by decide +kernel) (by decide)
theorem rw_194 : Cond.selects RX1 yX1_exists yX1_exists ∈ rsW := rsW_t (i := 194) (by decide +kernel) (by decide)
theorem rw_195 : Cond.code yX1_exists prog_3_method_2_code 1 (Option.some .boolean) ∈ rsW := rsW_t (i := 195) (by decide +kernel) (by decide)
theorem rw_196 : Cond.methodLink RX3 67 yX3_isInner ∈ rsW := rsW_t (i := 196) (by decide +kernel) (by decide)
theorem rw_197 : Cond.methodLink RX3 74 yX3_putIn ∈ rsW := rsW_t (i := 197) (by decide +kernel) (by decide)
theorem rw_199 : Cond.instanceMethod yX3_putIn ∈ rsW := rsW_t (i := 199) (by decide +kernel) (by decide)
theorem rw_200 : Cond.code yX3_putIn prog_1_method_23_code 2 none ∈ rsW := rsW_t (i := 200) (by decide +kernel) (by decide)
theorem rw_201 : Cond.methodLink RX3 134 yX1_refineInto ∈ rsW := rsW_t (i := 201) (by decide +kernel) (by decide)
theorem rw_202 : Cond.instanceMethod yX1_refineInto ∈ rsW := rsW_t (i := 202) (by decide +kernel) (by decide)
theorem rw_203 : Cond.selects RX1 yX1_refineInto yX1_refineInto ∈ rsW := rsW_t (i := 203) (by decide +kernel) (by decide)
theorem rw_204 : Cond.code yX1_refineInto prog_3_method_11_code 7 none ∈ rsW := rsW_t (i := 204) (by decide +kernel) (by decide)
theorem rw_205 : Cond.methodLink RX1 50 yX1_spanOf ∈ rsW := rsW_t (i := 205) (by decide +kernel) (by decide)
theorem rw_206 : Cond.instanceMethod yX1_spanOf ∈ rsW := rsW_t (i := 206) (by decide +kernel) (by decide)
theorem rw_207 : Cond.selects RX1 yX1_spanOf yX1_spanOf ∈ rsW := rsW_t (i := 207) (by decide +kernel) (by decide)
theorem rw_208 : Cond.code yX1_spanOf prog_3_method_5_code 4 (Option.some .int) ∈ rsW := rsW_t (i := 208) (by decide +kernel) (by decide)
theorem rw_209 : Cond.methodLink RX1 54 ⟨"java/lang/System", "arraycopy", "(Ljava/lang/Object;ILjava/lang/Object;II)V"⟩ ∈ rsW := rsW_t (i := 209) (by decide +kernel) (by decide)
theorem rw_210 : Cond.static ⟨"java/lang/System", "arraycopy", "(Ljava/lang/Object;ILjava/lang/Object;II)V"⟩ ∈ rsW := rsW_t (i := 210) (by decide +kernel) (by decide)
theorem rw_211 : Cond.native ⟨"java/lang/System", "arraycopy", "(Ljava/lang/Object;ILjava/lang/Object;II)V"⟩ ∈ rsW := rsW_t (i := 211) (by decide +kernel) (by decide)
theorem rw_212 : Cond.methodLink RX1 60 yX1_knotCount ∈ rsW := rsW_t (i := 212) (by decide +kernel) (by decide)
theorem rw_213 : Cond.instanceMethod yX1_knotCount ∈ rsW := rsW_t (i := 213) (by decide +kernel) (by decide)
theorem rw_214 : Cond.selects RX1 yX1_knotCount yX1_knotCount ∈ rsW := rsW_t (i := 214) (by decide +kernel) (by decide)
theorem rw_215 : Cond.code yX1_knotCount prog_3_method_3_code 1 (Option.some .int) ∈ rsW := rsW_t (i := 215) (by decide +kernel) (by decide)
theorem rw_216 : Cond.methodLink RX1 40 yX1_shareOfSame ∈ rsW := rsW_t (i := 216) (by decide +kernel) (by decide)
theorem rw_218 : Cond.instanceMethod yX1_shareOfSame ∈ rsW := rsW_t (i := 218) (by decide +kernel) (by decide)
theorem rw_219 : Cond.code yX1_shareOfSame prog_3_method_8_code 3 (Option.some .int) ∈ rsW := rsW_t (i := 219) (by decide +kernel) (by decide)
theorem rw_220 : Cond.methodLink RX1 34 ⟨"java/lang/Math", "max", "(II)I"⟩ ∈ rsW := rsW_t (i := 220) (by decide +kernel) (by decide)
theorem rw_221 : Cond.static ⟨"java/lang/Math", "max", "(II)I"⟩ ∈ rsW := rsW_t (i := 221) (by decide +kernel) (by decide)
theorem rw_222 : Cond.code ⟨"java/lang/Math", "max", "(II)I"⟩ prog_7_method_65_code 2 (Option.some .int) ∈ rsW := rsW_t (i := 222) (by decide +kernel) (by decide)
theorem rw_223 : Cond.methodLink RX1 47 yX1_shareOfPrevious ∈ rsW := rsW_t (i := 223) (by decide +kernel) (by decide)
theorem rw_225 : Cond.instanceMethod yX1_shareOfPrevious ∈ rsW := rsW_t (i := 225) (by decide +kernel) (by decide)
theorem rw_226 : Cond.code yX1_shareOfPrevious prog_3_method_9_code 3 (Option.some .int) ∈ rsW := rsW_t (i := 226) (by decide +kernel) (by decide)
theorem rw_227 : Cond.methodLink RX1 64 yX1_blended ∈ rsW := rsW_t (i := 227) (by decide +kernel) (by decide)
theorem rw_229 : Cond.instanceMethod yX1_blended ∈ rsW := rsW_t (i := 229) (by decide +kernel) (by decide)
theorem rw_230 : Cond.code yX1_blended prog_3_method_10_code 4 (Option.some .long) ∈ rsW := rsW_t (i := 230) (by decide +kernel) (by decide)
theorem rw_231 : Cond.methodLink RX1 43 yX1_number ∈ rsW := rsW_t (i := 231) (by decide +kernel) (by decide)
theorem rw_232 : Cond.instanceMethod yX1_number ∈ rsW := rsW_t (i := 232) (by decide +kernel) (by decide)
theorem rw_233 : Cond.selects RX1 yX1_number yX1_number ∈ rsW := rsW_t (i := 233) (by decide +kernel) (by decide)
theorem rw_234 : Cond.code yX1_number prog_3_method_6_code 3 (Option.some .long) ∈ rsW := rsW_t (i := 234) (by decide +kernel) (by decide)
theorem rw_235 : Cond.methodLink RX1 68 yX1_quotient ∈ rsW := rsW_t (i := 235) (by decide +kernel) (by decide)
theorem rw_236 : Cond.static yX1_quotient ∈ rsW := rsW_t (i := 236) (by decide +kernel) (by decide)
theorem rw_237 : Cond.code yX1_quotient prog_3_method_23_code 4 (Option.some .long) ∈ rsW := rsW_t (i := 237) (by decide +kernel) (by decide)
theorem rw_238 : Cond.methodLink RX3 83 yX3_takeSpare ∈ rsW := rsW_t (i := 238) (by decide +kernel) (by decide)
theorem rw_240 : Cond.instanceMethod yX3_takeSpare ∈ rsW := rsW_t (i := 240) (by decide +kernel) (by decide)
theorem rw_241 : Cond.code yX3_takeSpare prog_1_method_25_code 2 none ∈ rsW := rsW_t (i := 241) (by decide +kernel) (by decide)
theorem rw_242 : Cond.methodLink RL 37 yX3_remove ∈ rsW := rsW_t (i := 242) (by decide +kernel) (by decide)
theorem rw_243 : Cond.instanceMethod yX3_remove ∈ rsW := rsW_t (i := 243) (by decide +kernel) (by decide)
theorem rw_244 : Cond.selects RX3 yX3_remove yX3_remove ∈ rsW := rsW_t (i := 244) (by decide +kernel) (by decide)
theorem rw_245 : Cond.code yX3_remove prog_1_method_7_code 2 (Option.some .boolean) ∈ rsW := rsW_t (i := 245) (by decide +kernel) (by decide)
theorem rw_246 : Cond.methodLink RX3 77 yX3_takeOut ∈ rsW := rsW_t (i := 246) (by decide +kernel) (by decide)
theorem rw_248 : Cond.instanceMethod yX3_takeOut ∈ rsW := rsW_t (i := 248) (by decide +kernel) (by decide)
theorem rw_249 : Cond.code yX3_takeOut prog_1_method_24_code 2 (Option.some .boolean) ∈ rsW := rsW_t (i := 249) (by decide +kernel) (by decide)
theorem rw_250 : Cond.methodLink RX3 138 yX1_coarsenInto ∈ rsW := rsW_t (i := 250) (by decide +kernel) (by decide)
theorem rw_251 : Cond.instanceMethod yX1_coarsenInto ∈ rsW := rsW_t (i := 251) (by decide +kernel) (by decide)
theorem rw_252 : Cond.selects RX1 yX1_coarsenInto yX1_coarsenInto ∈ rsW := rsW_t (i := 252) (by decide +kernel) (by decide)
theorem rw_253 : Cond.code yX1_coarsenInto prog_3_method_13_code 6 none ∈ rsW := rsW_t (i := 253) (by decide +kernel) (by decide)
theorem rw_254 : Cond.methodLink RX1 72 yX1_unblended ∈ rsW := rsW_t (i := 254) (by decide +kernel) (by decide)
theorem rw_256 : Cond.instanceMethod yX1_unblended ∈ rsW := rsW_t (i := 256) (by decide +kernel) (by decide)
theorem rw_257 : Cond.code yX1_unblended prog_3_method_14_code 7 (Option.some .long) ∈ rsW := rsW_t (i := 257) (by decide +kernel) (by decide)
theorem rw_258 : Cond.methodLink RX3 141 yX1_weightsArePositive ∈ rsW := rsW_t (i := 258) (by decide +kernel) (by decide)
theorem rw_259 : Cond.instanceMethod yX1_weightsArePositive ∈ rsW := rsW_t (i := 259) (by decide +kernel) (by decide)
theorem rw_260 : Cond.selects RX1 yX1_weightsArePositive yX1_weightsArePositive ∈ rsW := rsW_t (i := 260) (by decide +kernel) (by decide)
theorem rw_261 : Cond.code yX1_weightsArePositive prog_3_method_7_code 2 (Option.some .boolean) ∈ rsW := rsW_t (i := 261) (by decide +kernel) (by decide)
theorem rw_262 : Cond.methodLink RX3 144 yX1_refinesTo ∈ rsW := rsW_t (i := 262) (by decide +kernel) (by decide)
theorem rw_263 : Cond.instanceMethod yX1_refinesTo ∈ rsW := rsW_t (i := 263) (by decide +kernel) (by decide)
theorem rw_264 : Cond.selects RX1 yX1_refinesTo yX1_refinesTo ∈ rsW := rsW_t (i := 264) (by decide +kernel) (by decide)
theorem rw_265 : Cond.code yX1_refinesTo prog_3_method_12_code 6 (Option.some .boolean) ∈ rsW := rsW_t (i := 265) (by decide +kernel) (by decide)
theorem rw_266 : Cond.methodLink RL 41 yX3_decompose ∈ rsW := rsW_t (i := 266) (by decide +kernel) (by decide)
theorem rw_267 : Cond.instanceMethod yX3_decompose ∈ rsW := rsW_t (i := 267) (by decide +kernel) (by decide)
theorem rw_268 : Cond.selects RX3 yX3_decompose yX3_decompose ∈ rsW := rsW_t (i := 268) (by decide +kernel) (by decide)
theorem rw_269 : Cond.code yX3_decompose prog_1_method_8_code 4 (Option.some .int) ∈ rsW := rsW_t (i := 269) (by decide +kernel) (by decide)
theorem rw_270 : Cond.methodLink RL 45 yX3_thin ∈ rsW := rsW_t (i := 270) (by decide +kernel) (by decide)
theorem rw_271 : Cond.instanceMethod yX3_thin ∈ rsW := rsW_t (i := 271) (by decide +kernel) (by decide)
theorem rw_272 : Cond.selects RX3 yX3_thin yX3_thin ∈ rsW := rsW_t (i := 272) (by decide +kernel) (by decide)
theorem rw_273 : Cond.code yX3_thin prog_1_method_9_code 4 (Option.some .int) ∈ rsW := rsW_t (i := 273) (by decide +kernel) (by decide)
theorem rw_274 : Cond.methodLink RL 49 yX3_elevate ∈ rsW := rsW_t (i := 274) (by decide +kernel) (by decide)
theorem rw_275 : Cond.instanceMethod yX3_elevate ∈ rsW := rsW_t (i := 275) (by decide +kernel) (by decide)
theorem rw_276 : Cond.selects RX3 yX3_elevate yX3_elevate ∈ rsW := rsW_t (i := 276) (by decide +kernel) (by decide)
theorem rw_277 : Cond.code yX3_elevate prog_1_method_10_code 1 (Option.some .boolean) ∈ rsW := rsW_t (i := 277) (by decide +kernel) (by decide)
theorem rw_278 : Cond.methodLink RX3 80 yX1_raiseInto ∈ rsW := rsW_t (i := 278) (by decide +kernel) (by decide)
theorem rw_279 : Cond.instanceMethod yX1_raiseInto ∈ rsW := rsW_t (i := 279) (by decide +kernel) (by decide)
theorem rw_280 : Cond.selects RX1 yX1_raiseInto yX1_raiseInto ∈ rsW := rsW_t (i := 280) (by decide +kernel) (by decide)
theorem rw_281 : Cond.code yX1_raiseInto prog_3_method_15_code 5 none ∈ rsW := rsW_t (i := 281) (by decide +kernel) (by decide)
theorem rw_282 : Cond.methodLink RX1 76 yX1_raised ∈ rsW := rsW_t (i := 282) (by decide +kernel) (by decide)
theorem rw_284 : Cond.instanceMethod yX1_raised ∈ rsW := rsW_t (i := 284) (by decide +kernel) (by decide)
theorem rw_285 : Cond.code yX1_raised prog_3_method_16_code 10 (Option.some .long) ∈ rsW := rsW_t (i := 285) (by decide +kernel) (by decide)
theorem rw_286 : Cond.methodLink RX1 80 yX1_blossom ∈ rsW := rsW_t (i := 286) (by decide +kernel) (by decide)
theorem rw_288 : Cond.instanceMethod yX1_blossom ∈ rsW := rsW_t (i := 288) (by decide +kernel) (by decide)
theorem rw_289 : Cond.code yX1_blossom prog_3_method_22_code 8 (Option.some .long) ∈ rsW := rsW_t (i := 289) (by decide +kernel) (by decide)
theorem rw_290 : Cond.constantLong RX1 83 60 ∈ rsW := rsW_t (i := 290) (by decide +kernel) (by decide)
theorem rw_291 : Cond.methodLink RL 54 yX3_reverse ∈ rsW := rsW_t (i := 291) (by decide +kernel) (by decide)
theorem rw_292 : Cond.instanceMethod yX3_reverse ∈ rsW := rsW_t (i := 292) (by decide +kernel) (by decide)
theorem rw_293 : Cond.selects RX3 yX3_reverse yX3_reverse ∈ rsW := rsW_t (i := 293) (by decide +kernel) (by decide)
theorem rw_294 : Cond.code yX3_reverse prog_1_method_11_code 1 (Option.some .boolean) ∈ rsW := rsW_t (i := 294) (by decide +kernel) (by decide)
theorem rw_295 : Cond.methodLink RX3 86 yX1_turnInto ∈ rsW := rsW_t (i := 295) (by decide +kernel) (by decide)
theorem rw_296 : Cond.instanceMethod yX1_turnInto ∈ rsW := rsW_t (i := 296) (by decide +kernel) (by decide)
theorem rw_297 : Cond.selects RX1 yX1_turnInto yX1_turnInto ∈ rsW := rsW_t (i := 297) (by decide +kernel) (by decide)
theorem rw_298 : Cond.code yX1_turnInto prog_3_method_17_code 4 none ∈ rsW := rsW_t (i := 298) (by decide +kernel) (by decide)
theorem rw_299 : Cond.methodLink RL 58 yX3_degree ∈ rsW := rsW_t (i := 299) (by decide +kernel) (by decide)
theorem rw_300 : Cond.instanceMethod yX3_degree ∈ rsW := rsW_t (i := 300) (by decide +kernel) (by decide)
theorem rw_301 : Cond.selects RX3 yX3_degree yX3_degree ∈ rsW := rsW_t (i := 301) (by decide +kernel) (by decide)
theorem rw_302 : Cond.code yX3_degree prog_1_method_12_code 1 (Option.some .int) ∈ rsW := rsW_t (i := 302) (by decide +kernel) (by decide)
theorem rw_303 : Cond.methodLink RL 62 yX3_points ∈ rsW := rsW_t (i := 303) (by decide +kernel) (by decide)
theorem rw_304 : Cond.instanceMethod yX3_points ∈ rsW := rsW_t (i := 304) (by decide +kernel) (by decide)
theorem rw_305 : Cond.selects RX3 yX3_points yX3_points ∈ rsW := rsW_t (i := 305) (by decide +kernel) (by decide)
theorem rw_306 : Cond.code yX3_points prog_1_method_13_code 1 (Option.some .int) ∈ rsW := rsW_t (i := 306) (by decide +kernel) (by decide)
theorem rw_307 : Cond.methodLink RL 66 yX3_knotAt ∈ rsW := rsW_t (i := 307) (by decide +kernel) (by decide)
theorem rw_308 : Cond.instanceMethod yX3_knotAt ∈ rsW := rsW_t (i := 308) (by decide +kernel) (by decide)
theorem rw_309 : Cond.selects RX3 yX3_knotAt yX3_knotAt ∈ rsW := rsW_t (i := 309) (by decide +kernel) (by decide)
theorem rw_310 : Cond.code yX3_knotAt prog_1_method_14_code 2 (Option.some .int) ∈ rsW := rsW_t (i := 310) (by decide +kernel) (by decide)
theorem rw_311 : Cond.methodLink RX3 92 yX1_knotCount ∈ rsW := rsW_t (i := 311) (by decide +kernel) (by decide)
theorem rw_312 : Cond.methodLink RL 70 yX3_control ∈ rsW := rsW_t (i := 312) (by decide +kernel) (by decide)
theorem rw_313 : Cond.instanceMethod yX3_control ∈ rsW := rsW_t (i := 313) (by decide +kernel) (by decide)
theorem rw_314 : Cond.selects RX3 yX3_control yX3_control ∈ rsW := rsW_t (i := 314) (by decide +kernel) (by decide)
theorem rw_315 : Cond.code yX3_control prog_1_method_15_code 3 (Option.some .long) ∈ rsW := rsW_t (i := 315) (by decide +kernel) (by decide)
theorem rw_316 : Cond.methodLink RX3 99 yX1_number ∈ rsW := rsW_t (i := 316) (by decide +kernel) (by decide)
theorem rw_317 : Cond.methodLink RL 75 yX3_span ∈ rsW := rsW_t (i := 317) (by decide +kernel) (by decide)
theorem rw_318 : Cond.instanceMethod yX3_span ∈ rsW := rsW_t (i := 318) (by decide +kernel) (by decide)
theorem rw_319 : Cond.selects RX3 yX3_span yX3_span ∈ rsW := rsW_t (i := 319) (by decide +kernel) (by decide)
theorem rw_320 : Cond.code yX3_span prog_1_method_16_code 2 (Option.some .int) ∈ rsW := rsW_t (i := 320) (by decide +kernel) (by decide)
theorem rw_321 : Cond.methodLink RX3 103 yX3_isParameter ∈ rsW := rsW_t (i := 321) (by decide +kernel) (by decide)
theorem rw_322 : Cond.static yX3_isParameter ∈ rsW := rsW_t (i := 322) (by decide +kernel) (by decide)
theorem rw_323 : Cond.code yX3_isParameter prog_1_method_22_code 1 (Option.some .boolean) ∈ rsW := rsW_t (i := 323) (by decide +kernel) (by decide)
theorem rw_324 : Cond.methodLink RX3 106 yX1_spanOf ∈ rsW := rsW_t (i := 324) (by decide +kernel) (by decide)
theorem rw_325 : Cond.methodLink RL 79 yX3_basis ∈ rsW := rsW_t (i := 325) (by decide +kernel) (by decide)
theorem rw_326 : Cond.instanceMethod yX3_basis ∈ rsW := rsW_t (i := 326) (by decide +kernel) (by decide)
theorem rw_327 : Cond.selects RX3 yX3_basis yX3_basis ∈ rsW := rsW_t (i := 327) (by decide +kernel) (by decide)
theorem rw_328 : Cond.code yX3_basis prog_1_method_17_code 3 (Option.some .long) ∈ rsW := rsW_t (i := 328) (by decide +kernel) (by decide)
theorem rw_329 : Cond.constantLong RX3 109 (-1) ∈ rsW := rsW_t (i := 329) (by decide +kernel) (by decide)
theorem rw_330 : Cond.methodLink RX3 111 yX1_basisOf ∈ rsW := rsW_t (i := 330) (by decide +kernel) (by decide)
theorem rw_331 : Cond.instanceMethod yX1_basisOf ∈ rsW := rsW_t (i := 331) (by decide +kernel) (by decide)
theorem rw_332 : Cond.selects RX1 yX1_basisOf yX1_basisOf ∈ rsW := rsW_t (i := 332) (by decide +kernel) (by decide)
theorem rw_333 : Cond.code yX1_basisOf prog_3_method_18_code 8 (Option.some .long) ∈ rsW := rsW_t (i := 333) (by decide +kernel) (by decide)
theorem rw_334 : Cond.methodLink RX1 85 yX1_factor ∈ rsW := rsW_t (i := 334) (by decide +kernel) (by decide)
theorem rw_335 : Cond.static yX1_factor ∈ rsW := rsW_t (i := 335) (by decide +kernel) (by decide)
theorem rw_336 : Cond.code yX1_factor prog_3_method_19_code 2 (Option.some .long) ∈ rsW := rsW_t (i := 336) (by decide +kernel) (by decide)
theorem rw_337 : Cond.methodLink RL 83 yX3_locate ∈ rsW := rsW_t (i := 337) (by decide +kernel) (by decide)
theorem rw_338 : Cond.instanceMethod yX3_locate ∈ rsW := rsW_t (i := 338) (by decide +kernel) (by decide)
theorem rw_339 : Cond.selects RX3 yX3_locate yX3_locate ∈ rsW := rsW_t (i := 339) (by decide +kernel) (by decide)
theorem rw_340 : Cond.code yX3_locate prog_1_method_18_code 3 (Option.some .int) ∈ rsW := rsW_t (i := 340) (by decide +kernel) (by decide)
theorem rw_341 : Cond.constant RX3 114 (-2147483648) ∈ rsW := rsW_t (i := 341) (by decide +kernel) (by decide)
theorem rw_342 : Cond.methodLink RX3 115 yX1_goTo ∈ rsW := rsW_t (i := 342) (by decide +kernel) (by decide)
theorem rw_343 : Cond.instanceMethod yX1_goTo ∈ rsW := rsW_t (i := 343) (by decide +kernel) (by decide)
theorem rw_344 : Cond.selects RX1 yX1_goTo yX1_goTo ∈ rsW := rsW_t (i := 344) (by decide +kernel) (by decide)
theorem rw_345 : Cond.code yX1_goTo prog_3_method_20_code 5 none ∈ rsW := rsW_t (i := 345) (by decide +kernel) (by decide)
theorem rw_346 : Cond.methodLink RX1 88 yX1_thousandths ∈ rsW := rsW_t (i := 346) (by decide +kernel) (by decide)
theorem rw_347 : Cond.static yX1_thousandths ∈ rsW := rsW_t (i := 347) (by decide +kernel) (by decide)
theorem rw_348 : Cond.code yX1_thousandths prog_3_method_21_code 4 (Option.some .int) ∈ rsW := rsW_t (i := 348) (by decide +kernel) (by decide)
theorem rw_349 : Cond.constantLong RX1 98 1000 ∈ rsW := rsW_t (i := 349) (by decide +kernel) (by decide)
theorem rw_350 : Cond.methodLink RX1 100 yJ_floorDiv ∈ rsW := rsW_t (i := 350) (by decide +kernel) (by decide)
theorem rw_351 : Cond.static yJ_floorDiv ∈ rsW := rsW_t (i := 351) (by decide +kernel) (by decide)
theorem rw_352 : Cond.code yJ_floorDiv prog_7_method_49_code 6 (Option.some .long) ∈ rsW := rsW_t (i := 352) (by decide +kernel) (by decide)
theorem rw_353 : Cond.methodLink RL 88 yX3_tessellate ∈ rsW := rsW_t (i := 353) (by decide +kernel) (by decide)
theorem rw_354 : Cond.instanceMethod yX3_tessellate ∈ rsW := rsW_t (i := 354) (by decide +kernel) (by decide)
theorem rw_355 : Cond.selects RX3 yX3_tessellate yX3_tessellate ∈ rsW := rsW_t (i := 355) (by decide +kernel) (by decide)
theorem rw_356 : Cond.code yX3_tessellate prog_1_method_19_code 4 (Option.some .int) ∈ rsW := rsW_t (i := 356) (by decide +kernel) (by decide)
theorem rw_357 : Cond.methodLink RX3 124 yX0_cutAll ∈ rsW := rsW_t (i := 357) (by decide +kernel) (by decide)
theorem rw_358 : Cond.instanceMethod yX0_cutAll ∈ rsW := rsW_t (i := 358) (by decide +kernel) (by decide)
theorem rw_359 : Cond.selects RX0 yX0_cutAll yX0_cutAll ∈ rsW := rsW_t (i := 359) (by decide +kernel) (by decide)
theorem rw_360 : Cond.code yX0_cutAll prog_2_method_3_code 8 (Option.some .int) ∈ rsW := rsW_t (i := 360) (by decide +kernel) (by decide)
theorem rw_361 : Cond.methodLink RX0 31 yX0_addVertex ∈ rsW := rsW_t (i := 361) (by decide +kernel) (by decide)
theorem rw_363 : Cond.instanceMethod yX0_addVertex ∈ rsW := rsW_t (i := 363) (by decide +kernel) (by decide)
theorem rw_364 : Cond.code yX0_addVertex prog_2_method_7_code 2 none ∈ rsW := rsW_t (i := 364) (by decide +kernel) (by decide)
theorem rw_365 : Cond.methodLink RX0 35 yX0_look ∈ rsW := rsW_t (i := 365) (by decide +kernel) (by decide)
theorem rw_367 : Cond.instanceMethod yX0_look ∈ rsW := rsW_t (i := 367) (by decide +kernel) (by decide)
theorem rw_368 : Cond.code yX0_look prog_2_method_6_code 3 none ∈ rsW := rsW_t (i := 368) (by decide +kernel) (by decide)
theorem rw_369 : Cond.methodLink RX0 64 yX1_goTo ∈ rsW := rsW_t (i := 369) (by decide +kernel) (by decide)
theorem rw_370 : Cond.methodLink RX0 50 yX0_cut ∈ rsW := rsW_t (i := 370) (by decide +kernel) (by decide)
theorem rw_372 : Cond.instanceMethod yX0_cut ∈ rsW := rsW_t (i := 372) (by decide +kernel) (by decide)
theorem rw_373 : Cond.code yX0_cut prog_2_method_4_code 6 none ∈ rsW := rsW_t (i := 373) (by decide +kernel) (by decide)
theorem rw_374 : Cond.methodLink RX0 54 yX0_isStraight ∈ rsW := rsW_t (i := 374) (by decide +kernel) (by decide)
theorem rw_376 : Cond.instanceMethod yX0_isStraight ∈ rsW := rsW_t (i := 376) (by decide +kernel) (by decide)
theorem rw_377 : Cond.code yX0_isStraight prog_2_method_5_code 5 (Option.some .boolean) ∈ rsW := rsW_t (i := 377) (by decide +kernel) (by decide)
theorem rw_378 : Cond.methodLink RX0 58 ⟨"java/lang/Math", "abs", "(I)I"⟩ ∈ rsW := rsW_t (i := 378) (by decide +kernel) (by decide)
theorem rw_379 : Cond.static ⟨"java/lang/Math", "abs", "(I)I"⟩ ∈ rsW := rsW_t (i := 379) (by decide +kernel) (by decide)
theorem rw_380 : Cond.code ⟨"java/lang/Math", "abs", "(I)I"⟩ prog_7_method_59_code 1 (Option.some .int) ∈ rsW := rsW_t (i := 380) (by decide +kernel) (by decide)
theorem rw_381 : Cond.methodLink RL 93 yX3_vertex ∈ rsW := rsW_t (i := 381) (by decide +kernel) (by decide)
theorem rw_382 : Cond.instanceMethod yX3_vertex ∈ rsW := rsW_t (i := 382) (by decide +kernel) (by decide)
theorem rw_383 : Cond.selects RX3 yX3_vertex yX3_vertex ∈ rsW := rsW_t (i := 383) (by decide +kernel) (by decide)
theorem rw_384 : Cond.code yX3_vertex prog_1_method_20_code 2 (Option.some .int) ∈ rsW := rsW_t (i := 384) (by decide +kernel) (by decide)
theorem rw_385 : Cond.classLink RL 10 RX4 ∈ rsW := rsW_t (i := 385) (by decide +kernel) (by decide)
theorem rw_386 : Cond.instantiable RX4 18 ∈ rsW := rsW_t (i := 386) (by decide +kernel) (by decide)
theorem rw_387 : Cond.methodLink RL 12 yX4_init ∈ rsW := rsW_t (i := 387) (by decide +kernel) (by decide)
theorem rw_388 : Cond.instanceMethod yX4_init ∈ rsW := rsW_t (i := 388) (by decide +kernel) (by decide)
theorem rw_389 : Cond.code yX4_init prog_6_method_1_code 1 none ∈ rsW := rsW_t (i := 389) (by decide +kernel) (by decide)
theorem rw_390 : Cond.methodLink RX4 1 ⟨"java/lang/Object", "<init>", "()V"⟩ ∈ rsW := rsW_t (i := 390) (by decide +kernel) (by decide)
theorem rw_391 : Cond.fieldLink RX4 47 "RefinedSplineModel" "draftDegree" "I" ∈ rsW := rsW_t (i := 391) (by decide +kernel) (by decide)
theorem rw_392 : Cond.fieldLink RX4 51 "RefinedSplineModel" "draftPoints" "I" ∈ rsW := rsW_t (i := 392) (by decide +kernel) (by decide)
theorem rw_393 : Cond.fieldLink RX4 54 "RefinedSplineModel" "draftKnots" "I" ∈ rsW := rsW_t (i := 393) (by decide +kernel) (by decide)
theorem rw_394 : Cond.fieldLink RX4 7 "RefinedSplineModel" "draftX" "[I" ∈ rsW := rsW_t (i := 394) (by decide +kernel) (by decide)
theorem rw_395 : Cond.fieldLink RX4 13 "RefinedSplineModel" "draftY" "[I" ∈ rsW := rsW_t (i := 395) (by decide +kernel) (by decide)
theorem rw_396 : Cond.fieldLink RX4 16 "RefinedSplineModel" "draftW" "[I" ∈ rsW := rsW_t (i := 396) (by decide +kernel) (by decide)
theorem rw_397 : Cond.fieldLink RX4 19 "RefinedSplineModel" "draftKnot" "[I" ∈ rsW := rsW_t (i := 397) (by decide +kernel) (by decide)
theorem rw_398 : Cond.fieldLink RX4 57 "RefinedSplineModel" "p" "I" ∈ rsW := rsW_t (i := 398) (by decide +kernel) (by decide)
theorem rw_399 : Cond.fieldLink RX4 22 "RefinedSplineModel" "times" "[I" ∈ rsW := rsW_t (i := 399) (by decide +kernel) (by decide)
theorem rw_400 : Cond.fieldLink RX4 25 "RefinedSplineModel" "piece" "[J" ∈ rsW := rsW_t (i := 400) (by decide +kernel) (by decide)
theorem rw_401 : Cond.fieldLink RX4 29 "RefinedSplineModel" "t" "[I" ∈ rsW := rsW_t (i := 401) (by decide +kernel) (by decide)
theorem rw_402 : Cond.fieldLink RX4 70 "RefinedSplineModel" "n" "I" ∈ rsW := rsW_t (i := 402) (by decide +kernel) (by decide)
theorem rw_403 : Cond.fieldLink RX4 67 "RefinedSplineModel" "vertices" "I" ∈ rsW := rsW_t (i := 403) (by decide +kernel) (by decide)
theorem rw_404 : Cond.fieldLink RX4 32 "RefinedSplineModel" "vertexAt" "[I" ∈ rsW := rsW_t (i := 404) (by decide +kernel) (by decide)
theorem rw_405 : Cond.fieldLink RX4 35 "RefinedSplineModel" "poly" "[J" ∈ rsW := rsW_t (i := 405) (by decide +kernel) (by decide)
theorem rw_406 : Cond.fieldLink RX4 38 "RefinedSplineModel" "value" "[J" ∈ rsW := rsW_t (i := 406) (by decide +kernel) (by decide)
theorem rw_407 : Cond.fieldLink RX4 41 "RefinedSplineModel" "endAt" "[I" ∈ rsW := rsW_t (i := 407) (by decide +kernel) (by decide)
theorem rw_408 : Cond.fieldLink RX4 44 "RefinedSplineModel" "leftAt" "[I" ∈ rsW := rsW_t (i := 408) (by decide +kernel) (by decide)
theorem rw_446 : Cond.methodLink RL 17 yX4_begin ∈ rsW := rsW_t (i := 446) (by decide +kernel) (by decide)
theorem rw_447 : Cond.instanceMethod yX4_begin ∈ rsW := rsW_t (i := 447) (by decide +kernel) (by decide)
theorem rw_448 : Cond.selects RX4 yX4_begin yX4_begin ∈ rsW := rsW_t (i := 448) (by decide +kernel) (by decide)
theorem rw_449 : Cond.code yX4_begin prog_6_method_2_code 2 (Option.some .boolean) ∈ rsW := rsW_t (i := 449) (by decide +kernel) (by decide)
theorem rw_450 : Cond.methodLink RL 22 yX4_point ∈ rsW := rsW_t (i := 450) (by decide +kernel) (by decide)
theorem rw_451 : Cond.instanceMethod yX4_point ∈ rsW := rsW_t (i := 451) (by decide +kernel) (by decide)
theorem rw_452 : Cond.selects RX4 yX4_point yX4_point ∈ rsW := rsW_t (i := 452) (by decide +kernel) (by decide)
theorem rw_453 : Cond.code yX4_point prog_6_method_3_code 4 (Option.some .boolean) ∈ rsW := rsW_t (i := 453) (by decide +kernel) (by decide)
theorem rw_454 : Cond.methodLink RL 26 yX4_knot ∈ rsW := rsW_t (i := 454) (by decide +kernel) (by decide)
theorem rw_455 : Cond.instanceMethod yX4_knot ∈ rsW := rsW_t (i := 455) (by decide +kernel) (by decide)
theorem rw_456 : Cond.selects RX4 yX4_knot yX4_knot ∈ rsW := rsW_t (i := 456) (by decide +kernel) (by decide)
theorem rw_457 : Cond.code yX4_knot prog_6_method_4_code 4 (Option.some .boolean) ∈ rsW := rsW_t (i := 457) (by decide +kernel) (by decide)
theorem rw_458 : Cond.methodLink RL 31 yX4_finish ∈ rsW := rsW_t (i := 458) (by decide +kernel) (by decide)
theorem rw_459 : Cond.instanceMethod yX4_finish ∈ rsW := rsW_t (i := 459) (by decide +kernel) (by decide)
theorem rw_460 : Cond.selects RX4 yX4_finish yX4_finish ∈ rsW := rsW_t (i := 460) (by decide +kernel) (by decide)
theorem rw_461 : Cond.code yX4_finish prog_6_method_5_code 2 (Option.some .int) ∈ rsW := rsW_t (i := 461) (by decide +kernel) (by decide)
theorem rw_462 : Cond.methodLink RX4 60 yX4_layKnots ∈ rsW := rsW_t (i := 462) (by decide +kernel) (by decide)
theorem rw_464 : Cond.instanceMethod yX4_layKnots ∈ rsW := rsW_t (i := 464) (by decide +kernel) (by decide)
theorem rw_465 : Cond.code yX4_layKnots prog_6_method_6_code 5 none ∈ rsW := rsW_t (i := 465) (by decide +kernel) (by decide)
theorem rw_466 : Cond.methodLink RX4 63 yX4_makePiece ∈ rsW := rsW_t (i := 466) (by decide +kernel) (by decide)
theorem rw_468 : Cond.instanceMethod yX4_makePiece ∈ rsW := rsW_t (i := 468) (by decide +kernel) (by decide)
theorem rw_469 : Cond.code yX4_makePiece prog_6_method_9_code 10 none ∈ rsW := rsW_t (i := 469) (by decide +kernel) (by decide)
theorem rw_470 : Cond.methodLink RX4 73 yX4_spanOf ∈ rsW := rsW_t (i := 470) (by decide +kernel) (by decide)
theorem rw_472 : Cond.instanceMethod yX4_spanOf ∈ rsW := rsW_t (i := 472) (by decide +kernel) (by decide)
theorem rw_473 : Cond.code yX4_spanOf prog_6_method_7_code 4 (Option.some .int) ∈ rsW := rsW_t (i := 473) (by decide +kernel) (by decide)
theorem rw_474 : Cond.methodLink RX4 77 yX4_mix ∈ rsW := rsW_t (i := 474) (by decide +kernel) (by decide)
theorem rw_476 : Cond.instanceMethod yX4_mix ∈ rsW := rsW_t (i := 476) (by decide +kernel) (by decide)
theorem rw_477 : Cond.code yX4_mix prog_6_method_10_code 23 none ∈ rsW := rsW_t (i := 477) (by decide +kernel) (by decide)
theorem rw_478 : Cond.constantLong RX4 81 3600 ∈ rsW := rsW_t (i := 478) (by decide +kernel) (by decide)
theorem rw_479 : Cond.constantLong RX4 83 60 ∈ rsW := rsW_t (i := 479) (by decide +kernel) (by decide)
theorem rw_480 : Cond.methodLink RX4 85 yX4_drafted ∈ rsW := rsW_t (i := 480) (by decide +kernel) (by decide)
theorem rw_482 : Cond.instanceMethod yX4_drafted ∈ rsW := rsW_t (i := 482) (by decide +kernel) (by decide)
theorem rw_483 : Cond.code yX4_drafted prog_6_method_8_code 5 (Option.some .long) ∈ rsW := rsW_t (i := 483) (by decide +kernel) (by decide)
theorem rw_484 : Cond.methodLink RL 36 yX4_insert ∈ rsW := rsW_t (i := 484) (by decide +kernel) (by decide)
theorem rw_485 : Cond.instanceMethod yX4_insert ∈ rsW := rsW_t (i := 485) (by decide +kernel) (by decide)
theorem rw_486 : Cond.selects RX4 yX4_insert yX4_insert ∈ rsW := rsW_t (i := 486) (by decide +kernel) (by decide)
theorem rw_487 : Cond.code yX4_insert prog_6_method_15_code 2 (Option.some .int) ∈ rsW := rsW_t (i := 487) (by decide +kernel) (by decide)
theorem rw_488 : Cond.methodLink RL 40 yX4_remove ∈ rsW := rsW_t (i := 488) (by decide +kernel) (by decide)
theorem rw_489 : Cond.instanceMethod yX4_remove ∈ rsW := rsW_t (i := 489) (by decide +kernel) (by decide)
theorem rw_490 : Cond.selects RX4 yX4_remove yX4_remove ∈ rsW := rsW_t (i := 490) (by decide +kernel) (by decide)
theorem rw_491 : Cond.code yX4_remove prog_6_method_16_code 2 (Option.some .boolean) ∈ rsW := rsW_t (i := 491) (by decide +kernel) (by decide)
theorem rw_492 : Cond.methodLink RX4 99 yX4_smooth ∈ rsW := rsW_t (i := 492) (by decide +kernel) (by decide)
theorem rw_494 : Cond.instanceMethod yX4_smooth ∈ rsW := rsW_t (i := 494) (by decide +kernel) (by decide)
theorem rw_495 : Cond.code yX4_smooth prog_6_method_13_code 9 (Option.some .boolean) ∈ rsW := rsW_t (i := 495) (by decide +kernel) (by decide)
theorem rw_496 : Cond.methodLink RX4 93 yX4_choose ∈ rsW := rsW_t (i := 496) (by decide +kernel) (by decide)
theorem rw_497 : Cond.static yX4_choose ∈ rsW := rsW_t (i := 497) (by decide +kernel) (by decide)
theorem rw_498 : Cond.code yX4_choose prog_6_method_12_code 2 (Option.some .long) ∈ rsW := rsW_t (i := 498) (by decide +kernel) (by decide)
theorem rw_499 : Cond.methodLink RX4 103 yX4_weighty ∈ rsW := rsW_t (i := 499) (by decide +kernel) (by decide)
theorem rw_501 : Cond.instanceMethod yX4_weighty ∈ rsW := rsW_t (i := 501) (by decide +kernel) (by decide)
theorem rw_502 : Cond.code yX4_weighty prog_6_method_14_code 2 (Option.some .boolean) ∈ rsW := rsW_t (i := 502) (by decide +kernel) (by decide)
theorem rw_503 : Cond.methodLink RX4 96 yX4_controlOf ∈ rsW := rsW_t (i := 503) (by decide +kernel) (by decide)
theorem rw_505 : Cond.instanceMethod yX4_controlOf ∈ rsW := rsW_t (i := 505) (by decide +kernel) (by decide)
theorem rw_506 : Cond.code yX4_controlOf prog_6_method_11_code 19 (Option.some .long) ∈ rsW := rsW_t (i := 506) (by decide +kernel) (by decide)
theorem rw_507 : Cond.constantLong RX4 89 2 ∈ rsW := rsW_t (i := 507) (by decide +kernel) (by decide)
theorem rw_508 : Cond.constantLong RX4 91 3 ∈ rsW := rsW_t (i := 508) (by decide +kernel) (by decide)
theorem rw_509 : Cond.methodLink RL 44 yX4_decompose ∈ rsW := rsW_t (i := 509) (by decide +kernel) (by decide)
theorem rw_510 : Cond.instanceMethod yX4_decompose ∈ rsW := rsW_t (i := 510) (by decide +kernel) (by decide)
theorem rw_511 : Cond.selects RX4 yX4_decompose yX4_decompose ∈ rsW := rsW_t (i := 511) (by decide +kernel) (by decide)
theorem rw_512 : Cond.code yX4_decompose prog_6_method_17_code 3 (Option.some .int) ∈ rsW := rsW_t (i := 512) (by decide +kernel) (by decide)
theorem rw_513 : Cond.methodLink RL 48 yX4_thin ∈ rsW := rsW_t (i := 513) (by decide +kernel) (by decide)
theorem rw_514 : Cond.instanceMethod yX4_thin ∈ rsW := rsW_t (i := 514) (by decide +kernel) (by decide)
theorem rw_515 : Cond.selects RX4 yX4_thin yX4_thin ∈ rsW := rsW_t (i := 515) (by decide +kernel) (by decide)
theorem rw_516 : Cond.code yX4_thin prog_6_method_18_code 5 (Option.some .int) ∈ rsW := rsW_t (i := 516) (by decide +kernel) (by decide)
theorem rw_517 : Cond.methodLink RX4 107 yX4_remove ∈ rsW := rsW_t (i := 517) (by decide +kernel) (by decide)
theorem rw_518 : Cond.methodLink RL 53 yX4_elevate ∈ rsW := rsW_t (i := 518) (by decide +kernel) (by decide)
theorem rw_519 : Cond.instanceMethod yX4_elevate ∈ rsW := rsW_t (i := 519) (by decide +kernel) (by decide)
theorem rw_520 : Cond.selects RX4 yX4_elevate yX4_elevate ∈ rsW := rsW_t (i := 520) (by decide +kernel) (by decide)
theorem rw_521 : Cond.code yX4_elevate prog_6_method_19_code 2 (Option.some .boolean) ∈ rsW := rsW_t (i := 521) (by decide +kernel) (by decide)
theorem rw_522 : Cond.methodLink RL 57 yX4_reverse ∈ rsW := rsW_t (i := 522) (by decide +kernel) (by decide)
theorem rw_523 : Cond.instanceMethod yX4_reverse ∈ rsW := rsW_t (i := 523) (by decide +kernel) (by decide)
theorem rw_524 : Cond.selects RX4 yX4_reverse yX4_reverse ∈ rsW := rsW_t (i := 524) (by decide +kernel) (by decide)
theorem rw_525 : Cond.code yX4_reverse prog_6_method_20_code 7 (Option.some .boolean) ∈ rsW := rsW_t (i := 525) (by decide +kernel) (by decide)
theorem rw_526 : Cond.methodLink RL 61 yX4_degree ∈ rsW := rsW_t (i := 526) (by decide +kernel) (by decide)
theorem rw_527 : Cond.instanceMethod yX4_degree ∈ rsW := rsW_t (i := 527) (by decide +kernel) (by decide)
theorem rw_528 : Cond.selects RX4 yX4_degree yX4_degree ∈ rsW := rsW_t (i := 528) (by decide +kernel) (by decide)
theorem rw_529 : Cond.code yX4_degree prog_6_method_21_code 1 (Option.some .int) ∈ rsW := rsW_t (i := 529) (by decide +kernel) (by decide)
theorem rw_530 : Cond.methodLink RL 65 yX4_points ∈ rsW := rsW_t (i := 530) (by decide +kernel) (by decide)
theorem rw_531 : Cond.instanceMethod yX4_points ∈ rsW := rsW_t (i := 531) (by decide +kernel) (by decide)
theorem rw_532 : Cond.selects RX4 yX4_points yX4_points ∈ rsW := rsW_t (i := 532) (by decide +kernel) (by decide)
theorem rw_533 : Cond.code yX4_points prog_6_method_22_code 1 (Option.some .int) ∈ rsW := rsW_t (i := 533) (by decide +kernel) (by decide)
theorem rw_534 : Cond.methodLink RL 69 yX4_knotAt ∈ rsW := rsW_t (i := 534) (by decide +kernel) (by decide)
theorem rw_535 : Cond.instanceMethod yX4_knotAt ∈ rsW := rsW_t (i := 535) (by decide +kernel) (by decide)
theorem rw_536 : Cond.selects RX4 yX4_knotAt yX4_knotAt ∈ rsW := rsW_t (i := 536) (by decide +kernel) (by decide)
theorem rw_537 : Cond.code yX4_knotAt prog_6_method_23_code 2 (Option.some .int) ∈ rsW := rsW_t (i := 537) (by decide +kernel) (by decide)
theorem rw_538 : Cond.methodLink RL 74 yX4_control ∈ rsW := rsW_t (i := 538) (by decide +kernel) (by decide)
theorem rw_539 : Cond.instanceMethod yX4_control ∈ rsW := rsW_t (i := 539) (by decide +kernel) (by decide)
theorem rw_540 : Cond.selects RX4 yX4_control yX4_control ∈ rsW := rsW_t (i := 540) (by decide +kernel) (by decide)
theorem rw_541 : Cond.code yX4_control prog_6_method_24_code 3 (Option.some .long) ∈ rsW := rsW_t (i := 541) (by decide +kernel) (by decide)
theorem rw_542 : Cond.methodLink RL 78 yX4_span ∈ rsW := rsW_t (i := 542) (by decide +kernel) (by decide)
theorem rw_543 : Cond.instanceMethod yX4_span ∈ rsW := rsW_t (i := 543) (by decide +kernel) (by decide)
theorem rw_544 : Cond.selects RX4 yX4_span yX4_span ∈ rsW := rsW_t (i := 544) (by decide +kernel) (by decide)
theorem rw_545 : Cond.code yX4_span prog_6_method_25_code 2 (Option.some .int) ∈ rsW := rsW_t (i := 545) (by decide +kernel) (by decide)
theorem rw_546 : Cond.methodLink RL 82 yX4_basis ∈ rsW := rsW_t (i := 546) (by decide +kernel) (by decide)
theorem rw_547 : Cond.instanceMethod yX4_basis ∈ rsW := rsW_t (i := 547) (by decide +kernel) (by decide)
theorem rw_548 : Cond.selects RX4 yX4_basis yX4_basis ∈ rsW := rsW_t (i := 548) (by decide +kernel) (by decide)
theorem rw_549 : Cond.code yX4_basis prog_6_method_26_code 12 (Option.some .long) ∈ rsW := rsW_t (i := 549) (by decide +kernel) (by decide)
theorem rw_550 : Cond.constantLong RX4 111 (-1) ∈ rsW := rsW_t (i := 550) (by decide +kernel) (by decide)
theorem rw_551 : Cond.methodLink RL 87 yX4_locate ∈ rsW := rsW_t (i := 551) (by decide +kernel) (by decide)
theorem rw_552 : Cond.instanceMethod yX4_locate ∈ rsW := rsW_t (i := 552) (by decide +kernel) (by decide)
theorem rw_553 : Cond.selects RX4 yX4_locate yX4_locate ∈ rsW := rsW_t (i := 553) (by decide +kernel) (by decide)
theorem rw_554 : Cond.code yX4_locate prog_6_method_28_code 10 (Option.some .int) ∈ rsW := rsW_t (i := 554) (by decide +kernel) (by decide)
theorem rw_555 : Cond.constant RX4 115 (-2147483648) ∈ rsW := rsW_t (i := 555) (by decide +kernel) (by decide)
theorem rw_556 : Cond.constantLong RX4 116 1000 ∈ rsW := rsW_t (i := 556) (by decide +kernel) (by decide)
theorem rw_557 : Cond.methodLink RX4 118 yX4_at ∈ rsW := rsW_t (i := 557) (by decide +kernel) (by decide)
theorem rw_559 : Cond.instanceMethod yX4_at ∈ rsW := rsW_t (i := 559) (by decide +kernel) (by decide)
theorem rw_560 : Cond.code yX4_at prog_6_method_27_code 7 (Option.some .long) ∈ rsW := rsW_t (i := 560) (by decide +kernel) (by decide)
theorem rw_561 : Cond.constantLong RX4 113 216000 ∈ rsW := rsW_t (i := 561) (by decide +kernel) (by decide)
theorem rw_562 : Cond.methodLink RL 92 yX4_tessellate ∈ rsW := rsW_t (i := 562) (by decide +kernel) (by decide)
theorem rw_563 : Cond.instanceMethod yX4_tessellate ∈ rsW := rsW_t (i := 563) (by decide +kernel) (by decide)
theorem rw_564 : Cond.selects RX4 yX4_tessellate yX4_tessellate ∈ rsW := rsW_t (i := 564) (by decide +kernel) (by decide)
theorem rw_565 : Cond.code yX4_tessellate prog_6_method_31_code 6 (Option.some .int) ∈ rsW := rsW_t (i := 565) (by decide +kernel) (by decide)
theorem rw_566 : Cond.methodLink RX4 130 yX4_cutUp ∈ rsW := rsW_t (i := 566) (by decide +kernel) (by decide)
theorem rw_568 : Cond.instanceMethod yX4_cutUp ∈ rsW := rsW_t (i := 568) (by decide +kernel) (by decide)
theorem rw_569 : Cond.code yX4_cutUp prog_6_method_30_code 10 none ∈ rsW := rsW_t (i := 569) (by decide +kernel) (by decide)
theorem rw_570 : Cond.methodLink RX4 126 yX4_straight ∈ rsW := rsW_t (i := 570) (by decide +kernel) (by decide)
theorem rw_572 : Cond.instanceMethod yX4_straight ∈ rsW := rsW_t (i := 572) (by decide +kernel) (by decide)
theorem rw_573 : Cond.code yX4_straight prog_6_method_29_code 11 (Option.some .boolean) ∈ rsW := rsW_t (i := 573) (by decide +kernel) (by decide)
theorem rw_574 : Cond.methodLink RX4 122 yX4_locate ∈ rsW := rsW_t (i := 574) (by decide +kernel) (by decide)
theorem rw_575 : Cond.methodLink RL 96 yX4_vertex ∈ rsW := rsW_t (i := 575) (by decide +kernel) (by decide)
theorem rw_576 : Cond.instanceMethod yX4_vertex ∈ rsW := rsW_t (i := 576) (by decide +kernel) (by decide)
theorem rw_577 : Cond.selects RX4 yX4_vertex yX4_vertex ∈ rsW := rsW_t (i := 577) (by decide +kernel) (by decide)
theorem rw_578 : Cond.code yX4_vertex prog_6_method_32_code 2 (Option.some .int) ∈ rsW := rsW_t (i := 578) (by decide +kernel) (by decide)
theorem rv_0 : Cond.selects RX3 yX3_putIn yX3_putIn ∈ rsW := rsW_s (i := 0) (by decide +kernel) (by decide)
theorem rv_1 : Cond.selects RX1 yX1_shareOfSame yX1_shareOfSame ∈ rsW := rsW_s (i := 1) (by decide +kernel) (by decide)
theorem rv_2 : Cond.selects RX1 yX1_shareOfPrevious yX1_shareOfPrevious ∈ rsW := rsW_s (i := 2) (by decide +kernel) (by decide)
theorem rv_3 : Cond.selects RX1 yX1_blended yX1_blended ∈ rsW := rsW_s (i := 3) (by decide +kernel) (by decide)
theorem rv_4 : Cond.selects RX3 yX3_takeSpare yX3_takeSpare ∈ rsW := rsW_s (i := 4) (by decide +kernel) (by decide)
theorem rv_5 : Cond.selects RX3 yX3_takeOut yX3_takeOut ∈ rsW := rsW_s (i := 5) (by decide +kernel) (by decide)
theorem rv_6 : Cond.selects RX1 yX1_unblended yX1_unblended ∈ rsW := rsW_s (i := 6) (by decide +kernel) (by decide)
theorem rv_7 : Cond.selects RX1 yX1_raised yX1_raised ∈ rsW := rsW_s (i := 7) (by decide +kernel) (by decide)
theorem rv_8 : Cond.selects RX1 yX1_blossom yX1_blossom ∈ rsW := rsW_s (i := 8) (by decide +kernel) (by decide)
theorem rv_9 : Cond.selects RX0 yX0_addVertex yX0_addVertex ∈ rsW := rsW_s (i := 9) (by decide +kernel) (by decide)
theorem rv_10 : Cond.selects RX0 yX0_look yX0_look ∈ rsW := rsW_s (i := 10) (by decide +kernel) (by decide)
theorem rv_11 : Cond.selects RX0 yX0_cut yX0_cut ∈ rsW := rsW_s (i := 11) (by decide +kernel) (by decide)
theorem rv_12 : Cond.selects RX0 yX0_isStraight yX0_isStraight ∈ rsW := rsW_s (i := 12) (by decide +kernel) (by decide)
theorem rv_13 : Cond.selects RX4 yX4_layKnots yX4_layKnots ∈ rsW := rsW_s (i := 13) (by decide +kernel) (by decide)
theorem rv_14 : Cond.selects RX4 yX4_makePiece yX4_makePiece ∈ rsW := rsW_s (i := 14) (by decide +kernel) (by decide)
theorem rv_15 : Cond.selects RX4 yX4_spanOf yX4_spanOf ∈ rsW := rsW_s (i := 15) (by decide +kernel) (by decide)
theorem rv_16 : Cond.selects RX4 yX4_mix yX4_mix ∈ rsW := rsW_s (i := 16) (by decide +kernel) (by decide)
theorem rv_17 : Cond.selects RX4 yX4_drafted yX4_drafted ∈ rsW := rsW_s (i := 17) (by decide +kernel) (by decide)
theorem rv_18 : Cond.selects RX4 yX4_smooth yX4_smooth ∈ rsW := rsW_s (i := 18) (by decide +kernel) (by decide)
theorem rv_19 : Cond.selects RX4 yX4_weighty yX4_weighty ∈ rsW := rsW_s (i := 19) (by decide +kernel) (by decide)
theorem rv_20 : Cond.selects RX4 yX4_controlOf yX4_controlOf ∈ rsW := rsW_s (i := 20) (by decide +kernel) (by decide)
theorem rv_21 : Cond.selects RX4 yX4_at yX4_at ∈ rsW := rsW_s (i := 21) (by decide +kernel) (by decide)
theorem rv_22 : Cond.selects RX4 yX4_cutUp yX4_cutUp ∈ rsW := rsW_s (i := 22) (by decide +kernel) (by decide)
theorem rv_23 : Cond.selects RX4 yX4_straight yX4_straight ∈ rsW := rsW_s (i := 23) (by decide +kernel) (by decide)
theorem inX0 : ∀ w ∈ u_ws RX0 TX0 6, w ∈ rsW := by
  have h : ∀ w ∈ u_ws RX0 TX0 6, w ∈ tables_1 ∧ goodWord w = true := by decide +kernel
  exact fun w hw => List.mem_filter.mpr ⟨List.mem_append_right _ (h w hw).1, (h w hw).2⟩
theorem inX1 : ∀ w ∈ u_ws RX1 TX1 8, w ∈ rsW := by
  have h : ∀ w ∈ u_ws RX1 TX1 8, w ∈ tables_1 ∧ goodWord w = true := by decide +kernel
  exact fun w hw => List.mem_filter.mpr ⟨List.mem_append_right _ (h w hw).1, (h w hw).2⟩
theorem inX2 : ∀ w ∈ u_ws RX2 TX2 7, w ∈ rsW := by
  have h : ∀ w ∈ u_ws RX2 TX2 7, w ∈ tables_1 ∧ goodWord w = true := by decide +kernel
  exact fun w hw => List.mem_filter.mpr ⟨List.mem_append_right _ (h w hw).1, (h w hw).2⟩
theorem inX3 : ∀ w ∈ u_ws RX3 TX3 4, w ∈ rsW := by
  have h : ∀ w ∈ u_ws RX3 TX3 4, w ∈ tables_1 ∧ goodWord w = true := by decide +kernel
  exact fun w hw => List.mem_filter.mpr ⟨List.mem_append_right _ (h w hw).1, (h w hw).2⟩
theorem inX4 : ∀ w ∈ u_ws RX4 TX4 18, w ∈ rsW := by
  have h : ∀ w ∈ u_ws RX4 TX4 18, w ∈ tables_1 ∧ goodWord w = true := by decide +kernel
  exact fun w hw => List.mem_filter.mpr ⟨List.mem_append_right _ (h w hw).1, (h w hw).2⟩
/-- the words on nest mates -/
def rs_nw : List Cond := [Cond.methodLinkNest RX3 11 yX2_init "RefinedSpline", Cond.methodLinkNest RX3 18 yX0_init "RefinedSpline", Cond.fieldLinkNest RX3 128 "RefinedSpline$Chords" "size" "I" "RefinedSpline", Cond.fieldLinkNest RX3 131 "RefinedSpline$Chords" "vertices" "[I" "RefinedSpline", Cond.methodLinkNest RX3 25 yX1_init "RefinedSpline", Cond.fieldLinkNest RX0 39 "RefinedSpline$Curve" "degree" "I" "RefinedSpline", Cond.fieldLinkNest RX3 70 "RefinedSpline$Curve" "degree" "I" "RefinedSpline", Cond.fieldLinkNest RX2 41 "RefinedSpline$Curve" "degree" "I" "RefinedSpline", Cond.fieldLinkNest RX0 44 "RefinedSpline$Curve" "count" "I" "RefinedSpline", Cond.fieldLinkNest RX2 44 "RefinedSpline$Curve" "count" "I" "RefinedSpline", Cond.fieldLinkNest RX3 89 "RefinedSpline$Curve" "count" "I" "RefinedSpline", Cond.fieldLinkNest RX0 47 "RefinedSpline$Curve" "knots" "[I" "RefinedSpline", Cond.fieldLinkNest RX2 45 "RefinedSpline$Curve" "knots" "[I" "RefinedSpline", Cond.fieldLinkNest RX3 95 "RefinedSpline$Curve" "knots" "[I" "RefinedSpline", Cond.fieldLinkNest RX2 50 "RefinedSpline$Curve" "rows" "[[J" "RefinedSpline", Cond.fieldLinkNest RX0 67 "RefinedSpline$Curve" "across" "I" "RefinedSpline", Cond.fieldLinkNest RX3 118 "RefinedSpline$Curve" "across" "I" "RefinedSpline", Cond.fieldLinkNest RX0 69 "RefinedSpline$Curve" "up" "I" "RefinedSpline", Cond.fieldLinkNest RX3 121 "RefinedSpline$Curve" "up" "I" "RefinedSpline", Cond.methodLinkNest RX2 38 yX3_isInner "RefinedSpline"]
