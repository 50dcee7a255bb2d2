/-! ===== BEGIN printed: names, fields, word lists, decode rows ===== -/
def RX0 : String := "WayTimes$Net"
def TX0 : u_T := fun k => match k with
  | 0 => ("WayTimes$Net", "pieces", "Ljava/util/ArrayList;", true)
  | 1 => ("WayTimes$Net", "units", "Ljava/util/ArrayList;", true)
  | 2 => ("WayTimes$Net", "newestHalf", "[I", true)
  | 3 => ("WayTimes$Net", "olderHalf", "[I", true)
  | _ => ("WayTimes$Net", "nodes", "I", false)
def tyX0 : Nat → FieldType := fun k => match k with
  | 0 => .object "java/util/ArrayList"
  | 1 => .object "java/util/ArrayList"
  | 2 => .array .int
  | 3 => .array .int
  | _ => .int
abbrev wsX00 : List Cond := u_ws RX0 TX0 5
theorem nmX0 : ∀ a, a < 5 → ∀ b, b < 5 → a ≠ b → (TX0 a).2.1 ≠ (TX0 b).2.1 := by decide +kernel
theorem tyX0_ok : ∀ k, k < 5 → parseFieldDescriptor (TX0 k).2.2.1 = some (tyX0 k) := by decide +kernel
abbrev cX0_init : ByteArray := prog_2_method_1_code
def yX0_init : MethodName := ⟨RX0, "<init>", "()V"⟩
abbrev cX0_begin : ByteArray := prog_2_method_2_code
def yX0_begin : MethodName := ⟨RX0, "begin", "(I)V"⟩
abbrev cX0_addPiece : ByteArray := prog_2_method_3_code
def yX0_addPiece : MethodName := ⟨RX0, "addPiece", "(LWayTimes$Piece;)V"⟩
abbrev cX0_hang : ByteArray := prog_2_method_4_code
def yX0_hang : MethodName := ⟨RX0, "hang", "(II)V"⟩
def RX1 : String := "WayTimes$NodeQueue"
def TX1 : u_T := fun k => match k with
  | 0 => ("WayTimes$NodeQueue", "heap", "[I", true)
  | 1 => ("WayTimes$NodeQueue", "place", "[I", true)
  | 2 => ("WayTimes$NodeQueue", "seconds", "[J", true)
  | _ => ("WayTimes$NodeQueue", "size", "I", false)
def tyX1 : Nat → FieldType := fun k => match k with
  | 0 => .array .int
  | 1 => .array .int
  | 2 => .array .long
  | _ => .int
abbrev wsX10 : List Cond := u_ws RX1 TX1 4
theorem nmX1 : ∀ a, a < 4 → ∀ b, b < 4 → a ≠ b → (TX1 a).2.1 ≠ (TX1 b).2.1 := by decide +kernel
theorem tyX1_ok : ∀ k, k < 4 → parseFieldDescriptor (TX1 k).2.2.1 = some (tyX1 k) := by decide +kernel
abbrev cX1_init : ByteArray := prog_3_method_1_code
def yX1_init : MethodName := ⟨RX1, "<init>", "()V"⟩
abbrev cX1_put : ByteArray := prog_3_method_2_code
def yX1_put : MethodName := ⟨RX1, "put", "(IJ)V"⟩
abbrev cX1_takeLeast : ByteArray := prog_3_method_3_code
def yX1_takeLeast : MethodName := ⟨RX1, "takeLeast", "()I"⟩
abbrev cX1_sinkFromTop : ByteArray := prog_3_method_4_code
def yX1_sinkFromTop : MethodName := ⟨RX1, "sinkFromTop", "(I)V"⟩
def RX2 : String := "WayTimes$Piece"
def TX2 : u_T := fun k => match k with
  | 0 => ("WayTimes$Piece", "a", "I", true)
  | 1 => ("WayTimes$Piece", "b", "I", true)
  | 2 => ("WayTimes$Piece", "metres", "I", true)
  | 3 => ("WayTimes$Piece", "speed", "I", false)
  | 4 => ("WayTimes$Piece", "weightLimit", "I", false)
  | 5 => ("WayTimes$Piece", "heightLimit", "I", false)
  | 6 => ("WayTimes$Piece", "closed", "Z", false)
  | 7 => ("WayTimes$Piece", "rows", "I", false)
  | 8 => ("WayTimes$Piece", "from", "[I", true)
  | 9 => ("WayTimes$Piece", "to", "[I", true)
  | _ => ("WayTimes$Piece", "percent", "[I", true)
def tyX2 : Nat → FieldType := fun k => match k with
  | 0 => .int
  | 1 => .int
  | 2 => .int
  | 3 => .int
  | 4 => .int
  | 5 => .int
  | 6 => .boolean
  | 7 => .int
  | 8 => .array .int
  | 9 => .array .int
  | _ => .array .int
abbrev wsX20 : List Cond := u_ws RX2 TX2 11
theorem nmX2 : ∀ a, a < 11 → ∀ b, b < 11 → a ≠ b → (TX2 a).2.1 ≠ (TX2 b).2.1 := by decide +kernel
theorem tyX2_ok : ∀ k, k < 11 → parseFieldDescriptor (TX2 k).2.2.1 = some (tyX2 k) := by decide +kernel
abbrev cX2_init : ByteArray := prog_4_method_1_code
def yX2_init : MethodName := ⟨RX2, "<init>", "(IIII)V"⟩
abbrev cX2_otherEnd : ByteArray := prog_4_method_2_code
def yX2_otherEnd : MethodName := ⟨RX2, "otherEnd", "(I)I"⟩
abbrev cX2_addRow : ByteArray := prog_4_method_3_code
def yX2_addRow : MethodName := ⟨RX2, "addRow", "(III)V"⟩
abbrev cX2_letsPass : ByteArray := prog_4_method_4_code
def yX2_letsPass : MethodName := ⟨RX2, "letsPass", "(LWayTimes$Unit;)Z"⟩
abbrev cX2_secondsFor : ByteArray := prog_4_method_5_code
def yX2_secondsFor : MethodName := ⟨RX2, "secondsFor", "(LWayTimes$Unit;II)J"⟩
abbrev cX2_percentAt : ByteArray := prog_4_method_6_code
def yX2_percentAt : MethodName := ⟨RX2, "percentAt", "(I)I"⟩
def RX3 : String := "WayTimes$Search"
def TX3 : u_T := fun k => match k with
  | 0 => ("WayTimes$Search", "net", "LWayTimes$Net;", true)
  | 1 => ("WayTimes$Search", "queue", "LWayTimes$NodeQueue;", true)
  | 2 => ("WayTimes$Search", "cost", "[J", true)
  | 3 => ("WayTimes$Search", "walks", "[J", true)
  | 4 => ("WayTimes$Search", "known", "[I", true)
  | 5 => ("WayTimes$Search", "settled", "[I", true)
  | _ => ("WayTimes$Search", "wanted", "I", false)
def tyX3 : Nat → FieldType := fun k => match k with
  | 0 => .object "WayTimes$Net"
  | 1 => .object "WayTimes$NodeQueue"
  | 2 => .array .long
  | 3 => .array .long
  | 4 => .array .int
  | 5 => .array .int
  | _ => .int
abbrev wsX30 : List Cond := u_ws RX3 TX3 7
theorem nmX3 : ∀ a, a < 7 → ∀ b, b < 7 → a ≠ b → (TX3 a).2.1 ≠ (TX3 b).2.1 := by decide +kernel
theorem tyX3_ok : ∀ k, k < 7 → parseFieldDescriptor (TX3 k).2.2.1 = some (tyX3 k) := by decide +kernel
abbrev cX3_init : ByteArray := prog_5_method_1_code
def yX3_init : MethodName := ⟨RX3, "<init>", "(LWayTimes$Net;)V"⟩
abbrev cX3_spread : ByteArray := prog_5_method_2_code
def yX3_spread : MethodName := ⟨RX3, "spread", "(ILWayTimes$Unit;II)V"⟩
abbrev cX3_leastTo : ByteArray := prog_5_method_3_code
def yX3_leastTo : MethodName := ⟨RX3, "leastTo", "(I)J"⟩
abbrev cX3_nthTo : ByteArray := prog_5_method_4_code
def yX3_nthTo : MethodName := ⟨RX3, "nthTo", "(II)J"⟩
abbrev cX3_lastPieceTo : ByteArray := prog_5_method_5_code
def yX3_lastPieceTo : MethodName := ⟨RX3, "lastPieceTo", "(I)I"⟩
abbrev cX3_bringsLeast : ByteArray := prog_5_method_6_code
def yX3_bringsLeast : MethodName := ⟨RX3, "bringsLeast", "(II)Z"⟩
abbrev cX3_pricePieces : ByteArray := prog_5_method_7_code
def yX3_pricePieces : MethodName := ⟨RX3, "pricePieces", "(LWayTimes$Unit;I)V"⟩
abbrev cX3_settle : ByteArray := prog_5_method_8_code
def yX3_settle : MethodName := ⟨RX3, "settle", "(I)V"⟩
abbrev cX3_offer : ByteArray := prog_5_method_9_code
def yX3_offer : MethodName := ⟨RX3, "offer", "(IJ)V"⟩
def RX4 : String := "WayTimes$Tree"
def TX4 : u_T := fun k => match k with
  | 0 => ("WayTimes$Tree", "seconds", "[J", true)
  | 1 => ("WayTimes$Tree", "unit", "LWayTimes$Unit;", false)
  | 2 => ("WayTimes$Tree", "start", "I", false)
  | _ => ("WayTimes$Tree", "t", "I", false)
def tyX4 : Nat → FieldType := fun k => match k with
  | 0 => .array .long
  | 1 => .object "WayTimes$Unit"
  | 2 => .int
  | _ => .int
abbrev wsX40 : List Cond := u_ws RX4 TX4 4
theorem nmX4 : ∀ a, a < 4 → ∀ b, b < 4 → a ≠ b → (TX4 a).2.1 ≠ (TX4 b).2.1 := by decide +kernel
theorem tyX4_ok : ∀ k, k < 4 → parseFieldDescriptor (TX4 k).2.2.1 = some (tyX4 k) := by decide +kernel
abbrev cX4_init : ByteArray := prog_6_method_1_code
def yX4_init : MethodName := ⟨RX4, "<init>", "()V"⟩
abbrev cX4_drop : ByteArray := prog_6_method_2_code
def yX4_drop : MethodName := ⟨RX4, "drop", "()V"⟩
abbrev cX4_plant : ByteArray := prog_6_method_3_code
def yX4_plant : MethodName := ⟨RX4, "plant", "(ILWayTimes$Unit;I)V"⟩
abbrev cX4_redo : ByteArray := prog_6_method_4_code
def yX4_redo : MethodName := ⟨RX4, "redo", "(LWayTimes$Search;)Z"⟩
def RX5 : String := "WayTimes$Unit"
def TX5 : u_T := fun k => match k with
  | 0 => ("WayTimes$Unit", "weight", "I", true)
  | 1 => ("WayTimes$Unit", "height", "I", true)
  | 2 => ("WayTimes$Unit", "p", "I", true)
  | 3 => ("WayTimes$Unit", "q", "I", true)
  | _ => ("WayTimes$Unit", "node", "I", false)
def tyX5 : Nat → FieldType := fun k => match k with
  | 0 => .int
  | 1 => .int
  | 2 => .int
  | 3 => .int
  | _ => .int
abbrev wsX50 : List Cond := u_ws RX5 TX5 5
theorem nmX5 : ∀ a, a < 5 → ∀ b, b < 5 → a ≠ b → (TX5 a).2.1 ≠ (TX5 b).2.1 := by decide +kernel
theorem tyX5_ok : ∀ k, k < 5 → parseFieldDescriptor (TX5 k).2.2.1 = some (tyX5 k) := by decide +kernel
abbrev cX5_init : ByteArray := prog_7_method_1_code
def yX5_init : MethodName := ⟨RX5, "<init>", "(IIIII)V"⟩
def RX6 : String := "WayTimes"
def TX6 : u_T := fun k => match k with
  | 0 => ("WayTimes", "net", "LWayTimes$Net;", true)
  | 1 => ("WayTimes", "search", "LWayTimes$Search;", true)
  | 2 => ("WayTimes", "trees", "[LWayTimes$Tree;", true)
  | 3 => ("WayTimes", "wayBack", "[I", true)
  | _ => ("WayTimes", "waySteps", "I", false)
def tyX6 : Nat → FieldType := fun k => match k with
  | 0 => .object "WayTimes$Net"
  | 1 => .object "WayTimes$Search"
  | 2 => .array (.object "WayTimes$Tree")
  | 3 => .array .int
  | _ => .int
abbrev wsX60 : List Cond := u_ws RX6 TX6 5
theorem nmX6 : ∀ a, a < 5 → ∀ b, b < 5 → a ≠ b → (TX6 a).2.1 ≠ (TX6 b).2.1 := by decide +kernel
theorem tyX6_ok : ∀ k, k < 5 → parseFieldDescriptor (TX6 k).2.2.1 = some (tyX6 k) := by decide +kernel
abbrev cX6_init : ByteArray := prog_1_method_1_code
def yX6_init : MethodName := ⟨RX6, "<init>", "()V"⟩
abbrev cX6_net : ByteArray := prog_1_method_2_code
def yX6_net : MethodName := ⟨RX6, "net", "(I)V"⟩
abbrev cX6_piece : ByteArray := prog_1_method_3_code
def yX6_piece : MethodName := ⟨RX6, "piece", "(IIII)I"⟩
abbrev cX6_limit : ByteArray := prog_1_method_4_code
def yX6_limit : MethodName := ⟨RX6, "limit", "(III)I"⟩
abbrev cX6_slow : ByteArray := prog_1_method_5_code
def yX6_slow : MethodName := ⟨RX6, "slow", "(IIII)I"⟩
abbrev cX6_close : ByteArray := prog_1_method_6_code
def yX6_close : MethodName := ⟨RX6, "close", "(IZ)I"⟩
abbrev cX6_speed : ByteArray := prog_1_method_7_code
def yX6_speed : MethodName := ⟨RX6, "speed", "(II)I"⟩
abbrev cX6_unit : ByteArray := prog_1_method_8_code
def yX6_unit : MethodName := ⟨RX6, "unit", "(IIIII)I"⟩
abbrev cX6_stand : ByteArray := prog_1_method_9_code
def yX6_stand : MethodName := ⟨RX6, "stand", "(II)V"⟩
abbrev cX6_seconds : ByteArray := prog_1_method_10_code
def yX6_seconds : MethodName := ⟨RX6, "seconds", "(III)J"⟩
abbrev cX6_way : ByteArray := prog_1_method_11_code
def yX6_way : MethodName := ⟨RX6, "way", "(IIII)J"⟩
abbrev cX6_step : ByteArray := prog_1_method_12_code
def yX6_step : MethodName := ⟨RX6, "step", "(I)I"⟩
abbrev cX6_walk : ByteArray := prog_1_method_13_code
def yX6_walk : MethodName := ⟨RX6, "walk", "(IIIII)J"⟩
abbrev cX6_rest : ByteArray := prog_1_method_14_code
def yX6_rest : MethodName := ⟨RX6, "rest", "(IIIII)J"⟩
abbrev cX6_nearest : ByteArray := prog_1_method_15_code
def yX6_nearest : MethodName := ⟨RX6, "nearest", "(II)I"⟩
abbrev cX6_keep : ByteArray := prog_1_method_16_code
def yX6_keep : MethodName := ⟨RX6, "keep", "(IIII)V"⟩
abbrev cX6_kept : ByteArray := prog_1_method_17_code
def yX6_kept : MethodName := ⟨RX6, "kept", "(II)J"⟩
abbrev cX6_needNode : ByteArray := prog_1_method_18_code
def yX6_needNode : MethodName := ⟨RX6, "needNode", "(I)V"⟩
abbrev cX6_knownPiece : ByteArray := prog_1_method_19_code
def yX6_knownPiece : MethodName := ⟨RX6, "knownPiece", "(I)LWayTimes$Piece;"⟩
abbrev cX6_knownUnit : ByteArray := prog_1_method_20_code
def yX6_knownUnit : MethodName := ⟨RX6, "knownUnit", "(I)LWayTimes$Unit;"⟩
abbrev cX6_needTime : ByteArray := prog_1_method_21_code
def yX6_needTime : MethodName := ⟨RX6, "needTime", "(I)V"⟩
abbrev cX6_needWithin : ByteArray := prog_1_method_22_code
def yX6_needWithin : MethodName := ⟨RX6, "needWithin", "(III)V"⟩
abbrev cX6_sum : ByteArray := prog_1_method_23_code
def yX6_sum : MethodName := ⟨RX6, "sum", "(JJ)J"⟩
abbrev cX6_lesser : ByteArray := prog_1_method_24_code
def yX6_lesser : MethodName := ⟨RX6, "lesser", "(JJ)J"⟩
abbrev cX6_redoTrees : ByteArray := prog_1_method_25_code
def yX6_redoTrees : MethodName := ⟨RX6, "redoTrees", "()I"⟩
abbrev cX6_noteSteps : ByteArray := prog_1_method_26_code
def yX6_noteSteps : MethodName := ⟨RX6, "noteSteps", "(II)V"⟩
def RX7 : String := "WayTimesModel"
def TX7 : u_T := fun k => match k with
  | 0 => ("WayTimesModel", "thrown", "I", false)
  | 1 => ("WayTimesModel", "nodes", "I", false)
  | 2 => ("WayTimesModel", "pieces", "I", false)
  | 3 => ("WayTimesModel", "first", "[I", true)
  | 4 => ("WayTimesModel", "second", "[I", true)
  | 5 => ("WayTimesModel", "metres", "[I", true)
  | 6 => ("WayTimesModel", "speed", "[I", true)
  | 7 => ("WayTimesModel", "weight", "[I", true)
  | 8 => ("WayTimesModel", "height", "[I", true)
  | 9 => ("WayTimesModel", "closed", "[Z", true)
  | 10 => ("WayTimesModel", "rows", "[I", true)
  | 11 => ("WayTimesModel", "from", "[I", true)
  | 12 => ("WayTimesModel", "to", "[I", true)
  | 13 => ("WayTimesModel", "percent", "[I", true)
  | 14 => ("WayTimesModel", "units", "I", false)
  | 15 => ("WayTimesModel", "at", "[I", true)
  | 16 => ("WayTimesModel", "heavy", "[I", true)
  | 17 => ("WayTimesModel", "high", "[I", true)
  | 18 => ("WayTimesModel", "up", "[I", true)
  | 19 => ("WayTimesModel", "down", "[I", true)
  | 20 => ("WayTimesModel", "has", "[Z", true)
  | 21 => ("WayTimesModel", "root", "[I", true)
  | 22 => ("WayTimesModel", "rider", "[I", true)
  | 23 => ("WayTimesModel", "when", "[I", true)
  | 24 => ("WayTimesModel", "tree", "[J", true)
  | 25 => ("WayTimesModel", "least", "[J", true)
  | 26 => ("WayTimesModel", "many", "[J", true)
  | 27 => ("WayTimesModel", "next", "[J", true)
  | 28 => ("WayTimesModel", "steps", "I", false)
  | _ => ("WayTimesModel", "step", "[I", true)
def tyX7 : Nat → FieldType := fun k => match k with
  | 0 => .int
  | 1 => .int
  | 2 => .int
  | 3 => .array .int
  | 4 => .array .int
  | 5 => .array .int
  | 6 => .array .int
  | 7 => .array .int
  | 8 => .array .int
  | 9 => .array .boolean
  | 10 => .array .int
  | 11 => .array .int
  | 12 => .array .int
  | 13 => .array .int
  | 14 => .int
  | 15 => .array .int
  | 16 => .array .int
  | 17 => .array .int
  | 18 => .array .int
  | 19 => .array .int
  | 20 => .array .boolean
  | 21 => .array .int
  | 22 => .array .int
  | 23 => .array .int
  | 24 => .array .long
  | 25 => .array .long
  | 26 => .array .long
  | 27 => .array .long
  | 28 => .int
  | _ => .array .int
abbrev wsX70 : List Cond := u_ws RX7 TX7 30
theorem nmX7 : ∀ a, a < 30 → ∀ b, b < 30 → a ≠ b → (TX7 a).2.1 ≠ (TX7 b).2.1 := by decide +kernel
theorem tyX7_ok : ∀ k, k < 30 → parseFieldDescriptor (TX7 k).2.2.1 = some (tyX7 k) := by decide +kernel
abbrev cX7_init : ByteArray := prog_9_method_1_code
def yX7_init : MethodName := ⟨RX7, "<init>", "()V"⟩
abbrev cX7_net : ByteArray := prog_9_method_2_code
def yX7_net : MethodName := ⟨RX7, "net", "(I)V"⟩
abbrev cX7_thrown : ByteArray := prog_9_method_3_code
def yX7_thrown : MethodName := ⟨RX7, "thrown", "()I"⟩
abbrev cX7_in : ByteArray := prog_9_method_4_code
def yX7_in : MethodName := ⟨RX7, "in", "(III)Z"⟩
abbrev cX7_isNode : ByteArray := prog_9_method_5_code
def yX7_isNode : MethodName := ⟨RX7, "isNode", "(I)Z"⟩
abbrev cX7_isPiece : ByteArray := prog_9_method_6_code
def yX7_isPiece : MethodName := ⟨RX7, "isPiece", "(I)Z"⟩
abbrev cX7_isUnit : ByteArray := prog_9_method_7_code
def yX7_isUnit : MethodName := ⟨RX7, "isUnit", "(I)Z"⟩
abbrev cX7_goes : ByteArray := prog_9_method_8_code
def yX7_goes : MethodName := ⟨RX7, "goes", "(ZZZ)Z"⟩
abbrev cX7_share : ByteArray := prog_9_method_9_code
def yX7_share : MethodName := ⟨RX7, "share", "(II)I"⟩
abbrev cX7_takes : ByteArray := prog_9_method_10_code
def yX7_takes : MethodName := ⟨RX7, "takes", "(IIII)J"⟩
abbrev cX7_mayGo : ByteArray := prog_9_method_11_code
def yX7_mayGo : MethodName := ⟨RX7, "mayGo", "(II)Z"⟩
abbrev cX7_spread : ByteArray := prog_9_method_12_code
def yX7_spread : MethodName := ⟨RX7, "spread", "(III)V"⟩
abbrev cX7_redo : ByteArray := prog_9_method_13_code
def yX7_redo : MethodName := ⟨RX7, "redo", "()I"⟩
abbrev cX7_piece : ByteArray := prog_9_method_14_code
def yX7_piece : MethodName := ⟨RX7, "piece", "(IIII)I"⟩
abbrev cX7_limit : ByteArray := prog_9_method_15_code
def yX7_limit : MethodName := ⟨RX7, "limit", "(III)I"⟩
abbrev cX7_slow : ByteArray := prog_9_method_16_code
def yX7_slow : MethodName := ⟨RX7, "slow", "(IIII)I"⟩
abbrev cX7_close : ByteArray := prog_9_method_17_code
def yX7_close : MethodName := ⟨RX7, "close", "(IZ)I"⟩
abbrev cX7_speed : ByteArray := prog_9_method_18_code
def yX7_speed : MethodName := ⟨RX7, "speed", "(II)I"⟩
abbrev cX7_unit : ByteArray := prog_9_method_19_code
def yX7_unit : MethodName := ⟨RX7, "unit", "(IIIII)I"⟩
abbrev cX7_stand : ByteArray := prog_9_method_20_code
def yX7_stand : MethodName := ⟨RX7, "stand", "(II)V"⟩
abbrev cX7_seconds : ByteArray := prog_9_method_21_code
def yX7_seconds : MethodName := ⟨RX7, "seconds", "(III)J"⟩
abbrev cX7_lastPiece : ByteArray := prog_9_method_22_code
def yX7_lastPiece : MethodName := ⟨RX7, "lastPiece", "(III)I"⟩
abbrev cX7_way : ByteArray := prog_9_method_23_code
def yX7_way : MethodName := ⟨RX7, "way", "(IIII)J"⟩
abbrev cX7_step : ByteArray := prog_9_method_24_code
def yX7_step : MethodName := ⟨RX7, "step", "(I)I"⟩
abbrev cX7_put : ByteArray := prog_9_method_25_code
def yX7_put : MethodName := ⟨RX7, "put", "(IJ)V"⟩
abbrev cX7_again : ByteArray := prog_9_method_26_code
def yX7_again : MethodName := ⟨RX7, "again", "(III)Z"⟩
abbrev cX7_walk : ByteArray := prog_9_method_27_code
def yX7_walk : MethodName := ⟨RX7, "walk", "(IIIII)J"⟩
abbrev cX7_rest : ByteArray := prog_9_method_28_code
def yX7_rest : MethodName := ⟨RX7, "rest", "(IIIII)J"⟩
abbrev cX7_nearest : ByteArray := prog_9_method_29_code
def yX7_nearest : MethodName := ⟨RX7, "nearest", "(II)I"⟩
abbrev cX7_keep : ByteArray := prog_9_method_30_code
def yX7_keep : MethodName := ⟨RX7, "keep", "(IIII)V"⟩
abbrev cX7_kept : ByteArray := prog_9_method_31_code
def yX7_kept : MethodName := ⟨RX7, "kept", "(II)J"⟩
def RJx145de : String := "java/io/Serializable"
def TJx145de : u_T := fun k => match k with
  | _ => ("", "", "", false)
def tyJx145de : Nat → FieldType := fun k => match k with
  | _ => .int
abbrev wsJx145de0 : List Cond := u_ws RJx145de TJx145de 0
theorem nmJx145de : ∀ a, a < 0 → ∀ b, b < 0 → a ≠ b → (TJx145de a).2.1 ≠ (TJx145de b).2.1 := by decide +kernel
theorem tyJx145de_ok : ∀ k, k < 0 → parseFieldDescriptor (TJx145de k).2.2.1 = some (tyJx145de k) := by decide +kernel
def RJx00060 : String := "java/lang/ArrayIndexOutOfBoundsException"
def TJx00060 : u_T := fun k => match k with
  | 0 => ("java/lang/Throwable", "cause", "Ljava/lang/Throwable;", false)
  | 1 => ("java/lang/Throwable", "stackTrace", "[Ljava/lang/StackTraceElement;", false)
  | 2 => ("java/lang/Throwable", "suppressedExceptions", "Ljava/util/List;", false)
  | 3 => ("java/lang/Throwable", "detailMessage", "Ljava/lang/String;", false)
  | 4 => ("java/lang/Throwable", "backtrace", "Ljava/lang/Object;", false)
  | _ => ("java/lang/Throwable", "depth", "I", false)
def tyJx00060 : Nat → FieldType := fun k => match k with
  | 0 => .object "java/lang/Throwable"
  | 1 => .array (.object "java/lang/StackTraceElement")
  | 2 => .object "java/util/List"
  | 3 => .object "java/lang/String"
  | 4 => .object "java/lang/Object"
  | _ => .int
abbrev wsJx000600 : List Cond := u_ws RJx00060 TJx00060 6
theorem nmJx00060 : ∀ a, a < 6 → ∀ b, b < 6 → a ≠ b → (TJx00060 a).2.1 ≠ (TJx00060 b).2.1 := by decide +kernel
theorem tyJx00060_ok : ∀ k, k < 6 → parseFieldDescriptor (TJx00060 k).2.2.1 = some (tyJx00060 k) := by decide +kernel
abbrev cJx00060_init_a7421 : ByteArray := prog_12_method_2_code
def yJx00060_init_a7421 : MethodName := ⟨RJx00060, "<init>", "(Ljava/lang/String;)V"⟩
def RJx8e188 : String := "java/lang/Cloneable"
def TJx8e188 : u_T := fun k => match k with
  | _ => ("", "", "", false)
def tyJx8e188 : Nat → FieldType := fun k => match k with
  | _ => .int
abbrev wsJx8e1880 : List Cond := u_ws RJx8e188 TJx8e188 0
theorem nmJx8e188 : ∀ a, a < 0 → ∀ b, b < 0 → a ≠ b → (TJx8e188 a).2.1 ≠ (TJx8e188 b).2.1 := by decide +kernel
theorem tyJx8e188_ok : ∀ k, k < 0 → parseFieldDescriptor (TJx8e188 k).2.2.1 = some (tyJx8e188 k) := by decide +kernel
def RJxab1ab : String := "java/lang/Iterable"
def TJxab1ab : u_T := fun k => match k with
  | _ => ("", "", "", false)
def tyJxab1ab : Nat → FieldType := fun k => match k with
  | _ => .int
abbrev wsJxab1ab0 : List Cond := u_ws RJxab1ab TJxab1ab 0
theorem nmJxab1ab : ∀ a, a < 0 → ∀ b, b < 0 → a ≠ b → (TJxab1ab a).2.1 ≠ (TJxab1ab b).2.1 := by decide +kernel
theorem tyJxab1ab_ok : ∀ k, k < 0 → parseFieldDescriptor (TJxab1ab k).2.2.1 = some (tyJxab1ab k) := by decide +kernel
def RJ9 : String := "java/lang/Math"
def TJ9 : u_T := fun k => match k with
  | _ => ("", "", "", false)
def tyJ9 : Nat → FieldType := fun k => match k with
  | _ => .int
abbrev wsJ90 : List Cond := u_ws RJ9 TJ9 0
theorem nmJ9 : ∀ a, a < 0 → ∀ b, b < 0 → a ≠ b → (TJ9 a).2.1 ≠ (TJ9 b).2.1 := by decide +kernel
theorem tyJ9_ok : ∀ k, k < 0 → parseFieldDescriptor (TJ9 k).2.2.1 = some (tyJ9 k) := by decide +kernel
abbrev cJ9_max_7cf53 : ByteArray := prog_19_method_65_code
def yJ9_max_7cf53 : MethodName := ⟨RJ9, "max", "(II)I"⟩
abbrev cJ9_min_7cf53 : ByteArray := prog_19_method_69_code
def yJ9_min_7cf53 : MethodName := ⟨RJ9, "min", "(II)I"⟩
abbrev cJ9_min_f86c9 : ByteArray := prog_19_method_70_code
def yJ9_min_f86c9 : MethodName := ⟨RJ9, "min", "(JJ)J"⟩
def RJxde1cd : String := "java/lang/NegativeArraySizeException"
def TJxde1cd : u_T := fun k => match k with
  | 0 => ("java/lang/Throwable", "cause", "Ljava/lang/Throwable;", false)
  | 1 => ("java/lang/Throwable", "stackTrace", "[Ljava/lang/StackTraceElement;", false)
  | 2 => ("java/lang/Throwable", "suppressedExceptions", "Ljava/util/List;", false)
  | 3 => ("java/lang/Throwable", "detailMessage", "Ljava/lang/String;", false)
  | 4 => ("java/lang/Throwable", "backtrace", "Ljava/lang/Object;", false)
  | _ => ("java/lang/Throwable", "depth", "I", false)
def tyJxde1cd : Nat → FieldType := fun k => match k with
  | 0 => .object "java/lang/Throwable"
  | 1 => .array (.object "java/lang/StackTraceElement")
  | 2 => .object "java/util/List"
  | 3 => .object "java/lang/String"
  | 4 => .object "java/lang/Object"
  | _ => .int
abbrev wsJxde1cd0 : List Cond := u_ws RJxde1cd TJxde1cd 6
theorem nmJxde1cd : ∀ a, a < 6 → ∀ b, b < 6 → a ≠ b → (TJxde1cd a).2.1 ≠ (TJxde1cd b).2.1 := by decide +kernel
theorem tyJxde1cd_ok : ∀ k, k < 6 → parseFieldDescriptor (TJxde1cd k).2.2.1 = some (tyJxde1cd k) := by decide +kernel
abbrev cJxde1cd_init_a7421 : ByteArray := prog_20_method_2_code
def yJxde1cd_init_a7421 : MethodName := ⟨RJxde1cd, "<init>", "(Ljava/lang/String;)V"⟩
def RJ0 : String := "java/lang/String"
def TJ0 : u_T := fun k => match k with
  | _ => ("", "", "", false)
def tyJ0 : Nat → FieldType := fun k => match k with
  | _ => .int
abbrev wsJ00 : List Cond := u_ws RJ0 TJ0 0
theorem nmJ0 : ∀ a, a < 0 → ∀ b, b < 0 → a ≠ b → (TJ0 a).2.1 ≠ (TJ0 b).2.1 := by decide +kernel
theorem tyJ0_ok : ∀ k, k < 0 → parseFieldDescriptor (TJ0 k).2.2.1 = some (tyJ0 k) := by decide +kernel
def RJ10 : String := "java/lang/System"
def TJ10 : u_T := fun k => match k with
  | _ => ("", "", "", false)
def tyJ10 : Nat → FieldType := fun k => match k with
  | _ => .int
abbrev wsJ100 : List Cond := u_ws RJ10 TJ10 0
theorem nmJ10 : ∀ a, a < 0 → ∀ b, b < 0 → a ≠ b → (TJ10 a).2.1 ≠ (TJ10 b).2.1 := by decide +kernel
theorem tyJ10_ok : ∀ k, k < 0 → parseFieldDescriptor (TJ10 k).2.2.1 = some (tyJ10 k) := by decide +kernel
def RJxa1e45 : String := "java/util/AbstractCollection"
def TJxa1e45 : u_T := fun k => match k with
  | _ => ("", "", "", false)
def tyJxa1e45 : Nat → FieldType := fun k => match k with
  | _ => .int
abbrev wsJxa1e450 : List Cond := u_ws RJxa1e45 TJxa1e45 0
theorem nmJxa1e45 : ∀ a, a < 0 → ∀ b, b < 0 → a ≠ b → (TJxa1e45 a).2.1 ≠ (TJxa1e45 b).2.1 := by decide +kernel
theorem tyJxa1e45_ok : ∀ k, k < 0 → parseFieldDescriptor (TJxa1e45 k).2.2.1 = some (tyJxa1e45 k) := by decide +kernel
abbrev cJxa1e45_init_da8c8 : ByteArray := prog_26_method_1_code
def yJxa1e45_init_da8c8 : MethodName := ⟨RJxa1e45, "<init>", "()V"⟩
def RJxc12de : String := "java/util/AbstractList"
def TJxc12de : u_T := fun k => match k with
  | _ => ("", "", "", false)
def tyJxc12de : Nat → FieldType := fun k => match k with
  | _ => .int
abbrev wsJxc12de0 : List Cond := u_ws RJxc12de TJxc12de 0
theorem nmJxc12de : ∀ a, a < 0 → ∀ b, b < 0 → a ≠ b → (TJxc12de a).2.1 ≠ (TJxc12de b).2.1 := by decide +kernel
theorem tyJxc12de_ok : ∀ k, k < 0 → parseFieldDescriptor (TJxc12de k).2.2.1 = some (tyJxc12de k) := by decide +kernel
abbrev cJxc12de_init_da8c8 : ByteArray := prog_27_method_1_code
def yJxc12de_init_da8c8 : MethodName := ⟨RJxc12de, "<init>", "()V"⟩
def RJx4a65c : String := "java/util/ArrayList"
def TJx4a65c : u_T := fun k => match k with
  | 0 => ("java/util/AbstractList", "modCount", "I", false)
  | 1 => ("java/util/ArrayList", "elementData", "[Ljava/lang/Object;", false)
  | _ => ("java/util/ArrayList", "size", "I", false)
def tyJx4a65c : Nat → FieldType := fun k => match k with
  | 0 => .int
  | 1 => .array (.object "java/lang/Object")
  | _ => .int
abbrev wsJx4a65c0 : List Cond := u_ws RJx4a65c TJx4a65c 3
theorem nmJx4a65c : ∀ a, a < 3 → ∀ b, b < 3 → a ≠ b → (TJx4a65c a).2.1 ≠ (TJx4a65c b).2.1 := by decide +kernel
theorem tyJx4a65c_ok : ∀ k, k < 3 → parseFieldDescriptor (TJx4a65c k).2.2.1 = some (tyJx4a65c k) := by decide +kernel
abbrev cJx4a65c_init_da8c8 : ByteArray := prog_28_method_2_code
def yJx4a65c_init_da8c8 : MethodName := ⟨RJx4a65c, "<init>", "()V"⟩
abbrev cJx4a65c_grow_92f84 : ByteArray := prog_28_method_6_code
def yJx4a65c_grow_92f84 : MethodName := ⟨RJx4a65c, "grow", "(I)[Ljava/lang/Object;"⟩
abbrev cJx4a65c_grow_d5877 : ByteArray := prog_28_method_7_code
def yJx4a65c_grow_d5877 : MethodName := ⟨RJx4a65c, "grow", "()[Ljava/lang/Object;"⟩
abbrev cJx4a65c_size_8abf5 : ByteArray := prog_28_method_8_code
def yJx4a65c_size_8abf5 : MethodName := ⟨RJx4a65c, "size", "()I"⟩
abbrev cJx4a65c_elementData_915e3 : ByteArray := prog_28_method_18_code
def yJx4a65c_elementData_915e3 : MethodName := ⟨RJx4a65c, "elementData", "(I)Ljava/lang/Object;"⟩
abbrev cJx4a65c_get_915e3 : ByteArray := prog_28_method_20_code
def yJx4a65c_get_915e3 : MethodName := ⟨RJx4a65c, "get", "(I)Ljava/lang/Object;"⟩
abbrev cJx4a65c_add_72be8 : ByteArray := prog_28_method_24_code
def yJx4a65c_add_72be8 : MethodName := ⟨RJx4a65c, "add", "(Ljava/lang/Object;[Ljava/lang/Object;I)V"⟩
abbrev cJx4a65c_add_9ea2d : ByteArray := prog_28_method_25_code
def yJx4a65c_add_9ea2d : MethodName := ⟨RJx4a65c, "add", "(Ljava/lang/Object;)Z"⟩
abbrev cJx4a65c_clear_da8c8 : ByteArray := prog_28_method_40_code
def yJx4a65c_clear_da8c8 : MethodName := ⟨RJx4a65c, "clear", "()V"⟩
def RJ7 : String := "java/util/Arrays"
def TJ7 : u_T := fun k => match k with
  | _ => ("", "", "", false)
def tyJ7 : Nat → FieldType := fun k => match k with
  | _ => .int
abbrev wsJ70 : List Cond := u_ws RJ7 TJ7 0
theorem nmJ7 : ∀ a, a < 0 → ∀ b, b < 0 → a ≠ b → (TJ7 a).2.1 ≠ (TJ7 b).2.1 := by decide +kernel
theorem tyJ7_ok : ∀ k, k < 0 → parseFieldDescriptor (TJ7 k).2.2.1 = some (tyJ7 k) := by decide +kernel
abbrev cJ7_fill_53178 : ByteArray := prog_29_method_103_code
def yJ7_fill_53178 : MethodName := ⟨RJ7, "fill", "([II)V"⟩
abbrev cJ7_copyOf_1904c : ByteArray := prog_29_method_119_code
def yJ7_copyOf_1904c : MethodName := ⟨RJ7, "copyOf", "([Ljava/lang/Object;I)[Ljava/lang/Object;"⟩
abbrev cJ7_copyOf_6403c : ByteArray := prog_29_method_120_code
def yJ7_copyOf_6403c : MethodName := ⟨RJ7, "copyOf", "([Ljava/lang/Object;ILjava/lang/Class;)[Ljava/lang/Object;"⟩
def RJx5ef63 : String := "java/util/Collection"
def TJx5ef63 : u_T := fun k => match k with
  | _ => ("", "", "", false)
def tyJx5ef63 : Nat → FieldType := fun k => match k with
  | _ => .int
abbrev wsJx5ef630 : List Cond := u_ws RJx5ef63 TJx5ef63 0
theorem nmJx5ef63 : ∀ a, a < 0 → ∀ b, b < 0 → a ≠ b → (TJx5ef63 a).2.1 ≠ (TJx5ef63 b).2.1 := by decide +kernel
theorem tyJx5ef63_ok : ∀ k, k < 0 → parseFieldDescriptor (TJx5ef63 k).2.2.1 = some (tyJx5ef63 k) := by decide +kernel
def RJxbd725 : String := "java/util/List"
def TJxbd725 : u_T := fun k => match k with
  | _ => ("", "", "", false)
def tyJxbd725 : Nat → FieldType := fun k => match k with
  | _ => .int
abbrev wsJxbd7250 : List Cond := u_ws RJxbd725 TJxbd725 0
theorem nmJxbd725 : ∀ a, a < 0 → ∀ b, b < 0 → a ≠ b → (TJxbd725 a).2.1 ≠ (TJxbd725 b).2.1 := by decide +kernel
theorem tyJxbd725_ok : ∀ k, k < 0 → parseFieldDescriptor (TJxbd725 k).2.2.1 = some (tyJxbd725 k) := by decide +kernel
def RJ15 : String := "java/util/Objects"
def TJ15 : u_T := fun k => match k with
  | _ => ("", "", "", false)
def tyJ15 : Nat → FieldType := fun k => match k with
  | _ => .int
abbrev wsJ150 : List Cond := u_ws RJ15 TJ15 0
theorem nmJ15 : ∀ a, a < 0 → ∀ b, b < 0 → a ≠ b → (TJ15 a).2.1 ≠ (TJ15 b).2.1 := by decide +kernel
theorem tyJ15_ok : ∀ k, k < 0 → parseFieldDescriptor (TJ15 k).2.2.1 = some (tyJ15 k) := by decide +kernel
abbrev cJ15_checkIndex_7cf53 : ByteArray := prog_32_method_17_code
def yJ15_checkIndex_7cf53 : MethodName := ⟨RJ15, "checkIndex", "(II)I"⟩
def RJxf0a74 : String := "java/util/RandomAccess"
def TJxf0a74 : u_T := fun k => match k with
  | _ => ("", "", "", false)
def tyJxf0a74 : Nat → FieldType := fun k => match k with
  | _ => .int
abbrev wsJxf0a740 : List Cond := u_ws RJxf0a74 TJxf0a74 0
theorem nmJxf0a74 : ∀ a, a < 0 → ∀ b, b < 0 → a ≠ b → (TJxf0a74 a).2.1 ≠ (TJxf0a74 b).2.1 := by decide +kernel
theorem tyJxf0a74_ok : ∀ k, k < 0 → parseFieldDescriptor (TJxf0a74 k).2.2.1 = some (tyJxf0a74 k) := by decide +kernel
def RJxa66e6 : String := "java/util/SequencedCollection"
def TJxa66e6 : u_T := fun k => match k with
  | _ => ("", "", "", false)
def tyJxa66e6 : Nat → FieldType := fun k => match k with
  | _ => .int
abbrev wsJxa66e60 : List Cond := u_ws RJxa66e6 TJxa66e6 0
theorem nmJxa66e6 : ∀ a, a < 0 → ∀ b, b < 0 → a ≠ b → (TJxa66e6 a).2.1 ≠ (TJxa66e6 b).2.1 := by decide +kernel
theorem tyJxa66e6_ok : ∀ k, k < 0 → parseFieldDescriptor (TJxa66e6 k).2.2.1 = some (tyJxa66e6 k) := by decide +kernel
def RJ8 : String := "jdk/internal/util/ArraysSupport"
def TJ8 : u_T := fun k => match k with
  | _ => ("", "", "", false)
def tyJ8 : Nat → FieldType := fun k => match k with
  | _ => .int
abbrev wsJ80 : List Cond := u_ws RJ8 TJ8 0
theorem nmJ8 : ∀ a, a < 0 → ∀ b, b < 0 → a ≠ b → (TJ8 a).2.1 ≠ (TJ8 b).2.1 := by decide +kernel
theorem tyJ8_ok : ∀ k, k < 0 → parseFieldDescriptor (TJ8 k).2.2.1 = some (tyJ8 k) := by decide +kernel
abbrev cJ8_newLength_cabcc : ByteArray := prog_35_method_27_code
def yJ8_newLength_cabcc : MethodName := ⟨RJ8, "newLength", "(III)I"⟩
abbrev cJ8_hugeLength_7cf53 : ByteArray := prog_35_method_28_code
def yJ8_hugeLength_7cf53 : MethodName := ⟨RJ8, "hugeLength", "(II)I"⟩
def RJ3 : String := "jdk/internal/util/Preconditions"
def TJ3 : u_T := fun k => match k with
  | _ => ("", "", "", false)
def tyJ3 : Nat → FieldType := fun k => match k with
  | _ => .int
abbrev wsJ30 : List Cond := u_ws RJ3 TJ3 0
theorem nmJ3 : ∀ a, a < 0 → ∀ b, b < 0 → a ≠ b → (TJ3 a).2.1 ≠ (TJ3 b).2.1 := by decide +kernel
theorem tyJ3_ok : ∀ k, k < 0 → parseFieldDescriptor (TJ3 k).2.2.1 = some (tyJ3 k) := by decide +kernel
abbrev cJ3_checkIndex_8e157 : ByteArray := prog_36_method_11_code
def yJ3_checkIndex_8e157 : MethodName := ⟨RJ3, "checkIndex", "(IILjava/util/function/BiFunction;)I"⟩
def RL : String := "WayTimesLaw"
abbrev cL_net : ByteArray := method_3_code
def yL_net : MethodName := ⟨RL, "net", "(LWayTimes;I)I"⟩
abbrev cL_piece : ByteArray := method_4_code
def yL_piece : MethodName := ⟨RL, "piece", "(LWayTimes;IIII[J)I"⟩
abbrev cL_limit : ByteArray := method_5_code
def yL_limit : MethodName := ⟨RL, "limit", "(LWayTimes;III[J)I"⟩
abbrev cL_slow : ByteArray := method_6_code
def yL_slow : MethodName := ⟨RL, "slow", "(LWayTimes;IIII[J)I"⟩
abbrev cL_close : ByteArray := method_7_code
def yL_close : MethodName := ⟨RL, "close", "(LWayTimes;IZ[J)I"⟩
abbrev cL_speed : ByteArray := method_8_code
def yL_speed : MethodName := ⟨RL, "speed", "(LWayTimes;II[J)I"⟩
abbrev cL_unit : ByteArray := method_9_code
def yL_unit : MethodName := ⟨RL, "unit", "(LWayTimes;IIIII[J)I"⟩
abbrev cL_stand : ByteArray := method_10_code
def yL_stand : MethodName := ⟨RL, "stand", "(LWayTimes;II)I"⟩
abbrev cL_seconds : ByteArray := method_11_code
def yL_seconds : MethodName := ⟨RL, "seconds", "(LWayTimes;III[J)I"⟩
abbrev cL_way : ByteArray := method_12_code
def yL_way : MethodName := ⟨RL, "way", "(LWayTimes;IIII[J)I"⟩
abbrev cL_step : ByteArray := method_13_code
def yL_step : MethodName := ⟨RL, "step", "(LWayTimes;I[J)I"⟩
abbrev cL_walk : ByteArray := method_14_code
def yL_walk : MethodName := ⟨RL, "walk", "(LWayTimes;IIIII[J)I"⟩
abbrev cL_rest : ByteArray := method_15_code
def yL_rest : MethodName := ⟨RL, "rest", "(LWayTimes;IIIII[J)I"⟩
abbrev cL_nearest : ByteArray := method_16_code
def yL_nearest : MethodName := ⟨RL, "nearest", "(LWayTimes;II[J)I"⟩
abbrev cL_keep : ByteArray := method_17_code
def yL_keep : MethodName := ⟨RL, "keep", "(LWayTimes;IIII)I"⟩
abbrev cL_kept : ByteArray := method_18_code
def yL_kept : MethodName := ⟨RL, "kept", "(LWayTimes;II[J)I"⟩
abbrev cL_law : ByteArray := code
def yL_law : MethodName := ⟨RL, "law", "([I)Z"⟩
abbrev vwCl : List vw_C := [(RJx00060, TJx00060, 6), (RJxde1cd, TJxde1cd, 6), (RJx4a65c, TJx4a65c, 3), (RX0, TX0, 5), (RX1, TX1, 4), (RX2, TX2, 11), (RX3, TX3, 7), (RX4, TX4, 4), (RX5, TX5, 5), (RX6, TX6, 5), (RX7, TX7, 30)]
